/-! all partings of both, on both sides -/
def DuC (A : IM) (lw : Lw) (n N0 N1 : Nat) : Prop := A 38 0 = ((rowsL n N0 true).length : Int) ∧ A 38 1 = ((rowsL n N1 true).length : Int) ∧ ListAt (A 40) (rowsL n N0 true) ∧ ListAt (A 41) (rowsL n N1 true) ∧ PtsOK A lw n ∧ A 6 0 = n
theorem QC_wk {I A : IM} {lw : Lw} {n k : Nat} {w : List Nat} (h : QC I lw n A) : QC I lw n (wkM A k w) := QC_up (a := 34) (by decide) (QC_up (a := 33) (by decide) h)

set_option maxRecDepth 20000 in
set_option maxHeartbeats 400000 in
theorem c_X3_open {X : pX} {I J : IM} {h : Nat} (lw : Lw) (hlw : LawI I lw) (n : Nat) (hn : I 6 0 = n ∧ n ≤ 5) (hr : RgT I n) (hc : CchI I lw n) (N0 N1 : Nat) (hN0 : I 10 0 = N0 ∧ N0 ≤ 9) (hN1 : I 10 1 = N1 ∧ N1 ≤ 9) : KIq X (h + 5) mX3_open [.ref 32] I J (fun z A B => ((z = 1 ∧ mayL n N0 N1 ∧ (DuC A lw n N0 N1 ∧ A 79 = I 79) ∧ QC I lw n A) ∨ (z = 0 ∧ ¬ mayL n N0 N1 ∧ A = I)) ∧ J = B) := by
  show Rz X (h + 5) mX3_open 0 [some (.ref 32)] [] I J _
  refine rz_aload_n dX3_open_0 rfl ?_
  refine rz_cVIq dX3_open_1 kl_RX3_58 hd_32 ⟨_, _, rfl⟩ (c_X3_mayList n hn N0 N1 hN0 hN1) rfl rfl (Nat.le_of_ble_eq_true rfl) (Nat.le_of_ble_eq_true rfl) ?_
  rintro z1 A1 B1 ⟨⟨rfl, b1⟩ | ⟨rfl, b1⟩, rfl, rfl⟩
  · refine rz_if_ne (t := 9) dX3_open_4 rfl (by omega) (fun _ => ?_) (fun q => absurd q (by decide))
    refine rz_aload_n dX3_open_9 rfl ?_
    refine rz_getR dX3_open_10 kf_RX3_7 hd_32 rfl rr_32_4 ?_
    refine rz_cVVq dX3_open_13 kl_RX3_62 hd_6 ⟨_, _, rfl⟩ (c_X8_settle lw hlw n hn hr hc) rfl rfl (Nat.le_of_ble_eq_true rfl) (Nat.le_of_ble_eq_true rfl) ?_
    rintro B _ ⟨hB, rfl⟩
    obtain ⟨hf1, hf2⟩ := SetQ_fr hB
    have hnB : B 6 0 = n ∧ n ≤ 5 := ⟨by rw [hf1 6 (by decide) (by decide) (by decide) (by decide)]; exact hn.1, hn.2⟩
    have e10 := hf1 10 (by decide) (by decide) (by decide) (by decide)
    refine rz_aload_n dX3_open_16 rfl ?_
    refine rz_iconst dX3_open_17 ?_
    refine rz_cVVq dX3_open_18 kl_RX3_65 hd_32 ⟨_, _, rfl⟩ (c_X3_writeList0 (I := B) n hnB N0 ⟨by rw [e10]; exact hN0.1, hN0.2⟩ b1.1.1 b1.1.2) rfl rfl (Nat.le_of_ble_eq_true rfl) (Nat.le_of_ble_eq_true rfl) ?_
    rintro _ _ ⟨⟨w0, G0, rfl, hG0⟩, rfl⟩
    refine rz_aload_n dX3_open_21 rfl ?_
    refine rz_iconst dX3_open_22 ?_
    refine rz_cVVq dX3_open_23 kl_RX3_65 hd_32 ⟨_, _, rfl⟩ (c_X3_writeList1 (I := (wkM (upA (upA B 38 (up1 (B 38) 0 ((rowsL n N0 true).length : Int))) 40 G0) n w0)) n hnB N1 ⟨by show B 10 1 = _; rw [e10]; exact hN1.1, hN1.2⟩ b1.2.1 b1.2.2) rfl rfl (Nat.le_of_ble_eq_true rfl) (Nat.le_of_ble_eq_true rfl) ?_
    rintro _ _ ⟨⟨w1, G1, rfl, hG1⟩, rfl⟩
    refine rz_iconst dX3_open_26 ?_
    refine rz_zret dX3_open_27 rfl (by decide) ?_
    exact ⟨_, rfl, Or.inl ⟨rfl, b1, ⟨⟨rfl, rfl, hG0, hG1, (fun v hv a b ha hb => SetQ_pts hB v hv a b ha hb), hnB.1⟩, hf1 79 (by decide) (by decide) (by decide) (by decide)⟩, QC_wk (QC_up (by decide) (QC_up (by decide) (QC_wk (QC_up (by decide) (QC_up (by decide) (QC_set hc hB))))))⟩, rfl⟩
  · refine rz_if_ne (t := 9) dX3_open_4 rfl (by omega) (fun q => absurd q (by decide)) (fun _ => ?_)
    refine rz_iconst dX3_open_7 ?_
    refine rz_zret dX3_open_8 rfl (by decide) ?_
    exact ⟨_, rfl, Or.inr ⟨rfl, b1, rfl⟩, rfl⟩
set_option maxRecDepth 20000 in
set_option maxHeartbeats 400000 in
theorem c_usesUp0 {X : pX} {I J : IM} {h : Nat} (n : Nat) (hn : I 81 1 = n ∧ n ≤ 5) (N : Nat) (hN : I 85 0 = N ∧ N ≤ 9) : KIq X (h + 7) mX12_usesUp [.ref 81, zi 0] I J (fun z A B => z = ((rowsL n N true).length : Int) ∧ (∃ R W, A = layM I (rowsL n N true).length R W ∧ RowsAt R n (rowsL n N true) ∧ ∀ j, R j = I 104 j ∨ (0 ≤ R j ∧ R j ≤ 9)) ∧ J = B) := by
  show Rz X (h + 7) mX12_usesUp 0 [some (.ref 81), some (zi 0)] [] I J _
  refine rz_aload_n dX12_usesUp_0 rfl ?_
  refine rz_aload_n dX12_usesUp_1 rfl ?_
  refine rz_getR dX12_usesUp_2 kf_RX12_19 hd_81 rfl rr_81_5 ?_
  refine rz_iload_n dX12_usesUp_5 rfl ?_
  refine rz_iald (z := (N : Int)) dX12_usesUp_6 hd_85 (by decide) (by omega) hN.1 ?_
  refine rz_iconst dX12_usesUp_7 ?_
  refine rz_cVVq dX12_usesUp_8 kl_RX12_270 hd_81 ⟨_, _, rfl⟩ ((show KVq X _ mX12_findRows [.ref 81, zi (N : Int), zi 1] I J _ from c_X12_findRows (I := I) n hn N true hN.2 (rows_cnt n hn.2 N hN.2).2)) rfl rfl (Nat.le_of_ble_eq_true rfl) (Nat.le_of_ble_eq_true rfl) ?_
  rintro _ _ ⟨⟨R, W, rfl, hR, hRb⟩, rfl⟩
  refine rz_aload_n dX12_usesUp_11 rfl ?_
  refine rz_getI (z := ((rowsL n N true).length : Int)) dX12_usesUp_12 kf_RX12_263 hd_81 rfl (rfl) ?_
  refine rz_iret dX12_usesUp_15 rfl ?_
  exact ⟨_, rfl, rfl, ⟨R, W, rfl, hR, hRb⟩, rfl⟩
set_option maxRecDepth 20000 in
set_option maxHeartbeats 400000 in
theorem c_usesUp1 {X : pX} {I J : IM} {h : Nat} (n : Nat) (hn : I 81 1 = n ∧ n ≤ 5) (N : Nat) (hN : I 85 1 = N ∧ N ≤ 9) : KIq X (h + 7) mX12_usesUp [.ref 81, zi 1] I J (fun z A B => z = ((rowsL n N true).length : Int) ∧ (∃ R W, A = layM I (rowsL n N true).length R W ∧ RowsAt R n (rowsL n N true) ∧ ∀ j, R j = I 104 j ∨ (0 ≤ R j ∧ R j ≤ 9)) ∧ J = B) := by
  show Rz X (h + 7) mX12_usesUp 0 [some (.ref 81), some (zi 1)] [] I J _
  refine rz_aload_n dX12_usesUp_0 rfl ?_
  refine rz_aload_n dX12_usesUp_1 rfl ?_
  refine rz_getR dX12_usesUp_2 kf_RX12_19 hd_81 rfl rr_81_5 ?_
  refine rz_iload_n dX12_usesUp_5 rfl ?_
  refine rz_iald (z := (N : Int)) dX12_usesUp_6 hd_85 (by decide) (by omega) hN.1 ?_
  refine rz_iconst dX12_usesUp_7 ?_
  refine rz_cVVq dX12_usesUp_8 kl_RX12_270 hd_81 ⟨_, _, rfl⟩ ((show KVq X _ mX12_findRows [.ref 81, zi (N : Int), zi 1] I J _ from c_X12_findRows (I := I) n hn N true hN.2 (rows_cnt n hn.2 N hN.2).2)) rfl rfl (Nat.le_of_ble_eq_true rfl) (Nat.le_of_ble_eq_true rfl) ?_
  rintro _ _ ⟨⟨R, W, rfl, hR, hRb⟩, rfl⟩
  refine rz_aload_n dX12_usesUp_11 rfl ?_
  refine rz_getI (z := ((rowsL n N true).length : Int)) dX12_usesUp_12 kf_RX12_263 hd_81 rfl (rfl) ?_
  refine rz_iret dX12_usesUp_15 rfl ?_
  exact ⟨_, rfl, rfl, ⟨R, W, rfl, hR, hRb⟩, rfl⟩
def DuR (A : IM) (lw : Lw) (n N0 N1 : Nat) : Prop := A 81 40 = ((rowsL n N0 true).length : Int) ∧ A 81 41 = ((rowsL n N1 true).length : Int) ∧ RowsAt (A 107) n (rowsL n N0 true) ∧ RowsAt (A 108) n (rowsL n N1 true) ∧ HasR A lw n ∧ A 81 1 = n
theorem RowsAt_c {I : IM} {a n : Nat} {R : Nat → Int} {L : List (List Nat)} (hn : n ≤ 5) (h : RowsAt R n L) : RowsAt (copF I a 0 (5 * L.length) R a) n L := by
  intro j r hr i hi
  have hj := (List.getElem?_eq_some_iff.mp hr).1
  unfold copF
  rw [upA_self, if_pos (by omega), Nat.sub_zero]
  exact h j r hr i hi
set_option maxRecDepth 20000 in
set_option maxHeartbeats 400000 in
theorem c_X12_findBoth {X : pX} {I J : IM} {h : Nat} (lw : Lw) (hlw : LawI I lw) (n : Nat) (hn : I 81 1 = n ∧ n ≤ 5) (hr : RgTR I n) (N0 N1 : Nat) (hN0 : I 85 0 = N0 ∧ N0 ≤ 9) (hN1 : I 85 1 = N1 ∧ N1 ≤ 9) (hbk : BOK I) : KIq X (h + 8) mX12_findBoth [.ref 81] I J (fun z A Bj => ((z = 1 ∧ mayL n N0 N1 ∧ (DuR A lw n N0 N1 ∧ A 109 = I 109) ∧ FrR I A) ∨ (z = 0 ∧ ¬ mayL n N0 N1 ∧ FrR I A)) ∧ J = Bj) := by
  show Rz X (h + 8) mX12_findBoth 0 [some (.ref 81), none] [] I J _
  refine rz_aload_n dX12_findBoth_0 rfl ?_
  refine rz_cVVq dX12_findBoth_1 kl_RX12_257 hd_81 ⟨_, _, rfl⟩ (c_X12_findHas lw hlw n hn hr) rfl rfl (Nat.le_of_ble_eq_true rfl) (Nat.le_of_ble_eq_true rfl) ?_
  rintro B _ ⟨hB, rfl⟩
  have hf := FhQ_fr hB
  have hH := FhQ_has hB
  have hnB : B 81 1 = n ∧ n ≤ 5 := ⟨by rw [hf 81 (by decide) (by decide) (by decide)]; exact hn.1, hn.2⟩
  have e85 := hf 85 (by decide) (by decide) (by decide)
  have hM0 : B 85 0 = N0 ∧ N0 ≤ 9 := ⟨by rw [e85]; exact hN0.1, hN0.2⟩
  have hM1 : B 85 1 = N1 ∧ N1 ≤ 9 := ⟨by rw [e85]; exact hN1.1, hN1.2⟩
  have hrc0 := (rows_cnt n hn.2 N0 hN0.2).2
  have hrc1 := (rows_cnt n hn.2 N1 hN1.2).2
  have hFB := FrR_fh hB
  refine rz_aload_n dX12_findBoth_4 rfl ?_
  refine rz_iconst dX12_findBoth_5 ?_
  refine rz_cVIq dX12_findBoth_6 kl_RX12_278 hd_81 ⟨_, _, rfl⟩ (c_usesUp1 (I := B) n hnB N1 hM1) rfl rfl (Nat.le_of_ble_eq_true rfl) (Nat.le_of_ble_eq_true rfl) ?_
  rintro _ _ _ ⟨rfl, ⟨R1, W1, rfl, hR1, hR1b⟩, rfl⟩
  have hF1 := FrR.trans hFB (FrR_lay (k := (rowsL n N1 true).length) (W := W1) hR1b)
  refine rz_iconst dX12_findBoth_9 ?_
  refine rz_sipush dX12_findBoth_10 (by decide) ?_
  refine rz_cSIq dX12_findBoth_13 kl_RX12_140 (c_X12_in X _ (layM B (rowsL n N1 true).length R1 W1) J ((rowsL n N1 true).length : Int) 1 300 (by omega) (by omega) (by omega)) rfl rfl (Nat.le_of_ble_eq_true rfl) (Nat.le_of_ble_eq_true rfl) ?_
  rintro z13 A13 B13 ⟨⟨rfl, b13⟩ | ⟨rfl, b13⟩, rfl, rfl⟩
  · refine rz_if_eq (t := 34) dX12_findBoth_16 rfl (by omega) (fun q => absurd q (by decide)) (fun _ => ?_)
    refine rz_aload_n dX12_findBoth_19 rfl ?_
    refine rz_iconst dX12_findBoth_20 ?_
    refine rz_cVIq dX12_findBoth_21 kl_RX12_278 hd_81 ⟨_, _, rfl⟩ (c_usesUp0 (I := (layM B (rowsL n N1 true).length R1 W1)) n hnB N0 hM0) rfl rfl (Nat.le_of_ble_eq_true rfl) (Nat.le_of_ble_eq_true rfl) ?_
    rintro _ _ _ ⟨rfl, ⟨R0, W0, rfl, hR0, hR0b⟩, rfl⟩
    have hF2 := FrR.trans hF1 (FrR_lay (k := (rowsL n N0 true).length) (W := W0) hR0b)
    have hb2 := hF2.2.2 hbk
    refine rz_iconst dX12_findBoth_24 ?_
    refine rz_sipush dX12_findBoth_25 (by decide) ?_
    refine rz_cSIq dX12_findBoth_28 kl_RX12_140 (c_X12_in X _ (layM (layM B (rowsL n N1 true).length R1 W1) (rowsL n N0 true).length R0 W0) J ((rowsL n N0 true).length : Int) 1 300 (by omega) (by omega) (by omega)) rfl rfl (Nat.le_of_ble_eq_true rfl) (Nat.le_of_ble_eq_true rfl) ?_
    rintro z28 A28 B28 ⟨⟨rfl, b28⟩ | ⟨rfl, b28⟩, rfl, rfl⟩
    · refine rz_if_ne (t := 36) dX12_findBoth_31 rfl (by omega) (fun _ => ?_) (fun q => absurd q (by decide))
      refine rz_aload_n dX12_findBoth_36 rfl ?_
      refine rz_aload_n dX12_findBoth_37 rfl ?_
      refine rz_getI (z := ((rowsL n N0 true).length : Int)) dX12_findBoth_38 kf_RX12_263 hd_81 rfl (rfl) ?_
      refine rz_putI dX12_findBoth_41 kp_RX12_329 hd_81 rfl ?_
      refine rz_mem (I' := (upA (layM (layM B (rowsL n N1 true).length R1 W1) (rowsL n N0 true).length R0 W0) 81 (up1 ((layM (layM B (rowsL n N1 true).length R1 W1) (rowsL n N0 true).length R0 W0) 81) 40 ((rowsL n N0 true).length : Int)))) (J' := J) (rfl) (rfl) ?_
      have hF3 : FrR I (upA (layM (layM B (rowsL n N1 true).length R1 W1) (rowsL n N0 true).length R0 W0) 81 (up1 ((layM (layM B (rowsL n N1 true).length R1 W1) (rowsL n N0 true).length R0 W0) 81) 40 ((rowsL n N0 true).length : Int))) := FrR.trans hF2 (FrR_k (by decide))
      refine rz_iconst dX12_findBoth_44 ?_
      refine rz_istore_n dX12_findBoth_45 (by decide) rfl ?_
      refine rz_up (ls := fun k : Nat => [some (.ref 81), some (zi (k : Int))]) (IV := fun k : Nat => (copF (upA (layM (layM B (rowsL n N1 true).length R1 W1) (rowsL n N0 true).length R0 W0) 81 (up1 ((layM (layM B (rowsL n N1 true).length R1 W1) (rowsL n N0 true).length R0 W0) 81) 40 ((rowsL n N0 true).length : Int))) 107 0 k R0)) (JV := fun k : Nat => J) ((5 * (rowsL n N0 true).length)) ⟨Or.inr rfl, Or.inr rfl, trivial⟩ (copF_0) (rfl) ?_ ?_
      · intro k hk ihk
        have hbk2 := hb2 k
        refine rz_iload_n dX12_findBoth_46 rfl ?_
        refine rz_iconst dX12_findBoth_47 ?_
        refine rz_aload_n dX12_findBoth_48 rfl ?_
        refine rz_getI (z := ((rowsL n N0 true).length : Int)) dX12_findBoth_49 kf_RX12_263 hd_81 rfl (rfl) ?_
        refine rz_imul dX12_findBoth_52 ?_
        refine rz_icmp_ge (t := 74) dX12_findBoth_53 rfl (by omega) (by omega) (fun c53 => ?_) (fun c53 => ?_)
        · exfalso; omega
        · refine rz_aload_n dX12_findBoth_56 rfl ?_
          refine rz_getR dX12_findBoth_57 kf_RX12_87 hd_81 rfl rr_81_38 ?_
          refine rz_iload_n dX12_findBoth_60 rfl ?_
          refine rz_aload_n dX12_findBoth_61 rfl ?_
          refine rz_getR dX12_findBoth_62 kf_RX12_78 hd_81 rfl rr_81_32 ?_
          refine rz_iload_n dX12_findBoth_65 rfl ?_
          refine rz_baldN (k := k) (z := (R0 k)) dX12_findBoth_66 hd_104 (by decide) (by omega) (by omega) rfl ?_
          refine rz_bastN (k := k) dX12_findBoth_67 hd_107 (by decide) (by omega) (by omega) hbk2 ?_
          refine rz_iinc dX12_findBoth_68 (by decide) rfl rfl rfl ?_
          refine rz_goto (t := 46) dX12_findBoth_71 rfl ?_
          exact rz_bk ihk ⟨Or.inr rfl, Or.inr rfl, trivial⟩ ((by rw [copF_step rfl, Nat.zero_add])) (rfl)
      · skip
        refine rz_iload_n dX12_findBoth_46 rfl ?_
        refine rz_iconst dX12_findBoth_47 ?_
        refine rz_aload_n dX12_findBoth_48 rfl ?_
        refine rz_getI (z := ((rowsL n N0 true).length : Int)) dX12_findBoth_49 kf_RX12_263 hd_81 rfl (rfl) ?_
        refine rz_imul dX12_findBoth_52 ?_
        refine rz_icmp_ge (t := 74) dX12_findBoth_53 rfl (by omega) (by omega) (fun c53 => ?_) (fun c53 => ?_)
        · have hF4 : FrR I (copF (upA (layM (layM B (rowsL n N1 true).length R1 W1) (rowsL n N0 true).length R0 W0) 81 (up1 ((layM (layM B (rowsL n N1 true).length R1 W1) (rowsL n N0 true).length R0 W0) 81) 40 ((rowsL n N0 true).length : Int))) 107 0 (5 * (rowsL n N0 true).length) R0) := FrR.trans hF3 (FrR_up (a := 107) (by decide) (by decide))
          refine rz_aload_n dX12_findBoth_74 rfl ?_
          refine rz_aload_n dX12_findBoth_75 rfl ?_
          refine rz_iconst dX12_findBoth_76 ?_
          refine rz_cVIq dX12_findBoth_77 kl_RX12_278 hd_81 ⟨_, _, rfl⟩ (c_usesUp1 (I := (copF (upA (layM (layM B (rowsL n N1 true).length R1 W1) (rowsL n N0 true).length R0 W0) 81 (up1 ((layM (layM B (rowsL n N1 true).length R1 W1) (rowsL n N0 true).length R0 W0) 81) 40 ((rowsL n N0 true).length : Int))) 107 0 (5 * (rowsL n N0 true).length) R0)) n hnB N1 hM1) rfl rfl (Nat.le_of_ble_eq_true rfl) (Nat.le_of_ble_eq_true rfl) ?_
          rintro _ _ _ ⟨rfl, ⟨R2, W2, rfl, hR2, hR2b⟩, rfl⟩
          have hF5 := FrR.trans hF4 (FrR_lay (k := (rowsL n N1 true).length) (W := W2) hR2b)
          have hb5 := hF5.2.2 hbk
          refine rz_putI dX12_findBoth_80 kp_RX12_332 hd_81 rfl ?_
          refine rz_mem (I' := (upA (layM (copF (upA (layM (layM B (rowsL n N1 true).length R1 W1) (rowsL n N0 true).length R0 W0) 81 (up1 ((layM (layM B (rowsL n N1 true).length R1 W1) (rowsL n N0 true).length R0 W0) 81) 40 ((rowsL n N0 true).length : Int))) 107 0 (5 * (rowsL n N0 true).length) R0) (rowsL n N1 true).length R2 W2) 81 (up1 ((layM (copF (upA (layM (layM B (rowsL n N1 true).length R1 W1) (rowsL n N0 true).length R0 W0) 81 (up1 ((layM (layM B (rowsL n N1 true).length R1 W1) (rowsL n N0 true).length R0 W0) 81) 40 ((rowsL n N0 true).length : Int))) 107 0 (5 * (rowsL n N0 true).length) R0) (rowsL n N1 true).length R2 W2) 81) 41 ((rowsL n N1 true).length : Int)))) (J' := J) (rfl) (rfl) ?_
          have hF6 : FrR I (upA (layM (copF (upA (layM (layM B (rowsL n N1 true).length R1 W1) (rowsL n N0 true).length R0 W0) 81 (up1 ((layM (layM B (rowsL n N1 true).length R1 W1) (rowsL n N0 true).length R0 W0) 81) 40 ((rowsL n N0 true).length : Int))) 107 0 (5 * (rowsL n N0 true).length) R0) (rowsL n N1 true).length R2 W2) 81 (up1 ((layM (copF (upA (layM (layM B (rowsL n N1 true).length R1 W1) (rowsL n N0 true).length R0 W0) 81 (up1 ((layM (layM B (rowsL n N1 true).length R1 W1) (rowsL n N0 true).length R0 W0) 81) 40 ((rowsL n N0 true).length : Int))) 107 0 (5 * (rowsL n N0 true).length) R0) (rowsL n N1 true).length R2 W2) 81) 41 ((rowsL n N1 true).length : Int))) := FrR.trans hF5 (FrR_k (by decide))
          refine rz_iconst dX12_findBoth_83 ?_
          refine rz_istore_n dX12_findBoth_84 (by decide) rfl ?_
          refine rz_up (ls := fun k : Nat => [some (.ref 81), some (zi (k : Int))]) (IV := fun k : Nat => (copF (upA (layM (copF (upA (layM (layM B (rowsL n N1 true).length R1 W1) (rowsL n N0 true).length R0 W0) 81 (up1 ((layM (layM B (rowsL n N1 true).length R1 W1) (rowsL n N0 true).length R0 W0) 81) 40 ((rowsL n N0 true).length : Int))) 107 0 (5 * (rowsL n N0 true).length) R0) (rowsL n N1 true).length R2 W2) 81 (up1 ((layM (copF (upA (layM (layM B (rowsL n N1 true).length R1 W1) (rowsL n N0 true).length R0 W0) 81 (up1 ((layM (layM B (rowsL n N1 true).length R1 W1) (rowsL n N0 true).length R0 W0) 81) 40 ((rowsL n N0 true).length : Int))) 107 0 (5 * (rowsL n N0 true).length) R0) (rowsL n N1 true).length R2 W2) 81) 41 ((rowsL n N1 true).length : Int))) 108 0 k R2)) (JV := fun k : Nat => J) ((5 * (rowsL n N1 true).length)) ⟨Or.inr rfl, Or.inr rfl, trivial⟩ (copF_0) (rfl) ?_ ?_
          · intro k hk ihk
            have hbk2 := hb5 k
            refine rz_iload_n dX12_findBoth_85 rfl ?_
            refine rz_iconst dX12_findBoth_86 ?_
            refine rz_aload_n dX12_findBoth_87 rfl ?_
            refine rz_getI (z := ((rowsL n N1 true).length : Int)) dX12_findBoth_88 kf_RX12_263 hd_81 rfl (rfl) ?_
            refine rz_imul dX12_findBoth_91 ?_
            refine rz_icmp_ge (t := 113) dX12_findBoth_92 rfl (by omega) (by omega) (fun c92 => ?_) (fun c92 => ?_)
            · exfalso; omega
            · refine rz_aload_n dX12_findBoth_95 rfl ?_
              refine rz_getR dX12_findBoth_96 kf_RX12_90 hd_81 rfl rr_81_39 ?_
              refine rz_iload_n dX12_findBoth_99 rfl ?_
              refine rz_aload_n dX12_findBoth_100 rfl ?_
              refine rz_getR dX12_findBoth_101 kf_RX12_78 hd_81 rfl rr_81_32 ?_
              refine rz_iload_n dX12_findBoth_104 rfl ?_
              refine rz_baldN (k := k) (z := (R2 k)) dX12_findBoth_105 hd_104 (by decide) (by omega) (by omega) rfl ?_
              refine rz_bastN (k := k) dX12_findBoth_106 hd_108 (by decide) (by omega) (by omega) hbk2 ?_
              refine rz_iinc dX12_findBoth_107 (by decide) rfl rfl rfl ?_
              refine rz_goto (t := 85) dX12_findBoth_110 rfl ?_
              exact rz_bk ihk ⟨Or.inr rfl, Or.inr rfl, trivial⟩ ((by rw [copF_step rfl, Nat.zero_add])) (rfl)
          · skip
            refine rz_iload_n dX12_findBoth_85 rfl ?_
            refine rz_iconst dX12_findBoth_86 ?_
            refine rz_aload_n dX12_findBoth_87 rfl ?_
            refine rz_getI (z := ((rowsL n N1 true).length : Int)) dX12_findBoth_88 kf_RX12_263 hd_81 rfl (rfl) ?_
            refine rz_imul dX12_findBoth_91 ?_
            refine rz_icmp_ge (t := 113) dX12_findBoth_92 rfl (by omega) (by omega) (fun c92 => ?_) (fun c92 => ?_)
            · refine rz_iconst dX12_findBoth_113 ?_
              refine rz_zret dX12_findBoth_114 rfl (by decide) ?_
              exact ⟨_, rfl, Or.inl ⟨rfl, ⟨by omega, by omega⟩, ⟨⟨rfl, rfl, (fun j r hj i hi => RowsAt_c (I := (upA (layM (layM B (rowsL n N1 true).length R1 W1) (rowsL n N0 true).length R0 W0) 81 (up1 ((layM (layM B (rowsL n N1 true).length R1 W1) (rowsL n N0 true).length R0 W0) 81) 40 ((rowsL n N0 true).length : Int)))) (a := 107) hn.2 hR0 j r hj i hi), RowsAt_c hn.2 hR2, hH, hnB.1⟩, hf 109 (by decide) (by decide) (by decide)⟩, FrR.trans hF6 (FrR_up (a := 108) (by decide) (by decide))⟩, rfl⟩
            · exfalso; omega
        · exfalso; omega
    · refine rz_if_ne (t := 36) dX12_findBoth_31 rfl (by omega) (fun q => absurd q (by decide)) (fun _ => ?_)
      refine rz_iconst dX12_findBoth_34 ?_
      refine rz_zret dX12_findBoth_35 rfl (by decide) ?_
      exact ⟨_, rfl, Or.inr ⟨rfl, (fun q => by obtain ⟨q1, q2⟩ := q; omega), hF2⟩, rfl⟩
  · refine rz_if_eq (t := 34) dX12_findBoth_16 rfl (by omega) (fun _ => ?_) (fun q => absurd q (by decide))
    refine rz_iconst dX12_findBoth_34 ?_
    refine rz_zret dX12_findBoth_35 rfl (by decide) ?_
    exact ⟨_, rfl, Or.inr ⟨rfl, (fun q => by obtain ⟨q1, q2⟩ := q; omega), hF1⟩, rfl⟩
