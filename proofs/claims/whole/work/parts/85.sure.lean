/-! sure, both sides -/
def surZ (lw : Lw) (W T U Q : Nat → Int) (n : Nat) (p : Int) : Int := if okP n p (Q 0) then dpS (posV lw W T U) (fun v => (dgt n p v).toNat) n 0 (Q 1).toNat else -1
theorem dgt_nat {n v : Nat} {p : Int} : dgt n p v = (((dgt n p v).toNat : Nat) : Int) ∧ (dgt n p v).toNat ≤ 9 := by
  have := dgt_bd n p v
  omega
theorem CqI_79 {I : IM} {lw : Lw} {n : Nat} {m0 m1 : Mx} {g : Nat → Int} (hq : CqI I lw n m0 m1) : CqI (upA I 79 g) lw n m0 m1 := by
  obtain ⟨h1, h2, h3, h4, h5, h6, h7⟩ := hq
  exact ⟨LawI_congr rfl rfl rfl rfl rfl rfl rfl rfl h1, h2, h3, CchI_of rfl rfl rfl rfl rfl h4, h5, h6, h7⟩
set_option maxRecDepth 20000 in
set_option maxHeartbeats 400000 in
theorem c_X11_sure {X : pX} {I J : IM} {h : Nat} {lw : Lw} {n : Nat} {m0 m1 : Mx} (hq : CqI I lw n m0 m1) (hW : ∀ v, v < n → 1 ≤ I 7 v ∧ I 7 v ≤ 9) (p : Int) (hp : rg p) : KIq X (h + 6) mX11_sure [.ref 0, zi p] I J (fun z A B => z = surZ lw (I 7) (I 8) (I 9) (I 10) n p ∧ QC I lw n A ∧ J = B) := by
  have hq0 := hq
  obtain ⟨h1, h2, h3, h4, h5, h6, h7⟩ := hq0
  have h80 := h7 0 (by decide)
  have h81 := h7 1 (by decide)
  show Rz X (h + 6) mX11_sure 0 [some (.ref 0), some (zi p)] [] I J _
  refine rz_aload_n dX11_sure_0 rfl ?_
  refine rz_getR dX11_sure_1 kf_RX11_21 hd_0 rfl rr_0_1 ?_
  refine rz_iload_n dX11_sure_4 rfl ?_
  refine rz_iconst dX11_sure_5 ?_
  refine rz_aload_n dX11_sure_6 rfl ?_
  refine rz_getR dX11_sure_7 kf_RX11_81 hd_0 rfl rr_0_11 ?_
  refine rz_cVIq dX11_sure_10 kl_RX11_145 hd_6 ⟨_, _, rfl⟩ (c_X8_read79 X _ I J n h2 p 0 hp (by omega) h80) rfl rfl (Nat.le_of_ble_eq_true rfl) (Nat.le_of_ble_eq_true rfl) ?_
  rintro z10 _ _ ⟨g10, rfl, rfl, ⟨rfl, b10, k10⟩ | ⟨rfl, b10⟩⟩
  · refine rz_if_ne (t := 18) dX11_sure_13 rfl (by omega) (fun _ => ?_) (fun q => absurd q (by decide))
    refine rz_aload_n dX11_sure_18 rfl ?_
    refine rz_getR dX11_sure_19 kf_RX11_49 hd_0 rfl rr_0_6 ?_
    refine rz_cVVq dX11_sure_22 kl_RX11_263 hd_32 ⟨_, _, rfl⟩ (c_X3_costs (lw := lw) (n := n) (m0 := m0) (m1 := m1) (CqI_79 (g := g10) hq) hW) rfl rfl (Nat.le_of_ble_eq_true rfl) (Nat.le_of_ble_eq_true rfl) ?_
    rintro A22 _ ⟨⟨qc22, co22, n22, e79⟩, rfl⟩
    have e7 : A22 7 = I 7 := qc22.1.1 7 (by decide)
    have e8 : A22 8 = I 8 := qc22.1.1 8 (by decide)
    have e9 : A22 9 = I 9 := qc22.1.1 9 (by decide)
    have e10 : A22 10 = I 10 := qc22.1.1 10 (by decide)
    refine rz_aload_n dX11_sure_25 rfl ?_
    refine rz_getR dX11_sure_26 kf_RX11_49 hd_0 rfl rr_0_6 ?_
    refine rz_aload_n dX11_sure_29 rfl ?_
    refine rz_getR dX11_sure_30 kf_RX11_81 hd_0 rfl rr_0_11 ?_
    refine rz_cVI dX11_sure_33 kl_RX11_266 hd_32 ⟨_, _, rfl⟩ (c_X3_surely (I := A22) lw n ⟨n22, h2.2⟩ 79 5 (I 10 1).toNat (fun v => (dgt n p v).toNat) rfl ⟨by omega, by omega⟩ (fun v hv => ⟨by rw [e79]; exact (k10 v (by omega)).trans dgt_nat.1, dgt_nat.2⟩) ⟨by rw [e10]; omega, by omega⟩ co22) rfl rfl (Nat.le_of_ble_eq_true rfl) (Nat.le_of_ble_eq_true rfl) ?_
    refine rz_iret dX11_sure_36 rfl ?_
    exact ⟨_, rfl, by rw [surZ, if_pos (show okP n p (I 10 0) from b10), e7, e8, e9], QC_tr (QC_up (by decide) (QC_refl h4)) qc22, rfl⟩
  · refine rz_if_ne (t := 18) dX11_sure_13 rfl (by omega) (fun q => absurd q (by decide)) (fun _ => ?_)
    refine rz_iconst dX11_sure_16 ?_
    refine rz_iret dX11_sure_17 rfl ?_
    exact ⟨_, rfl, by rw [surZ, if_neg (show ¬ okP n p (I 10 0) from b10)], QC_up (by decide) (QC_refl h4), rfl⟩
set_option maxRecDepth 20000 in
set_option maxHeartbeats 400000 in
theorem c_X12_sure {X : pX} {I J : IM} {h : Nat} {lw : Lw} {n : Nat} {m0 m1 : Mx} (hq : RqI I lw n m0 m1) (p : Int) (hp : rg p) : KIq X (h + 5) mX12_sure [.ref 81, zi p] I J (fun z A B => z = surZ lw (I 82) (I 83) (I 84) (I 85) n p ∧ FrR I A ∧ J = B) := by
  obtain ⟨h1, h2, h3, h5, h6, h7⟩ := hq
  have h80 := h7 0 (by decide)
  have h81 := h7 1 (by decide)
  show Rz X (h + 5) mX12_sure 0 [some (.ref 81), some (zi p), none] [] I J _
  refine rz_aload_n dX12_sure_0 rfl ?_
  refine rz_iload_n dX12_sure_1 rfl ?_
  refine rz_iconst dX12_sure_2 ?_
  refine rz_cVIq dX12_sure_3 kl_RX12_169 hd_81 ⟨_, _, rfl⟩ (c_X12_reads X _ I J n h2 p 0 hp (by omega) h80) rfl rfl (Nat.le_of_ble_eq_true rfl) (Nat.le_of_ble_eq_true rfl) ?_
  rintro z3 _ _ ⟨g3, rfl, rfl, ⟨rfl, b3, k3⟩ | ⟨rfl, b3⟩⟩
  · refine rz_if_ne (t := 11) dX12_sure_6 rfl (by omega) (fun _ => ?_) (fun q => absurd q (by decide))
    refine rz_iconst dX12_sure_11 ?_
    refine rz_istore_n dX12_sure_12 (by decide) rfl ?_
    refine rz_up (ls := fun v : Nat => [some (.ref 81), some (zi p), some (zi (v : Int))]) (IV := fun v : Nat => (copF (upA I 93 g3) 109 0 v g3)) (JV := fun v : Nat => J) (n) ⟨Or.inr rfl, Or.inr rfl, Or.inr rfl, trivial⟩ (copF_0) (rfl) ?_ ?_
    · intro v hv ihv
      have hd9 := dgt_bd n p v
      have hk9 := k3 v hv
      refine rz_iload_n dX12_sure_13 rfl ?_
      refine rz_aload_n dX12_sure_14 rfl ?_
      refine rz_getI (z := (n : Int)) dX12_sure_15 kf_RX12_137 hd_81 rfl (h2.1) ?_
      refine rz_icmp_ge (t := 40) dX12_sure_18 rfl (by omega) (by omega) (fun c18 => ?_) (fun c18 => ?_)
      · exfalso; omega
      · refine rz_aload_n dX12_sure_21 rfl ?_
        refine rz_getR dX12_sure_22 kf_RX12_93 hd_81 rfl rr_81_42 ?_
        refine rz_iload_n dX12_sure_25 rfl ?_
        refine rz_aload_n dX12_sure_26 rfl ?_
        refine rz_getR dX12_sure_27 kf_RX12_44 hd_81 rfl rr_81_15 ?_
        refine rz_iload_n dX12_sure_30 rfl ?_
        refine rz_ialdN (k := v) (z := (g3 v)) dX12_sure_31 hd_93 (by decide) (by omega) (by omega) rfl ?_
        refine rz_i2b dX12_sure_32 (by omega) ?_
        refine rz_bastN (k := v) dX12_sure_33 hd_109 (by decide) (by omega) (by omega) (by omega) ?_
        refine rz_iinc dX12_sure_34 (by decide) rfl rfl rfl ?_
        refine rz_goto (t := 13) dX12_sure_37 rfl ?_
        exact rz_bk ihv ⟨Or.inr rfl, Or.inr rfl, Or.inr rfl, trivial⟩ ((by rw [copF_step rfl, Nat.zero_add])) (rfl)
    · skip
      refine rz_iload_n dX12_sure_13 rfl ?_
      refine rz_aload_n dX12_sure_14 rfl ?_
      refine rz_getI (z := (n : Int)) dX12_sure_15 kf_RX12_137 hd_81 rfl (h2.1) ?_
      refine rz_icmp_ge (t := 40) dX12_sure_18 rfl (by omega) (by omega) (fun c18 => ?_) (fun c18 => ?_)
      · refine rz_aload_n dX12_sure_40 rfl ?_
        refine rz_cVVq dX12_sure_41 kl_RX12_257 hd_81 ⟨_, _, rfl⟩ (c_X12_findHas (I := (copF (upA I 93 g3) 109 0 n g3)) lw (LawI_congr rfl rfl rfl rfl rfl rfl rfl rfl h1) n h2 h3) rfl rfl (Nat.le_of_ble_eq_true rfl) (Nat.le_of_ble_eq_true rfl) ?_
        rintro B _ ⟨hB, rfl⟩
        have hf := FhQ_fr hB
        have hH := FhQ_has hB
        have e81 : B 81 = I 81 := hf 81 (by decide) (by decide) (by decide)
        have e82 : B 82 = I 82 := hf 82 (by decide) (by decide) (by decide)
        have e83 : B 83 = I 83 := hf 83 (by decide) (by decide) (by decide)
        have e84 : B 84 = I 84 := hf 84 (by decide) (by decide) (by decide)
        have e85 : B 85 = I 85 := hf 85 (by decide) (by decide) (by decide)
        have e109 : B 109 = (copF (upA I 93 g3) 109 0 n g3) 109 := hf 109 (by decide) (by decide) (by decide)
        refine rz_aload_n dX12_sure_44 rfl ?_
        refine rz_aload_n dX12_sure_45 rfl ?_
        refine rz_getR dX12_sure_46 kf_RX12_93 hd_81 rfl rr_81_42 ?_
        refine rz_iconst dX12_sure_49 ?_
        refine rz_cVIq dX12_sure_50 kl_RX12_352 hd_81 ⟨_, _, rfl⟩ ((show KIq X _ mX12_sureOf [.ref 81, .ref 109, zi 0] B J _ from c_X12_sureOf (I := B) lw n ⟨by rw [e81]; exact h2.1, h2.2⟩ 109 0 5 (I 85 1).toNat (fun v => (dgt n p v).toNat) rfl ⟨by omega, by omega⟩ (fun v hv => ⟨by rw [e109, Nat.mul_zero, Nat.zero_add]; exact (show (if 0 ≤ v ∧ v < 0 + n then g3 (v - 0) else _) = _ by rw [if_pos (by omega), Nat.sub_zero, k3 v hv]; exact dgt_nat.1), dgt_nat.2⟩) (by decide) ⟨by rw [e85]; omega, by omega⟩ hH)) rfl rfl (Nat.le_of_ble_eq_true rfl) (Nat.le_of_ble_eq_true rfl) ?_
        rintro _ _ _ ⟨rfl, ⟨F50, rfl⟩, rfl⟩
        refine rz_iret dX12_sure_53 rfl ?_
        exact ⟨_, rfl, by rw [surZ, if_pos (show okP n p (I 85 0) from b3), e82, e83, e84], FrR.trans (FrR_up (a := 93) (by decide) (by decide)) (FrR.trans (FrR_up (a := 109) (by decide) (by decide)) (FrR.trans (FrR_fh hB) (FrR_up (a := 111) (by decide) (by decide)))), rfl⟩
      · exfalso; omega
  · refine rz_if_ne (t := 11) dX12_sure_6 rfl (by omega) (fun q => absurd q (by decide)) (fun _ => ?_)
    refine rz_iconst dX12_sure_9 ?_
    refine rz_iret dX12_sure_10 rfl ?_
    exact ⟨_, rfl, by rw [surZ, if_neg (show ¬ okP n p (I 85 0) from b3)], FrR_up (a := 93) (by decide) (by decide), rfl⟩
