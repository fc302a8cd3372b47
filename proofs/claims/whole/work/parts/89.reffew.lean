/-! most and fewest: the calls of the reference -/
theorem HasR_b {I : IM} {k : Nat} {R W K F : Nat → Int} {lw : Lw} {n : Nat} (h : HasR I lw n) : HasR (upA (upA (layM I k R W) 81 K) 111 F) lw n := fun v hv a b ha hb => h v hv a b ha hb
theorem HasR_l {I : IM} {k : Nat} {R W : Nat → Int} {lw : Lw} {n : Nat} (h : HasR I lw n) : HasR (layM I k R W) lw n := fun v hv a b ha hb => h v hv a b ha hb
set_option maxRecDepth 20000 in
set_option maxHeartbeats 400000 in
theorem c_X12_most {X : pX} {I J : IM} {h : Nat} {lw : Lw} {n : Nat} {m0 m1 : Mx} (hq : RqI I lw n m0 m1) (hbk : BOK I) (what : Int) (hw : rg what) : KIq X (h + 9) mX12_most [.ref 81, zi what] I J (fun z A B => z = mosZ lw (I 82) (I 83) (I 84) (I 85) n what ∧ FrR I A ∧ J = B) := by
  obtain ⟨h1, h2, h3, h5, h6, h7⟩ := hq
  have h80 := h7 0 (by decide)
  have h81 := h7 1 (by decide)
  show Rz X (h + 9) mX12_most 0 [some (.ref 81), some (zi what), none] [] I J _
  refine rz_iload_n dX12_most_0 rfl ?_
  refine rz_iconst dX12_most_1 ?_
  refine rz_iconst dX12_most_2 ?_
  refine rz_cSIq dX12_most_3 kl_RX12_140 (c_X12_in X _ I J what 0 1 (by omega) (by omega) (by omega)) rfl rfl (Nat.le_of_ble_eq_true rfl) (Nat.le_of_ble_eq_true rfl) ?_
  rintro z3 A3 B3 ⟨⟨rfl, b3⟩ | ⟨rfl, b3⟩, rfl, rfl⟩
  · refine rz_if_ne (t := 11) dX12_most_6 rfl (by omega) (fun _ => ?_) (fun q => absurd q (by decide))
    refine rz_aload_n dX12_most_11 rfl ?_
    refine rz_cVIq dX12_most_12 kl_RX12_335 hd_81 ⟨_, _, rfl⟩ (c_X12_findBoth lw h1 n h2 h3 (I 85 0).toNat (I 85 1).toNat ⟨by omega, by omega⟩ ⟨by omega, by omega⟩ hbk) rfl rfl (Nat.le_of_ble_eq_true rfl) (Nat.le_of_ble_eq_true rfl) ?_
    rintro z12 A12 _ ⟨⟨rfl, m12, ⟨du12, e109⟩, fr12⟩ | ⟨rfl, m12, fr12⟩, rfl⟩
    · refine rz_if_ne (t := 21) dX12_most_15 rfl (by omega) (fun _ => ?_) (fun q => absurd q (by decide))
      obtain ⟨d1, d2, d3, d4, d5, d6⟩ := du12
      have e82 : A12 82 = I 82 := fr12.1 82 (by decide)
      have e83 : A12 83 = I 83 := fr12.1 83 (by decide)
      have e84 : A12 84 = I 84 := fr12.1 84 (by decide)
      have e85 : A12 85 = I 85 := fr12.1 85 (by decide)
      refine rz_aload_n dX12_most_21 rfl ?_
      refine rz_aload_n dX12_most_22 rfl ?_
      refine rz_getR dX12_most_23 kf_RX12_19 hd_81 rfl rr_81_5 ?_
      refine rz_iconst dX12_most_26 ?_
      refine rz_iald (z := (((I 85 0).toNat : Nat) : Int)) dX12_most_27 hd_85 (by decide) (by omega) (by rw [e85]; show I 85 0 = _; omega) ?_
      refine rz_iconst dX12_most_28 ?_
      refine rz_cVVq dX12_most_29 kl_RX12_270 hd_81 ⟨_, _, rfl⟩ ((show KVq X _ mX12_findRows [.ref 81, zi (((I 85 0).toNat : Nat) : Int), zi 1] A12 J _ from c_X12_findRows (I := A12) n ⟨d6, h2.2⟩ (I 85 0).toNat true (by omega) (rows_cnt n h2.2 (I 85 0).toNat (by omega)).2)) rfl rfl (Nat.le_of_ble_eq_true rfl) (Nat.le_of_ble_eq_true rfl) ?_
      rintro _ _ ⟨⟨R, W, rfl, hR, hRb⟩, rfl⟩
      refine rz_aload_n dX12_most_32 rfl ?_
      refine rz_cVIq dX12_most_33 kl_RX12_359 hd_81 ⟨_, _, rfl⟩ (c_X12_findMost (I := (layM A12 (rowsL n (I 85 0).toNat true).length R W)) lw n ⟨d6, h2.2⟩ (I 85 0).toNat (I 85 1).toNat (by omega) ⟨by show A12 85 1 = _; rw [e85]; omega, by omega⟩ (HasR_l d5) rfl hR) rfl rfl (Nat.le_of_ble_eq_true rfl) (Nat.le_of_ble_eq_true rfl) ?_
      rintro z33 _ _ ⟨hz33, ⟨K33, F33, rfl, k33, g33⟩, rfl⟩
      have hge := m12.1.1
      obtain ⟨hz, -⟩ := hz33.resolve_left (fun e => by omega)
      have g1 := g33 hge
      have hz2 : z33 = (((mosN lw (I 82) (I 83) (I 84) n (I 85 1).toNat (I 85 0).toNat).2 : Nat) : Int) := by rw [← e82, ← e83, ← e84]; exact hz
      have g2 : K33 45 = (mosN lw (I 82) (I 83) (I 84) n (I 85 1).toNat (I 85 0).toNat).1 := by rw [← e82, ← e83, ← e84]; exact g1
      have hmb := (mosN_rg (lw := lw) (W := I 82) (T := I 83) (U := I 84) (n := n) (Lb := (I 85 1).toNat) (N := (I 85 0).toNat)).2 hge
      have h715 := rows_715 n h2.2 (I 85 0).toNat (by omega)
      clear hz33
      subst hz2
      refine rz_istore_n dX12_most_36 (by decide) rfl ?_
      refine rz_iload_n dX12_most_37 rfl ?_
      refine rz_if_ge (t := 44) dX12_most_38 rfl (by omega) (fun c38 => ?_) (fun c38 => ?_)
      · refine rz_iload_n dX12_most_44 rfl ?_
        refine rz_if_ne (t := 56) dX12_most_45 rfl (by omega) (fun c45 => ?_) (fun c45 => ?_)
        · refine rz_aload_n dX12_most_56 rfl ?_
          refine rz_getI (z := ((mosN lw (I 82) (I 83) (I 84) n (I 85 1).toNat (I 85 0).toNat).1)) dX12_most_57 kf_RX12_356 hd_81 rfl (g2) ?_
          refine rz_iret dX12_most_60 rfl ?_
          exact ⟨_, rfl, by rw [mosZ, if_pos (by omega), if_pos (lstB_t m12), if_neg (by omega)], FrR.trans fr12 (FrR.trans (FrR_lay (k := (rowsL n (I 85 0).toNat true).length) (W := W) hRb) (FrR_45 k33)), rfl⟩
        · refine rz_aload_n dX12_most_48 rfl ?_
          refine rz_iload_n dX12_most_49 rfl ?_
          refine rz_cVI dX12_most_50 kl_RX12_326 hd_81 ⟨_, _, rfl⟩ (c_X12_numberOf X _ (upA (upA (layM A12 (rowsL n (I 85 0).toNat true).length R W) 81 K33) 111 F33) J n (mosN lw (I 82) (I 83) (I 84) n (I 85 1).toNat (I 85 0).toNat).2 ⟨(k33 1 (by decide)).trans d6, h2.2⟩ (by omega)) rfl rfl (Nat.le_of_ble_eq_true rfl) (Nat.le_of_ble_eq_true rfl) ?_
          refine rz_ieq (y := (mosV lw (I 82) (I 83) (I 84) n (I 85 1).toNat (I 85 0).toNat)) (numP_congr (fun v hv => (hR _ _ (getD_get hmb.2) v hv).symm)) ?_
          refine rz_goto (t := 60) dX12_most_53 rfl ?_
          refine rz_iret dX12_most_60 rfl ?_
          exact ⟨_, rfl, by rw [mosZ, if_pos (by omega), if_pos (lstB_t m12), if_pos (by omega)], FrR.trans fr12 (FrR.trans (FrR_lay (k := (rowsL n (I 85 0).toNat true).length) (W := W) hRb) (FrR_45 k33)), rfl⟩
      · refine rz_bipush dX12_most_41 (by decide) ?_
        refine rz_iret dX12_most_43 rfl ?_
        exfalso; omega
    · refine rz_if_ne (t := 21) dX12_most_15 rfl (by omega) (fun q => absurd q (by decide)) (fun _ => ?_)
      refine rz_bipush dX12_most_18 (by decide) ?_
      refine rz_iret dX12_most_20 rfl ?_
      exact ⟨_, rfl, by rw [mosZ, if_pos (by omega), if_neg (lstB_f m12)], fr12, rfl⟩
  · refine rz_if_ne (t := 11) dX12_most_6 rfl (by omega) (fun q => absurd q (by decide)) (fun _ => ?_)
    refine rz_iconst dX12_most_9 ?_
    refine rz_iret dX12_most_10 rfl ?_
    exact ⟨_, rfl, by rw [mosZ, if_neg (by omega)], FrR_refl, rfl⟩
set_option maxRecDepth 20000 in
set_option maxHeartbeats 400000 in
theorem c_X12_fewest {X : pX} {I J : IM} {h : Nat} {lw : Lw} {n : Nat} {m0 m1 : Mx} (hq : RqI I lw n m0 m1) (k : Int) (hk : rg k) : KIq X (h + 7) mX12_fewest [.ref 81, zi k] I J (fun z A B => z = fewZ lw (I 82) (I 83) (I 84) (I 85) n k ∧ FrR I A ∧ J = B) := by
  obtain ⟨h1, h2, h3, h5, h6, h7⟩ := hq
  have h80 := h7 0 (by decide)
  have h81 := h7 1 (by decide)
  show Rz X (h + 7) mX12_fewest 0 [some (.ref 81), some (zi k), none] [] I J _
  refine rz_iload_n dX12_fewest_0 rfl ?_
  refine rz_iconst dX12_fewest_1 ?_
  refine rz_iconst dX12_fewest_2 ?_
  refine rz_cSIq dX12_fewest_3 kl_RX12_140 (c_X12_in X _ I J k 0 5 (by omega) (by omega) (by omega)) rfl rfl (Nat.le_of_ble_eq_true rfl) (Nat.le_of_ble_eq_true rfl) ?_
  rintro z3 A3 B3 ⟨⟨rfl, b3⟩ | ⟨rfl, b3⟩, rfl, rfl⟩
  · refine rz_if_ne (t := 11) dX12_fewest_6 rfl (by omega) (fun _ => ?_) (fun q => absurd q (by decide))
    refine rz_aload_n dX12_fewest_11 rfl ?_
    refine rz_cVVq dX12_fewest_12 kl_RX12_257 hd_81 ⟨_, _, rfl⟩ (c_X12_findHas lw h1 n h2 h3) rfl rfl (Nat.le_of_ble_eq_true rfl) (Nat.le_of_ble_eq_true rfl) ?_
    rintro B _ ⟨hB, rfl⟩
    have hf := FhQ_fr hB
    have hH := FhQ_has hB
    have hFB := FrR_fh hB
    refine rz_iconst dX12_fewest_15 ?_
    refine rz_istore_n dX12_fewest_16 (by decide) rfl ?_
    refine rz_upx (σ := IM) (Inv := fun m sm => FrR I sm ∧ HasR sm lw n ∧ ∀ x, x < m → (fewP lw (I 82) (I 83) (I 84) n (I 85 1).toNat k) x = true) (ls := fun (m : Nat) sm => [some (.ref 81), some (zi k), some (zi (m : Int))]) (IV := fun (m : Nat) sm => sm) (JV := fun (m : Nat) sm => J) (10) (B) ⟨hFB, hH, fun x hx => absurd hx (by omega)⟩ ⟨Or.inr rfl, Or.inr rfl, Or.inr rfl, trivial⟩ (rfl) (rfl) ?_ ?_
    · intro m sm hm qm ihm
      have hmb := mosN_rg (lw := lw) (W := I 82) (T := I 83) (U := I 84) (n := n) (Lb := (I 85 1).toNat) (N := m)
      have m82 : sm 82 = I 82 := qm.1.1 82 (by decide)
      have m83 : sm 83 = I 83 := qm.1.1 83 (by decide)
      have m84 : sm 84 = I 84 := qm.1.1 84 (by decide)
      have m85 : sm 85 = I 85 := qm.1.1 85 (by decide)
      have nm : sm 81 1 = n := (qm.1.2.1 1 (by decide)).trans h2.1
      refine rz_iload_n dX12_fewest_17 rfl ?_
      refine rz_bipush dX12_fewest_18 (by decide) ?_
      refine rz_icmp_gt (t := 52) dX12_fewest_20 rfl (by omega) (by omega) (fun c20 => ?_) (fun c20 => ?_)
      · exfalso; omega
      · refine rz_aload_n dX12_fewest_23 rfl ?_
        refine rz_iload_n dX12_fewest_24 rfl ?_
        refine rz_iconst dX12_fewest_25 ?_
        refine rz_cVVq dX12_fewest_26 kl_RX12_270 hd_81 ⟨_, _, rfl⟩ ((show KVq X _ mX12_findRows [.ref 81, zi (m : Int), zi 1] sm J _ from c_X12_findRows (I := sm) n ⟨nm, h2.2⟩ m true (by omega) (rows_cnt n h2.2 m (by omega)).2)) rfl rfl (Nat.le_of_ble_eq_true rfl) (Nat.le_of_ble_eq_true rfl) ?_
        rintro _ _ ⟨⟨R, W, rfl, hR, hRb⟩, rfl⟩
        refine rz_aload_n dX12_fewest_29 rfl ?_
        refine rz_cVIq dX12_fewest_30 kl_RX12_359 hd_81 ⟨_, _, rfl⟩ (c_X12_findMost (I := (layM sm (rowsL n m true).length R W)) lw n ⟨nm, h2.2⟩ m (I 85 1).toNat (by omega) ⟨by show sm 85 1 = _; rw [m85]; omega, by omega⟩ (HasR_l qm.2.1) rfl hR) rfl rfl (Nat.le_of_ble_eq_true rfl) (Nat.le_of_ble_eq_true rfl) ?_
        rintro z30 _ _ ⟨hz30, ⟨K30, F30, rfl, k30, g30⟩, rfl⟩
        have hz31 : (z30 = -1 ∧ (rowsL n m true).length = 0) ∨ (0 ≤ z30 ∧ 1 ≤ (rowsL n m true).length) := hz30.imp id (fun e => ⟨by omega, e.2⟩)
        have g31 : 1 ≤ (rowsL n m true).length → K30 45 = (mosN lw (I 82) (I 83) (I 84) n (I 85 1).toNat m).1 := fun q => by rw [← m82, ← m83, ← m84]; exact g30 q
        have hz32 : rg z30 := by rcases hz30 with e | e; (rw [e.1]; decide); (have := mosN_rg (lw := lw) (W := (layM sm (rowsL n m true).length R W) 82) (T := (layM sm (rowsL n m true).length R W) 83) (U := (layM sm (rowsL n m true).length R W) 84) (n := n) (Lb := (I 85 1).toNat) (N := m); have h715 := rows_715 n h2.2 m (by omega); constructor <;> omega)
        clear hz30 g30
        refine rz_if_lt (t := 46) dX12_fewest_33 rfl (by omega) (fun c33 => ?_) (fun c33 => ?_)
        · refine rz_iinc dX12_fewest_46 (by decide) rfl rfl rfl ?_
          refine rz_goto (t := 17) dX12_fewest_49 rfl ?_
          exact rz_bk (ihm ((upA (upA (layM sm (rowsL n m true).length R W) 81 K30) 111 F30)) (⟨FrR.trans qm.1 (FrR.trans (FrR_lay (k := (rowsL n m true).length) (W := W) hRb) (FrR_45 k30)), HasR_b qm.2.1, fun x hx => by by_cases e : x = m; (subst e; exact decide_eq_true (by omega)); exact qm.2.2 x (by omega)⟩)) ⟨Or.inr rfl, Or.inr rfl, Or.inr rfl, trivial⟩ (rfl) (rfl)
        · refine rz_aload_n dX12_fewest_36 rfl ?_
          refine rz_getI (z := ((mosN lw (I 82) (I 83) (I 84) n (I 85 1).toNat m).1)) dX12_fewest_37 kf_RX12_356 hd_81 rfl ((g31 (by omega))) ?_
          refine rz_iload_n dX12_fewest_40 rfl ?_
          refine rz_icmp_lt (t := 46) dX12_fewest_41 rfl (by omega) (by omega) (fun c41 => ?_) (fun c41 => ?_)
          · refine rz_iinc dX12_fewest_46 (by decide) rfl rfl rfl ?_
            refine rz_goto (t := 17) dX12_fewest_49 rfl ?_
            exact rz_bk (ihm ((upA (upA (layM sm (rowsL n m true).length R W) 81 K30) 111 F30)) (⟨FrR.trans qm.1 (FrR.trans (FrR_lay (k := (rowsL n m true).length) (W := W) hRb) (FrR_45 k30)), HasR_b qm.2.1, fun x hx => by by_cases e : x = m; (subst e; exact decide_eq_true (by omega)); exact qm.2.2 x (by omega)⟩)) ⟨Or.inr rfl, Or.inr rfl, Or.inr rfl, trivial⟩ (rfl) (rfl)
          · refine rz_iload_n dX12_fewest_44 rfl ?_
            refine rz_iret dX12_fewest_45 rfl ?_
            have hcf := cF_at (p := (fewP lw (I 82) (I 83) (I 84) n (I 85 1).toNat k)) (b := m) (by omega) qm.2.2 (decide_eq_false (by omega))
            exact ⟨_, rfl, by rw [fewZ, if_pos (by omega), hcf, if_neg (by omega)], FrR.trans qm.1 (FrR.trans (FrR_lay (k := (rowsL n m true).length) (W := W) hRb) (FrR_45 k30)), rfl⟩
    · intro sm qm
      refine rz_iload_n dX12_fewest_17 rfl ?_
      refine rz_bipush dX12_fewest_18 (by decide) ?_
      refine rz_icmp_gt (t := 52) dX12_fewest_20 rfl (by omega) (by omega) (fun c20 => ?_) (fun c20 => ?_)
      · refine rz_bipush dX12_fewest_52 (by decide) ?_
        refine rz_iret dX12_fewest_54 rfl ?_
        exact ⟨_, rfl, by rw [fewZ, if_pos (by omega), cF_no qm.2.2, if_pos rfl], qm.1, rfl⟩
      · exfalso; omega
  · refine rz_if_ne (t := 11) dX12_fewest_6 rfl (by omega) (fun q => absurd q (by decide)) (fun _ => ?_)
    refine rz_iconst dX12_fewest_9 ?_
    refine rz_iret dX12_fewest_10 rfl ?_
    exact ⟨_, rfl, by rw [fewZ, if_neg (by omega)], FrR_refl, rfl⟩
