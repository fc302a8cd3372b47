/-! rest, the class -/
def gd0 (lw : Lw) (W T U : Nat → Int) (n N0 N1 : Nat) : Int × Nat := fxM (wstF 0 lw W T U n (rowsL n N0 true) N1) (rowsL n N0 true).length
def gd1 (lw : Lw) (W T U : Nat → Int) (n N0 N1 : Nat) : Int × Nat := fxM (wstF 1 lw W T U n (rowsL n N1 true) N0) (rowsL n N1 true).length
def resZ (lw : Lw) (W T U Q : Nat → Int) (n : Nat) (what : Int) : Int := if 0 ≤ what ∧ what ≤ 2 then (if lstB n (Q 0).toNat (Q 1).toNat = true then (if (gd0 lw W T U n (Q 0).toNat (Q 1).toNat).1 = -(gd1 lw W T U n (Q 0).toNat (Q 1).toNat).1 then (if what = 2 then (gd0 lw W T U n (Q 0).toNat (Q 1).toNat).1 else if what = 0 then numP (fun v => ((((rowsL n (Q 0).toNat true).getD (gd0 lw W T U n (Q 0).toNat (Q 1).toNat).2 []).getD v 0 : Nat) : Int)) n else numP (fun v => ((((rowsL n (Q 1).toNat true).getD (gd1 lw W T U n (Q 0).toNat (Q 1).toNat).2 []).getD v 0 : Nat) : Int)) n) else -2) else -5) else -2000000000
set_option maxRecDepth 20000 in
set_option maxHeartbeats 400000 in
theorem c_X3_findRest {X : pX} {I J : IM} {h : Nat} (lw : Lw) (n : Nat) (hn5 : n ≤ 5) (hW : ∀ v, v < n → 0 ≤ I 7 v ∧ I 7 v ≤ 9) (N0 N1 : Nat) (hN0 : N0 ≤ 9) (hN1 : N1 ≤ 9) (hM0 : I 10 0 = N0) (hM1 : I 10 1 = N1) (hd : DuC I lw n N0 N1) (hm : mayL n N0 N1) : KIq X (h + 5) mX3_findRest [.ref 32] I J (fun z A B => ((z = 1 ∧ ((gd0 lw (I 7) (I 8) (I 9) n N0 N1).1) = -((gd1 lw (I 7) (I 8) (I 9) n N0 N1).1)) ∨ (z = 0 ∧ ¬ ((gd0 lw (I 7) (I 8) (I 9) n N0 N1).1) = -((gd1 lw (I 7) (I 8) (I 9) n N0 N1).1))) ∧ (∃ A8, GuF I A8 ∧ A = upA A8 32 (up1 (A8 32) 2 ((gd0 lw (I 7) (I 8) (I 9) n N0 N1).1)) ∧ A8 43 0 = (((gd0 lw (I 7) (I 8) (I 9) n N0 N1).2 : Nat) : Int) ∧ A8 43 1 = (((gd1 lw (I 7) (I 8) (I 9) n N0 N1).2 : Nat) : Int)) ∧ J = B) := by
  show Rz X (h + 5) mX3_findRest 0 [some (.ref 32), none, none] [] I J _
  refine rz_aload_n dX3_findRest_0 rfl ?_
  refine rz_iconst dX3_findRest_1 ?_
  refine rz_cVIq dX3_findRest_2 kl_RX3_133 hd_32 ⟨_, _, rfl⟩ (c_firstGuard0 (I := I) lw n hn5 hW N0 N1 hN0 hN1 hM0 hM1 hd hm) rfl rfl (Nat.le_of_ble_eq_true rfl) (Nat.le_of_ble_eq_true rfl) ?_
  rintro _ A2 _ ⟨rfl, g2, k2, i2, rfl⟩
  refine rz_ieq (y := ((gd0 lw (I 7) (I 8) (I 9) n N0 N1).1)) rfl ?_
  have e7 : A2 7 = I 7 := g2 7 (by decide) (by decide) (by decide) (by decide)
  have e8 : A2 8 = I 8 := g2 8 (by decide) (by decide) (by decide) (by decide)
  have e9 : A2 9 = I 9 := g2 9 (by decide) (by decide) (by decide) (by decide)
  have e10 : A2 10 = I 10 := g2 10 (by decide) (by decide) (by decide) (by decide)
  have hb0 : -1000000 ≤ ((gd0 lw (I 7) (I 8) (I 9) n N0 N1).1) ∧ ((gd0 lw (I 7) (I 8) (I 9) n N0 N1).1) ≤ 45 := (fxM_prop (wst_rg (b := 0) (L := rowsL n N0 true) hn5 hN1 hW hm.2.1) _).2.2
  have hb1 : -1000000 ≤ ((gd1 lw (I 7) (I 8) (I 9) n N0 N1).1) ∧ ((gd1 lw (I 7) (I 8) (I 9) n N0 N1).1) ≤ 45 := (fxM_prop (wst_rg (b := 1) (L := rowsL n N1 true) hn5 hN0 hW hm.1.1) _).2.2
  refine rz_istore_n dX3_findRest_5 (by decide) rfl ?_
  refine rz_aload_n dX3_findRest_6 rfl ?_
  refine rz_iconst dX3_findRest_7 ?_
  refine rz_cVIq dX3_findRest_8 kl_RX3_133 hd_32 ⟨_, _, rfl⟩ (c_firstGuard1 (I := A2) lw n hn5 (fun v hv => by rw [e7]; exact hW v hv) N0 N1 hN0 hN1 (by rw [e10]; exact hM0) (by rw [e10]; exact hM1) (DuC_gu g2 hd) hm) rfl rfl (Nat.le_of_ble_eq_true rfl) (Nat.le_of_ble_eq_true rfl) ?_
  rintro z8 A8 _ ⟨hz8, g8, k8, j8, rfl⟩
  rw [e7, e8, e9] at hz8 j8
  have hz9 : z8 = ((gd1 lw (I 7) (I 8) (I 9) n N0 N1).1) := hz8
  clear hz8
  subst hz9
  refine rz_istore_n dX3_findRest_11 (by decide) rfl ?_
  refine rz_aload_n dX3_findRest_12 rfl ?_
  refine rz_iload_n dX3_findRest_13 rfl ?_
  refine rz_putI dX3_findRest_14 kp_RX3_136 hd_32 rfl ?_
  refine rz_iload_n dX3_findRest_17 rfl ?_
  refine rz_iload_n dX3_findRest_18 rfl ?_
  refine rz_ineg dX3_findRest_19 ?_
  refine rz_icmp_ne (t := 27) dX3_findRest_20 rfl (by omega) (by omega) (fun c20 => ?_) (fun c20 => ?_)
  · refine rz_iconst dX3_findRest_27 ?_
    refine rz_zret dX3_findRest_28 rfl (by decide) ?_
    exact ⟨_, rfl, Or.inr ⟨rfl, by omega⟩, ⟨A8, (fun a h1 h2 h3 h4 => (g8 a h1 h2 h3 h4).trans (g2 a h1 h2 h3 h4)), rfl, k8.trans i2, j8⟩, rfl⟩
  · refine rz_iconst dX3_findRest_23 ?_
    refine rz_goto (t := 28) dX3_findRest_24 rfl ?_
    refine rz_zret dX3_findRest_28 rfl (by decide) ?_
    exact ⟨_, rfl, Or.inl ⟨rfl, by omega⟩, ⟨A8, (fun a h1 h2 h3 h4 => (g8 a h1 h2 h3 h4).trans (g2 a h1 h2 h3 h4)), rfl, k8.trans i2, j8⟩, rfl⟩
set_option maxRecDepth 20000 in
set_option maxHeartbeats 400000 in
theorem rest_c0 {X : pX} {I J : IM} {h : Nat} {lw : Lw} {n : Nat} {m0 m1 : Mx} (hq : CqI I lw n m0 m1) : KIq X (h + 6) mX11_rest [.ref 0, zi 0] I J (fun z A B => z = resZ lw (I 7) (I 8) (I 9) (I 10) n 0 ∧ QC I lw n A ∧ J = B) := by
  obtain ⟨h1, h2, h3, h4, h5, h6, h7⟩ := hq
  have h80 := h7 0 (by decide)
  have h81 := h7 1 (by decide)
  show Rz X (h + 6) mX11_rest 0 [some (.ref 0), some (zi 0)] [] I J _
  refine rz_iload_n dX11_rest_0 rfl ?_
  refine rz_if_lt (t := 9) dX11_rest_1 rfl (by omega) (fun q => absurd q (by decide)) (fun _ => ?_)
  refine rz_iload_n dX11_rest_4 rfl ?_
  refine rz_iconst dX11_rest_5 ?_
  refine rz_icmp_le (t := 12) dX11_rest_6 rfl (by omega) (by omega) (fun _ => ?_) (fun q => absurd q (by decide))
  refine rz_aload_n dX11_rest_12 rfl ?_
  refine rz_getR dX11_rest_13 kf_RX11_49 hd_0 rfl rr_0_6 ?_
  refine rz_cVIq dX11_rest_16 kl_RX11_234 hd_32 ⟨_, _, rfl⟩ (c_X3_open lw h1 n h2 h3 h4 (I 10 0).toNat (I 10 1).toNat ⟨by omega, by omega⟩ ⟨by omega, by omega⟩) rfl rfl (Nat.le_of_ble_eq_true rfl) (Nat.le_of_ble_eq_true rfl) ?_
  rintro z16 A16 _ ⟨⟨rfl, m16, ⟨du16, e79⟩, qc16⟩ | ⟨rfl, m16, rfl⟩, rfl⟩
  · refine rz_if_ne (t := 25) dX11_rest_19 rfl (by omega) (fun _ => ?_) (fun q => absurd q (by decide))
    have e7 : A16 7 = I 7 := qc16.1.1 7 (by decide)
    have e8 : A16 8 = I 8 := qc16.1.1 8 (by decide)
    have e9 : A16 9 = I 9 := qc16.1.1 9 (by decide)
    have e10 : A16 10 = I 10 := qc16.1.1 10 (by decide)
    refine rz_aload_n dX11_rest_25 rfl ?_
    refine rz_getR dX11_rest_26 kf_RX11_49 hd_0 rfl rr_0_6 ?_
    refine rz_cVIq dX11_rest_29 kl_RX11_251 hd_32 ⟨_, _, rfl⟩ (c_X3_findRest (I := A16) lw n h2.2 (fun v hv => by rw [e7]; exact (h3 v hv).1) (I 10 0).toNat (I 10 1).toNat (by omega) (by omega) (by rw [e10]; omega) (by rw [e10]; omega) du16 m16) rfl rfl (Nat.le_of_ble_eq_true rfl) (Nat.le_of_ble_eq_true rfl) ?_
    rintro z29 _ _ ⟨⟨rfl, he⟩ | ⟨rfl, he⟩, ⟨A8, g8, rfl, i8, j8⟩, rfl⟩
    · refine rz_if_ne (t := 38) dX11_rest_32 rfl (by omega) (fun _ => ?_) (fun q => absurd q (by decide))
      rw [e7, e8, e9] at he i8 j8
      have q0 := (fxM_prop (wst_rg (b := 0) (lw := lw) (T := I 8) (U := I 9) (L := rowsL n (I 10 0).toNat true) h2.2 (by omega : (I 10 1).toNat ≤ 9) (fun v hv => (h3 v hv).1) m16.2.1) _).2.1 m16.1.1
      have q1 := (fxM_prop (wst_rg (b := 1) (lw := lw) (T := I 8) (U := I 9) (L := rowsL n (I 10 1).toNat true) h2.2 (by omega : (I 10 0).toNat ≤ 9) (fun v hv => (h3 v hv).1) m16.1.1) _).2.1 m16.2.1
      have k0 : (gd0 lw (I 7) (I 8) (I 9) n (I 10 0).toNat (I 10 1).toNat).2 < (rowsL n (I 10 0).toNat true).length := q0.1
      have k1 : (gd1 lw (I 7) (I 8) (I 9) n (I 10 0).toNat (I 10 1).toNat).2 < (rowsL n (I 10 1).toNat true).length := q1.1
      have hl0 := m16.1.2
      have hl1 := m16.2.2
      obtain ⟨d1, d2, d3, d4, d5, d6⟩ := DuC_gu g8 du16
      refine rz_iload_n dX11_rest_38 rfl ?_
      refine rz_iconst dX11_rest_39 ?_
      refine rz_icmp_ne (t := 51) dX11_rest_40 rfl (by omega) (by omega) (fun _ => ?_) (fun q => absurd q (by decide))
      refine rz_aload_n dX11_rest_51 rfl ?_
      refine rz_getR dX11_rest_52 kf_RX11_49 hd_0 rfl rr_0_6 ?_
      refine rz_iload_n dX11_rest_55 rfl ?_
      refine rz_aload_n dX11_rest_56 rfl ?_
      refine rz_getR dX11_rest_57 kf_RX11_49 hd_0 rfl rr_0_6 ?_
      refine rz_getR dX11_rest_60 kf_RX11_257 hd_32 rfl rr_32_3 ?_
      refine rz_iload_n dX11_rest_63 rfl ?_
      refine rz_iald (z := (((gd0 lw (I 7) (I 8) (I 9) n (I 10 0).toNat (I 10 1).toNat).2 : Nat) : Int)) dX11_rest_64 hd_43 (by decide) (by omega) i8 ?_
      refine rz_cVI dX11_rest_65 kl_RX11_260 hd_32 ⟨_, _, rfl⟩ (c_numberAt0 (I := (upA A8 32 (up1 (A8 32) 2 (gd0 lw (A16 7) (A16 8) (A16 9) n (I 10 0).toNat (I 10 1).toNat).1))) n ⟨(show (upA A8 32 (up1 (A8 32) 2 (gd0 lw (A16 7) (A16 8) (A16 9) n (I 10 0).toNat (I 10 1).toNat).1)) 6 0 = n from d6), h2.2⟩ (gd0 lw (I 7) (I 8) (I 9) n (I 10 0).toNat (I 10 1).toNat).2 (by omega)) rfl rfl (Nat.le_of_ble_eq_true rfl) (Nat.le_of_ble_eq_true rfl) ?_
      refine rz_ieq (y := (numP (fun v => ((((rowsL n (I 10 0).toNat true).getD (gd0 lw (I 7) (I 8) (I 9) n (I 10 0).toNat (I 10 1).toNat).2 []).getD v 0 : Nat) : Int)) n)) (numP_congr (fun v hv => by rw [Nat.mul_comm]; exact (d3 _ _ (getD_get k0) v (by omega)).symm)) ?_
      refine rz_iret dX11_rest_68 rfl ?_
      exact ⟨_, rfl, by rw [resZ, if_pos (by omega), if_pos (lstB_t m16), if_pos he, if_neg (by decide), if_pos rfl], QC_up (by decide) (QC_gu g8 qc16), rfl⟩
    · refine rz_if_ne (t := 38) dX11_rest_32 rfl (by omega) (fun q => absurd q (by decide)) (fun _ => ?_)
      refine rz_bipush dX11_rest_35 (by decide) ?_
      refine rz_iret dX11_rest_37 rfl ?_
      rw [e7, e8, e9] at he
      exact ⟨_, rfl, by rw [resZ, if_pos (by omega), if_pos (lstB_t m16), if_neg he], QC_up (by decide) (QC_gu g8 qc16), rfl⟩
  · refine rz_if_ne (t := 25) dX11_rest_19 rfl (by omega) (fun q => absurd q (by decide)) (fun _ => ?_)
    refine rz_bipush dX11_rest_22 (by decide) ?_
    refine rz_iret dX11_rest_24 rfl ?_
    exact ⟨_, rfl, by rw [resZ, if_pos (by omega), if_neg (lstB_f m16)], QC_refl h4, rfl⟩
set_option maxRecDepth 20000 in
set_option maxHeartbeats 400000 in
theorem rest_c1 {X : pX} {I J : IM} {h : Nat} {lw : Lw} {n : Nat} {m0 m1 : Mx} (hq : CqI I lw n m0 m1) : KIq X (h + 6) mX11_rest [.ref 0, zi 1] I J (fun z A B => z = resZ lw (I 7) (I 8) (I 9) (I 10) n 1 ∧ QC I lw n A ∧ J = B) := by
  obtain ⟨h1, h2, h3, h4, h5, h6, h7⟩ := hq
  have h80 := h7 0 (by decide)
  have h81 := h7 1 (by decide)
  show Rz X (h + 6) mX11_rest 0 [some (.ref 0), some (zi 1)] [] I J _
  refine rz_iload_n dX11_rest_0 rfl ?_
  refine rz_if_lt (t := 9) dX11_rest_1 rfl (by omega) (fun q => absurd q (by decide)) (fun _ => ?_)
  refine rz_iload_n dX11_rest_4 rfl ?_
  refine rz_iconst dX11_rest_5 ?_
  refine rz_icmp_le (t := 12) dX11_rest_6 rfl (by omega) (by omega) (fun _ => ?_) (fun q => absurd q (by decide))
  refine rz_aload_n dX11_rest_12 rfl ?_
  refine rz_getR dX11_rest_13 kf_RX11_49 hd_0 rfl rr_0_6 ?_
  refine rz_cVIq dX11_rest_16 kl_RX11_234 hd_32 ⟨_, _, rfl⟩ (c_X3_open lw h1 n h2 h3 h4 (I 10 0).toNat (I 10 1).toNat ⟨by omega, by omega⟩ ⟨by omega, by omega⟩) rfl rfl (Nat.le_of_ble_eq_true rfl) (Nat.le_of_ble_eq_true rfl) ?_
  rintro z16 A16 _ ⟨⟨rfl, m16, ⟨du16, e79⟩, qc16⟩ | ⟨rfl, m16, rfl⟩, rfl⟩
  · refine rz_if_ne (t := 25) dX11_rest_19 rfl (by omega) (fun _ => ?_) (fun q => absurd q (by decide))
    have e7 : A16 7 = I 7 := qc16.1.1 7 (by decide)
    have e8 : A16 8 = I 8 := qc16.1.1 8 (by decide)
    have e9 : A16 9 = I 9 := qc16.1.1 9 (by decide)
    have e10 : A16 10 = I 10 := qc16.1.1 10 (by decide)
    refine rz_aload_n dX11_rest_25 rfl ?_
    refine rz_getR dX11_rest_26 kf_RX11_49 hd_0 rfl rr_0_6 ?_
    refine rz_cVIq dX11_rest_29 kl_RX11_251 hd_32 ⟨_, _, rfl⟩ (c_X3_findRest (I := A16) lw n h2.2 (fun v hv => by rw [e7]; exact (h3 v hv).1) (I 10 0).toNat (I 10 1).toNat (by omega) (by omega) (by rw [e10]; omega) (by rw [e10]; omega) du16 m16) rfl rfl (Nat.le_of_ble_eq_true rfl) (Nat.le_of_ble_eq_true rfl) ?_
    rintro z29 _ _ ⟨⟨rfl, he⟩ | ⟨rfl, he⟩, ⟨A8, g8, rfl, i8, j8⟩, rfl⟩
    · refine rz_if_ne (t := 38) dX11_rest_32 rfl (by omega) (fun _ => ?_) (fun q => absurd q (by decide))
      rw [e7, e8, e9] at he i8 j8
      have q0 := (fxM_prop (wst_rg (b := 0) (lw := lw) (T := I 8) (U := I 9) (L := rowsL n (I 10 0).toNat true) h2.2 (by omega : (I 10 1).toNat ≤ 9) (fun v hv => (h3 v hv).1) m16.2.1) _).2.1 m16.1.1
      have q1 := (fxM_prop (wst_rg (b := 1) (lw := lw) (T := I 8) (U := I 9) (L := rowsL n (I 10 1).toNat true) h2.2 (by omega : (I 10 0).toNat ≤ 9) (fun v hv => (h3 v hv).1) m16.1.1) _).2.1 m16.2.1
      have k0 : (gd0 lw (I 7) (I 8) (I 9) n (I 10 0).toNat (I 10 1).toNat).2 < (rowsL n (I 10 0).toNat true).length := q0.1
      have k1 : (gd1 lw (I 7) (I 8) (I 9) n (I 10 0).toNat (I 10 1).toNat).2 < (rowsL n (I 10 1).toNat true).length := q1.1
      have hl0 := m16.1.2
      have hl1 := m16.2.2
      obtain ⟨d1, d2, d3, d4, d5, d6⟩ := DuC_gu g8 du16
      refine rz_iload_n dX11_rest_38 rfl ?_
      refine rz_iconst dX11_rest_39 ?_
      refine rz_icmp_ne (t := 51) dX11_rest_40 rfl (by omega) (by omega) (fun _ => ?_) (fun q => absurd q (by decide))
      refine rz_aload_n dX11_rest_51 rfl ?_
      refine rz_getR dX11_rest_52 kf_RX11_49 hd_0 rfl rr_0_6 ?_
      refine rz_iload_n dX11_rest_55 rfl ?_
      refine rz_aload_n dX11_rest_56 rfl ?_
      refine rz_getR dX11_rest_57 kf_RX11_49 hd_0 rfl rr_0_6 ?_
      refine rz_getR dX11_rest_60 kf_RX11_257 hd_32 rfl rr_32_3 ?_
      refine rz_iload_n dX11_rest_63 rfl ?_
      refine rz_iald (z := (((gd1 lw (I 7) (I 8) (I 9) n (I 10 0).toNat (I 10 1).toNat).2 : Nat) : Int)) dX11_rest_64 hd_43 (by decide) (by omega) j8 ?_
      refine rz_cVI dX11_rest_65 kl_RX11_260 hd_32 ⟨_, _, rfl⟩ (c_numberAt1 (I := (upA A8 32 (up1 (A8 32) 2 (gd0 lw (A16 7) (A16 8) (A16 9) n (I 10 0).toNat (I 10 1).toNat).1))) n ⟨(show (upA A8 32 (up1 (A8 32) 2 (gd0 lw (A16 7) (A16 8) (A16 9) n (I 10 0).toNat (I 10 1).toNat).1)) 6 0 = n from d6), h2.2⟩ (gd1 lw (I 7) (I 8) (I 9) n (I 10 0).toNat (I 10 1).toNat).2 (by omega)) rfl rfl (Nat.le_of_ble_eq_true rfl) (Nat.le_of_ble_eq_true rfl) ?_
      refine rz_ieq (y := (numP (fun v => ((((rowsL n (I 10 1).toNat true).getD (gd1 lw (I 7) (I 8) (I 9) n (I 10 0).toNat (I 10 1).toNat).2 []).getD v 0 : Nat) : Int)) n)) (numP_congr (fun v hv => by rw [Nat.mul_comm]; exact (d4 _ _ (getD_get k1) v (by omega)).symm)) ?_
      refine rz_iret dX11_rest_68 rfl ?_
      exact ⟨_, rfl, by rw [resZ, if_pos (by omega), if_pos (lstB_t m16), if_pos he, if_neg (by decide), if_neg (by decide)], QC_up (by decide) (QC_gu g8 qc16), rfl⟩
    · refine rz_if_ne (t := 38) dX11_rest_32 rfl (by omega) (fun q => absurd q (by decide)) (fun _ => ?_)
      refine rz_bipush dX11_rest_35 (by decide) ?_
      refine rz_iret dX11_rest_37 rfl ?_
      rw [e7, e8, e9] at he
      exact ⟨_, rfl, by rw [resZ, if_pos (by omega), if_pos (lstB_t m16), if_neg he], QC_up (by decide) (QC_gu g8 qc16), rfl⟩
  · refine rz_if_ne (t := 25) dX11_rest_19 rfl (by omega) (fun q => absurd q (by decide)) (fun _ => ?_)
    refine rz_bipush dX11_rest_22 (by decide) ?_
    refine rz_iret dX11_rest_24 rfl ?_
    exact ⟨_, rfl, by rw [resZ, if_pos (by omega), if_neg (lstB_f m16)], QC_refl h4, rfl⟩
set_option maxRecDepth 20000 in
set_option maxHeartbeats 400000 in
theorem rest_c2 {X : pX} {I J : IM} {h : Nat} {lw : Lw} {n : Nat} {m0 m1 : Mx} (hq : CqI I lw n m0 m1) : KIq X (h + 6) mX11_rest [.ref 0, zi 2] I J (fun z A B => z = resZ lw (I 7) (I 8) (I 9) (I 10) n 2 ∧ QC I lw n A ∧ J = B) := by
  obtain ⟨h1, h2, h3, h4, h5, h6, h7⟩ := hq
  have h80 := h7 0 (by decide)
  have h81 := h7 1 (by decide)
  show Rz X (h + 6) mX11_rest 0 [some (.ref 0), some (zi 2)] [] I J _
  refine rz_iload_n dX11_rest_0 rfl ?_
  refine rz_if_lt (t := 9) dX11_rest_1 rfl (by omega) (fun q => absurd q (by decide)) (fun _ => ?_)
  refine rz_iload_n dX11_rest_4 rfl ?_
  refine rz_iconst dX11_rest_5 ?_
  refine rz_icmp_le (t := 12) dX11_rest_6 rfl (by omega) (by omega) (fun _ => ?_) (fun q => absurd q (by decide))
  refine rz_aload_n dX11_rest_12 rfl ?_
  refine rz_getR dX11_rest_13 kf_RX11_49 hd_0 rfl rr_0_6 ?_
  refine rz_cVIq dX11_rest_16 kl_RX11_234 hd_32 ⟨_, _, rfl⟩ (c_X3_open lw h1 n h2 h3 h4 (I 10 0).toNat (I 10 1).toNat ⟨by omega, by omega⟩ ⟨by omega, by omega⟩) rfl rfl (Nat.le_of_ble_eq_true rfl) (Nat.le_of_ble_eq_true rfl) ?_
  rintro z16 A16 _ ⟨⟨rfl, m16, ⟨du16, e79⟩, qc16⟩ | ⟨rfl, m16, rfl⟩, rfl⟩
  · refine rz_if_ne (t := 25) dX11_rest_19 rfl (by omega) (fun _ => ?_) (fun q => absurd q (by decide))
    have e7 : A16 7 = I 7 := qc16.1.1 7 (by decide)
    have e8 : A16 8 = I 8 := qc16.1.1 8 (by decide)
    have e9 : A16 9 = I 9 := qc16.1.1 9 (by decide)
    have e10 : A16 10 = I 10 := qc16.1.1 10 (by decide)
    refine rz_aload_n dX11_rest_25 rfl ?_
    refine rz_getR dX11_rest_26 kf_RX11_49 hd_0 rfl rr_0_6 ?_
    refine rz_cVIq dX11_rest_29 kl_RX11_251 hd_32 ⟨_, _, rfl⟩ (c_X3_findRest (I := A16) lw n h2.2 (fun v hv => by rw [e7]; exact (h3 v hv).1) (I 10 0).toNat (I 10 1).toNat (by omega) (by omega) (by rw [e10]; omega) (by rw [e10]; omega) du16 m16) rfl rfl (Nat.le_of_ble_eq_true rfl) (Nat.le_of_ble_eq_true rfl) ?_
    rintro z29 _ _ ⟨⟨rfl, he⟩ | ⟨rfl, he⟩, ⟨A8, g8, rfl, i8, j8⟩, rfl⟩
    · refine rz_if_ne (t := 38) dX11_rest_32 rfl (by omega) (fun _ => ?_) (fun q => absurd q (by decide))
      rw [e7, e8, e9] at he i8 j8
      have q0 := (fxM_prop (wst_rg (b := 0) (lw := lw) (T := I 8) (U := I 9) (L := rowsL n (I 10 0).toNat true) h2.2 (by omega : (I 10 1).toNat ≤ 9) (fun v hv => (h3 v hv).1) m16.2.1) _).2.1 m16.1.1
      have q1 := (fxM_prop (wst_rg (b := 1) (lw := lw) (T := I 8) (U := I 9) (L := rowsL n (I 10 1).toNat true) h2.2 (by omega : (I 10 0).toNat ≤ 9) (fun v hv => (h3 v hv).1) m16.1.1) _).2.1 m16.2.1
      have k0 : (gd0 lw (I 7) (I 8) (I 9) n (I 10 0).toNat (I 10 1).toNat).2 < (rowsL n (I 10 0).toNat true).length := q0.1
      have k1 : (gd1 lw (I 7) (I 8) (I 9) n (I 10 0).toNat (I 10 1).toNat).2 < (rowsL n (I 10 1).toNat true).length := q1.1
      have hl0 := m16.1.2
      have hl1 := m16.2.2
      obtain ⟨d1, d2, d3, d4, d5, d6⟩ := DuC_gu g8 du16
      refine rz_iload_n dX11_rest_38 rfl ?_
      refine rz_iconst dX11_rest_39 ?_
      refine rz_icmp_ne (t := 51) dX11_rest_40 rfl (by omega) (by omega) (fun q => absurd q (by decide)) (fun _ => ?_)
      refine rz_aload_n dX11_rest_43 rfl ?_
      refine rz_getR dX11_rest_44 kf_RX11_49 hd_0 rfl rr_0_6 ?_
      refine rz_getI (z := ((gd0 lw (I 7) (I 8) (I 9) n (I 10 0).toNat (I 10 1).toNat).1)) dX11_rest_47 kf_RX11_254 hd_32 rfl ((show (gd0 lw (A16 7) (A16 8) (A16 9) n (I 10 0).toNat (I 10 1).toNat).1 = _ by rw [e7, e8, e9])) ?_
      refine rz_iret dX11_rest_50 rfl ?_
      exact ⟨_, rfl, by rw [resZ, if_pos (by omega), if_pos (lstB_t m16), if_pos he, if_pos rfl], QC_up (by decide) (QC_gu g8 qc16), rfl⟩
    · refine rz_if_ne (t := 38) dX11_rest_32 rfl (by omega) (fun q => absurd q (by decide)) (fun _ => ?_)
      refine rz_bipush dX11_rest_35 (by decide) ?_
      refine rz_iret dX11_rest_37 rfl ?_
      rw [e7, e8, e9] at he
      exact ⟨_, rfl, by rw [resZ, if_pos (by omega), if_pos (lstB_t m16), if_neg he], QC_up (by decide) (QC_gu g8 qc16), rfl⟩
  · refine rz_if_ne (t := 25) dX11_rest_19 rfl (by omega) (fun q => absurd q (by decide)) (fun _ => ?_)
    refine rz_bipush dX11_rest_22 (by decide) ?_
    refine rz_iret dX11_rest_24 rfl ?_
    exact ⟨_, rfl, by rw [resZ, if_pos (by omega), if_neg (lstB_f m16)], QC_refl h4, rfl⟩
set_option maxRecDepth 20000 in
set_option maxHeartbeats 400000 in
theorem rest_cn {X : pX} {I J : IM} {h : Nat} {lw : Lw} {n : Nat} (hc : CchI I lw n) (what : Int) (hw : rg what) (h012 : ¬ (0 ≤ what ∧ what ≤ 2)) : KIq X (h + 6) mX11_rest [.ref 0, zi what] I J (fun z A B => z = resZ lw (I 7) (I 8) (I 9) (I 10) n what ∧ QC I lw n A ∧ J = B) := by
  show Rz X (h + 6) mX11_rest 0 [some (.ref 0), some (zi what)] [] I J _
  refine rz_iload_n dX11_rest_0 rfl ?_
  refine rz_if_lt (t := 9) dX11_rest_1 rfl (by omega) (fun c1 => ?_) (fun c1 => ?_)
  · refine rz_ldc (x := (-2000000000)) dX11_rest_9 kk_RX11_187 (by decide) ?_
    refine rz_iret dX11_rest_11 rfl ?_
    exact ⟨_, rfl, by rw [resZ, if_neg (by omega)], QC_refl hc, rfl⟩
  · refine rz_iload_n dX11_rest_4 rfl ?_
    refine rz_iconst dX11_rest_5 ?_
    refine rz_icmp_le (t := 12) dX11_rest_6 rfl (by omega) (by omega) (fun c6 => ?_) (fun c6 => ?_)
    · exfalso; omega
    · refine rz_ldc (x := (-2000000000)) dX11_rest_9 kk_RX11_187 (by decide) ?_
      refine rz_iret dX11_rest_11 rfl ?_
      exact ⟨_, rfl, by rw [resZ, if_neg (by omega)], QC_refl hc, rfl⟩
theorem c_X11_rest {X : pX} {I J : IM} {h : Nat} {lw : Lw} {n : Nat} {m0 m1 : Mx} (hq : CqI I lw n m0 m1) (what : Int) (hw : rg what) : KIq X (h + 6) mX11_rest [.ref 0, zi what] I J (fun z A B => z = resZ lw (I 7) (I 8) (I 9) (I 10) n what ∧ QC I lw n A ∧ J = B) := by
  by_cases e : 0 ≤ what ∧ what ≤ 2
  · have h3 : what = 0 ∨ what = 1 ∨ what = 2 := by omega
    rcases h3 with rfl | rfl | rfl
    · exact rest_c0 hq
    · exact rest_c1 hq
    · exact rest_c2 hq
  · exact rest_cn hq.2.2.2.1 what hw e
