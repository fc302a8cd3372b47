/-! of -/
def ofB (Q : Nat → Int) (n : Nat) (m : Mx) (b : Nat) (what : Int) : Int := if what = 0 then Q b else if what = 1 then (m.1 : Int) else if what = 2 then sumP m.2.1 m.1 else ((rowsL n (Q b).toNat true).length : Int)
def ofZ (W T U Q : Nat → Int) (n : Nat) (m0 m1 : Mx) (b what : Int) : Int := if 0 ≤ what ∧ what ≤ 3 then (if b = 0 then ofB Q n m0 0 what else if b = 1 then ofB Q n m1 1 what else -1) else if (0 ≤ b ∧ b < n) ∧ 10 ≤ what ∧ what ≤ 12 then (if what = 10 then W b.toNat else if what = 11 then T b.toNat else U b.toNat) else -1
theorem MixC_sum {I : IM} {o : Nat} {m : Mx} (h : MixC I o m) : sumP (I (o + 1)) m.1 = sumP m.2.1 m.1 := sumP_congr (fun i hi => (h.2 i hi).1.1)
theorem MixR_sum {I : IM} {b : Nat} {m : Mx} (h : MixR I b m) : sumP (fun k => I 87 (8 * b + k)) m.1 = sumP m.2.1 m.1 := sumP_congr (fun i hi => (h.2 i hi).1.1)
theorem ofB_0 {Q : Nat → Int} {n b : Nat} {m : Mx} {what : Int} (h : what = 0) : ofB Q n m b what = Q b := if_pos h
theorem ofB_1 {Q : Nat → Int} {n b : Nat} {m : Mx} {what : Int} (h : what = 1) : ofB Q n m b what = (m.1 : Int) := by subst h; rfl
theorem ofB_2 {Q : Nat → Int} {n b : Nat} {m : Mx} {what : Int} (h : what = 2) : ofB Q n m b what = sumP m.2.1 m.1 := by subst h; rfl
theorem ofB_3 {Q : Nat → Int} {n b : Nat} {m : Mx} {what : Int} (h : what ≠ 0 ∧ what ≠ 1 ∧ what ≠ 2) : ofB Q n m b what = ((rowsL n (Q b).toNat true).length : Int) := by unfold ofB; rw [if_neg h.1, if_neg h.2.1, if_neg h.2.2]
set_option maxRecDepth 20000 in
set_option maxHeartbeats 400000 in
theorem c_ofBaker0 {X : pX} {I J : IM} {h : Nat} (n : Nat) (hn : I 6 0 = n ∧ n ≤ 5) (m : Mx) (hm : MixC I 14 m) (hQ : 0 ≤ I 10 0 ∧ I 10 0 ≤ 9) (what : Int) (hw : rg what) : KI X (h + 1) mX11_ofBaker [.ref 0, zi 0, zi what] I J (ofB (I 10) n m 0 what) I J := by
  show Rz X (h + 1) mX11_ofBaker 0 [some (.ref 0), some (zi 0), some (zi what)] [] I J _
  refine rz_iload_n dX11_ofBaker_0 rfl ?_
  by_cases s1_0 : what = 0
  · subst s1_0
    refine rz_tableIn (t := 28) dX11_ofBaker_1 (by omega) (by decide) rfl rfl ?_
    refine rz_aload_n dX11_ofBaker_28 rfl ?_
    refine rz_getR dX11_ofBaker_29 kf_RX11_21 hd_0 rfl rr_0_1 ?_
    refine rz_getR dX11_ofBaker_32 kf_RX11_131 hd_6 rfl rr_6_4 ?_
    refine rz_iload_n dX11_ofBaker_35 rfl ?_
    refine rz_iald (z := (I 10 0)) dX11_ofBaker_36 hd_10 (by decide) (by omega) rfl ?_
    refine rz_iret dX11_ofBaker_37 rfl ?_
    exact ⟨_, rfl, (ofB_0 rfl).symm, rfl, rfl⟩
  by_cases s1_1 : what = 1
  · subst s1_1
    refine rz_tableIn (t := 38) dX11_ofBaker_1 (by omega) (by decide) rfl rfl ?_
    refine rz_aload_n dX11_ofBaker_38 rfl ?_
    refine rz_getR dX11_ofBaker_39 kf_RX11_28 hd_0 rfl rr_0_2 ?_
    refine rz_iload_n dX11_ofBaker_42 rfl ?_
    refine rz_aald (by decide) dX11_ofBaker_43 hd_13 (by decide) (by decide) rr_13_0 ?_
    refine rz_getI (z := (m.1 : Int)) dX11_ofBaker_44 kf_RX11_134 hd_14 rfl (hm.1.1) ?_
    refine rz_iret dX11_ofBaker_47 rfl ?_
    exact ⟨_, rfl, (ofB_1 rfl).symm, rfl, rfl⟩
  by_cases s1_2 : what = 2
  · subst s1_2
    refine rz_tableIn (t := 48) dX11_ofBaker_1 (by omega) (by decide) rfl rfl ?_
    refine rz_aload_n dX11_ofBaker_48 rfl ?_
    refine rz_getR dX11_ofBaker_49 kf_RX11_28 hd_0 rfl rr_0_2 ?_
    refine rz_iload_n dX11_ofBaker_52 rfl ?_
    refine rz_aald (by decide) dX11_ofBaker_53 hd_13 (by decide) (by decide) rr_13_0 ?_
    refine rz_cVI dX11_ofBaker_54 kl_RX11_137 hd_14 ⟨_, _, rfl⟩ (c_weight14 X _ I J m.1 hm.1) rfl rfl (Nat.le_of_ble_eq_true rfl) (Nat.le_of_ble_eq_true rfl) ?_
    refine rz_ieq (y := sumP m.2.1 m.1) (MixC_sum hm).symm ?_
    refine rz_iret dX11_ofBaker_57 rfl ?_
    exact ⟨_, rfl, (ofB_2 rfl).symm, rfl, rfl⟩
  refine rz_tableOut (t := 58) dX11_ofBaker_1 (by omega) (by omega) rfl ?_
  refine rz_aload_n dX11_ofBaker_58 rfl ?_
  refine rz_getR dX11_ofBaker_59 kf_RX11_21 hd_0 rfl rr_0_1 ?_
  refine rz_iload_n dX11_ofBaker_62 rfl ?_
  refine rz_cVI dX11_ofBaker_63 kl_RX11_141 hd_6 ⟨_, _, rfl⟩ ((show KI X _ mX8_fullPartings [.ref 6, zi 0] I J _ I J from c_X8_fullPartings n hn 0 (I 10 0).toNat (by decide) ⟨by omega, by omega⟩)) rfl rfl (Nat.le_of_ble_eq_true rfl) (Nat.le_of_ble_eq_true rfl) ?_
  refine rz_ieq (y := ((rowsL n (I 10 0).toNat true).length : Int)) (by rw [fp_rows n hn.2 _ (by omega)]) ?_
  refine rz_iret dX11_ofBaker_66 rfl ?_
  exact ⟨_, rfl, (ofB_3 ⟨by omega, by omega, by omega⟩).symm, rfl, rfl⟩
set_option maxRecDepth 20000 in
set_option maxHeartbeats 400000 in
theorem of_c0 {X : pX} {I J : IM} {h : Nat} {lw : Lw} {n : Nat} {m0 m1 : Mx} (hq : CqI I lw n m0 m1) (what : Int) (hw : rg what) (h03 : 0 ≤ what ∧ what ≤ 3) : KIq X (h + 2) mX11_of [.ref 0, zi 0, zi what] I J (fun z A B => z = ofZ (I 7) (I 8) (I 9) (I 10) n m0 m1 0 what ∧ QC I lw n A ∧ J = B) := by
  obtain ⟨h1, h2, h3, h4, h5, h6, h7⟩ := hq
  have h8 := h7 0 (by decide)
  show Rz X (h + 2) mX11_of 0 [some (.ref 0), some (zi 0), some (zi what)] [] I J _
  refine rz_iload_n dX11_of_0 rfl ?_
  refine rz_if_lt (t := 27) dX11_of_1 rfl (by omega) (fun c1 => ?_) (fun c1 => ?_)
  · exfalso; omega
  · refine rz_iload_n dX11_of_4 rfl ?_
    refine rz_iconst dX11_of_5 ?_
    refine rz_icmp_gt (t := 27) dX11_of_6 rfl (by omega) (by omega) (fun c6 => ?_) (fun c6 => ?_)
    · exfalso; omega
    · refine rz_iload_n dX11_of_9 rfl ?_
      refine rz_cSIq dX11_of_10 kl_RX11_112 (c_X11_isBaker X _ I J 0 (by omega)) rfl rfl (Nat.le_of_ble_eq_true rfl) (Nat.le_of_ble_eq_true rfl) ?_
      rintro z10 A10 B10 ⟨⟨rfl, b10⟩ | ⟨rfl, b10⟩, rfl, rfl⟩
      · refine rz_if_eq (t := 25) dX11_of_13 rfl (by omega) (fun q => absurd q (by decide)) (fun _ => ?_)
        refine rz_aload_n dX11_of_16 rfl ?_
        refine rz_iload_n dX11_of_17 rfl ?_
        refine rz_iload_n dX11_of_18 rfl ?_
        refine rz_cVI dX11_of_19 kl_RX11_116 hd_0 ⟨_, _, rfl⟩ (c_ofBaker0 n h2 m0 h5 h8 what hw) rfl rfl (Nat.le_of_ble_eq_true rfl) (Nat.le_of_ble_eq_true rfl) ?_
        refine rz_goto (t := 26) dX11_of_22 rfl ?_
        refine rz_iret dX11_of_26 rfl ?_
        exact ⟨_, rfl, by rw [ofZ, if_pos h03, if_pos rfl], QC_refl h4, rfl⟩
      · exfalso; omega
set_option maxRecDepth 20000 in
set_option maxHeartbeats 400000 in
theorem c_ofBaker1 {X : pX} {I J : IM} {h : Nat} (n : Nat) (hn : I 6 0 = n ∧ n ≤ 5) (m : Mx) (hm : MixC I 17 m) (hQ : 0 ≤ I 10 1 ∧ I 10 1 ≤ 9) (what : Int) (hw : rg what) : KI X (h + 1) mX11_ofBaker [.ref 0, zi 1, zi what] I J (ofB (I 10) n m 1 what) I J := by
  show Rz X (h + 1) mX11_ofBaker 0 [some (.ref 0), some (zi 1), some (zi what)] [] I J _
  refine rz_iload_n dX11_ofBaker_0 rfl ?_
  by_cases s1_0 : what = 0
  · subst s1_0
    refine rz_tableIn (t := 28) dX11_ofBaker_1 (by omega) (by decide) rfl rfl ?_
    refine rz_aload_n dX11_ofBaker_28 rfl ?_
    refine rz_getR dX11_ofBaker_29 kf_RX11_21 hd_0 rfl rr_0_1 ?_
    refine rz_getR dX11_ofBaker_32 kf_RX11_131 hd_6 rfl rr_6_4 ?_
    refine rz_iload_n dX11_ofBaker_35 rfl ?_
    refine rz_iald (z := (I 10 1)) dX11_ofBaker_36 hd_10 (by decide) (by omega) rfl ?_
    refine rz_iret dX11_ofBaker_37 rfl ?_
    exact ⟨_, rfl, (ofB_0 rfl).symm, rfl, rfl⟩
  by_cases s1_1 : what = 1
  · subst s1_1
    refine rz_tableIn (t := 38) dX11_ofBaker_1 (by omega) (by decide) rfl rfl ?_
    refine rz_aload_n dX11_ofBaker_38 rfl ?_
    refine rz_getR dX11_ofBaker_39 kf_RX11_28 hd_0 rfl rr_0_2 ?_
    refine rz_iload_n dX11_ofBaker_42 rfl ?_
    refine rz_aald (by decide) dX11_ofBaker_43 hd_13 (by decide) (by decide) rr_13_1 ?_
    refine rz_getI (z := (m.1 : Int)) dX11_ofBaker_44 kf_RX11_134 hd_17 rfl (hm.1.1) ?_
    refine rz_iret dX11_ofBaker_47 rfl ?_
    exact ⟨_, rfl, (ofB_1 rfl).symm, rfl, rfl⟩
  by_cases s1_2 : what = 2
  · subst s1_2
    refine rz_tableIn (t := 48) dX11_ofBaker_1 (by omega) (by decide) rfl rfl ?_
    refine rz_aload_n dX11_ofBaker_48 rfl ?_
    refine rz_getR dX11_ofBaker_49 kf_RX11_28 hd_0 rfl rr_0_2 ?_
    refine rz_iload_n dX11_ofBaker_52 rfl ?_
    refine rz_aald (by decide) dX11_ofBaker_53 hd_13 (by decide) (by decide) rr_13_1 ?_
    refine rz_cVI dX11_ofBaker_54 kl_RX11_137 hd_17 ⟨_, _, rfl⟩ (c_weight17 X _ I J m.1 hm.1) rfl rfl (Nat.le_of_ble_eq_true rfl) (Nat.le_of_ble_eq_true rfl) ?_
    refine rz_ieq (y := sumP m.2.1 m.1) (MixC_sum hm).symm ?_
    refine rz_iret dX11_ofBaker_57 rfl ?_
    exact ⟨_, rfl, (ofB_2 rfl).symm, rfl, rfl⟩
  refine rz_tableOut (t := 58) dX11_ofBaker_1 (by omega) (by omega) rfl ?_
  refine rz_aload_n dX11_ofBaker_58 rfl ?_
  refine rz_getR dX11_ofBaker_59 kf_RX11_21 hd_0 rfl rr_0_1 ?_
  refine rz_iload_n dX11_ofBaker_62 rfl ?_
  refine rz_cVI dX11_ofBaker_63 kl_RX11_141 hd_6 ⟨_, _, rfl⟩ ((show KI X _ mX8_fullPartings [.ref 6, zi 1] I J _ I J from c_X8_fullPartings n hn 1 (I 10 1).toNat (by decide) ⟨by omega, by omega⟩)) rfl rfl (Nat.le_of_ble_eq_true rfl) (Nat.le_of_ble_eq_true rfl) ?_
  refine rz_ieq (y := ((rowsL n (I 10 1).toNat true).length : Int)) (by rw [fp_rows n hn.2 _ (by omega)]) ?_
  refine rz_iret dX11_ofBaker_66 rfl ?_
  exact ⟨_, rfl, (ofB_3 ⟨by omega, by omega, by omega⟩).symm, rfl, rfl⟩
set_option maxRecDepth 20000 in
set_option maxHeartbeats 400000 in
theorem of_c1 {X : pX} {I J : IM} {h : Nat} {lw : Lw} {n : Nat} {m0 m1 : Mx} (hq : CqI I lw n m0 m1) (what : Int) (hw : rg what) (h03 : 0 ≤ what ∧ what ≤ 3) : KIq X (h + 2) mX11_of [.ref 0, zi 1, zi what] I J (fun z A B => z = ofZ (I 7) (I 8) (I 9) (I 10) n m0 m1 1 what ∧ QC I lw n A ∧ J = B) := by
  obtain ⟨h1, h2, h3, h4, h5, h6, h7⟩ := hq
  have h8 := h7 1 (by decide)
  show Rz X (h + 2) mX11_of 0 [some (.ref 0), some (zi 1), some (zi what)] [] I J _
  refine rz_iload_n dX11_of_0 rfl ?_
  refine rz_if_lt (t := 27) dX11_of_1 rfl (by omega) (fun c1 => ?_) (fun c1 => ?_)
  · exfalso; omega
  · refine rz_iload_n dX11_of_4 rfl ?_
    refine rz_iconst dX11_of_5 ?_
    refine rz_icmp_gt (t := 27) dX11_of_6 rfl (by omega) (by omega) (fun c6 => ?_) (fun c6 => ?_)
    · exfalso; omega
    · refine rz_iload_n dX11_of_9 rfl ?_
      refine rz_cSIq dX11_of_10 kl_RX11_112 (c_X11_isBaker X _ I J 1 (by omega)) rfl rfl (Nat.le_of_ble_eq_true rfl) (Nat.le_of_ble_eq_true rfl) ?_
      rintro z10 A10 B10 ⟨⟨rfl, b10⟩ | ⟨rfl, b10⟩, rfl, rfl⟩
      · refine rz_if_eq (t := 25) dX11_of_13 rfl (by omega) (fun q => absurd q (by decide)) (fun _ => ?_)
        refine rz_aload_n dX11_of_16 rfl ?_
        refine rz_iload_n dX11_of_17 rfl ?_
        refine rz_iload_n dX11_of_18 rfl ?_
        refine rz_cVI dX11_of_19 kl_RX11_116 hd_0 ⟨_, _, rfl⟩ (c_ofBaker1 n h2 m1 h6 h8 what hw) rfl rfl (Nat.le_of_ble_eq_true rfl) (Nat.le_of_ble_eq_true rfl) ?_
        refine rz_goto (t := 26) dX11_of_22 rfl ?_
        refine rz_iret dX11_of_26 rfl ?_
        exact ⟨_, rfl, by rw [ofZ, if_pos h03, if_neg (by decide), if_pos rfl], QC_refl h4, rfl⟩
      · exfalso; omega
set_option maxRecDepth 20000 in
set_option maxHeartbeats 400000 in
theorem of_cn {X : pX} {I J : IM} {h : Nat} {lw : Lw} {n : Nat} {m0 m1 : Mx} (hq : CqI I lw n m0 m1) (b what : Int) (hb : rg b) (hw : rg what) (h03 : 0 ≤ what ∧ what ≤ 3) (h01 : b ≠ 0 ∧ b ≠ 1) : KIq X (h + 2) mX11_of [.ref 0, zi b, zi what] I J (fun z A B => z = ofZ (I 7) (I 8) (I 9) (I 10) n m0 m1 b what ∧ QC I lw n A ∧ J = B) := by
  obtain ⟨h1, h2, h3, h4, h5, h6, h7⟩ := hq
  show Rz X (h + 2) mX11_of 0 [some (.ref 0), some (zi b), some (zi what)] [] I J _
  refine rz_iload_n dX11_of_0 rfl ?_
  refine rz_if_lt (t := 27) dX11_of_1 rfl (by omega) (fun c1 => ?_) (fun c1 => ?_)
  · exfalso; omega
  · refine rz_iload_n dX11_of_4 rfl ?_
    refine rz_iconst dX11_of_5 ?_
    refine rz_icmp_gt (t := 27) dX11_of_6 rfl (by omega) (by omega) (fun c6 => ?_) (fun c6 => ?_)
    · exfalso; omega
    · refine rz_iload_n dX11_of_9 rfl ?_
      refine rz_cSIq dX11_of_10 kl_RX11_112 (c_X11_isBaker X _ I J b (by omega)) rfl rfl (Nat.le_of_ble_eq_true rfl) (Nat.le_of_ble_eq_true rfl) ?_
      rintro z10 A10 B10 ⟨⟨rfl, b10⟩ | ⟨rfl, b10⟩, rfl, rfl⟩
      · exfalso; omega
      · refine rz_if_eq (t := 25) dX11_of_13 rfl (by omega) (fun _ => ?_) (fun q => absurd q (by decide))
        refine rz_iconst dX11_of_25 ?_
        refine rz_iret dX11_of_26 rfl ?_
        exact ⟨_, rfl, by rw [ofZ, if_pos h03, if_neg (by omega), if_neg (by omega)], QC_refl h4, rfl⟩
set_option maxRecDepth 20000 in
set_option maxHeartbeats 400000 in
theorem of_cv {X : pX} {I J : IM} {h : Nat} {lw : Lw} {n : Nat} {m0 m1 : Mx} (hq : CqI I lw n m0 m1) (b what : Int) (hb : rg b) (hw : rg what) (h03 : ¬ (0 ≤ what ∧ what ≤ 3)) : KIq X (h + 2) mX11_of [.ref 0, zi b, zi what] I J (fun z A B => z = ofZ (I 7) (I 8) (I 9) (I 10) n m0 m1 b what ∧ QC I lw n A ∧ J = B) := by
  obtain ⟨h1, h2, h3, h4, h5, h6, h7⟩ := hq
  show Rz X (h + 2) mX11_of 0 [some (.ref 0), some (zi b), some (zi what)] [] I J _
  refine rz_iload_n dX11_of_0 rfl ?_
  refine rz_if_lt (t := 27) dX11_of_1 rfl (by omega) (fun c1 => ?_) (fun c1 => ?_)
  · refine rz_aload_n dX11_of_27 rfl ?_
    refine rz_getR dX11_of_28 kf_RX11_21 hd_0 rfl rr_0_1 ?_
    refine rz_iload_n dX11_of_31 rfl ?_
    refine rz_cVIq dX11_of_32 kl_RX11_119 hd_6 ⟨_, _, rfl⟩ (c_X8_isVillage X _ I J b (by omega) (by omega)) rfl rfl (Nat.le_of_ble_eq_true rfl) (Nat.le_of_ble_eq_true rfl) ?_
    rintro z32 A32 B32 ⟨⟨rfl, b32⟩ | ⟨rfl, b32⟩, rfl, rfl⟩
    · refine rz_if_ne (t := 40) dX11_of_35 rfl (by omega) (fun _ => ?_) (fun q => absurd q (by decide))
      refine rz_iload_n dX11_of_40 rfl ?_
      by_cases s41_10 : what = 10
      · subst s41_10
        refine rz_tableIn (t := 68) dX11_of_41 (by omega) (by decide) rfl rfl ?_
        refine rz_aload_n dX11_of_68 rfl ?_
        refine rz_getR dX11_of_69 kf_RX11_21 hd_0 rfl rr_0_1 ?_
        refine rz_getR dX11_of_72 kf_RX11_122 hd_6 rfl rr_6_1 ?_
        refine rz_iload_n dX11_of_75 rfl ?_
        refine rz_ialdN (k := b.toNat) (z := (I 7 b.toNat)) dX11_of_76 hd_7 (by decide) (by omega) (by omega) rfl ?_
        refine rz_iret dX11_of_77 rfl ?_
        exact ⟨_, rfl, by rw [ofZ, if_neg h03, if_pos ⟨by omega, by omega⟩]; rfl, QC_refl h4, rfl⟩
      by_cases s41_11 : what = 11
      · subst s41_11
        refine rz_tableIn (t := 78) dX11_of_41 (by omega) (by decide) rfl rfl ?_
        refine rz_aload_n dX11_of_78 rfl ?_
        refine rz_getR dX11_of_79 kf_RX11_21 hd_0 rfl rr_0_1 ?_
        refine rz_getR dX11_of_82 kf_RX11_125 hd_6 rfl rr_6_2 ?_
        refine rz_iload_n dX11_of_85 rfl ?_
        refine rz_ialdN (k := b.toNat) (z := (I 8 b.toNat)) dX11_of_86 hd_8 (by decide) (by omega) (by omega) rfl ?_
        refine rz_iret dX11_of_87 rfl ?_
        exact ⟨_, rfl, by rw [ofZ, if_neg h03, if_pos ⟨by omega, by omega⟩]; rfl, QC_refl h4, rfl⟩
      by_cases s41_12 : what = 12
      · subst s41_12
        refine rz_tableIn (t := 88) dX11_of_41 (by omega) (by decide) rfl rfl ?_
        refine rz_aload_n dX11_of_88 rfl ?_
        refine rz_getR dX11_of_89 kf_RX11_21 hd_0 rfl rr_0_1 ?_
        refine rz_getR dX11_of_92 kf_RX11_128 hd_6 rfl rr_6_3 ?_
        refine rz_iload_n dX11_of_95 rfl ?_
        refine rz_ialdN (k := b.toNat) (z := (I 9 b.toNat)) dX11_of_96 hd_9 (by decide) (by omega) (by omega) rfl ?_
        refine rz_iret dX11_of_97 rfl ?_
        exact ⟨_, rfl, by rw [ofZ, if_neg h03, if_pos ⟨by omega, by omega⟩]; rfl, QC_refl h4, rfl⟩
      refine rz_tableOut (t := 98) dX11_of_41 (by omega) (by omega) rfl ?_
      refine rz_iconst dX11_of_98 ?_
      refine rz_iret dX11_of_99 rfl ?_
      exact ⟨_, rfl, by rw [ofZ, if_neg h03, if_neg (by omega)], QC_refl h4, rfl⟩
    · refine rz_if_ne (t := 40) dX11_of_35 rfl (by omega) (fun q => absurd q (by decide)) (fun _ => ?_)
      refine rz_iconst dX11_of_38 ?_
      refine rz_iret dX11_of_39 rfl ?_
      exact ⟨_, rfl, by rw [ofZ, if_neg h03, if_neg (by omega)], QC_refl h4, rfl⟩
  · refine rz_iload_n dX11_of_4 rfl ?_
    refine rz_iconst dX11_of_5 ?_
    refine rz_icmp_gt (t := 27) dX11_of_6 rfl (by omega) (by omega) (fun c6 => ?_) (fun c6 => ?_)
    · refine rz_aload_n dX11_of_27 rfl ?_
      refine rz_getR dX11_of_28 kf_RX11_21 hd_0 rfl rr_0_1 ?_
      refine rz_iload_n dX11_of_31 rfl ?_
      refine rz_cVIq dX11_of_32 kl_RX11_119 hd_6 ⟨_, _, rfl⟩ (c_X8_isVillage X _ I J b (by omega) (by omega)) rfl rfl (Nat.le_of_ble_eq_true rfl) (Nat.le_of_ble_eq_true rfl) ?_
      rintro z32 A32 B32 ⟨⟨rfl, b32⟩ | ⟨rfl, b32⟩, rfl, rfl⟩
      · refine rz_if_ne (t := 40) dX11_of_35 rfl (by omega) (fun _ => ?_) (fun q => absurd q (by decide))
        refine rz_iload_n dX11_of_40 rfl ?_
        by_cases s41_10 : what = 10
        · subst s41_10
          refine rz_tableIn (t := 68) dX11_of_41 (by omega) (by decide) rfl rfl ?_
          refine rz_aload_n dX11_of_68 rfl ?_
          refine rz_getR dX11_of_69 kf_RX11_21 hd_0 rfl rr_0_1 ?_
          refine rz_getR dX11_of_72 kf_RX11_122 hd_6 rfl rr_6_1 ?_
          refine rz_iload_n dX11_of_75 rfl ?_
          refine rz_ialdN (k := b.toNat) (z := (I 7 b.toNat)) dX11_of_76 hd_7 (by decide) (by omega) (by omega) rfl ?_
          refine rz_iret dX11_of_77 rfl ?_
          exact ⟨_, rfl, by rw [ofZ, if_neg h03, if_pos ⟨by omega, by omega⟩]; rfl, QC_refl h4, rfl⟩
        by_cases s41_11 : what = 11
        · subst s41_11
          refine rz_tableIn (t := 78) dX11_of_41 (by omega) (by decide) rfl rfl ?_
          refine rz_aload_n dX11_of_78 rfl ?_
          refine rz_getR dX11_of_79 kf_RX11_21 hd_0 rfl rr_0_1 ?_
          refine rz_getR dX11_of_82 kf_RX11_125 hd_6 rfl rr_6_2 ?_
          refine rz_iload_n dX11_of_85 rfl ?_
          refine rz_ialdN (k := b.toNat) (z := (I 8 b.toNat)) dX11_of_86 hd_8 (by decide) (by omega) (by omega) rfl ?_
          refine rz_iret dX11_of_87 rfl ?_
          exact ⟨_, rfl, by rw [ofZ, if_neg h03, if_pos ⟨by omega, by omega⟩]; rfl, QC_refl h4, rfl⟩
        by_cases s41_12 : what = 12
        · subst s41_12
          refine rz_tableIn (t := 88) dX11_of_41 (by omega) (by decide) rfl rfl ?_
          refine rz_aload_n dX11_of_88 rfl ?_
          refine rz_getR dX11_of_89 kf_RX11_21 hd_0 rfl rr_0_1 ?_
          refine rz_getR dX11_of_92 kf_RX11_128 hd_6 rfl rr_6_3 ?_
          refine rz_iload_n dX11_of_95 rfl ?_
          refine rz_ialdN (k := b.toNat) (z := (I 9 b.toNat)) dX11_of_96 hd_9 (by decide) (by omega) (by omega) rfl ?_
          refine rz_iret dX11_of_97 rfl ?_
          exact ⟨_, rfl, by rw [ofZ, if_neg h03, if_pos ⟨by omega, by omega⟩]; rfl, QC_refl h4, rfl⟩
        refine rz_tableOut (t := 98) dX11_of_41 (by omega) (by omega) rfl ?_
        refine rz_iconst dX11_of_98 ?_
        refine rz_iret dX11_of_99 rfl ?_
        exact ⟨_, rfl, by rw [ofZ, if_neg h03, if_neg (by omega)], QC_refl h4, rfl⟩
      · refine rz_if_ne (t := 40) dX11_of_35 rfl (by omega) (fun q => absurd q (by decide)) (fun _ => ?_)
        refine rz_iconst dX11_of_38 ?_
        refine rz_iret dX11_of_39 rfl ?_
        exact ⟨_, rfl, by rw [ofZ, if_neg h03, if_neg (by omega)], QC_refl h4, rfl⟩
    · exfalso; omega
theorem c_X11_of {X : pX} {I J : IM} {h : Nat} {lw : Lw} {n : Nat} {m0 m1 : Mx} (hq : CqI I lw n m0 m1) (b what : Int) (hb : rg b) (hw : rg what) : KIq X (h + 2) mX11_of [.ref 0, zi b, zi what] I J (fun z A B => z = ofZ (I 7) (I 8) (I 9) (I 10) n m0 m1 b what ∧ QC I lw n A ∧ J = B) := by
  by_cases h03 : 0 ≤ what ∧ what ≤ 3
  · by_cases e0 : b = 0
    · subst e0; exact of_c0 hq what hw h03
    · by_cases e1 : b = 1
      · subst e1; exact of_c1 hq what hw h03
      · exact of_cn hq b what hb hw h03 ⟨e0, e1⟩
  · exact of_cv hq b what hb hw h03
set_option maxRecDepth 20000 in
set_option maxHeartbeats 400000 in
theorem of_r0 {X : pX} {I J : IM} {h : Nat} {lw : Lw} {n : Nat} {m0 m1 : Mx} (hq : RqI I lw n m0 m1) (what : Int) (hw : rg what) (h12 : ¬ (10 ≤ what ∧ what ≤ 12)) : KIq X (h + 8) mX12_of [.ref 81, zi 0, zi what] I J (fun z A B => z = ofZ (I 82) (I 83) (I 84) (I 85) n m0 m1 0 what ∧ FrR I A ∧ J = B) := by
  obtain ⟨h1, h2, h3, h5, h6, h7⟩ := hq
  have h8 := h7 0 (by decide)
  show Rz X (h + 8) mX12_of 0 [some (.ref 81), some (zi 0), some (zi what)] [] I J _
  refine rz_iload_n dX12_of_0 rfl ?_
  refine rz_bipush dX12_of_1 (by decide) ?_
  refine rz_bipush dX12_of_3 (by decide) ?_
  refine rz_cSIq dX12_of_5 kl_RX12_140 (c_X12_in X _ I J what 10 12 (by omega) (by decide) (by decide)) rfl rfl (Nat.le_of_ble_eq_true rfl) (Nat.le_of_ble_eq_true rfl) ?_
  rintro z5 A5 B5 ⟨⟨rfl, b5⟩ | ⟨rfl, b5⟩, rfl, rfl⟩
  · exfalso; omega
  · refine rz_if_eq (t := 60) dX12_of_8 rfl (by omega) (fun _ => ?_) (fun q => absurd q (by decide))
    refine rz_iload_n dX12_of_60 rfl ?_
    refine rz_cSIq dX12_of_61 kl_RX12_158 (c_X12_isBaker X _ I J 0 (by omega)) rfl rfl (Nat.le_of_ble_eq_true rfl) (Nat.le_of_ble_eq_true rfl) ?_
    rintro z61 A61 B61 ⟨⟨rfl, b61⟩ | ⟨rfl, b61⟩, rfl, rfl⟩
    · refine rz_if_ne (t := 69) dX12_of_64 rfl (by omega) (fun _ => ?_) (fun q => absurd q (by decide))
      refine rz_iload_n dX12_of_69 rfl ?_
      by_cases s70_0 : what = 0
      · subst s70_0
        refine rz_tableIn (t := 100) dX12_of_70 (by omega) (by decide) rfl rfl ?_
        refine rz_aload_n dX12_of_100 rfl ?_
        refine rz_getR dX12_of_101 kf_RX12_19 hd_81 rfl rr_81_5 ?_
        refine rz_iload_n dX12_of_104 rfl ?_
        refine rz_iald (z := (I 85 0)) dX12_of_105 hd_85 (by decide) (by omega) rfl ?_
        refine rz_iret dX12_of_106 rfl ?_
        exact ⟨_, rfl, by rw [ofZ, if_pos (by decide), if_pos rfl, ofB_0 rfl], FrR_refl, rfl⟩
      by_cases s70_1 : what = 1
      · subst s70_1
        refine rz_tableIn (t := 107) dX12_of_70 (by omega) (by decide) rfl rfl ?_
        refine rz_aload_n dX12_of_107 rfl ?_
        refine rz_getR dX12_of_108 kf_RX12_22 hd_81 rfl rr_81_6 ?_
        refine rz_iload_n dX12_of_111 rfl ?_
        refine rz_iald (z := (m0.1 : Int)) dX12_of_112 hd_86 (by decide) (by omega) h5.1.1 ?_
        refine rz_iret dX12_of_113 rfl ?_
        exact ⟨_, rfl, by rw [ofZ, if_pos (by decide), if_pos rfl, ofB_1 rfl], FrR_refl, rfl⟩
      by_cases s70_2 : what = 2
      · subst s70_2
        refine rz_tableIn (t := 114) dX12_of_70 (by omega) (by decide) rfl rfl ?_
        refine rz_aload_n dX12_of_114 rfl ?_
        refine rz_iload_n dX12_of_115 rfl ?_
        refine rz_iconst dX12_of_116 ?_
        refine rz_cVI dX12_of_117 kl_RX12_274 hd_81 ⟨_, _, rfl⟩ (c_X12_weights X _ I J 0 0 m0.1 (by decide) (Or.inl rfl) h5.1) rfl rfl (Nat.le_of_ble_eq_true rfl) (Nat.le_of_ble_eq_true rfl) ?_
        refine rz_ieq (y := sumP m0.2.1 m0.1) (MixR_sum h5).symm ?_
        refine rz_iret dX12_of_120 rfl ?_
        exact ⟨_, rfl, by rw [ofZ, if_pos (by decide), if_pos rfl, ofB_2 rfl], FrR_refl, rfl⟩
      by_cases s70_3 : what = 3
      · subst s70_3
        refine rz_tableIn (t := 121) dX12_of_70 (by omega) (by decide) rfl rfl ?_
        refine rz_aload_n dX12_of_121 rfl ?_
        refine rz_iload_n dX12_of_122 rfl ?_
        refine rz_cVIq dX12_of_123 kl_RX12_278 hd_81 ⟨_, _, rfl⟩ (c_usesUp0 n h2 (I 85 0).toNat ⟨by omega, by omega⟩) rfl rfl (Nat.le_of_ble_eq_true rfl) (Nat.le_of_ble_eq_true rfl) ?_
        rintro _ A123 _ ⟨rfl, ⟨R, W, rfl, hR, hRb⟩, rfl⟩
        refine rz_iret dX12_of_126 rfl ?_
        exact ⟨_, rfl, by rw [ofZ, if_pos (by decide), if_pos rfl, ofB_3 ⟨by decide, by decide, by decide⟩], FrR_lay hRb, rfl⟩
      refine rz_tableOut (t := 127) dX12_of_70 (by omega) (by omega) rfl ?_
      refine rz_iconst dX12_of_127 ?_
      refine rz_iret dX12_of_128 rfl ?_
      exact ⟨_, rfl, by rw [ofZ, if_neg (by omega), if_neg (by omega)], FrR_refl, rfl⟩
    · exfalso; omega
set_option maxRecDepth 20000 in
set_option maxHeartbeats 400000 in
theorem of_r1 {X : pX} {I J : IM} {h : Nat} {lw : Lw} {n : Nat} {m0 m1 : Mx} (hq : RqI I lw n m0 m1) (what : Int) (hw : rg what) (h12 : ¬ (10 ≤ what ∧ what ≤ 12)) : KIq X (h + 8) mX12_of [.ref 81, zi 1, zi what] I J (fun z A B => z = ofZ (I 82) (I 83) (I 84) (I 85) n m0 m1 1 what ∧ FrR I A ∧ J = B) := by
  obtain ⟨h1, h2, h3, h5, h6, h7⟩ := hq
  have h8 := h7 1 (by decide)
  show Rz X (h + 8) mX12_of 0 [some (.ref 81), some (zi 1), some (zi what)] [] I J _
  refine rz_iload_n dX12_of_0 rfl ?_
  refine rz_bipush dX12_of_1 (by decide) ?_
  refine rz_bipush dX12_of_3 (by decide) ?_
  refine rz_cSIq dX12_of_5 kl_RX12_140 (c_X12_in X _ I J what 10 12 (by omega) (by decide) (by decide)) rfl rfl (Nat.le_of_ble_eq_true rfl) (Nat.le_of_ble_eq_true rfl) ?_
  rintro z5 A5 B5 ⟨⟨rfl, b5⟩ | ⟨rfl, b5⟩, rfl, rfl⟩
  · exfalso; omega
  · refine rz_if_eq (t := 60) dX12_of_8 rfl (by omega) (fun _ => ?_) (fun q => absurd q (by decide))
    refine rz_iload_n dX12_of_60 rfl ?_
    refine rz_cSIq dX12_of_61 kl_RX12_158 (c_X12_isBaker X _ I J 1 (by omega)) rfl rfl (Nat.le_of_ble_eq_true rfl) (Nat.le_of_ble_eq_true rfl) ?_
    rintro z61 A61 B61 ⟨⟨rfl, b61⟩ | ⟨rfl, b61⟩, rfl, rfl⟩
    · refine rz_if_ne (t := 69) dX12_of_64 rfl (by omega) (fun _ => ?_) (fun q => absurd q (by decide))
      refine rz_iload_n dX12_of_69 rfl ?_
      by_cases s70_0 : what = 0
      · subst s70_0
        refine rz_tableIn (t := 100) dX12_of_70 (by omega) (by decide) rfl rfl ?_
        refine rz_aload_n dX12_of_100 rfl ?_
        refine rz_getR dX12_of_101 kf_RX12_19 hd_81 rfl rr_81_5 ?_
        refine rz_iload_n dX12_of_104 rfl ?_
        refine rz_iald (z := (I 85 1)) dX12_of_105 hd_85 (by decide) (by omega) rfl ?_
        refine rz_iret dX12_of_106 rfl ?_
        exact ⟨_, rfl, by rw [ofZ, if_pos (by decide), if_neg (by decide), if_pos rfl, ofB_0 rfl], FrR_refl, rfl⟩
      by_cases s70_1 : what = 1
      · subst s70_1
        refine rz_tableIn (t := 107) dX12_of_70 (by omega) (by decide) rfl rfl ?_
        refine rz_aload_n dX12_of_107 rfl ?_
        refine rz_getR dX12_of_108 kf_RX12_22 hd_81 rfl rr_81_6 ?_
        refine rz_iload_n dX12_of_111 rfl ?_
        refine rz_iald (z := (m1.1 : Int)) dX12_of_112 hd_86 (by decide) (by omega) h6.1.1 ?_
        refine rz_iret dX12_of_113 rfl ?_
        exact ⟨_, rfl, by rw [ofZ, if_pos (by decide), if_neg (by decide), if_pos rfl, ofB_1 rfl], FrR_refl, rfl⟩
      by_cases s70_2 : what = 2
      · subst s70_2
        refine rz_tableIn (t := 114) dX12_of_70 (by omega) (by decide) rfl rfl ?_
        refine rz_aload_n dX12_of_114 rfl ?_
        refine rz_iload_n dX12_of_115 rfl ?_
        refine rz_iconst dX12_of_116 ?_
        refine rz_cVI dX12_of_117 kl_RX12_274 hd_81 ⟨_, _, rfl⟩ (c_X12_weights X _ I J 1 0 m1.1 (by decide) (Or.inl rfl) h6.1) rfl rfl (Nat.le_of_ble_eq_true rfl) (Nat.le_of_ble_eq_true rfl) ?_
        refine rz_ieq (y := sumP m1.2.1 m1.1) (MixR_sum h6).symm ?_
        refine rz_iret dX12_of_120 rfl ?_
        exact ⟨_, rfl, by rw [ofZ, if_pos (by decide), if_neg (by decide), if_pos rfl, ofB_2 rfl], FrR_refl, rfl⟩
      by_cases s70_3 : what = 3
      · subst s70_3
        refine rz_tableIn (t := 121) dX12_of_70 (by omega) (by decide) rfl rfl ?_
        refine rz_aload_n dX12_of_121 rfl ?_
        refine rz_iload_n dX12_of_122 rfl ?_
        refine rz_cVIq dX12_of_123 kl_RX12_278 hd_81 ⟨_, _, rfl⟩ (c_usesUp1 n h2 (I 85 1).toNat ⟨by omega, by omega⟩) rfl rfl (Nat.le_of_ble_eq_true rfl) (Nat.le_of_ble_eq_true rfl) ?_
        rintro _ A123 _ ⟨rfl, ⟨R, W, rfl, hR, hRb⟩, rfl⟩
        refine rz_iret dX12_of_126 rfl ?_
        exact ⟨_, rfl, by rw [ofZ, if_pos (by decide), if_neg (by decide), if_pos rfl, ofB_3 ⟨by decide, by decide, by decide⟩], FrR_lay hRb, rfl⟩
      refine rz_tableOut (t := 127) dX12_of_70 (by omega) (by omega) rfl ?_
      refine rz_iconst dX12_of_127 ?_
      refine rz_iret dX12_of_128 rfl ?_
      exact ⟨_, rfl, by rw [ofZ, if_neg (by omega), if_neg (by omega)], FrR_refl, rfl⟩
    · exfalso; omega
set_option maxRecDepth 20000 in
set_option maxHeartbeats 400000 in
theorem of_rn {X : pX} {I J : IM} {h : Nat} {n : Nat} {m0 m1 : Mx} (b what : Int) (hb : rg b) (hw : rg what) (h12 : ¬ (10 ≤ what ∧ what ≤ 12)) (h01 : b ≠ 0 ∧ b ≠ 1) : KIq X (h + 8) mX12_of [.ref 81, zi b, zi what] I J (fun z A B => z = ofZ (I 82) (I 83) (I 84) (I 85) n m0 m1 b what ∧ FrR I A ∧ J = B) := by
  show Rz X (h + 8) mX12_of 0 [some (.ref 81), some (zi b), some (zi what)] [] I J _
  refine rz_iload_n dX12_of_0 rfl ?_
  refine rz_bipush dX12_of_1 (by decide) ?_
  refine rz_bipush dX12_of_3 (by decide) ?_
  refine rz_cSIq dX12_of_5 kl_RX12_140 (c_X12_in X _ I J what 10 12 (by omega) (by decide) (by decide)) rfl rfl (Nat.le_of_ble_eq_true rfl) (Nat.le_of_ble_eq_true rfl) ?_
  rintro z5 A5 B5 ⟨⟨rfl, b5⟩ | ⟨rfl, b5⟩, rfl, rfl⟩
  · exfalso; omega
  · refine rz_if_eq (t := 60) dX12_of_8 rfl (by omega) (fun _ => ?_) (fun q => absurd q (by decide))
    refine rz_iload_n dX12_of_60 rfl ?_
    refine rz_cSIq dX12_of_61 kl_RX12_158 (c_X12_isBaker X _ I J b (by omega)) rfl rfl (Nat.le_of_ble_eq_true rfl) (Nat.le_of_ble_eq_true rfl) ?_
    rintro z61 A61 B61 ⟨⟨rfl, b61⟩ | ⟨rfl, b61⟩, rfl, rfl⟩
    · exfalso; omega
    · refine rz_if_ne (t := 69) dX12_of_64 rfl (by omega) (fun q => absurd q (by decide)) (fun _ => ?_)
      refine rz_iconst dX12_of_67 ?_
      refine rz_iret dX12_of_68 rfl ?_
      exact ⟨_, rfl, by by_cases q : 0 ≤ what ∧ what ≤ 3; (rw [ofZ, if_pos q, if_neg (by omega), if_neg (by omega)]); (rw [ofZ, if_neg q, if_neg (by omega)]), FrR_refl, rfl⟩
set_option maxRecDepth 20000 in
set_option maxHeartbeats 400000 in
theorem of_rv {X : pX} {I J : IM} {h : Nat} {lw : Lw} {n : Nat} {m0 m1 : Mx} (hq : RqI I lw n m0 m1) (b what : Int) (hb : rg b) (hw : rg what) (h12 : 10 ≤ what ∧ what ≤ 12) : KIq X (h + 8) mX12_of [.ref 81, zi b, zi what] I J (fun z A B => z = ofZ (I 82) (I 83) (I 84) (I 85) n m0 m1 b what ∧ FrR I A ∧ J = B) := by
  obtain ⟨h1, h2, h3, h5, h6, h7⟩ := hq
  show Rz X (h + 8) mX12_of 0 [some (.ref 81), some (zi b), some (zi what)] [] I J _
  refine rz_iload_n dX12_of_0 rfl ?_
  refine rz_bipush dX12_of_1 (by decide) ?_
  refine rz_bipush dX12_of_3 (by decide) ?_
  refine rz_cSIq dX12_of_5 kl_RX12_140 (c_X12_in X _ I J what 10 12 (by omega) (by decide) (by decide)) rfl rfl (Nat.le_of_ble_eq_true rfl) (Nat.le_of_ble_eq_true rfl) ?_
  rintro z5 A5 B5 ⟨⟨rfl, b5⟩ | ⟨rfl, b5⟩, rfl, rfl⟩
  · refine rz_if_eq (t := 60) dX12_of_8 rfl (by omega) (fun q => absurd q (by decide)) (fun _ => ?_)
    refine rz_aload_n dX12_of_11 rfl ?_
    refine rz_iload_n dX12_of_12 rfl ?_
    refine rz_cVIq dX12_of_13 kl_RX12_166 hd_81 ⟨_, _, rfl⟩ (c_X12_isVillage X _ I J b (by omega) (by omega)) rfl rfl (Nat.le_of_ble_eq_true rfl) (Nat.le_of_ble_eq_true rfl) ?_
    rintro z13 A13 B13 ⟨⟨rfl, b13⟩ | ⟨rfl, b13⟩, rfl, rfl⟩
    · refine rz_if_ne (t := 23) dX12_of_16 rfl (by omega) (fun _ => ?_) (fun q => absurd q (by decide))
      refine rz_iload_n dX12_of_23 rfl ?_
      refine rz_bipush dX12_of_24 (by decide) ?_
      refine rz_icmp_ne (t := 38) dX12_of_26 rfl (by omega) (by omega) (fun c26 => ?_) (fun c26 => ?_)
      · refine rz_iload_n dX12_of_38 rfl ?_
        refine rz_bipush dX12_of_39 (by decide) ?_
        refine rz_icmp_ne (t := 53) dX12_of_41 rfl (by omega) (by omega) (fun c41 => ?_) (fun c41 => ?_)
        · refine rz_aload_n dX12_of_53 rfl ?_
          refine rz_getR dX12_of_54 kf_RX12_16 hd_81 rfl rr_81_4 ?_
          refine rz_iload_n dX12_of_57 rfl ?_
          refine rz_ialdN (k := b.toNat) (z := (I 84 b.toNat)) dX12_of_58 hd_84 (by decide) (by omega) (by omega) rfl ?_
          refine rz_iret dX12_of_59 rfl ?_
          exact ⟨_, rfl, by rw [ofZ, if_neg (by omega), if_pos ⟨by omega, by omega⟩, if_neg (by omega), if_neg (by omega)], FrR_refl, rfl⟩
        · refine rz_aload_n dX12_of_44 rfl ?_
          refine rz_getR dX12_of_45 kf_RX12_13 hd_81 rfl rr_81_3 ?_
          refine rz_iload_n dX12_of_48 rfl ?_
          refine rz_ialdN (k := b.toNat) (z := (I 83 b.toNat)) dX12_of_49 hd_83 (by decide) (by omega) (by omega) rfl ?_
          refine rz_goto (t := 59) dX12_of_50 rfl ?_
          refine rz_iret dX12_of_59 rfl ?_
          exact ⟨_, rfl, by rw [ofZ, if_neg (by omega), if_pos ⟨by omega, by omega⟩, if_neg (by omega), if_pos (by omega)], FrR_refl, rfl⟩
      · refine rz_aload_n dX12_of_29 rfl ?_
        refine rz_getR dX12_of_30 kf_RX12_7 hd_81 rfl rr_81_2 ?_
        refine rz_iload_n dX12_of_33 rfl ?_
        refine rz_ialdN (k := b.toNat) (z := (I 82 b.toNat)) dX12_of_34 hd_82 (by decide) (by omega) (by omega) rfl ?_
        refine rz_goto (t := 59) dX12_of_35 rfl ?_
        refine rz_iret dX12_of_59 rfl ?_
        exact ⟨_, rfl, by rw [ofZ, if_neg (by omega), if_pos ⟨by omega, by omega⟩, if_pos (by omega)], FrR_refl, rfl⟩
    · refine rz_if_ne (t := 23) dX12_of_16 rfl (by omega) (fun q => absurd q (by decide)) (fun _ => ?_)
      refine rz_iconst dX12_of_19 ?_
      refine rz_goto (t := 59) dX12_of_20 rfl ?_
      refine rz_iret dX12_of_59 rfl ?_
      exact ⟨_, rfl, by rw [ofZ, if_neg (by omega), if_neg (by omega)], FrR_refl, rfl⟩
  · exfalso; omega
theorem c_X12_of {X : pX} {I J : IM} {h : Nat} {lw : Lw} {n : Nat} {m0 m1 : Mx} (hq : RqI I lw n m0 m1) (b what : Int) (hb : rg b) (hw : rg what) : KIq X (h + 8) mX12_of [.ref 81, zi b, zi what] I J (fun z A B => z = ofZ (I 82) (I 83) (I 84) (I 85) n m0 m1 b what ∧ FrR I A ∧ J = B) := by
  by_cases h12 : 10 ≤ what ∧ what ≤ 12
  · exact of_rv hq b what hb hw h12
  · by_cases e0 : b = 0
    · subst e0; exact of_r0 hq what hw h12
    · by_cases e1 : b = 1
      · subst e1; exact of_r1 hq what hw h12
      · exact of_rn b what hb hw h12 ⟨e0, e1⟩
