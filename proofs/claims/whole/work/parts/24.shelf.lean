/-! shelves, letters, bodies -/
theorem sh_rr : ∀ k : Nat, k < 6 → R0 66 k = some (67 + 2 * k) := by decide +kernel
theorem sh_hd : ∀ k : Nat, k < 6 → HD0[67 + 2 * k]? = some (0, 7, 0) := by decide +kernel
theorem el_rr : ∀ k : Nat, k < 6 → R0 (67 + 2 * k) 4 = some (68 + 2 * k) := by decide +kernel
theorem el_hd : ∀ k : Nat, k < 6 → HD0[68 + 2 * k]? = some (2, 4, 60) := by decide +kernel
theorem rr_sh {v : Int} (h : 0 ≤ v ∧ v ≤ 5) : R0 66 v.toNat = some (67 + 2 * v.toNat) := sh_rr _ (by omega)
theorem hd_sh {v : Int} (h : 0 ≤ v ∧ v ≤ 5) : HD0[67 + 2 * v.toNat]? = some (0, 7, 0) := sh_hd _ (by omega)
theorem rr_el {v : Int} (h : 0 ≤ v ∧ v ≤ 5) : R0 (67 + 2 * v.toNat) 4 = some (68 + 2 * v.toNat) := el_rr _ (by omega)
theorem hd_el {v : Int} (h : 0 ≤ v ∧ v ≤ 5) : HD0[68 + 2 * v.toNat]? = some (2, 4, 60) := el_hd _ (by omega)
theorem bm8r (z : Int) : -128 ≤ z.bmod 256 ∧ z.bmod 256 ≤ 127 := by
  have h1 := Int.le_bmod (x := z) (m := 256) (by decide)
  have h2 := Int.bmod_lt (x := z) (m := 256) (by decide)
  omega
theorem bm16r (z : Int) : -32768 ≤ z.bmod 65536 ∧ z.bmod 65536 ≤ 32767 := by
  have h1 := Int.le_bmod (x := z) (m := 65536) (by decide)
  have h2 := Int.bmod_lt (x := z) (m := 65536) (by decide)
  omega
theorem bm32r (z : Int) : -2147483648 ≤ z.bmod 4294967296 ∧ z.bmod 4294967296 ≤ 2147483647 := by
  have h1 := Int.le_bmod (x := z) (m := 4294967296) (by decide)
  have h2 := Int.bmod_lt (x := z) (m := 4294967296) (by decide)
  omega
theorem iz_bm (z : Int) : iz (z.bmod 4294967296) = iz z := by
  have h := bm32r z
  rw [← Int32.toInt_inj, iz_toInt h]
  exact (Int32.toInt_ofInt (n := z)).symm
theorem rz_l2iw {X : pX} {h : Nat} {mi : MI} {pc : Nat} {ls : List (Option Value)} {st : List Value} {I J : IM} {P : Option Value → IM → IM → Prop} {x : Int} (hd : decode mi.2.1 pc = .ok (.l2i, 1)) (k : Rz X h mi (pc + 1) ls (zi (x.bmod 4294967296) :: st) I J P) : Rz X h mi pc ls (zl x :: st) I J P :=
  rz_l2i hd (by rw [show zi x = zi (x.bmod 4294967296) from congrArg Value.int (iz_bm x).symm]; exact k)
theorem lcZ_rg (a b : Int) : rg (lcZ a b) := by unfold lcZ; (repeat' split) <;> omega
theorem lcZ_0 {a b : Int} : lcZ a b = 0 ↔ a = b := by unfold lcZ; (repeat' split) <;> omega
theorem lcZ_lt {a b : Int} : lcZ a b < 0 ↔ a < b := by unfold lcZ; (repeat' split) <;> omega
theorem lcZ_gt {a b : Int} : 0 < lcZ a b ↔ b < a := by unfold lcZ; (repeat' split) <;> omega
def lowZ (s x : Int) : Int := if s = 0 then x.bmod 256 else if s = 1 then x.bmod 65536 else if s = 2 then x.bmod 4294967296 else if s = 3 then x else if x = 0 then 0 else 1
theorem low_0 {s x : Int} (h : s = 0) : lowZ s x = x.bmod 256 := if_pos h
theorem low_1 {s x : Int} (h : s = 1) : lowZ s x = x.bmod 65536 := by subst h; rfl
theorem low_2 {s x : Int} (h : s = 2) : lowZ s x = x.bmod 4294967296 := by subst h; rfl
theorem low_3 {s x : Int} (h : s = 3) : lowZ s x = x := by subst h; rfl
theorem low_4 {s x : Int} (h : s ≠ 0 ∧ s ≠ 1 ∧ s ≠ 2 ∧ s ≠ 3) (hx : x = 0) : lowZ s x = 0 := by
  unfold lowZ; rw [if_neg h.1, if_neg h.2.1, if_neg h.2.2.1, if_neg h.2.2.2, if_pos hx]
theorem low_5 {s x : Int} (h : s ≠ 0 ∧ s ≠ 1 ∧ s ≠ 2 ∧ s ≠ 3) (hx : x ≠ 0) : lowZ s x = 1 := by
  unfold lowZ; rw [if_neg h.1, if_neg h.2.1, if_neg h.2.2.1, if_neg h.2.2.2, if_neg hx]
def refZ (c n i : Int) : Int := if c = 0 then -11 else if c ≠ 2 then -12 else if i < 0 ∨ n ≤ i then -13 else 0
theorem refZ_rg (c n i : Int) : rg (refZ c n i) := by unfold refZ; (repeat' split) <;> omega
theorem refZ_0 {c n i : Int} : refZ c n i = 0 ↔ c = 2 ∧ 0 ≤ i ∧ i < n := by unfold refZ; (repeat' split) <;> omega
set_option maxRecDepth 20000 in
set_option maxHeartbeats 400000 in
theorem c_X7_lowest (X : pX) (h : Nat) (I J : IM) (n x : Int) (hn : rg n) (hx : rl x) : KL X h mX7_lowest [zi n, zl x] I J (lowZ n x) I J := by
  show Rz X h mX7_lowest 0 [some (zi n), some (zl x), none] [] I J _
  refine rz_iload_n dX7_lowest_0 rfl ?_
  by_cases s1_0 : n = 0
  · subst s1_0
    refine rz_tableIn (t := 32) dX7_lowest_1 (by omega) (by decide) rfl rfl ?_
    refine rz_lload_n dX7_lowest_32 rfl ?_
    refine rz_l2i dX7_lowest_33 ?_
    refine rz_i2bw dX7_lowest_34 ?_
    refine rz_i2l dX7_lowest_35 (by have := bm8r x; omega) ?_
    refine rz_lret dX7_lowest_36 rfl ?_
    exact ⟨_, rfl, by first | exact (low_0 (by omega)).symm | exact (low_1 (by omega)).symm | exact (low_2 (by omega)).symm | exact (low_3 (by omega)).symm | exact (low_4 (by omega) (lcZ_0.mp (by assumption))).symm | exact (low_5 (by omega) (fun q => by have q2 := lcZ_0.mpr q; contradiction)).symm, rfl, rfl⟩
  by_cases s1_1 : n = 1
  · subst s1_1
    refine rz_tableIn (t := 37) dX7_lowest_1 (by omega) (by decide) rfl rfl ?_
    refine rz_lload_n dX7_lowest_37 rfl ?_
    refine rz_l2i dX7_lowest_38 ?_
    refine rz_i2sw dX7_lowest_39 ?_
    refine rz_i2l dX7_lowest_40 (by have := bm16r x; omega) ?_
    refine rz_lret dX7_lowest_41 rfl ?_
    exact ⟨_, rfl, by first | exact (low_0 (by omega)).symm | exact (low_1 (by omega)).symm | exact (low_2 (by omega)).symm | exact (low_3 (by omega)).symm | exact (low_4 (by omega) (lcZ_0.mp (by assumption))).symm | exact (low_5 (by omega) (fun q => by have q2 := lcZ_0.mpr q; contradiction)).symm, rfl, rfl⟩
  by_cases s1_2 : n = 2
  · subst s1_2
    refine rz_tableIn (t := 42) dX7_lowest_1 (by omega) (by decide) rfl rfl ?_
    refine rz_lload_n dX7_lowest_42 rfl ?_
    refine rz_l2iw dX7_lowest_43 ?_
    refine rz_i2l dX7_lowest_44 (bm32r x) ?_
    refine rz_lret dX7_lowest_45 rfl ?_
    exact ⟨_, rfl, by first | exact (low_0 (by omega)).symm | exact (low_1 (by omega)).symm | exact (low_2 (by omega)).symm | exact (low_3 (by omega)).symm | exact (low_4 (by omega) (lcZ_0.mp (by assumption))).symm | exact (low_5 (by omega) (fun q => by have q2 := lcZ_0.mpr q; contradiction)).symm, rfl, rfl⟩
  by_cases s1_3 : n = 3
  · subst s1_3
    refine rz_tableIn (t := 46) dX7_lowest_1 (by omega) (by decide) rfl rfl ?_
    refine rz_lload_n dX7_lowest_46 rfl ?_
    refine rz_lret dX7_lowest_47 rfl ?_
    exact ⟨_, rfl, by first | exact (low_0 (by omega)).symm | exact (low_1 (by omega)).symm | exact (low_2 (by omega)).symm | exact (low_3 (by omega)).symm | exact (low_4 (by omega) (lcZ_0.mp (by assumption))).symm | exact (low_5 (by omega) (fun q => by have q2 := lcZ_0.mpr q; contradiction)).symm, rfl, rfl⟩
  refine rz_tableOut (t := 48) dX7_lowest_1 (by omega) (by omega) rfl ?_
  refine rz_lload_n dX7_lowest_48 rfl ?_
  refine rz_lconst (x := 0) dX7_lowest_49 rfl ?_
  refine rz_lcmp dX7_lowest_50 (by omega) (by omega) ?_
  refine rz_if_eq (t := 58) dX7_lowest_51 rfl (lcZ_rg _ _) (fun c51 => ?_) (fun c51 => ?_)
  · refine rz_lconst (x := 0) dX7_lowest_58 rfl ?_
    refine rz_lret dX7_lowest_59 rfl ?_
    exact ⟨_, rfl, by first | exact (low_0 (by omega)).symm | exact (low_1 (by omega)).symm | exact (low_2 (by omega)).symm | exact (low_3 (by omega)).symm | exact (low_4 (by omega) (lcZ_0.mp (by assumption))).symm | exact (low_5 (by omega) (fun q => by have q2 := lcZ_0.mpr q; contradiction)).symm, rfl, rfl⟩
  · refine rz_lconst (x := 1) dX7_lowest_54 rfl ?_
    refine rz_goto (t := 59) dX7_lowest_55 rfl ?_
    refine rz_lret dX7_lowest_59 rfl ?_
    exact ⟨_, rfl, by first | exact (low_0 (by omega)).symm | exact (low_1 (by omega)).symm | exact (low_2 (by omega)).symm | exact (low_3 (by omega)).symm | exact (low_4 (by omega) (lcZ_0.mp (by assumption))).symm | exact (low_5 (by omega) (fun q => by have q2 := lcZ_0.mpr q; contradiction)).symm, rfl, rfl⟩
set_option maxRecDepth 20000 in
set_option maxHeartbeats 400000 in
theorem c_X7_refusal (X : pX) (h : Nat) (I J : IM) (o : Nat) (i : Int) (ho : HD0[o]? = some (0, 7, 0)) (hr : (0 ≤ I o 0 ∧ I o 0 ≤ 2) ∧ 0 ≤ I o 3 ∧ I o 3 ≤ 60) (hi : rg i) : KI X h mX7_refusal [.ref o, zi i] I J (refZ (I o 0) (I o 3) i) I J := by
  show Rz X h mX7_refusal 0 [some (.ref o), some (zi i)] [] I J _
  refine rz_aload_n dX7_refusal_0 rfl ?_
  refine rz_getI (z := (I o 0)) dX7_refusal_1 kf_RX7_15 ho rfl rfl ?_
  refine rz_if_ne (t := 10) dX7_refusal_4 rfl (by omega) (fun c4 => ?_) (fun c4 => ?_)
  · refine rz_aload_n dX7_refusal_10 rfl ?_
    refine rz_getI (z := (I o 0)) dX7_refusal_11 kf_RX7_15 ho rfl rfl ?_
    refine rz_iconst dX7_refusal_14 ?_
    refine rz_icmp_eq (t := 21) dX7_refusal_15 rfl (by omega) (by omega) (fun c15 => ?_) (fun c15 => ?_)
    · refine rz_iload_n dX7_refusal_21 rfl ?_
      refine rz_if_lt (t := 33) dX7_refusal_22 rfl (by omega) (fun c22 => ?_) (fun c22 => ?_)
      · refine rz_bipush dX7_refusal_33 (by decide) ?_
        refine rz_goto (t := 39) dX7_refusal_35 rfl ?_
        refine rz_iret dX7_refusal_39 rfl ?_
        exact ⟨_, rfl, by unfold refZ; (repeat' split) <;> first | rfl | omega, rfl, rfl⟩
      · refine rz_iload_n dX7_refusal_25 rfl ?_
        refine rz_aload_n dX7_refusal_26 rfl ?_
        refine rz_getI (z := (I o 3)) dX7_refusal_27 kf_RX7_25 ho rfl rfl ?_
        refine rz_icmp_lt (t := 38) dX7_refusal_30 rfl (by omega) (by omega) (fun c30 => ?_) (fun c30 => ?_)
        · refine rz_iconst dX7_refusal_38 ?_
          refine rz_iret dX7_refusal_39 rfl ?_
          exact ⟨_, rfl, by unfold refZ; (repeat' split) <;> first | rfl | omega, rfl, rfl⟩
        · refine rz_bipush dX7_refusal_33 (by decide) ?_
          refine rz_goto (t := 39) dX7_refusal_35 rfl ?_
          refine rz_iret dX7_refusal_39 rfl ?_
          exact ⟨_, rfl, by unfold refZ; (repeat' split) <;> first | rfl | omega, rfl, rfl⟩
    · refine rz_bipush dX7_refusal_18 (by decide) ?_
      refine rz_iret dX7_refusal_20 rfl ?_
      exact ⟨_, rfl, by unfold refZ; (repeat' split) <;> first | rfl | omega, rfl, rfl⟩
  · refine rz_bipush dX7_refusal_7 (by decide) ?_
    refine rz_iret dX7_refusal_9 rfl ?_
    exact ⟨_, rfl, by unfold refZ; (repeat' split) <;> first | rfl | omega, rfl, rfl⟩
abbrev rfC (I : IM) (v i : Int) : Int := refZ (I (67 + 2 * v.toNat) 0) (I (67 + 2 * v.toNat) 3) i
def putZC (I : IM) (v i : Int) : Int := if 0 ≤ v ∧ v ≤ 5 then (if rfC I v i = 0 then 1 else rfC I v i) else -1
def putJC (I J : IM) (v i x : Int) : IM := if (0 ≤ v ∧ v ≤ 5) ∧ rfC I v i = 0 then upA J (68 + 2 * v.toNat) (up1 (J (68 + 2 * v.toNat)) i.toNat (lowZ (I (67 + 2 * v.toNat) 2) x)) else J
set_option maxRecDepth 20000 in
set_option maxHeartbeats 400000 in
theorem c_X11_put (X : pX) (h : Nat) (I J : IM) (v i x : Int) (hv : rg v) (hi : rg i) (hx : rl x) (hS : ∀ k : Nat, k < 6 → ((0 ≤ I (67 + 2 * k) 0 ∧ I (67 + 2 * k) 0 ≤ 2) ∧ 0 ≤ I (67 + 2 * k) 3 ∧ I (67 + 2 * k) 3 ≤ 60) ∧ 0 ≤ I (67 + 2 * k) 2 ∧ I (67 + 2 * k) 2 ≤ 4) : KI X (h + 1) mX11_put [.ref 0, zi v, zi i, zl x] I J (putZC I v i) I (putJC I J v i x) := by
  show Rz X (h + 1) mX11_put 0 [some (.ref 0), some (zi v), some (zi i), some (zl x), none, none, none] [] I J _
  refine rz_iload_n dX11_put_0 rfl ?_
  refine rz_cSIq dX11_put_1 kl_RX11_153 (c_X11_isShelf X _ I J v (by omega)) rfl rfl (Nat.le_of_ble_eq_true rfl) (Nat.le_of_ble_eq_true rfl) ?_
  rintro z1 A1 B1 ⟨⟨rfl, b1⟩ | ⟨rfl, b1⟩, rfl, rfl⟩
  · refine rz_if_ne (t := 9) dX11_put_4 rfl (by omega) (fun _ => ?_) (fun q => absurd q (by decide))
    refine rz_aload_n dX11_put_9 rfl ?_
    refine rz_getR dX11_put_10 kf_RX11_76 hd_0 rfl rr_0_10 ?_
    refine rz_iload_n dX11_put_13 rfl ?_
    refine rz_aald (by decide) dX11_put_14 hd_66 (by decide) (by omega) (rr_sh (by omega)) ?_
    refine rz_astore dX11_put_15 (by decide) rfl ?_
    refine rz_aload dX11_put_17 rfl ?_
    refine rz_iload_n dX11_put_19 rfl ?_
    refine rz_cVI dX11_put_20 kl_RX11_334 (hd_sh (by omega)) ⟨_, _, rfl⟩ (c_X7_refusal X _ I J (67 + 2 * v.toNat) i (hd_sh (by omega)) (hS _ (by omega)).1 (by omega)) rfl rfl (Nat.le_of_ble_eq_true rfl) (Nat.le_of_ble_eq_true rfl) ?_
    refine rz_istore dX11_put_23 (by decide) rfl ?_
    refine rz_iload dX11_put_25 rfl ?_
    refine rz_if_eq (t := 33) dX11_put_27 rfl (refZ_rg _ _ _) (fun c27 => ?_) (fun c27 => ?_)
    · have h9 := (hS v.toNat (by omega)).2
      refine rz_aload dX11_put_33 rfl ?_
      refine rz_getR dX11_put_35 kf_RX11_169 (hd_sh (by omega)) rfl (rr_el (by omega)) ?_
      refine rz_iload_n dX11_put_38 rfl ?_
      refine rz_aload dX11_put_39 rfl ?_
      refine rz_getI (z := (I (67 + 2 * v.toNat) 2)) dX11_put_41 kf_RX11_159 (hd_sh (by omega)) rfl rfl ?_
      refine rz_lload_n dX11_put_44 rfl ?_
      refine rz_cSL dX11_put_45 kl_RX11_337 (c_X7_lowest X _ I J (I (67 + 2 * v.toNat) 2) x (by omega) (by omega)) rfl rfl (Nat.le_of_ble_eq_true rfl) (Nat.le_of_ble_eq_true rfl) ?_
      refine rz_last dX11_put_48 (hd_el (by omega)) (by decide) (by have := refZ_0.mp c27; have := (hS v.toNat (by omega)).1; omega) ?_
      refine rz_iconst dX11_put_49 ?_
      refine rz_iret dX11_put_50 rfl ?_
      exact ⟨_, rfl, by rw [putZC, if_pos (by omega), if_pos c27], rfl, (if_pos ⟨by omega, c27⟩).symm⟩
    · refine rz_iload dX11_put_30 rfl ?_
      refine rz_iret dX11_put_32 rfl ?_
      exact ⟨_, rfl, by rw [putZC, if_pos (by omega), if_neg c27], rfl, (if_neg (fun q => c27 q.2)).symm⟩
  · refine rz_if_ne (t := 9) dX11_put_4 rfl (by omega) (fun q => absurd q (by decide)) (fun _ => ?_)
    refine rz_iconst dX11_put_7 ?_
    refine rz_iret dX11_put_8 rfl ?_
    exact ⟨_, rfl, (if_neg (by omega)).symm, rfl, (if_neg (by omega)).symm⟩
def elemZC (I J : IM) (v i : Int) : Int := if (0 ≤ v ∧ v ≤ 5) ∧ rfC I v i = 0 then J (68 + 2 * v.toNat) i.toNat else -9223372036854775808
set_option maxRecDepth 20000 in
set_option maxHeartbeats 400000 in
theorem c_X11_element (X : pX) (h : Nat) (I J : IM) (v i : Int) (hv : rg v) (hi : rg i) (hS : ∀ k : Nat, k < 6 → ((0 ≤ I (67 + 2 * k) 0 ∧ I (67 + 2 * k) 0 ≤ 2) ∧ 0 ≤ I (67 + 2 * k) 3 ∧ I (67 + 2 * k) 3 ≤ 60) ∧ 0 ≤ I (67 + 2 * k) 2 ∧ I (67 + 2 * k) 2 ≤ 4) : KL X (h + 1) mX11_element [.ref 0, zi v, zi i] I J (elemZC I J v i) I J := by
  show Rz X (h + 1) mX11_element 0 [some (.ref 0), some (zi v), some (zi i), none] [] I J _
  refine rz_iload_n dX11_element_0 rfl ?_
  refine rz_cSIq dX11_element_1 kl_RX11_153 (c_X11_isShelf X _ I J v (by omega)) rfl rfl (Nat.le_of_ble_eq_true rfl) (Nat.le_of_ble_eq_true rfl) ?_
  rintro z1 A1 B1 ⟨⟨rfl, b1⟩ | ⟨rfl, b1⟩, rfl, rfl⟩
  · refine rz_if_ne (t := 11) dX11_element_4 rfl (by omega) (fun _ => ?_) (fun q => absurd q (by decide))
    refine rz_aload_n dX11_element_11 rfl ?_
    refine rz_getR dX11_element_12 kf_RX11_76 hd_0 rfl rr_0_10 ?_
    refine rz_iload_n dX11_element_15 rfl ?_
    refine rz_aald (by decide) dX11_element_16 hd_66 (by decide) (by omega) (rr_sh (by omega)) ?_
    refine rz_astore_n dX11_element_17 (by decide) rfl ?_
    refine rz_aload_n dX11_element_18 rfl ?_
    refine rz_iload_n dX11_element_19 rfl ?_
    refine rz_cVI dX11_element_20 kl_RX11_334 (hd_sh (by omega)) ⟨_, _, rfl⟩ (c_X7_refusal X _ I J (67 + 2 * v.toNat) i (hd_sh (by omega)) (hS _ (by omega)).1 (by omega)) rfl rfl (Nat.le_of_ble_eq_true rfl) (Nat.le_of_ble_eq_true rfl) ?_
    refine rz_if_ne (t := 35) dX11_element_23 rfl (refZ_rg _ _ _) (fun c23 => ?_) (fun c23 => ?_)
    · refine rz_ldc2 (x := (-9223372036854775808)) dX11_element_35 kk_RX11_207 (by decide) ?_
      refine rz_lret dX11_element_38 rfl ?_
      exact ⟨_, rfl, (if_neg (fun q => c23 q.2)).symm, rfl, rfl⟩
    · refine rz_aload_n dX11_element_26 rfl ?_
      refine rz_getR dX11_element_27 kf_RX11_169 (hd_sh (by omega)) rfl (rr_el (by omega)) ?_
      refine rz_iload_n dX11_element_30 rfl ?_
      refine rz_lald (z := (J (68 + 2 * v.toNat) (i).toNat)) dX11_element_31 (hd_el (by omega)) (by decide) (by have := refZ_0.mp c23; have := (hS v.toNat (by omega)).1; omega) rfl ?_
      refine rz_goto (t := 38) dX11_element_32 rfl ?_
      refine rz_lret dX11_element_38 rfl ?_
      exact ⟨_, rfl, (if_pos ⟨by omega, c23⟩).symm, rfl, rfl⟩
  · refine rz_if_ne (t := 11) dX11_element_4 rfl (by omega) (fun q => absurd q (by decide)) (fun _ => ?_)
    refine rz_ldc2 (x := (-9223372036854775808)) dX11_element_7 kk_RX11_207 (by decide) ?_
    refine rz_lret dX11_element_10 rfl ?_
    exact ⟨_, rfl, (if_neg (by omega)).symm, rfl, rfl⟩
def hb1 (I : IM) (o : Nat) (z : Int) : IM := upA I o (up1 (I o) 0 z)
def hbM (I : IM) (o : Nat) (n : Int) : IM := upA (hb1 I o (if n < 0 then 0 else 1)) o (up1 (hb1 I o (if n < 0 then 0 else 1) o) 1 n)
def hr2 (I : IM) (o : Nat) (s : Int) : IM := upA (hb1 I o 2) o (up1 (hb1 I o 2 o) 2 s)
def hrM (I : IM) (o : Nat) (s n : Int) : IM := upA (hr2 I o s) o (up1 (hr2 I o s o) 3 n)
set_option maxRecDepth 20000 in
set_option maxHeartbeats 400000 in
theorem c_X7_holdBody (X : pX) (h : Nat) (I J : IM) (o : Nat) (n : Int) (ho : HD0[o]? = some (0, 7, 0)) (hn : rg n) : KV X h mX7_holdBody [.ref o, zi n] I J (hbM I o n) J := by
  show Rz X h mX7_holdBody 0 [some (.ref o), some (zi n)] [] I J _
  refine rz_aload_n dX7_holdBody_0 rfl ?_
  refine rz_iload_n dX7_holdBody_1 rfl ?_
  refine rz_if_ge (t := 9) dX7_holdBody_2 rfl (by omega) (fun c2 => ?_) (fun c2 => ?_)
  · refine rz_iconst dX7_holdBody_9 ?_
    refine rz_putI dX7_holdBody_10 kp_RX7_15 ho rfl ?_
    refine rz_aload_n dX7_holdBody_13 rfl ?_
    refine rz_iload_n dX7_holdBody_14 rfl ?_
    refine rz_putI dX7_holdBody_15 kp_RX7_19 ho rfl ?_
    refine rz_vret dX7_holdBody_18 rfl ?_
    exact ⟨rfl, by unfold hbM; first | (rw [if_pos c2]; rfl) | (rw [if_neg (by omega)]; rfl), rfl⟩
  · refine rz_iconst dX7_holdBody_5 ?_
    refine rz_goto (t := 10) dX7_holdBody_6 rfl ?_
    refine rz_putI dX7_holdBody_10 kp_RX7_15 ho rfl ?_
    refine rz_aload_n dX7_holdBody_13 rfl ?_
    refine rz_iload_n dX7_holdBody_14 rfl ?_
    refine rz_putI dX7_holdBody_15 kp_RX7_19 ho rfl ?_
    refine rz_vret dX7_holdBody_18 rfl ?_
    exact ⟨rfl, by unfold hbM; first | (rw [if_pos c2]; rfl) | (rw [if_neg (by omega)]; rfl), rfl⟩
set_option maxRecDepth 20000 in
set_option maxHeartbeats 400000 in
theorem c_X7_holdRow (X : pX) (h : Nat) (I J : IM) (o e : Nat) (s n : Int) (ho : HD0[o]? = some (0, 7, 0)) (he : R0 o 4 = some e) (hh : HD0[e]? = some (2, 4, 60)) : KV X (h + 1) mX7_holdRow [.ref o, zi s, zi n] I J (hrM I o s n) (fillM J e 60 0) := by
  show Rz X (h + 1) mX7_holdRow 0 [some (.ref o), some (zi s), some (zi n)] [] I J _
  refine rz_aload_n dX7_holdRow_0 rfl ?_
  refine rz_iconst dX7_holdRow_1 ?_
  refine rz_putI dX7_holdRow_2 kp_RX7_15 ho rfl ?_
  refine rz_aload_n dX7_holdRow_5 rfl ?_
  refine rz_iload_n dX7_holdRow_6 rfl ?_
  refine rz_putI dX7_holdRow_7 kp_RX7_22 ho rfl ?_
  refine rz_aload_n dX7_holdRow_10 rfl ?_
  refine rz_iload_n dX7_holdRow_11 rfl ?_
  refine rz_putI dX7_holdRow_12 kp_RX7_25 ho rfl ?_
  refine rz_aload_n dX7_holdRow_15 rfl ?_
  refine rz_getR dX7_holdRow_16 kf_RX7_11 ho rfl he ?_
  refine rz_lconst (x := 0) dX7_holdRow_19 rfl ?_
  refine rz_cSV dX7_holdRow_20 kl_RX7_28 (c_fillJ X _ _ _ e 60 0 hh (by decide)) rfl rfl (Nat.le_of_ble_eq_true rfl) (Nat.le_of_ble_eq_true rfl) ?_
  refine rz_vret dX7_holdRow_23 rfl ?_
  exact ⟨rfl, rfl, rfl⟩
abbrev keepOK (b v n : Int) : Prop := (0 ≤ v ∧ v ≤ 5) ∧ -1 ≤ n ∧ n < b
def keepM (I : IM) (v n : Int) : IM := if keepOK (I 63 0) v n then hbM I (67 + 2 * v.toNat) n else I
abbrev rowOK (v s n : Int) : Prop := (0 ≤ v ∧ v ≤ 5) ∧ (0 ≤ s ∧ s ≤ 4) ∧ n ≤ 60
def rowZ (v s n : Int) : Int := if rowOK v s n then (if n < 0 then -14 else 1) else -1
def rowM (I : IM) (v s n : Int) : IM := if rowOK v s n ∧ 0 ≤ n then hrM I (67 + 2 * v.toNat) s n else I
def rowJ (J : IM) (v s n : Int) : IM := if rowOK v s n ∧ 0 ≤ n then fillM J (68 + 2 * v.toNat) 60 0 else J
set_option maxRecDepth 20000 in
set_option maxHeartbeats 400000 in
theorem c_X11_keep (X : pX) (h : Nat) (I J : IM) (v n : Int) (hv : rg v) (hn : rg n) (hb : 0 ≤ I 63 0 ∧ I 63 0 ≤ 50) : KI X (h + 1) mX11_keep [.ref 0, zi v, zi n] I J (if keepOK (I 63 0) v n then 1 else -1) (keepM I v n) J := by
  show Rz X (h + 1) mX11_keep 0 [some (.ref 0), some (zi v), some (zi n)] [] I J _
  refine rz_iload_n dX11_keep_0 rfl ?_
  refine rz_cSIq dX11_keep_1 kl_RX11_153 (c_X11_isShelf X _ I J v (by omega)) rfl rfl (Nat.le_of_ble_eq_true rfl) (Nat.le_of_ble_eq_true rfl) ?_
  rintro z1 A1 B1 ⟨⟨rfl, b1⟩ | ⟨rfl, b1⟩, rfl, rfl⟩
  · refine rz_if_eq (t := 23) dX11_keep_4 rfl (by omega) (fun q => absurd q (by decide)) (fun _ => ?_)
    refine rz_iload_n dX11_keep_7 rfl ?_
    refine rz_iconst dX11_keep_8 ?_
    refine rz_icmp_lt (t := 23) dX11_keep_9 rfl (by omega) (by omega) (fun c9 => ?_) (fun c9 => ?_)
    · refine rz_iconst dX11_keep_23 ?_
      refine rz_iret dX11_keep_24 rfl ?_
      exact ⟨_, rfl, (if_neg (by omega)).symm, (if_neg (by omega)).symm, rfl⟩
    · refine rz_iload_n dX11_keep_12 rfl ?_
      refine rz_aload_n dX11_keep_13 rfl ?_
      refine rz_getR dX11_keep_14 kf_RX11_70 hd_0 rfl rr_0_9 ?_
      refine rz_getI (z := (I 63 0)) dX11_keep_17 kf_RX11_316 hd_63 rfl rfl ?_
      refine rz_icmp_lt (t := 25) dX11_keep_20 rfl (by omega) (by omega) (fun c20 => ?_) (fun c20 => ?_)
      · refine rz_aload_n dX11_keep_25 rfl ?_
        refine rz_getR dX11_keep_26 kf_RX11_76 hd_0 rfl rr_0_10 ?_
        refine rz_iload_n dX11_keep_29 rfl ?_
        refine rz_aald (by decide) dX11_keep_30 hd_66 (by decide) (by omega) (rr_sh (by omega)) ?_
        refine rz_iload_n dX11_keep_31 rfl ?_
        refine rz_cVV dX11_keep_32 kl_RX11_326 (hd_sh (by omega)) ⟨_, _, rfl⟩ (c_X7_holdBody X _ I J (67 + 2 * v.toNat) n (hd_sh (by omega)) (by omega)) rfl rfl (Nat.le_of_ble_eq_true rfl) (Nat.le_of_ble_eq_true rfl) ?_
        refine rz_iconst dX11_keep_35 ?_
        refine rz_iret dX11_keep_36 rfl ?_
        exact ⟨_, rfl, (if_pos (by omega)).symm, (if_pos (by omega)).symm, rfl⟩
      · refine rz_iconst dX11_keep_23 ?_
        refine rz_iret dX11_keep_24 rfl ?_
        exact ⟨_, rfl, (if_neg (by omega)).symm, (if_neg (by omega)).symm, rfl⟩
  · refine rz_if_eq (t := 23) dX11_keep_4 rfl (by omega) (fun _ => ?_) (fun q => absurd q (by decide))
    refine rz_iconst dX11_keep_23 ?_
    refine rz_iret dX11_keep_24 rfl ?_
    exact ⟨_, rfl, (if_neg (by omega)).symm, (if_neg (by omega)).symm, rfl⟩
set_option maxRecDepth 20000 in
set_option maxHeartbeats 400000 in
theorem c_X11_row (X : pX) (h : Nat) (I J : IM) (v s n : Int) (hv : rg v) (hs : rg s) (hn : rg n) : KI X (h + 2) mX11_row [.ref 0, zi v, zi s, zi n] I J (rowZ v s n) (rowM I v s n) (rowJ J v s n) := by
  show Rz X (h + 2) mX11_row 0 [some (.ref 0), some (zi v), some (zi s), some (zi n)] [] I J _
  refine rz_iload_n dX11_row_0 rfl ?_
  refine rz_cSIq dX11_row_1 kl_RX11_153 (c_X11_isShelf X _ I J v (by omega)) rfl rfl (Nat.le_of_ble_eq_true rfl) (Nat.le_of_ble_eq_true rfl) ?_
  rintro z1 A1 B1 ⟨⟨rfl, b1⟩ | ⟨rfl, b1⟩, rfl, rfl⟩
  · refine rz_if_eq (t := 22) dX11_row_4 rfl (by omega) (fun q => absurd q (by decide)) (fun _ => ?_)
    refine rz_iload_n dX11_row_7 rfl ?_
    refine rz_if_lt (t := 22) dX11_row_8 rfl (by omega) (fun c8 => ?_) (fun c8 => ?_)
    · refine rz_iconst dX11_row_22 ?_
      refine rz_iret dX11_row_23 rfl ?_
      exact ⟨_, rfl, (if_neg (by omega)).symm, (if_neg (by omega)).symm, (if_neg (by omega)).symm⟩
    · refine rz_iload_n dX11_row_11 rfl ?_
      refine rz_iconst dX11_row_12 ?_
      refine rz_icmp_gt (t := 22) dX11_row_13 rfl (by omega) (by omega) (fun c13 => ?_) (fun c13 => ?_)
      · refine rz_iconst dX11_row_22 ?_
        refine rz_iret dX11_row_23 rfl ?_
        exact ⟨_, rfl, (if_neg (by omega)).symm, (if_neg (by omega)).symm, (if_neg (by omega)).symm⟩
      · refine rz_iload_n dX11_row_16 rfl ?_
        refine rz_bipush dX11_row_17 (by decide) ?_
        refine rz_icmp_le (t := 24) dX11_row_19 rfl (by omega) (by omega) (fun c19 => ?_) (fun c19 => ?_)
        · refine rz_iload_n dX11_row_24 rfl ?_
          refine rz_if_ge (t := 31) dX11_row_25 rfl (by omega) (fun c25 => ?_) (fun c25 => ?_)
          · refine rz_aload_n dX11_row_31 rfl ?_
            refine rz_getR dX11_row_32 kf_RX11_76 hd_0 rfl rr_0_10 ?_
            refine rz_iload_n dX11_row_35 rfl ?_
            refine rz_aald (by decide) dX11_row_36 hd_66 (by decide) (by omega) (rr_sh (by omega)) ?_
            refine rz_iload_n dX11_row_37 rfl ?_
            refine rz_iload_n dX11_row_38 rfl ?_
            refine rz_cVV dX11_row_39 kl_RX11_330 (hd_sh (by omega)) ⟨_, _, rfl⟩ (c_X7_holdRow X _ I J (67 + 2 * v.toNat) (68 + 2 * v.toNat) s n (hd_sh (by omega)) (rr_el (by omega)) (hd_el (by omega))) rfl rfl (Nat.le_of_ble_eq_true rfl) (Nat.le_of_ble_eq_true rfl) ?_
            refine rz_iconst dX11_row_42 ?_
            refine rz_iret dX11_row_43 rfl ?_
            exact ⟨_, rfl, by rw [rowZ, if_pos (by omega), if_neg (by omega)], (if_pos (by omega)).symm, (if_pos (by omega)).symm⟩
          · refine rz_bipush dX11_row_28 (by decide) ?_
            refine rz_iret dX11_row_30 rfl ?_
            exact ⟨_, rfl, by rw [rowZ, if_pos (by omega), if_pos c25], (if_neg (by omega)).symm, (if_neg (by omega)).symm⟩
        · refine rz_iconst dX11_row_22 ?_
          refine rz_iret dX11_row_23 rfl ?_
          exact ⟨_, rfl, (if_neg (by omega)).symm, (if_neg (by omega)).symm, (if_neg (by omega)).symm⟩
  · refine rz_if_eq (t := 22) dX11_row_4 rfl (by omega) (fun _ => ?_) (fun q => absurd q (by decide))
    refine rz_iconst dX11_row_22 ?_
    refine rz_iret dX11_row_23 rfl ?_
    exact ⟨_, rfl, (if_neg (by omega)).symm, (if_neg (by omega)).symm, (if_neg (by omega)).symm⟩
