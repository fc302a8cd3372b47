/-! the class lists all partings -/
def wkF (I : IM) (w : List Nat) : Nat → Int := fun j => if j < 5 then ((w.getD j 0 : Nat) : Int) else I 34 j
def wkM (I : IM) (n : Nat) (w : List Nat) : IM := upA (upA I 33 (up1 (I 33) 1 (n : Int))) 34 (wkF I w)
theorem w0L_at : ∀ n, n ≤ 5 → 1 ≤ n → ∀ N j, j < 5 → (w0L n N).getD j 0 = if j = n - 1 then N else 0 := by
  intro n hn h1 N j hj
  have hA : n = 1 ∨ n = 2 ∨ n = 3 ∨ n = 4 ∨ n = 5 := by omega
  have hB : j = 0 ∨ j = 1 ∨ j = 2 ∨ j = 3 ∨ j = 4 := by omega
  rcases hA with rfl | rfl | rfl | rfl | rfl <;> rcases hB with rfl | rfl | rfl | rfl | rfl <;> rfl
theorem wk_00 {I : IM} : wkM I 0 [] = fillM (upA I 33 (up1 (I 33) 1 ((0 : Nat) : Int))) 34 5 0 := by
  unfold wkM fillM
  congr 1
theorem wk_0s {I : IM} {n N : Nat} (hn : n ≤ 5) (h1 : 1 ≤ n) : wkM I n (w0L n N) = upA (fillM (upA I 33 (up1 (I 33) 1 (n : Int))) 34 5 0) 34 (up1 (fillM (upA I 33 (up1 (I 33) 1 (n : Int))) 34 5 0 34) (n - 1) (N : Int)) := by
  unfold wkM fillM
  rw [upA_upA]
  congr 1
  funext j
  simp only [wkF, up1, upA_self]
  by_cases e : j < 5
  · rw [if_pos e, w0L_at n hn h1 N j e]
    by_cases e2 : j = n - 1
    · rw [if_pos e2, if_pos e2]
    · rw [if_neg e2, if_neg e2, if_pos e]; rfl
  · rw [if_neg e, if_neg (by omega), if_neg e]; rfl
theorem getD_set {l : List Nat} {i j a : Nat} (hi : i < l.length) : (l.set i a).getD j 0 = if j = i then a else l.getD j 0 := by
  rw [List.getD_eq_getElem?_getD, List.getD_eq_getElem?_getD, List.getElem?_set]
  by_cases e : i = j
  · subst e; simp [hi]
  · rw [if_neg e, if_neg (fun q => e q.symm)]
set_option maxRecDepth 20000 in
set_option maxHeartbeats 400000 in
theorem c_X10_start {X : pX} {I J : IM} {h : Nat} (n N : Nat) (hn : n ≤ 5) (hN : N ≤ 9) : KIq X (h + 1) mX10_start [.ref 33, zi (n : Int), zi (N : Int)] I J (fun z A B => ((z = 1 ∧ (n = 0 → N = 0)) ∨ (z = 0 ∧ n = 0 ∧ N ≠ 0)) ∧ A = wkM I n (w0L n N) ∧ J = B) := by
  show Rz X (h + 1) mX10_start 0 [some (.ref 33), some (zi (n : Int)), some (zi (N : Int))] [] I J _
  refine rz_aload_n dX10_start_0 rfl ?_
  refine rz_iload_n dX10_start_1 rfl ?_
  refine rz_putI dX10_start_2 kp_RX10_15 hd_33 rfl ?_
  refine rz_mem (I' := (upA I 33 (up1 (I 33) 1 (n : Int)))) (J' := J) (rfl) (rfl) ?_
  refine rz_aload_n dX10_start_5 rfl ?_
  refine rz_getR dX10_start_6 kf_RX10_9 hd_33 rfl rr_33_0 ?_
  refine rz_iconst dX10_start_9 ?_
  refine rz_cSV dX10_start_10 kl_RX10_19 (c_fill X _ (upA I 33 (up1 (I 33) 1 (n : Int))) J 34 5 0 hd_34 (by decide)) rfl rfl (Nat.le_of_ble_eq_true rfl) (Nat.le_of_ble_eq_true rfl) ?_
  refine rz_aload_n dX10_start_13 rfl ?_
  refine rz_getI (z := (n : Int)) dX10_start_14 kf_RX10_15 hd_33 rfl (rfl) ?_
  refine rz_if_ne (t := 30) dX10_start_17 rfl (by omega) (fun c17 => ?_) (fun c17 => ?_)
  · refine rz_aload_n dX10_start_30 rfl ?_
    refine rz_getR dX10_start_31 kf_RX10_9 hd_33 rfl rr_33_0 ?_
    refine rz_aload_n dX10_start_34 rfl ?_
    refine rz_getI (z := (n : Int)) dX10_start_35 kf_RX10_15 hd_33 rfl (rfl) ?_
    refine rz_iconst dX10_start_38 ?_
    refine rz_isub dX10_start_39 ?_
    refine rz_iload_n dX10_start_40 rfl ?_
    refine rz_iastN (k := (n - 1)) dX10_start_41 hd_34 (by decide) (by omega) (by omega) ?_
    refine rz_iconst dX10_start_42 ?_
    refine rz_zret dX10_start_43 rfl (by decide) ?_
    exact ⟨_, rfl, Or.inl ⟨rfl, fun q => absurd q (by omega)⟩, (wk_0s hn (by omega)).symm, rfl⟩
  · refine rz_iload_n dX10_start_20 rfl ?_
    refine rz_if_ne (t := 28) dX10_start_21 rfl (by omega) (fun c21 => ?_) (fun c21 => ?_)
    · refine rz_iconst dX10_start_28 ?_
      refine rz_zret dX10_start_29 rfl (by decide) ?_
      obtain rfl : n = 0 := by omega
      exact ⟨_, rfl, Or.inr ⟨rfl, rfl, by omega⟩, wk_00.symm, rfl⟩
    · refine rz_iconst dX10_start_24 ?_
      refine rz_goto (t := 29) dX10_start_25 rfl ?_
      refine rz_zret dX10_start_29 rfl (by decide) ?_
      obtain rfl : n = 0 := by omega
      obtain rfl : N = 0 := by omega
      exact ⟨_, rfl, Or.inl ⟨rfl, fun _ => rfl⟩, wk_00.symm, rfl⟩
theorem lastZ_z {w : List Nat} {q : Nat} (h2 : 2 ≤ q) (hz : w.getD (q - 1) 0 = 0) : lastZ w (q - 1) = lastZ w (q - 1 - 1) := by
  obtain ⟨k, rfl⟩ : ∃ k, q = k + 2 := ⟨q - 2, by omega⟩
  show (if w.getD (k + 1) 0 = 0 then lastZ w k else k + 1) = lastZ w k
  exact if_pos hz
theorem lastZ_n {w : List Nat} {q : Nat} (h2 : 2 ≤ q) (hz : w.getD (q - 1) 0 ≠ 0) : lastZ w (q - 1) = q - 1 := by
  obtain ⟨k, rfl⟩ : ∃ k, q = k + 2 := ⟨q - 2, by omega⟩
  show (if w.getD (k + 1) 0 = 0 then lastZ w k else k + 1) = k + 1
  exact if_neg hz
theorem wk_at {I : IM} {n v : Nat} {w : List Nat} (hv : v < 5) : wkM I n w 34 v = ((w.getD v 0 : Nat) : Int) := if_pos hv
/-- the next row in memory -/
theorem wk_s {I : IM} {n q : Nat} {w : List Nat} (hn : n ≤ 5) (hw : w.length = n) (h2 : 2 ≤ q) (hq : q ≤ n) (hz : w.getD (q - 1) 0 ≠ 0) : wkM I n (((w.set (q - 1) 0).set (q - 1 - 1) (w.getD (q - 1 - 1) 0 + 1)).set (n - 1) (w.getD (q - 1) 0 - 1)) =
    upA (upA (upA (wkM I n w) 34 (up1 (wkM I n w 34) (q - 1) 0)) 34 (up1 (upA (wkM I n w) 34 (up1 (wkM I n w 34) (q - 1) 0) 34) (q - 1 - 1) (((w.getD (q - 1 - 1) 0 : Nat) : Int) + 1))) 34 (up1 (upA (upA (wkM I n w) 34 (up1 (wkM I n w 34) (q - 1) 0)) 34 (up1 (upA (wkM I n w) 34 (up1 (wkM I n w 34) (q - 1) 0) 34) (q - 1 - 1) (((w.getD (q - 1 - 1) 0 : Nat) : Int) + 1)) 34) (n - 1) (((w.getD (q - 1) 0 : Nat) : Int) - 1)) := by
  rw [upA_upA, upA_upA]
  unfold wkM
  rw [upA_upA]
  congr 1
  funext j
  simp only [wkF, up1, upA_self]
  rw [getD_set (by rw [List.length_set, List.length_set]; omega), getD_set (by rw [List.length_set]; omega), getD_set (by omega)]
  by_cases e : j < 5
  · rw [if_pos e]
    by_cases e1 : j = n - 1
    · rw [if_pos e1, if_pos e1]; omega
    · rw [if_neg e1, if_neg e1]
      by_cases e2 : j = q - 1 - 1
      · rw [if_pos e2, if_pos e2]; rfl
      · rw [if_neg e2, if_neg e2]
        by_cases e3 : j = q - 1
        · rw [if_pos e3, if_pos e3]; rfl
        · rw [if_neg e3, if_neg e3, if_pos e]
  · rw [if_neg e, if_neg (by omega), if_neg (by omega), if_neg (by omega), if_neg e]
set_option maxRecDepth 20000 in
set_option maxHeartbeats 400000 in
theorem c_X10_step {X : pX} {I J : IM} {h : Nat} (n : Nat) (w : List Nat) (hn : n ≤ 5) (hw : w.length = n) (h9 : ∀ v, w.getD v 0 ≤ 9) : KIq X h mX10_step [.ref 33] (wkM I n w) J (fun z A B => ((z = 1 ∧ ∃ w2, wS n w = some w2 ∧ A = wkM I n w2) ∨ (z = 0 ∧ wS n w = none ∧ A = wkM I n w)) ∧ J = B) := by
  show Rz X h mX10_step 0 [some (.ref 33), none, none] [] (wkM I n w) J _
  refine rz_aload_n dX10_step_0 rfl ?_
  refine rz_getI (z := (n : Int)) dX10_step_1 kf_RX10_15 hd_33 rfl (rfl) ?_
  refine rz_iconst dX10_step_4 ?_
  refine rz_isub dX10_step_5 ?_
  refine rz_istore_n dX10_step_6 (by decide) rfl ?_
  refine rz_wh (σ := Nat) (Inv := fun sq => sq ≤ n ∧ lastZ w (n - 1) = lastZ w (sq - 1)) (ls := fun sq => [some (.ref 33), some (zi ((sq : Int) - 1)), none]) (IV := fun sq => (wkM I n w)) (JV := fun sq => J) (fun sq => sq) (n) ⟨Nat.le_refl _, rfl⟩ ⟨Or.inr rfl, Or.inr rfl, Or.inl rfl, trivial⟩ (rfl) (rfl) ?_
  · intro sq qq ihq
    obtain ⟨hq1, hq2⟩ := qq
    have h91 := h9 (sq - 1)
    have h92 := h9 (sq - 1 - 1)
    refine rz_iload_n dX10_step_7 rfl ?_
    refine rz_if_le (t := 26) dX10_step_8 rfl (by omega) (fun c8 => ?_) (fun c8 => ?_)
    · refine rz_iload_n dX10_step_26 rfl ?_
      refine rz_if_gt (t := 32) dX10_step_27 rfl (by omega) (fun c27 => ?_) (fun c27 => ?_)
      · refine rz_aload_n dX10_step_32 rfl ?_
        refine rz_getR dX10_step_33 kf_RX10_9 hd_33 rfl rr_33_0 ?_
        refine rz_iload_n dX10_step_36 rfl ?_
        refine rz_ialdN (k := (sq - 1)) (z := ((w.getD (sq - 1) 0 : Nat) : Int)) dX10_step_37 hd_34 (by decide) (by omega) (by omega) (wk_at (by omega)) ?_
        refine rz_iconst dX10_step_38 ?_
        refine rz_isub dX10_step_39 ?_
        refine rz_istore_n dX10_step_40 (by decide) rfl ?_
        refine rz_aload_n dX10_step_41 rfl ?_
        refine rz_getR dX10_step_42 kf_RX10_9 hd_33 rfl rr_33_0 ?_
        refine rz_iload_n dX10_step_45 rfl ?_
        refine rz_iconst dX10_step_46 ?_
        refine rz_iastN (k := (sq - 1)) dX10_step_47 hd_34 (by decide) (by omega) (by omega) ?_
        refine rz_aload_n dX10_step_48 rfl ?_
        refine rz_getR dX10_step_49 kf_RX10_9 hd_33 rfl rr_33_0 ?_
        refine rz_iload_n dX10_step_52 rfl ?_
        refine rz_iconst dX10_step_53 ?_
        refine rz_isub dX10_step_54 ?_
        refine rz_dup2 dX10_step_55 rfl rfl ?_
        refine rz_ialdN (k := (sq - 1 - 1)) (z := ((w.getD (sq - 1 - 1) 0 : Nat) : Int)) dX10_step_56 hd_34 (by decide) (by omega) (by omega) ((up1_ne (by omega)).trans (wk_at (by omega))) ?_
        refine rz_iconst dX10_step_57 ?_
        refine rz_iadd dX10_step_58 ?_
        refine rz_iastN (k := (sq - 1 - 1)) dX10_step_59 hd_34 (by decide) (by omega) (by omega) ?_
        refine rz_aload_n dX10_step_60 rfl ?_
        refine rz_getR dX10_step_61 kf_RX10_9 hd_33 rfl rr_33_0 ?_
        refine rz_aload_n dX10_step_64 rfl ?_
        refine rz_getI (z := (n : Int)) dX10_step_65 kf_RX10_15 hd_33 rfl (rfl) ?_
        refine rz_iconst dX10_step_68 ?_
        refine rz_isub dX10_step_69 ?_
        refine rz_iload_n dX10_step_70 rfl ?_
        refine rz_iastN (k := (n - 1)) dX10_step_71 hd_34 (by decide) (by omega) (by omega) ?_
        refine rz_iconst dX10_step_72 ?_
        refine rz_zret dX10_step_73 rfl (by decide) ?_
        have hl := lastZ_n (w := w) (q := sq) (by omega) (by omega)
        exact ⟨_, rfl, Or.inl ⟨rfl, _, by rw [wS, hq2, hl, if_neg (by omega)], (wk_s hn hw (by omega) hq1 (by omega)).symm⟩, rfl⟩
      · refine rz_iconst dX10_step_30 ?_
        refine rz_zret dX10_step_31 rfl (by decide) ?_
        exact ⟨_, rfl, Or.inr ⟨rfl, by rw [wS, hq2, show sq - 1 = 0 by omega]; rfl, rfl⟩, rfl⟩
    · refine rz_aload_n dX10_step_11 rfl ?_
      refine rz_getR dX10_step_12 kf_RX10_9 hd_33 rfl rr_33_0 ?_
      refine rz_iload_n dX10_step_15 rfl ?_
      refine rz_ialdN (k := (sq - 1)) (z := ((w.getD (sq - 1) 0 : Nat) : Int)) dX10_step_16 hd_34 (by decide) (by omega) (by omega) (wk_at (by omega)) ?_
      refine rz_if_ne (t := 26) dX10_step_17 rfl (by omega) (fun c17 => ?_) (fun c17 => ?_)
      · refine rz_iload_n dX10_step_26 rfl ?_
        refine rz_if_gt (t := 32) dX10_step_27 rfl (by omega) (fun c27 => ?_) (fun c27 => ?_)
        · refine rz_aload_n dX10_step_32 rfl ?_
          refine rz_getR dX10_step_33 kf_RX10_9 hd_33 rfl rr_33_0 ?_
          refine rz_iload_n dX10_step_36 rfl ?_
          refine rz_ialdN (k := (sq - 1)) (z := ((w.getD (sq - 1) 0 : Nat) : Int)) dX10_step_37 hd_34 (by decide) (by omega) (by omega) (wk_at (by omega)) ?_
          refine rz_iconst dX10_step_38 ?_
          refine rz_isub dX10_step_39 ?_
          refine rz_istore_n dX10_step_40 (by decide) rfl ?_
          refine rz_aload_n dX10_step_41 rfl ?_
          refine rz_getR dX10_step_42 kf_RX10_9 hd_33 rfl rr_33_0 ?_
          refine rz_iload_n dX10_step_45 rfl ?_
          refine rz_iconst dX10_step_46 ?_
          refine rz_iastN (k := (sq - 1)) dX10_step_47 hd_34 (by decide) (by omega) (by omega) ?_
          refine rz_aload_n dX10_step_48 rfl ?_
          refine rz_getR dX10_step_49 kf_RX10_9 hd_33 rfl rr_33_0 ?_
          refine rz_iload_n dX10_step_52 rfl ?_
          refine rz_iconst dX10_step_53 ?_
          refine rz_isub dX10_step_54 ?_
          refine rz_dup2 dX10_step_55 rfl rfl ?_
          refine rz_ialdN (k := (sq - 1 - 1)) (z := ((w.getD (sq - 1 - 1) 0 : Nat) : Int)) dX10_step_56 hd_34 (by decide) (by omega) (by omega) ((up1_ne (by omega)).trans (wk_at (by omega))) ?_
          refine rz_iconst dX10_step_57 ?_
          refine rz_iadd dX10_step_58 ?_
          refine rz_iastN (k := (sq - 1 - 1)) dX10_step_59 hd_34 (by decide) (by omega) (by omega) ?_
          refine rz_aload_n dX10_step_60 rfl ?_
          refine rz_getR dX10_step_61 kf_RX10_9 hd_33 rfl rr_33_0 ?_
          refine rz_aload_n dX10_step_64 rfl ?_
          refine rz_getI (z := (n : Int)) dX10_step_65 kf_RX10_15 hd_33 rfl (rfl) ?_
          refine rz_iconst dX10_step_68 ?_
          refine rz_isub dX10_step_69 ?_
          refine rz_iload_n dX10_step_70 rfl ?_
          refine rz_iastN (k := (n - 1)) dX10_step_71 hd_34 (by decide) (by omega) (by omega) ?_
          refine rz_iconst dX10_step_72 ?_
          refine rz_zret dX10_step_73 rfl (by decide) ?_
          have hl := lastZ_n (w := w) (q := sq) (by omega) (by omega)
          exact ⟨_, rfl, Or.inl ⟨rfl, _, by rw [wS, hq2, hl, if_neg (by omega)], (wk_s hn hw (by omega) hq1 (by omega)).symm⟩, rfl⟩
        · refine rz_iconst dX10_step_30 ?_
          refine rz_zret dX10_step_31 rfl (by decide) ?_
          exact ⟨_, rfl, Or.inr ⟨rfl, by rw [wS, hq2, show sq - 1 = 0 by omega]; rfl, rfl⟩, rfl⟩
      · refine rz_iinc dX10_step_20 (by decide) rfl rfl rfl ?_
        refine rz_goto (t := 7) dX10_step_23 rfl ?_
        exact rz_bk (ihq ((sq - 1)) (⟨by omega, by rw [hq2]; exact lastZ_z (by omega) (by omega)⟩) (show sq - 1 < sq by omega)) ⟨Or.inr rfl, Or.inr (congrArg (fun z => some (zi z)) (by omega)), Or.inl rfl, trivial⟩ (rfl) (rfl)
