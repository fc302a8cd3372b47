/-! the class's plan -/
abbrev mostF (I : IM) (a v left : Nat) : Nat → Int := fun x => I a (10 * v + x) + I (a + 1) (10 * (v + 1) + (left - x))
theorem mostF_rg {I : IM} {a n v left k : Nat} (hG : GRg I a n) (hv : v < n) (hl : left ≤ 9) (hk : k ≤ left + 1) (hM : ∀ j, j ≤ left → -1000000 ≤ I (a + 1) (10 * (v + 1) + j) ∧ I (a + 1) (10 * (v + 1) + j) ≤ 500000) : (-1000000 ≤ mxF (mostF I a v left) k ∧ mxF (mostF I a v left) k ≤ 600000) ∧ ∀ x, x ≤ left → -1100000 ≤ mostF I a v left x ∧ mostF I a v left x ≤ 600000 := by
  have h2 : ∀ x, x ≤ left → -1100000 ≤ mostF I a v left x ∧ mostF I a v left x ≤ 600000 := fun x hx => by
    have h1 := hG v x hv (by omega)
    have h3 := hM (left - x) (by omega)
    show -1100000 ≤ I a (10 * v + x) + I (a + 1) (10 * (v + 1) + (left - x)) ∧ I a (10 * v + x) + I (a + 1) (10 * (v + 1) + (left - x)) ≤ 600000
    omega
  exact ⟨⟨mxF_ge _ _, mxF_le (by omega) (fun x hx => (h2 x (by omega)).2)⟩, h2⟩
/-- so much of the plan is made -/
def PlI (I : IM) (a : Nat) (all : Bool) (n N v : Nat) (M : Nat → Int) : Prop := ∀ u, v ≤ u → u ≤ n → ∀ j, j ≤ N → M (10 * u + j) = mx (gI I a) all (n - u) u j
theorem mx_rg2 {I : IM} {a n : Nat} {all : Bool} (hG : GRg I a n) {m v left : Nat} (hn : n ≤ 5) (hm : v + m ≤ n) (hl : left ≤ 9) : -1000000 ≤ mx (gI I a) all m v left ∧ mx (gI I a) all m v left ≤ 500000 := by
  have h := mx_rg (g := gI I a) (all := all) (G := 100000) (n := n) (by omega) (fun v x hv hx => (hG v x hv hx).2) m v left hm hl
  omega
theorem PlI_rg {I : IM} {a : Nat} {all : Bool} {n N v : Nat} {M : Nat → Int} (hn : n ≤ 5) (hN : N ≤ 9) (hG : GRg I a n) (h : PlI I a all n N (v + 1) M) (hv : v + 1 ≤ n) {left : Nat} (hl : left ≤ N) : ∀ j, j ≤ left → -1000000 ≤ M (10 * (v + 1) + j) ∧ M (10 * (v + 1) + j) ≤ 500000 := fun j hj => by
  rw [h (v + 1) (Nat.le_refl _) hv j (by omega)]
  exact mx_rg2 hG hn (by omega) (by omega)
def PlJ (I : IM) (a : Nat) (all : Bool) (n N v p : Nat) (M : Nat → Int) : Prop := PlI I a all n N (v + 1) M ∧ ∀ j, j < p → M (10 * v + j) = mx (gI I a) all (n - v) v j
theorem PlJ_s {I : IM} {a : Nat} {all : Bool} {n N v p : Nat} {M : Nat → Int} {z : Int} (hN : N ≤ 9) (hp : p ≤ N) (h : PlJ I a all n N v p M) (hz : z = mx (gI I a) all (n - v) v p) : PlJ I a all n N v (p + 1) (up1 M (10 * v + p) z) := by
  refine ⟨fun u h1 h2 j hj => ?_, fun j hj => ?_⟩
  · rw [up1_ne (by omega)]; exact h.1 u h1 h2 j hj
  · by_cases e : j = p
    · subst e; rw [up1_self]; exact hz
    · rw [up1_ne (by omega)]; exact h.2 j (by omega)
theorem PlJ_e {I : IM} {a : Nat} {all : Bool} {n N v : Nat} {M : Nat → Int} (h : PlJ I a all n N v (N + 1) M) : PlI I a all n N v M := by
  intro u h1 h2 j hj
  by_cases e : u = v
  · subst e; exact h.2 j (by omega)
  · exact h.1 u (by omega) h2 j hj
theorem PlJ_n {I : IM} {a : Nat} {all : Bool} {n N : Nat} {M : Nat → Int} (h : ∀ j, j < N + 1 → M (10 * n + j) = mx (gI I a) all 0 n j) : PlI I a all n N n M := by
  intro u h1 h2 j hj
  obtain rfl : u = n := by omega
  rw [Nat.sub_self]; exact h j (by omega)
theorem mx_step {I : IM} {a : Nat} {all : Bool} {n N v left : Nat} {M : Nat → Int} {A : IM} (hA : A a = I a) (hA2 : A (a + 1) = M) (h : PlI I a all n N (v + 1) M) (hv : v + 1 ≤ n) (hl : left ≤ N) : mxF (mostF A a v left) (left + 1) = mx (gI I a) all (n - v) v left := by
  rw [show n - v = (n - (v + 1)) + 1 by omega]
  unfold mx
  refine mxF_congr (fun x hx => ?_)
  show A a (10 * v + x) + A (a + 1) (10 * (v + 1) + (left - x)) = _
  rw [hA, hA2, h (v + 1) (Nat.le_refl _) hv _ (by omega)]
theorem fst_eq {f : Nat → Int} {M : Int} {k x : Nat} (hx : x ≤ k) (h1 : ∀ y, y < x → f y ≠ M) (h2 : x = k ∨ f x = M) : fstF f M k 0 = x := by
  obtain ⟨p1, p2, p3, p4⟩ := fstF_prop (f := f) (M := M) k 0
  by_cases e : fstF f M k 0 < x
  · exact absurd (p4 (by omega)) (h1 _ e)
  · by_cases e2 : x < fstF f M k 0
    · rcases h2 with q | q
      · omega
      · exact absurd q (p3 x (Nat.zero_le _) e2)
    · omega
/-- so much is chosen -/
def ChI (g : Nat → Nat → Int) (n N v left : Nat) (W : Nat → Int) (pre : List Nat) : Prop := pre.length = v ∧ left ≤ N ∧ chsR g n 0 N = pre ++ chsR g (n - v) v left ∧ ∀ j, j < v → W j = ((pre.getD j 0 : Nat) : Int)
theorem ChI_s {g : Nat → Nat → Int} {n N v left x : Nat} {W : Nat → Int} {pre : List Nat} (hv : v < n) (h : ChI g n N v left W pre) (hx : fstF (fun x => g v x + mx g false (n - (v + 1)) (v + 1) (left - x)) (mx g false (n - v) v left) left 0 = x) : ChI g n N (v + 1) (left - x) (up1 W v (x : Int)) (pre ++ [x]) := by
  obtain ⟨h1, h2, h3, h4⟩ := h
  have e : n - v = (n - (v + 1)) + 1 := by omega
  refine ⟨by simp [h1], by omega, ?_, fun j hj => ?_⟩
  · rw [h3, List.append_assoc]
    congr 1
    have e2 : chsR g (n - v) v left = fstF (fun x => g v x + mx g false (n - (v + 1)) (v + 1) (left - x)) (mx g false (n - v) v left) left 0 :: chsR g (n - (v + 1)) (v + 1) (left - fstF (fun x => g v x + mx g false (n - (v + 1)) (v + 1) (left - x)) (mx g false (n - v) v left) left 0) := by
      rw [e]; rfl
    rw [e2, hx]; rfl
  · by_cases q : j = v
    · subst q; rw [up1_self]; simp [h1]
    · rw [up1_ne q, h4 j (by omega)]
      simp [List.getElem?_append_left (show j < pre.length by omega)]
theorem ChI_e {g : Nat → Nat → Int} {n N left : Nat} {W : Nat → Int} {pre : List Nat} (h : ChI g n N n left W pre) : ∀ j, j < n → W j = (((chsR g n 0 N).getD j 0 : Nat) : Int) := by
  obtain ⟨h1, h2, h3, h4⟩ := h
  intro j hj
  rw [h4 j hj, h3]
  simp [List.getElem?_append_left (show j < pre.length by omega)]
set_option maxRecDepth 20000 in
set_option maxHeartbeats 400000 in
theorem c_with28 {X : pX} {I J : IM} {h v left x : Nat} (hv : v < 5) (hl : left ≤ 9) (hx : x ≤ left) : KI X h mX6_with [.ref 28, zi (v : Int), zi (left : Int), zi (x : Int)] I J (mostF I 29 v left x) I J := by
  show Rz X h mX6_with 0 [some (.ref 28), some (zi (v : Int)), some (zi (left : Int)), some (zi (x : Int))] [] I J _
  refine rz_aload_n dX6_with_0 rfl ?_
  refine rz_getR dX6_with_1 kf_RX6_9 hd_28 rfl rr_28_0 ?_
  refine rz_iload_n dX6_with_4 rfl ?_
  refine rz_bipush dX6_with_5 (by decide) ?_
  refine rz_imul dX6_with_7 ?_
  refine rz_iload_n dX6_with_8 rfl ?_
  refine rz_iadd dX6_with_9 ?_
  refine rz_ialdN (k := (10 * v + x)) (z := (I 29 (10 * v + x))) dX6_with_10 hd_29 (by decide) (by omega) (by omega) rfl ?_
  refine rz_aload_n dX6_with_11 rfl ?_
  refine rz_getR dX6_with_12 kf_RX6_15 hd_28 rfl rr_28_1 ?_
  refine rz_iload_n dX6_with_15 rfl ?_
  refine rz_iconst dX6_with_16 ?_
  refine rz_iadd dX6_with_17 ?_
  refine rz_bipush dX6_with_18 (by decide) ?_
  refine rz_imul dX6_with_20 ?_
  refine rz_iload_n dX6_with_21 rfl ?_
  refine rz_iadd dX6_with_22 ?_
  refine rz_iload_n dX6_with_23 rfl ?_
  refine rz_isub dX6_with_24 ?_
  refine rz_ialdN (k := (10 * (v + 1) + (left - x))) (z := (I 30 (10 * (v + 1) + (left - x)))) dX6_with_25 hd_30 (by decide) (by omega) (by omega) rfl ?_
  refine rz_iadd dX6_with_26 ?_
  refine rz_iret dX6_with_27 rfl ?_
  exact ⟨_, rfl, rfl, rfl, rfl⟩
set_option maxRecDepth 20000 in
set_option maxHeartbeats 400000 in
theorem c_mostFrom28 {X : pX} {I J : IM} {h n v left : Nat} (hn : n ≤ 5) (hv : v < n) (hl : left ≤ 9) (hG : GRg I 29 n) (hM : ∀ j, j ≤ left → -1000000 ≤ I 30 (10 * (v + 1) + j) ∧ I 30 (10 * (v + 1) + j) ≤ 500000) : KI X (h + 1) mX6_mostFrom [.ref 28, zi (v : Int), zi (left : Int)] I J (mxF (mostF I 29 v left) (left + 1)) I J := by
  show Rz X (h + 1) mX6_mostFrom 0 [some (.ref 28), some (zi (v : Int)), some (zi (left : Int)), none, none] [] I J _
  refine rz_ldc (x := (-1000000)) dX6_mostFrom_0 kk_RX6_18 (by decide) ?_
  refine rz_istore_n dX6_mostFrom_2 (by decide) rfl ?_
  refine rz_iconst dX6_mostFrom_3 ?_
  refine rz_istore dX6_mostFrom_4 (by decide) rfl ?_
  refine rz_up (ls := fun x : Nat => [some (.ref 28), some (zi (v : Int)), some (zi (left : Int)), some (zi (mxF (mostF I 29 v left) x)), some (zi (x : Int))]) (IV := fun x : Nat => I) (JV := fun x : Nat => J) ((left + 1)) ⟨Or.inr rfl, Or.inr rfl, Or.inr rfl, Or.inr rfl, Or.inr rfl, trivial⟩ (rfl) (rfl) ?_ ?_
  · intro x hx ihx
    have hq := mostF_rg (k := x) hG hv hl (by omega) hM
    have hq2 := hq.2 x (by omega)
    refine rz_iload dX6_mostFrom_6 rfl ?_
    refine rz_iload_n dX6_mostFrom_8 rfl ?_
    refine rz_icmp_gt (t := 31) dX6_mostFrom_9 rfl (by omega) (by omega) (fun c9 => ?_) (fun c9 => ?_)
    · exfalso; omega
    · refine rz_iload_n dX6_mostFrom_12 rfl ?_
      refine rz_aload_n dX6_mostFrom_13 rfl ?_
      refine rz_iload_n dX6_mostFrom_14 rfl ?_
      refine rz_iload_n dX6_mostFrom_15 rfl ?_
      refine rz_iload dX6_mostFrom_16 rfl ?_
      refine rz_cVI dX6_mostFrom_18 kl_RX6_23 hd_28 ⟨_, _, rfl⟩ (c_with28 (by omega) (by omega) (by omega)) rfl rfl (Nat.le_of_ble_eq_true rfl) (Nat.le_of_ble_eq_true rfl) ?_
      refine rz_mmax dX6_mostFrom_21 kl_RX6_27 (Nat.le_of_ble_eq_true rfl) (by omega) (by omega) ?_
      refine rz_istore_n dX6_mostFrom_24 (by decide) rfl ?_
      refine rz_iinc dX6_mostFrom_25 (by decide) rfl rfl rfl ?_
      refine rz_goto (t := 6) dX6_mostFrom_28 rfl ?_
      exact rz_bk ihx ⟨Or.inr rfl, Or.inr rfl, Or.inr rfl, Or.inr rfl, Or.inr rfl, trivial⟩ (rfl) (rfl)
  · skip
    refine rz_iload dX6_mostFrom_6 rfl ?_
    refine rz_iload_n dX6_mostFrom_8 rfl ?_
    refine rz_icmp_gt (t := 31) dX6_mostFrom_9 rfl (by omega) (by omega) (fun c9 => ?_) (fun c9 => ?_)
    · refine rz_iload_n dX6_mostFrom_31 rfl ?_
      refine rz_iret dX6_mostFrom_32 rfl ?_
      exact ⟨_, rfl, rfl, rfl, rfl⟩
    · exfalso; omega
set_option maxRecDepth 20000 in
set_option maxHeartbeats 400000 in
theorem c_solve28 {X : pX} {I J : IM} {h : Nat} (n N : Nat) (all : Bool) (hn : n ≤ 5) (hN : N ≤ 9) (hG : GRg I 29 n) : KIq X (h + 2) mX6_solve [.ref 28, zi (n : Int), zi (N : Int), zi (ab all)] I J (fun z A B => z = mx (gI I 29) all n 0 N ∧ (∃ M, A = upA I 30 M ∧ PlI I 29 all n N 0 M) ∧ J = B) := by
  have hab := ab_c all
  show Rz X (h + 2) mX6_solve 0 [some (.ref 28), some (zi (n : Int)), some (zi (N : Int)), some (zi (ab all)), none, none] [] I J _
  refine rz_iconst dX6_solve_0 ?_
  refine rz_istore dX6_solve_1 (by decide) rfl ?_
  refine rz_upx (σ := Nat → Int) (Inv := fun k sk => ∀ j, j < k → sk (10 * n + j) = mx (gI I 29) all 0 n j) (ls := fun (k : Nat) sk => [some (.ref 28), some (zi (n : Int)), some (zi (N : Int)), some (zi (ab all)), some (zi (k : Int)), none]) (IV := fun (k : Nat) sk => (upA I 30 sk)) (JV := fun (k : Nat) sk => J) ((N + 1)) ((I 30)) (fun j hj => absurd hj (by omega)) ⟨Or.inr rfl, Or.inr rfl, Or.inr rfl, Or.inr rfl, Or.inr rfl, Or.inl rfl, trivial⟩ (upA_id) (rfl) ?_ ?_
  · intro k sk hk qk ihk
    refine rz_iload dX6_solve_3 rfl ?_
    refine rz_iload_n dX6_solve_5 rfl ?_
    refine rz_icmp_gt (t := 42) dX6_solve_6 rfl (by omega) (by omega) (fun c6 => ?_) (fun c6 => ?_)
    · exfalso; omega
    · refine rz_aload_n dX6_solve_9 rfl ?_
      refine rz_getR dX6_solve_10 kf_RX6_15 hd_28 rfl rr_28_1 ?_
      refine rz_iload_n dX6_solve_13 rfl ?_
      refine rz_bipush dX6_solve_14 (by decide) ?_
      refine rz_imul dX6_solve_16 ?_
      refine rz_iload dX6_solve_17 rfl ?_
      refine rz_iadd dX6_solve_19 ?_
      refine rz_iload_n dX6_solve_20 rfl ?_
      refine rz_if_eq (t := 34) dX6_solve_21 rfl (by omega) (fun c21 => ?_) (fun c21 => ?_)
      · refine rz_iconst dX6_solve_34 ?_
        refine rz_iastN (k := (10 * n + k)) dX6_solve_35 hd_30 (by decide) (by omega) (by omega) ?_
        refine rz_iinc dX6_solve_36 (by decide) rfl rfl rfl ?_
        refine rz_goto (t := 3) dX6_solve_39 rfl ?_
        exact rz_bk (ihk ((up1 sk (10 * n + k) 0)) ((fun j hj => by by_cases e : j = k; (subst e; rw [up1_self]; unfold mx; first | (rw [if_pos ⟨ab_1 (by assumption), by omega⟩]) | (rw [if_neg (fun q => by have q1 := q.1; have q2 := q.2; first | omega | (subst q1; exact absurd (by assumption) (show ¬ ab true = 0 by decide)))])); (rw [up1_ne (by omega)]; exact qk j (by omega))))) ⟨Or.inr rfl, Or.inr rfl, Or.inr rfl, Or.inr rfl, Or.inr rfl, Or.inl rfl, trivial⟩ (upA_upA.symm) (rfl)
      · refine rz_iload dX6_solve_24 rfl ?_
        refine rz_if_le (t := 34) dX6_solve_26 rfl (by omega) (fun c26 => ?_) (fun c26 => ?_)
        · refine rz_iconst dX6_solve_34 ?_
          refine rz_iastN (k := (10 * n + k)) dX6_solve_35 hd_30 (by decide) (by omega) (by omega) ?_
          refine rz_iinc dX6_solve_36 (by decide) rfl rfl rfl ?_
          refine rz_goto (t := 3) dX6_solve_39 rfl ?_
          exact rz_bk (ihk ((up1 sk (10 * n + k) 0)) ((fun j hj => by by_cases e : j = k; (subst e; rw [up1_self]; unfold mx; first | (rw [if_pos ⟨ab_1 (by assumption), by omega⟩]) | (rw [if_neg (fun q => by have q1 := q.1; have q2 := q.2; first | omega | (subst q1; exact absurd (by assumption) (show ¬ ab true = 0 by decide)))])); (rw [up1_ne (by omega)]; exact qk j (by omega))))) ⟨Or.inr rfl, Or.inr rfl, Or.inr rfl, Or.inr rfl, Or.inr rfl, Or.inl rfl, trivial⟩ (upA_upA.symm) (rfl)
        · refine rz_ldc (x := (-1000000)) dX6_solve_29 kk_RX6_18 (by decide) ?_
          refine rz_goto (t := 35) dX6_solve_31 rfl ?_
          refine rz_iastN (k := (10 * n + k)) dX6_solve_35 hd_30 (by decide) (by omega) (by omega) ?_
          refine rz_iinc dX6_solve_36 (by decide) rfl rfl rfl ?_
          refine rz_goto (t := 3) dX6_solve_39 rfl ?_
          exact rz_bk (ihk ((up1 sk (10 * n + k) (-1000000))) ((fun j hj => by by_cases e : j = k; (subst e; rw [up1_self]; unfold mx; first | (rw [if_pos ⟨ab_1 (by assumption), by omega⟩]) | (rw [if_neg (fun q => by have q1 := q.1; have q2 := q.2; first | omega | (subst q1; exact absurd (by assumption) (show ¬ ab true = 0 by decide)))])); (rw [up1_ne (by omega)]; exact qk j (by omega))))) ⟨Or.inr rfl, Or.inr rfl, Or.inr rfl, Or.inr rfl, Or.inr rfl, Or.inl rfl, trivial⟩ (upA_upA.symm) (rfl)
  · intro sk qk
    refine rz_iload dX6_solve_3 rfl ?_
    refine rz_iload_n dX6_solve_5 rfl ?_
    refine rz_icmp_gt (t := 42) dX6_solve_6 rfl (by omega) (by omega) (fun c6 => ?_) (fun c6 => ?_)
    · refine rz_iload_n dX6_solve_42 rfl ?_
      refine rz_iconst dX6_solve_43 ?_
      refine rz_isub dX6_solve_44 ?_
      refine rz_istore dX6_solve_45 (by decide) rfl ?_
      refine rz_wh (σ := Nat × (Nat → Int)) (Inv := fun sq => sq.1 ≤ n ∧ PlI I 29 all n N sq.1 sq.2) (ls := fun sq => [some (.ref 28), some (zi (n : Int)), some (zi (N : Int)), some (zi (ab all)), some (zi ((sq.1 : Int) - 1)), none]) (IV := fun sq => (upA I 30 sq.2)) (JV := fun sq => J) (fun sq => sq.1) ((n, sk)) ⟨Nat.le_refl _, PlJ_n qk⟩ ⟨Or.inr rfl, Or.inr rfl, Or.inr rfl, Or.inr rfl, Or.inr rfl, Or.inl rfl, trivial⟩ (rfl) (rfl) ?_
      · intro sq qq ihq
        obtain ⟨v1, M⟩ := sq
        have qq : v1 ≤ n ∧ PlI I 29 all n N v1 M := qq
        refine rz_to (ls' := [some (.ref 28), some (zi (n : Int)), some (zi (N : Int)), some (zi (ab all)), some (zi ((v1 : Int) - 1)), none]) (I' := (upA I 30 M)) (J' := J) ⟨Or.inr rfl, Or.inr rfl, Or.inr rfl, Or.inr rfl, Or.inr rfl, Or.inl rfl, trivial⟩ rfl rfl ?_
        refine rz_iload dX6_solve_47 rfl ?_
        refine rz_if_lt (t := 94) dX6_solve_49 rfl (by omega) (fun c49 => ?_) (fun c49 => ?_)
        · refine rz_aload_n dX6_solve_94 rfl ?_
          refine rz_getR dX6_solve_95 kf_RX6_15 hd_28 rfl rr_28_1 ?_
          refine rz_iload_n dX6_solve_98 rfl ?_
          refine rz_ialdN (k := N) (z := ((upA I 30 M) 30 N)) dX6_solve_99 hd_30 (by decide) (by omega) (by omega) rfl ?_
          refine rz_iret dX6_solve_100 rfl ?_
          obtain rfl : v1 = 0 := by omega
          exact ⟨_, rfl, (by have := qq.2 0 (Nat.le_refl _) (Nat.zero_le _) N (Nat.le_refl _); rw [Nat.mul_zero, Nat.zero_add] at this; exact this), ⟨M, rfl, qq.2⟩, rfl⟩
        · obtain ⟨v, rfl⟩ : ∃ v, v1 = v + 1 := ⟨v1 - 1, by omega⟩
          refine rz_to (ls' := [some (.ref 28), some (zi (n : Int)), some (zi (N : Int)), some (zi (ab all)), some (zi (v : Int)), none]) (I' := _) (J' := _) ⟨Or.inr rfl, Or.inr rfl, Or.inr rfl, Or.inr rfl, Or.inr (congrArg (fun z => some (zi z)) (by omega)), Or.inl rfl, trivial⟩ rfl rfl ?_
          refine rz_iconst dX6_solve_52 ?_
          refine rz_istore dX6_solve_53 (by decide) rfl ?_
          refine rz_upx (σ := Nat → Int) (Inv := fun p sp => PlJ I 29 all n N v p sp) (ls := fun (p : Nat) sp => [some (.ref 28), some (zi (n : Int)), some (zi (N : Int)), some (zi (ab all)), some (zi (v : Int)), some (zi (p : Int))]) (IV := fun (p : Nat) sp => (upA I 30 sp)) (JV := fun (p : Nat) sp => J) ((N + 1)) (M) ⟨qq.2, fun j hj => absurd hj (by omega)⟩ ⟨Or.inr rfl, Or.inr rfl, Or.inr rfl, Or.inr rfl, Or.inr rfl, Or.inr rfl, trivial⟩ (rfl) (rfl) ?_ ?_
          · intro p sp hp qp ihp
            have hz5 := mx_step (I := I) (a := 29) (M := sp) (A := upA I 30 sp) (left := p) rfl rfl qp.1 (by omega) (by omega)
            refine rz_iload dX6_solve_55 rfl ?_
            refine rz_iload_n dX6_solve_57 rfl ?_
            refine rz_icmp_gt (t := 88) dX6_solve_58 rfl (by omega) (by omega) (fun c58 => ?_) (fun c58 => ?_)
            · exfalso; omega
            · refine rz_aload_n dX6_solve_61 rfl ?_
              refine rz_getR dX6_solve_62 kf_RX6_15 hd_28 rfl rr_28_1 ?_
              refine rz_iload dX6_solve_65 rfl ?_
              refine rz_bipush dX6_solve_67 (by decide) ?_
              refine rz_imul dX6_solve_69 ?_
              refine rz_iload dX6_solve_70 rfl ?_
              refine rz_iadd dX6_solve_72 ?_
              refine rz_aload_n dX6_solve_73 rfl ?_
              refine rz_iload dX6_solve_74 rfl ?_
              refine rz_iload dX6_solve_76 rfl ?_
              refine rz_cVI dX6_solve_78 kl_RX6_19 hd_28 ⟨_, _, rfl⟩ (c_mostFrom28 (I := upA I 30 sp) (n := n) hn (by omega) (by omega) hG (PlI_rg hn hN hG qp.1 (by omega) (by omega))) rfl rfl (Nat.le_of_ble_eq_true rfl) (Nat.le_of_ble_eq_true rfl) ?_
              refine rz_iastN (k := (10 * v + p)) dX6_solve_81 hd_30 (by decide) (by omega) (by omega) ?_
              refine rz_iinc dX6_solve_82 (by decide) rfl rfl rfl ?_
              refine rz_goto (t := 55) dX6_solve_85 rfl ?_
              exact rz_bk (ihp ((up1 sp (10 * v + p) (mxF (mostF (upA I 30 sp) 29 v p) (p + 1)))) ((PlJ_s hN (by omega) qp hz5))) ⟨Or.inr rfl, Or.inr rfl, Or.inr rfl, Or.inr rfl, Or.inr rfl, Or.inr rfl, trivial⟩ (upA_upA.symm) (rfl)
          · intro sp qp
            refine rz_iload dX6_solve_55 rfl ?_
            refine rz_iload_n dX6_solve_57 rfl ?_
            refine rz_icmp_gt (t := 88) dX6_solve_58 rfl (by omega) (by omega) (fun c58 => ?_) (fun c58 => ?_)
            · refine rz_iinc dX6_solve_88 (by decide) rfl rfl rfl ?_
              refine rz_goto (t := 47) dX6_solve_91 rfl ?_
              exact rz_bk (ihq ((v, sp)) (⟨by omega, PlJ_e qp⟩) (show v < v + 1 by omega)) ⟨Or.inr rfl, Or.inr rfl, Or.inr rfl, Or.inr rfl, Or.inr (congrArg (fun z => some (zi z)) (by show (v : Int) - 1 = (v : Int) + -1; omega)), Or.inl rfl, trivial⟩ (rfl) (rfl)
            · exfalso; omega
    · exfalso; omega
set_option maxRecDepth 20000 in
set_option maxHeartbeats 400000 in
theorem c_with35 {X : pX} {I J : IM} {h v left x : Nat} (hv : v < 5) (hl : left ≤ 9) (hx : x ≤ left) : KI X h mX6_with [.ref 35, zi (v : Int), zi (left : Int), zi (x : Int)] I J (mostF I 36 v left x) I J := by
  show Rz X h mX6_with 0 [some (.ref 35), some (zi (v : Int)), some (zi (left : Int)), some (zi (x : Int))] [] I J _
  refine rz_aload_n dX6_with_0 rfl ?_
  refine rz_getR dX6_with_1 kf_RX6_9 hd_35 rfl rr_35_0 ?_
  refine rz_iload_n dX6_with_4 rfl ?_
  refine rz_bipush dX6_with_5 (by decide) ?_
  refine rz_imul dX6_with_7 ?_
  refine rz_iload_n dX6_with_8 rfl ?_
  refine rz_iadd dX6_with_9 ?_
  refine rz_ialdN (k := (10 * v + x)) (z := (I 36 (10 * v + x))) dX6_with_10 hd_36 (by decide) (by omega) (by omega) rfl ?_
  refine rz_aload_n dX6_with_11 rfl ?_
  refine rz_getR dX6_with_12 kf_RX6_15 hd_35 rfl rr_35_1 ?_
  refine rz_iload_n dX6_with_15 rfl ?_
  refine rz_iconst dX6_with_16 ?_
  refine rz_iadd dX6_with_17 ?_
  refine rz_bipush dX6_with_18 (by decide) ?_
  refine rz_imul dX6_with_20 ?_
  refine rz_iload_n dX6_with_21 rfl ?_
  refine rz_iadd dX6_with_22 ?_
  refine rz_iload_n dX6_with_23 rfl ?_
  refine rz_isub dX6_with_24 ?_
  refine rz_ialdN (k := (10 * (v + 1) + (left - x))) (z := (I 37 (10 * (v + 1) + (left - x)))) dX6_with_25 hd_37 (by decide) (by omega) (by omega) rfl ?_
  refine rz_iadd dX6_with_26 ?_
  refine rz_iret dX6_with_27 rfl ?_
  exact ⟨_, rfl, rfl, rfl, rfl⟩
set_option maxRecDepth 20000 in
set_option maxHeartbeats 400000 in
theorem c_mostFrom35 {X : pX} {I J : IM} {h n v left : Nat} (hn : n ≤ 5) (hv : v < n) (hl : left ≤ 9) (hG : GRg I 36 n) (hM : ∀ j, j ≤ left → -1000000 ≤ I 37 (10 * (v + 1) + j) ∧ I 37 (10 * (v + 1) + j) ≤ 500000) : KI X (h + 1) mX6_mostFrom [.ref 35, zi (v : Int), zi (left : Int)] I J (mxF (mostF I 36 v left) (left + 1)) I J := by
  show Rz X (h + 1) mX6_mostFrom 0 [some (.ref 35), some (zi (v : Int)), some (zi (left : Int)), none, none] [] I J _
  refine rz_ldc (x := (-1000000)) dX6_mostFrom_0 kk_RX6_18 (by decide) ?_
  refine rz_istore_n dX6_mostFrom_2 (by decide) rfl ?_
  refine rz_iconst dX6_mostFrom_3 ?_
  refine rz_istore dX6_mostFrom_4 (by decide) rfl ?_
  refine rz_up (ls := fun x : Nat => [some (.ref 35), some (zi (v : Int)), some (zi (left : Int)), some (zi (mxF (mostF I 36 v left) x)), some (zi (x : Int))]) (IV := fun x : Nat => I) (JV := fun x : Nat => J) ((left + 1)) ⟨Or.inr rfl, Or.inr rfl, Or.inr rfl, Or.inr rfl, Or.inr rfl, trivial⟩ (rfl) (rfl) ?_ ?_
  · intro x hx ihx
    have hq := mostF_rg (k := x) hG hv hl (by omega) hM
    have hq2 := hq.2 x (by omega)
    refine rz_iload dX6_mostFrom_6 rfl ?_
    refine rz_iload_n dX6_mostFrom_8 rfl ?_
    refine rz_icmp_gt (t := 31) dX6_mostFrom_9 rfl (by omega) (by omega) (fun c9 => ?_) (fun c9 => ?_)
    · exfalso; omega
    · refine rz_iload_n dX6_mostFrom_12 rfl ?_
      refine rz_aload_n dX6_mostFrom_13 rfl ?_
      refine rz_iload_n dX6_mostFrom_14 rfl ?_
      refine rz_iload_n dX6_mostFrom_15 rfl ?_
      refine rz_iload dX6_mostFrom_16 rfl ?_
      refine rz_cVI dX6_mostFrom_18 kl_RX6_23 hd_35 ⟨_, _, rfl⟩ (c_with35 (by omega) (by omega) (by omega)) rfl rfl (Nat.le_of_ble_eq_true rfl) (Nat.le_of_ble_eq_true rfl) ?_
      refine rz_mmax dX6_mostFrom_21 kl_RX6_27 (Nat.le_of_ble_eq_true rfl) (by omega) (by omega) ?_
      refine rz_istore_n dX6_mostFrom_24 (by decide) rfl ?_
      refine rz_iinc dX6_mostFrom_25 (by decide) rfl rfl rfl ?_
      refine rz_goto (t := 6) dX6_mostFrom_28 rfl ?_
      exact rz_bk ihx ⟨Or.inr rfl, Or.inr rfl, Or.inr rfl, Or.inr rfl, Or.inr rfl, trivial⟩ (rfl) (rfl)
  · skip
    refine rz_iload dX6_mostFrom_6 rfl ?_
    refine rz_iload_n dX6_mostFrom_8 rfl ?_
    refine rz_icmp_gt (t := 31) dX6_mostFrom_9 rfl (by omega) (by omega) (fun c9 => ?_) (fun c9 => ?_)
    · refine rz_iload_n dX6_mostFrom_31 rfl ?_
      refine rz_iret dX6_mostFrom_32 rfl ?_
      exact ⟨_, rfl, rfl, rfl, rfl⟩
    · exfalso; omega
set_option maxRecDepth 20000 in
set_option maxHeartbeats 400000 in
theorem c_solve35 {X : pX} {I J : IM} {h : Nat} (n N : Nat) (all : Bool) (hn : n ≤ 5) (hN : N ≤ 9) (hG : GRg I 36 n) : KIq X (h + 2) mX6_solve [.ref 35, zi (n : Int), zi (N : Int), zi (ab all)] I J (fun z A B => z = mx (gI I 36) all n 0 N ∧ (∃ M, A = upA I 37 M ∧ PlI I 36 all n N 0 M) ∧ J = B) := by
  have hab := ab_c all
  show Rz X (h + 2) mX6_solve 0 [some (.ref 35), some (zi (n : Int)), some (zi (N : Int)), some (zi (ab all)), none, none] [] I J _
  refine rz_iconst dX6_solve_0 ?_
  refine rz_istore dX6_solve_1 (by decide) rfl ?_
  refine rz_upx (σ := Nat → Int) (Inv := fun k sk => ∀ j, j < k → sk (10 * n + j) = mx (gI I 36) all 0 n j) (ls := fun (k : Nat) sk => [some (.ref 35), some (zi (n : Int)), some (zi (N : Int)), some (zi (ab all)), some (zi (k : Int)), none]) (IV := fun (k : Nat) sk => (upA I 37 sk)) (JV := fun (k : Nat) sk => J) ((N + 1)) ((I 37)) (fun j hj => absurd hj (by omega)) ⟨Or.inr rfl, Or.inr rfl, Or.inr rfl, Or.inr rfl, Or.inr rfl, Or.inl rfl, trivial⟩ (upA_id) (rfl) ?_ ?_
  · intro k sk hk qk ihk
    refine rz_iload dX6_solve_3 rfl ?_
    refine rz_iload_n dX6_solve_5 rfl ?_
    refine rz_icmp_gt (t := 42) dX6_solve_6 rfl (by omega) (by omega) (fun c6 => ?_) (fun c6 => ?_)
    · exfalso; omega
    · refine rz_aload_n dX6_solve_9 rfl ?_
      refine rz_getR dX6_solve_10 kf_RX6_15 hd_35 rfl rr_35_1 ?_
      refine rz_iload_n dX6_solve_13 rfl ?_
      refine rz_bipush dX6_solve_14 (by decide) ?_
      refine rz_imul dX6_solve_16 ?_
      refine rz_iload dX6_solve_17 rfl ?_
      refine rz_iadd dX6_solve_19 ?_
      refine rz_iload_n dX6_solve_20 rfl ?_
      refine rz_if_eq (t := 34) dX6_solve_21 rfl (by omega) (fun c21 => ?_) (fun c21 => ?_)
      · refine rz_iconst dX6_solve_34 ?_
        refine rz_iastN (k := (10 * n + k)) dX6_solve_35 hd_37 (by decide) (by omega) (by omega) ?_
        refine rz_iinc dX6_solve_36 (by decide) rfl rfl rfl ?_
        refine rz_goto (t := 3) dX6_solve_39 rfl ?_
        exact rz_bk (ihk ((up1 sk (10 * n + k) 0)) ((fun j hj => by by_cases e : j = k; (subst e; rw [up1_self]; unfold mx; first | (rw [if_pos ⟨ab_1 (by assumption), by omega⟩]) | (rw [if_neg (fun q => by have q1 := q.1; have q2 := q.2; first | omega | (subst q1; exact absurd (by assumption) (show ¬ ab true = 0 by decide)))])); (rw [up1_ne (by omega)]; exact qk j (by omega))))) ⟨Or.inr rfl, Or.inr rfl, Or.inr rfl, Or.inr rfl, Or.inr rfl, Or.inl rfl, trivial⟩ (upA_upA.symm) (rfl)
      · refine rz_iload dX6_solve_24 rfl ?_
        refine rz_if_le (t := 34) dX6_solve_26 rfl (by omega) (fun c26 => ?_) (fun c26 => ?_)
        · refine rz_iconst dX6_solve_34 ?_
          refine rz_iastN (k := (10 * n + k)) dX6_solve_35 hd_37 (by decide) (by omega) (by omega) ?_
          refine rz_iinc dX6_solve_36 (by decide) rfl rfl rfl ?_
          refine rz_goto (t := 3) dX6_solve_39 rfl ?_
          exact rz_bk (ihk ((up1 sk (10 * n + k) 0)) ((fun j hj => by by_cases e : j = k; (subst e; rw [up1_self]; unfold mx; first | (rw [if_pos ⟨ab_1 (by assumption), by omega⟩]) | (rw [if_neg (fun q => by have q1 := q.1; have q2 := q.2; first | omega | (subst q1; exact absurd (by assumption) (show ¬ ab true = 0 by decide)))])); (rw [up1_ne (by omega)]; exact qk j (by omega))))) ⟨Or.inr rfl, Or.inr rfl, Or.inr rfl, Or.inr rfl, Or.inr rfl, Or.inl rfl, trivial⟩ (upA_upA.symm) (rfl)
        · refine rz_ldc (x := (-1000000)) dX6_solve_29 kk_RX6_18 (by decide) ?_
          refine rz_goto (t := 35) dX6_solve_31 rfl ?_
          refine rz_iastN (k := (10 * n + k)) dX6_solve_35 hd_37 (by decide) (by omega) (by omega) ?_
          refine rz_iinc dX6_solve_36 (by decide) rfl rfl rfl ?_
          refine rz_goto (t := 3) dX6_solve_39 rfl ?_
          exact rz_bk (ihk ((up1 sk (10 * n + k) (-1000000))) ((fun j hj => by by_cases e : j = k; (subst e; rw [up1_self]; unfold mx; first | (rw [if_pos ⟨ab_1 (by assumption), by omega⟩]) | (rw [if_neg (fun q => by have q1 := q.1; have q2 := q.2; first | omega | (subst q1; exact absurd (by assumption) (show ¬ ab true = 0 by decide)))])); (rw [up1_ne (by omega)]; exact qk j (by omega))))) ⟨Or.inr rfl, Or.inr rfl, Or.inr rfl, Or.inr rfl, Or.inr rfl, Or.inl rfl, trivial⟩ (upA_upA.symm) (rfl)
  · intro sk qk
    refine rz_iload dX6_solve_3 rfl ?_
    refine rz_iload_n dX6_solve_5 rfl ?_
    refine rz_icmp_gt (t := 42) dX6_solve_6 rfl (by omega) (by omega) (fun c6 => ?_) (fun c6 => ?_)
    · refine rz_iload_n dX6_solve_42 rfl ?_
      refine rz_iconst dX6_solve_43 ?_
      refine rz_isub dX6_solve_44 ?_
      refine rz_istore dX6_solve_45 (by decide) rfl ?_
      refine rz_wh (σ := Nat × (Nat → Int)) (Inv := fun sq => sq.1 ≤ n ∧ PlI I 36 all n N sq.1 sq.2) (ls := fun sq => [some (.ref 35), some (zi (n : Int)), some (zi (N : Int)), some (zi (ab all)), some (zi ((sq.1 : Int) - 1)), none]) (IV := fun sq => (upA I 37 sq.2)) (JV := fun sq => J) (fun sq => sq.1) ((n, sk)) ⟨Nat.le_refl _, PlJ_n qk⟩ ⟨Or.inr rfl, Or.inr rfl, Or.inr rfl, Or.inr rfl, Or.inr rfl, Or.inl rfl, trivial⟩ (rfl) (rfl) ?_
      · intro sq qq ihq
        obtain ⟨v1, M⟩ := sq
        have qq : v1 ≤ n ∧ PlI I 36 all n N v1 M := qq
        refine rz_to (ls' := [some (.ref 35), some (zi (n : Int)), some (zi (N : Int)), some (zi (ab all)), some (zi ((v1 : Int) - 1)), none]) (I' := (upA I 37 M)) (J' := J) ⟨Or.inr rfl, Or.inr rfl, Or.inr rfl, Or.inr rfl, Or.inr rfl, Or.inl rfl, trivial⟩ rfl rfl ?_
        refine rz_iload dX6_solve_47 rfl ?_
        refine rz_if_lt (t := 94) dX6_solve_49 rfl (by omega) (fun c49 => ?_) (fun c49 => ?_)
        · refine rz_aload_n dX6_solve_94 rfl ?_
          refine rz_getR dX6_solve_95 kf_RX6_15 hd_35 rfl rr_35_1 ?_
          refine rz_iload_n dX6_solve_98 rfl ?_
          refine rz_ialdN (k := N) (z := ((upA I 37 M) 37 N)) dX6_solve_99 hd_37 (by decide) (by omega) (by omega) rfl ?_
          refine rz_iret dX6_solve_100 rfl ?_
          obtain rfl : v1 = 0 := by omega
          exact ⟨_, rfl, (by have := qq.2 0 (Nat.le_refl _) (Nat.zero_le _) N (Nat.le_refl _); rw [Nat.mul_zero, Nat.zero_add] at this; exact this), ⟨M, rfl, qq.2⟩, rfl⟩
        · obtain ⟨v, rfl⟩ : ∃ v, v1 = v + 1 := ⟨v1 - 1, by omega⟩
          refine rz_to (ls' := [some (.ref 35), some (zi (n : Int)), some (zi (N : Int)), some (zi (ab all)), some (zi (v : Int)), none]) (I' := _) (J' := _) ⟨Or.inr rfl, Or.inr rfl, Or.inr rfl, Or.inr rfl, Or.inr (congrArg (fun z => some (zi z)) (by omega)), Or.inl rfl, trivial⟩ rfl rfl ?_
          refine rz_iconst dX6_solve_52 ?_
          refine rz_istore dX6_solve_53 (by decide) rfl ?_
          refine rz_upx (σ := Nat → Int) (Inv := fun p sp => PlJ I 36 all n N v p sp) (ls := fun (p : Nat) sp => [some (.ref 35), some (zi (n : Int)), some (zi (N : Int)), some (zi (ab all)), some (zi (v : Int)), some (zi (p : Int))]) (IV := fun (p : Nat) sp => (upA I 37 sp)) (JV := fun (p : Nat) sp => J) ((N + 1)) (M) ⟨qq.2, fun j hj => absurd hj (by omega)⟩ ⟨Or.inr rfl, Or.inr rfl, Or.inr rfl, Or.inr rfl, Or.inr rfl, Or.inr rfl, trivial⟩ (rfl) (rfl) ?_ ?_
          · intro p sp hp qp ihp
            have hz5 := mx_step (I := I) (a := 36) (M := sp) (A := upA I 37 sp) (left := p) rfl rfl qp.1 (by omega) (by omega)
            refine rz_iload dX6_solve_55 rfl ?_
            refine rz_iload_n dX6_solve_57 rfl ?_
            refine rz_icmp_gt (t := 88) dX6_solve_58 rfl (by omega) (by omega) (fun c58 => ?_) (fun c58 => ?_)
            · exfalso; omega
            · refine rz_aload_n dX6_solve_61 rfl ?_
              refine rz_getR dX6_solve_62 kf_RX6_15 hd_35 rfl rr_35_1 ?_
              refine rz_iload dX6_solve_65 rfl ?_
              refine rz_bipush dX6_solve_67 (by decide) ?_
              refine rz_imul dX6_solve_69 ?_
              refine rz_iload dX6_solve_70 rfl ?_
              refine rz_iadd dX6_solve_72 ?_
              refine rz_aload_n dX6_solve_73 rfl ?_
              refine rz_iload dX6_solve_74 rfl ?_
              refine rz_iload dX6_solve_76 rfl ?_
              refine rz_cVI dX6_solve_78 kl_RX6_19 hd_35 ⟨_, _, rfl⟩ (c_mostFrom35 (I := upA I 37 sp) (n := n) hn (by omega) (by omega) hG (PlI_rg hn hN hG qp.1 (by omega) (by omega))) rfl rfl (Nat.le_of_ble_eq_true rfl) (Nat.le_of_ble_eq_true rfl) ?_
              refine rz_iastN (k := (10 * v + p)) dX6_solve_81 hd_37 (by decide) (by omega) (by omega) ?_
              refine rz_iinc dX6_solve_82 (by decide) rfl rfl rfl ?_
              refine rz_goto (t := 55) dX6_solve_85 rfl ?_
              exact rz_bk (ihp ((up1 sp (10 * v + p) (mxF (mostF (upA I 37 sp) 36 v p) (p + 1)))) ((PlJ_s hN (by omega) qp hz5))) ⟨Or.inr rfl, Or.inr rfl, Or.inr rfl, Or.inr rfl, Or.inr rfl, Or.inr rfl, trivial⟩ (upA_upA.symm) (rfl)
          · intro sp qp
            refine rz_iload dX6_solve_55 rfl ?_
            refine rz_iload_n dX6_solve_57 rfl ?_
            refine rz_icmp_gt (t := 88) dX6_solve_58 rfl (by omega) (by omega) (fun c58 => ?_) (fun c58 => ?_)
            · refine rz_iinc dX6_solve_88 (by decide) rfl rfl rfl ?_
              refine rz_goto (t := 47) dX6_solve_91 rfl ?_
              exact rz_bk (ihq ((v, sp)) (⟨by omega, PlJ_e qp⟩) (show v < v + 1 by omega)) ⟨Or.inr rfl, Or.inr rfl, Or.inr rfl, Or.inr rfl, Or.inr (congrArg (fun z => some (zi z)) (by show (v : Int) - 1 = (v : Int) + -1; omega)), Or.inl rfl, trivial⟩ (rfl) (rfl)
            · exfalso; omega
    · exfalso; omega
set_option maxRecDepth 20000 in
set_option maxHeartbeats 400000 in
theorem c_with49 {X : pX} {I J : IM} {h v left x : Nat} (hv : v < 5) (hl : left ≤ 9) (hx : x ≤ left) : KI X h mX6_with [.ref 49, zi (v : Int), zi (left : Int), zi (x : Int)] I J (mostF I 50 v left x) I J := by
  show Rz X h mX6_with 0 [some (.ref 49), some (zi (v : Int)), some (zi (left : Int)), some (zi (x : Int))] [] I J _
  refine rz_aload_n dX6_with_0 rfl ?_
  refine rz_getR dX6_with_1 kf_RX6_9 hd_49 rfl rr_49_0 ?_
  refine rz_iload_n dX6_with_4 rfl ?_
  refine rz_bipush dX6_with_5 (by decide) ?_
  refine rz_imul dX6_with_7 ?_
  refine rz_iload_n dX6_with_8 rfl ?_
  refine rz_iadd dX6_with_9 ?_
  refine rz_ialdN (k := (10 * v + x)) (z := (I 50 (10 * v + x))) dX6_with_10 hd_50 (by decide) (by omega) (by omega) rfl ?_
  refine rz_aload_n dX6_with_11 rfl ?_
  refine rz_getR dX6_with_12 kf_RX6_15 hd_49 rfl rr_49_1 ?_
  refine rz_iload_n dX6_with_15 rfl ?_
  refine rz_iconst dX6_with_16 ?_
  refine rz_iadd dX6_with_17 ?_
  refine rz_bipush dX6_with_18 (by decide) ?_
  refine rz_imul dX6_with_20 ?_
  refine rz_iload_n dX6_with_21 rfl ?_
  refine rz_iadd dX6_with_22 ?_
  refine rz_iload_n dX6_with_23 rfl ?_
  refine rz_isub dX6_with_24 ?_
  refine rz_ialdN (k := (10 * (v + 1) + (left - x))) (z := (I 51 (10 * (v + 1) + (left - x)))) dX6_with_25 hd_51 (by decide) (by omega) (by omega) rfl ?_
  refine rz_iadd dX6_with_26 ?_
  refine rz_iret dX6_with_27 rfl ?_
  exact ⟨_, rfl, rfl, rfl, rfl⟩
set_option maxRecDepth 20000 in
set_option maxHeartbeats 400000 in
theorem c_mostFrom49 {X : pX} {I J : IM} {h n v left : Nat} (hn : n ≤ 5) (hv : v < n) (hl : left ≤ 9) (hG : GRg I 50 n) (hM : ∀ j, j ≤ left → -1000000 ≤ I 51 (10 * (v + 1) + j) ∧ I 51 (10 * (v + 1) + j) ≤ 500000) : KI X (h + 1) mX6_mostFrom [.ref 49, zi (v : Int), zi (left : Int)] I J (mxF (mostF I 50 v left) (left + 1)) I J := by
  show Rz X (h + 1) mX6_mostFrom 0 [some (.ref 49), some (zi (v : Int)), some (zi (left : Int)), none, none] [] I J _
  refine rz_ldc (x := (-1000000)) dX6_mostFrom_0 kk_RX6_18 (by decide) ?_
  refine rz_istore_n dX6_mostFrom_2 (by decide) rfl ?_
  refine rz_iconst dX6_mostFrom_3 ?_
  refine rz_istore dX6_mostFrom_4 (by decide) rfl ?_
  refine rz_up (ls := fun x : Nat => [some (.ref 49), some (zi (v : Int)), some (zi (left : Int)), some (zi (mxF (mostF I 50 v left) x)), some (zi (x : Int))]) (IV := fun x : Nat => I) (JV := fun x : Nat => J) ((left + 1)) ⟨Or.inr rfl, Or.inr rfl, Or.inr rfl, Or.inr rfl, Or.inr rfl, trivial⟩ (rfl) (rfl) ?_ ?_
  · intro x hx ihx
    have hq := mostF_rg (k := x) hG hv hl (by omega) hM
    have hq2 := hq.2 x (by omega)
    refine rz_iload dX6_mostFrom_6 rfl ?_
    refine rz_iload_n dX6_mostFrom_8 rfl ?_
    refine rz_icmp_gt (t := 31) dX6_mostFrom_9 rfl (by omega) (by omega) (fun c9 => ?_) (fun c9 => ?_)
    · exfalso; omega
    · refine rz_iload_n dX6_mostFrom_12 rfl ?_
      refine rz_aload_n dX6_mostFrom_13 rfl ?_
      refine rz_iload_n dX6_mostFrom_14 rfl ?_
      refine rz_iload_n dX6_mostFrom_15 rfl ?_
      refine rz_iload dX6_mostFrom_16 rfl ?_
      refine rz_cVI dX6_mostFrom_18 kl_RX6_23 hd_49 ⟨_, _, rfl⟩ (c_with49 (by omega) (by omega) (by omega)) rfl rfl (Nat.le_of_ble_eq_true rfl) (Nat.le_of_ble_eq_true rfl) ?_
      refine rz_mmax dX6_mostFrom_21 kl_RX6_27 (Nat.le_of_ble_eq_true rfl) (by omega) (by omega) ?_
      refine rz_istore_n dX6_mostFrom_24 (by decide) rfl ?_
      refine rz_iinc dX6_mostFrom_25 (by decide) rfl rfl rfl ?_
      refine rz_goto (t := 6) dX6_mostFrom_28 rfl ?_
      exact rz_bk ihx ⟨Or.inr rfl, Or.inr rfl, Or.inr rfl, Or.inr rfl, Or.inr rfl, trivial⟩ (rfl) (rfl)
  · skip
    refine rz_iload dX6_mostFrom_6 rfl ?_
    refine rz_iload_n dX6_mostFrom_8 rfl ?_
    refine rz_icmp_gt (t := 31) dX6_mostFrom_9 rfl (by omega) (by omega) (fun c9 => ?_) (fun c9 => ?_)
    · refine rz_iload_n dX6_mostFrom_31 rfl ?_
      refine rz_iret dX6_mostFrom_32 rfl ?_
      exact ⟨_, rfl, rfl, rfl, rfl⟩
    · exfalso; omega
set_option maxRecDepth 20000 in
set_option maxHeartbeats 400000 in
theorem c_solve49 {X : pX} {I J : IM} {h : Nat} (n N : Nat) (all : Bool) (hn : n ≤ 5) (hN : N ≤ 9) (hG : GRg I 50 n) : KIq X (h + 2) mX6_solve [.ref 49, zi (n : Int), zi (N : Int), zi (ab all)] I J (fun z A B => z = mx (gI I 50) all n 0 N ∧ (∃ M, A = upA I 51 M ∧ PlI I 50 all n N 0 M) ∧ J = B) := by
  have hab := ab_c all
  show Rz X (h + 2) mX6_solve 0 [some (.ref 49), some (zi (n : Int)), some (zi (N : Int)), some (zi (ab all)), none, none] [] I J _
  refine rz_iconst dX6_solve_0 ?_
  refine rz_istore dX6_solve_1 (by decide) rfl ?_
  refine rz_upx (σ := Nat → Int) (Inv := fun k sk => ∀ j, j < k → sk (10 * n + j) = mx (gI I 50) all 0 n j) (ls := fun (k : Nat) sk => [some (.ref 49), some (zi (n : Int)), some (zi (N : Int)), some (zi (ab all)), some (zi (k : Int)), none]) (IV := fun (k : Nat) sk => (upA I 51 sk)) (JV := fun (k : Nat) sk => J) ((N + 1)) ((I 51)) (fun j hj => absurd hj (by omega)) ⟨Or.inr rfl, Or.inr rfl, Or.inr rfl, Or.inr rfl, Or.inr rfl, Or.inl rfl, trivial⟩ (upA_id) (rfl) ?_ ?_
  · intro k sk hk qk ihk
    refine rz_iload dX6_solve_3 rfl ?_
    refine rz_iload_n dX6_solve_5 rfl ?_
    refine rz_icmp_gt (t := 42) dX6_solve_6 rfl (by omega) (by omega) (fun c6 => ?_) (fun c6 => ?_)
    · exfalso; omega
    · refine rz_aload_n dX6_solve_9 rfl ?_
      refine rz_getR dX6_solve_10 kf_RX6_15 hd_49 rfl rr_49_1 ?_
      refine rz_iload_n dX6_solve_13 rfl ?_
      refine rz_bipush dX6_solve_14 (by decide) ?_
      refine rz_imul dX6_solve_16 ?_
      refine rz_iload dX6_solve_17 rfl ?_
      refine rz_iadd dX6_solve_19 ?_
      refine rz_iload_n dX6_solve_20 rfl ?_
      refine rz_if_eq (t := 34) dX6_solve_21 rfl (by omega) (fun c21 => ?_) (fun c21 => ?_)
      · refine rz_iconst dX6_solve_34 ?_
        refine rz_iastN (k := (10 * n + k)) dX6_solve_35 hd_51 (by decide) (by omega) (by omega) ?_
        refine rz_iinc dX6_solve_36 (by decide) rfl rfl rfl ?_
        refine rz_goto (t := 3) dX6_solve_39 rfl ?_
        exact rz_bk (ihk ((up1 sk (10 * n + k) 0)) ((fun j hj => by by_cases e : j = k; (subst e; rw [up1_self]; unfold mx; first | (rw [if_pos ⟨ab_1 (by assumption), by omega⟩]) | (rw [if_neg (fun q => by have q1 := q.1; have q2 := q.2; first | omega | (subst q1; exact absurd (by assumption) (show ¬ ab true = 0 by decide)))])); (rw [up1_ne (by omega)]; exact qk j (by omega))))) ⟨Or.inr rfl, Or.inr rfl, Or.inr rfl, Or.inr rfl, Or.inr rfl, Or.inl rfl, trivial⟩ (upA_upA.symm) (rfl)
      · refine rz_iload dX6_solve_24 rfl ?_
        refine rz_if_le (t := 34) dX6_solve_26 rfl (by omega) (fun c26 => ?_) (fun c26 => ?_)
        · refine rz_iconst dX6_solve_34 ?_
          refine rz_iastN (k := (10 * n + k)) dX6_solve_35 hd_51 (by decide) (by omega) (by omega) ?_
          refine rz_iinc dX6_solve_36 (by decide) rfl rfl rfl ?_
          refine rz_goto (t := 3) dX6_solve_39 rfl ?_
          exact rz_bk (ihk ((up1 sk (10 * n + k) 0)) ((fun j hj => by by_cases e : j = k; (subst e; rw [up1_self]; unfold mx; first | (rw [if_pos ⟨ab_1 (by assumption), by omega⟩]) | (rw [if_neg (fun q => by have q1 := q.1; have q2 := q.2; first | omega | (subst q1; exact absurd (by assumption) (show ¬ ab true = 0 by decide)))])); (rw [up1_ne (by omega)]; exact qk j (by omega))))) ⟨Or.inr rfl, Or.inr rfl, Or.inr rfl, Or.inr rfl, Or.inr rfl, Or.inl rfl, trivial⟩ (upA_upA.symm) (rfl)
        · refine rz_ldc (x := (-1000000)) dX6_solve_29 kk_RX6_18 (by decide) ?_
          refine rz_goto (t := 35) dX6_solve_31 rfl ?_
          refine rz_iastN (k := (10 * n + k)) dX6_solve_35 hd_51 (by decide) (by omega) (by omega) ?_
          refine rz_iinc dX6_solve_36 (by decide) rfl rfl rfl ?_
          refine rz_goto (t := 3) dX6_solve_39 rfl ?_
          exact rz_bk (ihk ((up1 sk (10 * n + k) (-1000000))) ((fun j hj => by by_cases e : j = k; (subst e; rw [up1_self]; unfold mx; first | (rw [if_pos ⟨ab_1 (by assumption), by omega⟩]) | (rw [if_neg (fun q => by have q1 := q.1; have q2 := q.2; first | omega | (subst q1; exact absurd (by assumption) (show ¬ ab true = 0 by decide)))])); (rw [up1_ne (by omega)]; exact qk j (by omega))))) ⟨Or.inr rfl, Or.inr rfl, Or.inr rfl, Or.inr rfl, Or.inr rfl, Or.inl rfl, trivial⟩ (upA_upA.symm) (rfl)
  · intro sk qk
    refine rz_iload dX6_solve_3 rfl ?_
    refine rz_iload_n dX6_solve_5 rfl ?_
    refine rz_icmp_gt (t := 42) dX6_solve_6 rfl (by omega) (by omega) (fun c6 => ?_) (fun c6 => ?_)
    · refine rz_iload_n dX6_solve_42 rfl ?_
      refine rz_iconst dX6_solve_43 ?_
      refine rz_isub dX6_solve_44 ?_
      refine rz_istore dX6_solve_45 (by decide) rfl ?_
      refine rz_wh (σ := Nat × (Nat → Int)) (Inv := fun sq => sq.1 ≤ n ∧ PlI I 50 all n N sq.1 sq.2) (ls := fun sq => [some (.ref 49), some (zi (n : Int)), some (zi (N : Int)), some (zi (ab all)), some (zi ((sq.1 : Int) - 1)), none]) (IV := fun sq => (upA I 51 sq.2)) (JV := fun sq => J) (fun sq => sq.1) ((n, sk)) ⟨Nat.le_refl _, PlJ_n qk⟩ ⟨Or.inr rfl, Or.inr rfl, Or.inr rfl, Or.inr rfl, Or.inr rfl, Or.inl rfl, trivial⟩ (rfl) (rfl) ?_
      · intro sq qq ihq
        obtain ⟨v1, M⟩ := sq
        have qq : v1 ≤ n ∧ PlI I 50 all n N v1 M := qq
        refine rz_to (ls' := [some (.ref 49), some (zi (n : Int)), some (zi (N : Int)), some (zi (ab all)), some (zi ((v1 : Int) - 1)), none]) (I' := (upA I 51 M)) (J' := J) ⟨Or.inr rfl, Or.inr rfl, Or.inr rfl, Or.inr rfl, Or.inr rfl, Or.inl rfl, trivial⟩ rfl rfl ?_
        refine rz_iload dX6_solve_47 rfl ?_
        refine rz_if_lt (t := 94) dX6_solve_49 rfl (by omega) (fun c49 => ?_) (fun c49 => ?_)
        · refine rz_aload_n dX6_solve_94 rfl ?_
          refine rz_getR dX6_solve_95 kf_RX6_15 hd_49 rfl rr_49_1 ?_
          refine rz_iload_n dX6_solve_98 rfl ?_
          refine rz_ialdN (k := N) (z := ((upA I 51 M) 51 N)) dX6_solve_99 hd_51 (by decide) (by omega) (by omega) rfl ?_
          refine rz_iret dX6_solve_100 rfl ?_
          obtain rfl : v1 = 0 := by omega
          exact ⟨_, rfl, (by have := qq.2 0 (Nat.le_refl _) (Nat.zero_le _) N (Nat.le_refl _); rw [Nat.mul_zero, Nat.zero_add] at this; exact this), ⟨M, rfl, qq.2⟩, rfl⟩
        · obtain ⟨v, rfl⟩ : ∃ v, v1 = v + 1 := ⟨v1 - 1, by omega⟩
          refine rz_to (ls' := [some (.ref 49), some (zi (n : Int)), some (zi (N : Int)), some (zi (ab all)), some (zi (v : Int)), none]) (I' := _) (J' := _) ⟨Or.inr rfl, Or.inr rfl, Or.inr rfl, Or.inr rfl, Or.inr (congrArg (fun z => some (zi z)) (by omega)), Or.inl rfl, trivial⟩ rfl rfl ?_
          refine rz_iconst dX6_solve_52 ?_
          refine rz_istore dX6_solve_53 (by decide) rfl ?_
          refine rz_upx (σ := Nat → Int) (Inv := fun p sp => PlJ I 50 all n N v p sp) (ls := fun (p : Nat) sp => [some (.ref 49), some (zi (n : Int)), some (zi (N : Int)), some (zi (ab all)), some (zi (v : Int)), some (zi (p : Int))]) (IV := fun (p : Nat) sp => (upA I 51 sp)) (JV := fun (p : Nat) sp => J) ((N + 1)) (M) ⟨qq.2, fun j hj => absurd hj (by omega)⟩ ⟨Or.inr rfl, Or.inr rfl, Or.inr rfl, Or.inr rfl, Or.inr rfl, Or.inr rfl, trivial⟩ (rfl) (rfl) ?_ ?_
          · intro p sp hp qp ihp
            have hz5 := mx_step (I := I) (a := 50) (M := sp) (A := upA I 51 sp) (left := p) rfl rfl qp.1 (by omega) (by omega)
            refine rz_iload dX6_solve_55 rfl ?_
            refine rz_iload_n dX6_solve_57 rfl ?_
            refine rz_icmp_gt (t := 88) dX6_solve_58 rfl (by omega) (by omega) (fun c58 => ?_) (fun c58 => ?_)
            · exfalso; omega
            · refine rz_aload_n dX6_solve_61 rfl ?_
              refine rz_getR dX6_solve_62 kf_RX6_15 hd_49 rfl rr_49_1 ?_
              refine rz_iload dX6_solve_65 rfl ?_
              refine rz_bipush dX6_solve_67 (by decide) ?_
              refine rz_imul dX6_solve_69 ?_
              refine rz_iload dX6_solve_70 rfl ?_
              refine rz_iadd dX6_solve_72 ?_
              refine rz_aload_n dX6_solve_73 rfl ?_
              refine rz_iload dX6_solve_74 rfl ?_
              refine rz_iload dX6_solve_76 rfl ?_
              refine rz_cVI dX6_solve_78 kl_RX6_19 hd_49 ⟨_, _, rfl⟩ (c_mostFrom49 (I := upA I 51 sp) (n := n) hn (by omega) (by omega) hG (PlI_rg hn hN hG qp.1 (by omega) (by omega))) rfl rfl (Nat.le_of_ble_eq_true rfl) (Nat.le_of_ble_eq_true rfl) ?_
              refine rz_iastN (k := (10 * v + p)) dX6_solve_81 hd_51 (by decide) (by omega) (by omega) ?_
              refine rz_iinc dX6_solve_82 (by decide) rfl rfl rfl ?_
              refine rz_goto (t := 55) dX6_solve_85 rfl ?_
              exact rz_bk (ihp ((up1 sp (10 * v + p) (mxF (mostF (upA I 51 sp) 50 v p) (p + 1)))) ((PlJ_s hN (by omega) qp hz5))) ⟨Or.inr rfl, Or.inr rfl, Or.inr rfl, Or.inr rfl, Or.inr rfl, Or.inr rfl, trivial⟩ (upA_upA.symm) (rfl)
          · intro sp qp
            refine rz_iload dX6_solve_55 rfl ?_
            refine rz_iload_n dX6_solve_57 rfl ?_
            refine rz_icmp_gt (t := 88) dX6_solve_58 rfl (by omega) (by omega) (fun c58 => ?_) (fun c58 => ?_)
            · refine rz_iinc dX6_solve_88 (by decide) rfl rfl rfl ?_
              refine rz_goto (t := 47) dX6_solve_91 rfl ?_
              exact rz_bk (ihq ((v, sp)) (⟨by omega, PlJ_e qp⟩) (show v < v + 1 by omega)) ⟨Or.inr rfl, Or.inr rfl, Or.inr rfl, Or.inr rfl, Or.inr (congrArg (fun z => some (zi z)) (by show (v : Int) - 1 = (v : Int) + -1; omega)), Or.inl rfl, trivial⟩ (rfl) (rfl)
            · exfalso; omega
    · exfalso; omega
set_option maxRecDepth 20000 in
set_option maxHeartbeats 400000 in
theorem c_with52 {X : pX} {I J : IM} {h v left x : Nat} (hv : v < 5) (hl : left ≤ 9) (hx : x ≤ left) : KI X h mX6_with [.ref 52, zi (v : Int), zi (left : Int), zi (x : Int)] I J (mostF I 53 v left x) I J := by
  show Rz X h mX6_with 0 [some (.ref 52), some (zi (v : Int)), some (zi (left : Int)), some (zi (x : Int))] [] I J _
  refine rz_aload_n dX6_with_0 rfl ?_
  refine rz_getR dX6_with_1 kf_RX6_9 hd_52 rfl rr_52_0 ?_
  refine rz_iload_n dX6_with_4 rfl ?_
  refine rz_bipush dX6_with_5 (by decide) ?_
  refine rz_imul dX6_with_7 ?_
  refine rz_iload_n dX6_with_8 rfl ?_
  refine rz_iadd dX6_with_9 ?_
  refine rz_ialdN (k := (10 * v + x)) (z := (I 53 (10 * v + x))) dX6_with_10 hd_53 (by decide) (by omega) (by omega) rfl ?_
  refine rz_aload_n dX6_with_11 rfl ?_
  refine rz_getR dX6_with_12 kf_RX6_15 hd_52 rfl rr_52_1 ?_
  refine rz_iload_n dX6_with_15 rfl ?_
  refine rz_iconst dX6_with_16 ?_
  refine rz_iadd dX6_with_17 ?_
  refine rz_bipush dX6_with_18 (by decide) ?_
  refine rz_imul dX6_with_20 ?_
  refine rz_iload_n dX6_with_21 rfl ?_
  refine rz_iadd dX6_with_22 ?_
  refine rz_iload_n dX6_with_23 rfl ?_
  refine rz_isub dX6_with_24 ?_
  refine rz_ialdN (k := (10 * (v + 1) + (left - x))) (z := (I 54 (10 * (v + 1) + (left - x)))) dX6_with_25 hd_54 (by decide) (by omega) (by omega) rfl ?_
  refine rz_iadd dX6_with_26 ?_
  refine rz_iret dX6_with_27 rfl ?_
  exact ⟨_, rfl, rfl, rfl, rfl⟩
set_option maxRecDepth 20000 in
set_option maxHeartbeats 400000 in
theorem c_mostFrom52 {X : pX} {I J : IM} {h n v left : Nat} (hn : n ≤ 5) (hv : v < n) (hl : left ≤ 9) (hG : GRg I 53 n) (hM : ∀ j, j ≤ left → -1000000 ≤ I 54 (10 * (v + 1) + j) ∧ I 54 (10 * (v + 1) + j) ≤ 500000) : KI X (h + 1) mX6_mostFrom [.ref 52, zi (v : Int), zi (left : Int)] I J (mxF (mostF I 53 v left) (left + 1)) I J := by
  show Rz X (h + 1) mX6_mostFrom 0 [some (.ref 52), some (zi (v : Int)), some (zi (left : Int)), none, none] [] I J _
  refine rz_ldc (x := (-1000000)) dX6_mostFrom_0 kk_RX6_18 (by decide) ?_
  refine rz_istore_n dX6_mostFrom_2 (by decide) rfl ?_
  refine rz_iconst dX6_mostFrom_3 ?_
  refine rz_istore dX6_mostFrom_4 (by decide) rfl ?_
  refine rz_up (ls := fun x : Nat => [some (.ref 52), some (zi (v : Int)), some (zi (left : Int)), some (zi (mxF (mostF I 53 v left) x)), some (zi (x : Int))]) (IV := fun x : Nat => I) (JV := fun x : Nat => J) ((left + 1)) ⟨Or.inr rfl, Or.inr rfl, Or.inr rfl, Or.inr rfl, Or.inr rfl, trivial⟩ (rfl) (rfl) ?_ ?_
  · intro x hx ihx
    have hq := mostF_rg (k := x) hG hv hl (by omega) hM
    have hq2 := hq.2 x (by omega)
    refine rz_iload dX6_mostFrom_6 rfl ?_
    refine rz_iload_n dX6_mostFrom_8 rfl ?_
    refine rz_icmp_gt (t := 31) dX6_mostFrom_9 rfl (by omega) (by omega) (fun c9 => ?_) (fun c9 => ?_)
    · exfalso; omega
    · refine rz_iload_n dX6_mostFrom_12 rfl ?_
      refine rz_aload_n dX6_mostFrom_13 rfl ?_
      refine rz_iload_n dX6_mostFrom_14 rfl ?_
      refine rz_iload_n dX6_mostFrom_15 rfl ?_
      refine rz_iload dX6_mostFrom_16 rfl ?_
      refine rz_cVI dX6_mostFrom_18 kl_RX6_23 hd_52 ⟨_, _, rfl⟩ (c_with52 (by omega) (by omega) (by omega)) rfl rfl (Nat.le_of_ble_eq_true rfl) (Nat.le_of_ble_eq_true rfl) ?_
      refine rz_mmax dX6_mostFrom_21 kl_RX6_27 (Nat.le_of_ble_eq_true rfl) (by omega) (by omega) ?_
      refine rz_istore_n dX6_mostFrom_24 (by decide) rfl ?_
      refine rz_iinc dX6_mostFrom_25 (by decide) rfl rfl rfl ?_
      refine rz_goto (t := 6) dX6_mostFrom_28 rfl ?_
      exact rz_bk ihx ⟨Or.inr rfl, Or.inr rfl, Or.inr rfl, Or.inr rfl, Or.inr rfl, trivial⟩ (rfl) (rfl)
  · skip
    refine rz_iload dX6_mostFrom_6 rfl ?_
    refine rz_iload_n dX6_mostFrom_8 rfl ?_
    refine rz_icmp_gt (t := 31) dX6_mostFrom_9 rfl (by omega) (by omega) (fun c9 => ?_) (fun c9 => ?_)
    · refine rz_iload_n dX6_mostFrom_31 rfl ?_
      refine rz_iret dX6_mostFrom_32 rfl ?_
      exact ⟨_, rfl, rfl, rfl, rfl⟩
    · exfalso; omega
set_option maxRecDepth 20000 in
set_option maxHeartbeats 400000 in
theorem c_solve52 {X : pX} {I J : IM} {h : Nat} (n N : Nat) (all : Bool) (hn : n ≤ 5) (hN : N ≤ 9) (hG : GRg I 53 n) : KIq X (h + 2) mX6_solve [.ref 52, zi (n : Int), zi (N : Int), zi (ab all)] I J (fun z A B => z = mx (gI I 53) all n 0 N ∧ (∃ M, A = upA I 54 M ∧ PlI I 53 all n N 0 M) ∧ J = B) := by
  have hab := ab_c all
  show Rz X (h + 2) mX6_solve 0 [some (.ref 52), some (zi (n : Int)), some (zi (N : Int)), some (zi (ab all)), none, none] [] I J _
  refine rz_iconst dX6_solve_0 ?_
  refine rz_istore dX6_solve_1 (by decide) rfl ?_
  refine rz_upx (σ := Nat → Int) (Inv := fun k sk => ∀ j, j < k → sk (10 * n + j) = mx (gI I 53) all 0 n j) (ls := fun (k : Nat) sk => [some (.ref 52), some (zi (n : Int)), some (zi (N : Int)), some (zi (ab all)), some (zi (k : Int)), none]) (IV := fun (k : Nat) sk => (upA I 54 sk)) (JV := fun (k : Nat) sk => J) ((N + 1)) ((I 54)) (fun j hj => absurd hj (by omega)) ⟨Or.inr rfl, Or.inr rfl, Or.inr rfl, Or.inr rfl, Or.inr rfl, Or.inl rfl, trivial⟩ (upA_id) (rfl) ?_ ?_
  · intro k sk hk qk ihk
    refine rz_iload dX6_solve_3 rfl ?_
    refine rz_iload_n dX6_solve_5 rfl ?_
    refine rz_icmp_gt (t := 42) dX6_solve_6 rfl (by omega) (by omega) (fun c6 => ?_) (fun c6 => ?_)
    · exfalso; omega
    · refine rz_aload_n dX6_solve_9 rfl ?_
      refine rz_getR dX6_solve_10 kf_RX6_15 hd_52 rfl rr_52_1 ?_
      refine rz_iload_n dX6_solve_13 rfl ?_
      refine rz_bipush dX6_solve_14 (by decide) ?_
      refine rz_imul dX6_solve_16 ?_
      refine rz_iload dX6_solve_17 rfl ?_
      refine rz_iadd dX6_solve_19 ?_
      refine rz_iload_n dX6_solve_20 rfl ?_
      refine rz_if_eq (t := 34) dX6_solve_21 rfl (by omega) (fun c21 => ?_) (fun c21 => ?_)
      · refine rz_iconst dX6_solve_34 ?_
        refine rz_iastN (k := (10 * n + k)) dX6_solve_35 hd_54 (by decide) (by omega) (by omega) ?_
        refine rz_iinc dX6_solve_36 (by decide) rfl rfl rfl ?_
        refine rz_goto (t := 3) dX6_solve_39 rfl ?_
        exact rz_bk (ihk ((up1 sk (10 * n + k) 0)) ((fun j hj => by by_cases e : j = k; (subst e; rw [up1_self]; unfold mx; first | (rw [if_pos ⟨ab_1 (by assumption), by omega⟩]) | (rw [if_neg (fun q => by have q1 := q.1; have q2 := q.2; first | omega | (subst q1; exact absurd (by assumption) (show ¬ ab true = 0 by decide)))])); (rw [up1_ne (by omega)]; exact qk j (by omega))))) ⟨Or.inr rfl, Or.inr rfl, Or.inr rfl, Or.inr rfl, Or.inr rfl, Or.inl rfl, trivial⟩ (upA_upA.symm) (rfl)
      · refine rz_iload dX6_solve_24 rfl ?_
        refine rz_if_le (t := 34) dX6_solve_26 rfl (by omega) (fun c26 => ?_) (fun c26 => ?_)
        · refine rz_iconst dX6_solve_34 ?_
          refine rz_iastN (k := (10 * n + k)) dX6_solve_35 hd_54 (by decide) (by omega) (by omega) ?_
          refine rz_iinc dX6_solve_36 (by decide) rfl rfl rfl ?_
          refine rz_goto (t := 3) dX6_solve_39 rfl ?_
          exact rz_bk (ihk ((up1 sk (10 * n + k) 0)) ((fun j hj => by by_cases e : j = k; (subst e; rw [up1_self]; unfold mx; first | (rw [if_pos ⟨ab_1 (by assumption), by omega⟩]) | (rw [if_neg (fun q => by have q1 := q.1; have q2 := q.2; first | omega | (subst q1; exact absurd (by assumption) (show ¬ ab true = 0 by decide)))])); (rw [up1_ne (by omega)]; exact qk j (by omega))))) ⟨Or.inr rfl, Or.inr rfl, Or.inr rfl, Or.inr rfl, Or.inr rfl, Or.inl rfl, trivial⟩ (upA_upA.symm) (rfl)
        · refine rz_ldc (x := (-1000000)) dX6_solve_29 kk_RX6_18 (by decide) ?_
          refine rz_goto (t := 35) dX6_solve_31 rfl ?_
          refine rz_iastN (k := (10 * n + k)) dX6_solve_35 hd_54 (by decide) (by omega) (by omega) ?_
          refine rz_iinc dX6_solve_36 (by decide) rfl rfl rfl ?_
          refine rz_goto (t := 3) dX6_solve_39 rfl ?_
          exact rz_bk (ihk ((up1 sk (10 * n + k) (-1000000))) ((fun j hj => by by_cases e : j = k; (subst e; rw [up1_self]; unfold mx; first | (rw [if_pos ⟨ab_1 (by assumption), by omega⟩]) | (rw [if_neg (fun q => by have q1 := q.1; have q2 := q.2; first | omega | (subst q1; exact absurd (by assumption) (show ¬ ab true = 0 by decide)))])); (rw [up1_ne (by omega)]; exact qk j (by omega))))) ⟨Or.inr rfl, Or.inr rfl, Or.inr rfl, Or.inr rfl, Or.inr rfl, Or.inl rfl, trivial⟩ (upA_upA.symm) (rfl)
  · intro sk qk
    refine rz_iload dX6_solve_3 rfl ?_
    refine rz_iload_n dX6_solve_5 rfl ?_
    refine rz_icmp_gt (t := 42) dX6_solve_6 rfl (by omega) (by omega) (fun c6 => ?_) (fun c6 => ?_)
    · refine rz_iload_n dX6_solve_42 rfl ?_
      refine rz_iconst dX6_solve_43 ?_
      refine rz_isub dX6_solve_44 ?_
      refine rz_istore dX6_solve_45 (by decide) rfl ?_
      refine rz_wh (σ := Nat × (Nat → Int)) (Inv := fun sq => sq.1 ≤ n ∧ PlI I 53 all n N sq.1 sq.2) (ls := fun sq => [some (.ref 52), some (zi (n : Int)), some (zi (N : Int)), some (zi (ab all)), some (zi ((sq.1 : Int) - 1)), none]) (IV := fun sq => (upA I 54 sq.2)) (JV := fun sq => J) (fun sq => sq.1) ((n, sk)) ⟨Nat.le_refl _, PlJ_n qk⟩ ⟨Or.inr rfl, Or.inr rfl, Or.inr rfl, Or.inr rfl, Or.inr rfl, Or.inl rfl, trivial⟩ (rfl) (rfl) ?_
      · intro sq qq ihq
        obtain ⟨v1, M⟩ := sq
        have qq : v1 ≤ n ∧ PlI I 53 all n N v1 M := qq
        refine rz_to (ls' := [some (.ref 52), some (zi (n : Int)), some (zi (N : Int)), some (zi (ab all)), some (zi ((v1 : Int) - 1)), none]) (I' := (upA I 54 M)) (J' := J) ⟨Or.inr rfl, Or.inr rfl, Or.inr rfl, Or.inr rfl, Or.inr rfl, Or.inl rfl, trivial⟩ rfl rfl ?_
        refine rz_iload dX6_solve_47 rfl ?_
        refine rz_if_lt (t := 94) dX6_solve_49 rfl (by omega) (fun c49 => ?_) (fun c49 => ?_)
        · refine rz_aload_n dX6_solve_94 rfl ?_
          refine rz_getR dX6_solve_95 kf_RX6_15 hd_52 rfl rr_52_1 ?_
          refine rz_iload_n dX6_solve_98 rfl ?_
          refine rz_ialdN (k := N) (z := ((upA I 54 M) 54 N)) dX6_solve_99 hd_54 (by decide) (by omega) (by omega) rfl ?_
          refine rz_iret dX6_solve_100 rfl ?_
          obtain rfl : v1 = 0 := by omega
          exact ⟨_, rfl, (by have := qq.2 0 (Nat.le_refl _) (Nat.zero_le _) N (Nat.le_refl _); rw [Nat.mul_zero, Nat.zero_add] at this; exact this), ⟨M, rfl, qq.2⟩, rfl⟩
        · obtain ⟨v, rfl⟩ : ∃ v, v1 = v + 1 := ⟨v1 - 1, by omega⟩
          refine rz_to (ls' := [some (.ref 52), some (zi (n : Int)), some (zi (N : Int)), some (zi (ab all)), some (zi (v : Int)), none]) (I' := _) (J' := _) ⟨Or.inr rfl, Or.inr rfl, Or.inr rfl, Or.inr rfl, Or.inr (congrArg (fun z => some (zi z)) (by omega)), Or.inl rfl, trivial⟩ rfl rfl ?_
          refine rz_iconst dX6_solve_52 ?_
          refine rz_istore dX6_solve_53 (by decide) rfl ?_
          refine rz_upx (σ := Nat → Int) (Inv := fun p sp => PlJ I 53 all n N v p sp) (ls := fun (p : Nat) sp => [some (.ref 52), some (zi (n : Int)), some (zi (N : Int)), some (zi (ab all)), some (zi (v : Int)), some (zi (p : Int))]) (IV := fun (p : Nat) sp => (upA I 54 sp)) (JV := fun (p : Nat) sp => J) ((N + 1)) (M) ⟨qq.2, fun j hj => absurd hj (by omega)⟩ ⟨Or.inr rfl, Or.inr rfl, Or.inr rfl, Or.inr rfl, Or.inr rfl, Or.inr rfl, trivial⟩ (rfl) (rfl) ?_ ?_
          · intro p sp hp qp ihp
            have hz5 := mx_step (I := I) (a := 53) (M := sp) (A := upA I 54 sp) (left := p) rfl rfl qp.1 (by omega) (by omega)
            refine rz_iload dX6_solve_55 rfl ?_
            refine rz_iload_n dX6_solve_57 rfl ?_
            refine rz_icmp_gt (t := 88) dX6_solve_58 rfl (by omega) (by omega) (fun c58 => ?_) (fun c58 => ?_)
            · exfalso; omega
            · refine rz_aload_n dX6_solve_61 rfl ?_
              refine rz_getR dX6_solve_62 kf_RX6_15 hd_52 rfl rr_52_1 ?_
              refine rz_iload dX6_solve_65 rfl ?_
              refine rz_bipush dX6_solve_67 (by decide) ?_
              refine rz_imul dX6_solve_69 ?_
              refine rz_iload dX6_solve_70 rfl ?_
              refine rz_iadd dX6_solve_72 ?_
              refine rz_aload_n dX6_solve_73 rfl ?_
              refine rz_iload dX6_solve_74 rfl ?_
              refine rz_iload dX6_solve_76 rfl ?_
              refine rz_cVI dX6_solve_78 kl_RX6_19 hd_52 ⟨_, _, rfl⟩ (c_mostFrom52 (I := upA I 54 sp) (n := n) hn (by omega) (by omega) hG (PlI_rg hn hN hG qp.1 (by omega) (by omega))) rfl rfl (Nat.le_of_ble_eq_true rfl) (Nat.le_of_ble_eq_true rfl) ?_
              refine rz_iastN (k := (10 * v + p)) dX6_solve_81 hd_54 (by decide) (by omega) (by omega) ?_
              refine rz_iinc dX6_solve_82 (by decide) rfl rfl rfl ?_
              refine rz_goto (t := 55) dX6_solve_85 rfl ?_
              exact rz_bk (ihp ((up1 sp (10 * v + p) (mxF (mostF (upA I 54 sp) 53 v p) (p + 1)))) ((PlJ_s hN (by omega) qp hz5))) ⟨Or.inr rfl, Or.inr rfl, Or.inr rfl, Or.inr rfl, Or.inr rfl, Or.inr rfl, trivial⟩ (upA_upA.symm) (rfl)
          · intro sp qp
            refine rz_iload dX6_solve_55 rfl ?_
            refine rz_iload_n dX6_solve_57 rfl ?_
            refine rz_icmp_gt (t := 88) dX6_solve_58 rfl (by omega) (by omega) (fun c58 => ?_) (fun c58 => ?_)
            · refine rz_iinc dX6_solve_88 (by decide) rfl rfl rfl ?_
              refine rz_goto (t := 47) dX6_solve_91 rfl ?_
              exact rz_bk (ihq ((v, sp)) (⟨by omega, PlJ_e qp⟩) (show v < v + 1 by omega)) ⟨Or.inr rfl, Or.inr rfl, Or.inr rfl, Or.inr rfl, Or.inr (congrArg (fun z => some (zi z)) (by show (v : Int) - 1 = (v : Int) + -1; omega)), Or.inl rfl, trivial⟩ (rfl) (rfl)
            · exfalso; omega
    · exfalso; omega
