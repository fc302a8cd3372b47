/-! how many villages are surely had: cheapest first against a table -/
def cF (p : Nat → Bool) : Nat → Nat → Nat
  | 0, _ => 99
  | k + 1, b => if p b = true then cF p k (b + 1) else b
theorem cF_prop {p : Nat → Bool} : ∀ (k b : Nat), b + k = 10 → ((cF p k b = 99 ∧ ∀ x, b ≤ x → x < 10 → p x = true) ∨ (b ≤ cF p k b ∧ cF p k b < 10 ∧ p (cF p k b) = false ∧ ∀ x, b ≤ x → x < cF p k b → p x = true))
  | 0, b, h => Or.inl ⟨rfl, fun x h1 h2 => by omega⟩
  | k + 1, b, h => by
    unfold cF
    by_cases e : p b = true
    · rw [if_pos e]
      rcases cF_prop (p := p) k (b + 1) (by omega) with ⟨h1, h2⟩ | ⟨h1, h2, h3, h4⟩
      · refine Or.inl ⟨h1, fun x x1 x2 => ?_⟩
        by_cases q : x = b
        · subst q; exact e
        · exact h2 x (by omega) x2
      · refine Or.inr ⟨by omega, h2, h3, fun x x1 x2 => ?_⟩
        by_cases q : x = b
        · subst q; exact e
        · exact h4 x (by omega) x2
    · rw [if_neg e]
      exact Or.inr ⟨Nat.le_refl _, by omega, by simpa using e, fun x x1 x2 => by omega⟩
/-- the fewest of the other by which a village is not had -/
def cst (pos : Nat → Nat → Nat → Bool) (v a : Nat) : Nat := cF (pos v a) 10 0
theorem cst_prop {pos : Nat → Nat → Nat → Bool} {v a : Nat} : (cst pos v a = 99 ∧ ∀ x, x < 10 → pos v a x = true) ∨ (cst pos v a < 10 ∧ pos v a (cst pos v a) = false ∧ ∀ x, x < cst pos v a → pos v a x = true) := by
  rcases cF_prop (p := pos v a) 10 0 (by omega) with ⟨h1, h2⟩ | ⟨h1, h2, h3, h4⟩
  · exact Or.inl ⟨h1, fun x hx => h2 x (Nat.zero_le _) hx⟩
  · exact Or.inr ⟨h2, h3, fun x hx => h4 x (Nat.zero_le _) hx⟩
/-- the least of so many, from 6 on -/
def mnF (f : Nat → Int) : Nat → Int
  | 0 => 6
  | k + 1 => if f k < mnF f k then f k else mnF f k
theorem mnF_le {f : Nat → Int} {k x : Nat} (h : x < k) : mnF f k ≤ f x := by
  induction k with
  | zero => omega
  | succ k ih =>
    unfold mnF
    by_cases e : x = k
    · subst e; split <;> omega
    · have := ih (by omega)
      split <;> omega
theorem mnF_at {f : Nat → Int} (k : Nat) : mnF f k = 6 ∨ ∃ x, x < k ∧ mnF f k = f x := by
  induction k with
  | zero => exact Or.inl rfl
  | succ k ih =>
    unfold mnF
    by_cases e : f k < mnF f k
    · rw [if_pos e]; exact Or.inr ⟨k, Nat.lt_succ_self k, rfl⟩
    · rw [if_neg e]
      rcases ih with h | ⟨x, h1, h2⟩
      · exact Or.inl h
      · exact Or.inr ⟨x, by omega, h2⟩
theorem mnF_congr {f g : Nat → Int} {k : Nat} (h : ∀ x, x < k → f x = g x) : mnF f k = mnF g k := by
  induction k with
  | zero => rfl
  | succ k ih => unfold mnF; rw [ih (fun x hx => h x (by omega)), h k (by omega)]
def dpS (pos : Nat → Nat → Nat → Bool) (r : Nat → Nat) : Nat → Nat → Nat → Int
  | 0, _, _ => 0
  | m + 1, v, left => mnF (fun b => (if pos v (r v) b = true then 1 else 0) + dpS pos r m (v + 1) (left - b)) (left + 1)
def sfx (f : Nat → Int) : Nat → Nat → Int
  | 0, _ => 0
  | m + 1, v => f v + sfx f m (v + 1)
theorem sfx_congr {f g : Nat → Int} : ∀ (m v : Nat), (∀ u, v ≤ u → f u = g u) → sfx f m v = sfx g m v
  | 0, v, h => rfl
  | m + 1, v, h => by
    unfold sfx
    rw [h v (Nat.le_refl _), sfx_congr m (v + 1) (fun u hu => h u (by omega))]
theorem sfx_sum {f : Nat → Int} (n : Nat) : sfx f n 0 = sumP f n := by
  have shift : ∀ (m v : Nat), sfx f (m + 1) v = sfx f m v + f (v + m) := by
    intro m
    induction m with
    | zero => intro v; simp [sfx]
    | succ m ih =>
      intro v
      have e : sfx f (m + 1 + 1) v = f v + sfx f (m + 1) (v + 1) := rfl
      have e2 : sfx f (m + 1) v = f v + sfx f m (v + 1) := rfl
      rw [e, e2, ih, show v + 1 + m = v + (m + 1) by omega]
      omega
  induction n with
  | zero => rfl
  | succ n ih => rw [shift, ih, Nat.zero_add]; rfl
abbrev oneT (S : Nat → Bool) : Nat → Int := fun v => if S v = true then 1 else 0
abbrev cosT (c : Nat → Nat) (S : Nat → Bool) : Nat → Int := fun v => if S v = true then ((c v : Nat) : Int) else 0
theorem oneT_rg {S : Nat → Bool} : ∀ m v, 0 ≤ sfx (oneT S) m v ∧ sfx (oneT S) m v ≤ m
  | 0, v => by simp [sfx]
  | m + 1, v => by
    have := oneT_rg (S := S) m (v + 1)
    unfold sfx
    have h : oneT S v = 0 ∨ oneT S v = 1 := by unfold oneT; split <;> omega
    omega
theorem dpS_le {pos : Nat → Nat → Nat → Bool} {r : Nat → Nat} {S : Nat → Bool} : ∀ (m v left : Nat), left ≤ 9 → sfx (cosT (fun v => cst pos v (r v)) S) m v ≤ left → (∀ u, 0 ≤ cosT (fun v => cst pos v (r v)) S u) → dpS pos r m v left ≤ m - sfx (oneT S) m v
  | 0, v, left, hl, h, _ => by simp [dpS, sfx]
  | m + 1, v, left, hl, h, h0 => by
    have hs : ∀ m v, 0 ≤ sfx (cosT (fun v => cst pos v (r v)) S) m v := by
      intro m
      induction m with
      | zero => intro v; exact Int.le_refl _
      | succ m ih => intro v; have := ih (v + 1); have := h0 v; show 0 ≤ cosT (fun v => cst pos v (r v)) S v + sfx (cosT (fun v => cst pos v (r v)) S) m (v + 1); omega
    have e1 : sfx (cosT (fun v => cst pos v (r v)) S) (m + 1) v = cosT (fun v => cst pos v (r v)) S v + sfx (cosT (fun v => cst pos v (r v)) S) m (v + 1) := rfl
    have e2 : sfx (oneT S) (m + 1) v = oneT S v + sfx (oneT S) m (v + 1) := rfl
    have e3 : dpS pos r (m + 1) v left = mnF (fun b => (if pos v (r v) b = true then 1 else 0) + dpS pos r m (v + 1) (left - b)) (left + 1) := rfl
    rw [e1] at h
    rw [e2, e3]
    have hs1 := hs m (v + 1)
    by_cases hS : S v = true
    · have c1 : cosT (fun v => cst pos v (r v)) S v = ((cst pos v (r v) : Nat) : Int) := if_pos hS
      have o1 : oneT S v = 1 := if_pos hS
      rw [c1] at h
      have hm := mnF_le (f := fun b => (if pos v (r v) b = true then 1 else 0) + dpS pos r m (v + 1) (left - b)) (k := left + 1) (x := cst pos v (r v)) (by omega)
      have hp : pos v (r v) (cst pos v (r v)) = false := by
        rcases cst_prop (pos := pos) (v := v) (a := r v) with ⟨q, -⟩ | ⟨-, q, -⟩
        · omega
        · exact q
      have hm2 : mnF (fun b => (if pos v (r v) b = true then 1 else 0) + dpS pos r m (v + 1) (left - b)) (left + 1) ≤ (if pos v (r v) (cst pos v (r v)) = true then 1 else 0) + dpS pos r m (v + 1) (left - cst pos v (r v)) := hm
      rw [hp, if_neg (by decide)] at hm2
      have ih := dpS_le (S := S) m (v + 1) (left - cst pos v (r v)) (by omega) (by omega) h0
      rw [o1]
      omega
    · have c1 : cosT (fun v => cst pos v (r v)) S v = 0 := if_neg hS
      have o1 : oneT S v = 0 := if_neg hS
      rw [c1] at h
      have hm := mnF_le (f := fun b => (if pos v (r v) b = true then 1 else 0) + dpS pos r m (v + 1) (left - b)) (k := left + 1) (x := 0) (by omega)
      have hm2 : mnF (fun b => (if pos v (r v) b = true then 1 else 0) + dpS pos r m (v + 1) (left - b)) (left + 1) ≤ (if pos v (r v) 0 = true then 1 else 0) + dpS pos r m (v + 1) (left - 0) := hm
      have ih := dpS_le (S := S) m (v + 1) (left - 0) (by omega) (by omega) h0
      have h01 : (if pos v (r v) 0 = true then (1 : Int) else 0) ≤ 1 := by split <;> omega
      rw [o1]
      omega
theorem dpS_ex {pos : Nat → Nat → Nat → Bool} {r : Nat → Nat} : ∀ (m v left : Nat), m ≤ 5 → left ≤ 9 → ∃ S : Nat → Bool, sfx (cosT (fun v => cst pos v (r v)) S) m v ≤ left ∧ dpS pos r m v left = m - sfx (oneT S) m v
  | 0, v, left, hm, hl => ⟨fun _ => false, by simp [sfx], by simp [dpS, sfx]⟩
  | m + 1, v, left, hm, hl => by
    have e3 : dpS pos r (m + 1) v left = mnF (fun b => (if pos v (r v) b = true then 1 else 0) + dpS pos r m (v + 1) (left - b)) (left + 1) := rfl
    have hbd : dpS pos r (m + 1) v left ≤ 5 := by
      have := dpS_le (pos := pos) (r := r) (S := fun _ => false) (m + 1) v left hl (by
        have : ∀ m v, sfx (cosT (fun v => cst pos v (r v)) (fun _ => false)) m v = 0 := by
          intro m
          induction m with
          | zero => intro v; rfl
          | succ m ih => intro v; show (if false = true then _ else (0 : Int)) + _ = 0; rw [if_neg (by decide), ih]; rfl
        rw [this]; omega) (fun u => by show 0 ≤ (if false = true then _ else (0 : Int)); rw [if_neg (by decide)]; exact Int.le_refl _)
      have h2 := oneT_rg (S := fun _ => false) (m + 1) v
      omega
    rw [e3] at hbd ⊢
    rcases mnF_at (f := fun b => (if pos v (r v) b = true then 1 else 0) + dpS pos r m (v + 1) (left - b)) (left + 1) with h6 | ⟨b, hb, he⟩
    · omega
    · obtain ⟨S, s1, s2⟩ := dpS_ex (pos := pos) (r := r) m (v + 1) (left - b) (by omega) (by omega)
      rw [he]
      by_cases hp : pos v (r v) b = true
      · have q1 : ∀ u, v + 1 ≤ u → oneT (fun u => if u = v then false else S u) u = oneT S u := fun u hu => by simp [oneT, show ¬ u = v by omega]
        have q2 : ∀ u, v + 1 ≤ u → cosT (fun v => cst pos v (r v)) (fun u => if u = v then false else S u) u = cosT (fun v => cst pos v (r v)) S u := fun u hu => by simp [cosT, show ¬ u = v by omega]
        refine ⟨fun u => if u = v then false else S u, ?_, ?_⟩
        · show cosT _ _ v + sfx _ m (v + 1) ≤ _
          rw [sfx_congr m (v + 1) q2]
          have : cosT (fun v => cst pos v (r v)) (fun u => if u = v then false else S u) v = 0 := by simp [cosT]
          omega
        · show (if pos v (r v) b = true then 1 else 0) + dpS pos r m (v + 1) (left - b) = ((m + 1 : Nat) : Int) - (oneT _ v + sfx _ m (v + 1))
          rw [sfx_congr m (v + 1) q1, if_pos hp, s2]
          have : oneT (fun u => if u = v then false else S u) v = 0 := by simp [oneT]
          omega
      · have q1 : ∀ u, v + 1 ≤ u → oneT (fun u => if u = v then true else S u) u = oneT S u := fun u hu => by simp [oneT, show ¬ u = v by omega]
        have q2 : ∀ u, v + 1 ≤ u → cosT (fun v => cst pos v (r v)) (fun u => if u = v then true else S u) u = cosT (fun v => cst pos v (r v)) S u := fun u hu => by simp [cosT, show ¬ u = v by omega]
        have hc : cst pos v (r v) ≤ b := by
          rcases cst_prop (pos := pos) (v := v) (a := r v) with ⟨-, q⟩ | ⟨-, -, q⟩
          · exact absurd (q b (by omega)) hp
          · by_cases w : cst pos v (r v) ≤ b
            · exact w
            · exact absurd (q b (by omega)) hp
        refine ⟨fun u => if u = v then true else S u, ?_, ?_⟩
        · show cosT _ _ v + sfx _ m (v + 1) ≤ _
          rw [sfx_congr m (v + 1) q2]
          have : cosT (fun v => cst pos v (r v)) (fun u => if u = v then true else S u) v = ((cst pos v (r v) : Nat) : Int) := by simp [cosT]
          omega
        · show (if pos v (r v) b = true then 1 else 0) + dpS pos r m (v + 1) (left - b) = ((m + 1 : Nat) : Int) - (oneT _ v + sfx _ m (v + 1))
          rw [sfx_congr m (v + 1) q1, if_neg hp, s2]
          have : oneT (fun u => if u = v then true else S u) v = 1 := by simp [oneT]
          omega
/-- what taking the cheapest first comes to -/
theorem greedy {pos : Nat → Nat → Nat → Bool} {r : Nat → Nat} {n L p : Nat} {T : Nat → Bool} (hn : n ≤ 5) (hL : L ≤ 9) (h1 : sumP (cosT (fun v => cst pos v (r v)) T) n ≤ L) (h2 : ∀ v, v < n → T v = true → cst pos v (r v) ≤ p) (h3 : ∀ v, v < n → T v = false → p ≤ cst pos v (r v)) (h4 : (L : Int) - sumP (cosT (fun v => cst pos v (r v)) T) n < p) : dpS pos r n 0 L = n - sumP (oneT T) n := by
  have hA := dpS_le (pos := pos) (r := r) (S := T) n 0 L hL (by rw [sfx_sum]; exact h1) (fun u => by unfold cosT; split <;> omega)
  obtain ⟨S, s1, s2⟩ := dpS_ex (pos := pos) (r := r) n 0 L hn hL
  rw [sfx_sum] at hA s1 s2
  have key : ∀ k, k ≤ n → (p : Int) * (sumP (oneT S) k - sumP (oneT T) k) ≤ sumP (cosT (fun v => cst pos v (r v)) S) k - sumP (cosT (fun v => cst pos v (r v)) T) k := by
    intro k
    induction k with
    | zero => intro _; simp [sumP]
    | succ k ih =>
      intro hk
      have hi := ih (by omega)
      have a1 := h2 k (by omega)
      have a2 := h3 k (by omega)
      have e : (p : Int) * (sumP (oneT S) (k + 1) - sumP (oneT T) (k + 1)) = (p : Int) * (sumP (oneT S) k - sumP (oneT T) k) + (p : Int) * (oneT S k - oneT T k) := by
        rw [← Int.mul_add]; congr 1; simp only [sumP]; omega
      rw [e]
      have d : (p : Int) * (oneT S k - oneT T k) ≤ cosT (fun v => cst pos v (r v)) S k - cosT (fun v => cst pos v (r v)) T k := by
        by_cases hS : S k = true
        · have o1 : oneT S k = 1 := if_pos hS
          have c1 : cosT (fun v => cst pos v (r v)) S k = ((cst pos k (r k) : Nat) : Int) := if_pos hS
          by_cases hT : T k = true
          · have o2 : oneT T k = 1 := if_pos hT
            have c2 : cosT (fun v => cst pos v (r v)) T k = ((cst pos k (r k) : Nat) : Int) := if_pos hT
            rw [o1, o2, c1, c2]; simp
          · have o2 : oneT T k = 0 := if_neg hT
            have c2 : cosT (fun v => cst pos v (r v)) T k = 0 := if_neg hT
            have := a2 (by simpa using hT)
            rw [o1, o2, c1, c2]; omega
        · have o1 : oneT S k = 0 := if_neg hS
          have c1 : cosT (fun v => cst pos v (r v)) S k = 0 := if_neg hS
          by_cases hT : T k = true
          · have o2 : oneT T k = 1 := if_pos hT
            have c2 : cosT (fun v => cst pos v (r v)) T k = ((cst pos k (r k) : Nat) : Int) := if_pos hT
            have := a1 hT
            rw [o1, o2, c1, c2]; omega
          · have o2 : oneT T k = 0 := if_neg hT
            have c2 : cosT (fun v => cst pos v (r v)) T k = 0 := if_neg hT
            rw [o1, o2, c1, c2]; simp
      simp only [sumP] at hi ⊢
      omega
  have hk := key n (Nat.le_refl n)
  by_cases e : sumP (oneT S) n ≤ sumP (oneT T) n
  · omega
  · exfalso
    have hp : (p : Int) * 1 ≤ (p : Int) * (sumP (oneT S) n - sumP (oneT T) n) := Int.mul_le_mul_of_nonneg_left (by omega) (by omega)
    omega
