/-! rest, pure: the plan over rows that use all, and the saddle -/
theorem mxF_ex {f : Nat → Int} (k : Nat) : mxF f k = -1000000 ∨ ∃ x, x < k ∧ mxF f k = f x := by
  induction k with
  | zero => exact Or.inl rfl
  | succ k ih =>
    unfold mxF
    by_cases e : mxF f k ≤ f k
    · rw [Int.max_eq_right e]; exact Or.inr ⟨k, Nat.lt_succ_self k, rfl⟩
    · rw [Int.max_eq_left (by omega)]
      rcases ih with h | ⟨x, h1, h2⟩
      · exact Or.inl h
      · exact Or.inr ⟨x, by omega, h2⟩
theorem mem_rows {m left : Nat} {all : Bool} {r : List Nat} : r ∈ rowsL (m + 1) left all ↔ ∃ x s, x ≤ left ∧ s ∈ rowsL m (left - x) all ∧ r = x :: s := by
  constructor
  · intro h
    rw [rowsL_s] at h
    unfold rowsX at h
    obtain ⟨x, hx, hr⟩ := List.mem_flatMap.mp h
    obtain ⟨s, hs, rfl⟩ := List.mem_map.mp hr
    have := List.mem_range.mp hx
    exact ⟨x, s, by omega, hs, rfl⟩
  · rintro ⟨x, s, hx, hs, rfl⟩
    rw [rowsL_s]
    unfold rowsX
    exact List.mem_flatMap.mpr ⟨x, List.mem_range.mpr (by omega), List.mem_map.mpr ⟨s, hs, rfl⟩⟩
theorem mx_all {g : Nat → Nat → Int} {n : Nat} (hg : ∀ v x, v < n → x ≤ 9 → -9 ≤ g v x ∧ g v x ≤ 9) : ∀ m v left, m ≤ 5 → v + m ≤ n → left ≤ 9 → ((∃ r, r ∈ rowsL m left true) → -9 * (m : Int) ≤ mx g true m v left ∧ ∃ r, r ∈ rowsL m left true ∧ gainL g v r = mx g true m v left) ∧ (∀ r, r ∈ rowsL m left true → gainL g v r ≤ mx g true m v left) ∧ ((¬ ∃ r, r ∈ rowsL m left true) → mx g true m v left ≤ -900000 + 9 * (m : Int))
  | 0, v, left, _, _, _ => by
    by_cases e : 0 < left
    · have h1 : rowsL 0 left true = [] := if_pos ⟨rfl, e⟩
      have h2 : mx g true 0 v left = -1000000 := if_pos ⟨rfl, e⟩
      rw [h1, h2]
      exact ⟨fun ⟨r, h⟩ => absurd h (by simp), fun r h => absurd h (by simp), fun _ => by simp⟩
    · have h1 : rowsL 0 left true = [[]] := if_neg (fun q => e q.2)
      have h2 : mx g true 0 v left = 0 := if_neg (fun q => e q.2)
      rw [h1, h2]
      exact ⟨fun _ => ⟨by simp, [], by simp, rfl⟩, fun r h => by
        obtain rfl : r = [] := by simpa using h
        exact Int.le_refl _, fun q => absurd ⟨[], by simp⟩ q⟩
  | m + 1, v, left, hm, hv, hl => by
    have ih := fun x => mx_all hg m (v + 1) (left - x) (by omega) (by omega) (by omega)
    have e : mx g true (m + 1) v left = mxF (fun x => g v x + mx g true m (v + 1) (left - x)) (left + 1) := rfl
    have hat : ∀ x, x ≤ left → g v x + mx g true m (v + 1) (left - x) ≤ mx g true (m + 1) v left := fun x hx => by
      rw [e]; exact mxF_at (f := fun x => g v x + mx g true m (v + 1) (left - x)) (by omega)
    refine ⟨?_, ?_, ?_⟩
    · rintro ⟨r0, hr0⟩
      obtain ⟨x0, s0, hx0, hs0, rfl⟩ := mem_rows.mp hr0
      have h1 := ((ih x0).1 ⟨s0, hs0⟩).1
      have h2 := hat x0 hx0
      have h3 := hg v x0 (by omega) (by omega)
      have hb : -9 * ((m + 1 : Nat) : Int) ≤ mx g true (m + 1) v left := by omega
      refine ⟨hb, ?_⟩
      rcases mxF_ex (f := fun x => g v x + mx g true m (v + 1) (left - x)) (left + 1) with q | ⟨x, hx, q⟩
      · rw [← e] at q; omega
      · rw [← e] at q
        have q2 : mx g true (m + 1) v left = g v x + mx g true m (v + 1) (left - x) := q
        have h4 := hg v x (by omega) (by omega)
        by_cases ne : ∃ s, s ∈ rowsL m (left - x) true
        · obtain ⟨-, s, hs, hs2⟩ := (ih x).1 ne
          exact ⟨x :: s, mem_rows.mpr ⟨x, s, by omega, hs, rfl⟩, by rw [q2, ← hs2]; rfl⟩
        · have := (ih x).2.2 ne
          omega
    · intro r hr
      obtain ⟨x, s, hx, hs, rfl⟩ := mem_rows.mp hr
      have h1 := (ih x).2.1 s hs
      have h2 := hat x hx
      show g v x + gainL g (v + 1) s ≤ _
      omega
    · intro ne
      rw [e]
      refine mxF_le (by omega) (fun x hx => ?_)
      have h1 := (ih x).2.2 (fun ⟨s, hs⟩ => ne ⟨x :: s, mem_rows.mpr ⟨x, s, by omega, hs, rfl⟩⟩)
      have h4 := hg v x (by omega) (by omega)
      show g v x + mx g true m (v + 1) (left - x) ≤ _
      omega
/-- the first highest, from far below on -/
def fxM (t : Nat → Int) : Nat → Int × Nat
  | 0 => (-1000000, 0)
  | k + 1 => if (fxM t k).1 < t k then (t k, k) else fxM t k
theorem fxM_y {t : Nat → Int} {k : Nat} (h : (fxM t k).1 < t k) : fxM t (k + 1) = (t k, k) := if_pos h
theorem fxM_n {t : Nat → Int} {k : Nat} (h : ¬ (fxM t k).1 < t k) : fxM t (k + 1) = fxM t k := if_neg h
theorem fxM_prop {t : Nat → Int} (ht : ∀ k, -45 ≤ t k ∧ t k ≤ 45) : ∀ k, (∀ x, x < k → t x ≤ (fxM t k).1) ∧ (1 ≤ k → (fxM t k).2 < k ∧ (fxM t k).1 = t (fxM t k).2 ∧ ∀ x, x < (fxM t k).2 → t x < (fxM t k).1) ∧ -1000000 ≤ (fxM t k).1 ∧ (fxM t k).1 ≤ 45
  | 0 => ⟨fun x hx => absurd hx (by omega), fun h => absurd h (by omega), by show (-1000000 : Int) ≤ -1000000 ∧ (-1000000 : Int) ≤ 45; omega⟩
  | k + 1 => by
    obtain ⟨h1, h2, h3⟩ := fxM_prop ht k
    have h := ht k
    by_cases e : (fxM t k).1 < t k
    · rw [fxM_y e]
      refine ⟨fun x hx => ?_, fun _ => ⟨Nat.lt_succ_self k, rfl, fun x hx => ?_⟩, by show -1000000 ≤ t k ∧ t k ≤ 45; omega⟩
      · by_cases q : x = k
        · subst q; exact Int.le_refl _
        · have := h1 x (by omega); show t x ≤ t k; omega
      · have := h1 x hx; show t x < t k; omega
    · rw [fxM_n e]
      refine ⟨fun x hx => ?_, fun _ => ?_, h3⟩
      · by_cases q : x = k
        · subst q; omega
        · exact h1 x (by omega)
      · by_cases q : 1 ≤ k
        · obtain ⟨a, b, c⟩ := h2 q; exact ⟨by omega, b, c⟩
        · obtain rfl : k = 0 := by omega
          exact absurd (show (-1000000 : Int) < t 0 by omega) e
/-- the lowest of a row, the highest of a column, as they lie -/
def LoOf (f : Nat → Int) (k : Nat) (z : Int) : Prop := (∀ x, x < k → z ≤ f x) ∧ ∃ x, x < k ∧ z = f x
def HiOf (f : Nat → Int) (k : Nat) (z : Int) : Prop := (∀ x, x < k → f x ≤ z) ∧ ∃ x, x < k ∧ z = f x
/-- where the two agree, there a saddle is, and the first is that of the firsts -/
theorem saddle {S : Nat → Nat → Int} {w c : Nat → Int} {M N : Nat} (hM : 1 ≤ M) (hN : 1 ≤ N) (hw : ∀ i, i < M → LoOf (S i) N (w i)) (hc : ∀ j, j < N → HiOf (fun i => S i j) M (c j)) (hwb : ∀ k, -45 ≤ w k ∧ w k ≤ 45) (hcb : ∀ k, -45 ≤ -(c k) ∧ -(c k) ≤ 45) :
    ((fxM w M).1 = -(fxM (fun j => -(c j)) N).1 → ∀ i j, i < M → j < N → ((S i j = w i ∧ S i j = c j) ↔ (w i = (fxM w M).1 ∧ c j = (fxM w M).1))) ∧ (∀ i j, i < M → j < N → S i j = w i → S i j = c j → (fxM w M).1 = -(fxM (fun j => -(c j)) N).1) := by
  obtain ⟨a1, a2, -⟩ := fxM_prop hwb M
  obtain ⟨b1, b2, -⟩ := fxM_prop (t := fun j => -(c j)) hcb N
  obtain ⟨a3, a4, a5⟩ := a2 hM
  obtain ⟨b3, b4, b5⟩ := b2 hN
  have low : ∀ i j, i < M → j < N → w i ≤ S i j ∧ S i j ≤ c j := fun i j hi hj => ⟨(hw i hi).1 j hj, (hc j hj).1 i hi⟩
  have b4' : (fxM (fun j => -(c j)) N).1 = -(c (fxM (fun j => -(c j)) N).2) := b4
  constructor
  · intro he i j hi hj
    have h1 := a1 i hi
    have h2 : -(c j) ≤ (fxM (fun j => -(c j)) N).1 := b1 j hj
    have h3 := low i j hi hj
    constructor
    · rintro ⟨q1, q2⟩
      have h4 := low _ j a3 hj
      omega
    · rintro ⟨q1, q2⟩
      omega
  · intro i j hi hj q1 q2
    have h1 := a1 i hi
    have h2 : -(c j) ≤ (fxM (fun j => -(c j)) N).1 := b1 j hj
    have h3 := low _ _ a3 b3
    omega
