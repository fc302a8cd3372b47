/-! rows of loaves, in the order of their numbers; the best of them -/
def rowsL : Nat → Nat → Bool → List (List Nat)
  | 0, left, all => if all = true ∧ 0 < left then [] else [[]]
  | m + 1, left, all => (List.range (left + 1)).flatMap (fun x => (rowsL m (left - x) all).map (fun r => x :: r))
/-- the first blocks of them -/
def rowsX (m left : Nat) (all : Bool) (k : Nat) : List (List Nat) := (List.range k).flatMap (fun x => (rowsL m (left - x) all).map (fun r => x :: r))
theorem rowsL_s {m left : Nat} {all : Bool} : rowsL (m + 1) left all = rowsX m left all (left + 1) := rfl
theorem rowsX_0 {m left : Nat} {all : Bool} : rowsX m left all 0 = [] := rfl
theorem rowsX_s {m left k : Nat} {all : Bool} : rowsX m left all (k + 1) = rowsX m left all k ++ (rowsL m (left - k) all).map (fun r => k :: r) := by
  unfold rowsX
  rw [List.range_succ, List.flatMap_append]
  simp
theorem rows_ok : ∀ (m left : Nat) (all : Bool) (r : List Nat), r ∈ rowsL m left all → r.length = m ∧ ∀ x, x ∈ r → x ≤ left
  | 0, left, all, r, h => by
    unfold rowsL at h
    by_cases q : all = true ∧ 0 < left
    · rw [if_pos q] at h; exact absurd h (by simp)
    · rw [if_neg q] at h
      have e : r = [] := by simpa using h
      subst e
      exact ⟨rfl, fun x hx => absurd hx (by simp)⟩
  | m + 1, left, all, r, h => by
    unfold rowsL at h
    obtain ⟨x, hx, hr⟩ := List.mem_flatMap.mp h
    obtain ⟨s, hs, rfl⟩ := List.mem_map.mp hr
    have hxl : x < left + 1 := List.mem_range.mp hx
    obtain ⟨h1, h2⟩ := rows_ok m (left - x) all s hs
    refine ⟨by simp [h1], fun y hy => ?_⟩
    rcases List.mem_cons.mp hy with e | e
    · omega
    · have := h2 y e; omega
theorem rows_cnt : ∀ n, n ≤ 5 → ∀ k, k ≤ 9 → (rowsL n k false).length ≤ 2002 ∧ (rowsL n k true).length ≤ 2002 := by decide +kernel
theorem rowsX_le {m left k j : Nat} {all : Bool} (h : k ≤ j) : (rowsX m left all k).length ≤ (rowsX m left all j).length := by
  induction j with
  | zero => obtain rfl : k = 0 := by omega
            exact Nat.le_refl _
  | succ j ih =>
    by_cases e : k ≤ j
    · rw [rowsX_s, List.length_append]; have := ih e; omega
    · obtain rfl : k = j + 1 := by omega
      exact Nat.le_refl _
/-- what a row gains from a village on -/
def gainL (g : Nat → Nat → Int) : Nat → List Nat → Int
  | _, [] => 0
  | v, x :: r => g v x + gainL g (v + 1) r
theorem gainL_sum {g : Nat → Nat → Int} : ∀ (r : List Nat) (v : Nat), gainL g v r = sumP (fun i => g (v + i) (r.getD i 0)) r.length := by
  have shift : ∀ (f : Nat → Int) (n : Nat), sumP f (n + 1) = f 0 + sumP (fun i => f (i + 1)) n := by
    intro f n
    induction n with
    | zero => simp [sumP]
    | succ n ih =>
      have e : sumP f (n + 1 + 1) = sumP f (n + 1) + f (n + 1) := rfl
      rw [e, ih]
      simp only [sumP]
      omega
  intro r
  induction r with
  | nil => intro v; rfl
  | cons x r ih =>
    intro v
    show g v x + gainL g (v + 1) r = sumP _ (r.length + 1)
    rw [shift, ih]
    congr 1
    exact sumP_congr (fun i hi => by
      show g (v + 1 + i) (r.getD i 0) = g (v + (i + 1)) ((x :: r).getD (i + 1) 0)
      rw [show v + 1 + i = v + (i + 1) by omega]
      simp)
/-- the first best -/
def bst {α : Type} (f : α → Int) (b : Option (Int × α)) (r : α) : Option (Int × α) := match b with
  | none => some (f r, r)
  | some (z, s) => if z < f r then some (f r, r) else some (z, s)
def bestL {α : Type} (f : α → Int) (L : List α) : Option (Int × α) := L.foldl (bst f) none
def cmb {α : Type} (a b : Option (Int × α)) : Option (Int × α) := match a, b with
  | none, b => b
  | a, none => a
  | some (z, s), some (y, t) => if z < y then some (y, t) else some (z, s)
theorem foldl_bst {α : Type} (f : α → Int) : ∀ (L : List α) (b : Option (Int × α)), L.foldl (bst f) b = cmb b (L.foldl (bst f) none)
  | [], b => by cases b <;> rfl
  | r :: L, b => by
    show L.foldl (bst f) (bst f b r) = cmb b (L.foldl (bst f) (bst f none r))
    rw [foldl_bst f L (bst f b r), foldl_bst f L (bst f none r)]
    cases b with
    | none => rfl
    | some q =>
      obtain ⟨z, s⟩ := q
      cases hL : L.foldl (bst f) none with
      | none =>
        show cmb (if z < f r then some (f r, r) else some (z, s)) none = cmb (some (z, s)) (some (f r, r))
        unfold cmb
        by_cases h : z < f r <;> simp [h]
      | some p =>
        obtain ⟨y, t⟩ := p
        show cmb (if z < f r then some (f r, r) else some (z, s)) (some (y, t)) = cmb (some (z, s)) (if f r < y then some (y, t) else some (f r, r))
        by_cases h : z < f r
        · rw [if_pos h]
          by_cases h2 : f r < y
          · rw [if_pos h2]
            show (if f r < y then _ else _) = (if z < y then _ else _)
            rw [if_pos h2, if_pos (by omega)]
          · rw [if_neg h2]
            show (if f r < y then _ else _) = (if z < f r then _ else _)
            rw [if_neg h2, if_pos h]
        · rw [if_neg h]
          by_cases h2 : f r < y
          · rw [if_pos h2]
          · rw [if_neg h2]
            show (if z < y then _ else _) = (if z < f r then _ else _)
            rw [if_neg (by omega), if_neg h]
theorem bestL_app {α : Type} {f : α → Int} {A B : List α} : bestL f (A ++ B) = cmb (bestL f A) (bestL f B) := by
  unfold bestL
  rw [List.foldl_append, foldl_bst]
theorem bestL_snoc {α : Type} {f : α → Int} {A : List α} {r : α} : bestL f (A ++ [r]) = bst f (bestL f A) r := by
  unfold bestL
  rw [List.foldl_append]; rfl
theorem bestL_map {α β : Type} {f : β → Int} {h : α → β} {c : Int} {f2 : α → Int} (hf : ∀ r, f (h r) = c + f2 r) : ∀ (L : List α), bestL f (L.map h) = (bestL f2 L).map (fun q => (c + q.1, h q.2)) := by
  have key : ∀ (L : List α) (b : Option (Int × α)), (L.map h).foldl (bst f) (b.map (fun q => (c + q.1, h q.2))) = (L.foldl (bst f2) b).map (fun q => (c + q.1, h q.2)) := by
    intro L
    induction L with
    | nil => intro b; rfl
    | cons r L ih =>
      intro b
      show (L.map h).foldl (bst f) (bst f (b.map _) (h r)) = _
      have e : bst f (b.map (fun q => (c + q.1, h q.2))) (h r) = (bst f2 b r).map (fun q => (c + q.1, h q.2)) := by
        cases b with
        | none => show some (f (h r), h r) = some (c + f2 r, h r); rw [hf]
        | some q =>
          obtain ⟨z, s⟩ := q
          show (if c + z < f (h r) then some (f (h r), h r) else some (c + z, h s)) = Option.map _ (if z < f2 r then some (f2 r, r) else some (z, s))
          rw [hf]
          by_cases q : z < f2 r
          · rw [if_pos q, if_pos (by omega)]; rfl
          · rw [if_neg q, if_neg (by omega)]; rfl
      rw [e]
      exact ih _
  exact fun L => key L none
/-- most of what is left, village by village -/
def mxF (f : Nat → Int) : Nat → Int
  | 0 => -1000000
  | k + 1 => max (mxF f k) (f k)
def mx (g : Nat → Nat → Int) (all : Bool) : Nat → Nat → Nat → Int
  | 0, _, left => if all = true ∧ 0 < left then -1000000 else 0
  | m + 1, v, left => mxF (fun x => g v x + mx g all m (v + 1) (left - x)) (left + 1)
theorem mxF_ge (f : Nat → Int) (k : Nat) : -1000000 ≤ mxF f k := by
  induction k with
  | zero => exact Int.le_refl _
  | succ k ih => unfold mxF; omega
theorem mxF_le {f : Nat → Int} {B : Int} (hB : -1000000 ≤ B) {k : Nat} (h : ∀ x, x < k → f x ≤ B) : mxF f k ≤ B := by
  induction k with
  | zero => exact hB
  | succ k ih =>
    have h1 := ih (fun x hx => h x (by omega))
    have h2 := h k (by omega)
    unfold mxF
    omega
theorem mxF_congr {f f2 : Nat → Int} {k : Nat} (h : ∀ x, x < k → f x = f2 x) : mxF f k = mxF f2 k := by
  induction k with
  | zero => rfl
  | succ k ih => unfold mxF; rw [ih (fun x hx => h x (by omega)), h k (by omega)]
theorem mxF_at {f : Nat → Int} {k x : Nat} (h : x < k) : f x ≤ mxF f k := by
  induction k with
  | zero => exact absurd h (by omega)
  | succ k ih =>
    unfold mxF
    by_cases e : x = k
    · subst e; omega
    · have := ih (by omega); omega
theorem mx_rg {g : Nat → Nat → Int} {all : Bool} {G : Int} {n : Nat} (hG : 0 ≤ G) (hg : ∀ v x, v < n → x ≤ 9 → g v x ≤ G) : ∀ m v left, v + m ≤ n → left ≤ 9 → -1000000 ≤ mx g all m v left ∧ mx g all m v left ≤ m * G
  | 0, v, left, _, _ => by
    unfold mx
    split <;> simp
  | m + 1, v, left, hv, hl => by
    unfold mx
    refine ⟨mxF_ge _ _, ?_⟩
    have e : ((m + 1 : Nat) : Int) * G = m * G + G := by rw [Int.natCast_add, Int.add_mul]; simp
    have p : 0 ≤ (m : Int) * G := Int.mul_nonneg (by omega) hG
    rw [e]
    refine mxF_le (by omega) (fun x hx => ?_)
    have h1 := (mx_rg (all := all) hG hg m (v + 1) (left - x) (by omega) (by omega)).2
    have h2 := hg v x (by omega) (by omega)
    omega
/-- the first of so many that is M; else their number -/
def fstF (f : Nat → Int) (M : Int) : Nat → Nat → Nat
  | 0, x => x
  | k + 1, x => if f x = M then x else fstF f M k (x + 1)
theorem fstF_prop {f : Nat → Int} {M : Int} : ∀ (k x : Nat), x ≤ fstF f M k x ∧ fstF f M k x ≤ x + k ∧ (∀ y, x ≤ y → y < fstF f M k x → f y ≠ M) ∧ (fstF f M k x < x + k → f (fstF f M k x) = M)
  | 0, x => ⟨Nat.le_refl _, Nat.le_refl _, fun y h1 h2 => by unfold fstF at h2; omega, fun h => by unfold fstF at h; omega⟩
  | k + 1, x => by
    unfold fstF
    by_cases h : f x = M
    · rw [if_pos h]
      exact ⟨Nat.le_refl _, by omega, fun y h1 h2 => by omega, fun _ => h⟩
    · rw [if_neg h]
      obtain ⟨h1, h2, h3, h4⟩ := fstF_prop (f := f) (M := M) k (x + 1)
      refine ⟨by omega, by omega, fun y y1 y2 => ?_, fun q => h4 (by omega)⟩
      by_cases e : y = x
      · subst e; exact h
      · exact h3 y (by omega) y2
/-- the chosen row -/
def chsR (g : Nat → Nat → Int) : Nat → Nat → Nat → List Nat
  | 0, _, _ => []
  | m + 1, v, left => fstF (fun x => g v x + mx g false m (v + 1) (left - x)) (mx g false (m + 1) v left) left 0 :: chsR g m (v + 1) (left - fstF (fun x => g v x + mx g false m (v + 1) (left - x)) (mx g false (m + 1) v left) left 0)
/-- first place of the highest among the first k + 1 -/
def amx (f : Nat → Int) : Nat → Nat
  | 0 => 0
  | k + 1 => if f (amx f k) < f (k + 1) then k + 1 else amx f k
theorem amx_prop {f : Nat → Int} : ∀ k, (∀ x, x ≤ k → -1000000 ≤ f x) → amx f k ≤ k ∧ f (amx f k) = mxF f (k + 1) ∧ ∀ y, y < amx f k → f y < f (amx f k)
  | 0, hf => ⟨Nat.le_refl _, by have := hf 0 (Nat.le_refl _); show f 0 = max (-1000000) (f 0); omega, fun y hy => absurd hy (by unfold amx; omega)⟩
  | k + 1, hf => by
    obtain ⟨h1, h2, h3⟩ := amx_prop k (fun x hx => hf x (by omega))
    have e : mxF f (k + 1 + 1) = max (mxF f (k + 1)) (f (k + 1)) := rfl
    have ea : amx f (k + 1) = if f (amx f k) < f (k + 1) then k + 1 else amx f k := rfl
    rw [e, ← h2, ea]
    by_cases h : f (amx f k) < f (k + 1)
    · rw [if_pos h]
      refine ⟨Nat.le_refl _, by omega, fun y hy => ?_⟩
      have := mxF_at (f := f) (k := k + 1) (x := y) (by omega)
      omega
    · rw [if_neg h]
      exact ⟨by omega, by omega, h3⟩
theorem amx_fst {f : Nat → Int} (k : Nat) (hf : ∀ x, x ≤ k → -1000000 ≤ f x) : fstF f (mxF f (k + 1)) k 0 = amx f k := by
  obtain ⟨h1, h2, h3⟩ := amx_prop k hf
  obtain ⟨p1, p2, p3, p4⟩ := fstF_prop (f := f) (M := mxF f (k + 1)) k 0
  by_cases e : fstF f (mxF f (k + 1)) k 0 < amx f k
  · have q1 := h3 _ e
    have q2 := p4 (by omega)
    omega
  · by_cases e2 : amx f k < fstF f (mxF f (k + 1)) k 0
    · exact absurd h2 (p3 _ (Nat.zero_le _) e2)
    · omega
/-- all of it: the plan finds what going through all rows finds -/
theorem best_rows {g : Nat → Nat → Int} {n : Nat} (hg : ∀ v x, v < n → x ≤ 9 → -100000 ≤ g v x) : ∀ m v left, m ≤ 5 → v + m ≤ n → left ≤ 9 → (-100000 * m ≤ mx g false m v left) ∧ bestL (gainL g v) (rowsL m left false) = some (mx g false m v left, chsR g m v left)
  | 0, v, left, hm, _, _ => by
    refine ⟨by unfold mx; rw [if_neg (by simp)]; simp, ?_⟩
    unfold rowsL mx chsR
    rw [if_neg (by simp), if_neg (by simp)]
    rfl
  | m + 1, v, left, hm, hv, hl => by
    have ih := fun x => best_rows hg m (v + 1) (left - x) (by omega) (by omega) (by omega)
    have hf : ∀ x, x ≤ left → -1000000 ≤ (fun x => g v x + mx g false m (v + 1) (left - x)) x := fun x hx => by
      have h1 := (ih x).1
      have h2 := hg v x (by omega) (by omega)
      show -1000000 ≤ g v x + mx g false m (v + 1) (left - x)
      omega
    have key : ∀ k, k ≤ left → bestL (gainL g v) (rowsX m left false (k + 1)) = some (mxF (fun x => g v x + mx g false m (v + 1) (left - x)) (k + 1), amx (fun x => g v x + mx g false m (v + 1) (left - x)) k :: chsR g m (v + 1) (left - amx (fun x => g v x + mx g false m (v + 1) (left - x)) k)) := by
      intro k
      induction k with
      | zero =>
        intro _
        rw [rowsX_s, rowsX_0, List.nil_append, bestL_map (f := gainL g v) (h := fun r => 0 :: r) (c := g v 0) (f2 := gainL g (v + 1)) (fun r => rfl), (ih 0).2]
        have q := hf 0 (Nat.zero_le _)
        show some (g v 0 + mx g false m (v + 1) (left - 0), 0 :: chsR g m (v + 1) (left - 0)) = some (max (-1000000) (g v 0 + mx g false m (v + 1) (left - 0)), 0 :: chsR g m (v + 1) (left - 0))
        rw [Int.max_eq_right q]
      | succ k ihk =>
        intro hk
        rw [rowsX_s, bestL_app, ihk (by omega), bestL_map (f := gainL g v) (h := fun r => (k + 1) :: r) (c := g v (k + 1)) (f2 := gainL g (v + 1)) (fun r => rfl), (ih (k + 1)).2]
        obtain ⟨h1, h2, h3⟩ := amx_prop k (fun x hx => hf x (by omega))
        show (if mxF _ (k + 1) < g v (k + 1) + mx g false m (v + 1) (left - (k + 1)) then _ else _) = _
        have e : mxF (fun x => g v x + mx g false m (v + 1) (left - x)) (k + 1 + 1) = max (mxF (fun x => g v x + mx g false m (v + 1) (left - x)) (k + 1)) (g v (k + 1) + mx g false m (v + 1) (left - (k + 1))) := rfl
        rw [e]
        have ea : ∀ f : Nat → Int, amx f (k + 1) = if f (amx f k) < f (k + 1) then k + 1 else amx f k := fun _ => rfl
        rw [ea]
        by_cases h : mxF (fun x => g v x + mx g false m (v + 1) (left - x)) (k + 1) < g v (k + 1) + mx g false m (v + 1) (left - (k + 1))
        · rw [if_pos h, if_pos (by rw [h2]; exact h), Int.max_eq_right (by omega)]
        · rw [if_neg h, if_neg (by rw [h2]; exact h), Int.max_eq_left (by omega)]
    refine ⟨?_, ?_⟩
    · have h1 := (ih 0).1
      have h2 := hg v 0 (by omega) (by omega)
      have h3 := mxF_at (f := fun x => g v x + mx g false m (v + 1) (left - x)) (k := left + 1) (x := 0) (by omega)
      have h4 : g v 0 + mx g false m (v + 1) (left - 0) ≤ mx g false (m + 1) v left := h3
      have e : (-100000 : Int) * ((m + 1 : Nat) : Int) = -100000 * m - 100000 := by omega
      rw [e]
      omega
    · rw [rowsL_s, key left (Nat.le_refl _)]
      have e : fstF (fun x => g v x + mx g false m (v + 1) (left - x)) (mx g false (m + 1) v left) left 0 = amx (fun x => g v x + mx g false m (v + 1) (left - x)) left := amx_fst left hf
      have ec : chsR g (m + 1) v left = fstF (fun x => g v x + mx g false m (v + 1) (left - x)) (mx g false (m + 1) v left) left 0 :: chsR g m (v + 1) (left - fstF (fun x => g v x + mx g false m (v + 1) (left - x)) (mx g false (m + 1) v left) left 0) := rfl
      rw [ec, e]
      rfl
