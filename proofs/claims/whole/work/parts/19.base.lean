/-! loops and sums -/
theorem up_ind {W : Nat → Prop} (n : Nat) (body : ∀ v, v < n → W (v + 1) → W v) (hn : W n) : W 0 := by
  have key : ∀ m v, m + v = n → W v := by
    intro m
    induction m with
    | zero => intro v e; rw [show v = n by omega]; exact hn
    | succ m ih => intro v e; exact body v (by omega) (ih (v + 1) (by omega))
  exact key n 0 (by omega)
/-- from a place on -/
theorem up_indF {W : Nat → Prop} (a n : Nat) (ha : a ≤ n) (body : ∀ v, a ≤ v → v < n → W (v + 1) → W v) (hn : W n) : W a := by
  have key : ∀ m v, m + v = n → a ≤ v → W v := by
    intro m
    induction m with
    | zero => intro v e _; rw [show v = n by omega]; exact hn
    | succ m ih => intro v e h; exact body v h (by omega) (ih (v + 1) (by omega) (by omega))
  exact key (n - a) a (by omega) (Nat.le_refl _)
/-- downwards: v + 1 first, then v -/
theorem down_ind {W : Nat → Prop} (n : Nat) (body : ∀ v, v < n → W v → W (v + 1)) (h0 : W 0) : W n := by
  have key : ∀ m, m ≤ n → W m := by
    intro m
    induction m with
    | zero => intro _; exact h0
    | succ m ih => intro h; exact body m (by omega) (ih (by omega))
  exact key n (Nat.le_refl _)
/-- sum of f below n -/
def sumP (f : Nat → Int) : Nat → Int
  | 0 => 0
  | n + 1 => sumP f n + f n
/-- the number with digits g below n, the first the highest -/
def numP (g : Nat → Int) : Nat → Int
  | 0 => 0
  | n + 1 => 10 * numP g n + g n
/-- how many below n -/
def cntP (p : Nat → Bool) : Nat → Int
  | 0 => 0
  | n + 1 => cntP p n + (if p n then 1 else 0)
theorem sumP_congr {f g : Nat → Int} {n : Nat} (h : ∀ v, v < n → f v = g v) : sumP f n = sumP g n := by
  induction n with
  | zero => rfl
  | succ n ih => simp only [sumP]; rw [ih (fun v hv => h v (by omega)), h n (by omega)]
theorem numP_congr {f g : Nat → Int} {n : Nat} (h : ∀ v, v < n → f v = g v) : numP f n = numP g n := by
  induction n with
  | zero => rfl
  | succ n ih => simp only [numP]; rw [ih (fun v hv => h v (by omega)), h n (by omega)]
theorem sumP_bd {f : Nat → Int} {n : Nat} {b : Int} (hf : ∀ v, v < n → -b ≤ f v ∧ f v ≤ b) : -(n * b) ≤ sumP f n ∧ sumP f n ≤ n * b := by
  induction n with
  | zero => simp [sumP]
  | succ n ih =>
    have h1 := ih (fun v hv => hf v (by omega))
    have h2 := hf n (by omega)
    have e : ((n + 1 : Nat) : Int) * b = n * b + b := by rw [Int.natCast_add, Int.add_mul]; simp
    simp only [sumP]
    rw [e]
    omega
theorem numP_bd {g : Nat → Int} {n : Nat} (hg : ∀ v, v < n → 0 ≤ g v ∧ g v ≤ 9) : 0 ≤ numP g n ∧ numP g n < 10 ^ n := by
  induction n with
  | zero => simp [numP]
  | succ n ih =>
    have h1 := ih (fun v hv => hg v (by omega))
    have h2 := hg n (by omega)
    simp only [numP]
    have e : (10 : Int) ^ (n + 1) = 10 * 10 ^ n := by rw [Int.pow_succ, Int.mul_comm]
    rw [e]
    omega
theorem up1_self {β : Type} {f : Nat → β} {k : Nat} {x : β} : up1 f k x k = x := if_pos rfl
theorem up1_ne {β : Type} {f : Nat → β} {k j : Nat} {x : β} (h : j ≠ k) : up1 f k x j = f j := if_neg h
theorem upA_upA {β : Type} {f : Nat → Nat → β} {a : Nat} {g g' : Nat → β} : upA (upA f a g) a g' = upA f a g' := by
  funext b
  by_cases h : b = a <;> simp [upA, h]
theorem upA_id {β : Type} {f : Nat → Nat → β} {a : Nat} : upA f a (f a) = f := by
  funext b
  by_cases h : b = a
  · subst h; simp [upA]
  · simp [upA, h]
theorem natc (v : Nat) : ((v + 1 : Nat) : Int) = (v : Int) + 1 := rfl
/-- the digits of a number, told for n villages: place by place, what is left -/
def dgt : Nat → Int → Nat → Int
  | 0, _, _ => 0
  | n + 1, z, v => if v = n then z % 10 else dgt n (z / 10) v
def dsum : Nat → Int → Int
  | 0, _ => 0
  | n + 1, z => z % 10 + dsum n (z / 10)
def drest : Nat → Int → Int
  | 0, z => z
  | n + 1, z => drest n (z / 10)
theorem dgt_bd : ∀ (n : Nat) (z : Int) (v : Nat), 0 ≤ dgt n z v ∧ dgt n z v ≤ 9
  | 0, z, v => by simp [dgt]
  | n + 1, z, v => by
    unfold dgt
    split
    · omega
    · exact dgt_bd n _ v
theorem dgt_out : ∀ (n : Nat) (z : Int) (v : Nat), n ≤ v → dgt n z v = 0
  | 0, z, v, h => rfl
  | n + 1, z, v, h => by
    unfold dgt
    rw [if_neg (by omega)]
    exact dgt_out n _ v (by omega)
theorem dsum_bd : ∀ (n : Nat) (z : Int), 0 ≤ dsum n z ∧ dsum n z ≤ 9 * n
  | 0, z => by simp [dsum]
  | n + 1, z => by
    have := dsum_bd n (z / 10)
    unfold dsum
    omega
theorem drest_bd : ∀ (n : Nat) (z : Int), 0 ≤ z → 0 ≤ drest n z ∧ drest n z ≤ z
  | 0, z, h => by simp [drest]; exact h
  | n + 1, z, h => by
    have := drest_bd n (z / 10) (by omega)
    unfold drest
    omega
theorem dsum_sumP : ∀ (n : Nat) (z : Int), dsum n z = sumP (dgt n z) n
  | 0, z => rfl
  | n + 1, z => by
    unfold dsum
    simp only [sumP]
    rw [dsum_sumP n (z / 10)]
    have e : sumP (dgt (n + 1) z) n = sumP (dgt n (z / 10)) n := sumP_congr (fun v hv => by
      show (if v = n then z % 10 else dgt n (z / 10) v) = _
      rw [if_neg (by omega)])
    rw [e]
    show _ = _ + (if n = n then z % 10 else dgt n (z / 10) n)
    rw [if_pos rfl]
    omega
/-- n cells of array a filled -/
def fillM (I : IM) (a n : Nat) (z : Int) : IM := upA I a (fun j => if j < n then z else I a j)
theorem fillM_step {I : IM} {a v : Nat} {z : Int} : upA (fillM I a v z) a (up1 (fillM I a v z a) v z) = fillM I a (v + 1) z := by
  unfold fillM
  rw [upA_upA]
  congr 1
  funext j
  simp only [up1, upA_self]
  by_cases h : j = v
  · subst h; simp
  · by_cases h2 : j < v
    · simp [h, h2, Nat.lt_succ_of_lt h2]
    · simp [h, h2, show ¬ j < v + 1 by omega]
theorem fillM_0 {I : IM} {a : Nat} {z : Int} : fillM I a 0 z = I := by
  unfold fillM
  simp only [Nat.not_lt_zero, if_false]
  exact upA_id
