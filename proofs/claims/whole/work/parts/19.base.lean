/-! loops and sums -/
theorem up_ind {W : Nat → Prop} (n : Nat) (body : ∀ v, v < n → W (v + 1) → W v) (hn : W n) : W 0 := by
  have key : ∀ m v, m + v = n → W v := by
    intro m
    induction m with
    | zero => intro v e; rw [show v = n by omega]; exact hn
    | succ m ih => intro v e; exact body v (by omega) (ih (v + 1) (by omega))
  exact key n 0 (by omega)
/-- from a place on -/
theorem up_indF {W : Nat → Prop} (a n : Nat) (ha : a ≤ n) (body : ∀ v, a ≤ v → v < n → W (v + 1) → W v) (hn : W n) : W a := by
  have key : ∀ m v, m + v = n → a ≤ v → W v := by
    intro m
    induction m with
    | zero => intro v e _; rw [show v = n by omega]; exact hn
    | succ m ih => intro v e h; exact body v h (by omega) (ih (v + 1) (by omega) (by omega))
  exact key (n - a) a (by omega) (Nat.le_refl _)
/-- downwards: v + 1 first, then v -/
theorem down_ind {W : Nat → Prop} (n : Nat) (body : ∀ v, v < n → W v → W (v + 1)) (h0 : W 0) : W n := by
  have key : ∀ m, m ≤ n → W m := by
    intro m
    induction m with
    | zero => intro _; exact h0
    | succ m ih => intro h; exact body m (by omega) (ih (by omega))
  exact key n (Nat.le_refl _)
/-- sum of f below n -/
def sumP (f : Nat → Int) : Nat → Int
  | 0 => 0
  | n + 1 => sumP f n + f n
/-- the number with digits g below n, the first the highest -/
def numP (g : Nat → Int) : Nat → Int
  | 0 => 0
  | n + 1 => 10 * numP g n + g n
/-- how many below n -/
def cntP (p : Nat → Bool) : Nat → Int
  | 0 => 0
  | n + 1 => cntP p n + (if p n then 1 else 0)
theorem sumP_congr {f g : Nat → Int} {n : Nat} (h : ∀ v, v < n → f v = g v) : sumP f n = sumP g n := by
  induction n with
  | zero => rfl
  | succ n ih => simp only [sumP]; rw [ih (fun v hv => h v (by omega)), h n (by omega)]
theorem numP_congr {f g : Nat → Int} {n : Nat} (h : ∀ v, v < n → f v = g v) : numP f n = numP g n := by
  induction n with
  | zero => rfl
  | succ n ih => simp only [numP]; rw [ih (fun v hv => h v (by omega)), h n (by omega)]
theorem sumP_bd {f : Nat → Int} {n : Nat} {b : Int} (hf : ∀ v, v < n → -b ≤ f v ∧ f v ≤ b) : -(n * b) ≤ sumP f n ∧ sumP f n ≤ n * b := by
  induction n with
  | zero => simp [sumP]
  | succ n ih =>
    have h1 := ih (fun v hv => hf v (by omega))
    have h2 := hf n (by omega)
    have e : ((n + 1 : Nat) : Int) * b = n * b + b := by rw [Int.natCast_add, Int.add_mul]; simp
    simp only [sumP]
    rw [e]
    omega
theorem numP_bd {g : Nat → Int} {n : Nat} (hg : ∀ v, v < n → 0 ≤ g v ∧ g v ≤ 9) : 0 ≤ numP g n ∧ numP g n < 10 ^ n := by
  induction n with
  | zero => simp [numP]
  | succ n ih =>
    have h1 := ih (fun v hv => hg v (by omega))
    have h2 := hg n (by omega)
    simp only [numP]
    have e : (10 : Int) ^ (n + 1) = 10 * 10 ^ n := by rw [Int.pow_succ, Int.mul_comm]
    rw [e]
    omega
theorem up1_self {β : Type} {f : Nat → β} {k : Nat} {x : β} : up1 f k x k = x := if_pos rfl
theorem up1_ne {β : Type} {f : Nat → β} {k j : Nat} {x : β} (h : j ≠ k) : up1 f k x j = f j := if_neg h
theorem upA_upA {β : Type} {f : Nat → Nat → β} {a : Nat} {g g' : Nat → β} : upA (upA f a g) a g' = upA f a g' := by
  funext b
  by_cases h : b = a <;> simp [upA, h]
theorem upA_id {β : Type} {f : Nat → Nat → β} {a : Nat} : upA f a (f a) = f := by
  funext b
  by_cases h : b = a
  · subst h; simp [upA]
  · simp [upA, h]
theorem natc (v : Nat) : ((v + 1 : Nat) : Int) = (v : Int) + 1 := rfl
/-- the digits of a number, told for n villages: place by place, what is left -/
def dgt : Nat → Int → Nat → Int
  | 0, _, _ => 0
  | n + 1, z, v => if v = n then z % 10 else dgt n (z / 10) v
def dsum : Nat → Int → Int
  | 0, _ => 0
  | n + 1, z => z % 10 + dsum n (z / 10)
def drest : Nat → Int → Int
  | 0, z => z
  | n + 1, z => drest n (z / 10)
theorem dgt_bd : ∀ (n : Nat) (z : Int) (v : Nat), 0 ≤ dgt n z v ∧ dgt n z v ≤ 9
  | 0, z, v => by simp [dgt]
  | n + 1, z, v => by
    unfold dgt
    split
    · omega
    · exact dgt_bd n _ v
theorem dgt_out : ∀ (n : Nat) (z : Int) (v : Nat), n ≤ v → dgt n z v = 0
  | 0, z, v, h => rfl
  | n + 1, z, v, h => by
    unfold dgt
    rw [if_neg (by omega)]
    exact dgt_out n _ v (by omega)
theorem dsum_bd : ∀ (n : Nat) (z : Int), 0 ≤ dsum n z ∧ dsum n z ≤ 9 * n
  | 0, z => by simp [dsum]
  | n + 1, z => by
    have := dsum_bd n (z / 10)
    unfold dsum
    omega
theorem drest_bd : ∀ (n : Nat) (z : Int), 0 ≤ z → 0 ≤ drest n z ∧ drest n z ≤ z
  | 0, z, h => by simp [drest]; exact h
  | n + 1, z, h => by
    have := drest_bd n (z / 10) (by omega)
    unfold drest
    omega
theorem dsum_sumP : ∀ (n : Nat) (z : Int), dsum n z = sumP (dgt n z) n
  | 0, z => rfl
  | n + 1, z => by
    unfold dsum
    simp only [sumP]
    rw [dsum_sumP n (z / 10)]
    have e : sumP (dgt (n + 1) z) n = sumP (dgt n (z / 10)) n := sumP_congr (fun v hv => by
      show (if v = n then z % 10 else dgt n (z / 10) v) = _
      rw [if_neg (by omega)])
    rw [e]
    show _ = _ + (if n = n then z % 10 else dgt n (z / 10) n)
    rw [if_pos rfl]
    omega
/-- n cells of array a filled -/
def fillM (I : IM) (a n : Nat) (z : Int) : IM := upA I a (fun j => if j < n then z else I a j)
theorem fillM_step {I : IM} {a v : Nat} {z : Int} : upA (fillM I a v z) a (up1 (fillM I a v z a) v z) = fillM I a (v + 1) z := by
  unfold fillM
  rw [upA_upA]
  congr 1
  funext j
  simp only [up1, upA_self]
  by_cases h : j = v
  · subst h; simp
  · by_cases h2 : j < v
    · simp [h, h2, Nat.lt_succ_of_lt h2]
    · simp [h, h2, show ¬ j < v + 1 by omega]
theorem fillM_0 {I : IM} {a : Nat} {z : Int} : fillM I a 0 z = I := by
  unfold fillM
  simp only [Nat.not_lt_zero, if_false]
  exact upA_id

/-! to other locals and other names of the same memory; loops -/
def subL : List (Option Value) → List (Option Value) → Prop
  | [], [] => True
  | a :: l, b :: m => (a = none ∨ a = b) ∧ subL l m
  | _, _ => False
theorem subL_get : ∀ {l m : List (Option Value)}, subL l m → ∀ (i : Nat) (v : Value), l[i]? = some (some v) → m[i]? = some (some v)
  | [], [], _, i, v, h => by simp at h
  | a :: l, b :: m, hs, 0, v, h => by
    rcases hs.1 with e | e
    · subst e; simp at h
    · subst e; exact h
  | a :: l, b :: m, hs, i + 1, v, h => by
    have h' : l[i]? = some (some v) := by simpa using h
    have := subL_get hs.2 i v h'
    simpa using this
  | [], b :: m, hs, _, _, _ => hs.elim
  | a :: l, [], hs, _, _, _ => hs.elim
section LP
variable {X : pX} {h : Nat} {mi : MI} {pc : Nat} {l0 : List (Option Value)} {st : List Value} {I0 J0 : IM} {P : Option Value → IM → IM → Prop}
theorem rz_to {ls' : List (Option Value)} {I' J' : IM} (hl : subL ls' l0) (hI : I' = I0) (hJ : J' = J0) (k : Rz X h mi pc ls' st I' J' P) : Rz X h mi pc l0 st I0 J0 P := by
  subst hI hJ
  exact rz_wk (subL_get hl) k
theorem rz_bk {ls' : List (Option Value)} {I' J' : IM} (k : Rz X h mi pc ls' st I' J' P) (hl : subL ls' l0) (hI : I' = I0) (hJ : J' = J0) : Rz X h mi pc l0 st I0 J0 P := rz_to hl hI hJ k
theorem rz_mem {I' J' : IM} (hI : I' = I0) (hJ : J' = J0) (k : Rz X h mi pc l0 st I' J' P) : Rz X h mi pc l0 st I0 J0 P := by
  subst hI hJ
  exact k
theorem rz_up {ls : Nat → List (Option Value)} {IV JV : Nat → IM} (n : Nat) (hl : subL (ls 0) l0) (hI : IV 0 = I0) (hJ : JV 0 = J0)
    (body : ∀ v, v < n → Rz X h mi pc (ls (v + 1)) st (IV (v + 1)) (JV (v + 1)) P → Rz X h mi pc (ls v) st (IV v) (JV v) P) (hn : Rz X h mi pc (ls n) st (IV n) (JV n) P) : Rz X h mi pc l0 st I0 J0 P :=
  rz_to hl hI hJ (up_ind (W := fun v => Rz X h mi pc (ls v) st (IV v) (JV v) P) n body hn)
theorem rz_dn {ls : Nat → List (Option Value)} {IV JV : Nat → IM} (n : Nat) (hl : subL (ls n) l0) (hI : IV n = I0) (hJ : JV n = J0)
    (body : ∀ v, v < n → Rz X h mi pc (ls v) st (IV v) (JV v) P → Rz X h mi pc (ls (v + 1)) st (IV (v + 1)) (JV (v + 1)) P) (hn : Rz X h mi pc (ls 0) st (IV 0) (JV 0) P) : Rz X h mi pc l0 st I0 J0 P :=
  rz_to hl hI hJ (down_ind (W := fun v => Rz X h mi pc (ls v) st (IV v) (JV v) P) n body hn)
theorem rz_upx {σ : Type} {Inv : Nat → σ → Prop} {ls : Nat → σ → List (Option Value)} {IV JV : Nat → σ → IM} (n : Nat) (s0 : σ) (h0 : Inv 0 s0) (hl : subL (ls 0 s0) l0) (hI : IV 0 s0 = I0) (hJ : JV 0 s0 = J0)
    (body : ∀ v s, v < n → Inv v s → (∀ s', Inv (v + 1) s' → Rz X h mi pc (ls (v + 1) s') st (IV (v + 1) s') (JV (v + 1) s') P) → Rz X h mi pc (ls v s) st (IV v s) (JV v s) P)
    (hn : ∀ s, Inv n s → Rz X h mi pc (ls n s) st (IV n s) (JV n s) P) : Rz X h mi pc l0 st I0 J0 P :=
  rz_to hl hI hJ (up_ind (W := fun v => ∀ s, Inv v s → Rz X h mi pc (ls v s) st (IV v s) (JV v s) P) n (fun v hv ih s hs => body v s hv hs ih) hn s0 h0)
theorem rz_wh {σ : Type} {Inv : σ → Prop} {ls : σ → List (Option Value)} {IV JV : σ → IM} (m : σ → Nat) (s0 : σ) (h0 : Inv s0) (hl : subL (ls s0) l0) (hI : IV s0 = I0) (hJ : JV s0 = J0)
    (body : ∀ s, Inv s → (∀ s', Inv s' → m s' < m s → Rz X h mi pc (ls s') st (IV s') (JV s') P) → Rz X h mi pc (ls s) st (IV s) (JV s) P) : Rz X h mi pc l0 st I0 J0 P := by
  have key : ∀ k s, m s ≤ k → Inv s → Rz X h mi pc (ls s) st (IV s) (JV s) P := by
    intro k
    induction k with
    | zero => intro s hk hs; exact body s hs (fun s' _ hm => absurd hm (by omega))
    | succ k ih => intro s hk hs; exact body s hs (fun s' hs' hm => ih s' (by omega) hs')
  exact rz_to hl hI hJ (key (m s0) s0 (Nat.le_refl _) h0)
end LP
/-! the array rows with a natural place -/
section RN
variable {X : pX} {h : Nat} {mi : MI} {pc : Nat} {ls : List (Option Value)} {st : List Value} {I J : IM} {P : Option Value → IM → IM → Prop} {a n k : Nat} {i z : Int}
theorem rz_ialdN (hd : decode mi.2.1 pc = .ok (.iaload, 1)) (hh : HD0[a]? = some (1, 0, n)) (hn : n ≤ 100000) (e : i = (k : Int)) (hk : k < n) (hv : I a k = z) (kk : Rz X h mi (pc + 1) ls (zi z :: st) I J P) : Rz X h mi pc ls (zi i :: .ref a :: st) I J P :=
  rz_iald hd hh hn (by omega) (by subst e; exact hv) kk
theorem rz_baldN (hd : decode mi.2.1 pc = .ok (.baload, 1)) (hh : HD0[a]? = some (1, 1, n)) (hn : n ≤ 100000) (e : i = (k : Int)) (hk : k < n) (hv : I a k = z) (kk : Rz X h mi (pc + 1) ls (zi z :: st) I J P) : Rz X h mi pc ls (zi i :: .ref a :: st) I J P :=
  rz_bald hd hh hn (by omega) (by subst e; exact hv) kk
theorem rz_saldN (hd : decode mi.2.1 pc = .ok (.saload, 1)) (hh : HD0[a]? = some (1, 2, n)) (hn : n ≤ 100000) (e : i = (k : Int)) (hk : k < n) (hv : I a k = z) (kk : Rz X h mi (pc + 1) ls (zi z :: st) I J P) : Rz X h mi pc ls (zi i :: .ref a :: st) I J P :=
  rz_sald hd hh hn (by omega) (by subst e; exact hv) kk
theorem rz_zaldN (hd : decode mi.2.1 pc = .ok (.baload, 1)) (hh : HD0[a]? = some (1, 3, n)) (hn : n ≤ 100000) (e : i = (k : Int)) (hk : k < n) (hv : I a k = z) (kk : Rz X h mi (pc + 1) ls (zi z :: st) I J P) : Rz X h mi pc ls (zi i :: .ref a :: st) I J P :=
  rz_zald hd hh hn (by omega) (by subst e; exact hv) kk
theorem rz_laldN (hd : decode mi.2.1 pc = .ok (.laload, 1)) (hh : HD0[a]? = some (2, 4, n)) (hn : n ≤ 100000) (e : i = (k : Int)) (hk : k < n) (hv : J a k = z) (kk : Rz X h mi (pc + 1) ls (zl z :: st) I J P) : Rz X h mi pc ls (zi i :: .ref a :: st) I J P :=
  rz_lald hd hh hn (by omega) (by subst e; exact hv) kk
theorem rz_iastN (hd : decode mi.2.1 pc = .ok (.iastore, 1)) (hh : HD0[a]? = some (1, 0, n)) (hn : n ≤ 100000) (e : i = (k : Int)) (hk : k < n) (kk : Rz X h mi (pc + 1) ls st (upA I a (up1 (I a) k z)) J P) : Rz X h mi pc ls (zi z :: zi i :: .ref a :: st) I J P :=
  rz_iast hd hh hn (by omega) (by subst e; exact kk)
theorem rz_bastN (hd : decode mi.2.1 pc = .ok (.bastore, 1)) (hh : HD0[a]? = some (1, 1, n)) (hn : n ≤ 100000) (e : i = (k : Int)) (hk : k < n) (hz : -128 ≤ z ∧ z ≤ 127) (kk : Rz X h mi (pc + 1) ls st (upA I a (up1 (I a) k z)) J P) : Rz X h mi pc ls (zi z :: zi i :: .ref a :: st) I J P :=
  rz_bast hd hh hn (by omega) hz (by subst e; exact kk)
theorem rz_sastN (hd : decode mi.2.1 pc = .ok (.sastore, 1)) (hh : HD0[a]? = some (1, 2, n)) (hn : n ≤ 100000) (e : i = (k : Int)) (hk : k < n) (hz : -32768 ≤ z ∧ z ≤ 32767) (kk : Rz X h mi (pc + 1) ls st (upA I a (up1 (I a) k z)) J P) : Rz X h mi pc ls (zi z :: zi i :: .ref a :: st) I J P :=
  rz_sast hd hh hn (by omega) hz (by subst e; exact kk)
theorem rz_zastN (hd : decode mi.2.1 pc = .ok (.bastore, 1)) (hh : HD0[a]? = some (1, 3, n)) (hn : n ≤ 100000) (e : i = (k : Int)) (hk : k < n) (hz : z = 0 ∨ z = 1) (kk : Rz X h mi (pc + 1) ls st (upA I a (up1 (I a) k z)) J P) : Rz X h mi pc ls (zi z :: zi i :: .ref a :: st) I J P :=
  rz_zast hd hh hn (by omega) hz (by subst e; exact kk)
theorem rz_lastN (hd : decode mi.2.1 pc = .ok (.lastore, 1)) (hh : HD0[a]? = some (2, 4, n)) (hn : n ≤ 100000) (e : i = (k : Int)) (hk : k < n) (kk : Rz X h mi (pc + 1) ls st I (upA J a (up1 (J a) k z)) P) : Rz X h mi pc ls (zl z :: zi i :: .ref a :: st) I J P :=
  rz_last hd hh hn (by omega) (by subst e; exact kk)
end RN
