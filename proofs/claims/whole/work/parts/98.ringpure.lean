/-! ring: the first of a kind, bits in longs -/
def fs (P : Nat → Bool) : Nat → Nat → Nat
  | 0, b => b
  | k + 1, b => if P b = true then b else fs P k (b + 1)
theorem fs_at {P : Nat → Bool} : ∀ (k b x : Nat), b ≤ x → x < b + k → (∀ y, b ≤ y → y < x → P y = false) → P x = true → fs P k b = x
  | 0, b, x, h1, h2, _, _ => by omega
  | k + 1, b, x, h1, h2, h3, h4 => by
    unfold fs
    by_cases e : b = x
    · subst e; rw [if_pos h4]
    · rw [if_neg (by rw [h3 b (Nat.le_refl b) (by omega)]; decide)]
      exact fs_at k (b + 1) x (by omega) (by omega) (fun y hy hx => h3 y (by omega) hx) h4
theorem fs_no {P : Nat → Bool} : ∀ (k b : Nat), (∀ y, b ≤ y → y < b + k → P y = false) → fs P k b = b + k
  | 0, b, _ => rfl
  | k + 1, b, h => by
    unfold fs
    rw [if_neg (by rw [h b (Nat.le_refl b) (by omega)]; decide), fs_no k (b + 1) (fun y hy hx => h y (by omega) (by omega))]
    omega
def rgC (B : Nat → Nat → Bool) (p q r : Nat) : Bool := decide (r ≠ q) && (B q r && B r p)
def rgR (B : Nat → Nat → Bool) (M p q : Nat) : Nat := fs (rgC B p q) (M - (p + 1)) (p + 1)
def rgD (B : Nat → Nat → Bool) (M p q : Nat) : Bool := B p q && decide (rgR B M p q < M)
def rgQ (B : Nat → Nat → Bool) (M p : Nat) : Nat := fs (rgD B M p) (M - (p + 1)) (p + 1)
def rgE (B : Nat → Nat → Bool) (M p : Nat) : Bool := decide (rgQ B M p < M)
def rgP (B : Nat → Nat → Bool) (M : Nat) : Nat := fs (rgE B M) M 0
theorem rgR_at {B : Nat → Nat → Bool} {M p q r : Nat} (h1 : p < r) (h2 : r < M) (h3 : ∀ y, p < y → y < r → rgC B p q y = false) (h4 : rgC B p q r = true) : rgR B M p q = r := fs_at _ _ _ h1 (by omega) (fun y a b => h3 y a b) h4
theorem rgR_no {B : Nat → Nat → Bool} {M p q : Nat} (hp : p < M) (h : ∀ y, p < y → y < M → rgC B p q y = false) : rgR B M p q = M := by
  have := fs_no (P := rgC B p q) (M - (p + 1)) (p + 1) (fun y a b => h y a (by omega))
  unfold rgR; omega
theorem rgQ_at {B : Nat → Nat → Bool} {M p q : Nat} (h1 : p < q) (h2 : q < M) (h3 : ∀ y, p < y → y < q → rgD B M p y = false) (h4 : rgD B M p q = true) : rgQ B M p = q := fs_at _ _ _ h1 (by omega) (fun y a b => h3 y a b) h4
theorem rgQ_no {B : Nat → Nat → Bool} {M p : Nat} (hp : p < M) (h : ∀ y, p < y → y < M → rgD B M p y = false) : rgQ B M p = M := by
  have := fs_no (P := rgD B M p) (M - (p + 1)) (p + 1) (fun y a b => h y a (by omega))
  unfold rgQ; omega
theorem rgP_at {B : Nat → Nat → Bool} {M p : Nat} (h2 : p < M) (h3 : ∀ y, y < p → rgE B M y = false) (h4 : rgE B M p = true) : rgP B M = p := fs_at _ _ _ (Nat.zero_le p) (by omega) (fun y _ b => h3 y b) h4
theorem rgP_no {B : Nat → Nat → Bool} {M : Nat} (h : ∀ y, y < M → rgE B M y = false) : rgP B M = M := by
  have := fs_no (P := rgE B M) M 0 (fun y _ b => h y (by omega))
  unfold rgP; omega
theorem rgC_y {B : Nat → Nat → Bool} {p q r : Nat} (h1 : r ≠ q) (h2 : B q r = true) (h3 : B r p = true) : rgC B p q r = true := by unfold rgC; simp [h1, h2, h3]
theorem rgC_n1 {B : Nat → Nat → Bool} {p q r : Nat} (h1 : r = q) : rgC B p q r = false := by unfold rgC; simp [h1]
theorem rgC_n2 {B : Nat → Nat → Bool} {p q r : Nat} (h1 : B q r = false) : rgC B p q r = false := by unfold rgC; simp [h1]
theorem rgC_n3 {B : Nat → Nat → Bool} {p q r : Nat} (h1 : B r p = false) : rgC B p q r = false := by unfold rgC; simp [h1]
theorem rgD_y {B : Nat → Nat → Bool} {M p q r : Nat} (h1 : B p q = true) (h2 : rgR B M p q = r) (h3 : r < M) : rgD B M p q = true := by unfold rgD; simp [h1, h2, h3]
theorem rgD_n1 {B : Nat → Nat → Bool} {M p q : Nat} (h1 : B p q = false) : rgD B M p q = false := by unfold rgD; simp [h1]
theorem rgD_n2 {B : Nat → Nat → Bool} {M p q : Nat} (h1 : rgR B M p q = M) : rgD B M p q = false := by unfold rgD; simp [h1]
theorem rgE_y {B : Nat → Nat → Bool} {M p q : Nat} (h2 : rgQ B M p = q) (h3 : q < M) : rgE B M p = true := by unfold rgE; simp [h2, h3]
theorem rgE_n {B : Nat → Nat → Bool} {M p : Nat} (h2 : rgQ B M p = M) : rgE B M p = false := by unfold rgE; simp [h2]
/-- the bits -/
def lb (x : Int) (i : Nat) : Bool := (lz x).toBitVec.getLsbD i
theorem lz_rg (x : Int64) : rl x.toInt := ⟨by have := x.le_toInt; omega, by have := x.toInt_lt; omega⟩
theorem lb_0 (i : Nat) : lb 0 i = false := by unfold lb; rw [lz0]; exact BitVec.getLsbD_zero
theorem lb_or (x y : Int) (i : Nat) : lb ((lz x ||| lz y).toInt) i = (lb x i || lb y i) := by unfold lb; rw [lz_of, Int64.toBitVec_or, BitVec.getLsbD_or]
theorem lb_and (x y : Int) (i : Nat) : lb ((lz x &&& lz y).toInt) i = (lb x i && lb y i) := by unfold lb; rw [lz_of, Int64.toBitVec_and, BitVec.getLsbD_and]
theorem sh_tp : ∀ k, k < 64 → ((lz 1) <<< ((iz (k : Nat)).toInt64 &&& 63)).toBitVec = BitVec.twoPow 64 k := by decide +kernel
theorem lb_sh {k i : Nat} (hk : k < 64) (hi : i < 64) : lb ((lz 1 <<< ((iz (k : Int)).toInt64 &&& 63)).toInt) i = decide (k = i) := by
  unfold lb
  rw [lz_of, sh_tp k hk, BitVec.getLsbD_twoPow]
  simp [hk]
theorem lb_bit {w : Int64} {s : UInt64} {j : Nat} (hj : j < 64) (hs : s.toNat = j) : ((w.toUInt64 >>> s).toInt64 &&& 1) = 0 ↔ w.toBitVec.getLsbD j = false := by
  have e : (w.toUInt64 >>> s).toInt64.toBitVec = w.toBitVec >>> j := by
    apply BitVec.eq_of_toNat_eq
    show (w.toUInt64 >>> s).toNat = _
    rw [UInt64.toNat_shiftRight, hs, Nat.mod_eq_of_lt hj, BitVec.toNat_ushiftRight]
    rfl
  rw [← Int64.toBitVec_inj, Int64.toBitVec_and, e]
  show w.toBitVec >>> j &&& 1#64 = 0#64 ↔ _
  constructor
  · intro h
    have t := congrArg (fun x => x.getLsbD 0) h
    simpa using t
  · intro h
    apply BitVec.eq_of_getLsbD_eq
    intro i hi
    cases i with
    | zero => simp [h]
    | succ i => simp
theorem us_nat : ∀ k, k < 64 → ((iz (k : Nat)).toInt64.toUInt64 &&& Int64.toUInt64 63).toNat = k := by decide +kernel
theorem lb_us {x : Int} {j : Nat} (hj : j < 64) : (lz ((((lz x).toUInt64 >>> ((iz (j : Int)).toInt64.toUInt64 &&& Int64.toUInt64 63)).toInt64).toInt) &&& lz 1).toInt = 0 ↔ lb x j = false := by
  rw [lz_of]
  unfold lb
  rw [← lb_bit hj (us_nat j hj)]
  show _ ↔ _ &&& lz 1 = 0
  rw [← lz0, ← Int64.toInt_inj]
  rfl
theorem lb_and0 {x y : Int} {i : Nat} (h : (lz x &&& lz y).toInt = 0) : (lb x i && lb y i) = false := by
  rw [← lb_and, h, lb_0]
/-- rows of bits -/
def RbI (B : Nat → Nat → Bool) (M : Nat) (D : Nat → Nat → Bool) (s : (Nat → Int) × (Nat → Int)) : Prop := ∀ a b, a < M → b < M → lb (s.1 (5 * a + b / 64)) (b % 64) = (D a b && B a b) ∧ lb (s.2 (5 * b + a / 64)) (a % 64) = (D a b && B a b)
def rbD (p q a b : Nat) : Bool := decide (a < p ∨ (a = p ∧ b < q))
theorem RbI_0 {B : Nat → Nat → Bool} {M : Nat} {F G : Nat → Int} (hM : M ≤ 300) : RbI B M (rbD 0 0) (fun j => if j < 1500 then 0 else F j, fun j => if j < 1500 then 0 else G j) := by
  intro a b ha hb
  have e : rbD 0 0 a b = false := decide_eq_false (by omega)
  rw [e, Bool.false_and]
  constructor
  · show lb (if 5 * a + b / 64 < 1500 then 0 else F (5 * a + b / 64)) (b % 64) = false
    rw [if_pos (by omega), lb_0]
  · show lb (if 5 * b + a / 64 < 1500 then 0 else G (5 * b + a / 64)) (a % 64) = false
    rw [if_pos (by omega), lb_0]
theorem rbD_s {p q a b : Nat} : rbD p (q + 1) a b = (rbD p q a b || decide (a = p ∧ b = q)) := by
  unfold rbD
  rw [← Bool.decide_or]
  exact decide_eq_decide.mpr (by omega)
theorem RbI_y {B : Nat → Nat → Bool} {M p q : Nat} {s : (Nat → Int) × (Nat → Int)} (hM : M ≤ 300) (hp : p < M) (hq : q < M) (hB : B p q = true) (h : RbI B M (rbD p q) s) : RbI B M (rbD p (q + 1)) (up1 s.1 (5 * p + q / 64) ((lz (s.1 (5 * p + q / 64)) ||| lz (lz 1 <<< ((iz ((q % 64 : Nat) : Int)).toInt64 &&& 63)).toInt).toInt), up1 s.2 (5 * q + p / 64) ((lz (s.2 (5 * q + p / 64)) ||| lz (lz 1 <<< ((iz ((p % 64 : Nat) : Int)).toInt64 &&& 63)).toInt).toInt)) := by
  intro a b ha hb
  obtain ⟨h1, h2⟩ := h a b ha hb
  rw [rbD_s]
  constructor
  · show lb (up1 s.1 _ _ (5 * a + b / 64)) (b % 64) = _
    by_cases e : 5 * a + b / 64 = 5 * p + q / 64
    · rw [e, up1_self, lb_or, lb_sh (by omega) (by omega), ← e, h1]
      have ea : a = p := by omega
      subst ea
      by_cases eb : b = q
      · subst eb; simp [hB]
      · have e2 : ¬ q % 64 = b % 64 := by omega
        simp [eb, e2]
    · rw [up1_ne e, h1]
      have e2 : ¬ (a = p ∧ b = q) := fun k => by obtain ⟨rfl, rfl⟩ := k; exact e rfl
      rw [decide_eq_false e2, Bool.or_false]
  · show lb (up1 s.2 _ _ (5 * b + a / 64)) (a % 64) = _
    by_cases e : 5 * b + a / 64 = 5 * q + p / 64
    · rw [e, up1_self, lb_or, lb_sh (by omega) (by omega), ← e, h2]
      have eb : b = q := by omega
      subst eb
      by_cases ea : a = p
      · subst ea; simp [hB]
      · have e2 : ¬ p % 64 = a % 64 := by omega
        simp [ea, e2]
    · rw [up1_ne e, h2]
      have e2 : ¬ (a = p ∧ b = q) := fun k => by obtain ⟨rfl, rfl⟩ := k; exact e rfl
      rw [decide_eq_false e2, Bool.or_false]
theorem RbI_n {B : Nat → Nat → Bool} {M p q : Nat} {s : (Nat → Int) × (Nat → Int)} (hB : B p q = false) (h : RbI B M (rbD p q) s) : RbI B M (rbD p (q + 1)) s := by
  intro a b ha hb
  have e : (rbD p (q + 1) a b && B a b) = (rbD p q a b && B a b) := by
    rw [rbD_s]
    by_cases k : a = p ∧ b = q
    · obtain ⟨rfl, rfl⟩ := k; rw [hB, Bool.and_false, Bool.and_false]
    · rw [decide_eq_false k, Bool.or_false]
  rw [e]
  exact h a b ha hb
theorem RbI_e {B : Nat → Nat → Bool} {M p : Nat} {s : (Nat → Int) × (Nat → Int)} (h : RbI B M (rbD p M) s) : RbI B M (rbD (p + 1) 0) s := by
  intro a b ha hb
  have e : rbD (p + 1) 0 a b = rbD p M a b := decide_eq_decide.mpr (by omega)
  rw [e]
  exact h a b ha hb
def RbE (B : Nat → Nat → Bool) (M : Nat) (F G : Nat → Int) : Prop := ∀ a b, a < M → b < M → lb (F (5 * a + b / 64)) (b % 64) = B a b ∧ lb (G (5 * b + a / 64)) (a % 64) = B a b
theorem RbI_end {B : Nat → Nat → Bool} {M : Nat} {s : (Nat → Int) × (Nat → Int)} (h : RbI B M (rbD M 0) s) : RbE B M s.1 s.2 := by
  intro a b ha hb
  have e : rbD M 0 a b = true := decide_eq_true (by omega)
  have h2 := h a b ha hb
  rw [e, Bool.true_and] at h2
  exact h2
theorem rb_mem {J : IM} {f g f2 g2 : Nat → Int} : upA (upA J 44 f2) 45 g2 = upA (upA (upA (upA J 44 f) 45 g) 44 f2) 45 g2 := by
  funext b
  by_cases h : b = 45
  · subst h; simp [upA]
  · by_cases h2 : b = 44
    · subst h2; simp [upA]
    · simp [upA, h, h2]
theorem bool_nf {x : Bool} (h : ¬ x = true) : x = false := by cases x <;> first | rfl | exact absurd rfl h
theorem lb_t {x : Int} {j : Nat} (hj : j < 64) (c : ¬ lcZ ((lz ((((lz x).toUInt64 >>> ((iz (j : Int)).toInt64.toUInt64 &&& Int64.toUInt64 63)).toInt64).toInt) &&& lz 1).toInt) 0 = 0) : lb x j = true := by
  cases h : lb x j
  · exact absurd (lcZ_0.mpr ((lb_us hj).mpr h)) c
  · rfl
theorem lb_f {x : Int} {j : Nat} (hj : j < 64) (c : lcZ ((lz ((((lz x).toUInt64 >>> ((iz (j : Int)).toInt64.toUInt64 &&& Int64.toUInt64 63)).toInt64).toInt) &&& lz 1).toInt) 0 = 0) : ¬ lb x j = true := by
  rw [(lb_us hj).mp (lcZ_0.mp c)]; decide
theorem third_skip {B : Nat → Nat → Bool} {M p q w : Nat} {F G : Nat → Int} (hb : RbE B M F G) (hp : p < M) (hq : q < M) (h : ∀ r, p < r → r < M → r < 64 * w → rgC B p q r = false) (h0 : (lz (F (5 * q + w)) &&& lz (G (5 * p + w))).toInt = 0) : ∀ r, p < r → r < M → r < 64 * (w + 1) → rgC B p q r = false := by
  intro r h1 h2 h3
  by_cases e : r < 64 * w
  · exact h r h1 h2 e
  · have ew : r / 64 = w := by omega
    have k := lb_and0 (i := r % 64) h0
    have k1 := (hb q r hq h2).1
    have k2 := (hb r p h2 hp).2
    rw [ew] at k1 k2
    rw [k1, k2] at k
    unfold rgC
    rw [k, Bool.and_false]
def btB (lw : Lw) (W T U : Nat → Int) (n : Nat) (L : List (List Nat)) (i j : Nat) : Bool := decide (0 < scP lw W T U n (L.getD i []) (L.getD j []))
theorem btB_t {lw : Lw} {W T U : Nat → Int} {n : Nat} {L : List (List Nat)} {i j : Nat} (h : 0 < scP lw W T U n (L.getD i []) (L.getD j [])) : btB lw W T U n L i j = true := decide_eq_true h
theorem btB_f {lw : Lw} {W T U : Nat → Int} {n : Nat} {L : List (List Nat)} {i j : Nat} (h : ¬ 0 < scP lw W T U n (L.getD i []) (L.getD j [])) : btB lw W T U n L i j = false := decide_eq_false h
def rgAt (B : Nat → Nat → Bool) (M k : Nat) : Nat := if k = 0 then rgP B M else if k = 1 then rgQ B M (rgP B M) else rgR B M (rgP B M) (rgQ B M (rgP B M))
def rinV (lw : Lw) (W T U : Nat → Int) (n : Nat) (L : List (List Nat)) (k : Nat) : Int := if rgP (btB lw W T U n L) L.length < L.length then numP (fun v => (((L.getD (rgAt (btB lw W T U n L) L.length k) []).getD v 0 : Nat) : Int)) n else -2
def rinZ (lw : Lw) (W T U Q : Nat → Int) (n : Nat) (k : Int) : Int := if 0 ≤ k ∧ k ≤ 2 then (if lstB n (Q 0).toNat (Q 1).toNat = true then rinV lw W T U n (rowsL n (Q 0).toNat true) k.toNat else -5) else -1
