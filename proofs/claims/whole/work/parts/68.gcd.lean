/-! fractions in lowest terms -/
theorem rz_leq {X : pX} {h : Nat} {mi : MI} {pc : Nat} {ls : List (Option Value)} {st : List Value} {I J : IM} {P : Option Value → IM → IM → Prop} {x y : Int} (e : y = x) (k : Rz X h mi pc ls (zl y :: st) I J P) : Rz X h mi pc ls (zl x :: st) I J P := by subst e; exact k
def lowQ (a b p : Int) : Int := if p = 0 then a.tdiv (Int.gcd a b) else b.tdiv (Int.gcd a b)
theorem lcZ_cases (x y : Int) : (y < x ∧ lcZ x y = 1) ∨ (x = y ∧ lcZ x y = 0) ∨ (x < y ∧ lcZ x y = -1) := by
  unfold lcZ
  split
  · omega
  · split <;> omega
def EuI (a b : Int) (q x y : Nat) : Prop := Nat.gcd x y = Int.gcd a b ∧ x ≤ 1000000000 ∧ y ≤ 1000000000 ∧ (1 ≤ q → y < x ∧ x * y * 2 ^ (q - 1) ≤ 2 ^ 62)
theorem EuI_0 {a b : Int} (ha : -1000000000 ≤ a ∧ a ≤ 1000000000) (hb : 0 < b ∧ b ≤ 1000000000) : EuI a b 0 a.natAbs b.natAbs := ⟨rfl, by omega, by omega, fun q => absurd q (by omega)⟩
theorem EuI_s {a b : Int} {q x y : Nat} (h : EuI a b q x y) (hy : y ≠ 0) : EuI a b (q + 1) y (x % y) := by
  obtain ⟨h1, h2, h3, h4⟩ := h
  have hm : x % y < y := Nat.mod_lt _ (by omega)
  refine ⟨?_, h3, by omega, fun _ => ⟨hm, ?_⟩⟩
  · rw [← h1, Nat.gcd_comm x y, Nat.gcd_rec y x, Nat.gcd_comm]
  · rw [Nat.add_sub_cancel]
    by_cases e : q = 0
    · subst e
      have h5 : y * (x % y) ≤ 1000000000 * 1000000000 := Nat.mul_le_mul h3 (by omega)
      have h6 : y * (x % y) * 2 ^ 0 = y * (x % y) := by simp
      rw [h6]
      exact Nat.le_trans h5 (by decide)
    · obtain ⟨g1, g2⟩ := h4 (by omega)
      obtain ⟨p, rfl⟩ : ∃ p, q = p + 1 := ⟨q - 1, by omega⟩
      rw [Nat.add_sub_cancel] at g2
      have hd := Nat.div_add_mod x y
      have hq1 : 1 ≤ x / y := Nat.div_pos (by omega) (by omega)
      have hx : y + x % y ≤ x := by
        have : y * 1 ≤ y * (x / y) := Nat.mul_le_mul_left y hq1
        omega
      have h2r : 2 * (x % y) ≤ x := by omega
      have h7 : y * (x % y) * 2 ≤ x * y := by
        have := Nat.mul_le_mul_right y h2r
        rw [show y * (x % y) * 2 = 2 * (x % y) * y by rw [Nat.mul_comm y, Nat.mul_assoc, Nat.mul_comm y 2, ← Nat.mul_assoc, Nat.mul_comm (x % y) 2]]
        exact this
      have e2 : y * (x % y) * 2 ^ (p + 1) = y * (x % y) * 2 * 2 ^ p := by rw [Nat.pow_succ, Nat.mul_comm (2 ^ p) 2, ← Nat.mul_assoc]
      rw [e2]
      exact Nat.le_trans (Nat.mul_le_mul_right _ h7) g2
theorem EuI_e {a b : Int} {x y : Nat} (h : EuI a b 100 x y) : y = 0 := by
  obtain ⟨-, -, -, h4⟩ := h
  obtain ⟨g1, g2⟩ := h4 (by decide)
  by_cases e : y = 0
  · exact e
  · exfalso
    have h1 : 1 ≤ x * y := Nat.mul_pos (by omega) (by omega)
    have h2 := Nat.le_trans (Nat.mul_le_mul_right (2 ^ (100 - 1)) h1) g2
    exact absurd h2 (by decide)
theorem EuI_g {a b : Int} {q x : Nat} (hb : 0 < b) (h : EuI a b q x 0) : (x : Int) = Int.gcd a b ∧ 0 < x := by
  have h1 := h.1
  rw [Nat.gcd_zero_right] at h1
  refine ⟨by rw [h1], ?_⟩
  rw [h1]
  exact Nat.gcd_pos_of_pos_right _ (by omega)
set_option maxRecDepth 20000 in
set_option maxHeartbeats 400000 in
theorem c_X11_inLowest {X : pX} {I J : IM} {h : Nat} (a b p : Int) (ha : -1000000000 ≤ a ∧ a ≤ 1000000000) (hb : 0 < b ∧ b ≤ 1000000000) (hp : p = 0 ∨ p = 1) : KL X (h + 1) mX11_inLowest [zl a, zl b, zi p] I J (lowQ a b p) I J := by
  show Rz X (h + 1) mX11_inLowest 0 [some (zl a), none, some (zl b), none, some (zi p), none, none, none, none, none, none, none] [] I J _
  refine rz_lload_n dX11_inLowest_0 rfl ?_
  refine rz_labs dX11_inLowest_1 kl_RX11_228 (Nat.le_of_ble_eq_true rfl) (by omega) ?_
  refine rz_leq (y := ((a.natAbs : Nat) : Int)) (by split <;> omega) ?_
  refine rz_lstore dX11_inLowest_4 (by decide) rfl ?_
  refine rz_lload_n dX11_inLowest_6 rfl ?_
  refine rz_lstore dX11_inLowest_7 (by decide) rfl ?_
  refine rz_iconst dX11_inLowest_9 ?_
  refine rz_istore (ls' := [some (zl a), none, some (zl b), none, some (zi p), some (zl ((a.natAbs : Nat) : Int)), none, some (zl b), none, some (zi 0), none, none]) dX11_inLowest_10 (by decide) rfl ?_
  refine rz_upx (σ := Nat × Nat) (Inv := fun q sq => EuI a b q sq.1 sq.2) (ls := fun (q : Nat) sq => [some (zl a), none, some (zl b), none, some (zi p), some (zl (sq.1 : Int)), none, some (zl (sq.2 : Int)), none, some (zi (q : Int)), none, none]) (IV := fun (q : Nat) sq => I) (JV := fun (q : Nat) sq => J) (100) ((a.natAbs, b.natAbs)) (EuI_0 ha hb) ⟨Or.inr rfl, Or.inl rfl, Or.inr rfl, Or.inl rfl, Or.inr rfl, Or.inr rfl, Or.inl rfl, Or.inr (congrArg (fun z => some (zl z)) (show ((b.natAbs : Nat) : Int) = b by omega)), Or.inl rfl, Or.inr rfl, Or.inl rfl, Or.inl rfl, trivial⟩ (rfl) (rfl) ?_ ?_
  · intro q sq hq qq ihq
    obtain ⟨x, y⟩ := sq
    have qq : EuI a b q x y := qq
    have hlc := lcZ_cases (y : Int) 0
    have hx9 := qq.2.1
    have hy9 := qq.2.2.1
    refine rz_to (ls' := [some (zl a), none, some (zl b), none, some (zi p), some (zl (x : Int)), none, some (zl (y : Int)), none, some (zi (q : Int)), none, none]) (I' := I) (J' := J) ⟨Or.inr rfl, Or.inl rfl, Or.inr rfl, Or.inl rfl, Or.inr rfl, Or.inr rfl, Or.inl rfl, Or.inr rfl, Or.inl rfl, Or.inr rfl, Or.inl rfl, Or.inl rfl, trivial⟩ rfl rfl ?_
    refine rz_iload dX11_inLowest_12 rfl ?_
    refine rz_bipush dX11_inLowest_14 (by decide) ?_
    refine rz_icmp_ge (t := 47) dX11_inLowest_16 rfl (by omega) (by omega) (fun c16 => ?_) (fun c16 => ?_)
    · exfalso; omega
    · refine rz_lload dX11_inLowest_19 rfl ?_
      refine rz_lconst (x := 0) dX11_inLowest_21 rfl ?_
      refine rz_lcmp dX11_inLowest_22 (by omega) (by omega) ?_
      refine rz_if_eq (t := 47) dX11_inLowest_23 rfl (by omega) (fun c23 => ?_) (fun c23 => ?_)
      · have hz0 : y = 0 := by omega
        subst hz0
        obtain ⟨hg1, hg2⟩ := EuI_g hb.1 qq
        have hlx := lcZ_cases (x : Int) 0
        refine rz_lload dX11_inLowest_47 rfl ?_
        refine rz_lconst (x := 0) dX11_inLowest_49 rfl ?_
        refine rz_lcmp dX11_inLowest_50 (by omega) (by omega) ?_
        refine rz_if_ne (t := 58) dX11_inLowest_51 rfl (by omega) (fun c51 => ?_) (fun c51 => ?_)
        · refine rz_iload dX11_inLowest_58 rfl ?_
          refine rz_if_ne (t := 67) dX11_inLowest_60 rfl (by omega) (fun c60 => ?_) (fun c60 => ?_)
          · refine rz_lload_n dX11_inLowest_67 rfl ?_
            refine rz_lload dX11_inLowest_68 rfl ?_
            refine rz_ldiv dX11_inLowest_70 (by omega) (by omega) ?_
            refine rz_lret dX11_inLowest_71 rfl ?_
            exact ⟨_, rfl, by rw [lowQ, ← hg1]; first | rw [if_pos (by omega)] | rw [if_neg (by omega)], rfl, rfl⟩
          · refine rz_lload_n dX11_inLowest_63 rfl ?_
            refine rz_goto (t := 68) dX11_inLowest_64 rfl ?_
            refine rz_lload dX11_inLowest_68 rfl ?_
            refine rz_ldiv dX11_inLowest_70 (by omega) (by omega) ?_
            refine rz_lret dX11_inLowest_71 rfl ?_
            exact ⟨_, rfl, by rw [lowQ, ← hg1]; first | rw [if_pos (by omega)] | rw [if_neg (by omega)], rfl, rfl⟩
        · refine rz_iload dX11_inLowest_54 rfl ?_
          refine rz_i2l dX11_inLowest_56 (by omega) ?_
          refine rz_lret dX11_inLowest_57 rfl ?_
          exfalso; omega
      · have hy1 : y ≠ 0 := by omega
        refine rz_lload dX11_inLowest_26 rfl ?_
        refine rz_lload dX11_inLowest_28 rfl ?_
        refine rz_lrem dX11_inLowest_30 (by omega) (by omega) ?_
        refine rz_lstore dX11_inLowest_31 (by decide) rfl ?_
        refine rz_lload dX11_inLowest_33 rfl ?_
        refine rz_lstore dX11_inLowest_35 (by decide) rfl ?_
        refine rz_lload dX11_inLowest_37 rfl ?_
        refine rz_lstore (ls' := [some (zl a), none, some (zl b), none, some (zi p), some (zl (y : Int)), none, some (zl ((x : Int) % (y : Int))), none, some (zi (q : Int)), some (zl ((x : Int) % (y : Int))), none]) dX11_inLowest_39 (by decide) rfl ?_
        refine rz_iinc dX11_inLowest_41 (by decide) rfl rfl rfl ?_
        refine rz_goto (t := 12) dX11_inLowest_44 rfl ?_
        exact rz_bk (ihq ((y, x % y)) ((EuI_s qq (by omega)))) ⟨Or.inr rfl, Or.inl rfl, Or.inr rfl, Or.inl rfl, Or.inr rfl, Or.inr rfl, Or.inl rfl, Or.inr rfl, Or.inl rfl, Or.inr rfl, Or.inl rfl, Or.inl rfl, trivial⟩ (rfl) (rfl)
  · intro sq qq
    obtain ⟨x, y⟩ := sq
    have qq : EuI a b 100 x y := qq
    have hlc := lcZ_cases (y : Int) 0
    have hx9 := qq.2.1
    have hy9 := qq.2.2.1
    have hy0 := EuI_e qq
    refine rz_to (ls' := [some (zl a), none, some (zl b), none, some (zi p), some (zl (x : Int)), none, some (zl (y : Int)), none, some (zi 100), none, none]) (I' := I) (J' := J) ⟨Or.inr rfl, Or.inl rfl, Or.inr rfl, Or.inl rfl, Or.inr rfl, Or.inr rfl, Or.inl rfl, Or.inr rfl, Or.inl rfl, Or.inr rfl, Or.inl rfl, Or.inl rfl, trivial⟩ rfl rfl ?_
    refine rz_iload dX11_inLowest_12 rfl ?_
    refine rz_bipush dX11_inLowest_14 (by decide) ?_
    refine rz_icmp_ge (t := 47) dX11_inLowest_16 rfl (by omega) (by omega) (fun _ => ?_) (fun q => absurd q (by decide))
    have hz0 : y = 0 := by omega
    subst hz0
    obtain ⟨hg1, hg2⟩ := EuI_g hb.1 qq
    have hlx := lcZ_cases (x : Int) 0
    refine rz_lload dX11_inLowest_47 rfl ?_
    refine rz_lconst (x := 0) dX11_inLowest_49 rfl ?_
    refine rz_lcmp dX11_inLowest_50 (by omega) (by omega) ?_
    refine rz_if_ne (t := 58) dX11_inLowest_51 rfl (by omega) (fun c51 => ?_) (fun c51 => ?_)
    · refine rz_iload dX11_inLowest_58 rfl ?_
      refine rz_if_ne (t := 67) dX11_inLowest_60 rfl (by omega) (fun c60 => ?_) (fun c60 => ?_)
      · refine rz_lload_n dX11_inLowest_67 rfl ?_
        refine rz_lload dX11_inLowest_68 rfl ?_
        refine rz_ldiv dX11_inLowest_70 (by omega) (by omega) ?_
        refine rz_lret dX11_inLowest_71 rfl ?_
        exact ⟨_, rfl, by rw [lowQ, ← hg1]; first | rw [if_pos (by omega)] | rw [if_neg (by omega)], rfl, rfl⟩
      · refine rz_lload_n dX11_inLowest_63 rfl ?_
        refine rz_goto (t := 68) dX11_inLowest_64 rfl ?_
        refine rz_lload dX11_inLowest_68 rfl ?_
        refine rz_ldiv dX11_inLowest_70 (by omega) (by omega) ?_
        refine rz_lret dX11_inLowest_71 rfl ?_
        exact ⟨_, rfl, by rw [lowQ, ← hg1]; first | rw [if_pos (by omega)] | rw [if_neg (by omega)], rfl, rfl⟩
    · refine rz_iload dX11_inLowest_54 rfl ?_
      refine rz_i2l dX11_inLowest_56 (by omega) ?_
      refine rz_lret dX11_inLowest_57 rfl ?_
      exfalso; omega
set_option maxRecDepth 20000 in
set_option maxHeartbeats 400000 in
theorem c_X12_common {X : pX} {I J : IM} {h : Nat} (a b : Int) (ha : -1000000000 ≤ a ∧ a ≤ 1000000000) (hb : 0 < b ∧ b ≤ 1000000000) : KL X h mX12_common [zl a, zl b] I J ((Int.gcd a b : Nat) : Int) I J := by
  show Rz X h mX12_common 0 [some (zl a), none, some (zl b), none, none, none, none, none, none, none] [] I J _
  have hla := lcZ_cases a 0
  refine rz_lload_n dX12_common_0 rfl ?_
  refine rz_lconst (x := 0) dX12_common_1 rfl ?_
  refine rz_lcmp dX12_common_2 (by omega) (by omega) ?_
  refine rz_if_ge (t := 11) dX12_common_3 rfl (by omega) (fun c3 => ?_) (fun c3 => ?_)
  · refine rz_lload_n dX12_common_11 rfl ?_
    refine rz_lstore dX12_common_12 (by decide) rfl ?_
    refine rz_lload_n dX12_common_14 rfl ?_
    refine rz_lstore dX12_common_15 (by decide) rfl ?_
    refine rz_wh (σ := Nat × Nat) (Inv := fun sq => Nat.gcd sq.1 sq.2 = Int.gcd a b ∧ sq.1 ≤ 1000000000 ∧ sq.2 ≤ 1000000000) (ls := fun sq => [some (zl a), none, some (zl b), none, some (zl (sq.1 : Int)), none, some (zl (sq.2 : Int)), none, none, none]) (IV := fun sq => I) (JV := fun sq => J) (fun sq => sq.2) ((a.natAbs, b.natAbs)) ⟨rfl, by omega, by omega⟩ ⟨Or.inr rfl, Or.inl rfl, Or.inr rfl, Or.inl rfl, Or.inr (congrArg (fun z => some (zl z)) (show ((a.natAbs : Nat) : Int) = _ by omega)), Or.inl rfl, Or.inr (congrArg (fun z => some (zl z)) (show ((b.natAbs : Nat) : Int) = b by omega)), Or.inl rfl, Or.inl rfl, Or.inl rfl, trivial⟩ (rfl) (rfl) ?_
    · intro sq qq ihq
      obtain ⟨x, y⟩ := sq
      obtain ⟨h1, h2, h3⟩ : Nat.gcd x y = Int.gcd a b ∧ x ≤ 1000000000 ∧ y ≤ 1000000000 := qq
      have hlc := lcZ_cases (y : Int) 0
      refine rz_to (ls' := [some (zl a), none, some (zl b), none, some (zl (x : Int)), none, some (zl (y : Int)), none, none, none]) (I' := I) (J' := J) ⟨Or.inr rfl, Or.inl rfl, Or.inr rfl, Or.inl rfl, Or.inr rfl, Or.inl rfl, Or.inr rfl, Or.inl rfl, Or.inl rfl, Or.inl rfl, trivial⟩ rfl rfl ?_
      refine rz_lload dX12_common_17 rfl ?_
      refine rz_lconst (x := 0) dX12_common_19 rfl ?_
      refine rz_lcmp dX12_common_20 (by omega) (by omega) ?_
      refine rz_if_eq (t := 42) dX12_common_21 rfl (by omega) (fun c21 => ?_) (fun c21 => ?_)
      · refine rz_lload dX12_common_42 rfl ?_
        refine rz_lret dX12_common_44 rfl ?_
        obtain rfl : y = 0 := by omega
        rw [Nat.gcd_zero_right] at h1
        exact ⟨_, rfl, by rw [h1], rfl, rfl⟩
      · refine rz_lload dX12_common_24 rfl ?_
        refine rz_lload dX12_common_26 rfl ?_
        refine rz_lrem dX12_common_28 (by omega) (by omega) ?_
        refine rz_lstore dX12_common_29 (by decide) rfl ?_
        refine rz_lload dX12_common_31 rfl ?_
        refine rz_lstore dX12_common_33 (by decide) rfl ?_
        refine rz_lload dX12_common_35 rfl ?_
        refine rz_lstore (ls' := [some (zl a), none, some (zl b), none, some (zl (y : Int)), none, some (zl ((x : Int) % (y : Int))), none, some (zl ((x : Int) % (y : Int))), none]) dX12_common_37 (by decide) rfl ?_
        refine rz_goto (t := 17) dX12_common_39 rfl ?_
        exact rz_bk (ihq ((y, x % y)) (⟨by rw [← h1, Nat.gcd_comm x y, Nat.gcd_rec y x, Nat.gcd_comm], h3, by have := Nat.mod_lt x (show 0 < y by omega); omega⟩) (Nat.mod_lt x (show 0 < y by omega))) ⟨Or.inr rfl, Or.inl rfl, Or.inr rfl, Or.inl rfl, Or.inr rfl, Or.inl rfl, Or.inr rfl, Or.inl rfl, Or.inl rfl, Or.inl rfl, trivial⟩ (rfl) (rfl)
  · refine rz_lload_n dX12_common_6 rfl ?_
    refine rz_lneg dX12_common_7 ?_
    refine rz_goto (t := 12) dX12_common_8 rfl ?_
    refine rz_lstore dX12_common_12 (by decide) rfl ?_
    refine rz_lload_n dX12_common_14 rfl ?_
    refine rz_lstore dX12_common_15 (by decide) rfl ?_
    refine rz_wh (σ := Nat × Nat) (Inv := fun sq => Nat.gcd sq.1 sq.2 = Int.gcd a b ∧ sq.1 ≤ 1000000000 ∧ sq.2 ≤ 1000000000) (ls := fun sq => [some (zl a), none, some (zl b), none, some (zl (sq.1 : Int)), none, some (zl (sq.2 : Int)), none, none, none]) (IV := fun sq => I) (JV := fun sq => J) (fun sq => sq.2) ((a.natAbs, b.natAbs)) ⟨rfl, by omega, by omega⟩ ⟨Or.inr rfl, Or.inl rfl, Or.inr rfl, Or.inl rfl, Or.inr (congrArg (fun z => some (zl z)) (show ((a.natAbs : Nat) : Int) = _ by omega)), Or.inl rfl, Or.inr (congrArg (fun z => some (zl z)) (show ((b.natAbs : Nat) : Int) = b by omega)), Or.inl rfl, Or.inl rfl, Or.inl rfl, trivial⟩ (rfl) (rfl) ?_
    · intro sq qq ihq
      obtain ⟨x, y⟩ := sq
      obtain ⟨h1, h2, h3⟩ : Nat.gcd x y = Int.gcd a b ∧ x ≤ 1000000000 ∧ y ≤ 1000000000 := qq
      have hlc := lcZ_cases (y : Int) 0
      refine rz_to (ls' := [some (zl a), none, some (zl b), none, some (zl (x : Int)), none, some (zl (y : Int)), none, none, none]) (I' := I) (J' := J) ⟨Or.inr rfl, Or.inl rfl, Or.inr rfl, Or.inl rfl, Or.inr rfl, Or.inl rfl, Or.inr rfl, Or.inl rfl, Or.inl rfl, Or.inl rfl, trivial⟩ rfl rfl ?_
      refine rz_lload dX12_common_17 rfl ?_
      refine rz_lconst (x := 0) dX12_common_19 rfl ?_
      refine rz_lcmp dX12_common_20 (by omega) (by omega) ?_
      refine rz_if_eq (t := 42) dX12_common_21 rfl (by omega) (fun c21 => ?_) (fun c21 => ?_)
      · refine rz_lload dX12_common_42 rfl ?_
        refine rz_lret dX12_common_44 rfl ?_
        obtain rfl : y = 0 := by omega
        rw [Nat.gcd_zero_right] at h1
        exact ⟨_, rfl, by rw [h1], rfl, rfl⟩
      · refine rz_lload dX12_common_24 rfl ?_
        refine rz_lload dX12_common_26 rfl ?_
        refine rz_lrem dX12_common_28 (by omega) (by omega) ?_
        refine rz_lstore dX12_common_29 (by decide) rfl ?_
        refine rz_lload dX12_common_31 rfl ?_
        refine rz_lstore dX12_common_33 (by decide) rfl ?_
        refine rz_lload dX12_common_35 rfl ?_
        refine rz_lstore (ls' := [some (zl a), none, some (zl b), none, some (zl (y : Int)), none, some (zl ((x : Int) % (y : Int))), none, some (zl ((x : Int) % (y : Int))), none]) dX12_common_37 (by decide) rfl ?_
        refine rz_goto (t := 17) dX12_common_39 rfl ?_
        exact rz_bk (ihq ((y, x % y)) (⟨by rw [← h1, Nat.gcd_comm x y, Nat.gcd_rec y x, Nat.gcd_comm], h3, by have := Nat.mod_lt x (show 0 < y by omega); omega⟩) (Nat.mod_lt x (show 0 < y by omega))) ⟨Or.inr rfl, Or.inl rfl, Or.inr rfl, Or.inl rfl, Or.inr rfl, Or.inl rfl, Or.inr rfl, Or.inl rfl, Or.inl rfl, Or.inl rfl, trivial⟩ (rfl) (rfl)
set_option maxRecDepth 20000 in
set_option maxHeartbeats 400000 in
theorem c_X12_part {X : pX} {I J : IM} {h : Nat} (a b p : Int) (ha : -1000000000 ≤ a ∧ a ≤ 1000000000) (hb : 0 < b ∧ b ≤ 1000000000) (hp : p = 0 ∨ p = 1) : KL X (h + 1) mX12_part [zl a, zl b, zi p] I J (lowQ a b p) I J := by
  show Rz X (h + 1) mX12_part 0 [some (zl a), none, some (zl b), none, some (zi p), none, none] [] I J _
  have hgp : 0 < Int.gcd a b := Nat.gcd_pos_of_pos_right _ (by omega)
  have hgl : Int.gcd a b ≤ 1000000000 := Nat.le_trans (Nat.gcd_le_right _ (by omega)) (by omega)
  refine rz_lload_n dX12_part_0 rfl ?_
  refine rz_lload_n dX12_part_1 rfl ?_
  refine rz_cSL dX12_part_2 kl_RX12_303 (c_X12_common a b ha hb) rfl rfl (Nat.le_of_ble_eq_true rfl) (Nat.le_of_ble_eq_true rfl) ?_
  refine rz_lstore dX12_part_5 (by decide) rfl ?_
  refine rz_iload dX12_part_7 rfl ?_
  refine rz_if_ne (t := 19) dX12_part_9 rfl (by omega) (fun c9 => ?_) (fun c9 => ?_)
  · refine rz_lload_n dX12_part_19 rfl ?_
    refine rz_lload dX12_part_20 rfl ?_
    refine rz_ldiv dX12_part_22 (by omega) (by omega) ?_
    refine rz_lret dX12_part_23 rfl ?_
    exact ⟨_, rfl, by rw [lowQ]; first | rw [if_pos (by assumption)] | rw [if_neg (by assumption)], rfl, rfl⟩
  · refine rz_lload_n dX12_part_12 rfl ?_
    refine rz_lload dX12_part_13 rfl ?_
    refine rz_ldiv dX12_part_15 (by omega) (by omega) ?_
    refine rz_goto (t := 23) dX12_part_16 rfl ?_
    refine rz_lret dX12_part_23 rfl ?_
    exact ⟨_, rfl, by rw [lowQ]; first | rw [if_pos (by assumption)] | rw [if_neg (by assumption)], rfl, rfl⟩
