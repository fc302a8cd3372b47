/-! years: what each sends -/
def mB (m0 m1 : Mx) (b : Nat) : Mx := if b = 0 then m0 else m1
def yrN (lw : Lw) (W T U Q : Nat → Int) (n : Nat) (m0 m1 : Mx) : Nat → (Nat → Nat → Nat → Int) × (Nat → Nat → Nat)
  | 0 => (fun _ _ _ => 0, fun b v => loS (mB m0 m1 b) 0 v)
  | y + 1 => (fun b v x => (yrN lw W T U Q n m0 m1 y).1 b v x + gnV lw W T U b v x ((yrN lw W T U Q n m0 m1 y).2 (1 - b) v), fun b v => (chsR (fun v x => (yrN lw W T U Q n m0 m1 y).1 b v x + gnV lw W T U b v x ((yrN lw W T U Q n m0 m1 y).2 (1 - b) v)) n 0 (Q b).toNat).getD v 0)
def yG (lw : Lw) (W T U Q : Nat → Int) (n : Nat) (m0 m1 : Mx) (y b v x : Nat) : Int := (yrN lw W T U Q n m0 m1 y).1 b v x
def yS (lw : Lw) (W T U Q : Nat → Int) (n : Nat) (m0 m1 : Mx) (y b v : Nat) : Nat := (yrN lw W T U Q n m0 m1 y).2 b v
section YR
variable {lw : Lw} {W T U Q : Nat → Int} {n : Nat} {m0 m1 : Mx}
theorem yG_0 {b v x : Nat} : yG lw W T U Q n m0 m1 0 b v x = 0 := rfl
theorem yS_0 {b v : Nat} : yS lw W T U Q n m0 m1 0 b v = loS (mB m0 m1 b) 0 v := rfl
theorem yG_s {y b v x : Nat} : yG lw W T U Q n m0 m1 (y + 1) b v x = yG lw W T U Q n m0 m1 y b v x + gnV lw W T U b v x (yS lw W T U Q n m0 m1 y (1 - b) v) := rfl
theorem yS_s {y b v : Nat} : yS lw W T U Q n m0 m1 (y + 1) b v = (chsR (fun v x => yG lw W T U Q n m0 m1 (y + 1) b v x) n 0 (Q b).toNat).getD v 0 := rfl
theorem yG_rg (hW : ∀ v, v < n → 0 ≤ W v ∧ W v ≤ 9) : ∀ y b v x : Nat, v < n → -9 * (y : Int) ≤ yG lw W T U Q n m0 m1 y b v x ∧ yG lw W T U Q n m0 m1 y b v x ≤ 9 * (y : Int)
  | 0, b, v, x, hv => by rw [yG_0]; omega
  | y + 1, b, v, x, hv => by
    have h1 := yG_rg hW y b v x hv
    have h2 := gn_rg (lw := lw) (T := T) (U := U) (b := b) (x := x) (o := yS lw W T U Q n m0 m1 y (1 - b) v) (hW v hv)
    rw [yG_s]
    omega
theorem yG_sum {b v x : Nat} : ∀ y : Nat, yG lw W T U Q n m0 m1 y b v x = sumP (fun k => gnV lw W T U b v x (yS lw W T U Q n m0 m1 k (1 - b) v)) y
  | 0 => rfl
  | y + 1 => by rw [yG_s, yG_sum y]; rfl
theorem chs_le {g : Nat → Nat → Int} {N : Nat} (hn : n ≤ 5) (hN : N ≤ 9) (hg : ∀ v x, v < n → x ≤ 9 → -100000 ≤ g v x) (v : Nat) : (chsR g n 0 N).getD v 0 ≤ 9 := by
  have h := (bestL_mem (best_rows hg n 0 N hn (by omega) hN).2).1
  exact getD_le (rowsL_ok (n := n) (left := N) (all := false) hN _ h).2 v
theorem yS_le (hn : n ≤ 5) (hQ : ∀ b, b < 2 → 0 ≤ Q b ∧ Q b ≤ 9) (h0 : MxOK m0) (h1 : MxOK m1) (hW : ∀ v, v < n → 0 ≤ W v ∧ W v ≤ 9) {y b v : Nat} (hy : y ≤ 1000) (hb : b < 2) (hv : v < 5) : yS lw W T U Q n m0 m1 y b v ≤ 9 := by
  cases y with
  | zero =>
    rw [yS_0]
    have hm : MxOK (mB m0 m1 b) := by unfold mB; split <;> assumption
    exact loS_rg hm (by have := lnN_le hm.1; omega) hv
  | succ y =>
    rw [yS_s]
    have hq := hQ b hb
    exact chs_le hn (by omega) (fun v x hv _ => by have := yG_rg (lw := lw) (T := T) (U := U) (Q := Q) (m0 := m0) (m1 := m1) hW (y + 1) b v x hv; omega) v
def ysc (lw : Lw) (W T U Q : Nat → Int) (n : Nat) (m0 m1 : Mx) (k : Nat) : Int := sumP (fun v => ptsV lw W T U v (yS lw W T U Q n m0 m1 k 0 v) (yS lw W T U Q n m0 m1 k 1 v)) n
def yeaZ (lw : Lw) (W T U Q : Nat → Int) (n : Nat) (m0 m1 : Mx) (b y : Int) : Int := if (b = 0 ∨ b = 1) ∧ 0 ≤ y ∧ y ≤ 30 then numP (fun v => ((yS lw W T U Q n m0 m1 y.toNat b.toNat v : Nat) : Int)) n else -1
def yesZ (lw : Lw) (W T U Q : Nat → Int) (n : Nat) (m0 m1 : Mx) (y : Int) : Int := if 0 ≤ y ∧ y ≤ 30 then sumP (ysc lw W T U Q n m0 m1) (y.toNat + 1) else -2000000000
end YR
theorem up_sw4 {I : IM} {a c : Nat} (h : a ≠ c) {f g f2 g2 : Nat → Int} : upA (upA I a f2) c g2 = upA (upA (upA (upA I a f) c g) a f2) c g2 := by
  funext b
  by_cases h1 : b = c
  · subst h1; simp [upA]
  · by_cases h2 : b = a
    · subst h2; simp [upA, h]
    · simp [upA, h1, h2]
theorem up_id2 {I : IM} {a c : Nat} : upA (upA I a (I a)) c (I c) = I := by rw [upA_id, upA_id]
def LnI (lw : Lw) (W T U : Nat → Int) (G H : Nat → Int) (a b : Nat → Nat) (p : Nat) (s : (Nat → Int) × (Nat → Int)) : Prop := (∀ j, j < p → s.1 j = G j + gnV lw W T U 0 (j / 10) (j % 10) (b (j / 10)) ∧ s.2 j = H j + gnV lw W T U 1 (j / 10) (j % 10) (a (j / 10))) ∧ ∀ j, p ≤ j → s.1 j = G j ∧ s.2 j = H j
theorem LnI_0 {lw : Lw} {W T U G H : Nat → Int} {a b : Nat → Nat} : LnI lw W T U G H a b (10 * 0) (G, H) := ⟨fun j hj => absurd hj (by omega), fun j _ => ⟨rfl, rfl⟩⟩
theorem LnI_s {lw : Lw} {W T U G H : Nat → Int} {a b : Nat → Nat} {v x : Nat} {s : (Nat → Int) × (Nat → Int)} {z y : Int} (hx : x ≤ 9) (h : LnI lw W T U G H a b (10 * v + x) s) (hz : z = s.1 (10 * v + x) + ptsV lw W T U v x (b v)) (hy : y = s.2 (10 * v + x) - ptsV lw W T U v (a v) x) : LnI lw W T U G H a b (10 * v + (x + 1)) (up1 s.1 (10 * v + x) z, up1 s.2 (10 * v + x) y) := by
  obtain ⟨h1, h2⟩ := h
  obtain ⟨e1, e2⟩ := h2 (10 * v + x) (Nat.le_refl _)
  refine ⟨fun j hj => ?_, fun j hj => ?_⟩
  · by_cases e : j = 10 * v + x
    · subst e
      refine ⟨?_, ?_⟩
      · show up1 s.1 _ z _ = _
        rw [up1_self, hz, e1, show (10 * v + x) / 10 = v by omega, show (10 * v + x) % 10 = x by omega]; rfl
      · show up1 s.2 _ y _ = _
        rw [up1_self, hy, e2, show (10 * v + x) / 10 = v by omega, show (10 * v + x) % 10 = x by omega]; rfl
    · refine ⟨(up1_ne e).trans (h1 j (by omega)).1, (up1_ne e).trans (h1 j (by omega)).2⟩
  · exact ⟨(up1_ne (by omega)).trans (h2 j (by omega)).1, (up1_ne (by omega)).trans (h2 j (by omega)).2⟩
theorem LnI_at {lw : Lw} {W T U G H : Nat → Int} {a b : Nat → Nat} {n v x : Nat} {s : (Nat → Int) × (Nat → Int)} (h : LnI lw W T U G H a b (10 * n) s) (hv : v < n) (hx : x ≤ 9) : s.1 (10 * v + x) = G (10 * v + x) + gnV lw W T U 0 v x (b v) ∧ s.2 (10 * v + x) = H (10 * v + x) + gnV lw W T U 1 v x (a v) := by
  have q := h.1 (10 * v + x) (by omega)
  rw [show (10 * v + x) / 10 = v by omega, show (10 * v + x) % 10 = x by omega] at q
  exact q
def YuF (B A : IM) : Prop := ∀ a, a ≠ 50 → a ≠ 51 → a ≠ 53 → a ≠ 54 → a ≠ 56 → a ≠ 57 → A a = B a
theorem QC_yu {I A B : IM} {lw : Lw} {n : Nat} (h : YuF A B) (hq : QC I lw n A) : QC I lw n B := by
  refine ⟨⟨fun a ha => ?_, fun k hk => ?_⟩, ?_⟩
  · rw [h a (fun e => ha (by subst e; decide)) (fun e => ha (by subst e; decide)) (fun e => ha (by subst e; decide)) (fun e => ha (by subst e; decide)) (fun e => ha (by subst e; decide)) (fun e => ha (by subst e; decide))]; exact hq.1.1 a ha
  · rw [h 1 (by decide) (by decide) (by decide) (by decide) (by decide) (by decide)]; exact hq.1.2 k hk
  · exact CchI_of (h 7 (by decide) (by decide) (by decide) (by decide) (by decide) (by decide)) (h 8 (by decide) (by decide) (by decide) (by decide) (by decide) (by decide)) (h 9 (by decide) (by decide) (by decide) (by decide) (by decide) (by decide)) (h 11 (by decide) (by decide) (by decide) (by decide) (by decide) (by decide)) (h 12 (by decide) (by decide) (by decide) (by decide) (by decide) (by decide)) hq.2
def YcI (A : IM) (lw : Lw) (W T U Q : Nat → Int) (n : Nat) (m0 m1 : Mx) (k : Nat) : Prop := (∀ v x : Nat, v < n → x ≤ 9 → A 50 (10 * v + x) = yG lw W T U Q n m0 m1 k 0 v x ∧ A 53 (10 * v + x) = yG lw W T U Q n m0 m1 k 1 v x) ∧ ∀ v : Nat, v < n → A 56 v = ((yS lw W T U Q n m0 m1 k 0 v : Nat) : Int) ∧ A 57 v = ((yS lw W T U Q n m0 m1 k 1 v : Nat) : Int)
theorem YcI_s {A : IM} {lw : Lw} {W T U Q : Nat → Int} {n : Nat} {m0 m1 : Mx} {k : Nat} {G H W0 W1 M0 M1 : Nat → Int} {N0 N1 : Nat} (hn : n ≤ 5) (hN0 : N0 = (Q 0).toNat ∧ N0 ≤ 9) (hN1 : N1 = (Q 1).toNat ∧ N1 ≤ 9) (h : YcI A lw W T U Q n m0 m1 k) (hG : ∀ v x : Nat, v < n → x ≤ 9 → G (10 * v + x) = A 50 (10 * v + x) + gnV lw W T U 0 v x (yS lw W T U Q n m0 m1 k 1 v) ∧ H (10 * v + x) = A 53 (10 * v + x) + gnV lw W T U 1 v x (yS lw W T U Q n m0 m1 k 0 v)) (h0 : ∀ j, j < n → W0 j = (((chsR (fun v x => G (10 * v + x)) n 0 N0).getD j 0 : Nat) : Int)) (h1 : ∀ j, j < n → W1 j = (((chsR (fun v x => H (10 * v + x)) n 0 N1).getD j 0 : Nat) : Int)) : YcI (upA (upA (upA (upA (upA (upA A 50 G) 53 H) 51 M0) 56 W0) 54 M1) 57 W1) lw W T U Q n m0 m1 (k + 1) := by
  have hg : ∀ v x : Nat, v < n → x ≤ 9 → G (10 * v + x) = yG lw W T U Q n m0 m1 (k + 1) 0 v x ∧ H (10 * v + x) = yG lw W T U Q n m0 m1 (k + 1) 1 v x := fun v x hv hx => by
    have q := hG v x hv hx
    have q2 := h.1 v x hv hx
    rw [q.1, q.2, q2.1, q2.2]
    exact ⟨rfl, rfl⟩
  refine ⟨fun v x hv hx => hg v x hv hx, fun v hv => ⟨?_, ?_⟩⟩
  · show W0 v = _
    rw [h0 v hv, yS_s, hN0.1, chsR_congr (n := n) (fun v x hv hx => (hg v x hv hx).1) n 0 (Q 0).toNat (by omega) (by omega)]
  · show W1 v = _
    rw [h1 v hv, yS_s, hN1.1, chsR_congr (n := n) (fun v x hv hx => (hg v x hv hx).2) n 0 (Q 1).toNat (by omega) (by omega)]
/-- the reference's rows -/
def RsI (A : IM) (lw : Lw) (W T U Q : Nat → Int) (n : Nat) (m0 m1 : Mx) (y : Nat) : Prop := ∀ k, k ≤ y → ∀ v, v < n → A 112 (5 * (31 * 0 + k) + v) = ((yS lw W T U Q n m0 m1 k 0 v : Nat) : Int) ∧ A 112 (5 * (31 * 1 + k) + v) = ((yS lw W T U Q n m0 m1 k 1 v : Nat) : Int)
def yF (lw : Lw) (W T U : Nat → Int) (b : Nat) (s : Nat → Nat) (j : Nat) : Int := gnV lw W T U b (j / 10) (j % 10) (s (j / 10))
theorem yF_at {lw : Lw} {W T U : Nat → Int} {b v x : Nat} {s : Nat → Nat} (hx : x < 10) : 1 * gnV lw W T U b v x (s v) = yF lw W T U b s (10 * v + x) := by
  unfold yF
  rw [Int.one_mul, show (10 * v + x) / 10 = v by omega, show (10 * v + x) % 10 = x by omega]
theorem yF_sum {I : IM} {lw : Lw} {W T U Q W2 T2 U2 : Nat → Int} {n b v x y : Nat} {m0 m1 : Mx} (hW : W2 = W) (hT : T2 = T) (hU : U2 = U) (hv : v < n) (hx : x ≤ 9) : acM (fillM I 106 50 0) 106 n y (fun k j => yF lw W2 T2 U2 b (yS lw W T U Q n m0 m1 k (1 - b)) j) 106 (10 * v + x) = yG lw W T U Q n m0 m1 y b v x := by
  subst hW hT hU
  show upA _ 106 _ 106 _ = _
  rw [upA_self, if_pos (by omega), yG_sum]
  exact sumP_congr (fun k _ => by show gnV lw W2 T2 U2 b ((10 * v + x) / 10) ((10 * v + x) % 10) (yS lw W2 T2 U2 Q n m0 m1 k (1 - b) ((10 * v + x) / 10)) = _; rw [show (10 * v + x) / 10 = v by omega, show (10 * v + x) % 10 = x by omega])
def GyF (B A : IM) : Prop := (∀ a, a ≠ 81 → a ≠ 104 → a ≠ 105 → a ≠ 106 → a ≠ 112 → A a = B a) ∧ (∀ k, k ≠ 33 → k ≠ 36 → k ≠ 37 → A 81 k = B 81 k) ∧ (BOK B → BOK A)
theorem GyF_refl {B : IM} : GyF B B := ⟨fun _ _ _ _ _ _ => rfl, fun _ _ _ _ => rfl, fun h => h⟩
theorem GyF.trans {A B C : IM} (h : GyF A B) (h2 : GyF B C) : GyF A C := ⟨fun a h3 h4 h5 h6 h7 => (h2.1 a h3 h4 h5 h6 h7).trans (h.1 a h3 h4 h5 h6 h7), fun k h3 h4 h5 => (h2.2.1 k h3 h4 h5).trans (h.2.1 k h3 h4 h5), fun q => h2.2.2 (h.2.2 q)⟩
theorem GyF_Fr {B A : IM} (h : GyF B A) : FrR B A := ⟨fun a ha => h.1 a (fun e => ha (by subst e; decide)) (fun e => ha (by subst e; decide)) (fun e => ha (by subst e; decide)) (fun e => ha (by subst e; decide)) (fun e => ha (by subst e; decide)), fun k hk => h.2.1 k (fun e => hk (by subst e; decide)) (fun e => hk (by subst e; decide)) (fun e => hk (by subst e; decide)), h.2.2⟩
theorem GyF_112 {B : IM} {s p : Nat} {g : Nat → Int} : GyF B (copF B 112 s p g) := ⟨fun a _ _ _ _ h => by unfold copF upA; rw [if_neg h], fun k _ _ _ => rfl, fun q => q⟩
theorem GyF_big {B : IM} {n q k : Nat} {F : Nat → Nat → Int} {R X2 : Nat → Int} {j g : Int} (hR : ∀ j, R j = B 104 j ∨ (0 ≤ R j ∧ R j ≤ 9)) : GyF B (fbM (layM (acM (fillM B 106 50 0) 106 n q F) k R X2) j g) := by
  refine ⟨fun a h1 h2 h3 h4 h5 => ?_, fun k2 h1 h2 h3 => ?_, fun q => ?_⟩
  · simp [fbM, layM, acM, fillM, upA, h1, h2, h3, h4]
  · simp [fbM, layM, acM, fillM, upA, up1, h1, h2, h3]
  · intro x
    show -128 ≤ R x ∧ R x ≤ 127
    rcases hR x with e | e
    · rw [e]; exact q x
    · omega
theorem copF_out {I : IM} {a s p k : Nat} {g : Nat → Int} (h : k < s ∨ s + p ≤ k) : copF I a s p g a k = I a k := by
  unfold copF
  rw [upA_self, if_neg (by omega)]
theorem copF_at {I : IM} {a s p v : Nat} {g : Nat → Int} (h : v < p) : copF I a s p g a (s + v) = g v := by
  unfold copF
  rw [upA_self, if_pos (by omega), Nat.add_sub_cancel_left]
