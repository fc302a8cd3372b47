/-! what holds between the class and the reference -/
def Town (I : IM) (n : Nat) : Prop := (I 6 0 = n ∧ n ≤ 5) ∧ I 81 1 = n ∧ I 82 = I 7 ∧ I 83 = I 8 ∧ I 84 = I 9 ∧ I 85 = I 10 ∧ (∀ v : Nat, v < n → 1 ≤ I 7 v ∧ I 7 v ≤ 9) ∧ (∀ v : Nat, v < 5 → (0 ≤ I 7 v ∧ I 7 v ≤ 9) ∧ (0 ≤ I 8 v ∧ I 8 v ≤ 9) ∧ (0 ≤ I 9 v ∧ I 9 v ≤ 2)) ∧ ∀ b : Nat, b < 2 → 0 ≤ I 10 b ∧ I 10 b ≤ 9
def Chg (I : IM) (n : Nat) : Prop := (0 ≤ I 58 1 ∧ I 58 1 ≤ I 58 0 ∧ I 58 0 ≤ 40) ∧ I 81 9 = I 58 1 ∧ I 81 10 = I 58 0 - I 58 1 ∧ I 90 = I 59 ∧ I 89 = I 60 ∧ I 91 = I 61 ∧ I 92 = I 62 ∧ ∀ k : Nat, (k : Int) < I 58 0 → mayR n (I 59 k) (I 60 k) (I 61 k) ∧ mayR n (I 59 k) (I 60 k) (I 62 k)
def Mixs (I : IM) (m0 m1 : Mx) : Prop := MixC I 14 m0 ∧ MixC I 17 m1 ∧ MixR I 0 m0 ∧ MixR I 1 m1 ∧ B88 I
def MixK (I : IM) (b : Nat) (m : Mx) : Prop := (I 113 b = (m.1 : Int) ∧ m.1 ≤ 8) ∧ ∀ i, i < m.1 → (I 114 (8 * b + i) = m.2.1 i ∧ 1 ≤ m.2.1 i ∧ m.2.1 i ≤ 9) ∧ ∀ v, v < 5 → I 115 (5 * (8 * b + i) + v) = ((m.2.2 i v : Nat) : Int) ∧ m.2.2 i v ≤ 9
def Imgs (I : IM) (i0 i1 : Mx) : Prop := (I 0 4 = 0 ∨ I 0 4 = 1) ∧ I 81 47 = I 0 4 ∧ MixC I 21 i0 ∧ MixC I 24 i1 ∧ MixK I 0 i0 ∧ MixK I 1 i1 ∧ ∀ k : Nat, -128 ≤ I 115 k ∧ I 115 k ≤ 127
def Acts (I : IM) : Prop := (0 ≤ I 63 0 ∧ I 63 0 ≤ 50) ∧ I 81 51 = I 63 0 ∧ (0 ≤ I 63 1 ∧ I 63 1 ≤ 24) ∧ I 81 53 = I 63 1 ∧ I 117 = I 64 ∧ I 116 = I 65 ∧ ∀ j : Nat, (j : Int) < I 63 0 → 0 ≤ I 65 j ∧ I 65 j ≤ 7
def Shls (I J : IM) : Prop := ∀ k : Nat, k < 6 → (((0 ≤ I (67 + 2 * k) 0 ∧ I (67 + 2 * k) 0 ≤ 2) ∧ 0 ≤ I (67 + 2 * k) 3 ∧ I (67 + 2 * k) 3 ≤ 60) ∧ 0 ≤ I (67 + 2 * k) 2 ∧ I (67 + 2 * k) 2 ≤ 4) ∧ I 119 k = I (67 + 2 * k) 3 ∧ I 118 k = (if I (67 + 2 * k) 0 = 0 then -1 else if I (67 + 2 * k) 0 = 1 then I (67 + 2 * k) 1 else -2 - I (67 + 2 * k) 2) ∧ (I (67 + 2 * k) 0 = 1 → 0 ≤ I (67 + 2 * k) 1 ∧ I (67 + 2 * k) 1 < I 63 0) ∧ (∀ j, j < 60 → J 120 (60 * k + j) = J (68 + 2 * k) j) ∧ (I (67 + 2 * k) 0 = 2 → I (67 + 2 * k) 2 = 2 → ∀ j, j < 60 → rg (J (68 + 2 * k) j))
def Tape (I : IM) : Prop := (0 ≤ I 1 0 ∧ I 1 0 ≤ 120) ∧ I 81 17 = I 1 0 ∧ (∀ k : Nat, 0 ≤ I 2 k ∧ I 2 k ≤ 255) ∧ ∀ k : Nat, (k : Int) < I 1 0 → I 94 k = sg (I 2 k)
section CG
variable {I A : IM}
theorem Town_of {n : Nat} (e1 : A 6 0 = I 6 0) (e2 : A 7 = I 7) (e3 : A 8 = I 8) (e4 : A 9 = I 9) (e5 : A 10 = I 10) (e6 : A 81 1 = I 81 1) (e7 : A 82 = I 82) (e8 : A 83 = I 83) (e9 : A 84 = I 84) (e10 : A 85 = I 85) (h : Town I n) : Town A n := by
  unfold Town; rw [e1, e2, e3, e4, e5, e6, e7, e8, e9, e10]; exact h
theorem Chg_of {n : Nat} (e1 : A 58 = I 58) (e2 : A 59 = I 59) (e3 : A 60 = I 60) (e4 : A 61 = I 61) (e5 : A 62 = I 62) (e6 : A 81 9 = I 81 9) (e7 : A 81 10 = I 81 10) (e8 : A 89 = I 89) (e9 : A 90 = I 90) (e10 : A 91 = I 91) (e11 : A 92 = I 92) (h : Chg I n) : Chg A n := by
  unfold Chg; rw [e1, e2, e3, e4, e5, e6, e7, e8, e9, e10, e11]; exact h
theorem MixK_of {b : Nat} {m : Mx} (h0 : A 113 = I 113) (h1 : A 114 = I 114) (h2 : A 115 = I 115) (h : MixK I b m) : MixK A b m := by
  unfold MixK; rw [h0, h1, h2]; exact h
theorem Mixs_of {m0 m1 : Mx} (e1 : A 14 = I 14) (e2 : A 15 = I 15) (e3 : A 16 = I 16) (e4 : A 17 = I 17) (e5 : A 18 = I 18) (e6 : A 19 = I 19) (e7 : A 86 = I 86) (e8 : A 87 = I 87) (e9 : A 88 = I 88) (h : Mixs I m0 m1) : Mixs A m0 m1 :=
  ⟨MixC_of e1 e2 e3 h.1, MixC_of e4 e5 e6 h.2.1, MixR_of e7 e8 e9 h.2.2.1, MixR_of e7 e8 e9 h.2.2.2.1, fun k => by rw [e9]; exact h.2.2.2.2 k⟩
theorem Imgs_of {i0 i1 : Mx} (e1 : A 0 4 = I 0 4) (e2 : A 81 47 = I 81 47) (e3 : A 21 = I 21) (e4 : A 22 = I 22) (e5 : A 23 = I 23) (e6 : A 24 = I 24) (e7 : A 25 = I 25) (e8 : A 26 = I 26) (e9 : A 113 = I 113) (e10 : A 114 = I 114) (e11 : A 115 = I 115) (h : Imgs I i0 i1) : Imgs A i0 i1 :=
  ⟨by rw [e1]; exact h.1, by rw [e1, e2]; exact h.2.1, MixC_of e3 e4 e5 h.2.2.1, MixC_of e6 e7 e8 h.2.2.2.1, MixK_of e9 e10 e11 h.2.2.2.2.1, MixK_of e9 e10 e11 h.2.2.2.2.2.1, fun k => by rw [e11]; exact h.2.2.2.2.2.2 k⟩
theorem Acts_of (e1 : A 63 0 = I 63 0) (e2 : A 63 1 = I 63 1) (e3 : A 64 = I 64) (e4 : A 65 = I 65) (e5 : A 81 51 = I 81 51) (e6 : A 81 53 = I 81 53) (e7 : A 116 = I 116) (e8 : A 117 = I 117) (h : Acts I) : Acts A := by
  unfold Acts; rw [e1, e2, e3, e4, e5, e6, e7, e8]; exact h
theorem Shls_of {J B : IM} (e1 : ∀ k, k < 6 → A (67 + 2 * k) = I (67 + 2 * k)) (e2 : A 118 = I 118) (e3 : A 119 = I 119) (e4 : A 63 0 = I 63 0) (e5 : ∀ k, k < 6 → B (68 + 2 * k) = J (68 + 2 * k)) (e6 : B 120 = J 120) (h : Shls I J) : Shls A B := fun k hk => by
  rw [e1 k hk, e2, e3, e4, e5 k hk, e6]; exact h k hk
theorem Tape_of (e1 : A 1 0 = I 1 0) (e2 : A 2 = I 2) (e3 : A 81 17 = I 81 17) (e4 : A 94 = I 94) (h : Tape I) : Tape A := by
  unfold Tape; rw [e1, e2, e3, e4]; exact h
end CG
def Iv (I J : IM) (lw : Lw) (n : Nat) (m0 m1 i0 i1 : Mx) : Prop := Town I n ∧ Chg I n ∧ Mixs I m0 m1 ∧ Imgs I i0 i1 ∧ Acts I ∧ Shls I J ∧ Tape I ∧ LawI I lw ∧ CchI I lw n ∧ BOK I
def Inv (I J : IM) : Prop := ∃ lw n m0 m1 i0 i1, Iv I J lw n m0 m1 i0 i1
theorem Iv.cq {I J : IM} {lw : Lw} {n : Nat} {m0 m1 i0 i1 : Mx} (h : Iv I J lw n m0 m1 i0 i1) : CqI I lw n m0 m1 := by
  obtain ⟨⟨t1, t2, t3, t4, t5, t6, t7, t8, t9⟩, -, ⟨x1, x2, x3, x4, x5⟩, -, -, -, -, hl, hc, -⟩ := h
  exact ⟨hl, t1, fun v hv => by have := t8 v (by omega); omega, hc, x1, x2, t9⟩
theorem Iv.rq {I J : IM} {lw : Lw} {n : Nat} {m0 m1 i0 i1 : Mx} (h : Iv I J lw n m0 m1 i0 i1) : RqI I lw n m0 m1 := by
  obtain ⟨⟨t1, t2, t3, t4, t5, t6, t7, t8, t9⟩, -, ⟨x1, x2, x3, x4, x5⟩, -, -, -, -, hl, hc, -⟩ := h
  exact ⟨hl, ⟨t2, t1.2⟩, fun v hv => by rw [t3, t4, t5]; have := t8 v (by omega); omega, x3, x4, fun b hb => by rw [t6]; exact t9 b hb⟩
/-- cells that only this or that question writes -/
theorem Iv_q {I J A B : IM} {lw : Lw} {n : Nat} {m0 m1 i0 i1 : Mx} (h : Iv I J lw n m0 m1 i0 i1) (hq : QC I lw n A) (hB : ∀ a, a ≠ 44 → a ≠ 45 → B a = J a) : Iv A B lw n m0 m1 i0 i1 := by
  obtain ⟨ht, hg, hm, hi, ha, hs, hp, hl, hc, hb⟩ := h
  obtain ⟨⟨q1, q2⟩, q3⟩ := hq
  have e : ∀ a, ¬ scCC a → A a = I a := q1
  refine ⟨Town_of (by rw [e 6 (by decide)]) (e 7 (by decide)) (e 8 (by decide)) (e 9 (by decide)) (e 10 (by decide)) (by rw [e 81 (by decide)]) (e 82 (by decide)) (e 83 (by decide)) (e 84 (by decide)) (e 85 (by decide)) ht,
    Chg_of (e 58 (by decide)) (e 59 (by decide)) (e 60 (by decide)) (e 61 (by decide)) (e 62 (by decide)) (by rw [e 81 (by decide)]) (by rw [e 81 (by decide)]) (e 89 (by decide)) (e 90 (by decide)) (e 91 (by decide)) (e 92 (by decide)) hg,
    Mixs_of (e 14 (by decide)) (e 15 (by decide)) (e 16 (by decide)) (e 17 (by decide)) (e 18 (by decide)) (e 19 (by decide)) (e 86 (by decide)) (e 87 (by decide)) (e 88 (by decide)) hm,
    Imgs_of (by rw [e 0 (by decide)]) (by rw [e 81 (by decide)]) (e 21 (by decide)) (e 22 (by decide)) (e 23 (by decide)) (e 24 (by decide)) (e 25 (by decide)) (e 26 (by decide)) (e 113 (by decide)) (e 114 (by decide)) (e 115 (by decide)) hi,
    Acts_of (by rw [e 63 (by decide)]) (by rw [e 63 (by decide)]) (e 64 (by decide)) (e 65 (by decide)) (by rw [e 81 (by decide)]) (by rw [e 81 (by decide)]) (e 116 (by decide)) (e 117 (by decide)) ha,
    Shls_of (fun k hk => e _ (by omega)) (e 118 (by decide)) (e 119 (by decide)) (by rw [e 63 (by decide)]) (fun k hk => hB _ (by omega) (by omega)) (hB 120 (by decide) (by decide)) hs,
    Tape_of (q2 0 (Or.inl rfl)) (e 2 (by decide)) (by rw [e 81 (by decide)]) (e 94 (by decide)) hp,
    LawI_congr (q2 7 (Or.inr rfl)) (e 4 (by decide)) (by rw [e 81 (by decide)]) (e 95 (by decide)) (e 96 (by decide)) (by rw [e 97 (by decide)]) (e 98 (by decide)) (e 99 (by decide)) hl, q3, fun j => by rw [e 104 (by decide)]; exact hb j⟩
theorem Iv_r {I J A : IM} {lw : Lw} {n : Nat} {m0 m1 i0 i1 : Mx} (h : Iv I J lw n m0 m1 i0 i1) (hq : FrR I A) : Iv A J lw n m0 m1 i0 i1 := by
  obtain ⟨ht, hg, hm, hi, ha, hs, hp, hl, hc, hb⟩ := h
  obtain ⟨e, k, q3⟩ := hq
  refine ⟨Town_of (by rw [e 6 (by decide)]) (e 7 (by decide)) (e 8 (by decide)) (e 9 (by decide)) (e 10 (by decide)) (k 1 (by decide)) (e 82 (by decide)) (e 83 (by decide)) (e 84 (by decide)) (e 85 (by decide)) ht,
    Chg_of (e 58 (by decide)) (e 59 (by decide)) (e 60 (by decide)) (e 61 (by decide)) (e 62 (by decide)) (k 9 (by decide)) (k 10 (by decide)) (e 89 (by decide)) (e 90 (by decide)) (e 91 (by decide)) (e 92 (by decide)) hg,
    Mixs_of (e 14 (by decide)) (e 15 (by decide)) (e 16 (by decide)) (e 17 (by decide)) (e 18 (by decide)) (e 19 (by decide)) (e 86 (by decide)) (e 87 (by decide)) (e 88 (by decide)) hm,
    Imgs_of (by rw [e 0 (by decide)]) (k 47 (by decide)) (e 21 (by decide)) (e 22 (by decide)) (e 23 (by decide)) (e 24 (by decide)) (e 25 (by decide)) (e 26 (by decide)) (e 113 (by decide)) (e 114 (by decide)) (e 115 (by decide)) hi,
    Acts_of (by rw [e 63 (by decide)]) (by rw [e 63 (by decide)]) (e 64 (by decide)) (e 65 (by decide)) (k 51 (by decide)) (k 53 (by decide)) (e 116 (by decide)) (e 117 (by decide)) ha,
    Shls_of (fun k hk => e _ (by omega)) (e 118 (by decide)) (e 119 (by decide)) (by rw [e 63 (by decide)]) (fun _ _ => rfl) rfl hs,
    Tape_of (by rw [e 1 (by decide)]) (e 2 (by decide)) (k 17 (by decide)) (e 94 (by decide)) hp,
    LawI_congr (by rw [e 1 (by decide)]) (e 4 (by decide)) (k 29 (by decide)) (e 95 (by decide)) (e 96 (by decide)) (by rw [e 97 (by decide)]) (e 98 (by decide)) (e 99 (by decide)) hl, CchI_of (e 7 (by decide)) (e 8 (by decide)) (e 9 (by decide)) (e 11 (by decide)) (e 12 (by decide)) hc, q3 hb⟩
/-- a call of both -/
def OpI (X : pX) (h : Nat) (mc mr : MI) (vs : List Value) : Prop := ∀ I J : IM, Inv I J → KIq X h mc (.ref 0 :: vs) I J (fun z A B => KIq X h mr (.ref 81 :: vs) A B (fun z2 A2 B2 => z2 = z ∧ Inv A2 B2))
def OpL (X : pX) (h : Nat) (mc mr : MI) (vs : List Value) : Prop := ∀ I J : IM, Inv I J → KLq X h mc (.ref 0 :: vs) I J (fun z A B => KLq X h mr (.ref 81 :: vs) A B (fun z2 A2 B2 => z2 = z ∧ Inv A2 B2))
theorem op_of {X : pX} {h : Nat} (a b : Int) (ha : rg a) (hb : rg b) : OpI X (h + 100) mX11_of mX12_of [zi a, zi b] := fun I J hI => by
  obtain ⟨lw, n, m0, m1, i0, i1, hv⟩ := hI
  have tw := hv.1
  have hw1 := tw.2.2.2.2.2.2.1
  refine KIq.mono (c_X11_of hv.cq a b ha hb) ?_
  rintro z A B ⟨rfl, hq, hB⟩
  have hv2 : Iv A B lw n m0 m1 i0 i1 := Iv_q hv hq (fun a _ _ => by rw [hB])
  refine KIq.mono (c_X12_of hv2.rq a b ha hb) ?_
  rintro z2 A2 B2 ⟨rfl, hr, rfl⟩
  refine ⟨?_, lw, n, m0, m1, i0, i1, Iv_r hv2 hr⟩
  have t2 := hv2.1
  rw [t2.2.2.1, t2.2.2.2.1, t2.2.2.2.2.1, t2.2.2.2.2.2.1, hq.1.1 7 (by decide), hq.1.1 8 (by decide), hq.1.1 9 (by decide), hq.1.1 10 (by decide)]
theorem op_mean {X : pX} {h : Nat} (a : Int) (ha : rg a) : OpL X (h + 100) mX11_mean mX12_mean [zi a] := fun I J hI => by
  obtain ⟨lw, n, m0, m1, i0, i1, hv⟩ := hI
  have tw := hv.1
  have hw1 := tw.2.2.2.2.2.2.1
  refine KLq.mono (c_X11_mean hv.cq a ha) ?_
  rintro z A B ⟨rfl, hq, hB⟩
  have hv2 : Iv A B lw n m0 m1 i0 i1 := Iv_q hv hq (fun a _ _ => by rw [hB])
  refine KLq.mono (c_X12_mean hv2.rq a ha) ?_
  rintro z2 A2 B2 ⟨rfl, hr, rfl⟩
  refine ⟨?_, lw, n, m0, m1, i0, i1, Iv_r hv2 hr⟩
  have t2 := hv2.1
  rw [t2.2.2.1, t2.2.2.2.1, t2.2.2.2.2.1, hq.1.1 7 (by decide), hq.1.1 8 (by decide), hq.1.1 9 (by decide)]
theorem op_best {X : pX} {h : Nat} (a : Int) (ha : rg a) : OpI X (h + 100) mX11_best mX12_best [zi a] := fun I J hI => by
  obtain ⟨lw, n, m0, m1, i0, i1, hv⟩ := hI
  have tw := hv.1
  have hw1 := tw.2.2.2.2.2.2.1
  refine KIq.mono (c_X11_best hv.cq a ha) ?_
  rintro z A B ⟨rfl, hq, hB⟩
  have hv2 : Iv A B lw n m0 m1 i0 i1 := Iv_q hv hq (fun a _ _ => by rw [hB])
  refine KIq.mono (c_X12_best hv2.rq a ha) ?_
  rintro z2 A2 B2 ⟨rfl, hr, rfl⟩
  refine ⟨?_, lw, n, m0, m1, i0, i1, Iv_r hv2 hr⟩
  have t2 := hv2.1
  rw [t2.2.2.1, t2.2.2.2.1, t2.2.2.2.2.1, t2.2.2.2.2.2.1, hq.1.1 7 (by decide), hq.1.1 8 (by decide), hq.1.1 9 (by decide), hq.1.1 10 (by decide)]
theorem op_line {X : pX} {h : Nat} (a b c : Int) (ha : rg a) (hb : rg b) (hc : rg c) : OpL X (h + 100) mX11_line mX12_line [zi a, zi b, zi c] := fun I J hI => by
  obtain ⟨lw, n, m0, m1, i0, i1, hv⟩ := hI
  have tw := hv.1
  have hw1 := tw.2.2.2.2.2.2.1
  refine KLq.mono (c_X11_line hv.cq a b c ha hb hc) ?_
  rintro z A B ⟨rfl, hq, hB⟩
  have hv2 : Iv A B lw n m0 m1 i0 i1 := Iv_q hv hq (fun a _ _ => by rw [hB])
  refine KLq.mono (c_X12_line hv2.rq a b c ha hb hc) ?_
  rintro z2 A2 B2 ⟨rfl, hr, rfl⟩
  refine ⟨?_, lw, n, m0, m1, i0, i1, Iv_r hv2 hr⟩
  have t2 := hv2.1
  rw [t2.2.2.1, t2.2.2.2.1, t2.2.2.2.2.1, t2.2.2.2.2.2.1, hq.1.1 7 (by decide), hq.1.1 8 (by decide), hq.1.1 9 (by decide), hq.1.1 10 (by decide)]
theorem op_spy {X : pX} {h : Nat} (a b : Int) (ha : rg a) (hb : rg b) : OpL X (h + 100) mX11_spy mX12_spy [zi a, zi b] := fun I J hI => by
  obtain ⟨lw, n, m0, m1, i0, i1, hv⟩ := hI
  have tw := hv.1
  have hw1 := tw.2.2.2.2.2.2.1
  refine KLq.mono (c_X11_spy hv.cq a b ha hb) ?_
  rintro z A B ⟨rfl, hq, hB⟩
  have hv2 : Iv A B lw n m0 m1 i0 i1 := Iv_q hv hq (fun a _ _ => by rw [hB])
  refine KLq.mono (c_X12_spy hv2.rq a b ha hb) ?_
  rintro z2 A2 B2 ⟨rfl, hr, rfl⟩
  refine ⟨?_, lw, n, m0, m1, i0, i1, Iv_r hv2 hr⟩
  have t2 := hv2.1
  rw [t2.2.2.1, t2.2.2.2.1, t2.2.2.2.2.1, t2.2.2.2.2.2.1, hq.1.1 7 (by decide), hq.1.1 8 (by decide), hq.1.1 9 (by decide), hq.1.1 10 (by decide)]
theorem op_broke {X : pX} {h : Nat} (a b : Int) (ha : rg a) (hb : rg b) : OpL X (h + 100) mX11_broke mX12_broke [zi a, zi b] := fun I J hI => by
  obtain ⟨lw, n, m0, m1, i0, i1, hv⟩ := hI
  have tw := hv.1
  have hw1 := tw.2.2.2.2.2.2.1
  refine KLq.mono (c_X11_broke hv.cq a b ha hb) ?_
  rintro z A B ⟨rfl, hq, hB⟩
  have hv2 : Iv A B lw n m0 m1 i0 i1 := Iv_q hv hq (fun a _ _ => by rw [hB])
  refine KLq.mono (c_X12_broke hv2.rq a b ha hb) ?_
  rintro z2 A2 B2 ⟨rfl, hr, rfl⟩
  refine ⟨?_, lw, n, m0, m1, i0, i1, Iv_r hv2 hr⟩
  have t2 := hv2.1
  rw [t2.2.2.1, t2.2.2.2.1, t2.2.2.2.2.1, hq.1.1 7 (by decide), hq.1.1 8 (by decide), hq.1.1 9 (by decide)]
theorem op_beaten {X : pX} {h : Nat} (a b : Int) (ha : rg a) (hb : rg b) : OpI X (h + 100) mX11_beaten mX12_beaten [zi a, zi b] := fun I J hI => by
  obtain ⟨lw, n, m0, m1, i0, i1, hv⟩ := hI
  have tw := hv.1
  have hw1 := tw.2.2.2.2.2.2.1
  refine KIq.mono (c_X11_beaten hv.cq a b ha hb) ?_
  rintro z A B ⟨rfl, hq, hB⟩
  have hv2 : Iv A B lw n m0 m1 i0 i1 := Iv_q hv hq (fun a _ _ => by rw [hB])
  refine KIq.mono (c_X12_beaten hv2.rq hv2.2.2.2.2.2.2.2.2.2 a b ha hb) ?_
  rintro z2 A2 B2 ⟨rfl, hr, rfl⟩
  refine ⟨?_, lw, n, m0, m1, i0, i1, Iv_r hv2 hr⟩
  have t2 := hv2.1
  rw [t2.2.2.1, t2.2.2.2.1, t2.2.2.2.2.1, t2.2.2.2.2.2.1, hq.1.1 7 (by decide), hq.1.1 8 (by decide), hq.1.1 9 (by decide), hq.1.1 10 (by decide)]
theorem op_safest {X : pX} {h : Nat} (a b : Int) (ha : rg a) (hb : rg b) : OpI X (h + 100) mX11_safest mX12_safest [zi a, zi b] := fun I J hI => by
  obtain ⟨lw, n, m0, m1, i0, i1, hv⟩ := hI
  have tw := hv.1
  have hw1 := tw.2.2.2.2.2.2.1
  refine KIq.mono (c_X11_safest hv.cq a b ha hb) ?_
  rintro z A B ⟨rfl, hq, hB⟩
  have hv2 : Iv A B lw n m0 m1 i0 i1 := Iv_q hv hq (fun a _ _ => by rw [hB])
  refine KIq.mono (c_X12_safest hv2.rq hv2.2.2.2.2.2.2.2.2.2 a b ha hb) ?_
  rintro z2 A2 B2 ⟨rfl, hr, rfl⟩
  refine ⟨?_, lw, n, m0, m1, i0, i1, Iv_r hv2 hr⟩
  have t2 := hv2.1
  rw [t2.2.2.1, t2.2.2.2.1, t2.2.2.2.2.1, t2.2.2.2.2.2.1, hq.1.1 7 (by decide), hq.1.1 8 (by decide), hq.1.1 9 (by decide), hq.1.1 10 (by decide)]
theorem op_ring {X : pX} {h : Nat} (a : Int) (ha : rg a) : OpI X (h + 100) mX11_ring mX12_ring [zi a] := fun I J hI => by
  obtain ⟨lw, n, m0, m1, i0, i1, hv⟩ := hI
  have tw := hv.1
  have hw1 := tw.2.2.2.2.2.2.1
  refine KIq.mono (c_X11_ring hv.cq a ha) ?_
  rintro z A B ⟨rfl, hq, hB⟩
  have hv2 : Iv A B lw n m0 m1 i0 i1 := Iv_q hv hq hB
  refine KIq.mono (c_X12_ring hv2.rq hv2.2.2.2.2.2.2.2.2.2 a ha) ?_
  rintro z2 A2 B2 ⟨rfl, hr, rfl⟩
  refine ⟨?_, lw, n, m0, m1, i0, i1, Iv_r hv2 hr⟩
  have t2 := hv2.1
  rw [t2.2.2.1, t2.2.2.2.1, t2.2.2.2.2.1, t2.2.2.2.2.2.1, hq.1.1 7 (by decide), hq.1.1 8 (by decide), hq.1.1 9 (by decide), hq.1.1 10 (by decide)]
theorem op_rest {X : pX} {h : Nat} (a : Int) (ha : rg a) : OpI X (h + 100) mX11_rest mX12_rest [zi a] := fun I J hI => by
  obtain ⟨lw, n, m0, m1, i0, i1, hv⟩ := hI
  have tw := hv.1
  have hw1 := tw.2.2.2.2.2.2.1
  refine KIq.mono (c_X11_rest hv.cq a ha) ?_
  rintro z A B ⟨rfl, hq, hB⟩
  have hv2 : Iv A B lw n m0 m1 i0 i1 := Iv_q hv hq (fun a _ _ => by rw [hB])
  refine KIq.mono (c_X12_rest hv2.rq hv2.2.2.2.2.2.2.2.2.2 a ha) ?_
  rintro z2 A2 B2 ⟨rfl, hr, rfl⟩
  refine ⟨?_, lw, n, m0, m1, i0, i1, Iv_r hv2 hr⟩
  have t2 := hv2.1
  rw [t2.2.2.1, t2.2.2.2.1, t2.2.2.2.2.1, t2.2.2.2.2.2.1, hq.1.1 7 (by decide), hq.1.1 8 (by decide), hq.1.1 9 (by decide), hq.1.1 10 (by decide)]
theorem op_sure {X : pX} {h : Nat} (a : Int) (ha : rg a) : OpI X (h + 100) mX11_sure mX12_sure [zi a] := fun I J hI => by
  obtain ⟨lw, n, m0, m1, i0, i1, hv⟩ := hI
  have tw := hv.1
  have hw1 := tw.2.2.2.2.2.2.1
  refine KIq.mono (c_X11_sure hv.cq hw1 a ha) ?_
  rintro z A B ⟨rfl, hq, hB⟩
  have hv2 : Iv A B lw n m0 m1 i0 i1 := Iv_q hv hq (fun a _ _ => by rw [hB])
  refine KIq.mono (c_X12_sure hv2.rq a ha) ?_
  rintro z2 A2 B2 ⟨rfl, hr, rfl⟩
  refine ⟨?_, lw, n, m0, m1, i0, i1, Iv_r hv2 hr⟩
  have t2 := hv2.1
  rw [t2.2.2.1, t2.2.2.2.1, t2.2.2.2.2.1, t2.2.2.2.2.2.1, hq.1.1 7 (by decide), hq.1.1 8 (by decide), hq.1.1 9 (by decide), hq.1.1 10 (by decide)]
theorem op_most {X : pX} {h : Nat} (a : Int) (ha : rg a) : OpI X (h + 100) mX11_most mX12_most [zi a] := fun I J hI => by
  obtain ⟨lw, n, m0, m1, i0, i1, hv⟩ := hI
  have tw := hv.1
  have hw1 := tw.2.2.2.2.2.2.1
  refine KIq.mono (c_X11_most hv.cq hw1 a ha) ?_
  rintro z A B ⟨rfl, hq, hB⟩
  have hv2 : Iv A B lw n m0 m1 i0 i1 := Iv_q hv hq (fun a _ _ => by rw [hB])
  refine KIq.mono (c_X12_most hv2.rq hv2.2.2.2.2.2.2.2.2.2 a ha) ?_
  rintro z2 A2 B2 ⟨rfl, hr, rfl⟩
  refine ⟨?_, lw, n, m0, m1, i0, i1, Iv_r hv2 hr⟩
  have t2 := hv2.1
  rw [t2.2.2.1, t2.2.2.2.1, t2.2.2.2.2.1, t2.2.2.2.2.2.1, hq.1.1 7 (by decide), hq.1.1 8 (by decide), hq.1.1 9 (by decide), hq.1.1 10 (by decide)]
theorem op_fewest {X : pX} {h : Nat} (a : Int) (ha : rg a) : OpI X (h + 100) mX11_fewest mX12_fewest [zi a] := fun I J hI => by
  obtain ⟨lw, n, m0, m1, i0, i1, hv⟩ := hI
  have tw := hv.1
  have hw1 := tw.2.2.2.2.2.2.1
  refine KIq.mono (c_X11_fewest hv.cq hw1 a ha) ?_
  rintro z A B ⟨rfl, hq, hB⟩
  have hv2 : Iv A B lw n m0 m1 i0 i1 := Iv_q hv hq (fun a _ _ => by rw [hB])
  refine KIq.mono (c_X12_fewest hv2.rq a ha) ?_
  rintro z2 A2 B2 ⟨rfl, hr, rfl⟩
  refine ⟨?_, lw, n, m0, m1, i0, i1, Iv_r hv2 hr⟩
  have t2 := hv2.1
  rw [t2.2.2.1, t2.2.2.2.1, t2.2.2.2.2.1, t2.2.2.2.2.2.1, hq.1.1 7 (by decide), hq.1.1 8 (by decide), hq.1.1 9 (by decide), hq.1.1 10 (by decide)]
theorem op_year {X : pX} {h : Nat} (a b : Int) (ha : rg a) (hb : rg b) : OpI X (h + 100) mX11_year mX12_year [zi a, zi b] := fun I J hI => by
  obtain ⟨lw, n, m0, m1, i0, i1, hv⟩ := hI
  have tw := hv.1
  have hw1 := tw.2.2.2.2.2.2.1
  refine KIq.mono (c_X11_year hv.cq a b ha hb) ?_
  rintro z A B ⟨rfl, hq, hB⟩
  have hv2 : Iv A B lw n m0 m1 i0 i1 := Iv_q hv hq (fun a _ _ => by rw [hB])
  refine KIq.mono (c_X12_year hv2.rq a b ha hb) ?_
  rintro z2 A2 B2 ⟨rfl, hr, rfl⟩
  refine ⟨?_, lw, n, m0, m1, i0, i1, Iv_r hv2 hr⟩
  have t2 := hv2.1
  rw [t2.2.2.1, t2.2.2.2.1, t2.2.2.2.2.1, t2.2.2.2.2.2.1, hq.1.1 7 (by decide), hq.1.1 8 (by decide), hq.1.1 9 (by decide), hq.1.1 10 (by decide)]
theorem op_years {X : pX} {h : Nat} (a : Int) (ha : rg a) : OpI X (h + 100) mX11_years mX12_years [zi a] := fun I J hI => by
  obtain ⟨lw, n, m0, m1, i0, i1, hv⟩ := hI
  have tw := hv.1
  have hw1 := tw.2.2.2.2.2.2.1
  refine KIq.mono (c_X11_years hv.cq a ha) ?_
  rintro z A B ⟨rfl, hq, hB⟩
  have hv2 : Iv A B lw n m0 m1 i0 i1 := Iv_q hv hq (fun a _ _ => by rw [hB])
  refine KIq.mono (c_X12_years hv2.rq a ha) ?_
  rintro z2 A2 B2 ⟨rfl, hr, rfl⟩
  refine ⟨?_, lw, n, m0, m1, i0, i1, Iv_r hv2 hr⟩
  have t2 := hv2.1
  rw [t2.2.2.1, t2.2.2.2.1, t2.2.2.2.2.1, t2.2.2.2.2.2.1, hq.1.1 7 (by decide), hq.1.1 8 (by decide), hq.1.1 9 (by decide), hq.1.1 10 (by decide)]
