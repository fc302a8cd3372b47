/-! village, mend, undone, done again -/
theorem six {P : Nat → Prop} (h0 : P 0) (h1 : P 1) (h2 : P 2) (h3 : P 3) (h4 : P 4) (h5 : P 5) : ∀ k, k < 6 → P k := fun k hk => by
  rcases (show k = 0 ∨ k = 1 ∨ k = 2 ∨ k = 3 ∨ k = 4 ∨ k = 5 by omega) with rfl | rfl | rfl | rfl | rfl | rfl <;> assumption
theorem Town.TI {I : IM} {n : Nat} {lw : Lw} (ht : Town I n) (hc : CchI I lw n) : TI I := by
  obtain ⟨t1, t2, t3, t4, t5, t6, t7, t8, t9⟩ := ht
  exact ⟨by omega, t8, t9, fun v hv => (hc v hv).1⟩
theorem Town.RgR {I : IM} {n : Nat} (ht : Town I n) : RgR I := by
  obtain ⟨t1, t2, t3, t4, t5, t6, t7, t8, t9⟩ := ht
  exact ⟨fun v hv => by rw [t3, t4]; exact ⟨(t8 v hv).1, (t8 v hv).2.1⟩, fun b hb => by rw [t6]; exact t9 b hb⟩
theorem may_mono {n a w v : Int} (h : mayR n a w v) : mayR (n + 1) a w v := by obtain ⟨h1, h2⟩ := h; refine ⟨h1, ?_⟩; omega
def vlM (I : IM) (w t u : Int) : IM := upA (upA (upA (upA I 82 (up1 (I 82) (I 81 1).toNat w)) 83 (up1 (I 83) (I 81 1).toNat t)) 84 (up1 (I 84) (I 81 1).toNat u)) 81 (up1 (I 81) 1 (I 81 1 + 1))
theorem Chg_vl {I : IM} {n : Nat} {w t u w2 t2 u2 : Int} (h : Chg I n) : Chg (vlM (foundM I w t u) w2 t2 u2) (n + 1) := by
  obtain ⟨g1, g2, g3, g4, g5, g6, g7, g8⟩ := h
  exact ⟨g1, g2, g3, g4, g5, g6, g7, fun k hk => ⟨may_mono (g8 k hk).1, may_mono (g8 k hk).2⟩⟩
theorem op_village {X : pX} {h : Nat} (a b : Int) (ha : rg a) (hb : rg b) : OpI X (h + 100) mX11_village mX12_village [zi a, zi b] := fun I J hI => by
  obtain ⟨lw, n, m0, m1, i0, i1, ht, hg, hm, hi, hac, hs, hp, hl, hc, hbk⟩ := hI
  obtain ⟨t1, t2, t3, t4, t5, t6, t7, t8, t9⟩ := id ht
  refine KIq.mono (c_X11_village X _ I J a b ha hb (ht.TI hc)) ?_
  rintro z A B ⟨rfl, rfl, rfl⟩
  by_cases c : (1 ≤ a ∧ a ≤ 9 ∧ 0 ≤ b ∧ b ≤ 99 ∧ b % 10 ≤ 2) ∧ I 6 0 < 5
  · have eA : villM I a b = foundM I a (b / 10) (b % 10) := if_pos c
    rw [eA]
    refine KIq.mono (c_X12_village X _ _ B a b ha hb (by show 0 ≤ I 81 1 ∧ I 81 1 ≤ 5; omega)) ?_
    rintro z2 A2 B2 ⟨rfl, rfl, rfl⟩
    have eR : villR (foundM I a (b / 10) (b % 10)) a b = vlM (foundM I a (b / 10) (b % 10)) a (b / 10) (b % 10) := if_pos ⟨c.1, by show I 81 1 < 5; omega⟩
    rw [eR]
    have e1 : (I 6 0).toNat = n := by omega
    have e2 : (I 81 1).toNat = n := by omega
    refine ⟨?_, lw, n + 1, m0, m1, i0, i1, ?_, Chg_vl hg, Mixs_of rfl rfl rfl rfl rfl rfl rfl rfl rfl  hm, Imgs_of rfl rfl rfl rfl rfl rfl rfl rfl rfl rfl rfl  hi, Acts_of rfl rfl rfl rfl rfl rfl rfl rfl  hac, (by refine Shls_of ?_ ?_ ?_ ?_ ?_ ?_ hs; exact six rfl rfl rfl rfl rfl rfl; all_goals first | rfl | (intro _ _; rfl)), Tape_of rfl rfl rfl rfl  hp, LawI_congr rfl rfl rfl rfl rfl rfl rfl rfl  hl, ?_, fun j => hbk j⟩
    · show villZ (I 81 1) a b = villZ (I 6 0) a b
      rw [t2, t1.1]
    · refine ⟨⟨?_, by omega⟩, ?_, ?_, ?_, ?_, t6, fun v hv => ?_, fun v hv => ?_, t9⟩
      · show up1 (I 6) 0 (I 6 0 + 1) 0 = _
        rw [up1_self, t1.1]; rfl
      · show up1 (I 81) 1 (I 81 1 + 1) 1 = _
        rw [up1_self, t2]; rfl
      · show up1 (I 82) (I 81 1).toNat a = up1 (I 7) (I 6 0).toNat a
        rw [t3, e1, e2]
      · show up1 (I 83) (I 81 1).toNat (b / 10) = up1 (I 8) (I 6 0).toNat (b / 10)
        rw [t4, e1, e2]
      · show up1 (I 84) (I 81 1).toNat (b % 10) = up1 (I 9) (I 6 0).toNat (b % 10)
        rw [t5, e1, e2]
      · show 1 ≤ up1 (I 7) (I 6 0).toNat a v ∧ up1 (I 7) (I 6 0).toNat a v ≤ 9
        rw [e1]
        by_cases e : v = n
        · subst e; rw [up1_self]; omega
        · rw [up1_ne e]; exact t7 v (by omega)
      · show (0 ≤ up1 (I 7) (I 6 0).toNat a v ∧ up1 (I 7) (I 6 0).toNat a v ≤ 9) ∧ (0 ≤ up1 (I 8) (I 6 0).toNat (b / 10) v ∧ up1 (I 8) (I 6 0).toNat (b / 10) v ≤ 9) ∧ 0 ≤ up1 (I 9) (I 6 0).toNat (b % 10) v ∧ up1 (I 9) (I 6 0).toNat (b % 10) v ≤ 2
        rw [e1]
        by_cases e : v = n
        · subst e; rw [up1_self, up1_self, up1_self]; omega
        · rw [up1_ne e, up1_ne e, up1_ne e]; exact t8 v hv
    · intro v hv
      obtain ⟨h1, h2, h3⟩ := hc v hv
      refine ⟨h1, fun h => h2 (by omega), fun h x y hx hy => ?_⟩
      have h' : I 12 v = 1 := h
      have hvn : v ≠ n := fun e => by have := h2 (by omega); omega
      show I 11 (100 * v + 10 * x + y) = ptsV lw (up1 (I 7) (I 6 0).toNat a) (up1 (I 8) (I 6 0).toNat (b / 10)) (up1 (I 9) (I 6 0).toNat (b % 10)) v x y
      rw [h3 h' x y hx hy, e1]
      show _ = up1 (I 7) n a v * hasV lw (up1 (I 7) n a v) (up1 (I 8) n (b / 10) v) (up1 (I 9) n (b % 10) v) v x y
      rw [up1_ne hvn, up1_ne hvn, up1_ne hvn]
  · have eA : villM I a b = I := if_neg c
    rw [eA]
    refine KIq.mono (c_X12_village X _ _ B a b ha hb (by omega)) ?_
    rintro z2 A2 B2 ⟨rfl, rfl, rfl⟩
    have eR : villR I a b = I := if_neg (fun q => c ⟨q.1, by omega⟩)
    rw [eR]
    exact ⟨by rw [t2, t1.1], lw, n, m0, m1, i0, i1, ht, hg, hm, hi, hac, hs, hp, hl, hc, hbk⟩
def fW (F : Nat → Int) (w k a v : Int) : Nat → Int := if w = k then up1 F a.toNat v else F
theorem fW_at {F : Nat → Int} {w k a v : Int} {x : Nat} : fW F w k a v x = if w = k ∧ x = a.toNat then v else F x := by
  unfold fW
  by_cases e : w = k
  · rw [if_pos e]
    by_cases e2 : x = a.toNat
    · rw [if_pos ⟨e, e2⟩, e2, up1_self]
    · rw [if_neg (fun q => e2 q.2), up1_ne e2]
  · rw [if_neg e, if_neg (fun q => e q.1)]
def w12 (F : Nat → Int) (w a : Int) : Nat → Int := if w = 0 then F else up1 F a.toNat 0
theorem bec_c {I : IM} {a w v : Int} (h : w = 0 ∨ w = 1 ∨ w = 2) : becM I a w v 7 = fW (I 7) w 1 a v ∧ becM I a w v 8 = fW (I 8) w 2 a v ∧ becM I a w v 10 = fW (I 10) w 0 a v ∧ becM I a w v 12 = w12 (I 12) w a ∧ becM I a w v 9 = I 9 ∧ becM I a w v 11 = I 11 := by
  rcases h with rfl | rfl | rfl <;> exact ⟨rfl, rfl, rfl, rfl, rfl, rfl⟩
theorem lays_c {I : IM} {a w v : Int} (h : w = 0 ∨ w = 1 ∨ w = 2) : laysM I w a v 82 = fW (I 82) w 1 a v ∧ laysM I w a v 83 = fW (I 83) w 2 a v ∧ laysM I w a v 85 = fW (I 85) w 0 a v := by
  rcases h with rfl | rfl | rfl <;> exact ⟨rfl, rfl, rfl⟩
theorem lays_o {I : IM} {a w v : Int} {b : Nat} (h : b ≠ 82 ∧ b ≠ 83 ∧ b ≠ 85) : laysM I w a v b = I b := by
  unfold laysM
  by_cases e0 : w = 0
  · rw [if_pos e0]; exact if_neg h.2.2
  · rw [if_neg e0]
    by_cases e1 : w = 1
    · rw [if_pos e1]; exact if_neg h.1
    · rw [if_neg e1]; exact if_neg h.2.1
theorem town_bec {I A : IM} {n : Nat} {a w v : Int} (ht : Town I n) (hm : mayR n a w v) (e6 : A 6 0 = I 6 0) (e81 : A 81 1 = I 81 1) (e9 : A 9 = I 9) (e84 : A 84 = I 84) (e7 : A 7 = fW (I 7) w 1 a v) (e8 : A 8 = fW (I 8) w 2 a v) (e10 : A 10 = fW (I 10) w 0 a v) (e82 : A 82 = fW (I 82) w 1 a v) (e83 : A 83 = fW (I 83) w 2 a v) (e85 : A 85 = fW (I 85) w 0 a v) : Town A n := by
  obtain ⟨t1, t2, t3, t4, t5, t6, t7, t8, t9⟩ := ht
  obtain ⟨hv, hk⟩ := hm
  unfold Town
  rw [e6, e81, e9, e84, e7, e8, e10, e82, e83, e85, t3, t4, t6]
  refine ⟨t1, t2, rfl, rfl, t5, rfl, fun x hx => ?_, fun x hx => ?_, fun x hx => ?_⟩
  · rw [fW_at]
    have := t7 x hx
    split <;> omega
  · rw [fW_at, fW_at]
    have := t8 x hx
    refine ⟨?_, ?_, this.2.2⟩
    · split <;> omega
    · split <;> omega
  · rw [fW_at]
    have := t9 x hx
    split <;> omega
theorem cch_bec {I A : IM} {lw : Lw} {n : Nat} {a w v : Int} (hc : CchI I lw n) (h3 : w = 0 ∨ w = 1 ∨ w = 2) (e12 : A 12 = w12 (I 12) w a) (e11 : A 11 = I 11) (e9 : A 9 = I 9) (e7 : A 7 = fW (I 7) w 1 a v) (e8 : A 8 = fW (I 8) w 2 a v) : CchI A lw n := by
  intro x hx
  obtain ⟨h1, h2, h4⟩ := hc x hx
  rw [e12, e11, e9, e7, e8]
  unfold w12
  by_cases e0 : w = 0
  · rw [if_pos e0]
    refine ⟨h1, h2, fun h p q hp hq => ?_⟩
    rw [h4 h p q hp hq]
    unfold fW
    rw [if_neg (by omega), if_neg (by omega)]
  · rw [if_neg e0]
    by_cases ex : x = a.toNat
    · subst ex
      rw [up1_self]
      exact ⟨Or.inl rfl, fun _ => rfl, fun h => absurd h (by decide)⟩
    · rw [up1_ne ex]
      refine ⟨h1, h2, fun h p q hp hq => ?_⟩
      rw [h4 h p q hp hq]
      show _ = fW (I 7) w 1 a v x * hasV lw (fW (I 7) w 1 a v x) (fW (I 8) w 2 a v x) (I 9 x) x p q
      rw [fW_at, fW_at, if_neg (fun k => ex k.2), if_neg (fun k => ex k.2)]
theorem val_eq {I : IM} {n : Nat} {a w : Int} (ht : Town I n) : valR I a w = valT I a w := by
  obtain ⟨t1, t2, t3, t4, t5, t6, t7, t8, t9⟩ := ht
  unfold valR valT
  rw [t3, t4, t6]
theorem val_may {I : IM} {n : Nat} {a w v : Int} (ht : Town I n) (h : mayR n a w v) : mayR n a w (valT I a w) := by
  obtain ⟨t1, t2, t3, t4, t5, t6, t7, t8, t9⟩ := ht
  obtain ⟨hv, hk⟩ := h
  unfold valT
  rcases hk with ⟨rfl, k⟩ | ⟨rfl, k⟩ | ⟨rfl, k⟩
  · rw [if_pos rfl]
    have := t9 a.toNat (by omega)
    exact ⟨this, Or.inl ⟨rfl, k⟩⟩
  · rw [if_neg (by decide), if_pos rfl]
    have := t7 a.toNat (by omega)
    exact ⟨by omega, Or.inr (Or.inl ⟨rfl, by omega, by omega, by omega⟩)⟩
  · rw [if_neg (by decide), if_neg (by decide)]
    have := t8 a.toNat (by omega)
    exact ⟨by omega, Or.inr (Or.inr ⟨rfl, by omega, by omega⟩)⟩
theorem chg_put {A : IM} {n : Nat} {a w x v : Int} (D : Nat) (hD : D ≤ 39) (F1 F2 F3 F4 : Nat → Int) (ho : ∀ k, k < D → mayR n (F1 k) (F2 k) (F3 k) ∧ mayR n (F1 k) (F2 k) (F4 k)) (h1 : mayR n a w x) (h2 : mayR n a w v) (e59 : A 59 = up1 F1 D a) (e60 : A 60 = up1 F2 D w) (e61 : A 61 = up1 F3 D x) (e62 : A 62 = up1 F4 D v) (e90 : A 90 = up1 F1 D a) (e89 : A 89 = up1 F2 D w) (e91 : A 91 = up1 F3 D x) (e92 : A 92 = up1 F4 D v) (ed : A 58 1 = (D : Int) + 1 ∧ A 58 0 = (D : Int) + 1) (er : A 81 9 = (D : Int) + 1 ∧ A 81 10 = 0) : Chg A n := by
  unfold Chg
  rw [e59, e60, e61, e62, e89, e90, e91, e92, ed.1, ed.2, er.1, er.2]
  refine ⟨by omega, rfl, by omega, rfl, rfl, rfl, rfl, fun k hk => ?_⟩
  by_cases e : k = D
  · subst e
    rw [up1_self, up1_self, up1_self, up1_self]
    exact ⟨h1, h2⟩
  · rw [up1_ne e, up1_ne e, up1_ne e, up1_ne e]
    exact ho k (by omega)
theorem mayB_R {I : IM} {n : Nat} {a w v : Int} (ht : Town I n) : mayB I a w v ↔ mayR n a w v := by
  have e : I 6 0 = (n : Int) := ht.1.1
  unfold mayB mayR
  rw [e]
theorem may3 {n a w v : Int} (h : mayR n a w v) : w = 0 ∨ w = 1 ∨ w = 2 := by have := h.2; omega
/-- what a change leaves alone: the class (6 to 12, 58 to 62), the reference (81, 82, 83, 85, 89 to 92) -/
abbrev FrT (I A : IM) : Prop := (∀ b, b < 6 ∨ (12 < b ∧ b < 58) ∨ (62 < b ∧ b < 81) ∨ b = 84 ∨ (85 < b ∧ b < 89) ∨ 92 < b → A b = I b) ∧ ∀ k, k ≠ 9 → k ≠ 10 → A 81 k = I 81 k
theorem Iv_t {I J A : IM} {lw : Lw} {n : Nat} {m0 m1 i0 i1 : Mx} (h : Iv I J lw n m0 m1 i0 i1) (hf : FrT I A) (ht : Town A n) (hg : Chg A n) (hc : CchI A lw n) : Iv A J lw n m0 m1 i0 i1 := by
  obtain ⟨-, -, hm, hi, ha, hs, hp, hl, -, hb⟩ := h
  obtain ⟨e, k⟩ := hf
  refine ⟨ht, hg,
    Mixs_of (e 14 (by decide)) (e 15 (by decide)) (e 16 (by decide)) (e 17 (by decide)) (e 18 (by decide)) (e 19 (by decide)) (e 86 (by decide)) (e 87 (by decide)) (e 88 (by decide)) hm,
    Imgs_of (by rw [e 0 (by decide)]) (k 47 (by decide) (by decide)) (e 21 (by decide)) (e 22 (by decide)) (e 23 (by decide)) (e 24 (by decide)) (e 25 (by decide)) (e 26 (by decide)) (e 113 (by decide)) (e 114 (by decide)) (e 115 (by decide)) hi,
    Acts_of (by rw [e 63 (by decide)]) (by rw [e 63 (by decide)]) (e 64 (by decide)) (e 65 (by decide)) (k 51 (by decide) (by decide)) (k 53 (by decide) (by decide)) (e 116 (by decide)) (e 117 (by decide)) ha,
    Shls_of (fun k hk => e _ (by omega)) (e 118 (by decide)) (e 119 (by decide)) (by rw [e 63 (by decide)]) (fun _ _ => rfl) rfl hs,
    Tape_of (by rw [e 1 (by decide)]) (e 2 (by decide)) (k 17 (by decide) (by decide)) (e 94 (by decide)) hp,
    LawI_congr (by rw [e 1 (by decide)]) (e 4 (by decide)) (k 29 (by decide) (by decide)) (e 95 (by decide)) (e 96 (by decide)) (by rw [e 97 (by decide)]) (e 98 (by decide)) (e 99 (by decide)) hl, hc, fun j => by rw [e 104 (by decide)]; exact hb j⟩
theorem becM_81 {I : IM} {n w v : Int} : becM I n w v 81 = I 81 := becM_k (by omega)
theorem bec_fr {I P A : IM} {a w v a2 w2 v2 : Int} (hP : ∀ b, b < 58 ∨ 62 < b → P b = I b) (hA : A = becM P a w v) (Q : IM) (hQ : ∀ b, b < 81 ∨ b = 82 ∨ b = 83 ∨ b = 84 ∨ b = 85 ∨ b = 86 ∨ b = 87 ∨ b = 88 ∨ 92 < b → Q b = A b) (hk : ∀ k, k ≠ 9 → k ≠ 10 → Q 81 k = A 81 k) : FrT I (laysM Q w2 a2 v2) := by
  subst hA
  refine ⟨fun b hb => ?_, fun k h1 h2 => ?_⟩
  · rw [lays_o (by omega), hQ b (by omega), becM_k (by omega), hP b (by omega)]
  · rw [lays_o (by decide), hk k h1 h2, becM_81, hP 81 (by omega)]
