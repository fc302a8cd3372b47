/-! undone, done again -/
theorem may_R3 {n : Nat} {a w v : Int} (hn : n ≤ 5) (h : mayR n a w v) : (0 ≤ w ∧ w ≤ 2) ∧ (0 ≤ a ∧ a < 5) ∧ (w = 0 → a < 2) := by
  obtain ⟨h1, h2⟩ := h
  omega
theorem op_undo {X : pX} {h : Nat}   : OpI X (h + 100) mX11_undo mX12_undo [] := fun I J hI => by
  obtain ⟨lw, n, m0, m1, i0, i1, ht, hg, hm, hi, ha, hs, hp, hl, hc, hb⟩ := hI
  have hv : Iv I J lw n m0 m1 i0 i1 := ⟨ht, hg, hm, hi, ha, hs, hp, hl, hc, hb⟩
  obtain ⟨t1, t2, t3, t4, t5, t6, t7, t8, t9⟩ := id ht
  obtain ⟨g1, g2, g3, g4, g5, g6, g7, g8⟩ := id hg
  refine KIq.mono (c_X11_undo X _ I J (by omega) (by omega) (fun k hk => ⟨(mayB_R ht).mpr (g8 k hk).1, (mayB_R ht).mpr (g8 k hk).2⟩)) ?_
  rintro z A B ⟨rfl, rfl, rfl⟩
  by_cases c : I 58 1 = 0
  · have eA : undoC I = I := if_pos c
    rw [eA, if_pos c]
    refine KIq.mono (c_X12_undo X _ _ B (by omega) (fun k hk => by rw [g5, g4]; exact may_R3 t1.2 (g8 k (by omega)).1)) ?_
    rintro z2 A2 B2 ⟨rfl, rfl, rfl⟩
    have eR : undoR I = I := if_pos (by omega)
    rw [eR]
    exact ⟨if_pos (by omega), lw, n, m0, m1, i0, i1, hv⟩
  · have hmy := (g8 (I 58 1 - 1).toNat (by omega)).1
    have eA : undoC I = becM (takeM I) (I 59 (I 58 1 - 1).toNat) (I 60 (I 58 1 - 1).toNat) (I 61 (I 58 1 - 1).toNat) := if_neg c
    rw [eA, if_neg c]
    have hA : ∀ x, (x < 7 ∨ 12 < x) → x ≠ 58 → becM (takeM I) (I 59 (I 58 1 - 1).toNat) (I 60 (I 58 1 - 1).toNat) (I 61 (I 58 1 - 1).toNat) x = I x := fun x h1 h2 => by rw [becM_k h1]; exact if_neg h2
    have a81 := hA 81 (by decide) (by decide)
    have a89 := hA 89 (by decide) (by decide)
    have a90 := hA 90 (by decide) (by decide)
    have a91 := hA 91 (by decide) (by decide)
    refine KIq.mono (c_X12_undo X _ _ B (by rw [a81]; omega) (fun k hk => by rw [a81] at hk; rw [a89, a90, g5, g4]; exact may_R3 t1.2 (g8 k (by omega)).1)) ?_
    rintro z2 A2 B2 ⟨rfl, rfl, rfl⟩
    generalize hAd : becM (takeM I) (I 59 (I 58 1 - 1).toNat) (I 60 (I 58 1 - 1).toNat) (I 61 (I 58 1 - 1).toNat) = A at hA a81 a89 a90 a91 ⊢
    have eR : undoR A = laysM (undo1 A) (I 60 (I 58 1 - 1).toNat) (I 59 (I 58 1 - 1).toNat) (I 61 (I 58 1 - 1).toNat) := by
      unfold undoR
      rw [if_neg (by rw [a81]; omega), a81, a89, a90, a91, g5, g4, g6, g2]
    rw [eR]
    have eU : ∀ b, b ≠ 81 → undo1 A b = A b := fun b hb => by unfold undo1 upA; rw [if_neg hb, if_neg hb]
    obtain ⟨c82, c83, c85⟩ := lays_c (I := undo1 A) (a := I 59 (I 58 1 - 1).toNat) (v := I 61 (I 58 1 - 1).toNat) (may3 hmy)
    rw [eU 82 (by decide), hA 82 (by decide) (by decide)] at c82
    rw [eU 83 (by decide), hA 83 (by decide) (by decide)] at c83
    rw [eU 85 (by decide), hA 85 (by decide) (by decide)] at c85
    have q := tc_core (P := takeM I) (A2 := laysM (undo1 A) (I 60 (I 58 1 - 1).toNat) (I 59 (I 58 1 - 1).toNat) (I 61 (I 58 1 - 1).toNat)) ht hc hmy (fun b hb => if_neg (by omega)) (fun b hb => by rw [lays_o (by omega), eU b (by omega), ← hAd]) c82 c83 c85 (fun k h1 h2 => by
      rw [lays_o (by decide)]
      show up1 (up1 (A 81) 9 (A 81 9 - 1)) 10 _ k = _
      rw [up1_ne h2, up1_ne h1, a81])
    have e58 : laysM (undo1 A) (I 60 (I 58 1 - 1).toNat) (I 59 (I 58 1 - 1).toNat) (I 61 (I 58 1 - 1).toNat) 58 = up1 (I 58) 1 (I 58 1 - 1) := by
      rw [lays_o (by decide), eU 58 (by decide), ← hAd, becM_k (by omega)]; rfl
    have eo : ∀ b, (58 < b ∧ b < 63) ∨ (88 < b ∧ b < 93) → laysM (undo1 A) (I 60 (I 58 1 - 1).toNat) (I 59 (I 58 1 - 1).toNat) (I 61 (I 58 1 - 1).toNat) b = I b := fun b hb => by
      rw [lays_o (by omega), eU b (by omega), hA b (by omega) (by omega)]
    have e81 : laysM (undo1 A) (I 60 (I 58 1 - 1).toNat) (I 59 (I 58 1 - 1).toNat) (I 61 (I 58 1 - 1).toNat) 81 9 = I 81 9 - 1 ∧ laysM (undo1 A) (I 60 (I 58 1 - 1).toNat) (I 59 (I 58 1 - 1).toNat) (I 61 (I 58 1 - 1).toNat) 81 10 = I 81 10 + 1 := by
      rw [lays_o (by decide)]
      show A 81 9 - 1 = _ ∧ A 81 10 + 1 = _
      rw [a81]
      exact ⟨rfl, rfl⟩
    refine ⟨?_, lw, n, m0, m1, i0, i1, Iv_t hv q.1 q.2.1 ?_ q.2.2⟩
    · unfold undoZ
      rw [if_neg (by rw [a81]; omega), a81, g2]
    · unfold Chg
      rw [e58, eo 59 (by decide), eo 60 (by decide), eo 61 (by decide), eo 62 (by decide), eo 89 (by decide), eo 90 (by decide), eo 91 (by decide), eo 92 (by decide), e81.1, e81.2]
      have u1 : up1 (I 58) 1 (I 58 1 - 1) 1 = I 58 1 - 1 := up1_self
      have u0 : up1 (I 58) 1 (I 58 1 - 1) 0 = I 58 0 := up1_ne (by decide)
      rw [u1, u0]
      exact ⟨by omega, by omega, by omega, g4, g5, g6, g7, g8⟩
theorem op_redo {X : pX} {h : Nat}   : OpI X (h + 100) mX11_redo mX12_redo [] := fun I J hI => by
  obtain ⟨lw, n, m0, m1, i0, i1, ht, hg, hm, hi, ha, hs, hp, hl, hc, hb⟩ := hI
  have hv : Iv I J lw n m0 m1 i0 i1 := ⟨ht, hg, hm, hi, ha, hs, hp, hl, hc, hb⟩
  obtain ⟨t1, t2, t3, t4, t5, t6, t7, t8, t9⟩ := id ht
  obtain ⟨g1, g2, g3, g4, g5, g6, g7, g8⟩ := id hg
  refine KIq.mono (c_X11_redo X _ I J (by omega) (by omega) (fun k hk => ⟨(mayB_R ht).mpr (g8 k hk).1, (mayB_R ht).mpr (g8 k hk).2⟩)) ?_
  rintro z A B ⟨rfl, rfl, rfl⟩
  by_cases c : I 58 1 = I 58 0
  · have eA : redoC I = I := if_pos c
    rw [eA, if_pos c]
    refine KIq.mono (c_X12_redo X _ _ B (by omega) (fun k hk => by rw [g5, g4]; exact may_R3 t1.2 (g8 k (by omega)).1)) ?_
    rintro z2 A2 B2 ⟨rfl, rfl, rfl⟩
    have eR : redoR I = I := if_pos (by omega)
    rw [eR]
    exact ⟨if_pos (by omega), lw, n, m0, m1, i0, i1, hv⟩
  · have hmy := (g8 (I 58 1).toNat (by omega)).2
    have eA : redoC I = upA (againM I) 58 (up1 (againM I 58) 1 (againM I 58 1 + 1)) := if_neg c
    rw [eA, if_neg c]
    have hA : ∀ x, x ≠ 58 → upA (againM I) 58 (up1 (againM I 58) 1 (againM I 58 1 + 1)) x = becM I (I 59 (I 58 1).toNat) (I 60 (I 58 1).toNat) (I 62 (I 58 1).toNat) x := fun x h2 => if_neg h2
    have hA58 : upA (againM I) 58 (up1 (againM I 58) 1 (againM I 58 1 + 1)) 58 = up1 (I 58) 1 (I 58 1 + 1) := by
      show up1 (againM I 58) 1 (againM I 58 1 + 1) = _
      rw [againM_58]
    have hAk : ∀ x, (x < 7 ∨ 12 < x) → x ≠ 58 → upA (againM I) 58 (up1 (againM I 58) 1 (againM I 58 1 + 1)) x = I x := fun x h1 h2 => by rw [hA x h2, becM_k h1]
    generalize upA (againM I) 58 (up1 (againM I 58) 1 (againM I 58 1 + 1)) = A at hA hA58 hAk ⊢
    have a81 := hAk 81 (by decide) (by decide)
    have a89 := hAk 89 (by decide) (by decide)
    have a90 := hAk 90 (by decide) (by decide)
    have a92 := hAk 92 (by decide) (by decide)
    refine KIq.mono (c_X12_redo X _ _ B (by rw [a81]; omega) (fun k hk => by rw [a81] at hk; rw [a89, a90, g5, g4]; exact may_R3 t1.2 (g8 k (by omega)).1)) ?_
    rintro z2 A2 B2 ⟨rfl, rfl, rfl⟩
    have eM : redoM A = laysM A (I 60 (I 58 1).toNat) (I 59 (I 58 1).toNat) (I 62 (I 58 1).toNat) := by
      unfold redoM
      rw [a81, a89, a90, a92, g5, g4, g7, g2]
    have eR : redoR A = redoN (laysM A (I 60 (I 58 1).toNat) (I 59 (I 58 1).toNat) (I 62 (I 58 1).toNat)) := by
      unfold redoR
      rw [if_neg (by rw [a81]; omega), eM]
    rw [eR]
    have eU : ∀ M : IM, ∀ b, b ≠ 81 → redoN M b = M b := fun M b hb => by unfold redoN upA; rw [if_neg hb, if_neg hb]
    obtain ⟨c82, c83, c85⟩ := lays_c (I := A) (a := I 59 (I 58 1).toNat) (v := I 62 (I 58 1).toNat) (may3 hmy)
    rw [hAk 82 (by decide) (by decide)] at c82
    rw [hAk 83 (by decide) (by decide)] at c83
    rw [hAk 85 (by decide) (by decide)] at c85
    generalize hL : laysM A (I 60 (I 58 1).toNat) (I 59 (I 58 1).toNat) (I 62 (I 58 1).toNat) = M at c82 c83 c85 ⊢
    have hM : ∀ b, b ≠ 82 ∧ b ≠ 83 ∧ b ≠ 85 → M b = A b := fun b hb => by rw [← hL, lays_o hb]
    have q := tc_core (P := I) (A2 := redoN M) ht hc hmy (fun b hb => rfl) (fun b hb => by rw [eU M b (by omega), hM b (by omega), hA b (by omega)]) ((eU M 82 (by decide)).trans c82) ((eU M 83 (by decide)).trans c83) ((eU M 85 (by decide)).trans c85) (fun k h1 h2 => by
      show up1 (up1 (M 81) 9 (M 81 9 + 1)) 10 _ k = _
      rw [up1_ne h2, up1_ne h1, hM 81 (by decide), a81])
    have e58 : redoN M 58 = up1 (I 58) 1 (I 58 1 + 1) := by rw [eU M 58 (by decide), hM 58 (by decide), hA58]
    have eo : ∀ b, (58 < b ∧ b < 63) ∨ (88 < b ∧ b < 93) → redoN M b = I b := fun b hb => by
      rw [eU M b (by omega), hM b (by omega), hAk b (by omega) (by omega)]
    have e81 : redoN M 81 9 = I 81 9 + 1 ∧ redoN M 81 10 = I 81 10 - 1 := by
      show M 81 9 + 1 = _ ∧ M 81 10 - 1 = _
      rw [hM 81 (by decide), a81]
      exact ⟨rfl, rfl⟩
    refine ⟨?_, lw, n, m0, m1, i0, i1, Iv_t hv q.1 q.2.1 ?_ q.2.2⟩
    · unfold redoZ
      rw [if_neg (by rw [a81]; omega), a81, g3]
    · unfold Chg
      rw [e58, eo 59 (by decide), eo 60 (by decide), eo 61 (by decide), eo 62 (by decide), eo 89 (by decide), eo 90 (by decide), eo 91 (by decide), eo 92 (by decide), e81.1, e81.2]
      have u1 : up1 (I 58) 1 (I 58 1 + 1) 1 = I 58 1 + 1 := up1_self
      have u0 : up1 (I 58) 1 (I 58 1 + 1) 0 = I 58 0 := up1_ne (by decide)
      rw [u1, u0]
      exact ⟨by omega, by omega, by omega, g4, g5, g6, g7, g8⟩
