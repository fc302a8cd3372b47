/-! keep, row, put, shift -/
def ShC (I J : IM) (k : Nat) : Prop := (((0 ≤ I (67 + 2 * k) 0 ∧ I (67 + 2 * k) 0 ≤ 2) ∧ 0 ≤ I (67 + 2 * k) 3 ∧ I (67 + 2 * k) 3 ≤ 60) ∧ 0 ≤ I (67 + 2 * k) 2 ∧ I (67 + 2 * k) 2 ≤ 4) ∧ I 119 k = I (67 + 2 * k) 3 ∧ I 118 k = (if I (67 + 2 * k) 0 = 0 then -1 else if I (67 + 2 * k) 0 = 1 then I (67 + 2 * k) 1 else -2 - I (67 + 2 * k) 2) ∧ (I (67 + 2 * k) 0 = 1 → 0 ≤ I (67 + 2 * k) 1 ∧ I (67 + 2 * k) 1 < I 63 0) ∧ (∀ j, j < 60 → J 120 (60 * k + j) = J (68 + 2 * k) j) ∧ (I (67 + 2 * k) 0 = 2 → I (67 + 2 * k) 2 = 2 → ∀ j, j < 60 → rg (J (68 + 2 * k) j))
theorem Iv_s {I J A B : IM} {lw : Lw} {n : Nat} {m0 m1 i0 i1 : Mx} (h : Iv I J lw n m0 m1 i0 i1) (e : ∀ a, (a < 67 ∨ 78 < a) → a ≠ 118 → a ≠ 119 → A a = I a) (hs : Shls A B) : Iv A B lw n m0 m1 i0 i1 := by
  obtain ⟨ht, hg, hm, hi, ha, -, hp, hl, hc, hb⟩ := h
  have g : ∀ a, a < 67 → A a = I a := fun a h => e a (Or.inl h) (by omega) (by omega)
  have g2 : ∀ a, 78 < a → a < 118 → A a = I a := fun a h h2 => e a (Or.inr h) (by omega) (by omega)
  have e81 := g2 81 (by decide) (by decide)
  refine ⟨Town_of (by rw [g 6 (by decide)]) (g 7 (by decide)) (g 8 (by decide)) (g 9 (by decide)) (g 10 (by decide)) (by rw [e81]) (g2 82 (by decide) (by decide)) (g2 83 (by decide) (by decide)) (g2 84 (by decide) (by decide)) (g2 85 (by decide) (by decide)) ht,
    Chg_of (g 58 (by decide)) (g 59 (by decide)) (g 60 (by decide)) (g 61 (by decide)) (g 62 (by decide)) (by rw [e81]) (by rw [e81]) (g2 89 (by decide) (by decide)) (g2 90 (by decide) (by decide)) (g2 91 (by decide) (by decide)) (g2 92 (by decide) (by decide)) hg,
    Mixs_of (g 14 (by decide)) (g 15 (by decide)) (g 16 (by decide)) (g 17 (by decide)) (g 18 (by decide)) (g 19 (by decide)) (g2 86 (by decide) (by decide)) (g2 87 (by decide) (by decide)) (g2 88 (by decide) (by decide)) hm,
    Imgs_of (by rw [g 0 (by decide)]) (by rw [e81]) (g 21 (by decide)) (g 22 (by decide)) (g 23 (by decide)) (g 24 (by decide)) (g 25 (by decide)) (g 26 (by decide)) (g2 113 (by decide) (by decide)) (g2 114 (by decide) (by decide)) (g2 115 (by decide) (by decide)) hi,
    Acts_of (by rw [g 63 (by decide)]) (by rw [g 63 (by decide)]) (g 64 (by decide)) (g 65 (by decide)) (by rw [e81]) (by rw [e81]) (g2 116 (by decide) (by decide)) (g2 117 (by decide) (by decide)) ha,
    hs,
    Tape_of (by rw [g 1 (by decide)]) (g 2 (by decide)) (by rw [e81]) (g2 94 (by decide) (by decide)) hp,
    LawI_congr (by rw [g 1 (by decide)]) (g 4 (by decide)) (by rw [e81]) (g2 95 (by decide) (by decide)) (g2 96 (by decide) (by decide)) (by rw [g2 97 (by decide) (by decide)]) (g2 98 (by decide) (by decide)) (g2 99 (by decide) (by decide)) hl, CchI_of (g 7 (by decide)) (g 8 (by decide)) (g 9 (by decide)) (g 11 (by decide)) (g 12 (by decide)) hc, fun j => by rw [g2 104 (by decide) (by decide)]; exact hb j⟩
theorem Shls_upd {I J A B : IM} {v : Nat} (hs : Shls I J) (e63 : A 63 0 = I 63 0) (hk : ∀ k, k < 6 → k ≠ v → A (67 + 2 * k) = I (67 + 2 * k) ∧ A 118 k = I 118 k ∧ A 119 k = I 119 k ∧ B (68 + 2 * k) = J (68 + 2 * k) ∧ ∀ j, j < 60 → B 120 (60 * k + j) = J 120 (60 * k + j)) (hv : v < 6 → ShC A B v) : Shls A B := fun k hk6 => by
  by_cases e : k = v
  · subst e; exact hv hk6
  · obtain ⟨e1, e2, e3, e4, e5⟩ := hk k hk6 e
    obtain ⟨h1, h2, h3, h4, h5, h6⟩ := hs k hk6
    rw [e1, e2, e3, e4, e63]
    exact ⟨h1, h2, h3, h4, fun j hj => (e5 j hj).trans (h5 j hj), h6⟩
theorem hbM_ne {I : IM} {o d : Nat} {n : Int} (h : d ≠ o) : hbM I o n d = I d := by simp [hbM, hb1, upA, h]
theorem hrM_ne {I : IM} {o d : Nat} {s n : Int} (h : d ≠ o) : hrM I o s n d = I d := by simp [hrM, hr2, hb1, upA, h]
theorem hbM_at {I : IM} {o : Nat} {n : Int} : hbM I o n o 0 = (if n < 0 then 0 else 1) ∧ hbM I o n o 1 = n ∧ hbM I o n o 2 = I o 2 ∧ hbM I o n o 3 = I o 3 := by
  refine ⟨?_, ?_, ?_, ?_⟩ <;> simp [hbM, hb1, upA, up1]
theorem hrM_at {I : IM} {o : Nat} {s n : Int} : hrM I o s n o 0 = 2 ∧ hrM I o s n o 2 = s ∧ hrM I o s n o 3 = n := by
  refine ⟨?_, ?_, ?_⟩ <;> simp [hrM, hr2, hb1, upA, up1]
theorem fillF_ne {J : IM} {a b n d : Nat} {z : Int} (h : d ≠ a) : fillF J a b n z d = J d := by unfold fillF; exact upA_ne h
theorem fillF_at {J : IM} {a b n j : Nat} {z : Int} : fillF J a b n z a j = if b ≤ j ∧ j < b + n then z else J a j := by unfold fillF; rw [upA_self]
theorem fillM_ne {J : IM} {a n d : Nat} {z : Int} (h : d ≠ a) : fillM J a n z d = J d := by unfold fillM; exact upA_ne h
theorem fillM_at {J : IM} {a n j : Nat} {z : Int} : fillM J a n z a j = if j < n then z else J a j := by unfold fillM; rw [upA_self]
theorem copF_ne {J : IM} {a b n d : Nat} {g : Nat → Int} (h : d ≠ a) : copF J a b n g d = J d := by unfold copF; exact upA_ne h
theorem copF_pl {J : IM} {a b n j : Nat} {g : Nat → Int} : copF J a b n g a j = if b ≤ j ∧ j < b + n then g (j - b) else J a j := by unfold copF; rw [upA_self]
theorem op_keep {X : pX} {h : Nat} (a b : Int) (ha : rg a) (hb : rg b) : OpI X (h + 100) mX11_keep mX12_keep [zi a, zi b] := fun I J hI => by
  obtain ⟨lw, n, m0, m1, i0, i1, ht, hg, hm, hi, hac, hs, hp, hl, hcc, hbk⟩ := hI
  have hv : Iv I J lw n m0 m1 i0 i1 := ⟨ht, hg, hm, hi, hac, hs, hp, hl, hcc, hbk⟩
  obtain ⟨t1, t2, t3, t4, t5, t6, t7, t8, t9⟩ := id ht
  obtain ⟨x1, x2, x3, x4, x5⟩ := id hm
  obtain ⟨a1, a2, a3, a4, a5, a6, a7⟩ := id hac
  refine KIq.mono (c_X11_keep X _ I J a b ha hb a1) ?_
  rintro z A B ⟨rfl, rfl, rfl⟩
  by_cases c : keepOK (I 63 0) a b
  · have eA : keepM I a b = hbM I (67 + 2 * a.toNat) b := if_pos c
    have e81 : hbM I (67 + 2 * a.toNat) b 81 = I 81 := hbM_ne (by omega)
    have e118 : hbM I (67 + 2 * a.toNat) b 118 = I 118 := hbM_ne (by omega)
    rw [eA, if_pos c]
    refine KIq.mono (c_X12_keep X _ _ B a b ha hb (by rw [e81]; omega)) ?_
    rintro z2 A2 B2 ⟨rfl, rfl, rfl⟩
    have c2 : keepOR (hbM I (67 + 2 * a.toNat) b 81 51) a b := by rw [e81]; exact ⟨c.1, by omega⟩
    have eR : keepR (hbM I (67 + 2 * a.toNat) b) a b = upA (hbM I (67 + 2 * a.toNat) b) 118 (up1 (hbM I (67 + 2 * a.toNat) b 118) a.toNat b) := if_pos c2
    rw [eR, if_pos c2]
    refine ⟨rfl, lw, n, m0, m1, i0, i1, Iv_s hv (fun d h1 h2 h3 => ?_) (Shls_upd (v := a.toNat) hs ?_ (fun k hk hne => ?_) (fun hk => ?_))⟩
    · rw [upA_ne h2, hbM_ne (by omega)]
    · rw [upA_ne (by decide), hbM_ne (by omega)]
    · refine ⟨by rw [upA_ne (by omega), hbM_ne (by omega)], by rw [upA_self, up1_ne hne, e118], by rw [upA_ne (by decide), hbM_ne (by omega)], rfl, fun j hj => rfl⟩
    · obtain ⟨h1, h2, h3, h4, h5, h6⟩ := hs a.toNat hk
      have fo := hbM_at (I := I) (o := 67 + 2 * a.toNat) (n := b)
      have eo : upA (hbM I (67 + 2 * a.toNat) b) 118 (up1 (hbM I (67 + 2 * a.toNat) b 118) a.toNat b) (67 + 2 * a.toNat) = hbM I (67 + 2 * a.toNat) b (67 + 2 * a.toNat) := upA_ne (by omega)
      have eq118 : upA (hbM I (67 + 2 * a.toNat) b) 118 (up1 (hbM I (67 + 2 * a.toNat) b 118) a.toNat b) 118 a.toNat = b := by rw [upA_self, up1_self]
      have eq119 : upA (hbM I (67 + 2 * a.toNat) b) 118 (up1 (hbM I (67 + 2 * a.toNat) b 118) a.toNat b) 119 a.toNat = I 119 a.toNat := by rw [upA_ne (by decide), hbM_ne (by omega)]
      have eq63 : upA (hbM I (67 + 2 * a.toNat) b) 118 (up1 (hbM I (67 + 2 * a.toNat) b 118) a.toNat b) 63 0 = I 63 0 := by rw [upA_ne (by decide), hbM_ne (by omega)]
      unfold ShC
      rw [eo, eq118, eq119, eq63, fo.1, fo.2.1, fo.2.2.1, fo.2.2.2]
      by_cases b0 : b < 0
      · rw [if_pos b0]
        exact ⟨⟨⟨by decide, h1.1.2⟩, h1.2⟩, h2, by rw [if_pos rfl]; omega, fun q => absurd q (by decide), h5, fun q => absurd q (by decide)⟩
      · rw [if_neg b0]
        exact ⟨⟨⟨by decide, h1.1.2⟩, h1.2⟩, h2, by rw [if_neg (by decide), if_pos rfl], fun _ => by omega, h5, fun q => absurd q (by decide)⟩
  · have eA : keepM I a b = I := if_neg c
    rw [eA, if_neg c]
    refine KIq.mono (c_X12_keep X _ _ B a b ha hb (by omega)) ?_
    rintro z2 A2 B2 ⟨rfl, rfl, rfl⟩
    have c2 : ¬ keepOR (I 81 51) a b := fun q => c ⟨q.1, by omega⟩
    have eR : keepR I a b = I := if_neg c2
    rw [eR, if_neg c2]
    exact ⟨rfl, lw, n, m0, m1, i0, i1, hv⟩
theorem op_row {X : pX} {h : Nat} (a b c : Int) (ha : rg a) (hb : rg b) (hc : rg c) : OpI X (h + 100) mX11_row mX12_row [zi a, zi b, zi c] := fun I J hI => by
  obtain ⟨lw, n, m0, m1, i0, i1, ht, hg, hm, hi, hac, hs, hp, hl, hcc, hbk⟩ := hI
  have hv : Iv I J lw n m0 m1 i0 i1 := ⟨ht, hg, hm, hi, hac, hs, hp, hl, hcc, hbk⟩
  obtain ⟨t1, t2, t3, t4, t5, t6, t7, t8, t9⟩ := id ht
  obtain ⟨x1, x2, x3, x4, x5⟩ := id hm
  refine KIq.mono (c_X11_row X _ I J a b c ha hb hc) ?_
  rintro z A B ⟨rfl, rfl, rfl⟩
  by_cases k : rowOK a b c ∧ 0 ≤ c
  · have eA : rowM I a b c = hrM I (67 + 2 * a.toNat) b c := if_pos k
    have eB : rowJ J a b c = fillM J (68 + 2 * a.toNat) 60 0 := if_pos k
    have e118 : hrM I (67 + 2 * a.toNat) b c 118 = I 118 := hrM_ne (by omega)
    have e119 : hrM I (67 + 2 * a.toNat) b c 119 = I 119 := hrM_ne (by omega)
    have e120 : fillM J (68 + 2 * a.toNat) 60 0 120 = J 120 := fillM_ne (by omega)
    rw [eA, eB]
    refine KIq.mono (c_X12_row X _ _ _ a b c ha hb hc) ?_
    rintro z2 A2 B2 ⟨rfl, rfl, rfl⟩
    have eR : rowR (hrM I (67 + 2 * a.toNat) b c) a b c = upA (upA (hrM I (67 + 2 * a.toNat) b c) 118 (up1 (hrM I (67 + 2 * a.toNat) b c 118) a.toNat (-2 - b))) 119 (up1 (hrM I (67 + 2 * a.toNat) b c 119) a.toNat c) := if_pos k
    have eJ : rowJR (fillM J (68 + 2 * a.toNat) 60 0) a b c = fillF (fillM J (68 + 2 * a.toNat) 60 0) 120 (60 * a).toNat 60 0 := if_pos k
    rw [eR, eJ]
    refine ⟨rfl, lw, n, m0, m1, i0, i1, Iv_s hv (fun d h1 h2 h3 => ?_) (Shls_upd (v := a.toNat) hs ?_ (fun k2 hk hne => ?_) (fun hk => ?_))⟩
    · rw [upA_ne h3, upA_ne h2, hrM_ne (by omega)]
    · rw [upA_ne (by decide), upA_ne (by decide), hrM_ne (by omega)]
    · refine ⟨by rw [upA_ne (by omega), upA_ne (by omega), hrM_ne (by omega)], by rw [upA_ne (by decide), upA_self, up1_ne hne, e118], by rw [upA_self, up1_ne hne, e119], by rw [fillF_ne (by omega), fillM_ne (by omega)], fun j hj => ?_⟩
      rw [fillF_at, if_neg (by omega), e120]
    · obtain ⟨h1, h2, h3, h4, h5, h6⟩ := hs a.toNat hk
      have fo := hrM_at (I := I) (o := 67 + 2 * a.toNat) (s := b) (n := c)
      have eo : upA (upA (hrM I (67 + 2 * a.toNat) b c) 118 (up1 (hrM I (67 + 2 * a.toNat) b c 118) a.toNat (-2 - b))) 119 (up1 (hrM I (67 + 2 * a.toNat) b c 119) a.toNat c) (67 + 2 * a.toNat) = hrM I (67 + 2 * a.toNat) b c (67 + 2 * a.toNat) := by rw [upA_ne (by omega), upA_ne (by omega)]
      have eq118 : upA (upA (hrM I (67 + 2 * a.toNat) b c) 118 (up1 (hrM I (67 + 2 * a.toNat) b c 118) a.toNat (-2 - b))) 119 (up1 (hrM I (67 + 2 * a.toNat) b c 119) a.toNat c) 118 a.toNat = -2 - b := by rw [upA_ne (by decide), upA_self, up1_self]
      have eq119 : upA (upA (hrM I (67 + 2 * a.toNat) b c) 118 (up1 (hrM I (67 + 2 * a.toNat) b c 118) a.toNat (-2 - b))) 119 (up1 (hrM I (67 + 2 * a.toNat) b c 119) a.toNat c) 119 a.toNat = c := by rw [upA_self, up1_self]
      unfold ShC
      rw [eo, eq118, eq119, fo.1, fo.2.1, fo.2.2, fillF_ne (show 68 + 2 * a.toNat ≠ 120 by omega)]
      refine ⟨⟨⟨by decide, k.2, k.1.2.2⟩, k.1.2.1⟩, rfl, by rw [if_neg (by decide), if_neg (by decide)], fun q => absurd q (by decide), fun j hj => ?_, fun _ _ j hj => ?_⟩
      · rw [fillF_at, if_pos (by omega), fillM_at, if_pos hj]
      · rw [fillM_at, if_pos hj]; decide
  · have eA : rowM I a b c = I := if_neg k
    have eB : rowJ J a b c = J := if_neg k
    rw [eA, eB]
    refine KIq.mono (c_X12_row X _ _ _ a b c ha hb hc) ?_
    rintro z2 A2 B2 ⟨rfl, rfl, rfl⟩
    have eR : rowR I a b c = I := if_neg k
    have eJ : rowJR J a b c = J := if_neg k
    rw [eR, eJ]
    exact ⟨rfl, lw, n, m0, m1, i0, i1, hv⟩
theorem op_put {X : pX} {h : Nat} (a b c : Int) (ha : rg a) (hb : rg b) (hc : rl c) : OpI X (h + 100) mX11_put mX12_put [zi a, zi b, zl c] := fun I J hI => by
  obtain ⟨lw, n, m0, m1, i0, i1, ht, hg, hm, hi, hac, hs, hp, hl, hcc, hbk⟩ := hI
  have hv : Iv I J lw n m0 m1 i0 i1 := ⟨ht, hg, hm, hi, hac, hs, hp, hl, hcc, hbk⟩
  obtain ⟨t1, t2, t3, t4, t5, t6, t7, t8, t9⟩ := id ht
  obtain ⟨x1, x2, x3, x4, x5⟩ := id hm
  refine KIq.mono (c_X11_put X _ I J a b c ha hb hc hs.C) ?_
  rintro z A B ⟨rfl, rfl, rfl⟩
  refine KIq.mono (c_X12_put X _ _ _ a b c ha hb hc (hs.R hac.1.2)) ?_
  rintro z2 A2 B2 ⟨rfl, rfl, rfl⟩
  by_cases hv5 : 0 ≤ a ∧ a ≤ 5
  · have hw := why_eq (i := b) hs hv5
    have hr := rfC_rg (I := A2) (v := a) (i := b)
    by_cases e : rfC A2 a b = 0
    · have eB : putJC A2 J a b c = upA J (68 + 2 * a.toNat) (up1 (J (68 + 2 * a.toNat)) b.toNat (lowZ (A2 (67 + 2 * a.toNat) 2) c)) := if_pos ⟨hv5, e⟩
      have eJ : putJR A2 (putJC A2 J a b c) a b c = upA (putJC A2 J a b c) 120 (up1 (putJC A2 J a b c 120) (60 * a + b).toNat (lowZ (-2 - A2 118 a.toNat) c)) := if_neg (by omega)
      have ez : putZR A2 a b = putZC A2 a b := by
        unfold putZR putZC
        rw [if_neg (by omega), if_pos hv5, if_pos e]
      have q := refZ_0.mp e
      obtain ⟨h1, h2, h3, h4, h5, h6⟩ := hs a.toNat (by omega)
      have es : -2 - A2 118 a.toNat = A2 (67 + 2 * a.toNat) 2 := by
        rw [h3, if_neg (by omega), if_neg (by omega)]; omega
      have e120 : upA J (68 + 2 * a.toNat) (up1 (J (68 + 2 * a.toNat)) b.toNat (lowZ (A2 (67 + 2 * a.toNat) 2) c)) 120 = J 120 := upA_ne (by omega)
      rw [eJ, eB, es, e120]
      refine ⟨ez, lw, n, m0, m1, i0, i1, Iv_s hv (fun d _ _ _ => rfl) (Shls_upd (v := a.toNat) hs rfl (fun k hk hne => ?_) (fun hk => ?_))⟩
      · refine ⟨rfl, rfl, rfl, by rw [upA_ne (by omega), upA_ne (by omega)], fun j hj => ?_⟩
        rw [upA_self, up1_ne (by omega)]
      · have eo : upA (upA J (68 + 2 * a.toNat) (up1 (J (68 + 2 * a.toNat)) b.toNat (lowZ (A2 (67 + 2 * a.toNat) 2) c))) 120 (up1 (J 120) (60 * a + b).toNat (lowZ (A2 (67 + 2 * a.toNat) 2) c)) (68 + 2 * a.toNat) = up1 (J (68 + 2 * a.toNat)) b.toNat (lowZ (A2 (67 + 2 * a.toNat) 2) c) := by rw [upA_ne (by omega), upA_self]
        unfold ShC
        rw [eo]
        refine ⟨h1, h2, h3, h4, fun j hj => ?_, fun q1 q2 j hj => ?_⟩
        · rw [upA_self]
          by_cases ej : j = b.toNat
          · rw [ej, show (60 * a + b).toNat = 60 * a.toNat + b.toNat by omega, up1_self, up1_self]
          · rw [up1_ne (by omega), up1_ne ej]; exact h5 j hj
        · by_cases ej : j = b.toNat
          · rw [ej, up1_self, low_2 q2]; exact bm32r c
          · rw [up1_ne ej]; exact h6 q1 q2 j hj
    · have eB : putJC A2 J a b c = J := if_neg (fun q => e q.2)
      have eJ : putJR A2 (putJC A2 J a b c) a b c = putJC A2 J a b c := if_pos (by omega)
      have ez : putZR A2 a b = putZC A2 a b := by
        unfold putZR putZC
        rw [if_pos (by omega), if_pos hv5, if_neg e, hw]
      rw [eJ, eB]
      exact ⟨ez, lw, n, m0, m1, i0, i1, hv⟩
  · have hw : whyZ A2 a b = -1 := if_pos hv5
    have eB : putJC A2 J a b c = J := if_neg (fun q => hv5 q.1)
    have eJ : putJR A2 (putJC A2 J a b c) a b c = putJC A2 J a b c := if_pos (by omega)
    have ez : putZR A2 a b = putZC A2 a b := by
      unfold putZR putZC
      rw [if_pos (by omega), if_neg hv5, hw]
    rw [eJ, eB]
    exact ⟨ez, lw, n, m0, m1, i0, i1, hv⟩
theorem sh3 {I J : IM} (hs : Shls I J) {v : Nat} (hv : v < 6) : (I (67 + 2 * v) 0 = 0 ∧ I 118 v = -1) ∨ (I (67 + 2 * v) 0 = 1 ∧ I 118 v = I (67 + 2 * v) 1 ∧ 0 ≤ I (67 + 2 * v) 1) ∨ (I (67 + 2 * v) 0 = 2 ∧ I 118 v = -2 - I (67 + 2 * v) 2 ∧ 0 ≤ I (67 + 2 * v) 2) := by
  obtain ⟨h1, h2, h3, h4, h5, h6⟩ := hs v hv
  have e0 := h1.1.1
  by_cases c0 : I (67 + 2 * v) 0 = 0
  · rw [if_pos c0] at h3; exact Or.inl ⟨c0, h3⟩
  · rw [if_neg c0] at h3
    by_cases c1 : I (67 + 2 * v) 0 = 1
    · rw [if_pos c1] at h3; exact Or.inr (Or.inl ⟨c1, h3, (h4 c1).1⟩)
    · rw [if_neg c1] at h3; exact Or.inr (Or.inr ⟨by omega, h3, h1.2.1⟩)
theorem shi_eq {I J : IM} (hs : Shls I J) {a b c d e : Int} : (shiOK I a b c d e ↔ shiOC I a b c d e) ∧ shiZR I a b c d e = shiZC I a b c d e := by
  unfold shiOK shiOC shiZR shiZC
  by_cases hv : (0 ≤ a ∧ a ≤ 5) ∧ 0 ≤ c ∧ c ≤ 5
  · have s1 := sh3 hs (v := a.toNat) (by omega)
    have s2 := sh3 hs (v := c.toNat) (by omega)
    have l1 := (hs a.toNat (by omega)).2.1
    have l2 := (hs c.toNat (by omega)).2.1
    rw [l1, l2]
    refine ⟨by omega, ?_⟩
    rw [if_neg (show ¬ ¬ ((0 ≤ a ∧ a ≤ 5) ∧ 0 ≤ c ∧ c ≤ 5) from fun q => q hv), if_neg (show ¬ ¬ ((0 ≤ a ∧ a ≤ 5) ∧ 0 ≤ c ∧ c ≤ 5) from fun q => q hv)]
    (repeat' split) <;> first | rfl | omega
  · rw [if_pos hv, if_pos hv]
    exact ⟨⟨fun q => absurd q.1 hv, fun q => absurd q.1 hv⟩, rfl⟩
theorem op_shift {X : pX} {h : Nat} (a b c d e : Int) (ha : rg a) (hb : rg b) (hc : rg c) (hd : rg d) (he : rg e) : OpI X (h + 100) mX11_shift mX12_shift [zi a, zi b, zi c, zi d, zi e] := fun I J hI => by
  obtain ⟨lw, n, m0, m1, i0, i1, ht, hg, hm, hi, hac, hs, hp, hl, hcc, hbk⟩ := hI
  have hv : Iv I J lw n m0 m1 i0 i1 := ⟨ht, hg, hm, hi, hac, hs, hp, hl, hcc, hbk⟩
  obtain ⟨t1, t2, t3, t4, t5, t6, t7, t8, t9⟩ := id ht
  obtain ⟨x1, x2, x3, x4, x5⟩ := id hm
  refine KIq.mono (c_X11_shift X _ I J a b c d e ha hb hc hd he hs.C) ?_
  rintro z A B ⟨rfl, rfl, rfl⟩
  refine KIq.mono (c_X12_shift X _ _ _ a b c d e ha hb hc hd he (hs.R hac.1.2)) ?_
  rintro z2 A2 B2 ⟨rfl, rfl, rfl⟩
  obtain ⟨k1, k2⟩ := shi_eq (a := a) (b := b) (c := c) (d := d) (e := e) hs
  by_cases ok : shiOC A2 a b c d e
  · have eB : shiJC A2 J a b c d e = upA J (68 + 2 * c.toNat) (va_cpy (J (68 + 2 * a.toNat)) (J (68 + 2 * c.toNat)) b.toNat d.toNat e.toNat) := if_pos ok
    have eJ : shiJR A2 (shiJC A2 J a b c d e) a b c d e = copF (copF (shiJC A2 J a b c d e) 121 0 e.toNat (shiF (shiJC A2 J a b c d e) a b)) 120 (60 * c + d).toNat e.toNat (shiF (shiJC A2 J a b c d e) a b) := if_pos (k1.mpr ok)
    rw [eJ, eB]
    obtain ⟨o1, o2, o3, o4⟩ := ok
    have e120 : upA J (68 + 2 * c.toNat) (va_cpy (J (68 + 2 * a.toNat)) (J (68 + 2 * c.toNat)) b.toNat d.toNat e.toNat) 120 = J 120 := upA_ne (by omega)
    obtain ⟨h1, h2, h3, h4, h5, h6⟩ := hs a.toNat (by omega)
    obtain ⟨g1, g2, g3, g4, g5, g6⟩ := hs c.toNat (by omega)
    refine ⟨k2, lw, n, m0, m1, i0, i1, Iv_s hv (fun d _ _ _ => rfl) (Shls_upd (v := c.toNat) hs rfl (fun k hk hne => ?_) (fun hk => ?_))⟩
    · refine ⟨rfl, rfl, rfl, by rw [copF_ne (by omega), copF_ne (by omega), upA_ne (by omega)], fun j hj => ?_⟩
      rw [copF_pl, if_neg (by omega), copF_ne (by decide), e120]
    · have eo : copF (copF (upA J (68 + 2 * c.toNat) (va_cpy (J (68 + 2 * a.toNat)) (J (68 + 2 * c.toNat)) b.toNat d.toNat e.toNat)) 121 0 e.toNat (shiF (upA J (68 + 2 * c.toNat) (va_cpy (J (68 + 2 * a.toNat)) (J (68 + 2 * c.toNat)) b.toNat d.toNat e.toNat)) a b)) 120 (60 * c + d).toNat e.toNat (shiF (upA J (68 + 2 * c.toNat) (va_cpy (J (68 + 2 * a.toNat)) (J (68 + 2 * c.toNat)) b.toNat d.toNat e.toNat)) a b) (68 + 2 * c.toNat) = va_cpy (J (68 + 2 * a.toNat)) (J (68 + 2 * c.toNat)) b.toNat d.toNat e.toNat := by rw [copF_ne (by omega), copF_ne (by omega), upA_self]
      unfold ShC
      rw [eo]
      refine ⟨g1, g2, g3, g4, fun j hj => ?_, fun q1 q2 j hj => ?_⟩
      · rw [copF_pl]
        by_cases ej : d.toNat ≤ j ∧ j < d.toNat + e.toNat
        · rw [if_pos (by omega), pk_cpy_in ej.1 ej.2]
          show upA J (68 + 2 * c.toNat) (va_cpy (J (68 + 2 * a.toNat)) (J (68 + 2 * c.toNat)) b.toNat d.toNat e.toNat) 120 ((60 * a + b).toNat + (60 * c.toNat + j - (60 * c + d).toNat)) = _
          rw [e120, show (60 * a + b).toNat + (60 * c.toNat + j - (60 * c + d).toNat) = 60 * a.toNat + (b.toNat + (j - d.toNat)) by omega]
          exact h5 _ (by omega)
        · rw [if_neg (by omega), pk_cpy_out (by omega), copF_ne (by decide), e120]
          exact g5 j hj
      · by_cases ej : d.toNat ≤ j ∧ j < d.toNat + e.toNat
        · rw [pk_cpy_in ej.1 ej.2]
          exact h6 o2.1 (by rw [o2.2.2]; exact q2) _ (by omega)
        · rw [pk_cpy_out (by omega)]
          exact g6 q1 q2 j hj
  · have eB : shiJC A2 J a b c d e = J := if_neg ok
    have eJ : shiJR A2 (shiJC A2 J a b c d e) a b c d e = shiJC A2 J a b c d e := if_neg (fun q => ok (k1.mp q))
    rw [eJ, eB]
    exact ⟨k2, lw, n, m0, m1, i0, i1, hv⟩
