/-! mix, mixes, image, back -/
theorem Iv_m {I J A : IM} {lw : Lw} {n : Nat} {m0 m1 i0 i1 p0 p1 : Mx} (h : Iv I J lw n m0 m1 i0 i1) (e : ∀ a, a < 14 ∨ (19 < a ∧ a ≠ 79 ∧ (a < 86 ∨ 88 < a) ∧ a ≠ 93) → A a = I a) (hm : Mixs A p0 p1) : Iv A J lw n p0 p1 i0 i1 := by
  obtain ⟨ht, hg, -, hi, ha, hs, hp, hl, hc, hb⟩ := h
  have e81 := e 81 (by decide)
  refine ⟨Town_of (by rw [e 6 (by decide)]) (e 7 (by decide)) (e 8 (by decide)) (e 9 (by decide)) (e 10 (by decide)) (by rw [e81]) (e 82 (by decide)) (e 83 (by decide)) (e 84 (by decide)) (e 85 (by decide)) ht,
    Chg_of (e 58 (by decide)) (e 59 (by decide)) (e 60 (by decide)) (e 61 (by decide)) (e 62 (by decide)) (by rw [e81]) (by rw [e81]) (e 89 (by decide)) (e 90 (by decide)) (e 91 (by decide)) (e 92 (by decide)) hg, hm,
    Imgs_of (by rw [e 0 (by decide)]) (by rw [e81]) (e 21 (by decide)) (e 22 (by decide)) (e 23 (by decide)) (e 24 (by decide)) (e 25 (by decide)) (e 26 (by decide)) (e 113 (by decide)) (e 114 (by decide)) (e 115 (by decide)) hi,
    Acts_of (by rw [e 63 (by decide)]) (by rw [e 63 (by decide)]) (e 64 (by decide)) (e 65 (by decide)) (by rw [e81]) (by rw [e81]) (e 116 (by decide)) (e 117 (by decide)) ha,
    Shls_of (fun k hk => e _ (by omega)) (e 118 (by decide)) (e 119 (by decide)) (by rw [e 63 (by decide)]) (fun _ _ => rfl) rfl hs,
    Tape_of (by rw [e 1 (by decide)]) (e 2 (by decide)) (by rw [e81]) (e 94 (by decide)) hp,
    LawI_congr (by rw [e 1 (by decide)]) (e 4 (by decide)) (by rw [e81]) (e 95 (by decide)) (e 96 (by decide)) (by rw [e 97 (by decide)]) (e 98 (by decide)) (e 99 (by decide)) hl, CchI_of (e 7 (by decide)) (e 8 (by decide)) (e 9 (by decide)) (e 11 (by decide)) (e 12 (by decide)) hc, fun j => by rw [e 104 (by decide)]; exact hb j⟩
theorem mxsS_congr {E E2 : Nat → Int} {len i : Int} {n : Nat} {L : Int} (h60 : len ≤ 60) (hE : ∀ j, j < 60 → E j = E2 j) : ∀ (f k : Nat) (m : Mx), mxsS E len i n L f k m = mxsS E2 len i n L f k m
  | 0, k, m => rfl
  | f + 1, k, m => by
    unfold mxsS
    by_cases c : 0 ≤ i ∧ i + 2 * (k : Int) + 1 < len
    · have e0 := hE (i.toNat + 2 * k) (by omega)
      have e1 := hE (i.toNat + 2 * k + 1) (by omega)
      have eq : okE E len i n L m k ↔ okE E2 len i n L m k := by unfold okE; rw [e0, e1]
      by_cases o : okE E len i n L m k
      · rw [if_pos o, if_pos (eq.mp o), e0, e1]
        exact mxsS_congr h60 hE f (k + 1) _
      · rw [if_neg o, if_neg (fun q => o (eq.mpr q))]
    · rw [if_neg (fun q => c q.1), if_neg (fun q => c q.1)]
theorem shc_eq {I J : IM} (h : Shls I J) {v : Int} (hv : 0 ≤ v ∧ v ≤ 5) : (shC I v = -1 ↔ I 118 v.toNat = -1) ∧ (shC I v = -4 ↔ I 118 v.toNat = -4) := by
  obtain ⟨h1, h2, h3, h4, h5, h6⟩ := h v.toNat (by omega)
  rw [h3]
  unfold shC
  have e0 := h1.1.1
  by_cases c0 : I (67 + 2 * v.toNat) 0 = 0
  · rw [if_pos c0, if_pos c0]; exact ⟨Iff.rfl, Iff.rfl⟩
  · rw [if_neg c0, if_neg c0]
    by_cases c1 : I (67 + 2 * v.toNat) 0 = 1
    · have := h4 c1
      rw [if_pos c1, if_neg (by omega)]; omega
    · rw [if_neg c1, if_pos (by omega)]; exact ⟨Iff.rfl, Iff.rfl⟩
theorem mxs_eqZ {E E2 : Nat → Int} {c c2 len : Int} {n : Nat} {Q : Nat → Int} {m0 m1 : Mx} {v i bn : Int} (h60 : len ≤ 60) (hE : ∀ j, j < 60 → E j = E2 j) (h1 : c = -1 ↔ c2 = -1) (h4 : c = -4 ↔ c2 = -4) : mxsZ E c len n Q m0 m1 v i bn = mxsZ E2 c2 len n Q m0 m1 v i bn ∧ ∀ b, mxsM E c len n Q m0 m1 v i bn b = mxsM E2 c2 len n Q m0 m1 v i bn b := by
  refine ⟨?_, fun b => ?_⟩
  · unfold mxsZ
    rw [mxsS_congr h60 hE]
    by_cases hv : mxsV v bn
    · rw [if_pos hv, if_pos hv]
      by_cases q1 : c = -1
      · rw [if_pos q1, if_pos (h1.mp q1)]
      · rw [if_neg q1, if_neg (fun q => q1 (h1.mpr q))]
        by_cases q4 : c = -4
        · rw [if_neg (fun q => q q4), if_neg (fun q => q (h4.mp q4))]
        · rw [if_pos q4, if_pos (fun q => q4 (h4.mpr q))]
    · rw [if_neg hv, if_neg hv]
  · unfold mxsM
    rw [mxsS_congr h60 hE]
    by_cases q : mxsV v bn ∧ c = -4 ∧ (bn / 10).toNat = b
    · rw [if_pos q, if_pos ⟨q.1, h4.mp q.2.1, q.2.2⟩]
    · rw [if_neg q, if_neg (fun w => q ⟨w.1, h4.mpr w.2.1, w.2.2⟩)]
theorem mxs_out {E E2 : Nat → Int} {c c2 len len2 : Int} {n : Nat} {Q : Nat → Int} {m0 m1 : Mx} {v i bn : Int} (hv : ¬ (0 ≤ v ∧ v ≤ 5)) : mxsZ E c len n Q m0 m1 v i bn = mxsZ E2 c2 len2 n Q m0 m1 v i bn ∧ ∀ b, mxsM E c len n Q m0 m1 v i bn b = mxsM E2 c2 len2 n Q m0 m1 v i bn b :=
  ⟨by unfold mxsZ; rw [if_neg (fun q => hv q.1), if_neg (fun q => hv q.1)], fun b => by rw [mxsM_n (fun q => hv q.1.1), mxsM_n (fun q => hv q.1.1)]⟩
theorem op_mix {X : pX} {h : Nat} (a b c : Int) (ha : rg a) (hb : rg b) (hc : rg c) : OpI X (h + 100) mX11_mix mX12_mix [zi a, zi b, zi c] := fun I J hI => by
  obtain ⟨lw, n, m0, m1, i0, i1, ht, hg, hm, hi, hac, hs, hp, hl, hcc, hbk⟩ := hI
  have hv : Iv I J lw n m0 m1 i0 i1 := ⟨ht, hg, hm, hi, hac, hs, hp, hl, hcc, hbk⟩
  obtain ⟨t1, t2, t3, t4, t5, t6, t7, t8, t9⟩ := id ht
  obtain ⟨x1, x2, x3, x4, x5⟩ := id hm
  by_cases e0 : a = 0
  · subst e0
    refine KIq.mono (c_mixU14 n t1 m0 x1 b c hb hc (t9 0 (by decide))) ?_
    rintro z A B ⟨rfl, ⟨hx, hf⟩, rfl⟩
    have e85 : A 85 = I 10 := (hf 85 (by decide) (by decide) (by decide) (by decide)).trans t6
    have e81 := hf 81 (by decide) (by decide) (by decide) (by decide)
    refine KIq.mono (c_mixUR n ⟨by rw [e81]; exact t2, t1.2⟩ m0 m1 (MixR_of (hf 86 (by decide) (by decide) (by decide) (by decide)) (hf 87 (by decide) (by decide) (by decide) (by decide)) (hf 88 (by decide) (by decide) (by decide) (by decide)) x3) (MixR_of (hf 86 (by decide) (by decide) (by decide) (by decide)) (hf 87 (by decide) (by decide) (by decide) (by decide)) (hf 88 (by decide) (by decide) (by decide) (by decide)) x4) 0 b c ha hb hc (fun b hb => by rw [e85]; exact t9 b hb)) ?_
    rintro z2 A2 B2 ⟨rfl, ⟨r0, r1, hr⟩, rfl⟩
    rw [e85] at r0 r1
    have hb8 : B88 A2 := hr.2 (fun k => by rw [hf 88 (by decide) (by decide) (by decide) (by decide)]; exact x5 k)
    have g : ∀ a, a < 86 → A2 a = A a := fun a h => hr.1 a (by omega) (by omega) (by omega) (by omega)
    refine ⟨by rw [e85]; rfl, lw, n, (if (0 : Int) = 0 then mxU n m0 b (I 10 0) c else m0), (if (0 : Int) = 1 then mxU n m1 b (I 10 1) c else m1), i0, i1, Iv_m hv (fun a h => (hr.1 a (by omega) (by omega) (by omega) (by omega)).trans (hf a (by omega) (by omega) (by omega) (by omega))) ⟨?_, ?_, r0, r1, hb8⟩⟩
    · exact MixC_of (g 14 (by decide)) (g 15 (by decide)) (g 16 (by decide)) hx
    · exact MixC_of ((g 17 (by decide)).trans (hf 17 (by decide) (by decide) (by decide) (by decide))) ((g 18 (by decide)).trans (hf 18 (by decide) (by decide) (by decide) (by decide))) ((g 19 (by decide)).trans (hf 19 (by decide) (by decide) (by decide) (by decide))) x2
  · by_cases e1 : a = 1
    · subst e1
      refine KIq.mono (c_mixU17 n t1 m1 x2 b c hb hc (t9 1 (by decide))) ?_
      rintro z A B ⟨rfl, ⟨hx, hf⟩, rfl⟩
      have e85 : A 85 = I 10 := (hf 85 (by decide) (by decide) (by decide) (by decide)).trans t6
      have e81 := hf 81 (by decide) (by decide) (by decide) (by decide)
      refine KIq.mono (c_mixUR n ⟨by rw [e81]; exact t2, t1.2⟩ m0 m1 (MixR_of (hf 86 (by decide) (by decide) (by decide) (by decide)) (hf 87 (by decide) (by decide) (by decide) (by decide)) (hf 88 (by decide) (by decide) (by decide) (by decide)) x3) (MixR_of (hf 86 (by decide) (by decide) (by decide) (by decide)) (hf 87 (by decide) (by decide) (by decide) (by decide)) (hf 88 (by decide) (by decide) (by decide) (by decide)) x4) 1 b c ha hb hc (fun b hb => by rw [e85]; exact t9 b hb)) ?_
      rintro z2 A2 B2 ⟨rfl, ⟨r0, r1, hr⟩, rfl⟩
      rw [e85] at r0 r1
      have hb8 : B88 A2 := hr.2 (fun k => by rw [hf 88 (by decide) (by decide) (by decide) (by decide)]; exact x5 k)
      have g : ∀ a, a < 86 → A2 a = A a := fun a h => hr.1 a (by omega) (by omega) (by omega) (by omega)
      refine ⟨by rw [e85]; rfl, lw, n, (if (1 : Int) = 0 then mxU n m0 b (I 10 0) c else m0), (if (1 : Int) = 1 then mxU n m1 b (I 10 1) c else m1), i0, i1, Iv_m hv (fun a h => (hr.1 a (by omega) (by omega) (by omega) (by omega)).trans (hf a (by omega) (by omega) (by omega) (by omega))) ⟨?_, ?_, r0, r1, hb8⟩⟩
      · exact MixC_of ((g 14 (by decide)).trans (hf 14 (by decide) (by decide) (by decide) (by decide))) ((g 15 (by decide)).trans (hf 15 (by decide) (by decide) (by decide) (by decide))) ((g 16 (by decide)).trans (hf 16 (by decide) (by decide) (by decide) (by decide))) x1
      · exact MixC_of (g 17 (by decide)) (g 18 (by decide)) (g 19 (by decide)) hx
    · refine KIq.mono (mix_cn (m := ((mB m0 m1 a.toNat).1 : Int)) (n := n) (L := I 85 a.toNat) a b c ha hb hc ⟨e0, e1⟩) ?_
      rintro z A B ⟨rfl, rfl, rfl⟩
      refine KIq.mono (c_mixUR n ⟨t2, t1.2⟩ m0 m1 x3 x4 a b c ha hb hc (fun b hb => by rw [t6]; exact t9 b hb)) ?_
      rintro z2 A2 B2 ⟨rfl, ⟨r0, r1, hr⟩, rfl⟩
      rw [if_neg e0] at r0
      rw [if_neg e1] at r1
      have g : ∀ a, a < 86 → A2 a = I a := fun a h => hr.1 a (by omega) (by omega) (by omega) (by omega)
      exact ⟨rfl, lw, n, m0, m1, i0, i1, Iv_m hv (fun a h => hr.1 a (by omega) (by omega) (by omega) (by omega)) ⟨MixC_of (g 14 (by decide)) (g 15 (by decide)) (g 16 (by decide)) x1, MixC_of (g 17 (by decide)) (g 18 (by decide)) (g 19 (by decide)) x2, r0, r1, hr.2 x5⟩⟩
theorem op_mixes {X : pX} {h : Nat} (a b c : Int) (ha : rg a) (hb : rg b) (hc : rg c) : OpI X (h + 100) mX11_mixes mX12_mixes [zi a, zi b, zi c] := fun I J hI => by
  obtain ⟨lw, n, m0, m1, i0, i1, ht, hg, hm, hi, hac, hs, hp, hl, hcc, hbk⟩ := hI
  have hv : Iv I J lw n m0 m1 i0 i1 := ⟨ht, hg, hm, hi, hac, hs, hp, hl, hcc, hbk⟩
  obtain ⟨t1, t2, t3, t4, t5, t6, t7, t8, t9⟩ := id ht
  obtain ⟨x1, x2, x3, x4, x5⟩ := id hm
  have hsR := hs.R hac.1.2
  refine KIq.mono (c_X11_mixes n t1 m0 m1 x1 x2 t9 a b c ha hb hc hs.C (fun k hk => (hs k hk).2.2.2.2.2)) ?_
  rintro z A B ⟨rfl, ⟨y0, y1⟩, hf, rfl⟩
  have e85 : A 85 = I 10 := (hf 85 (by decide) (by decide)).trans t6
  have e81 := hf 81 (by decide) (by decide)
  have e118 := hf 118 (by decide) (by decide)
  have e119 := hf 119 (by decide) (by decide)
  have e86 := hf 86 (by decide) (by decide)
  have e87 := hf 87 (by decide) (by decide)
  have e88 := hf 88 (by decide) (by decide)
  refine KIq.mono (c_X12_mixes n ⟨by rw [e81]; exact t2, t1.2⟩ m0 m1 (MixR_of e86 e87 e88 x3) (MixR_of e86 e87 e88 x4) (fun b hb => by rw [e85]; exact t9 b hb) a b c ha hb hc (fun k hk => by rw [e118, e119]; exact hsR k hk) (fun k hk hc4 j hj => by
    obtain ⟨h1, h2, h3, h4, h5, h6⟩ := hs k hk
    rw [e118, h3] at hc4
    rw [h5 j hj]
    have e0 := h1.1.1
    by_cases c0 : I (67 + 2 * k) 0 = 0
    · rw [if_pos c0] at hc4; omega
    · rw [if_neg c0] at hc4
      by_cases c1 : I (67 + 2 * k) 0 = 1
      · have := h4 c1
        rw [if_pos c1] at hc4; omega
      · rw [if_neg c1] at hc4
        exact h6 (by omega) (by omega) j hj)) ?_
  rintro z2 A2 B2 ⟨rfl, ⟨r0, r1⟩, hr, rfl⟩
  rw [e85, e118, e119] at r0 r1
  have key : mxsZ (fun j => J 120 (60 * a.toNat + j)) (I 118 a.toNat) (I 119 a.toNat) n (I 10) m0 m1 a b c = mxsZ (J (68 + 2 * a.toNat)) (shC I a) (I (67 + 2 * a.toNat) 3) n (I 10) m0 m1 a b c ∧ ∀ b2, mxsM (fun j => J 120 (60 * a.toNat + j)) (I 118 a.toNat) (I 119 a.toNat) n (I 10) m0 m1 a b c b2 = mxsM (J (68 + 2 * a.toNat)) (shC I a) (I (67 + 2 * a.toNat) 3) n (I 10) m0 m1 a b c b2 := by
    by_cases hv5 : 0 ≤ a ∧ a ≤ 5
    · obtain ⟨h1, h2, h3, h4, h5, h6⟩ := hs a.toNat (by omega)
      obtain ⟨s1, s4⟩ := shc_eq hs hv5
      rw [h2]
      exact mxs_eqZ h1.1.2.2 (fun j hj => h5 j hj) s1.symm s4.symm
    · exact mxs_out hv5
  rw [key.2 0] at r0
  rw [key.2 1] at r1
  have g : ∀ a, a < 86 → A2 a = A a := fun a h => hr.1 a (by omega) (by omega) (by omega) (by omega)
  refine ⟨by rw [e85, e118, e119]; exact key.1, lw, n, _, _, i0, i1, Iv_m hv (fun a h => (hr.1 a (by omega) (by omega) (by omega) (by omega)).trans (hf a (by omega) (by omega))) ⟨MixC_of (g 14 (by decide)) (g 15 (by decide)) (g 16 (by decide)) y0, MixC_of (g 17 (by decide)) (g 18 (by decide)) (g 19 (by decide)) y1, r0, r1, hr.2 (fun k => by rw [e88]; exact x5 k)⟩⟩
