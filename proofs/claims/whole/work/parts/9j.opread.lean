/-! calls that read -/
theorem FrR_scr {I : IM} {F G : Nat → Int} : FrR I (scrR I F G) := by
  unfold scrR
  exact FrR.trans (FrR_up (a := 100) (g := F) (by decide) (by decide)) (FrR_up (a := 101) (g := G) (by decide) (by decide))
theorem FrR_two {I A : IM} (h : ∀ d, d ≠ 93 → d ≠ 103 → A d = I d) : FrR I A := ⟨fun a ha => h a (fun e => ha (by subst e; decide)) (fun e => ha (by subst e; decide)), fun k _ => by rw [h 81 (by decide) (by decide)], fun q j => by rw [h 104 (by decide) (by decide)]; exact q j⟩
theorem QC_sw {I A : IM} {lw : Lw} {n : Nat} {g g2 : Nat → Int} (hc : CchI I lw n) (h : SetW (upA (upA I 79 g) 80 g2) lw n A) : QC I lw n A := by
  have h1 : QC I lw n (upA (upA I 79 g) 80 g2) := QC_up (by decide) (QC_up (by decide) (QC_refl hc))
  rcases h with h | h
  · exact QC_tr h1 (QC_set h1.2 h)
  · rw [h]; exact h1
theorem op_won {X : pX} {h : Nat} (a b : Int) (ha : rg a) (hb : rg b) : OpI X (h + 100) mX11_won mX12_won [zi a, zi b] := fun I J hI => by
  obtain ⟨lw, n, m0, m1, i0, i1, hv⟩ := hI
  have tw := hv.1
  refine KIq.mono (c_X11_won lw hv.cq.1 n tw.1 (fun v hv2 => ⟨tw.2.2.2.2.2.2.1 v hv2, by have := tw.2.2.2.2.2.2.2.1 v (by have := tw.1.2; omega); omega⟩) a b ha hb) ?_
  rintro z A B ⟨rfl, ⟨n2, F, rfl⟩, rfl⟩
  have hv2 : Iv (scr I n2 F) J lw n m0 m1 i0 i1 := Iv_q hv (QC_scr hv.2.2.2.2.2.2.2.2.1) (fun a _ _ => rfl)
  refine KIq.mono (c_X12_won lw hv2.cq.1 n hv2.rq.2.1 hv2.rq.2.2.1 a b ha hb) ?_
  rintro z2 A2 B2 ⟨rfl, ⟨F2, G2, rfl⟩, rfl⟩
  refine ⟨?_, lw, n, m0, m1, i0, i1, Iv_r hv2 FrR_scr⟩
  show wonZ lw n (I 82) (I 83) (I 84) a b = _
  rw [tw.2.2.1, tw.2.2.2.1, tw.2.2.2.2.1]
theorem op_score {X : pX} {h : Nat} (a b : Int) (ha : rg a) (hb : rg b) : OpI X (h + 100) mX11_score mX12_score [zi a, zi b] := fun I J hI => by
  obtain ⟨lw, n, m0, m1, i0, i1, hv⟩ := hI
  have tw := hv.1
  have hcc := hv.2.2.2.2.2.2.2.2.1
  refine KIq.mono (c_X11_score lw hv.cq.1 n tw.1 tw.2.2.2.2.2.2.2.2 hv.cq.2.2.1 hcc a b ha hb) ?_
  rintro z A B ⟨rfl, ⟨g, g2, hw⟩, rfl⟩
  have hq := QC_sw hcc hw
  have hv2 : Iv A J lw n m0 m1 i0 i1 := Iv_q hv hq (fun a _ _ => rfl)
  refine KIq.mono (c_X12_score lw hv2.rq.1 n hv2.rq.2.1 hv2.rq.2.2.2.2.2 hv2.rq.2.2.1 a b ha hb) ?_
  rintro z2 A2 B2 ⟨rfl, ⟨I2, h2, hf⟩, rfl⟩
  have hr : FrR A A2 := by
    rcases hf with hf | hf
    · exact FrR.trans (FrR_two h2) (FrR_fh hf)
    · rw [hf]; exact FrR_two h2
  refine ⟨?_, lw, n, m0, m1, i0, i1, Iv_r hv2 hr⟩
  have t2 := hv2.1
  rw [t2.2.2.1, t2.2.2.2.1, t2.2.2.2.2.1, t2.2.2.2.2.2.1, hq.1.1 7 (by decide), hq.1.1 8 (by decide), hq.1.1 9 (by decide), hq.1.1 10 (by decide)]
theorem op_trace {X : pX} {h : Nat} (a : Int) (ha : rg a) : OpI X (h + 100) mX11_trace mX12_trace [zi a] := fun I J hI => by
  obtain ⟨lw, n, m0, m1, i0, i1, ht, hg, hm, hi, hac, hs, hp, hl, hc, hb⟩ := hI
  obtain ⟨a1, a2, a3, a4, a5, a6, a7⟩ := id hac
  refine KIq.mono (c_X11_trace X _ I J a ha (by omega)) ?_
  rintro z A B ⟨rfl, rfl, rfl⟩
  refine KIq.mono (c_X12_trace X _ A B a ha (by omega)) ?_
  rintro z2 A2 B2 ⟨rfl, rfl, rfl⟩
  refine ⟨?_, lw, n, m0, m1, i0, i1, ht, hg, hm, hi, hac, hs, hp, hl, hc, hb⟩
  rw [a4, a5]
theorem op_count {X : pX} {h : Nat} (a : Int) (ha : rg a) : OpI X (h + 100) mX11_count mX12_count [zi a] := fun I J hI => by
  obtain ⟨lw, n, m0, m1, i0, i1, ht, hg, hm, hi, hac, hs, hp, hl, hc, hb⟩ := hI
  obtain ⟨a1, a2, a3, a4, a5, a6, a7⟩ := id hac
  refine KIq.mono (c_X11_count X _ I J a ha) ?_
  rintro z A B ⟨rfl, rfl, rfl⟩
  refine KIq.mono (c_X12_count X _ A B a ha) ?_
  rintro z2 A2 B2 ⟨rfl, rfl, rfl⟩
  refine ⟨?_, lw, n, m0, m1, i0, i1, ht, hg, hm, hi, hac, hs, hp, hl, hc, hb⟩
  rw [a2, a4, ht.2.1, ht.1.1, hp.2.1, hg.2.1]
theorem Shls.C {I J : IM} (h : Shls I J) : ∀ k : Nat, k < 6 → ((0 ≤ I (67 + 2 * k) 0 ∧ I (67 + 2 * k) 0 ≤ 2) ∧ 0 ≤ I (67 + 2 * k) 3 ∧ I (67 + 2 * k) 3 ≤ 60) ∧ 0 ≤ I (67 + 2 * k) 2 ∧ I (67 + 2 * k) 2 ≤ 4 := fun k hk => (h k hk).1
theorem Shls.R {I J : IM} (h : Shls I J) (ha : I 63 0 ≤ 50) : ShR I := fun k hk => by
  obtain ⟨h1, h2, h3, h4, h5, h6⟩ := h k hk
  rw [h2, h3]
  have q := h1.2
  refine ⟨?_, h1.1.2⟩
  split
  · omega
  · split
    · rename_i e; have := h4 e; omega
    · omega
/-- why there is no place: both sides -/
theorem why_eq {I J : IM} (h : Shls I J) {v i : Int} (hv : 0 ≤ v ∧ v ≤ 5) : whyZ I v i = rfC I v i := by
  obtain ⟨h1, h2, h3, h4, h5, h6⟩ := h v.toNat (by omega)
  unfold whyZ rfC refZ
  rw [if_neg (by omega), h2, h3]
  have e0 := h1.1.1
  by_cases c0 : I (67 + 2 * v.toNat) 0 = 0
  · rw [if_pos c0, if_pos rfl, if_pos c0]
  · rw [if_neg c0, if_neg c0]
    by_cases c1 : I (67 + 2 * v.toNat) 0 = 1
    · have := h4 c1
      rw [if_pos c1, if_neg (by omega), if_pos (by omega), if_pos (by omega)]
    · rw [if_neg c1, if_neg (by omega), if_neg (by omega), if_neg (show ¬ I (67 + 2 * v.toNat) 0 ≠ 2 by omega)]
      by_cases c2 : 0 ≤ i ∧ i ≤ I (67 + 2 * v.toNat) 3 - 1
      · rw [if_pos c2, if_neg (by omega)]
      · rw [if_neg c2, if_pos (by omega)]
theorem rfC_rg {I : IM} {v i : Int} : rfC I v i ≤ 0 := by unfold rfC refZ; (repeat' split) <;> omega
theorem op_element {X : pX} {h : Nat} (a b : Int) (ha : rg a) (hb : rg b) : OpL X (h + 100) mX11_element mX12_element [zi a, zi b] := fun I J hI => by
  obtain ⟨lw, n, m0, m1, i0, i1, ht, hg, hm, hi, hac, hs, hp, hl, hc, hbk⟩ := hI
  refine KLq.mono (c_X11_element X _ I J a b ha hb hs.C) ?_
  rintro z A B ⟨rfl, rfl, rfl⟩
  refine KLq.mono (c_X12_element X _ A B a b ha hb (hs.R hac.1.2)) ?_
  rintro z2 A2 B2 ⟨rfl, rfl, rfl⟩
  refine ⟨?_, lw, n, m0, m1, i0, i1, ht, hg, hm, hi, hac, hs, hp, hl, hc, hbk⟩
  unfold elemZR elemZC
  by_cases hv : 0 ≤ a ∧ a ≤ 5
  · rw [why_eq hs hv]
    have q := rfC_rg (I := A2) (v := a) (i := b)
    by_cases e : rfC A2 a b = 0
    · have e2 := refZ_0.mp e
      obtain ⟨h1, h2, h3, h4, h5, h6⟩ := hs a.toNat (by omega)
      rw [if_neg (by omega), if_pos ⟨hv, e⟩, show (60 * a + b).toNat = 60 * a.toNat + b.toNat by omega, h5 b.toNat (by omega)]
    · rw [if_pos (by omega), if_neg (fun q => e q.2)]
  · have e : whyZ A2 a b = -1 := if_pos hv
    rw [if_pos (by omega), if_neg (fun q => hv q.1)]
theorem op_taken {X : pX} {h : Nat} (a b : Int) (ha : rg a) (hb : rg b) : OpI X (h + 100) mX11_taken mX12_taken [zi a, zi b] := fun I J hI => by
  obtain ⟨lw, n, m0, m1, i0, i1, ht, hg, hm, hi, hac, hs, hp, hl, hc, hbk⟩ := hI
  obtain ⟨a1, a2, a3, a4, a5, a6, a7⟩ := id hac
  refine KIq.mono (c_X11_taken X _ I J a b ha hb hs.C a1 a7 (fun v hv => (hs v hv).2.2.2.1)) ?_
  rintro z A B ⟨rfl, rfl, rfl⟩
  refine KIq.mono (c_X12_taken X _ A B a b ha hb (hs.R hac.1.2) (by omega) (fun j hj => by rw [a6]; exact a7 j (by omega)) (fun v hv => by
    obtain ⟨h1, h2, h3, h4, h5, h6⟩ := hs v hv
    rw [h3, a2]
    split
    · omega
    · split
      · rename_i e; exact (h4 e).2
      · have := h1.2; omega)) ?_
  rintro z2 A2 B2 ⟨rfl, rfl, rfl⟩
  refine ⟨?_, lw, n, m0, m1, i0, i1, ht, hg, hm, hi, hac, hs, hp, hl, hc, hbk⟩
  unfold takZR takZC
  by_cases hv : (0 ≤ a ∧ a ≤ 5) ∧ 0 ≤ b ∧ b ≤ 7
  · obtain ⟨h1, h2, h3, h4, h5, h6⟩ := hs a.toNat (by omega)
    have e0 := h1.1.1
    rw [if_neg (show ¬ ¬ ((0 ≤ a ∧ a ≤ 5) ∧ 0 ≤ b ∧ b ≤ 7) from fun q => q hv), if_neg (show ¬ ¬ ((0 ≤ a ∧ a ≤ 5) ∧ 0 ≤ b ∧ b ≤ 7) from fun q => q hv), h3, a6]
    by_cases c0 : A2 (67 + 2 * a.toNat) 0 = 0
    · rw [if_pos c0, if_pos rfl, if_pos c0]
    · rw [if_neg c0, if_neg c0]
      by_cases c1 : A2 (67 + 2 * a.toNat) 0 = 1
      · have := h4 c1
        rw [if_pos c1, if_neg (by omega), if_neg (show ¬ A2 (67 + 2 * a.toNat) 0 ≠ 1 from fun q => q c1)]
        by_cases c2 : undP (A2 65 (A2 (67 + 2 * a.toNat) 1).toNat) b
        · rw [if_pos ⟨by omega, c2⟩, if_pos c2]
        · rw [if_neg (fun q => c2 q.2), if_neg c2]
      · rw [if_neg c1, if_neg (by omega), if_neg (fun q => by have := q.1; omega), if_pos c1]
  · rw [if_pos hv, if_pos hv]
