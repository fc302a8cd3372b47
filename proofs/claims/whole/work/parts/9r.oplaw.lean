/-! law -/
theorem Iv_l {I J A : IM} {lw lw2 : Lw} {n : Nat} {m0 m1 i0 i1 : Mx} (h : Iv I J lw n m0 m1 i0 i1) (e : ∀ a, a ≠ 1 → a ≠ 3 → a ≠ 4 → a ≠ 12 → a ≠ 81 → (a < 95 ∨ 99 < a) → A a = I a) (e81 : ∀ k, (k < 17 ∨ 29 < k) → A 81 k = I 81 k) (hp : Tape A) (hl : LawI A lw2) (hc : CchI A lw2 n) : Iv A J lw2 n m0 m1 i0 i1 := by
  obtain ⟨ht, hg, hm, hi, ha, hs, -, -, -, hb⟩ := h
  have g : ∀ a, 4 < a → a < 81 → a ≠ 12 → A a = I a := fun a h h2 h3 => e a (by omega) (by omega) (by omega) h3 (by omega) (by omega)
  have g2 : ∀ a, 81 < a → (a < 95 ∨ 99 < a) → A a = I a := fun a h h2 => e a (by omega) (by omega) (by omega) (by omega) (by omega) h2
  have e0 : A 0 = I 0 := e 0 (by decide) (by decide) (by decide) (by decide) (by decide) (by decide)
  have e63 : A 63 = I 63 := g 63 (by decide) (by decide) (by decide)
  exact ⟨Town_of (by rw [g 6 (by decide) (by decide) (by decide)]) (g 7 (by decide) (by decide) (by decide)) (g 8 (by decide) (by decide) (by decide)) (g 9 (by decide) (by decide) (by decide)) (g 10 (by decide) (by decide) (by decide)) (e81 1 (by decide)) (g2 82 (by decide) (by decide)) (g2 83 (by decide) (by decide)) (g2 84 (by decide) (by decide)) (g2 85 (by decide) (by decide)) ht,
    Chg_of (g 58 (by decide) (by decide) (by decide)) (g 59 (by decide) (by decide) (by decide)) (g 60 (by decide) (by decide) (by decide)) (g 61 (by decide) (by decide) (by decide)) (g 62 (by decide) (by decide) (by decide)) (e81 9 (by decide)) (e81 10 (by decide)) (g2 89 (by decide) (by decide)) (g2 90 (by decide) (by decide)) (g2 91 (by decide) (by decide)) (g2 92 (by decide) (by decide)) hg,
    Mixs_of (g 14 (by decide) (by decide) (by decide)) (g 15 (by decide) (by decide) (by decide)) (g 16 (by decide) (by decide) (by decide)) (g 17 (by decide) (by decide) (by decide)) (g 18 (by decide) (by decide) (by decide)) (g 19 (by decide) (by decide) (by decide)) (g2 86 (by decide) (by decide)) (g2 87 (by decide) (by decide)) (g2 88 (by decide) (by decide)) hm,
    Imgs_of (by rw [e0]) (e81 47 (by decide)) (g 21 (by decide) (by decide) (by decide)) (g 22 (by decide) (by decide) (by decide)) (g 23 (by decide) (by decide) (by decide)) (g 24 (by decide) (by decide) (by decide)) (g 25 (by decide) (by decide) (by decide)) (g 26 (by decide) (by decide) (by decide)) (g2 113 (by decide) (by decide)) (g2 114 (by decide) (by decide)) (g2 115 (by decide) (by decide)) hi,
    Acts_of (by rw [e63]) (by rw [e63]) (g 64 (by decide) (by decide) (by decide)) (g 65 (by decide) (by decide) (by decide)) (e81 51 (by decide)) (e81 53 (by decide)) (g2 116 (by decide) (by decide)) (g2 117 (by decide) (by decide)) ha,
    Shls_of (fun k hk => g _ (by omega) (by omega) (by omega)) (g2 118 (by decide) (by decide)) (g2 119 (by decide) (by decide)) (by rw [e63]) (fun _ _ => rfl) rfl hs,
    hp, hl, hc, fun j => by rw [g2 104 (by decide) (by decide)]; exact hb j⟩
theorem op_law {X : pX} {h : Nat}   : OpI X (h + 100) mX11_law mX12_law [] := fun I J hI => by
  obtain ⟨lw, n, m0, m1, i0, i1, ht, hg, hm, hi, hac, hs, hp, hl, hcc, hbk⟩ := hI
  have hv : Iv I J lw n m0 m1 i0 i1 := ⟨ht, hg, hm, hi, hac, hs, hp, hl, hcc, hbk⟩
  obtain ⟨t1, t2, t3, t4, t5, t6, t7, t8, t9⟩ := id ht
  obtain ⟨x1, x2, x3, x4, x5⟩ := id hm
  obtain ⟨p1, p2, p3, p4⟩ := id hp
  obtain ⟨L, hL⟩ : ∃ L : Nat, I 1 0 = L := ⟨(I 1 0).toNat, by omega⟩
  have hL2 : L ≤ 120 := by omega
  obtain ⟨hb1, hb2, hb3⟩ := rd_bd (T := I 2) (L := L) p3 hL2
  refine KIq.mono (c_X11_law (L := L) ⟨hL, hL2⟩ p3) ?_
  rintro z A B ⟨A1, ⟨r1, r2, r3, r4⟩, hA, rfl⟩
  -- what the class's call leaves
  have eA : ∀ d, d ≠ 1 → d ≠ 3 → d ≠ 4 → d ≠ 12 → A d = I d := fun d h1 h3 h4 h12 => by
    rcases hA with ⟨-, -, rfl⟩ | ⟨-, -, rfl⟩
    · exact r1 d h1 h3 h4
    · rw [fillM_ne h12]; exact r1 d h1 h3 h4
  have eA1 : A 1 = A1 1 := by
    rcases hA with ⟨-, -, rfl⟩ | ⟨-, -, rfl⟩
    · rfl
    · exact fillM_ne (by decide)
  have eA4 : A 4 = A1 4 := by
    rcases hA with ⟨-, -, rfl⟩ | ⟨-, -, rfl⟩
    · rfl
    · exact fillM_ne (by decide)
  have e81 : A 81 = I 81 := eA 81 (by decide) (by decide) (by decide) (by decide)
  have e94 : A 94 = I 94 := eA 94 (by decide) (by decide) (by decide) (by decide)
  refine KIq.mono (c_X12_law (T := I 2) (L := L) ⟨by rw [e81, p2, hL], hL2⟩ (fun k hk => by rw [e94]; exact p4 k (by omega)) p3) ?_
  rintro z2 A2 B2 ⟨A3, ⟨s1, s2, s3, s4, s5⟩, hA3, rfl⟩
  have eC : ∀ d, d ≠ 81 → d ≠ 95 → d ≠ 96 → d ≠ 97 → d ≠ 98 → d ≠ 99 → A2 d = A d := fun d h1 h2 h3 h4 h5 h6 => by
    rcases hA3 with ⟨-, -, rfl⟩ | ⟨-, -, rfl⟩
    · exact s2 d h1 h2 h3 h4 h5 h6
    · rw [upA_ne h1]; exact s2 d h1 h2 h3 h4 h5 h6
  have eC81 : ∀ k, (k < 17 ∨ 21 < k) → k ≠ 29 → A2 81 k = A 81 k := fun k hk h29 => by
    rcases hA3 with ⟨-, -, rfl⟩ | ⟨-, -, rfl⟩
    · exact s3 k hk
    · rw [upA_self, up1_ne h29]; exact s3 k hk
  have eC17 : A2 81 17 = 0 := by
    rcases hA3 with ⟨-, -, rfl⟩ | ⟨-, -, rfl⟩
    · exact s4
    · rw [upA_self, up1_ne (by decide)]; exact s4
  have eC9 : ∀ d, d = 95 ∨ d = 96 ∨ d = 97 ∨ d = 98 ∨ d = 99 → A2 d = A3 d := fun d hd => by
    rcases hA3 with ⟨-, -, rfl⟩ | ⟨-, -, rfl⟩
    · rfl
    · exact upA_ne (by omega)
  have c1 : A2 1 = A1 1 := (eC 1 (by decide) (by decide) (by decide) (by decide) (by decide) (by decide)).trans eA1
  have c4 : A2 4 = A1 4 := (eC 4 (by decide) (by decide) (by decide) (by decide) (by decide) (by decide)).trans eA4
  have c12 : A2 12 = A 12 := eC 12 (by decide) (by decide) (by decide) (by decide) (by decide) (by decide)
  have eAll : ∀ d, d ≠ 1 → d ≠ 3 → d ≠ 4 → d ≠ 12 → d ≠ 81 → (d < 95 ∨ 99 < d) → A2 d = I d := fun d h1 h3 h4 h12 h81 h9 => (eC d h81 (by omega) (by omega) (by omega) (by omega) (by omega)).trans (eA d h1 h3 h4 h12)
  have eAll81 : ∀ k, (k < 17 ∨ 29 < k) → A2 81 k = I 81 k := fun k hk => (eC81 k (by omega) (by omega)).trans (by rw [e81])
  have hT : Tape A2 := by
    refine ⟨by rw [c1, r2]; decide, by rw [eC17, c1, r2], fun k => ?_, fun k hk => ?_⟩
    · rw [eAll 2 (by decide) (by decide) (by decide) (by decide) (by decide) (by decide)]; exact p3 k
    · rw [c1, r2] at hk; omega
  have c7 : A2 7 = I 7 := eAll 7 (by decide) (by decide) (by decide) (by decide) (by decide) (by decide)
  have c8 : A2 8 = I 8 := eAll 8 (by decide) (by decide) (by decide) (by decide) (by decide) (by decide)
  have c9 : A2 9 = I 9 := eAll 9 (by decide) (by decide) (by decide) (by decide) (by decide) (by decide)
  have c11 : A2 11 = I 11 := eAll 11 (by decide) (by decide) (by decide) (by decide) (by decide) (by decide)
  by_cases hf : (rdS (I 2) L).2.1 < 0
  · -- the text is read
    obtain ⟨u1, u2⟩ := r3 hf
    have hz : z = 1 := by rcases hA with ⟨q, -, -⟩ | ⟨-, q, -⟩; omega; exact q
    have hz2 : z2 = 1 := by rcases hA3 with ⟨q, -, -⟩ | ⟨-, q, -⟩; omega; exact q
    have e29 : A2 81 29 = 1 := by
      rcases hA3 with ⟨q, -, -⟩ | ⟨-, -, rfl⟩
      · omega
      · rw [upA_self, up1_self]
    have h12 : ∀ v : Nat, v < 5 → A2 12 v = 0 := fun v hv => by
      rw [c12]
      rcases hA with ⟨q, -, -⟩ | ⟨-, -, rfl⟩
      · omega
      · rw [fillM_at, if_pos hv]
    obtain ⟨-, pg, v1, v2, ⟨v3, v4, v5⟩, v6, v7⟩ := s5.resolve_right (fun q => by omega)
    refine ⟨by rw [hz, hz2], some pg, n, m0, m1, i0, i1, Iv_l hv eAll eAll81 hT ?_ (fun v hv => ⟨Or.inl (h12 v hv), fun _ => h12 v hv, fun q => by rw [h12 v hv] at q; exact absurd q (by decide)⟩)⟩
    refine ⟨v1, e29, ⟨by rw [c1, u1, v2], by rw [← v2]; exact hb2, by rw [← v2]; exact hb3 hf, fun k hk => ?_⟩, ⟨?_, ?_, ?_⟩, v6, v7⟩
    · rw [c4, Nat.zero_add, ← v2]; exact u2 k (by rw [v2]; exact hk)
    · rw [eC9 97 (by decide)]; exact v3
    · rw [eC9 95 (by decide), eC9 96 (by decide)]; exact v4
    · rw [eC9 98 (by decide), eC9 99 (by decide)]; exact v5
  · -- a fault
    obtain ⟨u1, u2⟩ := r4 (by omega)
    have hz : z = -100 - (rdS (I 2) L).2.1 := by rcases hA with ⟨-, q, -⟩ | ⟨q, -, -⟩; exact q; omega
    have hz2 : z2 = -100 - (rdS (I 2) L).2.1 := by rcases hA3 with ⟨-, q, -⟩ | ⟨q, -, -⟩; exact q; omega
    have e29 : A2 81 29 = I 81 29 := by
      rcases hA3 with ⟨-, -, rfl⟩ | ⟨q, -, -⟩
      · rw [s3 29 (by decide), e81]
      · omega
    have h12 : A2 12 = I 12 := by
      rw [c12]
      rcases hA with ⟨-, -, rfl⟩ | ⟨q, -, -⟩
      · exact r1 12 (by decide) (by decide) (by decide)
      · omega
    obtain ⟨-, s6⟩ := s5.resolve_left (fun q => by omega)
    refine ⟨by rw [hz, hz2], lw, n, m0, m1, i0, i1, Iv_l hv eAll eAll81 hT ?_ (CchI_of c7 c8 c9 c11 h12 hcc)⟩
    cases lw with
    | none => exact ⟨by rw [c1, u1]; exact hl.1, by rw [e29]; exact hl.2⟩
    | some pg =>
      obtain ⟨l1, l2, ⟨l3, l4, l5, l6⟩, l7, l8, l9⟩ := hl
      have eI : ∀ d, 94 < d → d < 100 → A d = I d := fun d h1 h2 => eA d (by omega) (by omega) (by omega) (by omega)
      have l7a : LawR A pg := by
        obtain ⟨w1, w2, w3⟩ := l7
        refine ⟨by rw [eI 97 (by decide) (by decide)]; exact w1, by rw [eI 95 (by decide) (by decide), eI 96 (by decide) (by decide)]; exact w2, by rw [eI 98 (by decide) (by decide), eI 99 (by decide) (by decide)]; exact w3⟩
      obtain ⟨v3, v4, v5⟩ := s6 pg l8 l9 l7a
      refine ⟨l1, e29.trans l2, ⟨by rw [c1, u1]; exact l3, l4, l5, by rw [c4, u2]; exact l6⟩, ⟨?_, ?_, ?_⟩, l8, l9⟩
      · rw [eC9 97 (by decide)]; exact v3
      · rw [eC9 95 (by decide), eC9 96 (by decide)]; exact v4
      · rw [eC9 98 (by decide), eC9 99 (by decide)]; exact v5
