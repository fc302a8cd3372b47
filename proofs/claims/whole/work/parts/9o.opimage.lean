/-! image, back -/
theorem copy_mix {I A : IM} {o e : Nat} {m : Mx} (h : MixC I e m) (a0 : A o 0 = I e 0) (a1 : ∀ i, i < 8 → A (o + 1) i = I (e + 1) i) (a2 : ∀ i, i < 40 → A (o + 2) i = I (e + 2) i) : MixC A o m := by
  have h8 := h.1.2
  exact ⟨⟨a0.trans h.1.1, h8⟩, fun i hi => ⟨⟨(a1 i (by omega)).trans (h.2 i hi).1.1, (h.2 i hi).1.2⟩, fun v hv => ⟨(a2 _ (by omega)).trans ((h.2 i hi).2 v hv).1, ((h.2 i hi).2 v hv).2⟩⟩⟩
theorem mixK_R {I A : IM} {b : Nat} {m : Mx} (hb : b < 2) (h : MixR I b m) (a0 : ∀ k, k < 2 → A 113 k = I 86 k) (a1 : ∀ k, k < 16 → A 114 k = I 87 k) (a2 : ∀ k, k < 80 → A 115 k = I 88 k) : MixK A b m := by
  have h8 := h.1.2
  exact ⟨⟨(a0 b hb).trans h.1.1, h8⟩, fun i hi => ⟨⟨(a1 _ (by omega)).trans (h.2 i hi).1.1, (h.2 i hi).1.2⟩, fun v hv => ⟨(a2 _ (by omega)).trans ((h.2 i hi).2 v hv).1, ((h.2 i hi).2 v hv).2⟩⟩⟩
theorem mixR_K {I A : IM} {b : Nat} {m : Mx} (hb : b < 2) (h : MixK I b m) (a0 : ∀ k, k < 2 → A 86 k = I 113 k) (a1 : ∀ k, k < 16 → A 87 k = I 114 k) (a2 : ∀ k, k < 80 → A 88 k = I 115 k) : MixR A b m := by
  have h8 := h.1.2
  exact ⟨⟨(a0 b hb).trans h.1.1, h8⟩, fun i hi => ⟨⟨(a1 _ (by omega)).trans (h.2 i hi).1.1, (h.2 i hi).1.2⟩, fun v hv => ⟨(a2 _ (by omega)).trans ((h.2 i hi).2 v hv).1, ((h.2 i hi).2 v hv).2⟩⟩⟩
theorem cp8 {F G : Nat → Int} {n i : Nat} (h : i < n) : va_cpy F G 0 0 n i = F i := by
  rw [pk_cpy_in (Nat.zero_le _) (by omega), Nat.sub_zero, Nat.zero_add]
theorem cpf {F G : Nat → Int} {n k : Nat} (h : k < n) : (if 0 ≤ k ∧ k < 0 + n then F (k - 0) else G k) = F k := by
  rw [if_pos (by omega), Nat.sub_zero]
theorem B115 {I : IM} {F : Nat → Int} (h8 : ∀ k : Nat, -128 ≤ F k ∧ F k ≤ 127) (h : ∀ k : Nat, -128 ≤ I 115 k ∧ I 115 k ≤ 127) : ∀ k : Nat, -128 ≤ (if 0 ≤ k ∧ k < 0 + 80 then F (k - 0) else I 115 k) ∧ (if 0 ≤ k ∧ k < 0 + 80 then F (k - 0) else I 115 k) ≤ 127 := fun k => by
  split
  · exact h8 _
  · exact h k
theorem B888 {I : IM} {F : Nat → Int} (h8 : ∀ k : Nat, -128 ≤ F k ∧ F k ≤ 127) (h : B88 I) : ∀ k : Nat, -128 ≤ (if 0 ≤ k ∧ k < 0 + 80 then F (k - 0) else I 88 k) ∧ (if 0 ≤ k ∧ k < 0 + 80 then F (k - 0) else I 88 k) ≤ 127 := fun k => by
  split
  · exact h8 _
  · exact h k
theorem op_image {X : pX} {h : Nat}   : OpI X (h + 100) mX11_image mX12_image [] := fun I J hI => by
  obtain ⟨lw, n, m0, m1, i0, i1, ht, hg, hm, hi, hac, hs, hp, hl, hcc, hbk⟩ := hI
  have hv : Iv I J lw n m0 m1 i0 i1 := ⟨ht, hg, hm, hi, hac, hs, hp, hl, hcc, hbk⟩
  obtain ⟨t1, t2, t3, t4, t5, t6, t7, t8, t9⟩ := id ht
  obtain ⟨x1, x2, x3, x4, x5⟩ := id hm
  obtain ⟨j1, j2, j3, j4, j5, j6, j7⟩ := id hi
  refine KIq.mono (c_X11_image X _ I J) ?_
  rintro z A B ⟨rfl, rfl, rfl⟩
  refine KIq.mono (c_X12_image X _ _ B x5) ?_
  rintro z2 A2 B2 ⟨rfl, rfl, rfl⟩
  refine ⟨?_, lw, n, m0, m1, m0, m1, Town_of rfl rfl rfl rfl rfl rfl rfl rfl rfl rfl ht, Chg_of rfl rfl rfl rfl rfl rfl rfl rfl rfl rfl rfl  hg, Mixs_of rfl rfl rfl rfl rfl rfl rfl rfl rfl  hm, ?_, Acts_of rfl rfl rfl rfl rfl rfl rfl rfl  hac, (by refine Shls_of ?_ ?_ ?_ ?_ ?_ ?_ hs; exact six rfl rfl rfl rfl rfl rfl; all_goals first | rfl | (intro _ _; rfl)), Tape_of rfl rfl rfl rfl  hp, LawI_congr rfl rfl rfl rfl rfl rfl rfl rfl  hl, CchI_of rfl rfl rfl rfl rfl hcc, fun j => hbk j⟩
  · show I 86 0 + I 86 1 = I 14 0 + I 17 0
    rw [x1.1.1, x2.1.1, x3.1.1, x4.1.1]
  · refine ⟨Or.inr rfl, rfl, copy_mix x1 rfl (fun i hi => cp8 hi) (fun i hi => cp8 hi), copy_mix x2 rfl (fun i hi => cp8 hi) (fun i hi => cp8 hi), mixK_R (by decide) x3 (fun k hk => ?_) (fun k hk => ?_) (fun k hk => ?_), mixK_R (by decide) x4 (fun k hk => ?_) (fun k hk => ?_) (fun k hk => ?_), ?_⟩
    · exact cpf (F := I 86) hk
    · exact cpf (F := I 87) hk
    · exact cpf (F := I 88) hk
    · exact cpf (F := I 86) hk
    · exact cpf (F := I 87) hk
    · exact cpf (F := I 88) hk
    · exact B115 (F := I 88) x5 j7
theorem op_back {X : pX} {h : Nat}   : OpI X (h + 100) mX11_back mX12_back [] := fun I J hI => by
  obtain ⟨lw, n, m0, m1, i0, i1, ht, hg, hm, hi, hac, hs, hp, hl, hcc, hbk⟩ := hI
  have hv : Iv I J lw n m0 m1 i0 i1 := ⟨ht, hg, hm, hi, hac, hs, hp, hl, hcc, hbk⟩
  obtain ⟨t1, t2, t3, t4, t5, t6, t7, t8, t9⟩ := id ht
  obtain ⟨x1, x2, x3, x4, x5⟩ := id hm
  obtain ⟨j1, j2, j3, j4, j5, j6, j7⟩ := id hi
  refine KIq.mono (c_X11_back X _ I J j1) ?_
  rintro z A B ⟨rfl, rfl, rfl⟩
  by_cases c : I 0 4 = 0
  · have eA : backC I = I := if_pos c
    rw [eA, if_pos c]
    refine KIq.mono (c_X12_back X _ _ B j7 (by omega)) ?_
    rintro z2 A2 B2 ⟨rfl, rfl, rfl⟩
    rw [if_pos (show I 81 47 = 0 by omega), if_pos (show I 81 47 = 0 by omega)]
    exact ⟨rfl, lw, n, m0, m1, i0, i1, hv⟩
  · have eA : backC I = copyM (copyM I 14 21) 17 24 := if_neg c
    rw [eA, if_neg c]
    refine KIq.mono (c_X12_back X _ _ B (fun k => j7 k) (by show I 81 47 = 0 ∨ I 81 47 = 1; omega)) ?_
    rintro z2 A2 B2 ⟨rfl, rfl, rfl⟩
    have e47 : ¬ copyM (copyM I 14 21) 17 24 81 47 = 0 := by show ¬ I 81 47 = 0; omega
    rw [if_neg e47, if_neg e47]
    refine ⟨?_, lw, n, i0, i1, i0, i1, Town_of rfl rfl rfl rfl rfl rfl rfl rfl rfl rfl ht, Chg_of rfl rfl rfl rfl rfl rfl rfl rfl rfl rfl rfl  hg, ?_, Imgs_of rfl rfl rfl rfl rfl rfl rfl rfl rfl rfl rfl  hi, Acts_of rfl rfl rfl rfl rfl rfl rfl rfl  hac, (by refine Shls_of ?_ ?_ ?_ ?_ ?_ ?_ hs; exact six rfl rfl rfl rfl rfl rfl; all_goals first | rfl | (intro _ _; rfl)), Tape_of rfl rfl rfl rfl  hp, LawI_congr rfl rfl rfl rfl rfl rfl rfl rfl  hl, CchI_of rfl rfl rfl rfl rfl hcc, fun j => hbk j⟩
    · show I 113 0 + I 113 1 = I 21 0 + I 24 0
      rw [j3.1.1, j4.1.1, j5.1.1, j6.1.1]
    · refine ⟨copy_mix j3 rfl (fun i hi => cp8 hi) (fun i hi => cp8 hi), copy_mix j4 rfl (fun i hi => cp8 hi) (fun i hi => cp8 hi), mixR_K (by decide) j5 (fun k hk => ?_) (fun k hk => ?_) (fun k hk => ?_), mixR_K (by decide) j6 (fun k hk => ?_) (fun k hk => ?_) (fun k hk => ?_), ?_⟩
      · exact cpf (F := I 113) hk
      · exact cpf (F := I 114) hk
      · exact cpf (F := I 115) hk
      · exact cpf (F := I 113) hk
      · exact cpf (F := I 114) hk
      · exact cpf (F := I 115) hk
      · exact B888 (F := I 115) j7 x5
theorem op_body {X : pX} {h : Nat} (a : Int) (ha : rg a) : OpI X (h + 100) mX11_body mX12_body [zi a] := fun I J hI => by
  obtain ⟨lw, n, m0, m1, i0, i1, ht, hg, hm, hi, hac, hs, hp, hl, hcc, hbk⟩ := hI
  have hv : Iv I J lw n m0 m1 i0 i1 := ⟨ht, hg, hm, hi, hac, hs, hp, hl, hcc, hbk⟩
  obtain ⟨t1, t2, t3, t4, t5, t6, t7, t8, t9⟩ := id ht
  obtain ⟨x1, x2, x3, x4, x5⟩ := id hm
  obtain ⟨a1, a2, a3, a4, a5, a6, a7⟩ := id hac
  refine KIq.mono (c_X11_body X _ I J a ha a1) ?_
  rintro z A B ⟨rfl, rfl, rfl⟩
  by_cases c : (0 ≤ a ∧ a ≤ 7) ∧ I 63 0 < 50
  · have eA : bodyC I a = addM I a := if_pos c
    rw [eA]
    refine KIq.mono (c_X12_body X _ _ B a ha (by show 0 ≤ I 81 51 ∧ I 81 51 ≤ 50; omega)) ?_
    rintro z2 A2 B2 ⟨rfl, rfl, rfl⟩
    have eR : bodyR (addM I a) a = upA (upA (addM I a) 116 (up1 (I 116) (I 81 51).toNat a)) 81 (up1 (I 81) 51 (I 81 51 + 1)) := if_pos ⟨c.1, by show I 81 51 < 50; omega⟩
    rw [eR]
    refine ⟨?_, lw, n, m0, m1, i0, i1, Town_of rfl rfl rfl rfl rfl rfl rfl rfl rfl rfl ht, Chg_of rfl rfl rfl rfl rfl rfl rfl rfl rfl rfl rfl  hg, Mixs_of rfl rfl rfl rfl rfl rfl rfl rfl rfl  hm, Imgs_of rfl rfl rfl rfl rfl rfl rfl rfl rfl rfl rfl  hi, ?_, ?_, Tape_of rfl rfl rfl rfl  hp, LawI_congr rfl rfl rfl rfl rfl rfl rfl rfl  hl, CchI_of rfl rfl rfl rfl rfl hcc, fun j => hbk j⟩
    · show bodyZ (I 81 51) a = bodyZ (I 63 0) a
      rw [a2]
    · refine ⟨?_, ?_, a3, a4, a5, ?_, fun j hj => ?_⟩
      · show 0 ≤ I 63 0 + 1 ∧ I 63 0 + 1 ≤ 50
        omega
      · show I 81 51 + 1 = I 63 0 + 1
        omega
      · show up1 (I 116) (I 81 51).toNat a = up1 (I 65) (I 63 0).toNat a
        rw [a6, a2]
      · have hj2 : (j : Int) < I 63 0 + 1 := hj
        show 0 ≤ up1 (I 65) (I 63 0).toNat a j ∧ up1 (I 65) (I 63 0).toNat a j ≤ 7
        by_cases e : j = (I 63 0).toNat
        · rw [e, up1_self]; exact c.1
        · rw [up1_ne e]; exact a7 j (by omega)
    · intro k hk
      obtain ⟨h1, h2, h3, h4, h5, h6⟩ := hs k hk
      have es : upA (upA (addM I a) 116 (up1 (I 116) (I 81 51).toNat a)) 81 (up1 (I 81) 51 (I 81 51 + 1)) (67 + 2 * k) = I (67 + 2 * k) := by
        revert k
        intro k hk
        exact fun _ _ _ _ _ _ => six (P := fun k => upA (upA (addM I a) 116 (up1 (I 116) (I 81 51).toNat a)) 81 (up1 (I 81) 51 (I 81 51 + 1)) (67 + 2 * k) = I (67 + 2 * k)) rfl rfl rfl rfl rfl rfl k hk
      rw [es]
      exact ⟨h1, h2, h3, fun e => ⟨(h4 e).1, by show _ < I 63 0 + 1; have := (h4 e).2; omega⟩, h5, h6⟩
  · have eA : bodyC I a = I := if_neg c
    rw [eA]
    refine KIq.mono (c_X12_body X _ _ B a ha (by omega)) ?_
    rintro z2 A2 B2 ⟨rfl, rfl, rfl⟩
    have eR : bodyR I a = I := if_neg (fun q => c ⟨q.1, by omega⟩)
    rw [eR]
    exact ⟨by rw [a2], lw, n, m0, m1, i0, i1, hv⟩
theorem sg_bm {t : Int} (h : 0 ≤ t ∧ t ≤ 255) : t.bmod 256 = sg t := by
  unfold sg
  split
  · rw [Int.bmod_def]; omega
  · rw [Int.bmod_def]; omega
theorem op_feed {X : pX} {h : Nat} (a : Int) (ha : rg a) : OpI X (h + 100) mX11_feed mX12_feed [zi a] := fun I J hI => by
  obtain ⟨lw, n, m0, m1, i0, i1, ht, hg, hm, hi, hac, hs, hp, hl, hcc, hbk⟩ := hI
  have hv : Iv I J lw n m0 m1 i0 i1 := ⟨ht, hg, hm, hi, hac, hs, hp, hl, hcc, hbk⟩
  obtain ⟨t1, t2, t3, t4, t5, t6, t7, t8, t9⟩ := id ht
  obtain ⟨x1, x2, x3, x4, x5⟩ := id hm
  obtain ⟨p1, p2, p3, p4⟩ := id hp
  refine KIq.mono (c_X11_feed X _ I J a ha p1) ?_
  rintro z A B ⟨rfl, rfl, rfl⟩
  by_cases c : (0 ≤ a ∧ a ≤ 255) ∧ I 1 0 < 120
  · have eA : feedC I a = feedM I a := if_pos c
    rw [eA]
    refine KIq.mono (c_X12_feed X _ _ B a ha (by show 0 ≤ I 81 17 ∧ I 81 17 ≤ 120; omega)) ?_
    rintro z2 A2 B2 ⟨rfl, rfl, rfl⟩
    have eR : feedR (feedM I a) a = upA (upA (feedM I a) 94 (up1 (I 94) (I 81 17).toNat (a.bmod 256))) 81 (up1 (I 81) 17 (I 81 17 + 1)) := if_pos ⟨c.1, by show I 81 17 < 120; omega⟩
    rw [eR]
    refine ⟨?_, lw, n, m0, m1, i0, i1, Town_of rfl rfl rfl rfl rfl rfl rfl rfl rfl rfl ht, Chg_of rfl rfl rfl rfl rfl rfl rfl rfl rfl rfl rfl  hg, Mixs_of rfl rfl rfl rfl rfl rfl rfl rfl rfl  hm, Imgs_of rfl rfl rfl rfl rfl rfl rfl rfl rfl rfl rfl  hi, Acts_of rfl rfl rfl rfl rfl rfl rfl rfl  hac, (by refine Shls_of ?_ ?_ ?_ ?_ ?_ ?_ hs; exact six rfl rfl rfl rfl rfl rfl; all_goals first | rfl | (intro _ _; rfl)), ?_, LawI_congr rfl rfl rfl rfl rfl rfl rfl rfl  hl, CchI_of rfl rfl rfl rfl rfl hcc, fun j => hbk j⟩
    · show feedZ (I 81 17) a = feedZ (I 1 0) a
      rw [p2]
    · refine ⟨?_, ?_, fun k => ?_, fun k hk => ?_⟩
      · show 0 ≤ I 1 0 + 1 ∧ I 1 0 + 1 ≤ 120
        omega
      · show I 81 17 + 1 = I 1 0 + 1
        omega
      · show 0 ≤ up1 (I 2) (I 1 0).toNat a k ∧ up1 (I 2) (I 1 0).toNat a k ≤ 255
        by_cases e : k = (I 1 0).toNat
        · rw [e, up1_self]; exact c.1
        · rw [up1_ne e]; exact p3 k
      · have hk2 : (k : Int) < I 1 0 + 1 := hk
        show up1 (I 94) (I 81 17).toNat (a.bmod 256) k = sg (up1 (I 2) (I 1 0).toNat a k)
        rw [p2]
        by_cases e : k = (I 1 0).toNat
        · rw [e, up1_self, up1_self]; exact sg_bm c.1
        · rw [up1_ne e, up1_ne e]; exact p4 k (by omega)
  · have eA : feedC I a = I := if_neg c
    rw [eA]
    refine KIq.mono (c_X12_feed X _ _ B a ha (by omega)) ?_
    rintro z2 A2 B2 ⟨rfl, rfl, rfl⟩
    have eR : feedR I a = I := if_neg (fun q => c ⟨q.1, by omega⟩)
    rw [eR]
    exact ⟨by rw [p2], lw, n, m0, m1, i0, i1, hv⟩
