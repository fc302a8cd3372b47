/-! a text is a list of lines; its expressions run on a stack -/
def cat (l : List Int) (s : PS) : PS := (s.1, s.2.1, l ++ s.2.2)
abbrev APP (op : PS → PS) : Prop := ∀ l s, op (cat l s) = cat l (op s)
theorem nx_cat {T : Nat → Int} {L : Nat} {l : List Int} {s : PS} : nxS T L (cat l s) = nxS T L s := rfl
theorem ad_cat {l : List Int} {s : PS} : adS (cat l s) = cat l (adS s) := rfl
theorem em_cat {c : Int} {l : List Int} {s : PS} : emS c (cat l s) = cat l (emS c s) := by
  by_cases h : s.2.1 < 0
  · rw [emS, if_pos (show (cat l s).2.1 < 0 from h), emS, if_pos h]
    show (s.1, s.2.1, (l ++ s.2.2) ++ [c]) = (s.1, s.2.1, l ++ (s.2.2 ++ [c]))
    rw [List.append_assoc]
  · rw [emS, if_neg (show ¬ (cat l s).2.1 < 0 from h), emS, if_neg h]
theorem fl_cat {l : List Int} {s : PS} : flS (cat l s) = cat l (flS s) := by
  by_cases h : s.2.1 < 0
  · rw [flS, if_pos (show (cat l s).2.1 < 0 from h), flS, if_pos h]; rfl
  · rw [flS, if_neg (show ¬ (cat l s).2.1 < 0 from h), flS, if_neg h]
theorem nm_cat {T : Nat → Int} {L : Nat} {l : List Int} : ∀ (k : Nat) (v : Int) (s : PS), nmS T L k v (cat l s) = cat l (nmS T L k v s)
  | 0, v, s => em_cat
  | k + 1, v, s => by
    unfold nmS
    rw [nx_cat]
    by_cases h : digC (nxS T L s)
    · rw [if_pos h, if_pos h, ad_cat]; exact nm_cat k _ _
    · rw [if_neg h, if_neg h]; exact em_cat
theorem ls_cat {T : Nat → Int} {L : Nat} {op : PS → PS} {P : Int → Bool} {l : List Int} (ho : APP op) : ∀ (k : Nat) (s : PS), lsS T L op P k (cat l s) = cat l (lsS T L op P k s)
  | 0, s => rfl
  | k + 1, s => by
    unfold lsS
    rw [nx_cat]
    by_cases h : P (nxS T L s) = true
    · rw [if_pos h, if_pos h, ad_cat, ho, em_cat]; exact ls_cat ho k _
    · rw [if_neg h, if_neg h]
theorem pr_app {T : Nat → Int} {L : Nat} {op : PS → PS} (h : APP op) : APP (prS T L op) := fun l s => by unfold prS; rw [h, ls_cat h]
theorem su_app {T : Nat → Int} {L : Nat} {op : PS → PS} (h : APP op) : APP (suS T L op) := fun l s => by unfold suS; rw [pr_app h, ls_cat (pr_app h)]
theorem co_app {T : Nat → Int} {L : Nat} {op : PS → PS} (h : APP op) : APP (coS T L op) := fun l s => by unfold coS; rw [su_app h, ls_cat (su_app h)]
theorem bo_app {T : Nat → Int} {L : Nat} {op : PS → PS} (h : APP op) : APP (boS T L op) := fun l s => by unfold boS; rw [co_app h, ls_cat (co_app h)]
theorem ei_app {T : Nat → Int} {L : Nat} {op : PS → PS} (h : APP op) : APP (eiS T L op) := fun l s => by unfold eiS; rw [bo_app h, ls_cat (bo_app h)]
theorem op_app {T : Nat → Int} {L : Nat} : ∀ r, APP (opS T L r) := by
  intro r
  induction r with
  | zero =>
    intro l s
    rw [opS_0, opS_0, nx_cat]
    by_cases h1 : digC (nxS T L s)
    · rw [if_pos h1, if_pos h1]; exact nm_cat _ _ _
    · rw [if_neg h1, if_neg h1]
      by_cases h2 : namC (nxS T L s)
      · rw [if_pos h2, if_pos h2, ad_cat]; exact em_cat
      · rw [if_neg h2, if_neg h2]; exact fl_cat
  | succ r ih =>
    intro l s
    rw [opS_s, opS_s, nx_cat]
    by_cases h1 : digC (nxS T L s)
    · rw [if_pos h1, if_pos h1]; exact nm_cat _ _ _
    · rw [if_neg h1, if_neg h1]
      by_cases h2 : namC (nxS T L s)
      · rw [if_pos h2, if_pos h2, ad_cat]; exact em_cat
      · rw [if_neg h2, if_neg h2]
        by_cases h3 : nxS T L s = 40
        · rw [if_pos h3, if_pos h3, ad_cat, ei_app ih, nx_cat]
          by_cases h6 : nxS T L (eiS T L (opS T L r) (adS s)) = 41
          · rw [if_pos h6, if_pos h6, ad_cat]
          · rw [if_neg h6, if_neg h6]; exact fl_cat
        · rw [if_neg h3, if_neg h3]
          by_cases h4 : nxS T L s = 33
          · rw [if_pos h4, if_pos h4, ad_cat, ih]; exact em_cat
          · rw [if_neg h4, if_neg h4]
            by_cases h5 : nxS T L s = 45
            · rw [if_pos h5, if_pos h5, ad_cat, ih]; exact em_cat
            · rw [if_neg h5, if_neg h5]; exact fl_cat
/-- heights of the stack while steps run -/
abbrev binC (c : Int) : Prop := c = 42 ∨ c = 47 ∨ c = 37 ∨ c = 43 ∨ c = 45 ∨ c = 60 ∨ c = 61 ∨ c = 62 ∨ c = 38 ∨ c = 124
def hts : List Int → Nat → Nat → Option Nat
  | [], h, _ => some h
  | c :: l, h, B => if (0 ≤ c ∧ c ≤ 9999) ∨ namC (-c) then (if h + 1 ≤ B then hts l (h + 1) B else none) else if c = -33 ∨ c = -1 then (if 1 ≤ h then hts l h B else none) else if 2 ≤ h ∧ binC (-c) then hts l (h - 1) B else none
theorem hts_c {c : Int} {l : List Int} {h B : Nat} : hts (c :: l) h B = if (0 ≤ c ∧ c ≤ 9999) ∨ namC (-c) then (if h + 1 ≤ B then hts l (h + 1) B else none) else if c = -33 ∨ c = -1 then (if 1 ≤ h then hts l h B else none) else if 2 ≤ h ∧ binC (-c) then hts l (h - 1) B else none := rfl
theorem hts_app : ∀ (a b : List Int) (h B x : Nat), hts a h B = some x → hts (a ++ b) h B = hts b x B
  | [], b, h, B, x, e => by have e2 : h = x := by simpa [hts] using e
                            rw [e2]; rfl
  | c :: l, b, h, B, x, e => by
    show hts (c :: (l ++ b)) h B = _
    rw [hts_c] at e ⊢
    by_cases h1 : (0 ≤ c ∧ c ≤ 9999) ∨ namC (-c)
    · rw [if_pos h1] at e ⊢
      by_cases h2 : h + 1 ≤ B
      · rw [if_pos h2] at e ⊢; exact hts_app l b _ _ _ e
      · rw [if_neg h2] at e; exact absurd e (by simp)
    · rw [if_neg h1] at e ⊢
      by_cases h3 : c = -33 ∨ c = -1
      · rw [if_pos h3] at e ⊢
        by_cases h2 : 1 ≤ h
        · rw [if_pos h2] at e ⊢; exact hts_app l b _ _ _ e
        · rw [if_neg h2] at e; exact absurd e (by simp)
      · rw [if_neg h3] at e ⊢
        by_cases h2 : 2 ≤ h ∧ binC (-c)
        · rw [if_pos h2] at e ⊢; exact hts_app l b _ _ _ e
        · rw [if_neg h2] at e; exact absurd e (by simp)
theorem hts_mono : ∀ (a : List Int) (h B B' x : Nat), B ≤ B' → hts a h B = some x → hts a h B' = some x
  | [], h, B, B', x, hB, e => e
  | c :: l, h, B, B', x, hB, e => by
    rw [hts_c] at e ⊢
    by_cases h1 : (0 ≤ c ∧ c ≤ 9999) ∨ namC (-c)
    · rw [if_pos h1] at e ⊢
      by_cases h2 : h + 1 ≤ B
      · rw [if_pos h2] at e; rw [if_pos (by omega)]; exact hts_mono l _ _ _ _ hB e
      · rw [if_neg h2] at e; exact absurd e (by simp)
    · rw [if_neg h1] at e ⊢
      by_cases h3 : c = -33 ∨ c = -1
      · rw [if_pos h3] at e ⊢
        by_cases h2 : 1 ≤ h
        · rw [if_pos h2] at e ⊢; exact hts_mono l _ _ _ _ hB e
        · rw [if_neg h2] at e; exact absurd e (by simp)
      · rw [if_neg h3] at e ⊢
        by_cases h2 : 2 ≤ h ∧ binC (-c)
        · rw [if_pos h2] at e ⊢; exact hts_mono l _ _ _ _ hB e
        · rw [if_neg h2] at e; exact absurd e (by simp)
/-- one value comes onto the stack, by at most d places -/
def Seg (d : Nat) (l : List Int) : Prop := ∀ h, hts l h (h + d) = some (h + 1)
theorem Seg_mono {d e : Nat} {l : List Int} (h : Seg d l) (q : d ≤ e) : Seg e l := fun x => hts_mono _ _ _ _ _ (by omega) (h x)
theorem Seg_ne {d : Nat} {l : List Int} (h : Seg d l) : l ≠ [] := by
  rintro rfl
  have := h 0
  simp [hts] at this
theorem Seg_one {c : Int} (h : (0 ≤ c ∧ c ≤ 9999) ∨ namC (-c)) : Seg 1 [c] := fun x => by
  unfold hts
  rw [if_pos h, if_pos (Nat.le_refl _)]
  rfl
theorem Seg_un {d : Nat} {l : List Int} {c : Int} (h : Seg d l) (hc : c = -33 ∨ c = -1) : Seg d (l ++ [c]) := fun x => by
  rw [hts_app _ _ _ _ _ (h x)]
  unfold hts
  rw [if_neg (by omega), if_pos hc, if_pos (by omega)]
  rfl
theorem Seg_bin {d e D : Nat} {a b : List Int} {c : Int} (ha : Seg d a) (hb : Seg e b) (hd : d ≤ D) (he : e + 1 ≤ D) (hc : binC c) : Seg D (a ++ b ++ [-c]) := fun x => by
  rw [List.append_assoc, hts_app _ _ _ _ _ (hts_mono _ _ _ (x + D) _ (by omega) (ha x)), hts_app _ _ _ _ _ (hts_mono _ _ _ (x + D) _ (by omega) (hb (x + 1)))]
  unfold hts
  rw [if_neg (by omega), if_neg (by omega), if_pos (by omega)]
  rfl
/-- what an expression reader leaves behind where there is no fault -/
abbrev GdV (op : PS → PS) (d : Nat) : Prop := ∀ p : Nat, (op (p, -1, [])).2.1 < 0 → (op (p, -1, [])).2.1 = -1 ∧ Seg d (op (p, -1, [])).2.2
theorem ps_cat {s : PS} (h : s.2.1 = -1) : s = cat s.2.2 (s.1, -1, []) := by
  obtain ⟨p, f, l⟩ := s
  have h' : f = -1 := h
  subst h'
  show (p, (-1 : Int), l) = (p, -1, l ++ [])
  rw [List.append_nil]
theorem ls_v {T : Nat → Int} {L d D : Nat} {op : PS → PS} {P : Int → Bool} (hP : P (-1) = false) (hPb : ∀ c, P c = true → binC c) (ha : APP op) (hv : GdV op d) (hD : d + 1 ≤ D) : ∀ (k : Nat) (s : PS), s.2.1 = -1 → Seg D s.2.2 → (lsS T L op P k s).2.1 < 0 → (lsS T L op P k s).2.1 = -1 ∧ Seg D (lsS T L op P k s).2.2
  | 0, s, h1, h2, _ => ⟨h1, h2⟩
  | k + 1, s, h1, h2, h3 => by
    unfold lsS at h3 ⊢
    by_cases hn : P (nxS T L s) = true
    · rw [if_pos hn] at h3 ⊢
      have e : adS s = cat s.2.2 (s.1 + 1, -1, []) := ps_cat (s := adS s) h1
      rw [e, ha] at h3 ⊢
      by_cases hf : (op (s.1 + 1, -1, [])).2.1 < 0
      · obtain ⟨g1, g2⟩ := hv _ hf
        have e2 : emS (-(nxS T L s)) (cat s.2.2 (op (s.1 + 1, -1, []))) = ((op (s.1 + 1, -1, [])).1, -1, s.2.2 ++ (op (s.1 + 1, -1, [])).2.2 ++ [-(nxS T L s)]) := by
          rw [emS, if_pos (show (cat s.2.2 (op (s.1 + 1, -1, []))).2.1 < 0 from hf)]
          show (_, (op (s.1 + 1, -1, [])).2.1, _) = _
          rw [g1]; rfl
        rw [e2] at h3 ⊢
        exact ls_v hP hPb ha hv hD k _ rfl (Seg_bin h2 g2 (Nat.le_refl _) hD (hPb _ hn)) h3
      · exfalso
        have e3 : emS (-(nxS T L s)) (cat s.2.2 (op (s.1 + 1, -1, []))) = cat s.2.2 (op (s.1 + 1, -1, [])) := if_neg hf
        rw [e3, ls_no (by rw [nxS_f (show 0 ≤ (cat s.2.2 (op (s.1 + 1, -1, []))).2.1 from Int.not_lt.mp hf)]; exact hP)] at h3
        exact hf h3
    · rw [if_neg hn] at h3 ⊢
      exact ⟨h1, h2⟩
theorem lsc_v {T : Nat → Int} {L d D k : Nat} {op : PS → PS} {P : Int → Bool} (hP : P (-1) = false) (hPb : ∀ c, P c = true → binC c) (ha : APP op) (hv : GdV op d) (hD : d + 1 = D) : GdV (fun s => lsS T L op P k (op s)) D := by
  intro p hf
  by_cases h : (op (p, -1, [])).2.1 < 0
  · obtain ⟨g1, g2⟩ := hv p h
    exact ls_v hP hPb ha hv (by omega) k _ g1 (Seg_mono g2 (by omega)) hf
  · exfalso
    have hf' : (lsS T L op P k (op (p, -1, []))).2.1 < 0 := hf
    rw [ls_no (by rw [nxS_f (Int.not_lt.mp h)]; exact hP)] at hf'
    exact h hf'
theorem proC_b (c : Int) (h : proC c = true) : binC c := by simp [proC] at h; omega
theorem sumC_b (c : Int) (h : sumC c = true) : binC c := by simp [sumC] at h; omega
theorem cmpC_b (c : Int) (h : cmpC c = true) : binC c := by simp [cmpC] at h; omega
theorem andC_b (c : Int) (h : andC c = true) : binC c := by simp [andC] at h; omega
theorem orC_b (c : Int) (h : orC c = true) : binC c := by simp [orC] at h; omega
theorem ei_v {T : Nat → Int} {L d : Nat} {op : PS → PS} (ha : APP op) (hv : GdV op d) : GdV (eiS T L op) (d + 5) :=
  lsc_v (op := boS T L op) (d := d + 4) rfl orC_b (bo_app ha) (lsc_v (op := coS T L op) (d := d + 3) rfl andC_b (co_app ha) (lsc_v (op := suS T L op) (d := d + 2) rfl cmpC_b (su_app ha) (lsc_v (op := prS T L op) (d := d + 1) rfl sumC_b (pr_app ha) (lsc_v (op := op) (d := d) rfl proC_b ha hv rfl) rfl) rfl) rfl) rfl
theorem nm_vs {T : Nat → Int} {L k : Nat} {M M' : Int} (hM : M * 10 + 9 ≤ M') (ih : ∀ (v : Int) (p : Nat), 0 ≤ v → v ≤ M' → ∃ v', (0 ≤ v' ∧ v' ≤ 9999) ∧ (nmS T L k v (p, -1, [])).2 = (-1, [v'])) (h9 : M ≤ 9999) : ∀ (v : Int) (p : Nat), 0 ≤ v → v ≤ M → ∃ v', (0 ≤ v' ∧ v' ≤ 9999) ∧ (nmS T L (k + 1) v (p, -1, [])).2 = (-1, [v']) := by
  intro v p h0 h1
  unfold nmS
  by_cases hd : digC (nxS T L (p, -1, []))
  · rw [if_pos hd]
    exact ih _ (p + 1) (by omega) (by omega)
  · rw [if_neg hd]
    exact ⟨v, ⟨h0, by omega⟩, rfl⟩
theorem nm_v {T : Nat → Int} {L p : Nat} : ∃ v', (0 ≤ v' ∧ v' ≤ 9999) ∧ (nmS T L 4 0 (p, -1, [])).2 = (-1, [v']) :=
  nm_vs (M := 0) (M' := 9) (by omega) (nm_vs (M := 9) (M' := 99) (by omega) (nm_vs (M := 99) (M' := 999) (by omega) (nm_vs (M := 999) (M' := 9999) (by omega) (fun v p h0 h1 => ⟨v, ⟨h0, h1⟩, rfl⟩) (by omega)) (by omega)) (by omega)) (by omega) 0 p (by omega) (by omega)
theorem op_v {T : Nat → Int} {L : Nat} : ∀ r, GdV (opS T L r) (5 * r + 1) := by
  have flf : ∀ p : Nat, ¬ (flS (p, -1, [])).2.1 < 0 := fun p => by unfold flS; rw [if_pos (show (-1 : Int) < 0 by decide)]; show ¬ (p : Int) < 0; omega
  intro r
  induction r with
  | zero =>
    intro p hf
    rw [opS_0] at hf ⊢
    by_cases h1 : digC (nxS T L (p, -1, []))
    · rw [if_pos h1] at hf ⊢
      obtain ⟨v', g1, g2⟩ := nm_v (T := T) (L := L) (p := p)
      rw [g2]
      exact ⟨rfl, Seg_one (Or.inl g1)⟩
    · rw [if_neg h1] at hf ⊢
      by_cases h2 : namC (nxS T L (p, -1, []))
      · rw [if_pos h2] at hf ⊢
        exact ⟨rfl, Seg_one (Or.inr (by rw [Int.neg_neg]; exact h2))⟩
      · rw [if_neg h2] at hf
        exact absurd hf (flf p)
  | succ r ih =>
    intro p hf
    have pull : ∀ c : Int, (emS c (opS T L r (p + 1, -1, []))).2.1 < 0 → (c = -33 ∨ c = -1) → (emS c (opS T L r (p + 1, -1, []))).2.1 = -1 ∧ Seg (5 * (r + 1) + 1) (emS c (opS T L r (p + 1, -1, []))).2.2 := by
      intro c hq hc
      rw [emS_2] at hq ⊢
      obtain ⟨g1, g2⟩ := ih _ hq
      refine ⟨g1, ?_⟩
      rw [emS, if_pos hq]
      exact Seg_mono (Seg_un g2 hc) (by omega)
    rw [opS_s] at hf ⊢
    by_cases h1 : digC (nxS T L (p, -1, []))
    · rw [if_pos h1] at hf ⊢
      obtain ⟨v', g1, g2⟩ := nm_v (T := T) (L := L) (p := p)
      rw [g2]
      exact ⟨rfl, Seg_mono (Seg_one (Or.inl g1)) (by omega)⟩
    · rw [if_neg h1] at hf ⊢
      by_cases h2 : namC (nxS T L (p, -1, []))
      · rw [if_pos h2] at hf ⊢
        exact ⟨rfl, Seg_mono (Seg_one (Or.inr (by rw [Int.neg_neg]; exact h2))) (by omega)⟩
      · rw [if_neg h2] at hf ⊢
        by_cases h3 : nxS T L (p, -1, []) = 40
        · rw [if_pos h3] at hf ⊢
          have e : adS (p, -1, []) = (p + 1, -1, []) := rfl
          rw [e] at hf ⊢
          by_cases h6 : nxS T L (eiS T L (opS T L r) (p + 1, -1, [])) = 41
          · rw [if_pos h6] at hf ⊢
            obtain ⟨j1, -, -⟩ := nxS_ne (show nxS T L (eiS T L (opS T L r) (p + 1, -1, [])) ≠ -1 by omega)
            obtain ⟨g1, g2⟩ := ei_v (T := T) (L := L) (op_app r) ih _ j1
            exact ⟨g1, Seg_mono g2 (by omega)⟩
          · rw [if_neg h6] at hf
            exfalso
            unfold flS at hf
            by_cases h7 : (eiS T L (opS T L r) (p + 1, -1, [])).2.1 < 0
            · rw [if_pos h7] at hf
              have : ((eiS T L (opS T L r) (p + 1, -1, [])).1 : Int) < 0 := hf
              omega
            · rw [if_neg h7] at hf; exact h7 hf
        · rw [if_neg h3] at hf ⊢
          by_cases h4 : nxS T L (p, -1, []) = 33
          · rw [if_pos h4] at hf ⊢; exact pull _ hf (Or.inl rfl)
          · rw [if_neg h4] at hf ⊢
            by_cases h5 : nxS T L (p, -1, []) = 45
            · rw [if_pos h5] at hf ⊢; exact pull _ hf (Or.inr rfl)
            · rw [if_neg h5] at hf
              exact absurd hf (flf p)
/-- a whole expression -/
abbrev exS (T : Nat → Int) (L : Nat) : PS → PS := eiS T L (opS T L 6)
theorem ex_app {T : Nat → Int} {L : Nat} : APP (exS T L) := ei_app (op_app 6)
theorem ex_v {T : Nat → Int} {L : Nat} : GdV (exS T L) 36 := ei_v (op_app 6) (op_v 6)
theorem ex_gd {T : Nat → Int} {L : Nat} : GdS L (exS T L) := ei_gd (op_gd 6)
