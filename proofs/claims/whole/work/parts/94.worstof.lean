/-! rest, pure: the worst by the plan is the lowest of the row, the highest of the column -/
theorem sumP_neg {f : Nat → Int} : ∀ n, sumP (fun v => -(f v)) n = -(sumP f n)
  | 0 => rfl
  | n + 1 => by
    have := sumP_neg (f := f) n
    simp only [sumP]
    omega
theorem gain_sc0 {lw : Lw} {W T U : Nat → Int} {n : Nat} {r q : List Nat} (hq : q.length = n) : gainL (wG 0 lw W T U r) 0 q = -(scP lw W T U n r q) := by
  rw [gainL_sum, hq]
  unfold scP
  rw [← sumP_neg]
  exact sumP_congr (fun v hv => by
    show wG 0 lw W T U r (0 + v) (q.getD v 0) = _
    rw [Nat.zero_add]; rfl)
theorem gain_sc1 {lw : Lw} {W T U : Nat → Int} {n : Nat} {r q : List Nat} (hq : q.length = n) : gainL (wG 1 lw W T U r) 0 q = scP lw W T U n q r := by
  rw [gainL_sum, hq]
  unfold scP
  exact sumP_congr (fun v hv => by
    show wG 1 lw W T U r (0 + v) (q.getD v 0) = _
    rw [Nat.zero_add]; rfl)
theorem wst_lo {lw : Lw} {W T U : Nat → Int} {n N : Nat} {L : List (List Nat)} (hn : n ≤ 5) (hN : N ≤ 9) (hW : ∀ v, v < n → 0 ≤ W v ∧ W v ≤ 9) (hne : 1 ≤ (rowsL n N true).length) (i : Nat) : LoOf (fun j => scP lw W T U n (L.getD i []) ((rowsL n N true).getD j [])) (rowsL n N true).length (wstF 0 lw W T U n L N i) := by
  obtain ⟨h1, h2, -⟩ := mx_all (g := wG 0 lw W T U (L.getD i [])) (n := n) (fun v x hv _ => wG_rg (hW v hv)) n 0 N hn (by omega) hN
  obtain ⟨-, q, hq, he⟩ := h1 ⟨(rowsL n N true)[0], List.getElem_mem (by omega)⟩
  refine ⟨fun x hx => ?_, ?_⟩
  · have hm := List.mem_of_getElem? (getD_get hx)
    have h3 := h2 _ hm
    rw [gain_sc0 (rows_ok _ _ _ _ hm).1] at h3
    show wstF 0 lw W T U n L N i ≤ scP lw W T U n (L.getD i []) ((rowsL n N true).getD x [])
    unfold wstF
    omega
  · obtain ⟨x, hx, hxe⟩ := List.getElem_of_mem hq
    refine ⟨x, hx, ?_⟩
    have hg : (rowsL n N true).getD x [] = q := getD_some (by rw [List.getElem?_eq_getElem hx, hxe])
    rw [gain_sc0 (rows_ok _ _ _ _ hq).1] at he
    show wstF 0 lw W T U n L N i = scP lw W T U n (L.getD i []) ((rowsL n N true).getD x [])
    rw [hg]
    unfold wstF
    omega
theorem wst_hi {lw : Lw} {W T U : Nat → Int} {n N : Nat} {L : List (List Nat)} (hn : n ≤ 5) (hN : N ≤ 9) (hW : ∀ v, v < n → 0 ≤ W v ∧ W v ≤ 9) (hne : 1 ≤ (rowsL n N true).length) (j : Nat) : HiOf (fun i => scP lw W T U n ((rowsL n N true).getD i []) (L.getD j [])) (rowsL n N true).length (-(wstF 1 lw W T U n L N j)) := by
  obtain ⟨h1, h2, -⟩ := mx_all (g := wG 1 lw W T U (L.getD j [])) (n := n) (fun v x hv _ => wG_rg (hW v hv)) n 0 N hn (by omega) hN
  obtain ⟨-, q, hq, he⟩ := h1 ⟨(rowsL n N true)[0], List.getElem_mem (by omega)⟩
  refine ⟨fun x hx => ?_, ?_⟩
  · have hm := List.mem_of_getElem? (getD_get hx)
    have h3 := h2 _ hm
    rw [gain_sc1 (rows_ok _ _ _ _ hm).1] at h3
    show scP lw W T U n ((rowsL n N true).getD x []) (L.getD j []) ≤ -(wstF 1 lw W T U n L N j)
    unfold wstF
    omega
  · obtain ⟨x, hx, hxe⟩ := List.getElem_of_mem hq
    refine ⟨x, hx, ?_⟩
    have hg : (rowsL n N true).getD x [] = q := getD_some (by rw [List.getElem?_eq_getElem hx, hxe])
    rw [gain_sc1 (rows_ok _ _ _ _ hq).1] at he
    show -(wstF 1 lw W T U n L N j) = scP lw W T U n ((rowsL n N true).getD x []) (L.getD j [])
    rw [hg]
    unfold wstF
    omega
/-- at a saddle that is the first, the answers are those of the first guards -/
theorem rest_at {lw : Lw} {W T U : Nat → Int} {n N0 N1 : Nat} (hn : n ≤ 5) (hN0 : N0 ≤ 9) (hN1 : N1 ≤ 9) (hW : ∀ v, v < n → 0 ≤ W v ∧ W v ≤ 9) (hm : mayL n N0 N1) :
    (∀ i j, i < (rowsL n N0 true).length → j < (rowsL n N1 true).length → scP lw W T U n ((rowsL n N0 true).getD i []) ((rowsL n N1 true).getD j []) = wstF 0 lw W T U n (rowsL n N0 true) N1 i → scP lw W T U n ((rowsL n N0 true).getD i []) ((rowsL n N1 true).getD j []) = -(wstF 1 lw W T U n (rowsL n N1 true) N0 j) → (gd0 lw W T U n N0 N1).1 = -(gd1 lw W T U n N0 N1).1 ∧ scP lw W T U n ((rowsL n N0 true).getD i []) ((rowsL n N1 true).getD j []) = (gd0 lw W T U n N0 N1).1 ∧ (gd0 lw W T U n N0 N1).2 ≤ i ∧ (gd1 lw W T U n N0 N1).2 ≤ j) ∧ ((gd0 lw W T U n N0 N1).1 = -(gd1 lw W T U n N0 N1).1 → (gd0 lw W T U n N0 N1).2 < (rowsL n N0 true).length ∧ (gd1 lw W T U n N0 N1).2 < (rowsL n N1 true).length ∧ scP lw W T U n ((rowsL n N0 true).getD (gd0 lw W T U n N0 N1).2 []) ((rowsL n N1 true).getD (gd1 lw W T U n N0 N1).2 []) = wstF 0 lw W T U n (rowsL n N0 true) N1 (gd0 lw W T U n N0 N1).2 ∧ scP lw W T U n ((rowsL n N0 true).getD (gd0 lw W T U n N0 N1).2 []) ((rowsL n N1 true).getD (gd1 lw W T U n N0 N1).2 []) = -(wstF 1 lw W T U n (rowsL n N1 true) N0 (gd1 lw W T U n N0 N1).2)) := by
  have hb0 := wst_rg (b := 0) (lw := lw) (T := T) (U := U) (L := rowsL n N0 true) hn hN1 hW hm.2.1
  have hb1 := wst_rg (b := 1) (lw := lw) (T := T) (U := U) (L := rowsL n N1 true) hn hN0 hW hm.1.1
  obtain ⟨p1, p2, -⟩ := fxM_prop hb0 (rowsL n N0 true).length
  obtain ⟨r1, r2, -⟩ := fxM_prop hb1 (rowsL n N1 true).length
  obtain ⟨p3, p4, p5⟩ := p2 hm.1.1
  obtain ⟨r3, r4, r5⟩ := r2 hm.2.1
  have low : ∀ i j, i < (rowsL n N0 true).length → j < (rowsL n N1 true).length → wstF 0 lw W T U n (rowsL n N0 true) N1 i ≤ scP lw W T U n ((rowsL n N0 true).getD i []) ((rowsL n N1 true).getD j []) ∧ scP lw W T U n ((rowsL n N0 true).getD i []) ((rowsL n N1 true).getD j []) ≤ -(wstF 1 lw W T U n (rowsL n N1 true) N0 j) := fun i j hi hj =>
    ⟨(wst_lo (L := rowsL n N0 true) hn hN1 hW hm.2.1 i).1 j hj, (wst_hi (L := rowsL n N1 true) hn hN0 hW hm.1.1 j).1 i hi⟩
  unfold gd0 gd1
  constructor
  · intro i j hi hj q1 q2
    have h1 := p1 i hi
    have h2 := r1 j hj
    have h3 := low _ _ p3 r3
    have h4 := low _ j p3 hj
    have h5 := low i _ hi r3
    refine ⟨by omega, by omega, ?_, ?_⟩
    · by_cases e : i < (fxM (wstF 0 lw W T U n (rowsL n N0 true) N1) (rowsL n N0 true).length).2
      · have := p5 i e; omega
      · omega
    · by_cases e : j < (fxM (wstF 1 lw W T U n (rowsL n N1 true) N0) (rowsL n N1 true).length).2
      · have := r5 j e; omega
      · omega
  · intro he
    have h3 := low _ _ p3 r3
    exact ⟨p3, r3, by omega, by omega⟩
