/-! rest, the class: the first guards -/
def wstF (b : Nat) (lw : Lw) (W T U : Nat → Int) (n : Nat) (L : List (List Nat)) (N : Nat) : Nat → Int := fun i => -(mx (wG b lw W T U (L.getD i [])) true n 0 N)
theorem wst_rg {b : Nat} {lw : Lw} {W T U : Nat → Int} {n : Nat} {L : List (List Nat)} {N : Nat} (hn : n ≤ 5) (hN : N ≤ 9) (hW : ∀ v, v < n → 0 ≤ W v ∧ W v ≤ 9) (hne : 1 ≤ (rowsL n N true).length) (k : Nat) : -45 ≤ wstF b lw W T U n L N k ∧ wstF b lw W T U n L N k ≤ 45 := by
  have h1 := (mx_all (g := wG b lw W T U (L.getD k [])) (n := n) (fun v x hv _ => wG_rg (hW v hv)) n 0 N hn (by omega) hN).1 ⟨(rowsL n N true)[0], List.getElem_mem (by omega)⟩
  have h2 := mx_rg (g := wG b lw W T U (L.getD k [])) (all := true) (G := 9) (n := n) (by decide) (fun v x hv _ => (wG_rg (hW v hv)).2) n 0 N (by omega) hN
  unfold wstF
  omega
def GuF (A B : IM) : Prop := ∀ a, a ≠ 36 → a ≠ 37 → a ≠ 42 → a ≠ 43 → B a = A a
theorem GuF_s {A B : IM} {G M : Nat → Int} (h : GuF A B) : GuF A (upA (upA B 36 G) 37 M) := fun a h1 h2 h3 h4 => by
  unfold upA; rw [if_neg h2, if_neg h1]; exact h a h1 h2 h3 h4
theorem GuF_t {A B : IM} {G : Nat → Int} (h : GuF A B) : GuF A (upA B 43 G) := fun a h1 h2 h3 h4 => by
  unfold upA; rw [if_neg h4]; exact h a h1 h2 h3 h4
theorem GuF_u {A B : IM} {G : Nat → Int} (h : GuF A B) : GuF A (upA B 42 G) := fun a h1 h2 h3 h4 => by
  unfold upA; rw [if_neg h3]; exact h a h1 h2 h3 h4
theorem DuC_gu {A B : IM} {lw : Lw} {n N0 N1 : Nat} (h : GuF A B) (hd : DuC A lw n N0 N1) : DuC B lw n N0 N1 := by
  unfold DuC PtsOK
  rw [h 38 (by decide) (by decide) (by decide) (by decide), h 40 (by decide) (by decide) (by decide) (by decide), h 41 (by decide) (by decide) (by decide) (by decide), h 11 (by decide) (by decide) (by decide) (by decide), h 7 (by decide) (by decide) (by decide) (by decide), h 8 (by decide) (by decide) (by decide) (by decide), h 9 (by decide) (by decide) (by decide) (by decide), h 6 (by decide) (by decide) (by decide) (by decide)]
  exact hd
theorem QC_gu {I A B : IM} {lw : Lw} {n : Nat} (h : GuF A B) (hq : QC I lw n A) : QC I lw n B := by
  refine ⟨⟨fun a ha => ?_, fun k hk => ?_⟩, ?_⟩
  · rw [h a (fun e => ha (by subst e; decide)) (fun e => ha (by subst e; decide)) (fun e => ha (by subst e; decide)) (fun e => ha (by subst e; decide))]; exact hq.1.1 a ha
  · rw [h 1 (by decide) (by decide) (by decide) (by decide)]; exact hq.1.2 k hk
  · exact CchI_of (h 7 (by decide) (by decide) (by decide) (by decide)) (h 8 (by decide) (by decide) (by decide) (by decide)) (h 9 (by decide) (by decide) (by decide) (by decide)) (h 11 (by decide) (by decide) (by decide) (by decide)) (h 12 (by decide) (by decide) (by decide) (by decide)) hq.2
set_option maxRecDepth 20000 in
set_option maxHeartbeats 400000 in
theorem c_firstGuard0 {X : pX} {I J : IM} {h : Nat} (lw : Lw) (n : Nat) (hn5 : n ≤ 5) (hW : ∀ v, v < n → 0 ≤ I 7 v ∧ I 7 v ≤ 9) (N0 N1 : Nat) (hN0 : N0 ≤ 9) (hN1 : N1 ≤ 9) (hM0 : I 10 0 = N0) (hM1 : I 10 1 = N1) (hd : DuC I lw n N0 N1) (hm : mayL n N0 N1) : KIq X (h + 4) mX3_firstGuard [.ref 32, zi 0] I J (fun z A B => z = (fxM (wstF 0 lw (I 7) (I 8) (I 9) n (rowsL n N0 true) N1) (rowsL n N0 true).length).1 ∧ GuF I A ∧ A 43 1 = I 43 1 ∧ A 43 0 = (((fxM (wstF 0 lw (I 7) (I 8) (I 9) n (rowsL n N0 true) N1) (rowsL n N0 true).length).2 : Nat) : Int) ∧ J = B) := by
  have hge : 1 ≤ (rowsL n N1 true).length := hm.2.1
  have hgb : 1 ≤ (rowsL n N0 true).length := hm.1.1
  have hl0 := hm.1.2
  have hl1 := hm.2.2
  show Rz X (h + 4) mX3_firstGuard 0 [some (.ref 32), some (zi 0), none, none, none] [] I J _
  refine rz_ldc (x := (-1000000)) dX3_firstGuard_0 kk_RX3_139 (by decide) ?_
  refine rz_istore_n dX3_firstGuard_2 (by decide) rfl ?_
  refine rz_iconst dX3_firstGuard_3 ?_
  refine rz_istore_n dX3_firstGuard_4 (by decide) rfl ?_
  refine rz_upx (σ := IM) (Inv := fun i si => GuF I si ∧ si 43 1 = I 43 1 ∧ (1 ≤ i → si 43 0 = (((fxM (wstF 0 lw (I 7) (I 8) (I 9) n (rowsL n N0 true) N1) i).2 : Nat) : Int))) (ls := fun (i : Nat) si => [some (.ref 32), some (zi 0), some (zi ((fxM (wstF 0 lw (I 7) (I 8) (I 9) n (rowsL n N0 true) N1) i).1)), some (zi (i : Int)), none]) (IV := fun (i : Nat) si => si) (JV := fun (i : Nat) si => J) ((rowsL n N0 true).length) (I) ⟨fun _ _ _ _ _ => rfl, rfl, fun h => absurd h (by omega)⟩ ⟨Or.inr rfl, Or.inr rfl, Or.inr rfl, Or.inr rfl, Or.inl rfl, trivial⟩ (rfl) (rfl) ?_ ?_
  · intro i si hi qi ihi
    obtain ⟨d1, d2, d3, d4, d5, d6⟩ := DuC_gu qi.1 hd
    have m7 : si 7 = I 7 := qi.1 7 (by decide) (by decide) (by decide) (by decide)
    have m8 : si 8 = I 8 := qi.1 8 (by decide) (by decide) (by decide) (by decide)
    have m9 : si 9 = I 9 := qi.1 9 (by decide) (by decide) (by decide) (by decide)
    have m10 : si 10 = I 10 := qi.1 10 (by decide) (by decide) (by decide) (by decide)
    have hfr := fxM_prop (t := (wstF 0 lw (I 7) (I 8) (I 9) n (rowsL n N0 true) N1)) (wst_rg hn5 hN1 hW hge) i
    have hti := wst_rg (b := 0) (lw := lw) (T := I 8) (U := I 9) (L := (rowsL n N0 true)) hn5 hN1 hW hge i
    have hwd := (rowsL_ok (n := n) (left := N0) (all := true) hN0 _ (List.mem_of_getElem? (getD_get hi))).2
    have hf0 : i = 0 → (fxM (wstF 0 lw (I 7) (I 8) (I 9) n (rowsL n N0 true) N1) i).1 = -1000000 := fun e => by subst e; rfl
    refine rz_iload_n dX3_firstGuard_5 rfl ?_
    refine rz_aload_n dX3_firstGuard_6 rfl ?_
    refine rz_getR dX3_firstGuard_7 kf_RX3_27 hd_32 rfl rr_32_7 ?_
    refine rz_iload_n dX3_firstGuard_10 rfl ?_
    refine rz_iald (z := ((rowsL n N0 true).length : Int)) dX3_firstGuard_11 hd_38 (by decide) (by omega) d1 ?_
    refine rz_icmp_ge (t := 48) dX3_firstGuard_12 rfl (by omega) (by omega) (fun c12 => ?_) (fun c12 => ?_)
    · exfalso; omega
    · refine rz_aload_n dX3_firstGuard_15 rfl ?_
      refine rz_iload_n dX3_firstGuard_16 rfl ?_
      refine rz_iload_n dX3_firstGuard_17 rfl ?_
      refine rz_cVIq dX3_firstGuard_18 kl_RX3_140 hd_32 ⟨_, _, rfl⟩ (c_worst0 (I := si) lw n ⟨d6, hn5⟩ (fun v hv => by rw [m7]; exact hW v hv) N1 ⟨by rw [m10]; exact hM1, hN1⟩ i (by omega) ((rowsL n N0 true).getD i []) (fun v hv => ⟨by rw [show i * 5 + v = 5 * i + v by omega]; exact d3 i _ (getD_get hi) v (by omega), getD_le hwd v⟩) d5) rfl rfl (Nat.le_of_ble_eq_true rfl) (Nat.le_of_ble_eq_true rfl) ?_
      rintro _ _ _ ⟨rfl, ⟨G18, M18, rfl⟩, rfl⟩
      refine rz_ieq (y := (wstF 0 lw (I 7) (I 8) (I 9) n (rowsL n N0 true) N1) i) (by rw [m7, m8, m9]; rfl) ?_
      refine rz_istore dX3_firstGuard_21 (by decide) rfl ?_
      refine rz_iload dX3_firstGuard_23 rfl ?_
      refine rz_iload_n dX3_firstGuard_25 rfl ?_
      refine rz_icmp_gt (t := 32) dX3_firstGuard_26 rfl (by omega) (by omega) (fun c26 => ?_) (fun c26 => ?_)
      · refine rz_iload dX3_firstGuard_32 rfl ?_
        refine rz_istore_n dX3_firstGuard_34 (by decide) rfl ?_
        refine rz_aload_n dX3_firstGuard_35 rfl ?_
        refine rz_getR dX3_firstGuard_36 kf_RX3_41 hd_32 rfl rr_32_3 ?_
        refine rz_iload_n dX3_firstGuard_39 rfl ?_
        refine rz_iload_n dX3_firstGuard_40 rfl ?_
        refine rz_iast dX3_firstGuard_41 hd_43 (by decide) (by omega) ?_
        refine rz_mem (I' := (upA (upA (upA si 36 G18) 37 M18) 43 (up1 ((upA (upA si 36 G18) 37 M18) 43) 0 (i : Int)))) (J' := J) (rfl) (rfl) ?_
        refine rz_iinc (ls' := [some (.ref 32), some (zi 0), some (zi ((wstF 0 lw (I 7) (I 8) (I 9) n (rowsL n N0 true) N1) i)), some (zi ((i : Int) + 1)), some (zi ((wstF 0 lw (I 7) (I 8) (I 9) n (rowsL n N0 true) N1) i))]) dX3_firstGuard_42 (by decide) rfl rfl rfl ?_
        refine rz_goto (t := 5) dX3_firstGuard_45 rfl ?_
        exact rz_bk (ihi ((upA (upA (upA si 36 G18) 37 M18) 43 (up1 ((upA (upA si 36 G18) 37 M18) 43) 0 (i : Int)))) (⟨GuF_t (GuF_s qi.1), (show up1 (si 43) 0 (i : Int) 1 = si 43 1 from up1_ne (by decide)).trans qi.2.1, fun _ => by rw [fxM_y (t := (wstF 0 lw (I 7) (I 8) (I 9) n (rowsL n N0 true) N1)) (k := i) (by omega)]; exact (up1_self : up1 (si 43) 0 (i : Int) 0 = (i : Int))⟩)) ⟨Or.inr rfl, Or.inr rfl, Or.inr (congrArg (fun z => some (zi z)) (by first | (rw [fxM_y (t := (wstF 0 lw (I 7) (I 8) (I 9) n (rowsL n N0 true) N1)) (k := i) (by omega)]) | (rw [fxM_n (t := (wstF 0 lw (I 7) (I 8) (I 9) n (rowsL n N0 true) N1)) (k := i) (by omega)]))), Or.inr rfl, Or.inl rfl, trivial⟩ (rfl) (rfl)
      · refine rz_goto (t := 42) dX3_firstGuard_29 rfl ?_
        refine rz_iinc dX3_firstGuard_42 (by decide) rfl rfl rfl ?_
        refine rz_goto (t := 5) dX3_firstGuard_45 rfl ?_
        exact rz_bk (ihi ((upA (upA si 36 G18) 37 M18)) (⟨GuF_s qi.1, qi.2.1, fun _ => by rw [fxM_n (t := (wstF 0 lw (I 7) (I 8) (I 9) n (rowsL n N0 true) N1)) (k := i) (by omega)]; exact qi.2.2 (by by_cases q : i = 0; (have := hf0 q; omega); omega)⟩)) ⟨Or.inr rfl, Or.inr rfl, Or.inr (congrArg (fun z => some (zi z)) (by first | (rw [fxM_y (t := (wstF 0 lw (I 7) (I 8) (I 9) n (rowsL n N0 true) N1)) (k := i) (by omega)]) | (rw [fxM_n (t := (wstF 0 lw (I 7) (I 8) (I 9) n (rowsL n N0 true) N1)) (k := i) (by omega)]))), Or.inr rfl, Or.inl rfl, trivial⟩ (rfl) (rfl)
  · intro si qi
    obtain ⟨d1, d2, d3, d4, d5, d6⟩ := DuC_gu qi.1 hd
    refine rz_iload_n dX3_firstGuard_5 rfl ?_
    refine rz_aload_n dX3_firstGuard_6 rfl ?_
    refine rz_getR dX3_firstGuard_7 kf_RX3_27 hd_32 rfl rr_32_7 ?_
    refine rz_iload_n dX3_firstGuard_10 rfl ?_
    refine rz_iald (z := ((rowsL n N0 true).length : Int)) dX3_firstGuard_11 hd_38 (by decide) (by omega) d1 ?_
    refine rz_icmp_ge (t := 48) dX3_firstGuard_12 rfl (by omega) (by omega) (fun c12 => ?_) (fun c12 => ?_)
    · refine rz_iload_n dX3_firstGuard_48 rfl ?_
      refine rz_iret dX3_firstGuard_49 rfl ?_
      exact ⟨_, rfl, rfl, qi.1, qi.2.1, qi.2.2 hgb, rfl⟩
    · exfalso; omega
set_option maxRecDepth 20000 in
set_option maxHeartbeats 400000 in
theorem c_firstGuard1 {X : pX} {I J : IM} {h : Nat} (lw : Lw) (n : Nat) (hn5 : n ≤ 5) (hW : ∀ v, v < n → 0 ≤ I 7 v ∧ I 7 v ≤ 9) (N0 N1 : Nat) (hN0 : N0 ≤ 9) (hN1 : N1 ≤ 9) (hM0 : I 10 0 = N0) (hM1 : I 10 1 = N1) (hd : DuC I lw n N0 N1) (hm : mayL n N0 N1) : KIq X (h + 4) mX3_firstGuard [.ref 32, zi 1] I J (fun z A B => z = (fxM (wstF 1 lw (I 7) (I 8) (I 9) n (rowsL n N1 true) N0) (rowsL n N1 true).length).1 ∧ GuF I A ∧ A 43 0 = I 43 0 ∧ A 43 1 = (((fxM (wstF 1 lw (I 7) (I 8) (I 9) n (rowsL n N1 true) N0) (rowsL n N1 true).length).2 : Nat) : Int) ∧ J = B) := by
  have hge : 1 ≤ (rowsL n N0 true).length := hm.1.1
  have hgb : 1 ≤ (rowsL n N1 true).length := hm.2.1
  have hl0 := hm.1.2
  have hl1 := hm.2.2
  show Rz X (h + 4) mX3_firstGuard 0 [some (.ref 32), some (zi 1), none, none, none] [] I J _
  refine rz_ldc (x := (-1000000)) dX3_firstGuard_0 kk_RX3_139 (by decide) ?_
  refine rz_istore_n dX3_firstGuard_2 (by decide) rfl ?_
  refine rz_iconst dX3_firstGuard_3 ?_
  refine rz_istore_n dX3_firstGuard_4 (by decide) rfl ?_
  refine rz_upx (σ := IM) (Inv := fun i si => GuF I si ∧ si 43 0 = I 43 0 ∧ (1 ≤ i → si 43 1 = (((fxM (wstF 1 lw (I 7) (I 8) (I 9) n (rowsL n N1 true) N0) i).2 : Nat) : Int))) (ls := fun (i : Nat) si => [some (.ref 32), some (zi 1), some (zi ((fxM (wstF 1 lw (I 7) (I 8) (I 9) n (rowsL n N1 true) N0) i).1)), some (zi (i : Int)), none]) (IV := fun (i : Nat) si => si) (JV := fun (i : Nat) si => J) ((rowsL n N1 true).length) (I) ⟨fun _ _ _ _ _ => rfl, rfl, fun h => absurd h (by omega)⟩ ⟨Or.inr rfl, Or.inr rfl, Or.inr rfl, Or.inr rfl, Or.inl rfl, trivial⟩ (rfl) (rfl) ?_ ?_
  · intro i si hi qi ihi
    obtain ⟨d1, d2, d3, d4, d5, d6⟩ := DuC_gu qi.1 hd
    have m7 : si 7 = I 7 := qi.1 7 (by decide) (by decide) (by decide) (by decide)
    have m8 : si 8 = I 8 := qi.1 8 (by decide) (by decide) (by decide) (by decide)
    have m9 : si 9 = I 9 := qi.1 9 (by decide) (by decide) (by decide) (by decide)
    have m10 : si 10 = I 10 := qi.1 10 (by decide) (by decide) (by decide) (by decide)
    have hfr := fxM_prop (t := (wstF 1 lw (I 7) (I 8) (I 9) n (rowsL n N1 true) N0)) (wst_rg hn5 hN0 hW hge) i
    have hti := wst_rg (b := 1) (lw := lw) (T := I 8) (U := I 9) (L := (rowsL n N1 true)) hn5 hN0 hW hge i
    have hwd := (rowsL_ok (n := n) (left := N1) (all := true) hN1 _ (List.mem_of_getElem? (getD_get hi))).2
    have hf0 : i = 0 → (fxM (wstF 1 lw (I 7) (I 8) (I 9) n (rowsL n N1 true) N0) i).1 = -1000000 := fun e => by subst e; rfl
    refine rz_iload_n dX3_firstGuard_5 rfl ?_
    refine rz_aload_n dX3_firstGuard_6 rfl ?_
    refine rz_getR dX3_firstGuard_7 kf_RX3_27 hd_32 rfl rr_32_7 ?_
    refine rz_iload_n dX3_firstGuard_10 rfl ?_
    refine rz_iald (z := ((rowsL n N1 true).length : Int)) dX3_firstGuard_11 hd_38 (by decide) (by omega) d2 ?_
    refine rz_icmp_ge (t := 48) dX3_firstGuard_12 rfl (by omega) (by omega) (fun c12 => ?_) (fun c12 => ?_)
    · exfalso; omega
    · refine rz_aload_n dX3_firstGuard_15 rfl ?_
      refine rz_iload_n dX3_firstGuard_16 rfl ?_
      refine rz_iload_n dX3_firstGuard_17 rfl ?_
      refine rz_cVIq dX3_firstGuard_18 kl_RX3_140 hd_32 ⟨_, _, rfl⟩ (c_worst1 (I := si) lw n ⟨d6, hn5⟩ (fun v hv => by rw [m7]; exact hW v hv) N0 ⟨by rw [m10]; exact hM0, hN0⟩ i (by omega) ((rowsL n N1 true).getD i []) (fun v hv => ⟨by rw [show i * 5 + v = 5 * i + v by omega]; exact d4 i _ (getD_get hi) v (by omega), getD_le hwd v⟩) d5) rfl rfl (Nat.le_of_ble_eq_true rfl) (Nat.le_of_ble_eq_true rfl) ?_
      rintro _ _ _ ⟨rfl, ⟨G18, M18, rfl⟩, rfl⟩
      refine rz_ieq (y := (wstF 1 lw (I 7) (I 8) (I 9) n (rowsL n N1 true) N0) i) (by rw [m7, m8, m9]; rfl) ?_
      refine rz_istore dX3_firstGuard_21 (by decide) rfl ?_
      refine rz_iload dX3_firstGuard_23 rfl ?_
      refine rz_iload_n dX3_firstGuard_25 rfl ?_
      refine rz_icmp_gt (t := 32) dX3_firstGuard_26 rfl (by omega) (by omega) (fun c26 => ?_) (fun c26 => ?_)
      · refine rz_iload dX3_firstGuard_32 rfl ?_
        refine rz_istore_n dX3_firstGuard_34 (by decide) rfl ?_
        refine rz_aload_n dX3_firstGuard_35 rfl ?_
        refine rz_getR dX3_firstGuard_36 kf_RX3_41 hd_32 rfl rr_32_3 ?_
        refine rz_iload_n dX3_firstGuard_39 rfl ?_
        refine rz_iload_n dX3_firstGuard_40 rfl ?_
        refine rz_iast dX3_firstGuard_41 hd_43 (by decide) (by omega) ?_
        refine rz_mem (I' := (upA (upA (upA si 36 G18) 37 M18) 43 (up1 ((upA (upA si 36 G18) 37 M18) 43) 1 (i : Int)))) (J' := J) (rfl) (rfl) ?_
        refine rz_iinc (ls' := [some (.ref 32), some (zi 1), some (zi ((wstF 1 lw (I 7) (I 8) (I 9) n (rowsL n N1 true) N0) i)), some (zi ((i : Int) + 1)), some (zi ((wstF 1 lw (I 7) (I 8) (I 9) n (rowsL n N1 true) N0) i))]) dX3_firstGuard_42 (by decide) rfl rfl rfl ?_
        refine rz_goto (t := 5) dX3_firstGuard_45 rfl ?_
        exact rz_bk (ihi ((upA (upA (upA si 36 G18) 37 M18) 43 (up1 ((upA (upA si 36 G18) 37 M18) 43) 1 (i : Int)))) (⟨GuF_t (GuF_s qi.1), (show up1 (si 43) 1 (i : Int) 0 = si 43 0 from up1_ne (by decide)).trans qi.2.1, fun _ => by rw [fxM_y (t := (wstF 1 lw (I 7) (I 8) (I 9) n (rowsL n N1 true) N0)) (k := i) (by omega)]; exact (up1_self : up1 (si 43) 1 (i : Int) 1 = (i : Int))⟩)) ⟨Or.inr rfl, Or.inr rfl, Or.inr (congrArg (fun z => some (zi z)) (by first | (rw [fxM_y (t := (wstF 1 lw (I 7) (I 8) (I 9) n (rowsL n N1 true) N0)) (k := i) (by omega)]) | (rw [fxM_n (t := (wstF 1 lw (I 7) (I 8) (I 9) n (rowsL n N1 true) N0)) (k := i) (by omega)]))), Or.inr rfl, Or.inl rfl, trivial⟩ (rfl) (rfl)
      · refine rz_goto (t := 42) dX3_firstGuard_29 rfl ?_
        refine rz_iinc dX3_firstGuard_42 (by decide) rfl rfl rfl ?_
        refine rz_goto (t := 5) dX3_firstGuard_45 rfl ?_
        exact rz_bk (ihi ((upA (upA si 36 G18) 37 M18)) (⟨GuF_s qi.1, qi.2.1, fun _ => by rw [fxM_n (t := (wstF 1 lw (I 7) (I 8) (I 9) n (rowsL n N1 true) N0)) (k := i) (by omega)]; exact qi.2.2 (by by_cases q : i = 0; (have := hf0 q; omega); omega)⟩)) ⟨Or.inr rfl, Or.inr rfl, Or.inr (congrArg (fun z => some (zi z)) (by first | (rw [fxM_y (t := (wstF 1 lw (I 7) (I 8) (I 9) n (rowsL n N1 true) N0)) (k := i) (by omega)]) | (rw [fxM_n (t := (wstF 1 lw (I 7) (I 8) (I 9) n (rowsL n N1 true) N0)) (k := i) (by omega)]))), Or.inr rfl, Or.inl rfl, trivial⟩ (rfl) (rfl)
  · intro si qi
    obtain ⟨d1, d2, d3, d4, d5, d6⟩ := DuC_gu qi.1 hd
    refine rz_iload_n dX3_firstGuard_5 rfl ?_
    refine rz_aload_n dX3_firstGuard_6 rfl ?_
    refine rz_getR dX3_firstGuard_7 kf_RX3_27 hd_32 rfl rr_32_7 ?_
    refine rz_iload_n dX3_firstGuard_10 rfl ?_
    refine rz_iald (z := ((rowsL n N1 true).length : Int)) dX3_firstGuard_11 hd_38 (by decide) (by omega) d2 ?_
    refine rz_icmp_ge (t := 48) dX3_firstGuard_12 rfl (by omega) (by omega) (fun c12 => ?_) (fun c12 => ?_)
    · refine rz_iload_n dX3_firstGuard_48 rfl ?_
      refine rz_iret dX3_firstGuard_49 rfl ?_
      exact ⟨_, rfl, rfl, qi.1, qi.2.1, qi.2.2 hgb, rfl⟩
    · exfalso; omega
