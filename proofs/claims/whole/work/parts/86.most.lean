/-! the most that are surely had, and the fewest loaves for it -/
def frM (t : Nat → Int) : Nat → Int × Nat
  | 0 => (-1, 0)
  | k + 1 => if (frM t k).1 < t k then (t k, k) else frM t k
theorem frM_y {t : Nat → Int} {k : Nat} (h : (frM t k).1 < t k) : frM t (k + 1) = (t k, k) := if_pos h
theorem frM_n {t : Nat → Int} {k : Nat} (h : ¬ (frM t k).1 < t k) : frM t (k + 1) = frM t k := if_neg h
theorem frM_rg {t : Nat → Int} (ht : ∀ k, 0 ≤ t k ∧ t k ≤ 6) : ∀ k, (-1 ≤ (frM t k).1 ∧ (frM t k).1 ≤ 6) ∧ (1 ≤ k → 0 ≤ (frM t k).1 ∧ (frM t k).2 < k)
  | 0 => ⟨by show (-1 : Int) ≤ -1 ∧ (-1 : Int) ≤ 6; omega, fun h => by omega⟩
  | k + 1 => by
    have ih := frM_rg ht k
    have h := ht k
    by_cases e : (frM t k).1 < t k
    · rw [frM_y e]; exact ⟨by show -1 ≤ t k ∧ t k ≤ 6; omega, fun _ => ⟨h.1, Nat.lt_succ_self k⟩⟩
    · rw [frM_n e]
      refine ⟨ih.1, fun _ => ?_⟩
      by_cases e2 : 1 ≤ k
      · have := (ih.2 e2); omega
      · obtain rfl : k = 0 := by omega
        exact absurd (show (-1 : Int) < t 0 by omega) e
def surN (lw : Lw) (W T U : Nat → Int) (n : Nat) (L : List (List Nat)) (Lb : Nat) : Nat → Int := fun j => dpS (posV lw W T U) (fun v => (L.getD j []).getD v 0) n 0 Lb
theorem surN_rg {lw : Lw} {W T U : Nat → Int} {n Lb : Nat} {L : List (List Nat)} (j : Nat) : 0 ≤ surN lw W T U n L Lb j ∧ surN lw W T U n L Lb j ≤ 6 := dpS_rg n 0 Lb
theorem rows_715 : ∀ n, n ≤ 5 → ∀ k, k ≤ 9 → (rowsL n k true).length ≤ 715 := by decide +kernel
def mosN (lw : Lw) (W T U : Nat → Int) (n Lb N : Nat) : Int × Nat := frM (surN lw W T U n (rowsL n N true) Lb) (rowsL n N true).length
def mosV (lw : Lw) (W T U : Nat → Int) (n Lb N : Nat) : Int := numP (fun v => ((((rowsL n N true).getD (mosN lw W T U n Lb N).2 []).getD v 0 : Nat) : Int)) n
theorem wk_33 {I : IM} {n : Nat} {w : List Nat} {G : Nat → Int} : wkM (upA I 32 G) n w = upA (wkM I n w) 32 G := by
  funext d
  by_cases e1 : d = 32
  · subst e1; rfl
  · by_cases e2 : d = 34
    · subst e2; rfl
    · by_cases e3 : d = 33
      · subst e3; rfl
      · simp [wkM, upA, e1, e2, e3]
theorem wk_32 {I : IM} {n : Nat} {w : List Nat} {G G2 : Nat → Int} : wkM (upA I 32 G2) n w = upA (wkM (upA I 32 G) n w) 32 G2 := by
  rw [wk_33, wk_33, upA_upA]
set_option maxRecDepth 20000 in
set_option maxHeartbeats 400000 in
theorem c_X3_findMost {X : pX} {I J : IM} {h : Nat} (lw : Lw) (n : Nat) (hn : I 6 0 = n ∧ n ≤ 5) (N L : Nat) (hN : N ≤ 9) (hL : I 10 1 = L ∧ L ≤ 9) (hC : CoOK I lw n) : KIq X (h + 2) mX3_findMost [.ref 32, zi (N : Int)] I J (fun z A B => (∃ w G, A = wkM (upA I 32 G) n w ∧ ((z = 1 ∧ 1 ≤ (rowsL n N true).length ∧ G 1 = (mosN lw (I 7) (I 8) (I 9) n L N).1 ∧ G 0 = mosV lw (I 7) (I 8) (I 9) n L N) ∨ (z = 0 ∧ (rowsL n N true).length = 0))) ∧ J = B) := by
  show Rz X (h + 2) mX3_findMost 0 [some (.ref 32), some (zi (N : Int)), none, none, none] [] I J _
  refine rz_aload_n dX3_findMost_0 rfl ?_
  refine rz_getR dX3_findMost_1 kf_RX3_16 hd_32 rfl rr_32_5 ?_
  refine rz_aload_n dX3_findMost_4 rfl ?_
  refine rz_getR dX3_findMost_5 kf_RX3_7 hd_32 rfl rr_32_4 ?_
  refine rz_getI (z := (n : Int)) dX3_findMost_8 kf_RX3_69 hd_6 rfl (hn.1) ?_
  refine rz_iload_n dX3_findMost_11 rfl ?_
  refine rz_cVIq dX3_findMost_12 kl_RX3_76 hd_33 ⟨_, _, rfl⟩ (c_X10_start (I := I) n N hn.2 hN) rfl rfl (Nat.le_of_ble_eq_true rfl) (Nat.le_of_ble_eq_true rfl) ?_
  rintro z12 _ _ ⟨⟨rfl, h0⟩ | ⟨rfl, h00, hN0⟩, rfl, rfl⟩
  · refine rz_istore_n dX3_findMost_15 (by decide) rfl ?_
    refine rz_iload_n dX3_findMost_16 rfl ?_
    refine rz_if_ne (t := 22) dX3_findMost_17 rfl (by omega) (fun _ => ?_) (fun q => absurd q (by decide))
    have h715 := rows_715 n hn.2 N hN
    have hge : 1 ≤ (rowsL n N true).length := (List.getElem?_eq_some_iff.mp (rows_first hn.2 hN h0)).1
    refine rz_aload_n dX3_findMost_22 rfl ?_
    refine rz_iconst dX3_findMost_23 ?_
    refine rz_putI dX3_findMost_24 kp_RX3_150 hd_32 rfl ?_
    refine rz_iconst dX3_findMost_27 ?_
    refine rz_istore_n dX3_findMost_28 (by decide) rfl ?_
    refine rz_wh (σ := Nat × (Nat → Int) × List Nat × Int) (Inv := fun sq => sq.1 ≤ (rowsL n N true).length ∧ ((sq.2.2.2 = 1 ∧ (rowsL n N true)[sq.1]? = some sq.2.2.1) ∨ (sq.2.2.2 = 0 ∧ sq.1 = (rowsL n N true).length)) ∧ sq.2.1 1 = (frM (surN lw (I 7) (I 8) (I 9) n (rowsL n N true) L) sq.1).1 ∧ (1 ≤ sq.1 → sq.2.1 0 = numP (fun v => ((((rowsL n N true).getD (frM (surN lw (I 7) (I 8) (I 9) n (rowsL n N true) L) sq.1).2 []).getD v 0 : Nat) : Int)) n)) (ls := fun sq => [some (.ref 32), some (zi (N : Int)), some (zi sq.2.2.2), some (zi (sq.1 : Int)), none]) (IV := fun sq => (wkM (upA I 32 sq.2.1) n sq.2.2.1)) (JV := fun sq => J) (fun sq => (rowsL n N true).length - sq.1) ((0, up1 (I 32) 1 (-1), w0L n N, 1)) ⟨Nat.zero_le _, Or.inl ⟨rfl, rows_first hn.2 hN h0⟩, rfl, fun h => absurd (show (1 : Nat) ≤ 0 from h) (by decide)⟩ ⟨Or.inr rfl, Or.inr rfl, Or.inr rfl, Or.inr rfl, Or.inl rfl, trivial⟩ (wk_33) (rfl) ?_
    · intro sq qq ihq
      obtain ⟨i, G, w, mo⟩ := sq
      obtain ⟨i1, i2, i3, i4⟩ : i ≤ (rowsL n N true).length ∧ ((mo = 1 ∧ (rowsL n N true)[i]? = some w) ∨ (mo = 0 ∧ i = (rowsL n N true).length)) ∧ G 1 = (frM (surN lw (I 7) (I 8) (I 9) n (rowsL n N true) L) i).1 ∧ (1 ≤ i → G 0 = numP (fun v => ((((rowsL n N true).getD (frM (surN lw (I 7) (I 8) (I 9) n (rowsL n N true) L) i).2 []).getD v 0 : Nat) : Int)) n) := qq
      have hmo : mo = 0 ∨ mo = 1 := by rcases i2 with e | e <;> omega
      have hf0 : i = 0 → (frM (surN lw (I 7) (I 8) (I 9) n (rowsL n N true) L) i).1 = -1 := fun e => by subst e; rfl
      have hfr := frM_rg (t := (surN lw (I 7) (I 8) (I 9) n (rowsL n N true) L)) (surN_rg (L := (rowsL n N true))) i
      refine rz_to (ls' := [some (.ref 32), some (zi (N : Int)), some (zi mo), some (zi (i : Int)), none]) (I' := (wkM (upA I 32 G) n w)) (J' := J) ⟨Or.inr rfl, Or.inr rfl, Or.inr rfl, Or.inr rfl, Or.inl rfl, trivial⟩ rfl rfl ?_
      refine rz_iload_n dX3_findMost_29 rfl ?_
      refine rz_sipush dX3_findMost_30 (by decide) ?_
      refine rz_icmp_ge (t := 101) dX3_findMost_33 rfl (by omega) (by omega) (fun c33 => ?_) (fun c33 => ?_)
      · exfalso; omega
      · refine rz_iload_n dX3_findMost_36 rfl ?_
        refine rz_if_eq (t := 101) dX3_findMost_37 rfl (by omega) (fun c37 => ?_) (fun c37 => ?_)
        · refine rz_iconst dX3_findMost_101 ?_
          refine rz_zret dX3_findMost_102 rfl (by decide) ?_
          obtain rfl : i = (rowsL n N true).length := by rcases i2 with e | e; (have := (List.getElem?_eq_some_iff.mp e.2).1; omega); exact e.2
          exact ⟨_, rfl, ⟨w, G, rfl, Or.inl ⟨rfl, hge, i3, i4 hge⟩⟩, rfl⟩
        · have hw : (rowsL n N true)[i]? = some w := (i2.resolve_right (fun e => by omega)).2
          have hil : i < (rowsL n N true).length := (List.getElem?_eq_some_iff.mp hw).1
          obtain ⟨hwl, hwd⟩ := rowsL_ok (n := n) (all := true) hN w (List.mem_of_getElem? hw)
          refine rz_aload_n dX3_findMost_40 rfl ?_
          refine rz_aload_n dX3_findMost_41 rfl ?_
          refine rz_getR dX3_findMost_42 kf_RX3_16 hd_32 rfl rr_32_5 ?_
          refine rz_getR dX3_findMost_45 kf_RX3_80 hd_33 rfl rr_33_0 ?_
          refine rz_cVI dX3_findMost_48 kl_RX3_153 hd_32 ⟨_, _, rfl⟩ (c_X3_surely (I := (wkM (upA I 32 G) n w)) lw n hn 34 5 L (fun v => w.getD v 0) hd_34 ⟨by omega, by omega⟩ (fun v hv => ⟨wk_at (by omega), getD_le hwd v⟩) hL hC) rfl rfl (Nat.le_of_ble_eq_true rfl) (Nat.le_of_ble_eq_true rfl) ?_
          refine rz_ieq (y := (dpS (posV lw (I 7) (I 8) (I 9)) (fun v => w.getD v 0) n 0 L)) rfl ?_
          have hsr := dpS_rg (pos := posV lw (I 7) (I 8) (I 9)) (r := fun v => w.getD v 0) n 0 L
          have htj : (surN lw (I 7) (I 8) (I 9) n (rowsL n N true) L) i = (dpS (posV lw (I 7) (I 8) (I 9)) (fun v => w.getD v 0) n 0 L) := by unfold surN; rw [getD_some hw]
          refine rz_istore dX3_findMost_51 (by decide) rfl ?_
          refine rz_iload dX3_findMost_53 rfl ?_
          refine rz_aload_n dX3_findMost_55 rfl ?_
          refine rz_getI (z := ((frM (surN lw (I 7) (I 8) (I 9) n (rowsL n N true) L) i).1)) dX3_findMost_56 kf_RX3_150 hd_32 rfl (i3) ?_
          refine rz_icmp_le (t := 87) dX3_findMost_59 rfl (by omega) (by omega) (fun c59 => ?_) (fun c59 => ?_)
          · refine rz_aload_n dX3_findMost_87 rfl ?_
            refine rz_getR dX3_findMost_88 kf_RX3_16 hd_32 rfl rr_32_5 ?_
            refine rz_cVIq dX3_findMost_91 kl_RX3_87 hd_33 ⟨_, _, rfl⟩ (c_X10_step (I := upA I 32 G) n w hn.2 hwl (fun v => getD_le hwd v)) rfl rfl (Nat.le_of_ble_eq_true rfl) (Nat.le_of_ble_eq_true rfl) ?_
            rintro z91 A91 _ ⟨⟨rfl, w2, hw2, rfl⟩ | ⟨rfl, hw2, rfl⟩, rfl⟩
            · refine rz_istore_n dX3_findMost_94 (by decide) rfl ?_
              refine rz_iinc (ls' := [some (.ref 32), some (zi (N : Int)), some (zi 1), some (zi ((i : Int) + 1)), some (zi (dpS (posV lw (I 7) (I 8) (I 9)) (fun v => w.getD v 0) n 0 L))]) dX3_findMost_95 (by decide) rfl rfl rfl ?_
              refine rz_goto (t := 29) dX3_findMost_98 rfl ?_
              exact rz_bk (ihq ((i + 1, G, w2, 1)) (⟨by omega, Or.inl ⟨rfl, by rw [← rows_next hn.2 hN h0 hw]; exact hw2⟩, (by rw [frM_n (by omega)]; exact i3), (fun _ => by rw [frM_n (by omega)]; exact i4 (by by_cases q : i = 0; (have := hf0 q; omega); omega))⟩) (show (rowsL n N true).length - (i + 1) < (rowsL n N true).length - i by omega)) ⟨Or.inr rfl, Or.inr rfl, Or.inr rfl, Or.inr (congrArg (fun z => some (zi z)) (by omega)), Or.inl rfl, trivial⟩ (rfl) (rfl)
            · refine rz_istore_n dX3_findMost_94 (by decide) rfl ?_
              refine rz_iinc (ls' := [some (.ref 32), some (zi (N : Int)), some (zi 0), some (zi ((i : Int) + 1)), some (zi (dpS (posV lw (I 7) (I 8) (I 9)) (fun v => w.getD v 0) n 0 L))]) dX3_findMost_95 (by decide) rfl rfl rfl ?_
              refine rz_goto (t := 29) dX3_findMost_98 rfl ?_
              exact rz_bk (ihq ((i + 1, G, w, 0)) (⟨by omega, Or.inr ⟨rfl, by have e := rows_next hn.2 hN h0 hw; rw [hw2] at e; have := List.getElem?_eq_none_iff.mp e.symm; omega⟩, (by rw [frM_n (by omega)]; exact i3), (fun _ => by rw [frM_n (by omega)]; exact i4 (by by_cases q : i = 0; (have := hf0 q; omega); omega))⟩) (show (rowsL n N true).length - (i + 1) < (rowsL n N true).length - i by omega)) ⟨Or.inr rfl, Or.inr rfl, Or.inr rfl, Or.inr (congrArg (fun z => some (zi z)) (by omega)), Or.inl rfl, trivial⟩ (rfl) (rfl)
          · refine rz_aload_n dX3_findMost_62 rfl ?_
            refine rz_iload dX3_findMost_63 rfl ?_
            refine rz_putI dX3_findMost_65 kp_RX3_150 hd_32 rfl ?_
            refine rz_mem (I' := (wkM (upA I 32 (up1 G 1 (dpS (posV lw (I 7) (I 8) (I 9)) (fun v => w.getD v 0) n 0 L))) n w)) (J' := J) (wk_32) (rfl) ?_
            refine rz_aload_n dX3_findMost_68 rfl ?_
            refine rz_aload_n dX3_findMost_69 rfl ?_
            refine rz_getR dX3_findMost_70 kf_RX3_7 hd_32 rfl rr_32_4 ?_
            refine rz_aload_n dX3_findMost_73 rfl ?_
            refine rz_getR dX3_findMost_74 kf_RX3_16 hd_32 rfl rr_32_5 ?_
            refine rz_getR dX3_findMost_77 kf_RX3_80 hd_33 rfl rr_33_0 ?_
            refine rz_iconst dX3_findMost_80 ?_
            refine rz_cVI dX3_findMost_81 kl_RX3_90 hd_6 ⟨_, _, rfl⟩ ((show KI X _ mX8_numberOf [.ref 6, .ref 34, zi 0] (wkM (upA I 32 (up1 G 1 (dpS (posV lw (I 7) (I 8) (I 9)) (fun v => w.getD v 0) n 0 L))) n w) J _ (wkM (upA I 32 (up1 G 1 (dpS (posV lw (I 7) (I 8) (I 9)) (fun v => w.getD v 0) n 0 L))) n w) J from c_numberOf X _ (wkM (upA I 32 (up1 G 1 (dpS (posV lw (I 7) (I 8) (I 9)) (fun v => w.getD v 0) n 0 L))) n w) J n 34 5 0 hn hd_34 (by decide) (by omega))) rfl rfl (Nat.le_of_ble_eq_true rfl) (Nat.le_of_ble_eq_true rfl) ?_
            refine rz_ieq (y := (numP (fun v => ((w.getD v 0 : Nat) : Int)) n)) (numP_congr (fun v hv => by rw [Nat.zero_add]; exact (wk_at (by omega)).symm)) ?_
            refine rz_putI dX3_findMost_84 kp_RX3_157 hd_32 rfl ?_
            refine rz_mem (I' := (wkM (upA I 32 (up1 (up1 G 1 (dpS (posV lw (I 7) (I 8) (I 9)) (fun v => w.getD v 0) n 0 L)) 0 (numP (fun v => ((w.getD v 0 : Nat) : Int)) n))) n w)) (J' := J) (wk_32) (rfl) ?_
            refine rz_aload_n dX3_findMost_87 rfl ?_
            refine rz_getR dX3_findMost_88 kf_RX3_16 hd_32 rfl rr_32_5 ?_
            refine rz_cVIq dX3_findMost_91 kl_RX3_87 hd_33 ⟨_, _, rfl⟩ (c_X10_step (I := upA I 32 (up1 (up1 G 1 (dpS (posV lw (I 7) (I 8) (I 9)) (fun v => w.getD v 0) n 0 L)) 0 (numP (fun v => ((w.getD v 0 : Nat) : Int)) n))) n w hn.2 hwl (fun v => getD_le hwd v)) rfl rfl (Nat.le_of_ble_eq_true rfl) (Nat.le_of_ble_eq_true rfl) ?_
            rintro z91 A91 _ ⟨⟨rfl, w2, hw2, rfl⟩ | ⟨rfl, hw2, rfl⟩, rfl⟩
            · refine rz_istore_n dX3_findMost_94 (by decide) rfl ?_
              refine rz_iinc (ls' := [some (.ref 32), some (zi (N : Int)), some (zi 1), some (zi ((i : Int) + 1)), some (zi (dpS (posV lw (I 7) (I 8) (I 9)) (fun v => w.getD v 0) n 0 L))]) dX3_findMost_95 (by decide) rfl rfl rfl ?_
              refine rz_goto (t := 29) dX3_findMost_98 rfl ?_
              exact rz_bk (ihq ((i + 1, (up1 (up1 G 1 (dpS (posV lw (I 7) (I 8) (I 9)) (fun v => w.getD v 0) n 0 L)) 0 (numP (fun v => ((w.getD v 0 : Nat) : Int)) n)), w2, 1)) (⟨by omega, Or.inl ⟨rfl, by rw [← rows_next hn.2 hN h0 hw]; exact hw2⟩, (by have e := frM_y (t := (surN lw (I 7) (I 8) (I 9) n (rowsL n N true) L)) (k := i) (by omega); exact htj.symm.trans (congrArg Prod.fst e).symm), (fun _ => by have e := frM_y (t := (surN lw (I 7) (I 8) (I 9) n (rowsL n N true) L)) (k := i) (by omega); rw [e, getD_some hw]; rfl)⟩) (show (rowsL n N true).length - (i + 1) < (rowsL n N true).length - i by omega)) ⟨Or.inr rfl, Or.inr rfl, Or.inr rfl, Or.inr (congrArg (fun z => some (zi z)) (by omega)), Or.inl rfl, trivial⟩ (rfl) (rfl)
            · refine rz_istore_n dX3_findMost_94 (by decide) rfl ?_
              refine rz_iinc (ls' := [some (.ref 32), some (zi (N : Int)), some (zi 0), some (zi ((i : Int) + 1)), some (zi (dpS (posV lw (I 7) (I 8) (I 9)) (fun v => w.getD v 0) n 0 L))]) dX3_findMost_95 (by decide) rfl rfl rfl ?_
              refine rz_goto (t := 29) dX3_findMost_98 rfl ?_
              exact rz_bk (ihq ((i + 1, (up1 (up1 G 1 (dpS (posV lw (I 7) (I 8) (I 9)) (fun v => w.getD v 0) n 0 L)) 0 (numP (fun v => ((w.getD v 0 : Nat) : Int)) n)), w, 0)) (⟨by omega, Or.inr ⟨rfl, by have e := rows_next hn.2 hN h0 hw; rw [hw2] at e; have := List.getElem?_eq_none_iff.mp e.symm; omega⟩, (by have e := frM_y (t := (surN lw (I 7) (I 8) (I 9) n (rowsL n N true) L)) (k := i) (by omega); exact htj.symm.trans (congrArg Prod.fst e).symm), (fun _ => by have e := frM_y (t := (surN lw (I 7) (I 8) (I 9) n (rowsL n N true) L)) (k := i) (by omega); rw [e, getD_some hw]; rfl)⟩) (show (rowsL n N true).length - (i + 1) < (rowsL n N true).length - i by omega)) ⟨Or.inr rfl, Or.inr rfl, Or.inr rfl, Or.inr (congrArg (fun z => some (zi z)) (by omega)), Or.inl rfl, trivial⟩ (rfl) (rfl)
  · refine rz_istore_n dX3_findMost_15 (by decide) rfl ?_
    refine rz_iload_n dX3_findMost_16 rfl ?_
    refine rz_if_ne (t := 22) dX3_findMost_17 rfl (by omega) (fun q => absurd q (by decide)) (fun _ => ?_)
    refine rz_iconst dX3_findMost_20 ?_
    refine rz_zret dX3_findMost_21 rfl (by decide) ?_
    exact ⟨_, rfl, ⟨w0L n N, I 32, by rw [upA_id], Or.inr ⟨rfl, by subst h00; rw [show rowsL 0 N true = [] from if_pos ⟨rfl, by omega⟩]; rfl⟩⟩, rfl⟩
