/-! all partings listed: the class -/
def ListAt (G : Nat → Int) (L : List (List Nat)) : Prop := ∀ j r, L[j]? = some r → ∀ v, v < 5 → G (5 * j + v) = ((r.getD v 0 : Nat) : Int)
theorem wk_ne {I : IM} {n a : Nat} {w : List Nat} (h : a ≠ 33 ∧ a ≠ 34) : wkM I n w a = I a := by
  unfold wkM upA
  rw [if_neg h.2, if_neg h.1]
theorem wl_0 {I : IM} {n lc b : Nat} {w : List Nat} (h : lc ≠ 33 ∧ lc ≠ 34 ∧ lc ≠ 38) : wkM (upA (upA I 38 (up1 (I 38) b (((0 : Nat) : Int)))) lc (I lc)) n w = wkM (upA I 38 (up1 (I 38) b 0)) n w := by
  have e : upA (upA I 38 (up1 (I 38) b (((0 : Nat) : Int)))) lc (I lc) = upA I 38 (up1 (I 38) b 0) := by
    funext d
    by_cases h1 : d = lc
    · subst h1; simp [upA, h.2.2]
    · simp [upA, h1]
  rw [e]
theorem wl_s {I : IM} {n lc b i : Nat} {G : Nat → Int} {w : List Nat} (h : lc ≠ 33 ∧ lc ≠ 34 ∧ lc ≠ 38) {G2 : Nat → Int} {z : Int} (hz : z = ((i + 1 : Nat) : Int)) : wkM (upA (upA I 38 (up1 (I 38) b ((i + 1 : Nat) : Int))) lc G2) n w = upA (upA (wkM (upA (upA I 38 (up1 (I 38) b (i : Int))) lc G) n w) lc G2) 38 (up1 (wkM (upA (upA I 38 (up1 (I 38) b (i : Int))) lc G) n w 38) b z) := by
  subst hz
  obtain ⟨h1, h2, h3⟩ := h
  funext d
  by_cases e1 : d = 38
  · subst e1
    have e2 : wkM (upA (upA I 38 (up1 (I 38) b (i : Int))) lc G) n w 38 = up1 (I 38) b (i : Int) := by
      rw [wk_ne (by decide)]; simp [upA, Ne.symm h3]
    have e3 : wkM (upA (upA I 38 (up1 (I 38) b ((i + 1 : Nat) : Int))) lc G2) n w 38 = up1 (I 38) b ((i + 1 : Nat) : Int) := by
      rw [wk_ne (by decide)]; simp [upA, Ne.symm h3]
    rw [e3, e2, upA_self]
    funext j
    unfold up1
    split <;> rfl
  · by_cases e2 : d = lc
    · subst e2
      rw [wk_ne ⟨h1, h2⟩]
      simp [upA, h3]
    · by_cases e3 : d = 34
      · subst e3
        simp [wkM, upA, Ne.symm h2]
        funext j
        simp [wkF, upA, Ne.symm h2]
      · by_cases e4 : d = 33
        · subst e4; simp [wkM, upA, Ne.symm h1]
        · simp [wkM, upA, e1, e2, e3, e4]
theorem ListAt_s {i : Nat} {L : List (List Nat)} {G : Nat → Int} {w : List Nat} {I2 : IM} (hw : L[i]? = some w) (h : ∀ j r, j < i → L[j]? = some r → ∀ v, v < 5 → G (5 * j + v) = ((r.getD v 0 : Nat) : Int)) (h34 : ∀ v, v < 5 → I2 34 v = ((w.getD v 0 : Nat) : Int)) : ∀ j r, j < i + 1 → L[j]? = some r → ∀ v, v < 5 → va_cpy (I2 34) G 0 (i * 5) 5 (5 * j + v) = ((r.getD v 0 : Nat) : Int) := by
  intro j r hj hr v hv
  unfold va_cpy
  by_cases e : j = i
  · subst e
    rw [hw] at hr
    injection hr with hr
    subst hr
    rw [if_pos (by omega), show 0 + (5 * j + v - j * 5) = v by omega]
    exact h34 v hv
  · rw [if_neg (by omega)]
    exact h j r (by omega) hr v hv
set_option maxRecDepth 20000 in
set_option maxHeartbeats 400000 in
theorem c_X3_writeList0 {X : pX} {I J : IM} {h : Nat} (n : Nat) (hn : I 6 0 = n ∧ n ≤ 5) (N : Nat) (hN : I 10 0 = N ∧ N ≤ 9) (hl1 : 1 ≤ (rowsL n N true).length) (hl3 : (rowsL n N true).length ≤ 300) : KVq X (h + 2) mX3_writeList [.ref 32, zi 0] I J (fun A B => (∃ w G, A = wkM (upA (upA I 38 (up1 (I 38) 0 ((rowsL n N true).length : Int))) 40 G) n w ∧ ListAt G (rowsL n N true)) ∧ J = B) := by
  show Rz X (h + 2) mX3_writeList 0 [some (.ref 32), some (zi 0), none, none] [] I J _
  refine rz_aload_n dX3_writeList_0 rfl ?_
  refine rz_getR dX3_writeList_1 kf_RX3_27 hd_32 rfl rr_32_7 ?_
  refine rz_iload_n dX3_writeList_4 rfl ?_
  refine rz_iconst dX3_writeList_5 ?_
  refine rz_iast dX3_writeList_6 hd_38 (by decide) (by omega) ?_
  refine rz_aload_n dX3_writeList_7 rfl ?_
  refine rz_getR dX3_writeList_8 kf_RX3_16 hd_32 rfl rr_32_5 ?_
  refine rz_aload_n dX3_writeList_11 rfl ?_
  refine rz_getR dX3_writeList_12 kf_RX3_7 hd_32 rfl rr_32_4 ?_
  refine rz_getI (z := (n : Int)) dX3_writeList_15 kf_RX3_69 hd_6 rfl (hn.1) ?_
  refine rz_aload_n dX3_writeList_18 rfl ?_
  refine rz_getR dX3_writeList_19 kf_RX3_7 hd_32 rfl rr_32_4 ?_
  refine rz_getR dX3_writeList_22 kf_RX3_73 hd_6 rfl rr_6_4 ?_
  refine rz_iload_n dX3_writeList_25 rfl ?_
  refine rz_iald (z := (N : Int)) dX3_writeList_26 hd_10 (by decide) (by omega) hN.1 ?_
  refine rz_cVIq dX3_writeList_27 kl_RX3_76 hd_33 ⟨_, _, rfl⟩ (c_X10_start (I := (upA I 38 (up1 (I 38) 0 0))) n N hn.2 hN.2) rfl rfl (Nat.le_of_ble_eq_true rfl) (Nat.le_of_ble_eq_true rfl) ?_
  rintro z27 _ _ ⟨hz27, rfl, rfl⟩
  obtain rfl : z27 = 1 := by
    rcases hz27 with e | ⟨-, e1, e2⟩
    · exact e.1
    · subst e1
      have e3 : rowsL 0 N true = [] := if_pos ⟨rfl, by omega⟩
      rw [e3] at hl1
      exact absurd hl1 (by decide)
  have h0 : n = 0 → N = 0 := by
    rcases hz27 with e | ⟨e, -, -⟩
    · exact e.2
    · exact absurd e (by decide)
  refine rz_istore_n dX3_writeList_30 (by decide) rfl ?_
  refine rz_iconst dX3_writeList_31 ?_
  refine rz_istore_n dX3_writeList_32 (by decide) rfl ?_
  refine rz_wh (σ := Nat × (Nat → Int) × List Nat × Int) (Inv := fun sq => sq.1 ≤ (rowsL n N true).length ∧ ((sq.2.2.2 = 1 ∧ (rowsL n N true)[sq.1]? = some sq.2.2.1) ∨ (sq.2.2.2 = 0 ∧ sq.1 = (rowsL n N true).length)) ∧ ∀ j r, j < sq.1 → (rowsL n N true)[j]? = some r → ∀ v, v < 5 → sq.2.1 (5 * j + v) = ((r.getD v 0 : Nat) : Int)) (ls := fun sq => [some (.ref 32), some (zi 0), some (zi sq.2.2.2), some (zi (sq.1 : Int))]) (IV := fun sq => (wkM (upA (upA I 38 (up1 (I 38) 0 (sq.1 : Int))) 40 sq.2.1) n sq.2.2.1)) (JV := fun sq => J) (fun sq => (rowsL n N true).length - sq.1) ((0, I 40, w0L n N, 1)) ⟨Nat.zero_le _, Or.inl ⟨rfl, rows_first hn.2 hN.2 h0⟩, fun j r hj => absurd hj (by omega)⟩ ⟨Or.inr rfl, Or.inr rfl, Or.inr rfl, Or.inr rfl, trivial⟩ (wl_0 (by decide)) (rfl) ?_
  · intro sq qq ihq
    obtain ⟨i, G, w, mo⟩ := sq
    obtain ⟨i1, i2, i3⟩ : i ≤ (rowsL n N true).length ∧ ((mo = 1 ∧ (rowsL n N true)[i]? = some w) ∨ (mo = 0 ∧ i = (rowsL n N true).length)) ∧ ∀ j r, j < i → (rowsL n N true)[j]? = some r → ∀ v, v < 5 → G (5 * j + v) = ((r.getD v 0 : Nat) : Int) := qq
    have hmo : mo = 0 ∨ mo = 1 := by rcases i2 with e | e <;> omega
    refine rz_to (ls' := [some (.ref 32), some (zi 0), some (zi mo), some (zi (i : Int))]) (I' := (wkM (upA (upA I 38 (up1 (I 38) 0 (i : Int))) 40 G) n w)) (J' := J) ⟨Or.inr rfl, Or.inr rfl, Or.inr rfl, Or.inr rfl, trivial⟩ rfl rfl ?_
    refine rz_iload_n dX3_writeList_33 rfl ?_
    refine rz_sipush dX3_writeList_34 (by decide) ?_
    refine rz_icmp_ge (t := 89) dX3_writeList_37 rfl (by omega) (by omega) (fun c37 => ?_) (fun c37 => ?_)
    · refine rz_vret dX3_writeList_89 rfl ?_
      obtain rfl : i = (rowsL n N true).length := by rcases i2 with e | e; (have := (List.getElem?_eq_some_iff.mp e.2).1; omega); exact e.2
      exact ⟨rfl, ⟨w, G, rfl, fun j r hr => i3 j r (List.getElem?_eq_some_iff.mp hr).1 hr⟩, rfl⟩
    · refine rz_iload_n dX3_writeList_40 rfl ?_
      refine rz_if_eq (t := 89) dX3_writeList_41 rfl (by omega) (fun c41 => ?_) (fun c41 => ?_)
      · refine rz_vret dX3_writeList_89 rfl ?_
        obtain rfl : i = (rowsL n N true).length := by rcases i2 with e | e; (have := (List.getElem?_eq_some_iff.mp e.2).1; omega); exact e.2
        exact ⟨rfl, ⟨w, G, rfl, fun j r hr => i3 j r (List.getElem?_eq_some_iff.mp hr).1 hr⟩, rfl⟩
      · have hw : (rowsL n N true)[i]? = some w := (i2.resolve_right (fun e => by omega)).2
        have hil : i < (rowsL n N true).length := (List.getElem?_eq_some_iff.mp hw).1
        obtain ⟨hwl, hwd⟩ := rowsL_ok (n := n) (all := true) hN.2 w (List.mem_of_getElem? hw)
        refine rz_aload_n dX3_writeList_44 rfl ?_
        refine rz_getR dX3_writeList_45 kf_RX3_16 hd_32 rfl rr_32_5 ?_
        refine rz_getR dX3_writeList_48 kf_RX3_80 hd_33 rfl rr_33_0 ?_
        refine rz_iconst dX3_writeList_51 ?_
        refine rz_aload_n dX3_writeList_52 rfl ?_
        refine rz_getR dX3_writeList_53 kf_RX3_35 hd_32 rfl rr_32_8 ?_
        refine rz_iload_n dX3_writeList_56 rfl ?_
        refine rz_aald (by decide) dX3_writeList_57 hd_39 (by decide) (by decide) rr_39_0 ?_
        refine rz_iload_n dX3_writeList_58 rfl ?_
        refine rz_iconst dX3_writeList_59 ?_
        refine rz_imul dX3_writeList_60 ?_
        refine rz_iconst dX3_writeList_61 ?_
        refine rz_copyi dX3_writeList_62 kl_RX3_81 hd_34 hd_40 (by decide) (Nat.le_of_ble_eq_true rfl) (by omega) ?_
        refine rz_aload_n dX3_writeList_65 rfl ?_
        refine rz_getR dX3_writeList_66 kf_RX3_27 hd_32 rfl rr_32_7 ?_
        refine rz_iload_n dX3_writeList_69 rfl ?_
        refine rz_dup2 dX3_writeList_70 rfl rfl ?_
        refine rz_iald (z := (i : Int)) dX3_writeList_71 hd_38 (by decide) (by omega) rfl ?_
        refine rz_iconst dX3_writeList_72 ?_
        refine rz_iadd dX3_writeList_73 ?_
        refine rz_iast dX3_writeList_74 hd_38 (by decide) (by omega) ?_
        refine rz_mem (I' := (wkM (upA (upA I 38 (up1 (I 38) 0 ((i + 1 : Nat) : Int))) 40 (va_cpy ((wkM (upA (upA I 38 (up1 (I 38) 0 (i : Int))) 40 G) n w) 34) G 0 (i * 5) 5)) n w)) (J' := J) (wl_s (by decide) rfl) (rfl) ?_
        have hG2 := ListAt_s (I2 := (wkM (upA (upA I 38 (up1 (I 38) 0 (i : Int))) 40 G) n w)) hw i3 (fun v hv => wk_at hv)
        refine rz_aload_n dX3_writeList_75 rfl ?_
        refine rz_getR dX3_writeList_76 kf_RX3_16 hd_32 rfl rr_32_5 ?_
        refine rz_cVIq dX3_writeList_79 kl_RX3_87 hd_33 ⟨_, _, rfl⟩ (c_X10_step (I := upA (upA I 38 (up1 (I 38) 0 ((i + 1 : Nat) : Int))) 40 (va_cpy ((wkM (upA (upA I 38 (up1 (I 38) 0 (i : Int))) 40 G) n w) 34) G 0 (i * 5) 5)) n w hn.2 hwl (fun v => getD_le hwd v)) rfl rfl (Nat.le_of_ble_eq_true rfl) (Nat.le_of_ble_eq_true rfl) ?_
        rintro z79 A79 _ ⟨⟨rfl, w2, hw2, rfl⟩ | ⟨rfl, hw2, rfl⟩, rfl⟩
        · refine rz_istore_n dX3_writeList_82 (by decide) rfl ?_
          refine rz_iinc dX3_writeList_83 (by decide) rfl rfl rfl ?_
          refine rz_goto (t := 33) dX3_writeList_86 rfl ?_
          exact rz_bk (ihq ((i + 1, (va_cpy ((wkM (upA (upA I 38 (up1 (I 38) 0 (i : Int))) 40 G) n w) 34) G 0 (i * 5) 5), w2, 1)) (⟨by omega, Or.inl ⟨rfl, by rw [← rows_next hn.2 hN.2 h0 hw]; exact hw2⟩, hG2⟩) (show (rowsL n N true).length - (i + 1) < (rowsL n N true).length - i by omega)) ⟨Or.inr rfl, Or.inr rfl, Or.inr rfl, Or.inr (congrArg (fun z => some (zi z)) (by omega)), trivial⟩ (rfl) (rfl)
        · refine rz_istore_n dX3_writeList_82 (by decide) rfl ?_
          refine rz_iinc dX3_writeList_83 (by decide) rfl rfl rfl ?_
          refine rz_goto (t := 33) dX3_writeList_86 rfl ?_
          exact rz_bk (ihq ((i + 1, (va_cpy ((wkM (upA (upA I 38 (up1 (I 38) 0 (i : Int))) 40 G) n w) 34) G 0 (i * 5) 5), w, 0)) (⟨by omega, Or.inr ⟨rfl, by have e := rows_next hn.2 hN.2 h0 hw; rw [hw2] at e; have := List.getElem?_eq_none_iff.mp e.symm; omega⟩, hG2⟩) (show (rowsL n N true).length - (i + 1) < (rowsL n N true).length - i by omega)) ⟨Or.inr rfl, Or.inr rfl, Or.inr rfl, Or.inr (congrArg (fun z => some (zi z)) (by omega)), trivial⟩ (rfl) (rfl)
set_option maxRecDepth 20000 in
set_option maxHeartbeats 400000 in
theorem c_X3_writeList1 {X : pX} {I J : IM} {h : Nat} (n : Nat) (hn : I 6 0 = n ∧ n ≤ 5) (N : Nat) (hN : I 10 1 = N ∧ N ≤ 9) (hl1 : 1 ≤ (rowsL n N true).length) (hl3 : (rowsL n N true).length ≤ 300) : KVq X (h + 2) mX3_writeList [.ref 32, zi 1] I J (fun A B => (∃ w G, A = wkM (upA (upA I 38 (up1 (I 38) 1 ((rowsL n N true).length : Int))) 41 G) n w ∧ ListAt G (rowsL n N true)) ∧ J = B) := by
  show Rz X (h + 2) mX3_writeList 0 [some (.ref 32), some (zi 1), none, none] [] I J _
  refine rz_aload_n dX3_writeList_0 rfl ?_
  refine rz_getR dX3_writeList_1 kf_RX3_27 hd_32 rfl rr_32_7 ?_
  refine rz_iload_n dX3_writeList_4 rfl ?_
  refine rz_iconst dX3_writeList_5 ?_
  refine rz_iast dX3_writeList_6 hd_38 (by decide) (by omega) ?_
  refine rz_aload_n dX3_writeList_7 rfl ?_
  refine rz_getR dX3_writeList_8 kf_RX3_16 hd_32 rfl rr_32_5 ?_
  refine rz_aload_n dX3_writeList_11 rfl ?_
  refine rz_getR dX3_writeList_12 kf_RX3_7 hd_32 rfl rr_32_4 ?_
  refine rz_getI (z := (n : Int)) dX3_writeList_15 kf_RX3_69 hd_6 rfl (hn.1) ?_
  refine rz_aload_n dX3_writeList_18 rfl ?_
  refine rz_getR dX3_writeList_19 kf_RX3_7 hd_32 rfl rr_32_4 ?_
  refine rz_getR dX3_writeList_22 kf_RX3_73 hd_6 rfl rr_6_4 ?_
  refine rz_iload_n dX3_writeList_25 rfl ?_
  refine rz_iald (z := (N : Int)) dX3_writeList_26 hd_10 (by decide) (by omega) hN.1 ?_
  refine rz_cVIq dX3_writeList_27 kl_RX3_76 hd_33 ⟨_, _, rfl⟩ (c_X10_start (I := (upA I 38 (up1 (I 38) 1 0))) n N hn.2 hN.2) rfl rfl (Nat.le_of_ble_eq_true rfl) (Nat.le_of_ble_eq_true rfl) ?_
  rintro z27 _ _ ⟨hz27, rfl, rfl⟩
  obtain rfl : z27 = 1 := by
    rcases hz27 with e | ⟨-, e1, e2⟩
    · exact e.1
    · subst e1
      have e3 : rowsL 0 N true = [] := if_pos ⟨rfl, by omega⟩
      rw [e3] at hl1
      exact absurd hl1 (by decide)
  have h0 : n = 0 → N = 0 := by
    rcases hz27 with e | ⟨e, -, -⟩
    · exact e.2
    · exact absurd e (by decide)
  refine rz_istore_n dX3_writeList_30 (by decide) rfl ?_
  refine rz_iconst dX3_writeList_31 ?_
  refine rz_istore_n dX3_writeList_32 (by decide) rfl ?_
  refine rz_wh (σ := Nat × (Nat → Int) × List Nat × Int) (Inv := fun sq => sq.1 ≤ (rowsL n N true).length ∧ ((sq.2.2.2 = 1 ∧ (rowsL n N true)[sq.1]? = some sq.2.2.1) ∨ (sq.2.2.2 = 0 ∧ sq.1 = (rowsL n N true).length)) ∧ ∀ j r, j < sq.1 → (rowsL n N true)[j]? = some r → ∀ v, v < 5 → sq.2.1 (5 * j + v) = ((r.getD v 0 : Nat) : Int)) (ls := fun sq => [some (.ref 32), some (zi 1), some (zi sq.2.2.2), some (zi (sq.1 : Int))]) (IV := fun sq => (wkM (upA (upA I 38 (up1 (I 38) 1 (sq.1 : Int))) 41 sq.2.1) n sq.2.2.1)) (JV := fun sq => J) (fun sq => (rowsL n N true).length - sq.1) ((0, I 41, w0L n N, 1)) ⟨Nat.zero_le _, Or.inl ⟨rfl, rows_first hn.2 hN.2 h0⟩, fun j r hj => absurd hj (by omega)⟩ ⟨Or.inr rfl, Or.inr rfl, Or.inr rfl, Or.inr rfl, trivial⟩ (wl_0 (by decide)) (rfl) ?_
  · intro sq qq ihq
    obtain ⟨i, G, w, mo⟩ := sq
    obtain ⟨i1, i2, i3⟩ : i ≤ (rowsL n N true).length ∧ ((mo = 1 ∧ (rowsL n N true)[i]? = some w) ∨ (mo = 0 ∧ i = (rowsL n N true).length)) ∧ ∀ j r, j < i → (rowsL n N true)[j]? = some r → ∀ v, v < 5 → G (5 * j + v) = ((r.getD v 0 : Nat) : Int) := qq
    have hmo : mo = 0 ∨ mo = 1 := by rcases i2 with e | e <;> omega
    refine rz_to (ls' := [some (.ref 32), some (zi 1), some (zi mo), some (zi (i : Int))]) (I' := (wkM (upA (upA I 38 (up1 (I 38) 1 (i : Int))) 41 G) n w)) (J' := J) ⟨Or.inr rfl, Or.inr rfl, Or.inr rfl, Or.inr rfl, trivial⟩ rfl rfl ?_
    refine rz_iload_n dX3_writeList_33 rfl ?_
    refine rz_sipush dX3_writeList_34 (by decide) ?_
    refine rz_icmp_ge (t := 89) dX3_writeList_37 rfl (by omega) (by omega) (fun c37 => ?_) (fun c37 => ?_)
    · refine rz_vret dX3_writeList_89 rfl ?_
      obtain rfl : i = (rowsL n N true).length := by rcases i2 with e | e; (have := (List.getElem?_eq_some_iff.mp e.2).1; omega); exact e.2
      exact ⟨rfl, ⟨w, G, rfl, fun j r hr => i3 j r (List.getElem?_eq_some_iff.mp hr).1 hr⟩, rfl⟩
    · refine rz_iload_n dX3_writeList_40 rfl ?_
      refine rz_if_eq (t := 89) dX3_writeList_41 rfl (by omega) (fun c41 => ?_) (fun c41 => ?_)
      · refine rz_vret dX3_writeList_89 rfl ?_
        obtain rfl : i = (rowsL n N true).length := by rcases i2 with e | e; (have := (List.getElem?_eq_some_iff.mp e.2).1; omega); exact e.2
        exact ⟨rfl, ⟨w, G, rfl, fun j r hr => i3 j r (List.getElem?_eq_some_iff.mp hr).1 hr⟩, rfl⟩
      · have hw : (rowsL n N true)[i]? = some w := (i2.resolve_right (fun e => by omega)).2
        have hil : i < (rowsL n N true).length := (List.getElem?_eq_some_iff.mp hw).1
        obtain ⟨hwl, hwd⟩ := rowsL_ok (n := n) (all := true) hN.2 w (List.mem_of_getElem? hw)
        refine rz_aload_n dX3_writeList_44 rfl ?_
        refine rz_getR dX3_writeList_45 kf_RX3_16 hd_32 rfl rr_32_5 ?_
        refine rz_getR dX3_writeList_48 kf_RX3_80 hd_33 rfl rr_33_0 ?_
        refine rz_iconst dX3_writeList_51 ?_
        refine rz_aload_n dX3_writeList_52 rfl ?_
        refine rz_getR dX3_writeList_53 kf_RX3_35 hd_32 rfl rr_32_8 ?_
        refine rz_iload_n dX3_writeList_56 rfl ?_
        refine rz_aald (by decide) dX3_writeList_57 hd_39 (by decide) (by decide) rr_39_1 ?_
        refine rz_iload_n dX3_writeList_58 rfl ?_
        refine rz_iconst dX3_writeList_59 ?_
        refine rz_imul dX3_writeList_60 ?_
        refine rz_iconst dX3_writeList_61 ?_
        refine rz_copyi dX3_writeList_62 kl_RX3_81 hd_34 hd_41 (by decide) (Nat.le_of_ble_eq_true rfl) (by omega) ?_
        refine rz_aload_n dX3_writeList_65 rfl ?_
        refine rz_getR dX3_writeList_66 kf_RX3_27 hd_32 rfl rr_32_7 ?_
        refine rz_iload_n dX3_writeList_69 rfl ?_
        refine rz_dup2 dX3_writeList_70 rfl rfl ?_
        refine rz_iald (z := (i : Int)) dX3_writeList_71 hd_38 (by decide) (by omega) rfl ?_
        refine rz_iconst dX3_writeList_72 ?_
        refine rz_iadd dX3_writeList_73 ?_
        refine rz_iast dX3_writeList_74 hd_38 (by decide) (by omega) ?_
        refine rz_mem (I' := (wkM (upA (upA I 38 (up1 (I 38) 1 ((i + 1 : Nat) : Int))) 41 (va_cpy ((wkM (upA (upA I 38 (up1 (I 38) 1 (i : Int))) 41 G) n w) 34) G 0 (i * 5) 5)) n w)) (J' := J) (wl_s (by decide) rfl) (rfl) ?_
        have hG2 := ListAt_s (I2 := (wkM (upA (upA I 38 (up1 (I 38) 1 (i : Int))) 41 G) n w)) hw i3 (fun v hv => wk_at hv)
        refine rz_aload_n dX3_writeList_75 rfl ?_
        refine rz_getR dX3_writeList_76 kf_RX3_16 hd_32 rfl rr_32_5 ?_
        refine rz_cVIq dX3_writeList_79 kl_RX3_87 hd_33 ⟨_, _, rfl⟩ (c_X10_step (I := upA (upA I 38 (up1 (I 38) 1 ((i + 1 : Nat) : Int))) 41 (va_cpy ((wkM (upA (upA I 38 (up1 (I 38) 1 (i : Int))) 41 G) n w) 34) G 0 (i * 5) 5)) n w hn.2 hwl (fun v => getD_le hwd v)) rfl rfl (Nat.le_of_ble_eq_true rfl) (Nat.le_of_ble_eq_true rfl) ?_
        rintro z79 A79 _ ⟨⟨rfl, w2, hw2, rfl⟩ | ⟨rfl, hw2, rfl⟩, rfl⟩
        · refine rz_istore_n dX3_writeList_82 (by decide) rfl ?_
          refine rz_iinc dX3_writeList_83 (by decide) rfl rfl rfl ?_
          refine rz_goto (t := 33) dX3_writeList_86 rfl ?_
          exact rz_bk (ihq ((i + 1, (va_cpy ((wkM (upA (upA I 38 (up1 (I 38) 1 (i : Int))) 41 G) n w) 34) G 0 (i * 5) 5), w2, 1)) (⟨by omega, Or.inl ⟨rfl, by rw [← rows_next hn.2 hN.2 h0 hw]; exact hw2⟩, hG2⟩) (show (rowsL n N true).length - (i + 1) < (rowsL n N true).length - i by omega)) ⟨Or.inr rfl, Or.inr rfl, Or.inr rfl, Or.inr (congrArg (fun z => some (zi z)) (by omega)), trivial⟩ (rfl) (rfl)
        · refine rz_istore_n dX3_writeList_82 (by decide) rfl ?_
          refine rz_iinc dX3_writeList_83 (by decide) rfl rfl rfl ?_
          refine rz_goto (t := 33) dX3_writeList_86 rfl ?_
          exact rz_bk (ihq ((i + 1, (va_cpy ((wkM (upA (upA I 38 (up1 (I 38) 1 (i : Int))) 41 G) n w) 34) G 0 (i * 5) 5), w, 0)) (⟨by omega, Or.inr ⟨rfl, by have e := rows_next hn.2 hN.2 h0 hw; rw [hw2] at e; have := List.getElem?_eq_none_iff.mp e.symm; omega⟩, hG2⟩) (show (rowsL n N true).length - (i + 1) < (rowsL n N true).length - i by omega)) ⟨Or.inr rfl, Or.inr rfl, Or.inr rfl, Or.inr (congrArg (fun z => some (zi z)) (by omega)), trivial⟩ (rfl) (rfl)
