/-! by how many a parting is beaten -/
def scP (lw : Lw) (W T U : Nat → Int) (n : Nat) (r q : List Nat) : Int := sumP (fun v => ptsV lw W T U v (r.getD v 0) (q.getD v 0)) n
theorem scP_bd {lw : Lw} {W T U : Nat → Int} {n k : Nat} {r q : List Nat} (hn : n ≤ 5) (hk : k ≤ n) (hW : ∀ v, v < n → 0 ≤ W v ∧ W v ≤ 9) : -45 ≤ sumP (fun v => ptsV lw W T U v (r.getD v 0) (q.getD v 0)) k ∧ sumP (fun v => ptsV lw W T U v (r.getD v 0) (q.getD v 0)) k ≤ 45 := by
  have := sumP_bd (f := fun v => ptsV lw W T U v (r.getD v 0) (q.getD v 0)) (n := k) (b := 9) (fun v hv => pts_rg (hW v (by omega)))
  omega
def lsB (b : Nat) (lw : Lw) (W T U : Nat → Int) (n : Nat) (r : List Nat) (L : List (List Nat)) : Nat → Bool := fun j => decide ((if b = 0 then scP lw W T U n r (L.getD j []) else -scP lw W T U n (L.getD j []) r) < 0)
theorem cntP_bd {p : Nat → Bool} : ∀ n, 0 ≤ cntP p n ∧ cntP p n ≤ n
  | 0 => by simp [cntP]
  | n + 1 => by
    have := cntP_bd (p := p) n
    unfold cntP
    split <;> omega
theorem cntP_mono {p : Nat → Bool} {m n : Nat} (h : m ≤ n) : cntP p m ≤ cntP p n := by
  induction n with
  | zero => obtain rfl : m = 0 := by omega
            exact Int.le_refl _
  | succ n ih =>
    by_cases e : m ≤ n
    · have h1 := ih e
      have h2 : cntP p (n + 1) = cntP p n + (if p n then 1 else 0) := rfl
      rw [h2]
      split <;> omega
    · obtain rfl : m = n + 1 := by omega
      exact Int.le_refl _
theorem cnt_y {p : Nat → Bool} {n : Nat} (h : p n = true) : cntP p (n + 1) = cntP p n + 1 := by
  show cntP p n + (if p n then 1 else 0) = _
  rw [if_pos h]
theorem cnt_n {p : Nat → Bool} {n : Nat} (h : p n = false) : cntP p (n + 1) = cntP p n := by
  show cntP p n + (if p n then 1 else 0) = _
  rw [if_neg (by rw [h]; decide)]; omega
theorem getD_some {L : List (List Nat)} {j : Nat} {q : List Nat} (h : L[j]? = some q) : L.getD j [] = q := by
  rw [List.getD_eq_getElem?_getD, h]; rfl
/-- a row of loaves as it lies -/
def RowA (I : IM) (a s n : Nat) (r : List Nat) : Prop := ∀ v, v < n → I a (s + v) = ((r.getD v 0 : Nat) : Int) ∧ r.getD v 0 ≤ 9
set_option maxRecDepth 20000 in
set_option maxHeartbeats 400000 in
theorem c_X3_duel {X : pX} {I J : IM} {h : Nat} (lw : Lw) (n : Nat) (hn : I 6 0 = n ∧ n ≤ 5) (a c s t Na Nc : Nat) (r q : List Nat) (ha : HD0[a]? = some (1, 0, Na)) (hcc : HD0[c]? = some (1, 0, Nc)) (hNa : s + n ≤ Na ∧ Na ≤ 2000) (hNc : t + n ≤ Nc ∧ Nc ≤ 2000) (hA : RowA I a s n r) (hC : RowA I c t n q) (hP : PtsOK I lw n) : KI X h mX3_duel [.ref 32, .ref a, zi (s : Int), .ref c, zi (t : Int)] I J (scP lw (I 7) (I 8) (I 9) n r q) I J := by
  show Rz X h mX3_duel 0 [some (.ref 32), some (.ref a), some (zi (s : Int)), some (.ref c), some (zi (t : Int)), none, none] [] I J _
  refine rz_iconst dX3_duel_0 ?_
  refine rz_istore dX3_duel_1 (by decide) rfl ?_
  refine rz_iconst dX3_duel_3 ?_
  refine rz_istore dX3_duel_4 (by decide) rfl ?_
  refine rz_up (ls := fun v : Nat => [some (.ref 32), some (.ref a), some (zi (s : Int)), some (.ref c), some (zi (t : Int)), some (zi (sumP (fun v => ptsV lw (I 7) (I 8) (I 9) v (r.getD v 0) (q.getD v 0)) v)), some (zi (v : Int))]) (IV := fun v : Nat => I) (JV := fun v : Nat => J) (n) ⟨Or.inr rfl, Or.inr rfl, Or.inr rfl, Or.inr rfl, Or.inr rfl, Or.inr rfl, Or.inr rfl, trivial⟩ (rfl) (rfl) ?_ ?_
  · intro v hv ihv
    have hr9 := (hA v hv).2
    have hq9 := (hC v hv).2
    refine rz_iload dX3_duel_6 rfl ?_
    refine rz_aload_n dX3_duel_8 rfl ?_
    refine rz_getR dX3_duel_9 kf_RX3_7 hd_32 rfl rr_32_4 ?_
    refine rz_getI (z := (n : Int)) dX3_duel_12 kf_RX3_69 hd_6 rfl (hn.1) ?_
    refine rz_icmp_ge (t := 60) dX3_duel_15 rfl (by omega) (by omega) (fun c15 => ?_) (fun c15 => ?_)
    · exfalso; omega
    · refine rz_iload dX3_duel_18 rfl ?_
      refine rz_aload_n dX3_duel_20 rfl ?_
      refine rz_getR dX3_duel_21 kf_RX3_7 hd_32 rfl rr_32_4 ?_
      refine rz_getR dX3_duel_24 kf_RX3_98 hd_6 rfl rr_6_5 ?_
      refine rz_iload dX3_duel_27 rfl ?_
      refine rz_bipush dX3_duel_29 (by decide) ?_
      refine rz_imul dX3_duel_31 ?_
      refine rz_aload_n dX3_duel_32 rfl ?_
      refine rz_iload_n dX3_duel_33 rfl ?_
      refine rz_iload dX3_duel_34 rfl ?_
      refine rz_iadd dX3_duel_36 ?_
      refine rz_ialdN (k := (s + v)) (z := ((r.getD v 0 : Nat) : Int)) dX3_duel_37 ha (by omega) (by omega) (by omega) (hA v hv).1 ?_
      refine rz_bipush dX3_duel_38 (by decide) ?_
      refine rz_imul dX3_duel_40 ?_
      refine rz_iadd dX3_duel_41 ?_
      refine rz_aload_n dX3_duel_42 rfl ?_
      refine rz_iload dX3_duel_43 rfl ?_
      refine rz_iload dX3_duel_45 rfl ?_
      refine rz_iadd dX3_duel_47 ?_
      refine rz_ialdN (k := (t + v)) (z := ((q.getD v 0 : Nat) : Int)) dX3_duel_48 hcc (by omega) (by omega) (by omega) (hC v hv).1 ?_
      refine rz_iadd dX3_duel_49 ?_
      refine rz_ialdN (k := (100 * v + 10 * r.getD v 0 + q.getD v 0)) (z := (ptsV lw (I 7) (I 8) (I 9) v (r.getD v 0) (q.getD v 0))) dX3_duel_50 hd_11 (by decide) (by omega) (by omega) (hP v hv _ _ (hA v hv).2 (hC v hv).2) ?_
      refine rz_iadd dX3_duel_51 ?_
      refine rz_istore dX3_duel_52 (by decide) rfl ?_
      refine rz_iinc dX3_duel_54 (by decide) rfl rfl rfl ?_
      refine rz_goto (t := 6) dX3_duel_57 rfl ?_
      exact rz_bk ihv ⟨Or.inr rfl, Or.inr rfl, Or.inr rfl, Or.inr rfl, Or.inr rfl, Or.inr rfl, Or.inr rfl, trivial⟩ (rfl) (rfl)
  · skip
    refine rz_iload dX3_duel_6 rfl ?_
    refine rz_aload_n dX3_duel_8 rfl ?_
    refine rz_getR dX3_duel_9 kf_RX3_7 hd_32 rfl rr_32_4 ?_
    refine rz_getI (z := (n : Int)) dX3_duel_12 kf_RX3_69 hd_6 rfl (hn.1) ?_
    refine rz_icmp_ge (t := 60) dX3_duel_15 rfl (by omega) (by omega) (fun c15 => ?_) (fun c15 => ?_)
    · refine rz_iload dX3_duel_60 rfl ?_
      refine rz_iret dX3_duel_62 rfl ?_
      exact ⟨_, rfl, rfl, rfl, rfl⟩
    · exfalso; omega
set_option maxRecDepth 20000 in
set_option maxHeartbeats 400000 in
theorem c_losses0 {X : pX} {I J : IM} {h : Nat} (lw : Lw) (n : Nat) (hn : I 6 0 = n ∧ n ≤ 5) (hW : ∀ v, v < n → 0 ≤ I 7 v ∧ I 7 v ≤ 9) (N1 : Nat) (hN9 : N1 ≤ 9) (a s Na : Nat) (r : List Nat) (ha : HD0[a]? = some (1, 0, Na)) (hNa : s + n ≤ Na ∧ Na ≤ 2000) (hA : RowA I a s n r) (hP : PtsOK I lw n) (hsz : I 38 1 = ((rowsL n N1 true).length : Int)) (hLL : (rowsL n N1 true).length ≤ 300) (hLA : ListAt (I 41) (rowsL n N1 true)) (lim : Int) (hlim : 0 ≤ lim) (hlm : lim ≤ 301) : KI X (h + 1) mX3_losses [.ref 32, zi 0, .ref a, zi (s : Int), zi lim] I J (min (cntP (lsB 0 lw (I 7) (I 8) (I 9) n r (rowsL n N1 true)) (rowsL n N1 true).length) lim) I J := by
  show Rz X (h + 1) mX3_losses 0 [some (.ref 32), some (zi 0), some (.ref a), some (zi (s : Int)), some (zi lim), none, none, none, none] [] I J _
  refine rz_aload_n dX3_losses_0 rfl ?_
  refine rz_getR dX3_losses_1 kf_RX3_35 hd_32 rfl rr_32_8 ?_
  refine rz_iconst dX3_losses_4 ?_
  refine rz_iload_n dX3_losses_5 rfl ?_
  refine rz_isub dX3_losses_6 ?_
  refine rz_aald (by decide) dX3_losses_7 hd_39 (by decide) (by decide) rr_39_1 ?_
  refine rz_astore dX3_losses_8 (by decide) rfl ?_
  refine rz_iconst dX3_losses_10 ?_
  refine rz_istore dX3_losses_11 (by decide) rfl ?_
  refine rz_iconst dX3_losses_13 ?_
  refine rz_istore (ls' := [some (.ref 32), some (zi 0), some (.ref a), some (zi (s : Int)), some (zi lim), some (.ref 41), some (zi 0), some (zi 0), none]) dX3_losses_14 (by decide) rfl ?_
  refine rz_upx (σ := Unit) (Inv := fun j sj => cntP (lsB 0 lw (I 7) (I 8) (I 9) n r (rowsL n N1 true)) j ≤ lim) (ls := fun (j : Nat) sj => [some (.ref 32), some (zi 0), some (.ref a), some (zi (s : Int)), some (zi lim), some (.ref 41), some (zi (cntP (lsB 0 lw (I 7) (I 8) (I 9) n r (rowsL n N1 true)) j)), some (zi (j : Int)), none]) (IV := fun (j : Nat) sj => I) (JV := fun (j : Nat) sj => J) ((rowsL n N1 true).length) (()) hlim ⟨Or.inr rfl, Or.inr rfl, Or.inr rfl, Or.inr rfl, Or.inr rfl, Or.inr rfl, Or.inr rfl, Or.inr rfl, Or.inl rfl, trivial⟩ (rfl) (rfl) ?_ ?_
  · intro j sj hj qj ihj
    obtain ⟨q, hq⟩ : ∃ q, (rowsL n N1 true)[j]? = some q := ⟨(rowsL n N1 true)[j], List.getElem?_eq_getElem hj⟩
    obtain ⟨hql, hqd⟩ := rowsL_ok (n := n) (left := N1) (all := true) hN9 q (List.mem_of_getElem? hq)
    have hQ : RowA I 41 (j * 5) n q := fun v hv => ⟨by rw [show j * 5 + v = 5 * j + v by omega]; exact hLA j q hq v (by omega), getD_le hqd v⟩
    have hcb := cntP_bd (p := (lsB 0 lw (I 7) (I 8) (I 9) n r (rowsL n N1 true))) j
    have hsb := scP_bd (lw := lw) (T := I 8) (U := I 9) (k := n) (r := r) (q := q) hn.2 (Nat.le_refl n) hW
    have hsb2 : -45 ≤ (scP lw (I 7) (I 8) (I 9) n r q) ∧ (scP lw (I 7) (I 8) (I 9) n r q) ≤ 45 := hsb
    have hpj : (lsB 0 lw (I 7) (I 8) (I 9) n r (rowsL n N1 true)) j = decide ((scP lw (I 7) (I 8) (I 9) n r q) < 0) := by unfold lsB; rw [getD_some hq]; rfl
    refine rz_iload dX3_losses_16 rfl ?_
    refine rz_aload_n dX3_losses_18 rfl ?_
    refine rz_getR dX3_losses_19 kf_RX3_27 hd_32 rfl rr_32_7 ?_
    refine rz_iconst dX3_losses_22 ?_
    refine rz_iload_n dX3_losses_23 rfl ?_
    refine rz_isub dX3_losses_24 ?_
    refine rz_iald (z := ((rowsL n N1 true).length : Int)) dX3_losses_25 hd_38 (by decide) (by omega) hsz ?_
    refine rz_icmp_ge (t := 84) dX3_losses_26 rfl (by omega) (by omega) (fun c26 => ?_) (fun c26 => ?_)
    · exfalso; omega
    · refine rz_iload dX3_losses_29 rfl ?_
      refine rz_iload dX3_losses_31 rfl ?_
      refine rz_icmp_ge (t := 84) dX3_losses_33 rfl (by omega) (by omega) (fun c33 => ?_) (fun c33 => ?_)
      · refine rz_iload dX3_losses_84 rfl ?_
        refine rz_iret dX3_losses_86 rfl ?_
        exact ⟨_, rfl, by have hm := cntP_mono (p := (lsB 0 lw (I 7) (I 8) (I 9) n r (rowsL n N1 true))) (show j ≤ (rowsL n N1 true).length by omega); omega, rfl, rfl⟩
      · refine rz_iload_n dX3_losses_36 rfl ?_
        refine rz_if_ne (t := 55) dX3_losses_37 rfl (by omega) (fun q => absurd q (by decide)) (fun _ => ?_)
        refine rz_aload_n dX3_losses_40 rfl ?_
        refine rz_aload_n dX3_losses_41 rfl ?_
        refine rz_iload_n dX3_losses_42 rfl ?_
        refine rz_aload dX3_losses_43 rfl ?_
        refine rz_iload dX3_losses_45 rfl ?_
        refine rz_iconst dX3_losses_47 ?_
        refine rz_imul dX3_losses_48 ?_
        refine rz_cVI dX3_losses_49 kl_RX3_94 hd_32 ⟨_, _, rfl⟩ ((show KI X _ mX3_duel [.ref 32, .ref a, zi (s : Int), .ref 41, zi ((j : Int) * 5)] I J _ I J from c_X3_duel lw n hn a 41 s (j * 5) Na 1500 r q ha rfl hNa ⟨by omega, by omega⟩ hA hQ hP)) rfl rfl (Nat.le_of_ble_eq_true rfl) (Nat.le_of_ble_eq_true rfl) ?_
        refine rz_goto (t := 68) dX3_losses_52 rfl ?_
        refine rz_istore dX3_losses_68 (by decide) rfl ?_
        refine rz_iload dX3_losses_70 rfl ?_
        refine rz_if_ge (t := 78) dX3_losses_72 rfl (by omega) (fun c72 => ?_) (fun c72 => ?_)
        · refine rz_iinc dX3_losses_78 (by decide) rfl rfl rfl ?_
          refine rz_goto (t := 16) dX3_losses_81 rfl ?_
          exact rz_bk (ihj (()) ((by first | (rw [cnt_y (by rw [hpj]; exact decide_eq_true (by omega))]; omega) | (rw [cnt_n (by rw [hpj]; exact decide_eq_false (by omega))]; omega)))) ⟨Or.inr rfl, Or.inr rfl, Or.inr rfl, Or.inr rfl, Or.inr rfl, Or.inr rfl, Or.inr (congrArg (fun z => some (zi z)) (by first | (rw [cnt_y (by rw [hpj]; exact decide_eq_true (by omega))]) | (rw [cnt_n (by rw [hpj]; exact decide_eq_false (by omega))]))), Or.inr rfl, Or.inl rfl, trivial⟩ (rfl) (rfl)
        · refine rz_iinc dX3_losses_75 (by decide) rfl rfl rfl ?_
          refine rz_iinc (ls' := [some (.ref 32), some (zi 0), some (.ref a), some (zi (s : Int)), some (zi lim), some (.ref 41), some (zi ((cntP (lsB 0 lw (I 7) (I 8) (I 9) n r (rowsL n N1 true)) j) + 1)), some (zi ((j : Int) + 1)), some (zi (scP lw (I 7) (I 8) (I 9) n r q))]) dX3_losses_78 (by decide) rfl rfl rfl ?_
          refine rz_goto (t := 16) dX3_losses_81 rfl ?_
          exact rz_bk (ihj (()) ((by first | (rw [cnt_y (by rw [hpj]; exact decide_eq_true (by omega))]; omega) | (rw [cnt_n (by rw [hpj]; exact decide_eq_false (by omega))]; omega)))) ⟨Or.inr rfl, Or.inr rfl, Or.inr rfl, Or.inr rfl, Or.inr rfl, Or.inr rfl, Or.inr (congrArg (fun z => some (zi z)) (by first | (rw [cnt_y (by rw [hpj]; exact decide_eq_true (by omega))]) | (rw [cnt_n (by rw [hpj]; exact decide_eq_false (by omega))]))), Or.inr rfl, Or.inl rfl, trivial⟩ (rfl) (rfl)
  · intro sj qj
    have hcb := cntP_bd (p := (lsB 0 lw (I 7) (I 8) (I 9) n r (rowsL n N1 true))) (rowsL n N1 true).length
    refine rz_iload dX3_losses_16 rfl ?_
    refine rz_aload_n dX3_losses_18 rfl ?_
    refine rz_getR dX3_losses_19 kf_RX3_27 hd_32 rfl rr_32_7 ?_
    refine rz_iconst dX3_losses_22 ?_
    refine rz_iload_n dX3_losses_23 rfl ?_
    refine rz_isub dX3_losses_24 ?_
    refine rz_iald (z := ((rowsL n N1 true).length : Int)) dX3_losses_25 hd_38 (by decide) (by omega) hsz ?_
    refine rz_icmp_ge (t := 84) dX3_losses_26 rfl (by omega) (by omega) (fun c26 => ?_) (fun c26 => ?_)
    · refine rz_iload dX3_losses_84 rfl ?_
      refine rz_iret dX3_losses_86 rfl ?_
      exact ⟨_, rfl, by omega, rfl, rfl⟩
    · exfalso; omega
set_option maxRecDepth 20000 in
set_option maxHeartbeats 400000 in
theorem c_losses1 {X : pX} {I J : IM} {h : Nat} (lw : Lw) (n : Nat) (hn : I 6 0 = n ∧ n ≤ 5) (hW : ∀ v, v < n → 0 ≤ I 7 v ∧ I 7 v ≤ 9) (N0 : Nat) (hN9 : N0 ≤ 9) (a s Na : Nat) (r : List Nat) (ha : HD0[a]? = some (1, 0, Na)) (hNa : s + n ≤ Na ∧ Na ≤ 2000) (hA : RowA I a s n r) (hP : PtsOK I lw n) (hsz : I 38 0 = ((rowsL n N0 true).length : Int)) (hLL : (rowsL n N0 true).length ≤ 300) (hLA : ListAt (I 40) (rowsL n N0 true)) (lim : Int) (hlim : 0 ≤ lim) (hlm : lim ≤ 301) : KI X (h + 1) mX3_losses [.ref 32, zi 1, .ref a, zi (s : Int), zi lim] I J (min (cntP (lsB 1 lw (I 7) (I 8) (I 9) n r (rowsL n N0 true)) (rowsL n N0 true).length) lim) I J := by
  show Rz X (h + 1) mX3_losses 0 [some (.ref 32), some (zi 1), some (.ref a), some (zi (s : Int)), some (zi lim), none, none, none, none] [] I J _
  refine rz_aload_n dX3_losses_0 rfl ?_
  refine rz_getR dX3_losses_1 kf_RX3_35 hd_32 rfl rr_32_8 ?_
  refine rz_iconst dX3_losses_4 ?_
  refine rz_iload_n dX3_losses_5 rfl ?_
  refine rz_isub dX3_losses_6 ?_
  refine rz_aald (by decide) dX3_losses_7 hd_39 (by decide) (by decide) rr_39_0 ?_
  refine rz_astore dX3_losses_8 (by decide) rfl ?_
  refine rz_iconst dX3_losses_10 ?_
  refine rz_istore dX3_losses_11 (by decide) rfl ?_
  refine rz_iconst dX3_losses_13 ?_
  refine rz_istore (ls' := [some (.ref 32), some (zi 1), some (.ref a), some (zi (s : Int)), some (zi lim), some (.ref 40), some (zi 0), some (zi 0), none]) dX3_losses_14 (by decide) rfl ?_
  refine rz_upx (σ := Unit) (Inv := fun j sj => cntP (lsB 1 lw (I 7) (I 8) (I 9) n r (rowsL n N0 true)) j ≤ lim) (ls := fun (j : Nat) sj => [some (.ref 32), some (zi 1), some (.ref a), some (zi (s : Int)), some (zi lim), some (.ref 40), some (zi (cntP (lsB 1 lw (I 7) (I 8) (I 9) n r (rowsL n N0 true)) j)), some (zi (j : Int)), none]) (IV := fun (j : Nat) sj => I) (JV := fun (j : Nat) sj => J) ((rowsL n N0 true).length) (()) hlim ⟨Or.inr rfl, Or.inr rfl, Or.inr rfl, Or.inr rfl, Or.inr rfl, Or.inr rfl, Or.inr rfl, Or.inr rfl, Or.inl rfl, trivial⟩ (rfl) (rfl) ?_ ?_
  · intro j sj hj qj ihj
    obtain ⟨q, hq⟩ : ∃ q, (rowsL n N0 true)[j]? = some q := ⟨(rowsL n N0 true)[j], List.getElem?_eq_getElem hj⟩
    obtain ⟨hql, hqd⟩ := rowsL_ok (n := n) (left := N0) (all := true) hN9 q (List.mem_of_getElem? hq)
    have hQ : RowA I 40 (j * 5) n q := fun v hv => ⟨by rw [show j * 5 + v = 5 * j + v by omega]; exact hLA j q hq v (by omega), getD_le hqd v⟩
    have hcb := cntP_bd (p := (lsB 1 lw (I 7) (I 8) (I 9) n r (rowsL n N0 true))) j
    have hsb := scP_bd (lw := lw) (T := I 8) (U := I 9) (k := n) (r := q) (q := r) hn.2 (Nat.le_refl n) hW
    have hsb2 : -45 ≤ (scP lw (I 7) (I 8) (I 9) n q r) ∧ (scP lw (I 7) (I 8) (I 9) n q r) ≤ 45 := hsb
    have hpj : (lsB 1 lw (I 7) (I 8) (I 9) n r (rowsL n N0 true)) j = decide ((-(scP lw (I 7) (I 8) (I 9) n q r)) < 0) := by unfold lsB; rw [getD_some hq]; rfl
    refine rz_iload dX3_losses_16 rfl ?_
    refine rz_aload_n dX3_losses_18 rfl ?_
    refine rz_getR dX3_losses_19 kf_RX3_27 hd_32 rfl rr_32_7 ?_
    refine rz_iconst dX3_losses_22 ?_
    refine rz_iload_n dX3_losses_23 rfl ?_
    refine rz_isub dX3_losses_24 ?_
    refine rz_iald (z := ((rowsL n N0 true).length : Int)) dX3_losses_25 hd_38 (by decide) (by omega) hsz ?_
    refine rz_icmp_ge (t := 84) dX3_losses_26 rfl (by omega) (by omega) (fun c26 => ?_) (fun c26 => ?_)
    · exfalso; omega
    · refine rz_iload dX3_losses_29 rfl ?_
      refine rz_iload dX3_losses_31 rfl ?_
      refine rz_icmp_ge (t := 84) dX3_losses_33 rfl (by omega) (by omega) (fun c33 => ?_) (fun c33 => ?_)
      · refine rz_iload dX3_losses_84 rfl ?_
        refine rz_iret dX3_losses_86 rfl ?_
        exact ⟨_, rfl, by have hm := cntP_mono (p := (lsB 1 lw (I 7) (I 8) (I 9) n r (rowsL n N0 true))) (show j ≤ (rowsL n N0 true).length by omega); omega, rfl, rfl⟩
      · refine rz_iload_n dX3_losses_36 rfl ?_
        refine rz_if_ne (t := 55) dX3_losses_37 rfl (by omega) (fun _ => ?_) (fun q => absurd q (by decide))
        refine rz_aload_n dX3_losses_55 rfl ?_
        refine rz_aload dX3_losses_56 rfl ?_
        refine rz_iload dX3_losses_58 rfl ?_
        refine rz_iconst dX3_losses_60 ?_
        refine rz_imul dX3_losses_61 ?_
        refine rz_aload_n dX3_losses_62 rfl ?_
        refine rz_iload_n dX3_losses_63 rfl ?_
        refine rz_cVI dX3_losses_64 kl_RX3_94 hd_32 ⟨_, _, rfl⟩ ((show KI X _ mX3_duel [.ref 32, .ref 40, zi ((j : Int) * 5), .ref a, zi (s : Int)] I J _ I J from c_X3_duel lw n hn 40 a (j * 5) s 1500 Na q r rfl ha ⟨by omega, by omega⟩ hNa hQ hA hP)) rfl rfl (Nat.le_of_ble_eq_true rfl) (Nat.le_of_ble_eq_true rfl) ?_
        refine rz_ineg dX3_losses_67 ?_
        refine rz_istore dX3_losses_68 (by decide) rfl ?_
        refine rz_iload dX3_losses_70 rfl ?_
        refine rz_if_ge (t := 78) dX3_losses_72 rfl (by omega) (fun c72 => ?_) (fun c72 => ?_)
        · refine rz_iinc dX3_losses_78 (by decide) rfl rfl rfl ?_
          refine rz_goto (t := 16) dX3_losses_81 rfl ?_
          exact rz_bk (ihj (()) ((by first | (rw [cnt_y (by rw [hpj]; exact decide_eq_true (by omega))]; omega) | (rw [cnt_n (by rw [hpj]; exact decide_eq_false (by omega))]; omega)))) ⟨Or.inr rfl, Or.inr rfl, Or.inr rfl, Or.inr rfl, Or.inr rfl, Or.inr rfl, Or.inr (congrArg (fun z => some (zi z)) (by first | (rw [cnt_y (by rw [hpj]; exact decide_eq_true (by omega))]) | (rw [cnt_n (by rw [hpj]; exact decide_eq_false (by omega))]))), Or.inr rfl, Or.inl rfl, trivial⟩ (rfl) (rfl)
        · refine rz_iinc dX3_losses_75 (by decide) rfl rfl rfl ?_
          refine rz_iinc (ls' := [some (.ref 32), some (zi 1), some (.ref a), some (zi (s : Int)), some (zi lim), some (.ref 40), some (zi ((cntP (lsB 1 lw (I 7) (I 8) (I 9) n r (rowsL n N0 true)) j) + 1)), some (zi ((j : Int) + 1)), some (zi (-(scP lw (I 7) (I 8) (I 9) n q r)))]) dX3_losses_78 (by decide) rfl rfl rfl ?_
          refine rz_goto (t := 16) dX3_losses_81 rfl ?_
          exact rz_bk (ihj (()) ((by first | (rw [cnt_y (by rw [hpj]; exact decide_eq_true (by omega))]; omega) | (rw [cnt_n (by rw [hpj]; exact decide_eq_false (by omega))]; omega)))) ⟨Or.inr rfl, Or.inr rfl, Or.inr rfl, Or.inr rfl, Or.inr rfl, Or.inr rfl, Or.inr (congrArg (fun z => some (zi z)) (by first | (rw [cnt_y (by rw [hpj]; exact decide_eq_true (by omega))]) | (rw [cnt_n (by rw [hpj]; exact decide_eq_false (by omega))]))), Or.inr rfl, Or.inl rfl, trivial⟩ (rfl) (rfl)
  · intro sj qj
    have hcb := cntP_bd (p := (lsB 1 lw (I 7) (I 8) (I 9) n r (rowsL n N0 true))) (rowsL n N0 true).length
    refine rz_iload dX3_losses_16 rfl ?_
    refine rz_aload_n dX3_losses_18 rfl ?_
    refine rz_getR dX3_losses_19 kf_RX3_27 hd_32 rfl rr_32_7 ?_
    refine rz_iconst dX3_losses_22 ?_
    refine rz_iload_n dX3_losses_23 rfl ?_
    refine rz_isub dX3_losses_24 ?_
    refine rz_iald (z := ((rowsL n N0 true).length : Int)) dX3_losses_25 hd_38 (by decide) (by omega) hsz ?_
    refine rz_icmp_ge (t := 84) dX3_losses_26 rfl (by omega) (by omega) (fun c26 => ?_) (fun c26 => ?_)
    · refine rz_iload dX3_losses_84 rfl ?_
      refine rz_iret dX3_losses_86 rfl ?_
      exact ⟨_, rfl, by omega, rfl, rfl⟩
    · exfalso; omega
set_option maxRecDepth 20000 in
set_option maxHeartbeats 400000 in
theorem c_beatenBy0 {X : pX} {I J : IM} {h : Nat} (lw : Lw) (n : Nat) (hn : I 81 1 = n ∧ n ≤ 5) (hW : ∀ v, v < n → 0 ≤ I 82 v ∧ I 82 v ≤ 9) (N1 : Nat) (hN9 : N1 ≤ 9) (a k Na : Nat) (r : List Nat) (ha : HD0[a]? = some (1, 1, Na)) (hNa : 5 * k + n ≤ Na ∧ Na ≤ 2000) (hA : ∀ v, v < n → I a (5 * k + v) = ((r.getD v 0 : Nat) : Int) ∧ r.getD v 0 ≤ 9) (hH : HasR I lw n) (hsz : I 81 41 = ((rowsL n N1 true).length : Int)) (hLL : (rowsL n N1 true).length ≤ 300) (hLA : RowsAt (I 108) n (rowsL n N1 true)) : KI X (h + 1) mX12_beatenBy [.ref 81, zi 0, .ref a, zi (k : Int)] I J (cntP (lsB 0 lw (I 82) (I 83) (I 84) n r (rowsL n N1 true)) (rowsL n N1 true).length) I J := by
  show Rz X (h + 1) mX12_beatenBy 0 [some (.ref 81), some (zi 0), some (.ref a), some (zi (k : Int)), none, none, none, none, none] [] I J _
  refine rz_iconst dX12_beatenBy_0 ?_
  refine rz_istore dX12_beatenBy_1 (by decide) rfl ?_
  refine rz_iload_n dX12_beatenBy_3 rfl ?_
  refine rz_if_ne (t := 14) dX12_beatenBy_4 rfl (by omega) (fun q => absurd q (by decide)) (fun _ => ?_)
  refine rz_aload_n dX12_beatenBy_7 rfl ?_
  refine rz_getI (z := ((rowsL n N1 true).length : Int)) dX12_beatenBy_8 kf_RX12_332 hd_81 rfl (hsz) ?_
  refine rz_goto (t := 18) dX12_beatenBy_11 rfl ?_
  refine rz_istore dX12_beatenBy_18 (by decide) rfl ?_
  refine rz_iconst dX12_beatenBy_20 ?_
  refine rz_istore (ls' := [some (.ref 81), some (zi 0), some (.ref a), some (zi (k : Int)), some (zi 0), some (zi ((rowsL n N1 true).length : Int)), some (zi 0), none, none]) dX12_beatenBy_21 (by decide) rfl ?_
  refine rz_up (ls := fun j : Nat => [some (.ref 81), some (zi 0), some (.ref a), some (zi (k : Int)), some (zi (cntP (lsB 0 lw (I 82) (I 83) (I 84) n r (rowsL n N1 true)) j)), some (zi ((rowsL n N1 true).length : Int)), some (zi (j : Int)), none, none]) (IV := fun j : Nat => I) (JV := fun j : Nat => J) ((rowsL n N1 true).length) ⟨Or.inr rfl, Or.inr rfl, Or.inr rfl, Or.inr rfl, Or.inr rfl, Or.inr rfl, Or.inr rfl, Or.inl rfl, Or.inl rfl, trivial⟩ (rfl) (rfl) ?_ ?_
  · intro j hj ihj
    obtain ⟨q, hq⟩ : ∃ q, (rowsL n N1 true)[j]? = some q := ⟨(rowsL n N1 true)[j], List.getElem?_eq_getElem hj⟩
    obtain ⟨hql, hqd⟩ := rowsL_ok (n := n) (left := N1) (all := true) hN9 q (List.mem_of_getElem? hq)
    have hQ : ∀ v, v < n → I 108 (5 * j + v) = ((q.getD v 0 : Nat) : Int) ∧ q.getD v 0 ≤ 9 := fun v hv => ⟨hLA j q hq v hv, getD_le hqd v⟩
    have hsb := scP_bd (lw := lw) (T := I 83) (U := I 84) (k := n) (r := r) (q := q) hn.2 (Nat.le_refl n) hW
    have hpj : (lsB 0 lw (I 82) (I 83) (I 84) n r (rowsL n N1 true)) j = decide ((scP lw (I 82) (I 83) (I 84) n r q) < 0) := by unfold lsB; rw [getD_some hq]; rfl
    have hse : (scP lw (I 82) (I 83) (I 84) n r q) = (sumP (fun v => ptsV lw (I 82) (I 83) (I 84) v (r.getD v 0) (q.getD v 0)) n) := rfl
    refine rz_iload dX12_beatenBy_23 rfl ?_
    refine rz_iload dX12_beatenBy_25 rfl ?_
    refine rz_icmp_ge (t := 130) dX12_beatenBy_27 rfl (by omega) (by omega) (fun c27 => ?_) (fun c27 => ?_)
    · exfalso; omega
    · refine rz_iconst dX12_beatenBy_30 ?_
      refine rz_istore dX12_beatenBy_31 (by decide) rfl ?_
      refine rz_iconst dX12_beatenBy_33 ?_
      refine rz_istore dX12_beatenBy_34 (by decide) rfl ?_
      refine rz_up (ls := fun v : Nat => [some (.ref 81), some (zi 0), some (.ref a), some (zi (k : Int)), some (zi (cntP (lsB 0 lw (I 82) (I 83) (I 84) n r (rowsL n N1 true)) j)), some (zi ((rowsL n N1 true).length : Int)), some (zi (j : Int)), some (zi (sumP (fun v => ptsV lw (I 82) (I 83) (I 84) v (r.getD v 0) (q.getD v 0)) v)), some (zi (v : Int))]) (IV := fun v : Nat => I) (JV := fun v : Nat => J) (n) ⟨Or.inr rfl, Or.inr rfl, Or.inr rfl, Or.inr rfl, Or.inr rfl, Or.inr rfl, Or.inr rfl, Or.inr rfl, Or.inr rfl, trivial⟩ (rfl) (rfl) ?_ ?_
      · intro v hv ihv
        have hq9 := (hQ v hv).2
        have hr9 := (hA v hv).2
        refine rz_iload dX12_beatenBy_36 rfl ?_
        refine rz_aload_n dX12_beatenBy_38 rfl ?_
        refine rz_getI (z := (n : Int)) dX12_beatenBy_39 kf_RX12_137 hd_81 rfl (hn.1) ?_
        refine rz_icmp_ge (t := 116) dX12_beatenBy_42 rfl (by omega) (by omega) (fun c42 => ?_) (fun c42 => ?_)
        · exfalso; omega
        · refine rz_iload dX12_beatenBy_45 rfl ?_
          refine rz_iload_n dX12_beatenBy_47 rfl ?_
          refine rz_if_ne (t := 80) dX12_beatenBy_48 rfl (by omega) (fun q => absurd q (by decide)) (fun _ => ?_)
          refine rz_aload_n dX12_beatenBy_51 rfl ?_
          refine rz_iload dX12_beatenBy_52 rfl ?_
          refine rz_aload_n dX12_beatenBy_54 rfl ?_
          refine rz_iconst dX12_beatenBy_55 ?_
          refine rz_iload_n dX12_beatenBy_56 rfl ?_
          refine rz_imul dX12_beatenBy_57 ?_
          refine rz_iload dX12_beatenBy_58 rfl ?_
          refine rz_iadd dX12_beatenBy_60 ?_
          refine rz_baldN (k := (5 * k + v)) (z := ((r.getD v 0 : Nat) : Int)) dX12_beatenBy_61 ha (by omega) (by omega) (by omega) (hA v hv).1 ?_
          refine rz_aload_n dX12_beatenBy_62 rfl ?_
          refine rz_getR dX12_beatenBy_63 kf_RX12_90 hd_81 rfl rr_81_39 ?_
          refine rz_iconst dX12_beatenBy_66 ?_
          refine rz_iload dX12_beatenBy_67 rfl ?_
          refine rz_imul dX12_beatenBy_69 ?_
          refine rz_iload dX12_beatenBy_70 rfl ?_
          refine rz_iadd dX12_beatenBy_72 ?_
          refine rz_baldN (k := (5 * j + v)) (z := ((q.getD v 0 : Nat) : Int)) dX12_beatenBy_73 hd_108 (by decide) (by omega) (by omega) (hQ v hv).1 ?_
          refine rz_cVI dX12_beatenBy_74 kl_RX12_260 hd_81 ⟨_, _, rfl⟩ (c_X12_valueOf X _ I J v (r.getD v 0) (q.getD v 0) (by omega) (by omega) (by omega)) rfl rfl (Nat.le_of_ble_eq_true rfl) (Nat.le_of_ble_eq_true rfl) ?_
          refine rz_ieq (y := ptsV lw (I 82) (I 83) (I 84) v (r.getD v 0) (q.getD v 0)) (congrArg (fun z => I 82 v * z) (hH v hv _ _ (by omega) (by omega))).symm ?_
          refine rz_goto (t := 107) dX12_beatenBy_77 rfl ?_
          refine rz_iadd dX12_beatenBy_107 ?_
          refine rz_istore dX12_beatenBy_108 (by decide) rfl ?_
          refine rz_iinc dX12_beatenBy_110 (by decide) rfl rfl rfl ?_
          refine rz_goto (t := 36) dX12_beatenBy_113 rfl ?_
          exact rz_bk ihv ⟨Or.inr rfl, Or.inr rfl, Or.inr rfl, Or.inr rfl, Or.inr rfl, Or.inr rfl, Or.inr rfl, Or.inr rfl, Or.inr rfl, trivial⟩ (rfl) (rfl)
      · skip
        refine rz_iload dX12_beatenBy_36 rfl ?_
        refine rz_aload_n dX12_beatenBy_38 rfl ?_
        refine rz_getI (z := (n : Int)) dX12_beatenBy_39 kf_RX12_137 hd_81 rfl (hn.1) ?_
        refine rz_icmp_ge (t := 116) dX12_beatenBy_42 rfl (by omega) (by omega) (fun c42 => ?_) (fun c42 => ?_)
        · refine rz_iload dX12_beatenBy_116 rfl ?_
          refine rz_if_ge (t := 124) dX12_beatenBy_118 rfl (by omega) (fun c118 => ?_) (fun c118 => ?_)
          · refine rz_iinc dX12_beatenBy_124 (by decide) rfl rfl rfl ?_
            refine rz_goto (t := 23) dX12_beatenBy_127 rfl ?_
            exact rz_bk ihj ⟨Or.inr rfl, Or.inr rfl, Or.inr rfl, Or.inr rfl, Or.inr (congrArg (fun z => some (zi z)) (by first | (rw [cnt_y (by rw [hpj]; exact decide_eq_true (by omega))]) | (rw [cnt_n (by rw [hpj]; exact decide_eq_false (by omega))]))), Or.inr rfl, Or.inr rfl, Or.inl rfl, Or.inl rfl, trivial⟩ (rfl) (rfl)
          · refine rz_iinc dX12_beatenBy_121 (by decide) rfl rfl rfl ?_
            refine rz_iinc dX12_beatenBy_124 (by decide) rfl rfl rfl ?_
            refine rz_goto (t := 23) dX12_beatenBy_127 rfl ?_
            exact rz_bk ihj ⟨Or.inr rfl, Or.inr rfl, Or.inr rfl, Or.inr rfl, Or.inr (congrArg (fun z => some (zi z)) (by first | (rw [cnt_y (by rw [hpj]; exact decide_eq_true (by omega))]) | (rw [cnt_n (by rw [hpj]; exact decide_eq_false (by omega))]))), Or.inr rfl, Or.inr rfl, Or.inl rfl, Or.inl rfl, trivial⟩ (rfl) (rfl)
        · exfalso; omega
  · skip
    refine rz_iload dX12_beatenBy_23 rfl ?_
    refine rz_iload dX12_beatenBy_25 rfl ?_
    refine rz_icmp_ge (t := 130) dX12_beatenBy_27 rfl (by omega) (by omega) (fun c27 => ?_) (fun c27 => ?_)
    · refine rz_iload dX12_beatenBy_130 rfl ?_
      refine rz_iret dX12_beatenBy_132 rfl ?_
      exact ⟨_, rfl, rfl, rfl, rfl⟩
    · exfalso; omega
set_option maxRecDepth 20000 in
set_option maxHeartbeats 400000 in
theorem c_beatenBy1 {X : pX} {I J : IM} {h : Nat} (lw : Lw) (n : Nat) (hn : I 81 1 = n ∧ n ≤ 5) (hW : ∀ v, v < n → 0 ≤ I 82 v ∧ I 82 v ≤ 9) (N0 : Nat) (hN9 : N0 ≤ 9) (a k Na : Nat) (r : List Nat) (ha : HD0[a]? = some (1, 1, Na)) (hNa : 5 * k + n ≤ Na ∧ Na ≤ 2000) (hA : ∀ v, v < n → I a (5 * k + v) = ((r.getD v 0 : Nat) : Int) ∧ r.getD v 0 ≤ 9) (hH : HasR I lw n) (hsz : I 81 40 = ((rowsL n N0 true).length : Int)) (hLL : (rowsL n N0 true).length ≤ 300) (hLA : RowsAt (I 107) n (rowsL n N0 true)) : KI X (h + 1) mX12_beatenBy [.ref 81, zi 1, .ref a, zi (k : Int)] I J (cntP (lsB 1 lw (I 82) (I 83) (I 84) n r (rowsL n N0 true)) (rowsL n N0 true).length) I J := by
  show Rz X (h + 1) mX12_beatenBy 0 [some (.ref 81), some (zi 1), some (.ref a), some (zi (k : Int)), none, none, none, none, none] [] I J _
  refine rz_iconst dX12_beatenBy_0 ?_
  refine rz_istore dX12_beatenBy_1 (by decide) rfl ?_
  refine rz_iload_n dX12_beatenBy_3 rfl ?_
  refine rz_if_ne (t := 14) dX12_beatenBy_4 rfl (by omega) (fun _ => ?_) (fun q => absurd q (by decide))
  refine rz_aload_n dX12_beatenBy_14 rfl ?_
  refine rz_getI (z := ((rowsL n N0 true).length : Int)) dX12_beatenBy_15 kf_RX12_329 hd_81 rfl (hsz) ?_
  refine rz_istore dX12_beatenBy_18 (by decide) rfl ?_
  refine rz_iconst dX12_beatenBy_20 ?_
  refine rz_istore (ls' := [some (.ref 81), some (zi 1), some (.ref a), some (zi (k : Int)), some (zi 0), some (zi ((rowsL n N0 true).length : Int)), some (zi 0), none, none]) dX12_beatenBy_21 (by decide) rfl ?_
  refine rz_up (ls := fun j : Nat => [some (.ref 81), some (zi 1), some (.ref a), some (zi (k : Int)), some (zi (cntP (lsB 1 lw (I 82) (I 83) (I 84) n r (rowsL n N0 true)) j)), some (zi ((rowsL n N0 true).length : Int)), some (zi (j : Int)), none, none]) (IV := fun j : Nat => I) (JV := fun j : Nat => J) ((rowsL n N0 true).length) ⟨Or.inr rfl, Or.inr rfl, Or.inr rfl, Or.inr rfl, Or.inr rfl, Or.inr rfl, Or.inr rfl, Or.inl rfl, Or.inl rfl, trivial⟩ (rfl) (rfl) ?_ ?_
  · intro j hj ihj
    obtain ⟨q, hq⟩ : ∃ q, (rowsL n N0 true)[j]? = some q := ⟨(rowsL n N0 true)[j], List.getElem?_eq_getElem hj⟩
    obtain ⟨hql, hqd⟩ := rowsL_ok (n := n) (left := N0) (all := true) hN9 q (List.mem_of_getElem? hq)
    have hQ : ∀ v, v < n → I 107 (5 * j + v) = ((q.getD v 0 : Nat) : Int) ∧ q.getD v 0 ≤ 9 := fun v hv => ⟨hLA j q hq v hv, getD_le hqd v⟩
    have hsb := scP_bd (lw := lw) (T := I 83) (U := I 84) (k := n) (r := q) (q := r) hn.2 (Nat.le_refl n) hW
    have hpj : (lsB 1 lw (I 82) (I 83) (I 84) n r (rowsL n N0 true)) j = decide ((-(scP lw (I 82) (I 83) (I 84) n q r)) < 0) := by unfold lsB; rw [getD_some hq]; rfl
    have hse : (-(scP lw (I 82) (I 83) (I 84) n q r)) = (-(sumP (fun v => ptsV lw (I 82) (I 83) (I 84) v (q.getD v 0) (r.getD v 0)) n)) := rfl
    refine rz_iload dX12_beatenBy_23 rfl ?_
    refine rz_iload dX12_beatenBy_25 rfl ?_
    refine rz_icmp_ge (t := 130) dX12_beatenBy_27 rfl (by omega) (by omega) (fun c27 => ?_) (fun c27 => ?_)
    · exfalso; omega
    · refine rz_iconst dX12_beatenBy_30 ?_
      refine rz_istore dX12_beatenBy_31 (by decide) rfl ?_
      refine rz_iconst dX12_beatenBy_33 ?_
      refine rz_istore dX12_beatenBy_34 (by decide) rfl ?_
      refine rz_up (ls := fun v : Nat => [some (.ref 81), some (zi 1), some (.ref a), some (zi (k : Int)), some (zi (cntP (lsB 1 lw (I 82) (I 83) (I 84) n r (rowsL n N0 true)) j)), some (zi ((rowsL n N0 true).length : Int)), some (zi (j : Int)), some (zi (-(sumP (fun v => ptsV lw (I 82) (I 83) (I 84) v (q.getD v 0) (r.getD v 0)) v))), some (zi (v : Int))]) (IV := fun v : Nat => I) (JV := fun v : Nat => J) (n) ⟨Or.inr rfl, Or.inr rfl, Or.inr rfl, Or.inr rfl, Or.inr rfl, Or.inr rfl, Or.inr rfl, Or.inr rfl, Or.inr rfl, trivial⟩ (rfl) (rfl) ?_ ?_
      · intro v hv ihv
        have hq9 := (hQ v hv).2
        have hr9 := (hA v hv).2
        refine rz_iload dX12_beatenBy_36 rfl ?_
        refine rz_aload_n dX12_beatenBy_38 rfl ?_
        refine rz_getI (z := (n : Int)) dX12_beatenBy_39 kf_RX12_137 hd_81 rfl (hn.1) ?_
        refine rz_icmp_ge (t := 116) dX12_beatenBy_42 rfl (by omega) (by omega) (fun c42 => ?_) (fun c42 => ?_)
        · exfalso; omega
        · refine rz_iload dX12_beatenBy_45 rfl ?_
          refine rz_iload_n dX12_beatenBy_47 rfl ?_
          refine rz_if_ne (t := 80) dX12_beatenBy_48 rfl (by omega) (fun _ => ?_) (fun q => absurd q (by decide))
          refine rz_aload_n dX12_beatenBy_80 rfl ?_
          refine rz_iload dX12_beatenBy_81 rfl ?_
          refine rz_aload_n dX12_beatenBy_83 rfl ?_
          refine rz_getR dX12_beatenBy_84 kf_RX12_87 hd_81 rfl rr_81_38 ?_
          refine rz_iconst dX12_beatenBy_87 ?_
          refine rz_iload dX12_beatenBy_88 rfl ?_
          refine rz_imul dX12_beatenBy_90 ?_
          refine rz_iload dX12_beatenBy_91 rfl ?_
          refine rz_iadd dX12_beatenBy_93 ?_
          refine rz_baldN (k := (5 * j + v)) (z := ((q.getD v 0 : Nat) : Int)) dX12_beatenBy_94 hd_107 (by decide) (by omega) (by omega) (hQ v hv).1 ?_
          refine rz_aload_n dX12_beatenBy_95 rfl ?_
          refine rz_iconst dX12_beatenBy_96 ?_
          refine rz_iload_n dX12_beatenBy_97 rfl ?_
          refine rz_imul dX12_beatenBy_98 ?_
          refine rz_iload dX12_beatenBy_99 rfl ?_
          refine rz_iadd dX12_beatenBy_101 ?_
          refine rz_baldN (k := (5 * k + v)) (z := ((r.getD v 0 : Nat) : Int)) dX12_beatenBy_102 ha (by omega) (by omega) (by omega) (hA v hv).1 ?_
          refine rz_cVI dX12_beatenBy_103 kl_RX12_260 hd_81 ⟨_, _, rfl⟩ (c_X12_valueOf X _ I J v (q.getD v 0) (r.getD v 0) (by omega) (by omega) (by omega)) rfl rfl (Nat.le_of_ble_eq_true rfl) (Nat.le_of_ble_eq_true rfl) ?_
          refine rz_ieq (y := ptsV lw (I 82) (I 83) (I 84) v (q.getD v 0) (r.getD v 0)) (congrArg (fun z => I 82 v * z) (hH v hv _ _ (by omega) (by omega))).symm ?_
          refine rz_ineg dX12_beatenBy_106 ?_
          refine rz_iadd dX12_beatenBy_107 ?_
          refine rz_istore dX12_beatenBy_108 (by decide) rfl ?_
          refine rz_iinc dX12_beatenBy_110 (by decide) rfl rfl rfl ?_
          refine rz_goto (t := 36) dX12_beatenBy_113 rfl ?_
          exact rz_bk ihv ⟨Or.inr rfl, Or.inr rfl, Or.inr rfl, Or.inr rfl, Or.inr rfl, Or.inr rfl, Or.inr rfl, Or.inr (congrArg (fun z => some (zi z)) (by simp only [sumP]; omega)), Or.inr rfl, trivial⟩ (rfl) (rfl)
      · skip
        refine rz_iload dX12_beatenBy_36 rfl ?_
        refine rz_aload_n dX12_beatenBy_38 rfl ?_
        refine rz_getI (z := (n : Int)) dX12_beatenBy_39 kf_RX12_137 hd_81 rfl (hn.1) ?_
        refine rz_icmp_ge (t := 116) dX12_beatenBy_42 rfl (by omega) (by omega) (fun c42 => ?_) (fun c42 => ?_)
        · refine rz_iload dX12_beatenBy_116 rfl ?_
          refine rz_if_ge (t := 124) dX12_beatenBy_118 rfl (by omega) (fun c118 => ?_) (fun c118 => ?_)
          · refine rz_iinc dX12_beatenBy_124 (by decide) rfl rfl rfl ?_
            refine rz_goto (t := 23) dX12_beatenBy_127 rfl ?_
            exact rz_bk ihj ⟨Or.inr rfl, Or.inr rfl, Or.inr rfl, Or.inr rfl, Or.inr (congrArg (fun z => some (zi z)) (by first | (rw [cnt_y (by rw [hpj]; exact decide_eq_true (by omega))]) | (rw [cnt_n (by rw [hpj]; exact decide_eq_false (by omega))]))), Or.inr rfl, Or.inr rfl, Or.inl rfl, Or.inl rfl, trivial⟩ (rfl) (rfl)
          · refine rz_iinc dX12_beatenBy_121 (by decide) rfl rfl rfl ?_
            refine rz_iinc dX12_beatenBy_124 (by decide) rfl rfl rfl ?_
            refine rz_goto (t := 23) dX12_beatenBy_127 rfl ?_
            exact rz_bk ihj ⟨Or.inr rfl, Or.inr rfl, Or.inr rfl, Or.inr rfl, Or.inr (congrArg (fun z => some (zi z)) (by first | (rw [cnt_y (by rw [hpj]; exact decide_eq_true (by omega))]) | (rw [cnt_n (by rw [hpj]; exact decide_eq_false (by omega))]))), Or.inr rfl, Or.inr rfl, Or.inl rfl, Or.inl rfl, trivial⟩ (rfl) (rfl)
        · exfalso; omega
  · skip
    refine rz_iload dX12_beatenBy_23 rfl ?_
    refine rz_iload dX12_beatenBy_25 rfl ?_
    refine rz_icmp_ge (t := 130) dX12_beatenBy_27 rfl (by omega) (by omega) (fun c27 => ?_) (fun c27 => ?_)
    · refine rz_iload dX12_beatenBy_130 rfl ?_
      refine rz_iret dX12_beatenBy_132 rfl ?_
      exact ⟨_, rfl, rfl, rfl, rfl⟩
    · exfalso; omega
