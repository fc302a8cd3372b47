/-! the class chooses; its gains -/
set_option maxRecDepth 20000 in
set_option maxHeartbeats 400000 in
theorem c_choose28 {X : pX} {I J : IM} {h : Nat} (n N : Nat) (hn : n ≤ 5) (hN : N ≤ 9) (hG : GRg I 29 n) (hM : PlI I 29 false n N 0 (I 30)) : KVq X (h + 1) mX6_choose [.ref 28, zi (n : Int), zi (N : Int), .ref 31] I J (fun A B => (∃ W, A = upA I 31 W ∧ ∀ j, j < n → W j = (((chsR (gI I 29) n 0 N).getD j 0 : Nat) : Int)) ∧ J = B) := by
  show Rz X (h + 1) mX6_choose 0 [some (.ref 28), some (zi (n : Int)), some (zi (N : Int)), some (.ref 31), none, none, none] [] I J _
  refine rz_iload_n dX6_choose_0 rfl ?_
  refine rz_istore dX6_choose_1 (by decide) rfl ?_
  refine rz_iconst dX6_choose_3 ?_
  refine rz_istore dX6_choose_4 (by decide) rfl ?_
  refine rz_upx (σ := Nat × (Nat → Int) × List Nat) (Inv := fun v sv => ChI (gI I 29) n N v sv.1 sv.2.1 sv.2.2) (ls := fun (v : Nat) sv => [some (.ref 28), some (zi (n : Int)), some (zi (N : Int)), some (.ref 31), some (zi (sv.1 : Int)), some (zi (v : Int)), none]) (IV := fun (v : Nat) sv => (upA I 31 sv.2.1)) (JV := fun (v : Nat) sv => J) (n) ((N, I 31, [])) ⟨rfl, Nat.le_refl _, rfl, fun j hj => absurd hj (by omega)⟩ ⟨Or.inr rfl, Or.inr rfl, Or.inr rfl, Or.inr rfl, Or.inr rfl, Or.inr rfl, Or.inl rfl, trivial⟩ (upA_id) (rfl) ?_ ?_
  · intro v sv hv qv ihv
    obtain ⟨left, W, pre⟩ := sv
    have qv : ChI (gI I 29) n N v left W pre := qv
    obtain ⟨g1, g2, g3, g4⟩ := id qv
    have hmr := mx_rg2 (all := false) (m := n - v) (v := v) (left := left) hG hn (by omega) (by omega)
    refine rz_to (ls' := [some (.ref 28), some (zi (n : Int)), some (zi (N : Int)), some (.ref 31), some (zi (left : Int)), some (zi (v : Int)), none]) (I' := (upA I 31 W)) (J' := J) ⟨Or.inr rfl, Or.inr rfl, Or.inr rfl, Or.inr rfl, Or.inr rfl, Or.inr rfl, Or.inl rfl, trivial⟩ rfl rfl ?_
    refine rz_iload dX6_choose_6 rfl ?_
    refine rz_iload_n dX6_choose_8 rfl ?_
    refine rz_icmp_ge (t := 73) dX6_choose_9 rfl (by omega) (by omega) (fun c9 => ?_) (fun c9 => ?_)
    · exfalso; omega
    · refine rz_iconst dX6_choose_12 ?_
      refine rz_istore dX6_choose_13 (by decide) rfl ?_
      refine rz_upx (σ := Unit) (Inv := fun x sx => ∀ y, y < x → (fun x => gI I 29 v x + mx (gI I 29) false (n - (v + 1)) (v + 1) (left - x)) y ≠ (mx (gI I 29) false (n - v) v left)) (ls := fun (x : Nat) sx => [some (.ref 28), some (zi (n : Int)), some (zi (N : Int)), some (.ref 31), some (zi (left : Int)), some (zi (v : Int)), some (zi (x : Int))]) (IV := fun (x : Nat) sx => (upA I 31 W)) (JV := fun (x : Nat) sx => J) (left) (()) (fun y hy => absurd hy (by omega)) ⟨Or.inr rfl, Or.inr rfl, Or.inr rfl, Or.inr rfl, Or.inr rfl, Or.inr rfl, Or.inr rfl, trivial⟩ (rfl) (rfl) ?_ ?_
      · intro x sx hx qx ihx
        have hgx := hG v x (by omega) (by omega)
        have hmx := mx_rg2 (all := false) (m := n - (v + 1)) (v := v + 1) (left := left - x) hG hn (by omega) (by omega)
        have hfx : -1100000 ≤ ((fun x => gI I 29 v x + mx (gI I 29) false (n - (v + 1)) (v + 1) (left - x)) x) ∧ ((fun x => gI I 29 v x + mx (gI I 29) false (n - (v + 1)) (v + 1) (left - x)) x) ≤ 600000 := by show -1100000 ≤ I 29 (10 * v + x) + _ ∧ I 29 (10 * v + x) + _ ≤ 600000; omega
        refine rz_iload dX6_choose_15 rfl ?_
        refine rz_iload dX6_choose_17 rfl ?_
        refine rz_icmp_ge (t := 54) dX6_choose_19 rfl (by omega) (by omega) (fun c19 => ?_) (fun c19 => ?_)
        · exfalso; omega
        · refine rz_aload_n dX6_choose_22 rfl ?_
          refine rz_iload dX6_choose_23 rfl ?_
          refine rz_iload dX6_choose_25 rfl ?_
          refine rz_iload dX6_choose_27 rfl ?_
          refine rz_cVI dX6_choose_29 kl_RX6_23 hd_28 ⟨_, _, rfl⟩ (c_with28 (I := upA I 31 W) (by omega) (by omega) (by omega)) rfl rfl (Nat.le_of_ble_eq_true rfl) (Nat.le_of_ble_eq_true rfl) ?_
          refine rz_ieq (y := ((fun x => gI I 29 v x + mx (gI I 29) false (n - (v + 1)) (v + 1) (left - x)) x)) (congrArg (fun z => I 29 (10 * v + x) + z) (hM (v + 1) (Nat.zero_le _) (by omega) (left - x) (by omega)).symm) ?_
          refine rz_aload_n dX6_choose_32 rfl ?_
          refine rz_getR dX6_choose_33 kf_RX6_15 hd_28 rfl rr_28_1 ?_
          refine rz_iload dX6_choose_36 rfl ?_
          refine rz_bipush dX6_choose_38 (by decide) ?_
          refine rz_imul dX6_choose_40 ?_
          refine rz_iload dX6_choose_41 rfl ?_
          refine rz_iadd dX6_choose_43 ?_
          refine rz_ialdN (k := (10 * v + left)) (z := (mx (gI I 29) false (n - v) v left)) dX6_choose_44 hd_30 (by decide) (by omega) (by omega) (hM v (Nat.zero_le _) (by omega) left (by omega)) ?_
          refine rz_icmp_eq (t := 54) dX6_choose_45 rfl (by omega) (by omega) (fun c45 => ?_) (fun c45 => ?_)
          · refine rz_aload_n dX6_choose_54 rfl ?_
            refine rz_iload dX6_choose_55 rfl ?_
            refine rz_iload dX6_choose_57 rfl ?_
            refine rz_iastN (k := v) dX6_choose_59 hd_31 (by decide) (by omega) (by omega) ?_
            refine rz_iload dX6_choose_60 rfl ?_
            refine rz_iload dX6_choose_62 rfl ?_
            refine rz_isub dX6_choose_64 ?_
            refine rz_istore dX6_choose_65 (by decide) rfl ?_
            refine rz_iinc dX6_choose_67 (by decide) rfl rfl rfl ?_
            refine rz_goto (t := 6) dX6_choose_70 rfl ?_
            exact rz_bk (ihv ((left - x, up1 W v (x : Int), pre ++ [x])) ((ChI_s hv qv (fst_eq (by omega) qx (by first | (left; omega) | (right; assumption)))))) ⟨Or.inr rfl, Or.inr rfl, Or.inr rfl, Or.inr rfl, Or.inr (congrArg (fun z => some (zi z)) (by omega)), Or.inr rfl, Or.inl rfl, trivial⟩ (upA_upA.symm) (rfl)
          · refine rz_iinc dX6_choose_48 (by decide) rfl rfl rfl ?_
            refine rz_goto (t := 15) dX6_choose_51 rfl ?_
            exact rz_bk (ihx (()) ((fun y hy => by by_cases e : y = x; (subst e; assumption); exact qx y (by omega)))) ⟨Or.inr rfl, Or.inr rfl, Or.inr rfl, Or.inr rfl, Or.inr rfl, Or.inr rfl, Or.inr rfl, trivial⟩ (rfl) (rfl)
      · intro sx qx
        refine rz_iload dX6_choose_15 rfl ?_
        refine rz_iload dX6_choose_17 rfl ?_
        refine rz_icmp_ge (t := 54) dX6_choose_19 rfl (by omega) (by omega) (fun c19 => ?_) (fun c19 => ?_)
        · refine rz_aload_n dX6_choose_54 rfl ?_
          refine rz_iload dX6_choose_55 rfl ?_
          refine rz_iload dX6_choose_57 rfl ?_
          refine rz_iastN (k := v) dX6_choose_59 hd_31 (by decide) (by omega) (by omega) ?_
          refine rz_iload dX6_choose_60 rfl ?_
          refine rz_iload dX6_choose_62 rfl ?_
          refine rz_isub dX6_choose_64 ?_
          refine rz_istore dX6_choose_65 (by decide) rfl ?_
          refine rz_iinc dX6_choose_67 (by decide) rfl rfl rfl ?_
          refine rz_goto (t := 6) dX6_choose_70 rfl ?_
          exact rz_bk (ihv ((left - left, up1 W v (left : Int), pre ++ [left])) ((ChI_s hv qv (fst_eq (by omega) qx (by first | (left; omega) | (right; assumption)))))) ⟨Or.inr rfl, Or.inr rfl, Or.inr rfl, Or.inr rfl, Or.inr (congrArg (fun z => some (zi z)) (by omega)), Or.inr rfl, Or.inl rfl, trivial⟩ (upA_upA.symm) (rfl)
        · exfalso; omega
  · intro sv qv
    refine rz_iload dX6_choose_6 rfl ?_
    refine rz_iload_n dX6_choose_8 rfl ?_
    refine rz_icmp_ge (t := 73) dX6_choose_9 rfl (by omega) (by omega) (fun c9 => ?_) (fun c9 => ?_)
    · refine rz_vret dX6_choose_73 rfl ?_
      exact ⟨rfl, ⟨_, rfl, ChI_e qv⟩, rfl⟩
    · exfalso; omega
set_option maxRecDepth 20000 in
set_option maxHeartbeats 400000 in
theorem c_choose49 {X : pX} {I J : IM} {h : Nat} (n N : Nat) (hn : n ≤ 5) (hN : N ≤ 9) (hG : GRg I 50 n) (hM : PlI I 50 false n N 0 (I 51)) : KVq X (h + 1) mX6_choose [.ref 49, zi (n : Int), zi (N : Int), .ref 56] I J (fun A B => (∃ W, A = upA I 56 W ∧ ∀ j, j < n → W j = (((chsR (gI I 50) n 0 N).getD j 0 : Nat) : Int)) ∧ J = B) := by
  show Rz X (h + 1) mX6_choose 0 [some (.ref 49), some (zi (n : Int)), some (zi (N : Int)), some (.ref 56), none, none, none] [] I J _
  refine rz_iload_n dX6_choose_0 rfl ?_
  refine rz_istore dX6_choose_1 (by decide) rfl ?_
  refine rz_iconst dX6_choose_3 ?_
  refine rz_istore dX6_choose_4 (by decide) rfl ?_
  refine rz_upx (σ := Nat × (Nat → Int) × List Nat) (Inv := fun v sv => ChI (gI I 50) n N v sv.1 sv.2.1 sv.2.2) (ls := fun (v : Nat) sv => [some (.ref 49), some (zi (n : Int)), some (zi (N : Int)), some (.ref 56), some (zi (sv.1 : Int)), some (zi (v : Int)), none]) (IV := fun (v : Nat) sv => (upA I 56 sv.2.1)) (JV := fun (v : Nat) sv => J) (n) ((N, I 56, [])) ⟨rfl, Nat.le_refl _, rfl, fun j hj => absurd hj (by omega)⟩ ⟨Or.inr rfl, Or.inr rfl, Or.inr rfl, Or.inr rfl, Or.inr rfl, Or.inr rfl, Or.inl rfl, trivial⟩ (upA_id) (rfl) ?_ ?_
  · intro v sv hv qv ihv
    obtain ⟨left, W, pre⟩ := sv
    have qv : ChI (gI I 50) n N v left W pre := qv
    obtain ⟨g1, g2, g3, g4⟩ := id qv
    have hmr := mx_rg2 (all := false) (m := n - v) (v := v) (left := left) hG hn (by omega) (by omega)
    refine rz_to (ls' := [some (.ref 49), some (zi (n : Int)), some (zi (N : Int)), some (.ref 56), some (zi (left : Int)), some (zi (v : Int)), none]) (I' := (upA I 56 W)) (J' := J) ⟨Or.inr rfl, Or.inr rfl, Or.inr rfl, Or.inr rfl, Or.inr rfl, Or.inr rfl, Or.inl rfl, trivial⟩ rfl rfl ?_
    refine rz_iload dX6_choose_6 rfl ?_
    refine rz_iload_n dX6_choose_8 rfl ?_
    refine rz_icmp_ge (t := 73) dX6_choose_9 rfl (by omega) (by omega) (fun c9 => ?_) (fun c9 => ?_)
    · exfalso; omega
    · refine rz_iconst dX6_choose_12 ?_
      refine rz_istore dX6_choose_13 (by decide) rfl ?_
      refine rz_upx (σ := Unit) (Inv := fun x sx => ∀ y, y < x → (fun x => gI I 50 v x + mx (gI I 50) false (n - (v + 1)) (v + 1) (left - x)) y ≠ (mx (gI I 50) false (n - v) v left)) (ls := fun (x : Nat) sx => [some (.ref 49), some (zi (n : Int)), some (zi (N : Int)), some (.ref 56), some (zi (left : Int)), some (zi (v : Int)), some (zi (x : Int))]) (IV := fun (x : Nat) sx => (upA I 56 W)) (JV := fun (x : Nat) sx => J) (left) (()) (fun y hy => absurd hy (by omega)) ⟨Or.inr rfl, Or.inr rfl, Or.inr rfl, Or.inr rfl, Or.inr rfl, Or.inr rfl, Or.inr rfl, trivial⟩ (rfl) (rfl) ?_ ?_
      · intro x sx hx qx ihx
        have hgx := hG v x (by omega) (by omega)
        have hmx := mx_rg2 (all := false) (m := n - (v + 1)) (v := v + 1) (left := left - x) hG hn (by omega) (by omega)
        have hfx : -1100000 ≤ ((fun x => gI I 50 v x + mx (gI I 50) false (n - (v + 1)) (v + 1) (left - x)) x) ∧ ((fun x => gI I 50 v x + mx (gI I 50) false (n - (v + 1)) (v + 1) (left - x)) x) ≤ 600000 := by show -1100000 ≤ I 50 (10 * v + x) + _ ∧ I 50 (10 * v + x) + _ ≤ 600000; omega
        refine rz_iload dX6_choose_15 rfl ?_
        refine rz_iload dX6_choose_17 rfl ?_
        refine rz_icmp_ge (t := 54) dX6_choose_19 rfl (by omega) (by omega) (fun c19 => ?_) (fun c19 => ?_)
        · exfalso; omega
        · refine rz_aload_n dX6_choose_22 rfl ?_
          refine rz_iload dX6_choose_23 rfl ?_
          refine rz_iload dX6_choose_25 rfl ?_
          refine rz_iload dX6_choose_27 rfl ?_
          refine rz_cVI dX6_choose_29 kl_RX6_23 hd_49 ⟨_, _, rfl⟩ (c_with49 (I := upA I 56 W) (by omega) (by omega) (by omega)) rfl rfl (Nat.le_of_ble_eq_true rfl) (Nat.le_of_ble_eq_true rfl) ?_
          refine rz_ieq (y := ((fun x => gI I 50 v x + mx (gI I 50) false (n - (v + 1)) (v + 1) (left - x)) x)) (congrArg (fun z => I 50 (10 * v + x) + z) (hM (v + 1) (Nat.zero_le _) (by omega) (left - x) (by omega)).symm) ?_
          refine rz_aload_n dX6_choose_32 rfl ?_
          refine rz_getR dX6_choose_33 kf_RX6_15 hd_49 rfl rr_49_1 ?_
          refine rz_iload dX6_choose_36 rfl ?_
          refine rz_bipush dX6_choose_38 (by decide) ?_
          refine rz_imul dX6_choose_40 ?_
          refine rz_iload dX6_choose_41 rfl ?_
          refine rz_iadd dX6_choose_43 ?_
          refine rz_ialdN (k := (10 * v + left)) (z := (mx (gI I 50) false (n - v) v left)) dX6_choose_44 hd_51 (by decide) (by omega) (by omega) (hM v (Nat.zero_le _) (by omega) left (by omega)) ?_
          refine rz_icmp_eq (t := 54) dX6_choose_45 rfl (by omega) (by omega) (fun c45 => ?_) (fun c45 => ?_)
          · refine rz_aload_n dX6_choose_54 rfl ?_
            refine rz_iload dX6_choose_55 rfl ?_
            refine rz_iload dX6_choose_57 rfl ?_
            refine rz_iastN (k := v) dX6_choose_59 hd_56 (by decide) (by omega) (by omega) ?_
            refine rz_iload dX6_choose_60 rfl ?_
            refine rz_iload dX6_choose_62 rfl ?_
            refine rz_isub dX6_choose_64 ?_
            refine rz_istore dX6_choose_65 (by decide) rfl ?_
            refine rz_iinc dX6_choose_67 (by decide) rfl rfl rfl ?_
            refine rz_goto (t := 6) dX6_choose_70 rfl ?_
            exact rz_bk (ihv ((left - x, up1 W v (x : Int), pre ++ [x])) ((ChI_s hv qv (fst_eq (by omega) qx (by first | (left; omega) | (right; assumption)))))) ⟨Or.inr rfl, Or.inr rfl, Or.inr rfl, Or.inr rfl, Or.inr (congrArg (fun z => some (zi z)) (by omega)), Or.inr rfl, Or.inl rfl, trivial⟩ (upA_upA.symm) (rfl)
          · refine rz_iinc dX6_choose_48 (by decide) rfl rfl rfl ?_
            refine rz_goto (t := 15) dX6_choose_51 rfl ?_
            exact rz_bk (ihx (()) ((fun y hy => by by_cases e : y = x; (subst e; assumption); exact qx y (by omega)))) ⟨Or.inr rfl, Or.inr rfl, Or.inr rfl, Or.inr rfl, Or.inr rfl, Or.inr rfl, Or.inr rfl, trivial⟩ (rfl) (rfl)
      · intro sx qx
        refine rz_iload dX6_choose_15 rfl ?_
        refine rz_iload dX6_choose_17 rfl ?_
        refine rz_icmp_ge (t := 54) dX6_choose_19 rfl (by omega) (by omega) (fun c19 => ?_) (fun c19 => ?_)
        · refine rz_aload_n dX6_choose_54 rfl ?_
          refine rz_iload dX6_choose_55 rfl ?_
          refine rz_iload dX6_choose_57 rfl ?_
          refine rz_iastN (k := v) dX6_choose_59 hd_56 (by decide) (by omega) (by omega) ?_
          refine rz_iload dX6_choose_60 rfl ?_
          refine rz_iload dX6_choose_62 rfl ?_
          refine rz_isub dX6_choose_64 ?_
          refine rz_istore dX6_choose_65 (by decide) rfl ?_
          refine rz_iinc dX6_choose_67 (by decide) rfl rfl rfl ?_
          refine rz_goto (t := 6) dX6_choose_70 rfl ?_
          exact rz_bk (ihv ((left - left, up1 W v (left : Int), pre ++ [left])) ((ChI_s hv qv (fst_eq (by omega) qx (by first | (left; omega) | (right; assumption)))))) ⟨Or.inr rfl, Or.inr rfl, Or.inr rfl, Or.inr rfl, Or.inr (congrArg (fun z => some (zi z)) (by omega)), Or.inr rfl, Or.inl rfl, trivial⟩ (upA_upA.symm) (rfl)
        · exfalso; omega
  · intro sv qv
    refine rz_iload dX6_choose_6 rfl ?_
    refine rz_iload_n dX6_choose_8 rfl ?_
    refine rz_icmp_ge (t := 73) dX6_choose_9 rfl (by omega) (by omega) (fun c9 => ?_) (fun c9 => ?_)
    · refine rz_vret dX6_choose_73 rfl ?_
      exact ⟨rfl, ⟨_, rfl, ChI_e qv⟩, rfl⟩
    · exfalso; omega
set_option maxRecDepth 20000 in
set_option maxHeartbeats 400000 in
theorem c_choose52 {X : pX} {I J : IM} {h : Nat} (n N : Nat) (hn : n ≤ 5) (hN : N ≤ 9) (hG : GRg I 53 n) (hM : PlI I 53 false n N 0 (I 54)) : KVq X (h + 1) mX6_choose [.ref 52, zi (n : Int), zi (N : Int), .ref 57] I J (fun A B => (∃ W, A = upA I 57 W ∧ ∀ j, j < n → W j = (((chsR (gI I 53) n 0 N).getD j 0 : Nat) : Int)) ∧ J = B) := by
  show Rz X (h + 1) mX6_choose 0 [some (.ref 52), some (zi (n : Int)), some (zi (N : Int)), some (.ref 57), none, none, none] [] I J _
  refine rz_iload_n dX6_choose_0 rfl ?_
  refine rz_istore dX6_choose_1 (by decide) rfl ?_
  refine rz_iconst dX6_choose_3 ?_
  refine rz_istore dX6_choose_4 (by decide) rfl ?_
  refine rz_upx (σ := Nat × (Nat → Int) × List Nat) (Inv := fun v sv => ChI (gI I 53) n N v sv.1 sv.2.1 sv.2.2) (ls := fun (v : Nat) sv => [some (.ref 52), some (zi (n : Int)), some (zi (N : Int)), some (.ref 57), some (zi (sv.1 : Int)), some (zi (v : Int)), none]) (IV := fun (v : Nat) sv => (upA I 57 sv.2.1)) (JV := fun (v : Nat) sv => J) (n) ((N, I 57, [])) ⟨rfl, Nat.le_refl _, rfl, fun j hj => absurd hj (by omega)⟩ ⟨Or.inr rfl, Or.inr rfl, Or.inr rfl, Or.inr rfl, Or.inr rfl, Or.inr rfl, Or.inl rfl, trivial⟩ (upA_id) (rfl) ?_ ?_
  · intro v sv hv qv ihv
    obtain ⟨left, W, pre⟩ := sv
    have qv : ChI (gI I 53) n N v left W pre := qv
    obtain ⟨g1, g2, g3, g4⟩ := id qv
    have hmr := mx_rg2 (all := false) (m := n - v) (v := v) (left := left) hG hn (by omega) (by omega)
    refine rz_to (ls' := [some (.ref 52), some (zi (n : Int)), some (zi (N : Int)), some (.ref 57), some (zi (left : Int)), some (zi (v : Int)), none]) (I' := (upA I 57 W)) (J' := J) ⟨Or.inr rfl, Or.inr rfl, Or.inr rfl, Or.inr rfl, Or.inr rfl, Or.inr rfl, Or.inl rfl, trivial⟩ rfl rfl ?_
    refine rz_iload dX6_choose_6 rfl ?_
    refine rz_iload_n dX6_choose_8 rfl ?_
    refine rz_icmp_ge (t := 73) dX6_choose_9 rfl (by omega) (by omega) (fun c9 => ?_) (fun c9 => ?_)
    · exfalso; omega
    · refine rz_iconst dX6_choose_12 ?_
      refine rz_istore dX6_choose_13 (by decide) rfl ?_
      refine rz_upx (σ := Unit) (Inv := fun x sx => ∀ y, y < x → (fun x => gI I 53 v x + mx (gI I 53) false (n - (v + 1)) (v + 1) (left - x)) y ≠ (mx (gI I 53) false (n - v) v left)) (ls := fun (x : Nat) sx => [some (.ref 52), some (zi (n : Int)), some (zi (N : Int)), some (.ref 57), some (zi (left : Int)), some (zi (v : Int)), some (zi (x : Int))]) (IV := fun (x : Nat) sx => (upA I 57 W)) (JV := fun (x : Nat) sx => J) (left) (()) (fun y hy => absurd hy (by omega)) ⟨Or.inr rfl, Or.inr rfl, Or.inr rfl, Or.inr rfl, Or.inr rfl, Or.inr rfl, Or.inr rfl, trivial⟩ (rfl) (rfl) ?_ ?_
      · intro x sx hx qx ihx
        have hgx := hG v x (by omega) (by omega)
        have hmx := mx_rg2 (all := false) (m := n - (v + 1)) (v := v + 1) (left := left - x) hG hn (by omega) (by omega)
        have hfx : -1100000 ≤ ((fun x => gI I 53 v x + mx (gI I 53) false (n - (v + 1)) (v + 1) (left - x)) x) ∧ ((fun x => gI I 53 v x + mx (gI I 53) false (n - (v + 1)) (v + 1) (left - x)) x) ≤ 600000 := by show -1100000 ≤ I 53 (10 * v + x) + _ ∧ I 53 (10 * v + x) + _ ≤ 600000; omega
        refine rz_iload dX6_choose_15 rfl ?_
        refine rz_iload dX6_choose_17 rfl ?_
        refine rz_icmp_ge (t := 54) dX6_choose_19 rfl (by omega) (by omega) (fun c19 => ?_) (fun c19 => ?_)
        · exfalso; omega
        · refine rz_aload_n dX6_choose_22 rfl ?_
          refine rz_iload dX6_choose_23 rfl ?_
          refine rz_iload dX6_choose_25 rfl ?_
          refine rz_iload dX6_choose_27 rfl ?_
          refine rz_cVI dX6_choose_29 kl_RX6_23 hd_52 ⟨_, _, rfl⟩ (c_with52 (I := upA I 57 W) (by omega) (by omega) (by omega)) rfl rfl (Nat.le_of_ble_eq_true rfl) (Nat.le_of_ble_eq_true rfl) ?_
          refine rz_ieq (y := ((fun x => gI I 53 v x + mx (gI I 53) false (n - (v + 1)) (v + 1) (left - x)) x)) (congrArg (fun z => I 53 (10 * v + x) + z) (hM (v + 1) (Nat.zero_le _) (by omega) (left - x) (by omega)).symm) ?_
          refine rz_aload_n dX6_choose_32 rfl ?_
          refine rz_getR dX6_choose_33 kf_RX6_15 hd_52 rfl rr_52_1 ?_
          refine rz_iload dX6_choose_36 rfl ?_
          refine rz_bipush dX6_choose_38 (by decide) ?_
          refine rz_imul dX6_choose_40 ?_
          refine rz_iload dX6_choose_41 rfl ?_
          refine rz_iadd dX6_choose_43 ?_
          refine rz_ialdN (k := (10 * v + left)) (z := (mx (gI I 53) false (n - v) v left)) dX6_choose_44 hd_54 (by decide) (by omega) (by omega) (hM v (Nat.zero_le _) (by omega) left (by omega)) ?_
          refine rz_icmp_eq (t := 54) dX6_choose_45 rfl (by omega) (by omega) (fun c45 => ?_) (fun c45 => ?_)
          · refine rz_aload_n dX6_choose_54 rfl ?_
            refine rz_iload dX6_choose_55 rfl ?_
            refine rz_iload dX6_choose_57 rfl ?_
            refine rz_iastN (k := v) dX6_choose_59 hd_57 (by decide) (by omega) (by omega) ?_
            refine rz_iload dX6_choose_60 rfl ?_
            refine rz_iload dX6_choose_62 rfl ?_
            refine rz_isub dX6_choose_64 ?_
            refine rz_istore dX6_choose_65 (by decide) rfl ?_
            refine rz_iinc dX6_choose_67 (by decide) rfl rfl rfl ?_
            refine rz_goto (t := 6) dX6_choose_70 rfl ?_
            exact rz_bk (ihv ((left - x, up1 W v (x : Int), pre ++ [x])) ((ChI_s hv qv (fst_eq (by omega) qx (by first | (left; omega) | (right; assumption)))))) ⟨Or.inr rfl, Or.inr rfl, Or.inr rfl, Or.inr rfl, Or.inr (congrArg (fun z => some (zi z)) (by omega)), Or.inr rfl, Or.inl rfl, trivial⟩ (upA_upA.symm) (rfl)
          · refine rz_iinc dX6_choose_48 (by decide) rfl rfl rfl ?_
            refine rz_goto (t := 15) dX6_choose_51 rfl ?_
            exact rz_bk (ihx (()) ((fun y hy => by by_cases e : y = x; (subst e; assumption); exact qx y (by omega)))) ⟨Or.inr rfl, Or.inr rfl, Or.inr rfl, Or.inr rfl, Or.inr rfl, Or.inr rfl, Or.inr rfl, trivial⟩ (rfl) (rfl)
      · intro sx qx
        refine rz_iload dX6_choose_15 rfl ?_
        refine rz_iload dX6_choose_17 rfl ?_
        refine rz_icmp_ge (t := 54) dX6_choose_19 rfl (by omega) (by omega) (fun c19 => ?_) (fun c19 => ?_)
        · refine rz_aload_n dX6_choose_54 rfl ?_
          refine rz_iload dX6_choose_55 rfl ?_
          refine rz_iload dX6_choose_57 rfl ?_
          refine rz_iastN (k := v) dX6_choose_59 hd_57 (by decide) (by omega) (by omega) ?_
          refine rz_iload dX6_choose_60 rfl ?_
          refine rz_iload dX6_choose_62 rfl ?_
          refine rz_isub dX6_choose_64 ?_
          refine rz_istore dX6_choose_65 (by decide) rfl ?_
          refine rz_iinc dX6_choose_67 (by decide) rfl rfl rfl ?_
          refine rz_goto (t := 6) dX6_choose_70 rfl ?_
          exact rz_bk (ihv ((left - left, up1 W v (left : Int), pre ++ [left])) ((ChI_s hv qv (fst_eq (by omega) qx (by first | (left; omega) | (right; assumption)))))) ⟨Or.inr rfl, Or.inr rfl, Or.inr rfl, Or.inr rfl, Or.inr (congrArg (fun z => some (zi z)) (by omega)), Or.inr rfl, Or.inl rfl, trivial⟩ (upA_upA.symm) (rfl)
        · exfalso; omega
  · intro sv qv
    refine rz_iload dX6_choose_6 rfl ?_
    refine rz_iload_n dX6_choose_8 rfl ?_
    refine rz_icmp_ge (t := 73) dX6_choose_9 rfl (by omega) (by omega) (fun c9 => ?_) (fun c9 => ?_)
    · refine rz_vret dX6_choose_73 rfl ?_
      exact ⟨rfl, ⟨_, rfl, ChI_e qv⟩, rfl⟩
    · exfalso; omega
