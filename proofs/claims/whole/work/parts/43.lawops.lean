/-! the class reads: comparisons and operands -/
abbrev coSx (T : Nat → Int) (L : Nat) (op : PS → PS) (s : PS) : PS := lsS T L op cmpC 1 (op s)
set_option maxRecDepth 20000 in
set_option maxHeartbeats 400000 in
theorem c_X4_readCompared {X : pX} {I : IM} {L H : Nat} {d : Int} {op : PS → PS} (hL : I 1 0 = L ∧ L ≤ 120) (hT : ∀ k : Nat, 0 ≤ I 2 k ∧ I 2 k ≤ 255) (hg : GdS L op) (hop : RdC X I L (H + 1) mX4_readSum d op) : RdC X I L (H + 2) mX4_readCompared d (coSx (I 2) L op) := by
  intro h J s D hs hf hd hn
  show Rz X (h + H + 2) mX4_readCompared 0 [some (.ref 1), some (zi d), none] [] (encM I s D) J _
  obtain ⟨p1, p2, p3, p4, p5⟩ := hg s hs
  have h2 := gd_rg hg hL.2 hs hf
  have hr := nxS_rg (L := L) (s := op s) hT
  refine rz_aload_n dX4_readCompared_0 rfl ?_
  refine rz_iload_n dX4_readCompared_1 rfl ?_
  refine rz_cVVq dX4_readCompared_2 kl_RX4_67 hd_1 ⟨_, _, rfl⟩ (hop _ J s D (by first | assumption | omega) (by first | assumption | omega) (by first | assumption | omega) (by first | assumption | omega)) rfl rfl (Nat.le_of_ble_eq_true rfl) (Nat.le_of_ble_eq_true rfl) ?_
  rintro _ _ ⟨⟨D2, rfl, k2⟩, rfl⟩
  refine rz_aload_n dX4_readCompared_5 rfl ?_
  refine rz_cVI dX4_readCompared_6 kl_RX4_70 hd_1 ⟨_, _, rfl⟩ (c_X4_next X _ I J L hL (op s) D2 (by first | assumption | omega) (by first | assumption | omega) hT) rfl rfl (Nat.le_of_ble_eq_true rfl) (Nat.le_of_ble_eq_true rfl) ?_
  refine rz_istore_n dX4_readCompared_9 (by decide) rfl ?_
  refine rz_iload_n dX4_readCompared_10 rfl ?_
  refine rz_bipush dX4_readCompared_11 (by decide) ?_
  refine rz_icmp_eq (t := 29) dX4_readCompared_13 rfl (by omega) (by omega) (fun c13 => ?_) (fun c13 => ?_)
  · refine rz_aload_n dX4_readCompared_29 rfl ?_
    refine rz_dup dX4_readCompared_30 rfl ?_
    refine rz_getI (z := ((op s).1 : Int)) dX4_readCompared_31 kf_RX4_29 hd_1 rfl (rfl) ?_
    refine rz_iconst dX4_readCompared_34 ?_
    refine rz_iadd dX4_readCompared_35 ?_
    refine rz_putI dX4_readCompared_36 kp_RX4_29 hd_1 rfl ?_
    refine rz_mem (I' := (encM I (adS (op s)) D2)) (J' := J) (encM_ad) (rfl) ?_
    have j1 := nxS_ne (T := I 2) (L := L) (s := op s) (by omega)
    have a1 : (adS (op s)).1 ≤ L := show (op s).1 + 1 ≤ L by omega
    have a2 : -1 ≤ (adS (op s)).2.1 ∧ (adS (op s)).2.1 ≤ 120 := h2
    have a3 : DOK D2 (adS (op s)).2.2 := k2
    have a4 : (adS (op s)).2.2.length ≤ (adS (op s)).1 := show (op s).2.2.length ≤ (op s).1 + 1 by omega
    obtain ⟨g1, g2, g3, g4, g5⟩ := hg (adS (op s)) a1
    have a5 := gd_rg hg hL.2 a1 a2
    have a6 : (op (adS (op s))).2.2.length + ((op s).1 + 1) ≤ (op (adS (op s))).1 + (op s).2.2.length := g3
    refine rz_aload_n dX4_readCompared_39 rfl ?_
    refine rz_iload_n dX4_readCompared_40 rfl ?_
    refine rz_cVVq dX4_readCompared_41 kl_RX4_67 hd_1 ⟨_, _, rfl⟩ (hop _ J (adS (op s)) D2 (by first | assumption | omega) (by first | assumption | omega) (by first | assumption | omega) (by first | assumption | omega)) rfl rfl (Nat.le_of_ble_eq_true rfl) (Nat.le_of_ble_eq_true rfl) ?_
    rintro _ _ ⟨⟨D41, rfl, k41⟩, rfl⟩
    refine rz_aload_n dX4_readCompared_44 rfl ?_
    refine rz_iload_n dX4_readCompared_45 rfl ?_
    refine rz_ineg dX4_readCompared_46 ?_
    refine rz_cVVq dX4_readCompared_47 kl_RX4_58 hd_1 ⟨_, _, rfl⟩ (c_X4_emit X _ I J L hL (op (adS (op s))) D41 (-(nxS (I 2) L (op s))) (by first | assumption | omega) (by first | assumption | omega) (by first | assumption | omega)) rfl rfl (Nat.le_of_ble_eq_true rfl) (Nat.le_of_ble_eq_true rfl) ?_
    rintro _ _ ⟨⟨D47, rfl, k47⟩, rfl⟩
    refine rz_vret dX4_readCompared_50 rfl ?_
    have hz : emS (-(nxS (I 2) L (op s))) (op (adS (op s))) = coSx (I 2) L op s := (if_pos (cmpC_t (by omega))).symm
    exact ⟨rfl, ⟨D47, by rw [← hz], by rw [← hz]; exact k47⟩, rfl⟩
  · refine rz_iload_n dX4_readCompared_16 rfl ?_
    refine rz_bipush dX4_readCompared_17 (by decide) ?_
    refine rz_icmp_eq (t := 29) dX4_readCompared_19 rfl (by omega) (by omega) (fun c19 => ?_) (fun c19 => ?_)
    · refine rz_aload_n dX4_readCompared_29 rfl ?_
      refine rz_dup dX4_readCompared_30 rfl ?_
      refine rz_getI (z := ((op s).1 : Int)) dX4_readCompared_31 kf_RX4_29 hd_1 rfl (rfl) ?_
      refine rz_iconst dX4_readCompared_34 ?_
      refine rz_iadd dX4_readCompared_35 ?_
      refine rz_putI dX4_readCompared_36 kp_RX4_29 hd_1 rfl ?_
      refine rz_mem (I' := (encM I (adS (op s)) D2)) (J' := J) (encM_ad) (rfl) ?_
      have j1 := nxS_ne (T := I 2) (L := L) (s := op s) (by omega)
      have a1 : (adS (op s)).1 ≤ L := show (op s).1 + 1 ≤ L by omega
      have a2 : -1 ≤ (adS (op s)).2.1 ∧ (adS (op s)).2.1 ≤ 120 := h2
      have a3 : DOK D2 (adS (op s)).2.2 := k2
      have a4 : (adS (op s)).2.2.length ≤ (adS (op s)).1 := show (op s).2.2.length ≤ (op s).1 + 1 by omega
      obtain ⟨g1, g2, g3, g4, g5⟩ := hg (adS (op s)) a1
      have a5 := gd_rg hg hL.2 a1 a2
      have a6 : (op (adS (op s))).2.2.length + ((op s).1 + 1) ≤ (op (adS (op s))).1 + (op s).2.2.length := g3
      refine rz_aload_n dX4_readCompared_39 rfl ?_
      refine rz_iload_n dX4_readCompared_40 rfl ?_
      refine rz_cVVq dX4_readCompared_41 kl_RX4_67 hd_1 ⟨_, _, rfl⟩ (hop _ J (adS (op s)) D2 (by first | assumption | omega) (by first | assumption | omega) (by first | assumption | omega) (by first | assumption | omega)) rfl rfl (Nat.le_of_ble_eq_true rfl) (Nat.le_of_ble_eq_true rfl) ?_
      rintro _ _ ⟨⟨D41, rfl, k41⟩, rfl⟩
      refine rz_aload_n dX4_readCompared_44 rfl ?_
      refine rz_iload_n dX4_readCompared_45 rfl ?_
      refine rz_ineg dX4_readCompared_46 ?_
      refine rz_cVVq dX4_readCompared_47 kl_RX4_58 hd_1 ⟨_, _, rfl⟩ (c_X4_emit X _ I J L hL (op (adS (op s))) D41 (-(nxS (I 2) L (op s))) (by first | assumption | omega) (by first | assumption | omega) (by first | assumption | omega)) rfl rfl (Nat.le_of_ble_eq_true rfl) (Nat.le_of_ble_eq_true rfl) ?_
      rintro _ _ ⟨⟨D47, rfl, k47⟩, rfl⟩
      refine rz_vret dX4_readCompared_50 rfl ?_
      have hz : emS (-(nxS (I 2) L (op s))) (op (adS (op s))) = coSx (I 2) L op s := (if_pos (cmpC_t (by omega))).symm
      exact ⟨rfl, ⟨D47, by rw [← hz], by rw [← hz]; exact k47⟩, rfl⟩
    · refine rz_iload_n dX4_readCompared_22 rfl ?_
      refine rz_bipush dX4_readCompared_23 (by decide) ?_
      refine rz_icmp_eq (t := 29) dX4_readCompared_25 rfl (by omega) (by omega) (fun c25 => ?_) (fun c25 => ?_)
      · refine rz_aload_n dX4_readCompared_29 rfl ?_
        refine rz_dup dX4_readCompared_30 rfl ?_
        refine rz_getI (z := ((op s).1 : Int)) dX4_readCompared_31 kf_RX4_29 hd_1 rfl (rfl) ?_
        refine rz_iconst dX4_readCompared_34 ?_
        refine rz_iadd dX4_readCompared_35 ?_
        refine rz_putI dX4_readCompared_36 kp_RX4_29 hd_1 rfl ?_
        refine rz_mem (I' := (encM I (adS (op s)) D2)) (J' := J) (encM_ad) (rfl) ?_
        have j1 := nxS_ne (T := I 2) (L := L) (s := op s) (by omega)
        have a1 : (adS (op s)).1 ≤ L := show (op s).1 + 1 ≤ L by omega
        have a2 : -1 ≤ (adS (op s)).2.1 ∧ (adS (op s)).2.1 ≤ 120 := h2
        have a3 : DOK D2 (adS (op s)).2.2 := k2
        have a4 : (adS (op s)).2.2.length ≤ (adS (op s)).1 := show (op s).2.2.length ≤ (op s).1 + 1 by omega
        obtain ⟨g1, g2, g3, g4, g5⟩ := hg (adS (op s)) a1
        have a5 := gd_rg hg hL.2 a1 a2
        have a6 : (op (adS (op s))).2.2.length + ((op s).1 + 1) ≤ (op (adS (op s))).1 + (op s).2.2.length := g3
        refine rz_aload_n dX4_readCompared_39 rfl ?_
        refine rz_iload_n dX4_readCompared_40 rfl ?_
        refine rz_cVVq dX4_readCompared_41 kl_RX4_67 hd_1 ⟨_, _, rfl⟩ (hop _ J (adS (op s)) D2 (by first | assumption | omega) (by first | assumption | omega) (by first | assumption | omega) (by first | assumption | omega)) rfl rfl (Nat.le_of_ble_eq_true rfl) (Nat.le_of_ble_eq_true rfl) ?_
        rintro _ _ ⟨⟨D41, rfl, k41⟩, rfl⟩
        refine rz_aload_n dX4_readCompared_44 rfl ?_
        refine rz_iload_n dX4_readCompared_45 rfl ?_
        refine rz_ineg dX4_readCompared_46 ?_
        refine rz_cVVq dX4_readCompared_47 kl_RX4_58 hd_1 ⟨_, _, rfl⟩ (c_X4_emit X _ I J L hL (op (adS (op s))) D41 (-(nxS (I 2) L (op s))) (by first | assumption | omega) (by first | assumption | omega) (by first | assumption | omega)) rfl rfl (Nat.le_of_ble_eq_true rfl) (Nat.le_of_ble_eq_true rfl) ?_
        rintro _ _ ⟨⟨D47, rfl, k47⟩, rfl⟩
        refine rz_vret dX4_readCompared_50 rfl ?_
        have hz : emS (-(nxS (I 2) L (op s))) (op (adS (op s))) = coSx (I 2) L op s := (if_pos (cmpC_t (by omega))).symm
        exact ⟨rfl, ⟨D47, by rw [← hz], by rw [← hz]; exact k47⟩, rfl⟩
      · refine rz_vret dX4_readCompared_28 rfl ?_
        have hz : op s = coSx (I 2) L op s := (if_neg (by rw [cmpC_f (by omega)]; decide)).symm
        exact ⟨rfl, ⟨D2, by rw [← hz], by rw [← hz]; exact k2⟩, rfl⟩
/-- all of an expression, from its operands on -/
theorem c_X4_expr {X : pX} {I : IM} {L H : Nat} {d : Int} {op : PS → PS} (hL : I 1 0 = L ∧ L ≤ 120) (hT : ∀ k : Nat, 0 ≤ I 2 k ∧ I 2 k ≤ 255) (hg : GdS L op) (hop : RdC X I L (H + 1) mX4_readOperand d op) : RdC X I L (H + 6) mX4_readEither d (eiS (I 2) L op) :=
  c_X4_readEither (H := H + 4) hL hT (bo_gd hg) (c_X4_readBoth (H := H + 3) hL hT (co_gd hg) (c_X4_readCompared (H := H + 2) hL hT (su_gd hg) (c_X4_readSum (H := H + 1) hL hT (pr_gd hg) (c_X4_readProduct hL hT hg hop))))
