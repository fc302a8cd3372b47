/-! the class reads: what opens a depth -/
set_option maxRecDepth 20000 in
set_option maxHeartbeats 400000 in
theorem c_open33 {X : pX} {I : IM} {L H : Nat} {d : Int} {op : PS → PS} (hL : I 1 0 = L ∧ L ≤ 120) (hT : ∀ k : Nat, 0 ≤ I 2 k ∧ I 2 k ≤ 255) (hg : GdS L op) (hop : RdC X I L (H + 1) mX4_readOperand d op) (h : Nat) (J : IM) (s : PS) (D : Nat → Int) (hs : s.1 < L) (hf : -1 ≤ s.2.1 ∧ s.2.1 ≤ 120) (hd : DOK D s.2.2) (hn : s.2.2.length ≤ s.1) : KVq X (h + H + 7) mX4_readOpened [.ref 1, zi 33, zi d] (encM I s D) J (LwQ I J (emS (-33) (op (adS s)))) := by
  show Rz X (h + H + 7) mX4_readOpened 0 [some (.ref 1), some (zi 33), some (zi d)] [] (encM I s D) J _
  refine rz_aload_n dX4_readOpened_0 rfl ?_
  refine rz_dup dX4_readOpened_1 rfl ?_
  refine rz_getI (z := (s.1 : Int)) dX4_readOpened_2 kf_RX4_29 hd_1 rfl (rfl) ?_
  refine rz_iconst dX4_readOpened_5 ?_
  refine rz_iadd dX4_readOpened_6 ?_
  refine rz_putI dX4_readOpened_7 kp_RX4_29 hd_1 rfl ?_
  refine rz_mem (I' := (encM I (adS s) D)) (J' := J) (encM_ad) (rfl) ?_
  have a1 : (adS s).1 ≤ L := show s.1 + 1 ≤ L by omega
  have a2 : -1 ≤ (adS s).2.1 ∧ (adS s).2.1 ≤ 120 := hf
  have a3 : DOK D (adS s).2.2 := hd
  have a4 : (adS s).2.2.length ≤ (adS s).1 := show s.2.2.length ≤ s.1 + 1 by omega
  obtain ⟨g1, g2, g3, g4, g5⟩ := hg (adS s) a1
  have a5 := gd_rg hg hL.2 a1 a2
  have a6 : (op (adS s)).2.2.length + (s.1 + 1) ≤ (op (adS s)).1 + s.2.2.length := g3
  refine rz_iload_n dX4_readOpened_10 rfl ?_
  refine rz_bipush dX4_readOpened_11 (by decide) ?_
  refine rz_icmp_ne (t := 37) dX4_readOpened_13 rfl (by omega) (by omega) (fun _ => ?_) (fun q => absurd q (by decide))
  refine rz_aload_n dX4_readOpened_37 rfl ?_
  refine rz_iload_n dX4_readOpened_38 rfl ?_
  refine rz_cVVq dX4_readOpened_39 kl_RX4_77 hd_1 ⟨_, _, rfl⟩ ((by have q := hop (h + 5) J (adS s) D (by first | assumption | omega) (by first | assumption | omega) (by first | assumption | omega) (by first | assumption | omega); rw [show h + 5 + (H + 1) = h + H + 6 by omega] at q; exact q)) rfl rfl (Nat.le_of_ble_eq_true rfl) (Nat.le_of_ble_eq_true rfl) ?_
  rintro _ _ ⟨⟨D39, rfl, k39⟩, rfl⟩
  refine rz_aload_n dX4_readOpened_42 rfl ?_
  refine rz_iload_n dX4_readOpened_43 rfl ?_
  refine rz_bipush dX4_readOpened_44 (by decide) ?_
  refine rz_icmp_ne (t := 54) dX4_readOpened_46 rfl (by omega) (by omega) (fun q => absurd q (by decide)) (fun _ => ?_)
  refine rz_bipush dX4_readOpened_49 (by decide) ?_
  refine rz_goto (t := 55) dX4_readOpened_51 rfl ?_
  refine rz_cVVq dX4_readOpened_55 kl_RX4_58 hd_1 ⟨_, _, rfl⟩ (c_X4_emit X _ I J L hL (op (adS s)) D39 (-33) (by first | assumption | omega) (by first | assumption | omega) (by first | assumption | omega)) rfl rfl (Nat.le_of_ble_eq_true rfl) (Nat.le_of_ble_eq_true rfl) ?_
  rintro _ _ ⟨⟨D55, rfl, k55⟩, rfl⟩
  refine rz_vret dX4_readOpened_58 rfl ?_
  exact ⟨rfl, ⟨_, rfl, k55⟩, rfl⟩
set_option maxRecDepth 20000 in
set_option maxHeartbeats 400000 in
theorem c_open45 {X : pX} {I : IM} {L H : Nat} {d : Int} {op : PS → PS} (hL : I 1 0 = L ∧ L ≤ 120) (hT : ∀ k : Nat, 0 ≤ I 2 k ∧ I 2 k ≤ 255) (hg : GdS L op) (hop : RdC X I L (H + 1) mX4_readOperand d op) (h : Nat) (J : IM) (s : PS) (D : Nat → Int) (hs : s.1 < L) (hf : -1 ≤ s.2.1 ∧ s.2.1 ≤ 120) (hd : DOK D s.2.2) (hn : s.2.2.length ≤ s.1) : KVq X (h + H + 7) mX4_readOpened [.ref 1, zi 45, zi d] (encM I s D) J (LwQ I J (emS (-1) (op (adS s)))) := by
  show Rz X (h + H + 7) mX4_readOpened 0 [some (.ref 1), some (zi 45), some (zi d)] [] (encM I s D) J _
  refine rz_aload_n dX4_readOpened_0 rfl ?_
  refine rz_dup dX4_readOpened_1 rfl ?_
  refine rz_getI (z := (s.1 : Int)) dX4_readOpened_2 kf_RX4_29 hd_1 rfl (rfl) ?_
  refine rz_iconst dX4_readOpened_5 ?_
  refine rz_iadd dX4_readOpened_6 ?_
  refine rz_putI dX4_readOpened_7 kp_RX4_29 hd_1 rfl ?_
  refine rz_mem (I' := (encM I (adS s) D)) (J' := J) (encM_ad) (rfl) ?_
  have a1 : (adS s).1 ≤ L := show s.1 + 1 ≤ L by omega
  have a2 : -1 ≤ (adS s).2.1 ∧ (adS s).2.1 ≤ 120 := hf
  have a3 : DOK D (adS s).2.2 := hd
  have a4 : (adS s).2.2.length ≤ (adS s).1 := show s.2.2.length ≤ s.1 + 1 by omega
  obtain ⟨g1, g2, g3, g4, g5⟩ := hg (adS s) a1
  have a5 := gd_rg hg hL.2 a1 a2
  have a6 : (op (adS s)).2.2.length + (s.1 + 1) ≤ (op (adS s)).1 + s.2.2.length := g3
  refine rz_iload_n dX4_readOpened_10 rfl ?_
  refine rz_bipush dX4_readOpened_11 (by decide) ?_
  refine rz_icmp_ne (t := 37) dX4_readOpened_13 rfl (by omega) (by omega) (fun _ => ?_) (fun q => absurd q (by decide))
  refine rz_aload_n dX4_readOpened_37 rfl ?_
  refine rz_iload_n dX4_readOpened_38 rfl ?_
  refine rz_cVVq dX4_readOpened_39 kl_RX4_77 hd_1 ⟨_, _, rfl⟩ ((by have q := hop (h + 5) J (adS s) D (by first | assumption | omega) (by first | assumption | omega) (by first | assumption | omega) (by first | assumption | omega); rw [show h + 5 + (H + 1) = h + H + 6 by omega] at q; exact q)) rfl rfl (Nat.le_of_ble_eq_true rfl) (Nat.le_of_ble_eq_true rfl) ?_
  rintro _ _ ⟨⟨D39, rfl, k39⟩, rfl⟩
  refine rz_aload_n dX4_readOpened_42 rfl ?_
  refine rz_iload_n dX4_readOpened_43 rfl ?_
  refine rz_bipush dX4_readOpened_44 (by decide) ?_
  refine rz_icmp_ne (t := 54) dX4_readOpened_46 rfl (by omega) (by omega) (fun _ => ?_) (fun q => absurd q (by decide))
  refine rz_iconst dX4_readOpened_54 ?_
  refine rz_cVVq dX4_readOpened_55 kl_RX4_58 hd_1 ⟨_, _, rfl⟩ (c_X4_emit X _ I J L hL (op (adS s)) D39 (-1) (by first | assumption | omega) (by first | assumption | omega) (by first | assumption | omega)) rfl rfl (Nat.le_of_ble_eq_true rfl) (Nat.le_of_ble_eq_true rfl) ?_
  rintro _ _ ⟨⟨D55, rfl, k55⟩, rfl⟩
  refine rz_vret dX4_readOpened_58 rfl ?_
  exact ⟨rfl, ⟨_, rfl, k55⟩, rfl⟩
set_option maxRecDepth 20000 in
set_option maxHeartbeats 400000 in
theorem c_open40 {X : pX} {I : IM} {L H : Nat} {d : Int} {op : PS → PS} (hL : I 1 0 = L ∧ L ≤ 120) (hT : ∀ k : Nat, 0 ≤ I 2 k ∧ I 2 k ≤ 255) (hg : GdS L op) (hop : RdC X I L (H + 1) mX4_readOperand d op) (h : Nat) (J : IM) (s : PS) (D : Nat → Int) (hs : s.1 < L) (hf : -1 ≤ s.2.1 ∧ s.2.1 ≤ 120) (hd : DOK D s.2.2) (hn : s.2.2.length ≤ s.1) : KVq X (h + H + 7) mX4_readOpened [.ref 1, zi 40, zi d] (encM I s D) J (LwQ I J (if nxS (I 2) L (eiS (I 2) L op (adS s)) = 41 then adS (eiS (I 2) L op (adS s)) else flS (eiS (I 2) L op (adS s)))) := by
  have hei := c_X4_expr hL hT hg hop
  show Rz X (h + H + 7) mX4_readOpened 0 [some (.ref 1), some (zi 40), some (zi d)] [] (encM I s D) J _
  refine rz_aload_n dX4_readOpened_0 rfl ?_
  refine rz_dup dX4_readOpened_1 rfl ?_
  refine rz_getI (z := (s.1 : Int)) dX4_readOpened_2 kf_RX4_29 hd_1 rfl (rfl) ?_
  refine rz_iconst dX4_readOpened_5 ?_
  refine rz_iadd dX4_readOpened_6 ?_
  refine rz_putI dX4_readOpened_7 kp_RX4_29 hd_1 rfl ?_
  refine rz_mem (I' := (encM I (adS s) D)) (J' := J) (encM_ad) (rfl) ?_
  have a1 : (adS s).1 ≤ L := show s.1 + 1 ≤ L by omega
  have a2 : -1 ≤ (adS s).2.1 ∧ (adS s).2.1 ≤ 120 := hf
  have a3 : DOK D (adS s).2.2 := hd
  have a4 : (adS s).2.2.length ≤ (adS s).1 := show s.2.2.length ≤ s.1 + 1 by omega
  obtain ⟨g1, g2, g3, g4, g5⟩ := (ei_gd (T := I 2) hg) (adS s) a1
  have a5 := gd_rg (ei_gd (T := I 2) hg) hL.2 a1 a2
  have a6 : ((eiS (I 2) L op) (adS s)).2.2.length + (s.1 + 1) ≤ ((eiS (I 2) L op) (adS s)).1 + s.2.2.length := g3
  refine rz_iload_n dX4_readOpened_10 rfl ?_
  refine rz_bipush dX4_readOpened_11 (by decide) ?_
  refine rz_icmp_ne (t := 37) dX4_readOpened_13 rfl (by omega) (by omega) (fun q => absurd q (by decide)) (fun _ => ?_)
  refine rz_aload_n dX4_readOpened_16 rfl ?_
  refine rz_iload_n dX4_readOpened_17 rfl ?_
  refine rz_cVVq dX4_readOpened_18 kl_RX4_54 hd_1 ⟨_, _, rfl⟩ ((by have q := hei h J (adS s) D (by first | assumption | omega) (by first | assumption | omega) (by first | assumption | omega) (by first | assumption | omega); rw [show h + (H + 6) = h + H + 6 by omega] at q; exact q)) rfl rfl (Nat.le_of_ble_eq_true rfl) (Nat.le_of_ble_eq_true rfl) ?_
  rintro _ _ ⟨⟨D18, rfl, k18⟩, rfl⟩
  refine rz_aload_n dX4_readOpened_21 rfl ?_
  refine rz_bipush dX4_readOpened_22 (by decide) ?_
  refine rz_cVIq dX4_readOpened_24 kl_RX4_41 hd_1 ⟨_, _, rfl⟩ (c_X4_takes X _ I J L hL ((eiS (I 2) L op) (adS s)) D18 41 (by omega) (by first | assumption | omega) (by first | assumption | omega) hT) rfl rfl (Nat.le_of_ble_eq_true rfl) (Nat.le_of_ble_eq_true rfl) ?_
  rintro z24 A24 _ ⟨⟨rfl, b24, rfl⟩ | ⟨rfl, b24, rfl⟩, rfl⟩
  · refine rz_if_ne (t := 58) dX4_readOpened_27 rfl (by omega) (fun _ => ?_) (fun q => absurd q (by decide))
    refine rz_vret dX4_readOpened_58 rfl ?_
    exact ⟨rfl, ⟨D18, by rw [if_pos b24], by rw [if_pos b24]; exact k18⟩, rfl⟩
  · refine rz_if_ne (t := 58) dX4_readOpened_27 rfl (by omega) (fun q => absurd q (by decide)) (fun _ => ?_)
    refine rz_aload_n dX4_readOpened_30 rfl ?_
    refine rz_cVV dX4_readOpened_31 kl_RX4_45 hd_1 ⟨_, _, rfl⟩ (c_X4_fail X _ I J L hL ((eiS (I 2) L op) (adS s)) D18 (by first | assumption | omega)) rfl rfl (Nat.le_of_ble_eq_true rfl) (Nat.le_of_ble_eq_true rfl) ?_
    refine rz_goto (t := 58) dX4_readOpened_34 rfl ?_
    refine rz_vret dX4_readOpened_58 rfl ?_
    exact ⟨rfl, ⟨D18, by rw [if_neg b24], by rw [if_neg b24]; unfold flS; split <;> exact k18⟩, rfl⟩
