/-! the class reads: an operand, by depths left -/
theorem opS_0 {T : Nat → Int} {L : Nat} {s : PS} : opS T L 0 s = if digC (nxS T L s) then nmS T L 4 0 s else if namC (nxS T L s) then emS (-(nxS T L s)) (adS s) else flS s := rfl
theorem opS_s {T : Nat → Int} {L r : Nat} {s : PS} : opS T L (r + 1) s = if digC (nxS T L s) then nmS T L 4 0 s else if namC (nxS T L s) then emS (-(nxS T L s)) (adS s)
      else if nxS T L s = 40 then (if nxS T L (eiS T L (opS T L r) (adS s)) = 41 then adS (eiS T L (opS T L r) (adS s)) else flS (eiS T L (opS T L r) (adS s)))
      else if nxS T L s = 33 then emS (-33) (opS T L r (adS s)) else if nxS T L s = 45 then emS (-1) (opS T L r (adS s)) else flS s := rfl
set_option maxRecDepth 20000 in
set_option maxHeartbeats 400000 in
theorem c_op0 {X : pX} {I : IM} {L : Nat} (hL : I 1 0 = L ∧ L ≤ 120) (hT : ∀ k : Nat, 0 ≤ I 2 k ∧ I 2 k ≤ 255) : RdC X I L 3 mX4_readOperand 6 (opS (I 2) L 0) := by
  intro h J s D hs hf hd hn
  show Rz X (h + 3) mX4_readOperand 0 [some (.ref 1), some (zi 6), none] [] (encM I s D) J _
  have hr := nxS_rg (L := L) (s := s) hT
  have hn2 : s.2.2.length < 121 := by omega
  refine rz_aload_n dX4_readOperand_0 rfl ?_
  refine rz_cVI dX4_readOperand_1 kl_RX4_70 hd_1 ⟨_, _, rfl⟩ (c_X4_next X _ I J L hL s D (by first | assumption | omega) (by first | assumption | omega) hT) rfl rfl (Nat.le_of_ble_eq_true rfl) (Nat.le_of_ble_eq_true rfl) ?_
  refine rz_istore_n dX4_readOperand_4 (by decide) rfl ?_
  refine rz_iload_n dX4_readOperand_5 rfl ?_
  refine rz_cSIq dX4_readOperand_6 kl_RX4_80 (c_X4_isDigit X _ (encM I s D) J (nxS (I 2) L s) (by omega)) rfl rfl (Nat.le_of_ble_eq_true rfl) (Nat.le_of_ble_eq_true rfl) ?_
  rintro z6 A6 B6 ⟨⟨rfl, b6⟩ | ⟨rfl, b6⟩, rfl, rfl⟩
  · refine rz_if_eq (t := 19) dX4_readOperand_9 rfl (by omega) (fun q => absurd q (by decide)) (fun _ => ?_)
    refine rz_aload_n dX4_readOperand_12 rfl ?_
    refine rz_cVVq dX4_readOperand_13 kl_RX4_83 hd_1 ⟨_, _, rfl⟩ (c_X4_readNumber X _ I J L hL s D (by first | assumption | omega) (by first | assumption | omega) hT (by first | assumption | omega) (by first | assumption | omega)) rfl rfl (Nat.le_of_ble_eq_true rfl) (Nat.le_of_ble_eq_true rfl) ?_
    rintro _ _ ⟨⟨D13, rfl, k13⟩, rfl⟩
    refine rz_goto (t := 84) dX4_readOperand_16 rfl ?_
    refine rz_vret dX4_readOperand_84 rfl ?_
    have hz : opS (I 2) L 0 s = (nmS (I 2) L 4 0 s) := by
      rw [opS_0, if_pos (by omega)]
    exact ⟨rfl, ⟨_, by rw [hz], by rw [hz]; exact k13⟩, rfl⟩
  · refine rz_if_eq (t := 19) dX4_readOperand_9 rfl (by omega) (fun _ => ?_) (fun q => absurd q (by decide))
    refine rz_iload_n dX4_readOperand_19 rfl ?_
    refine rz_cSIq dX4_readOperand_20 kl_RX4_86 (c_X4_isName X _ (encM I s D) J (nxS (I 2) L s) (by omega)) rfl rfl (Nat.le_of_ble_eq_true rfl) (Nat.le_of_ble_eq_true rfl) ?_
    rintro z20 A20 B20 ⟨⟨rfl, b20⟩ | ⟨rfl, b20⟩, rfl, rfl⟩
    · refine rz_if_eq (t := 45) dX4_readOperand_23 rfl (by omega) (fun q => absurd q (by decide)) (fun _ => ?_)
      refine rz_aload_n dX4_readOperand_26 rfl ?_
      refine rz_dup dX4_readOperand_27 rfl ?_
      refine rz_getI (z := (s.1 : Int)) dX4_readOperand_28 kf_RX4_29 hd_1 rfl (rfl) ?_
      refine rz_iconst dX4_readOperand_31 ?_
      refine rz_iadd dX4_readOperand_32 ?_
      refine rz_putI dX4_readOperand_33 kp_RX4_29 hd_1 rfl ?_
      refine rz_mem (I' := (encM I (adS s) D)) (J' := J) (encM_ad) (rfl) ?_
      have j1 := nxS_ne (T := I 2) (L := L) (s := s) (by omega)
      have a2 : -1 ≤ (adS s).2.1 ∧ (adS s).2.1 ≤ 120 := hf
      have a3 : DOK D (adS s).2.2 := hd
      have a4 : (adS s).2.2.length < 121 := hn2
      refine rz_aload_n dX4_readOperand_36 rfl ?_
      refine rz_iload_n dX4_readOperand_37 rfl ?_
      refine rz_ineg dX4_readOperand_38 ?_
      refine rz_cVVq dX4_readOperand_39 kl_RX4_58 hd_1 ⟨_, _, rfl⟩ (c_X4_emit X _ I J L hL (adS s) D (-(nxS (I 2) L s)) (by first | assumption | omega) (by first | assumption | omega) (by first | assumption | omega)) rfl rfl (Nat.le_of_ble_eq_true rfl) (Nat.le_of_ble_eq_true rfl) ?_
      rintro _ _ ⟨⟨D39, rfl, k39⟩, rfl⟩
      refine rz_goto (t := 84) dX4_readOperand_42 rfl ?_
      refine rz_vret dX4_readOperand_84 rfl ?_
      have hz : opS (I 2) L 0 s = (emS (-(nxS (I 2) L s)) (adS s)) := by
        rw [opS_0, if_neg (by omega), if_pos (by omega)]
      exact ⟨rfl, ⟨_, by rw [hz], by rw [hz]; exact k39⟩, rfl⟩
    · refine rz_if_eq (t := 45) dX4_readOperand_23 rfl (by omega) (fun _ => ?_) (fun q => absurd q (by decide))
      refine rz_iload_n dX4_readOperand_45 rfl ?_
      refine rz_bipush dX4_readOperand_46 (by decide) ?_
      refine rz_icmp_ge (t := 80) dX4_readOperand_48 rfl (by omega) (by omega) (fun _ => ?_) (fun q => absurd q (by decide))
      refine rz_aload_n dX4_readOperand_80 rfl ?_
      refine rz_cVV dX4_readOperand_81 kl_RX4_45 hd_1 ⟨_, _, rfl⟩ (c_X4_fail X _ I J L hL s D (by first | assumption | omega)) rfl rfl (Nat.le_of_ble_eq_true rfl) (Nat.le_of_ble_eq_true rfl) ?_
      refine rz_vret dX4_readOperand_84 rfl ?_
      have hz : opS (I 2) L 0 s = (flS s) := by
        rw [opS_0, if_neg (by omega), if_neg (by omega)]
      exact ⟨rfl, ⟨D, by rw [hz], by rw [hz]; unfold flS; split <;> exact hd⟩, rfl⟩
set_option maxRecDepth 20000 in
set_option maxHeartbeats 400000 in
theorem c_opS {X : pX} {I : IM} {L H r : Nat} {d : Int} (hL : I 1 0 = L ∧ L ≤ 120) (hT : ∀ k : Nat, 0 ≤ I 2 k ∧ I 2 k ≤ 255) (hd6 : 0 ≤ d ∧ d < 6) (ih : RdC X I L (H + 1) mX4_readOperand (d + 1) (opS (I 2) L r)) : RdC X I L (H + 8) mX4_readOperand d (opS (I 2) L (r + 1)) := by
  intro h J s D hs hf hd hn
  show Rz X (h + H + 8) mX4_readOperand 0 [some (.ref 1), some (zi d), none] [] (encM I s D) J _
  have hr := nxS_rg (L := L) (s := s) hT
  have hn2 : s.2.2.length < 121 := by omega
  refine rz_aload_n dX4_readOperand_0 rfl ?_
  refine rz_cVI dX4_readOperand_1 kl_RX4_70 hd_1 ⟨_, _, rfl⟩ (c_X4_next X _ I J L hL s D (by first | assumption | omega) (by first | assumption | omega) hT) rfl rfl (Nat.le_of_ble_eq_true rfl) (Nat.le_of_ble_eq_true rfl) ?_
  refine rz_istore_n dX4_readOperand_4 (by decide) rfl ?_
  refine rz_iload_n dX4_readOperand_5 rfl ?_
  refine rz_cSIq dX4_readOperand_6 kl_RX4_80 (c_X4_isDigit X _ (encM I s D) J (nxS (I 2) L s) (by omega)) rfl rfl (Nat.le_of_ble_eq_true rfl) (Nat.le_of_ble_eq_true rfl) ?_
  rintro z6 A6 B6 ⟨⟨rfl, b6⟩ | ⟨rfl, b6⟩, rfl, rfl⟩
  · refine rz_if_eq (t := 19) dX4_readOperand_9 rfl (by omega) (fun q => absurd q (by decide)) (fun _ => ?_)
    refine rz_aload_n dX4_readOperand_12 rfl ?_
    refine rz_cVVq dX4_readOperand_13 kl_RX4_83 hd_1 ⟨_, _, rfl⟩ (c_X4_readNumber X _ I J L hL s D (by first | assumption | omega) (by first | assumption | omega) hT (by first | assumption | omega) (by first | assumption | omega)) rfl rfl (Nat.le_of_ble_eq_true rfl) (Nat.le_of_ble_eq_true rfl) ?_
    rintro _ _ ⟨⟨D13, rfl, k13⟩, rfl⟩
    refine rz_goto (t := 84) dX4_readOperand_16 rfl ?_
    refine rz_vret dX4_readOperand_84 rfl ?_
    have hz : opS (I 2) L (r + 1) s = (nmS (I 2) L 4 0 s) := by
      rw [opS_s, if_pos (by omega)]
    exact ⟨rfl, ⟨_, by rw [hz], by rw [hz]; exact k13⟩, rfl⟩
  · refine rz_if_eq (t := 19) dX4_readOperand_9 rfl (by omega) (fun _ => ?_) (fun q => absurd q (by decide))
    refine rz_iload_n dX4_readOperand_19 rfl ?_
    refine rz_cSIq dX4_readOperand_20 kl_RX4_86 (c_X4_isName X _ (encM I s D) J (nxS (I 2) L s) (by omega)) rfl rfl (Nat.le_of_ble_eq_true rfl) (Nat.le_of_ble_eq_true rfl) ?_
    rintro z20 A20 B20 ⟨⟨rfl, b20⟩ | ⟨rfl, b20⟩, rfl, rfl⟩
    · refine rz_if_eq (t := 45) dX4_readOperand_23 rfl (by omega) (fun q => absurd q (by decide)) (fun _ => ?_)
      refine rz_aload_n dX4_readOperand_26 rfl ?_
      refine rz_dup dX4_readOperand_27 rfl ?_
      refine rz_getI (z := (s.1 : Int)) dX4_readOperand_28 kf_RX4_29 hd_1 rfl (rfl) ?_
      refine rz_iconst dX4_readOperand_31 ?_
      refine rz_iadd dX4_readOperand_32 ?_
      refine rz_putI dX4_readOperand_33 kp_RX4_29 hd_1 rfl ?_
      refine rz_mem (I' := (encM I (adS s) D)) (J' := J) (encM_ad) (rfl) ?_
      have j1 := nxS_ne (T := I 2) (L := L) (s := s) (by omega)
      have a2 : -1 ≤ (adS s).2.1 ∧ (adS s).2.1 ≤ 120 := hf
      have a3 : DOK D (adS s).2.2 := hd
      have a4 : (adS s).2.2.length < 121 := hn2
      refine rz_aload_n dX4_readOperand_36 rfl ?_
      refine rz_iload_n dX4_readOperand_37 rfl ?_
      refine rz_ineg dX4_readOperand_38 ?_
      refine rz_cVVq dX4_readOperand_39 kl_RX4_58 hd_1 ⟨_, _, rfl⟩ (c_X4_emit X _ I J L hL (adS s) D (-(nxS (I 2) L s)) (by first | assumption | omega) (by first | assumption | omega) (by first | assumption | omega)) rfl rfl (Nat.le_of_ble_eq_true rfl) (Nat.le_of_ble_eq_true rfl) ?_
      rintro _ _ ⟨⟨D39, rfl, k39⟩, rfl⟩
      refine rz_goto (t := 84) dX4_readOperand_42 rfl ?_
      refine rz_vret dX4_readOperand_84 rfl ?_
      have hz : opS (I 2) L (r + 1) s = (emS (-(nxS (I 2) L s)) (adS s)) := by
        rw [opS_s, if_neg (by omega), if_pos (by omega)]
      exact ⟨rfl, ⟨_, by rw [hz], by rw [hz]; exact k39⟩, rfl⟩
    · refine rz_if_eq (t := 45) dX4_readOperand_23 rfl (by omega) (fun _ => ?_) (fun q => absurd q (by decide))
      refine rz_iload_n dX4_readOperand_45 rfl ?_
      refine rz_bipush dX4_readOperand_46 (by decide) ?_
      refine rz_icmp_ge (t := 80) dX4_readOperand_48 rfl (by omega) (by omega) (fun c48 => ?_) (fun c48 => ?_)
      · exfalso; omega
      · refine rz_iload_n dX4_readOperand_51 rfl ?_
        refine rz_bipush dX4_readOperand_52 (by decide) ?_
        refine rz_icmp_eq (t := 69) dX4_readOperand_54 rfl (by omega) (by omega) (fun c54 => ?_) (fun c54 => ?_)
        · refine rz_aload_n dX4_readOperand_69 rfl ?_
          refine rz_iload_n dX4_readOperand_70 rfl ?_
          refine rz_iload_n dX4_readOperand_71 rfl ?_
          refine rz_iconst dX4_readOperand_72 ?_
          refine rz_iadd dX4_readOperand_73 ?_
          refine rz_cVVq dX4_readOperand_74 kl_RX4_89 hd_1 ⟨_, _, rfl⟩ ((show KVq X (h + H + 7) mX4_readOpened [.ref 1, zi (nxS (I 2) L s), zi (d + 1)] (encM I s D) J (LwQ I J (if nxS (I 2) L (eiS (I 2) L (opS (I 2) L r) (adS s)) = 41 then adS (eiS (I 2) L (opS (I 2) L r) (adS s)) else flS (eiS (I 2) L (opS (I 2) L r) (adS s)))) from by rw [c54]; exact c_open40 hL hT (op_gd r) ih h J s D (by have := nxS_ne (T := I 2) (L := L) (s := s) (by omega); omega) hf hd hn)) rfl rfl (Nat.le_of_ble_eq_true rfl) (Nat.le_of_ble_eq_true rfl) ?_
          rintro _ _ ⟨⟨D74, rfl, k74⟩, rfl⟩
          refine rz_goto (t := 84) dX4_readOperand_77 rfl ?_
          refine rz_vret dX4_readOperand_84 rfl ?_
          have hz : opS (I 2) L (r + 1) s = (if nxS (I 2) L (eiS (I 2) L (opS (I 2) L r) (adS s)) = 41 then adS (eiS (I 2) L (opS (I 2) L r) (adS s)) else flS (eiS (I 2) L (opS (I 2) L r) (adS s))) := by
            rw [opS_s, if_neg (by omega), if_neg (by omega), if_pos (by omega)]
          exact ⟨rfl, ⟨_, by rw [hz], by rw [hz]; exact k74⟩, rfl⟩
        · refine rz_iload_n dX4_readOperand_57 rfl ?_
          refine rz_bipush dX4_readOperand_58 (by decide) ?_
          refine rz_icmp_eq (t := 69) dX4_readOperand_60 rfl (by omega) (by omega) (fun c60 => ?_) (fun c60 => ?_)
          · refine rz_aload_n dX4_readOperand_69 rfl ?_
            refine rz_iload_n dX4_readOperand_70 rfl ?_
            refine rz_iload_n dX4_readOperand_71 rfl ?_
            refine rz_iconst dX4_readOperand_72 ?_
            refine rz_iadd dX4_readOperand_73 ?_
            refine rz_cVVq dX4_readOperand_74 kl_RX4_89 hd_1 ⟨_, _, rfl⟩ ((show KVq X (h + H + 7) mX4_readOpened [.ref 1, zi (nxS (I 2) L s), zi (d + 1)] (encM I s D) J (LwQ I J (emS (-33) (opS (I 2) L r (adS s)))) from by rw [c60]; exact c_open33 hL hT (op_gd r) ih h J s D (by have := nxS_ne (T := I 2) (L := L) (s := s) (by omega); omega) hf hd hn)) rfl rfl (Nat.le_of_ble_eq_true rfl) (Nat.le_of_ble_eq_true rfl) ?_
            rintro _ _ ⟨⟨D74, rfl, k74⟩, rfl⟩
            refine rz_goto (t := 84) dX4_readOperand_77 rfl ?_
            refine rz_vret dX4_readOperand_84 rfl ?_
            have hz : opS (I 2) L (r + 1) s = (emS (-33) (opS (I 2) L r (adS s))) := by
              rw [opS_s, if_neg (by omega), if_neg (by omega), if_neg (by omega), if_pos (by omega)]
            exact ⟨rfl, ⟨_, by rw [hz], by rw [hz]; exact k74⟩, rfl⟩
          · refine rz_iload_n dX4_readOperand_63 rfl ?_
            refine rz_bipush dX4_readOperand_64 (by decide) ?_
            refine rz_icmp_ne (t := 80) dX4_readOperand_66 rfl (by omega) (by omega) (fun c66 => ?_) (fun c66 => ?_)
            · refine rz_aload_n dX4_readOperand_80 rfl ?_
              refine rz_cVV dX4_readOperand_81 kl_RX4_45 hd_1 ⟨_, _, rfl⟩ (c_X4_fail X _ I J L hL s D (by first | assumption | omega)) rfl rfl (Nat.le_of_ble_eq_true rfl) (Nat.le_of_ble_eq_true rfl) ?_
              refine rz_vret dX4_readOperand_84 rfl ?_
              have hz : opS (I 2) L (r + 1) s = (flS s) := by
                rw [opS_s, if_neg (by omega), if_neg (by omega), if_neg (by omega), if_neg (by omega), if_neg (by omega)]
              exact ⟨rfl, ⟨D, by rw [hz], by rw [hz]; unfold flS; split <;> exact hd⟩, rfl⟩
            · refine rz_aload_n dX4_readOperand_69 rfl ?_
              refine rz_iload_n dX4_readOperand_70 rfl ?_
              refine rz_iload_n dX4_readOperand_71 rfl ?_
              refine rz_iconst dX4_readOperand_72 ?_
              refine rz_iadd dX4_readOperand_73 ?_
              refine rz_cVVq dX4_readOperand_74 kl_RX4_89 hd_1 ⟨_, _, rfl⟩ ((show KVq X (h + H + 7) mX4_readOpened [.ref 1, zi (nxS (I 2) L s), zi (d + 1)] (encM I s D) J (LwQ I J (emS (-1) (opS (I 2) L r (adS s)))) from by rw [c66]; exact c_open45 hL hT (op_gd r) ih h J s D (by have := nxS_ne (T := I 2) (L := L) (s := s) (by omega); omega) hf hd hn)) rfl rfl (Nat.le_of_ble_eq_true rfl) (Nat.le_of_ble_eq_true rfl) ?_
              rintro _ _ ⟨⟨D74, rfl, k74⟩, rfl⟩
              refine rz_goto (t := 84) dX4_readOperand_77 rfl ?_
              refine rz_vret dX4_readOperand_84 rfl ?_
              have hz : opS (I 2) L (r + 1) s = (emS (-1) (opS (I 2) L r (adS s))) := by
                rw [opS_s, if_neg (by omega), if_neg (by omega), if_neg (by omega), if_neg (by omega), if_pos (by omega)]
              exact ⟨rfl, ⟨_, by rw [hz], by rw [hz]; exact k74⟩, rfl⟩
theorem c_op {X : pX} {I : IM} {L : Nat} (hL : I 1 0 = L ∧ L ≤ 120) (hT : ∀ k : Nat, 0 ≤ I 2 k ∧ I 2 k ≤ 255) : RdC X I L 45 mX4_readOperand 0 (opS (I 2) L 6) := by
  have h0 := c_op0 (X := X) hL hT
  have h1 := c_opS (H := 2) (d := 5) hL hT (by omega) h0
  have h2 := c_opS (H := 9) (d := 4) hL hT (by omega) h1
  have h3 := c_opS (H := 16) (d := 3) hL hT (by omega) h2
  have h4 := c_opS (H := 23) (d := 2) hL hT (by omega) h3
  have h5 := c_opS (H := 30) (d := 1) hL hT (by omega) h4
  exact c_opS (H := 37) (d := 0) hL hT (by omega) h5
theorem c_ei {X : pX} {I : IM} {L : Nat} (hL : I 1 0 = L ∧ L ≤ 120) (hT : ∀ k : Nat, 0 ≤ I 2 k ∧ I 2 k ≤ 255) : RdC X I L 50 mX4_readEither 0 (eiS (I 2) L (opS (I 2) L 6)) := c_X4_expr (H := 44) hL hT (op_gd 6) (c_op hL hT)
