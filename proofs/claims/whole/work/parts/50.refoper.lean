/-! the reference reads: comparisons, operands -/
theorem cmp_out {T : Nat → Int} {L : Nat} {op : PS → PS} {s t : PS} {o o1 : Int} {E W : Nat → Int} (h : RfR T L (op s) s o t o1 E W) (hn : 0 ≤ t.2.1 ∨ cmpC (nxS T L t) = false) : RfR T L (coSx T L op s) s o t o1 E W := by
  obtain ⟨h1, h2, h3⟩ := h
  refine ⟨h1, h2, ?_⟩
  rcases h3 with ⟨e1, e2, e3, e4, e5⟩ | ⟨e1, e2, e3, e4⟩
  · rcases hn with e | e
    · exact absurd e (by omega)
    · refine Or.inl ⟨e1, ?_, e3, e4, e5⟩
      rw [e2] at e ⊢
      exact (ls_no e).symm
  · exact Or.inr ⟨e1, e2, RelS_ls rfl (fun _ => cmpC_d) e1 e3, e4⟩
theorem cmp_step {T : Nat → Int} {L : Nat} {op : PS → PS} {s t s5 : PS} {o o1 o5 : Int} {E W E5 W5 : Nat → Int} (h : RfR T L (op s) s o t o1 E W) (hf : t.2.1 < 0) (hn : cmpC (nxS T L t) = true) (q : RfR T L (op (adS t)) (adS t) o s5 o5 E5 W5) :
    RfR T L (coSx T L op s) s o (apS (-(nxS T L t)) s5) o5 (up1 E5 (130 + s5.2.2.length) (actC (-(nxS T L t)))) (up1 W5 (130 + s5.2.2.length) (withC (-(nxS T L t)))) := by
  obtain ⟨h1, h2, -⟩ := id h
  obtain ⟨e1, e2, e3, e4, e5⟩ := RfR_ok h hf
  obtain ⟨q1, q2, q3⟩ := q
  have e7 : coSx T L op s = emS (-(nxS T L t)) (op (adS t)) := by rw [e2] at hn ⊢; exact if_pos hn
  have a1 : (adS t).1 = t.1 + 1 := rfl
  have a2 : (adS t).2.2 = t.2.2 := rfl
  rw [a1, a2] at q3
  rw [a1] at q2
  have l1 : (apS (-(nxS T L t)) s5).2.2.length = s5.2.2.length + 1 := by simp [apS]
  refine ⟨q1, show s.1 ≤ s5.1 by omega, ?_⟩
  rcases q3 with ⟨f1, f2, f3, f4, f5⟩ | ⟨f1, f2, f3, f4⟩
  · refine Or.inl ⟨f1, ?_, f3, EOK_ap f4, ?_⟩
    · rw [apS_em (by omega), f2, e7]
    · rw [l1]; show s5.2.2.length + 1 + s.1 ≤ s5.1 + s.2.2.length; omega
  · refine Or.inr ⟨f1, f2, ?_, ?_⟩
    · rw [e7]; exact RelS_em f3
    · rw [l1]; show s5.2.2.length + 1 + s.1 ≤ s5.1 + s.2.2.length + 1; omega
set_option maxRecDepth 20000 in
set_option maxHeartbeats 400000 in
theorem c_X12_compared {X : pX} {I : IM} {T : Nat → Int} {L H : Nat} {o : Int} {op : PS → PS} (hL : I 81 17 = L ∧ L ≤ 120) (hTR : ∀ k, k < L → I 94 k = sg (T k)) (hT : ∀ k, 0 ≤ T k ∧ T k ≤ 255) (hop : RfC X I T L (H + 1) mX12_sum o op) : RfC X I T L (H + 2) mX12_compared o (coSx T L op) := by
  intro h J s E W hs hf hE hn hw
  show Rz X (h + H + 2) mX12_compared 0 [some (.ref 81), none] [] (encR I s o E W) J _
  refine rz_aload_n dX12_compared_0 rfl ?_
  refine rz_cVVq dX12_compared_1 kl_RX12_225 hd_81 ⟨_, _, rfl⟩ (hop _ J s E W (by first | assumption | omega) (by first | assumption | omega) (by first | assumption | omega) (by first | assumption | omega) (by assumption)) rfl rfl (Nat.le_of_ble_eq_true rfl) (Nat.le_of_ble_eq_true rfl) ?_
  rintro _ _ ⟨⟨s1, o1, E1, W1, rfl, w1, k1⟩, rfl⟩
  have r1 := RfR_rg k1
  have hr := nxS_rg (L := L) (s := s1) hT
  have hlr := lkR_rg (L := L) (s := s1) hT
  refine rz_aload_n dX12_compared_4 rfl ?_
  refine rz_cVI dX12_compared_5 kl_RX12_197 hd_81 ⟨_, _, rfl⟩ (c_X12_look hL hTR (by omega)) rfl rfl (Nat.le_of_ble_eq_true rfl) (Nat.le_of_ble_eq_true rfl) ?_
  refine rz_istore_n dX12_compared_8 (by decide) rfl ?_
  refine rz_aload_n dX12_compared_9 rfl ?_
  refine rz_getI (z := s1.2.1) dX12_compared_10 kf_RX12_185 hd_81 rfl (rfl) ?_
  refine rz_if_ge (t := 34) dX12_compared_13 rfl (by omega) (fun c13 => ?_) (fun c13 => ?_)
  · refine rz_vret dX12_compared_34 rfl ?_
    exact ⟨rfl, ⟨_, _, _, _, rfl, w1, cmp_out k1 (by first | (left; assumption) | (right; exact cmpC_f (by omega)))⟩, rfl⟩
  · have hk : lkR T L s1 = sg (nxS T L s1) := lkR_nx (by omega)
    have hg := sg_c (nxS T L s1)
    obtain ⟨u1, -, u2, u3, u4⟩ := RfR_ok k1 c13
    subst u2
    refine rz_iload_n dX12_compared_16 rfl ?_
    refine rz_bipush dX12_compared_17 (by decide) ?_
    refine rz_icmp_eq (t := 35) dX12_compared_19 rfl (by omega) (by omega) (fun c19 => ?_) (fun c19 => ?_)
    · refine rz_aload_n dX12_compared_35 rfl ?_
      refine rz_dup dX12_compared_36 rfl ?_
      refine rz_getI (z := (s1.1 : Int)) dX12_compared_37 kf_RX12_182 hd_81 rfl (rfl) ?_
      refine rz_iconst dX12_compared_40 ?_
      refine rz_iadd dX12_compared_41 ?_
      refine rz_putI dX12_compared_42 kp_RX12_182 hd_81 rfl ?_
      refine rz_mem (I' := (encR I (adS s1) o1 E1 W1)) (J' := J) (encR_ad) (rfl) ?_
      have j1 := nxS_ne (T := T) (L := L) (s := s1) (by omega)
      have hPn : cmpC (nxS T L s1) = true := cmpC_t (by omega)
      have a1 : (adS s1).1 ≤ L := show s1.1 + 1 ≤ L by omega
      have a2 : (adS s1).2.1 = -1 := u1
      have a3 : EOK E1 W1 (adS s1).2.2 := u3
      have a4 : (adS s1).2.2.length ≤ (adS s1).1 := show s1.2.2.length ≤ s1.1 + 1 by omega
      have a5 : (adS s1).1 = s1.1 + 1 := rfl
      have a6 : (adS s1).2.2.length = s1.2.2.length := rfl
      have hact := act_sign (c := nxS T L s1) (by omega)
      refine rz_aload_n dX12_compared_45 rfl ?_
      refine rz_cVVq dX12_compared_46 kl_RX12_225 hd_81 ⟨_, _, rfl⟩ (hop _ J (adS s1) E1 W1 (by first | assumption | omega) (by first | assumption | omega) (by first | assumption | omega) (by first | assumption | omega) (by assumption)) rfl rfl (Nat.le_of_ble_eq_true rfl) (Nat.le_of_ble_eq_true rfl) ?_
      rintro _ _ ⟨⟨s46, o46, E46, W46, rfl, w46, k46⟩, rfl⟩
      have r46 := RfR_rg k46
      refine rz_aload_n dX12_compared_49 rfl ?_
      refine rz_iload_n dX12_compared_50 rfl ?_
      refine rz_iconst dX12_compared_51 ?_
      refine rz_cVV dX12_compared_52 kl_RX12_201 hd_81 ⟨_, _, rfl⟩ (c_X12_addStep (c := (-(nxS T L s1))) hL (by omega) (by omega) (by omega) (by omega)) rfl rfl (Nat.le_of_ble_eq_true rfl) (Nat.le_of_ble_eq_true rfl) ?_
      refine rz_vret dX12_compared_55 rfl ?_
      exact ⟨rfl, ⟨_, _, _, _, rfl, FrE_ap w46, cmp_step k1 c13 hPn k46⟩, rfl⟩
    · refine rz_iload_n dX12_compared_22 rfl ?_
      refine rz_bipush dX12_compared_23 (by decide) ?_
      refine rz_icmp_eq (t := 35) dX12_compared_25 rfl (by omega) (by omega) (fun c25 => ?_) (fun c25 => ?_)
      · refine rz_aload_n dX12_compared_35 rfl ?_
        refine rz_dup dX12_compared_36 rfl ?_
        refine rz_getI (z := (s1.1 : Int)) dX12_compared_37 kf_RX12_182 hd_81 rfl (rfl) ?_
        refine rz_iconst dX12_compared_40 ?_
        refine rz_iadd dX12_compared_41 ?_
        refine rz_putI dX12_compared_42 kp_RX12_182 hd_81 rfl ?_
        refine rz_mem (I' := (encR I (adS s1) o1 E1 W1)) (J' := J) (encR_ad) (rfl) ?_
        have j1 := nxS_ne (T := T) (L := L) (s := s1) (by omega)
        have hPn : cmpC (nxS T L s1) = true := cmpC_t (by omega)
        have a1 : (adS s1).1 ≤ L := show s1.1 + 1 ≤ L by omega
        have a2 : (adS s1).2.1 = -1 := u1
        have a3 : EOK E1 W1 (adS s1).2.2 := u3
        have a4 : (adS s1).2.2.length ≤ (adS s1).1 := show s1.2.2.length ≤ s1.1 + 1 by omega
        have a5 : (adS s1).1 = s1.1 + 1 := rfl
        have a6 : (adS s1).2.2.length = s1.2.2.length := rfl
        have hact := act_sign (c := nxS T L s1) (by omega)
        refine rz_aload_n dX12_compared_45 rfl ?_
        refine rz_cVVq dX12_compared_46 kl_RX12_225 hd_81 ⟨_, _, rfl⟩ (hop _ J (adS s1) E1 W1 (by first | assumption | omega) (by first | assumption | omega) (by first | assumption | omega) (by first | assumption | omega) (by assumption)) rfl rfl (Nat.le_of_ble_eq_true rfl) (Nat.le_of_ble_eq_true rfl) ?_
        rintro _ _ ⟨⟨s46, o46, E46, W46, rfl, w46, k46⟩, rfl⟩
        have r46 := RfR_rg k46
        refine rz_aload_n dX12_compared_49 rfl ?_
        refine rz_iload_n dX12_compared_50 rfl ?_
        refine rz_iconst dX12_compared_51 ?_
        refine rz_cVV dX12_compared_52 kl_RX12_201 hd_81 ⟨_, _, rfl⟩ (c_X12_addStep (c := (-(nxS T L s1))) hL (by omega) (by omega) (by omega) (by omega)) rfl rfl (Nat.le_of_ble_eq_true rfl) (Nat.le_of_ble_eq_true rfl) ?_
        refine rz_vret dX12_compared_55 rfl ?_
        exact ⟨rfl, ⟨_, _, _, _, rfl, FrE_ap w46, cmp_step k1 c13 hPn k46⟩, rfl⟩
      · refine rz_iload_n dX12_compared_28 rfl ?_
        refine rz_bipush dX12_compared_29 (by decide) ?_
        refine rz_icmp_eq (t := 35) dX12_compared_31 rfl (by omega) (by omega) (fun c31 => ?_) (fun c31 => ?_)
        · refine rz_aload_n dX12_compared_35 rfl ?_
          refine rz_dup dX12_compared_36 rfl ?_
          refine rz_getI (z := (s1.1 : Int)) dX12_compared_37 kf_RX12_182 hd_81 rfl (rfl) ?_
          refine rz_iconst dX12_compared_40 ?_
          refine rz_iadd dX12_compared_41 ?_
          refine rz_putI dX12_compared_42 kp_RX12_182 hd_81 rfl ?_
          refine rz_mem (I' := (encR I (adS s1) o1 E1 W1)) (J' := J) (encR_ad) (rfl) ?_
          have j1 := nxS_ne (T := T) (L := L) (s := s1) (by omega)
          have hPn : cmpC (nxS T L s1) = true := cmpC_t (by omega)
          have a1 : (adS s1).1 ≤ L := show s1.1 + 1 ≤ L by omega
          have a2 : (adS s1).2.1 = -1 := u1
          have a3 : EOK E1 W1 (adS s1).2.2 := u3
          have a4 : (adS s1).2.2.length ≤ (adS s1).1 := show s1.2.2.length ≤ s1.1 + 1 by omega
          have a5 : (adS s1).1 = s1.1 + 1 := rfl
          have a6 : (adS s1).2.2.length = s1.2.2.length := rfl
          have hact := act_sign (c := nxS T L s1) (by omega)
          refine rz_aload_n dX12_compared_45 rfl ?_
          refine rz_cVVq dX12_compared_46 kl_RX12_225 hd_81 ⟨_, _, rfl⟩ (hop _ J (adS s1) E1 W1 (by first | assumption | omega) (by first | assumption | omega) (by first | assumption | omega) (by first | assumption | omega) (by assumption)) rfl rfl (Nat.le_of_ble_eq_true rfl) (Nat.le_of_ble_eq_true rfl) ?_
          rintro _ _ ⟨⟨s46, o46, E46, W46, rfl, w46, k46⟩, rfl⟩
          have r46 := RfR_rg k46
          refine rz_aload_n dX12_compared_49 rfl ?_
          refine rz_iload_n dX12_compared_50 rfl ?_
          refine rz_iconst dX12_compared_51 ?_
          refine rz_cVV dX12_compared_52 kl_RX12_201 hd_81 ⟨_, _, rfl⟩ (c_X12_addStep (c := (-(nxS T L s1))) hL (by omega) (by omega) (by omega) (by omega)) rfl rfl (Nat.le_of_ble_eq_true rfl) (Nat.le_of_ble_eq_true rfl) ?_
          refine rz_vret dX12_compared_55 rfl ?_
          exact ⟨rfl, ⟨_, _, _, _, rfl, FrE_ap w46, cmp_step k1 c13 hPn k46⟩, rfl⟩
        · refine rz_vret dX12_compared_34 rfl ?_
          exact ⟨rfl, ⟨_, _, _, _, rfl, w1, cmp_out k1 (by first | (left; assumption) | (right; exact cmpC_f (by omega)))⟩, rfl⟩
theorem c_X12_expr {X : pX} {I : IM} {T : Nat → Int} {L H : Nat} {o : Int} {op : PS → PS} (hL : I 81 17 = L ∧ L ≤ 120) (hTR : ∀ k, k < L → I 94 k = sg (T k)) (hT : ∀ k, 0 ≤ T k ∧ T k ≤ 255) (hop : RfC X I T L (H + 1) mX12_operand o op) : RfC X I T L (H + 6) mX12_either o (eiS T L op) :=
  c_X12_either (H := H + 4) hL hTR hT (c_X12_both (H := H + 3) hL hTR hT (c_X12_compared (H := H + 2) hL hTR hT (c_X12_sum (H := H + 1) hL hTR hT (c_X12_product hL hTR hT hop))))
theorem nm_c {n : Int} (h : 0 ≤ nmZ n) : namC n ∧ nmZ n = withC (-n) ∧ actC (-n) = 2 := by
  unfold nmZ at h ⊢
  by_cases h1 : n = 97
  · subst h1; decide
  · by_cases h2 : n = 98
    · subst h2; decide
    · by_cases h3 : n = 119
      · subst h3; decide
      · by_cases h4 : n = 116
        · subst h4; decide
        · by_cases h5 : n = 118
          · subst h5; decide
          · simp [h1, h2, h3, h4, h5] at h
theorem nm_n {n : Int} (h : nmZ n < 0) : ¬ namC n := by
  rintro (rfl | rfl | rfl | rfl | rfl) <;> exact absurd h (by decide)
theorem nmZ_rg (n : Int) : -1 ≤ nmZ n ∧ nmZ n ≤ 4 := by
  unfold nmZ
  repeat' split
  all_goals decide
theorem op_nam {T : Nat → Int} {L r : Nat} {s : PS} (h : namC (nxS T L s)) : opS T L r s = emS (-(nxS T L s)) (adS s) := by
  cases r with
  | zero => rw [opS_0, if_neg (by omega), if_pos h]
  | succ r => rw [opS_s, if_neg (by omega), if_pos h]
theorem op_fig {T : Nat → Int} {L r : Nat} {s : PS} (h : ¬ namC (nxS T L s)) (h1 : nxS T L s ≠ 40) (h2 : nxS T L s ≠ 33) (h3 : nxS T L s ≠ 45) : opS T L r s = figS T L s := by
  unfold figS
  cases r with
  | zero => rw [opS_0, if_neg h]
  | succ r => rw [opS_s, if_neg h, if_neg h1, if_neg h2, if_neg h3]
theorem op_0 {T : Nat → Int} {L : Nat} {s : PS} (h : nxS T L s = 40 ∨ nxS T L s = 33 ∨ nxS T L s = 45) : opS T L 0 s = flS s := by rw [opS_0, if_neg (by omega), if_neg (by omega)]
theorem op_33 {T : Nat → Int} {L r : Nat} {s : PS} (h : nxS T L s = 33) : opS T L (r + 1) s = emS (-33) (opS T L r (adS s)) := by rw [opS_s, if_neg (by omega), if_neg (by omega), if_neg (by omega), if_pos h]
theorem op_45 {T : Nat → Int} {L r : Nat} {s : PS} (h : nxS T L s = 45) : opS T L (r + 1) s = emS (-1) (opS T L r (adS s)) := by rw [opS_s, if_neg (by omega), if_neg (by omega), if_neg (by omega), if_neg (by omega), if_pos h]
abbrev parS (T : Nat → Int) (L : Nat) (e : PS) : PS := if nxS T L e = 41 then adS e else flS e
theorem op_40 {T : Nat → Int} {L r : Nat} {s : PS} (h : nxS T L s = 40) : opS T L (r + 1) s = parS T L (eiS T L (opS T L r) (adS s)) := by rw [opS_s, if_neg (by omega), if_neg (by omega), if_pos h]
theorem R_nam {T : Nat → Int} {L r : Nat} {s : PS} {o : Int} {E W : Nat → Int} (hs : s.1 < L) (hf : s.2.1 = -1) (hE : EOK E W s.2.2) (h : namC (nxS T L s)) : RfR T L (opS T L r s) s o (adS (apS (-(nxS T L s)) s)) o (up1 E (130 + s.2.2.length) (actC (-(nxS T L s)))) (up1 W (130 + s.2.2.length) (withC (-(nxS T L s)))) := by
  have l1 : (adS (apS (-(nxS T L s)) s)).2.2.length = s.2.2.length + 1 := by simp [apS, adS]
  refine ⟨show s.1 + 1 ≤ L by omega, show s.1 ≤ s.1 + 1 by omega, Or.inl ⟨hf, ?_, rfl, EOK_ap hE, ?_⟩⟩
  · rw [op_nam h, ← apS_em (show (adS s).2.1 < 0 by show s.2.1 < 0; omega)]; rfl
  · rw [l1]; show s.2.2.length + 1 + s.1 ≤ s.1 + 1 + s.2.2.length; omega
theorem R_fl {T : Nat → Int} {L : Nat} {s : PS} {o : Int} {E W : Nat → Int} {c : PS} (hs : s.1 ≤ L) (hf : s.2.1 = -1) (h : c = flS s) : RfR T L c s o (flS s) o E W := by
  have e4 : flS s = (s.1, (s.1 : Int), s.2.2) := if_pos (by omega)
  rw [h, e4]
  exact ⟨hs, Nat.le_refl _, Or.inr ⟨show (0 : Int) ≤ (s.1 : Int) by omega, show (s.1 : Int) ≤ L by omega, Or.inl rfl, show s.2.2.length + s.1 ≤ s.1 + s.2.2.length + 1 by omega⟩⟩
theorem R_un {T : Nat → Int} {L : Nat} {c s s5 : PS} {o o5 x : Int} {E5 W5 : Nat → Int} (q : RfR T L c (adS s) (o + 1) s5 o5 E5 W5) : RfR T L (emS x c) s o (apS x s5) (o5 - 1) (up1 E5 (130 + s5.2.2.length) (actC x)) (up1 W5 (130 + s5.2.2.length) (withC x)) := by
  obtain ⟨q1, q2, q3⟩ := q
  have a1 : (adS s).1 = s.1 + 1 := rfl
  have a2 : (adS s).2.2 = s.2.2 := rfl
  rw [a1, a2] at q3
  rw [a1] at q2
  have l1 : (apS x s5).2.2.length = s5.2.2.length + 1 := by simp [apS]
  refine ⟨q1, show s.1 ≤ s5.1 by omega, ?_⟩
  rcases q3 with ⟨f1, f2, f3, f4, f5⟩ | ⟨f1, f2, f3, f4⟩
  · refine Or.inl ⟨f1, by rw [apS_em (by omega), f2], by omega, EOK_ap f4, ?_⟩
    rw [l1]; show s5.2.2.length + 1 + s.1 ≤ s5.1 + s.2.2.length; omega
  · refine Or.inr ⟨f1, f2, RelS_em f3, ?_⟩
    rw [l1]; show s5.2.2.length + 1 + s.1 ≤ s5.1 + s.2.2.length + 1; omega
theorem R_pf {T : Nat → Int} {L : Nat} {e s s5 : PS} {o o5 : Int} {E5 W5 : Nat → Int} (q : RfR T L e (adS s) (o + 1) s5 o5 E5 W5) (hf : 0 ≤ s5.2.1) : RfR T L (parS T L e) s o s5 o5 E5 W5 := by
  obtain ⟨f1, f2, f3, f4⟩ := RfR_no q hf
  obtain ⟨q1, q2, -⟩ := q
  have a1 : (adS s).1 = s.1 + 1 := rfl
  have a2 : (adS s).2.2 = s.2.2 := rfl
  rw [a1, a2] at f4
  rw [a1] at q2
  refine ⟨q1, by omega, Or.inr ⟨f1, f2, ?_, by omega⟩⟩
  unfold parS
  rcases f3 with g | ⟨g1, g2, g3⟩
  · rw [if_neg (by rw [nxS_f (by omega)]; decide), flS_f (by omega)]; exact Or.inl g
  · rw [if_neg (by omega)]
    exact Or.inl (by unfold flS; rw [if_pos g1]; exact g2)
theorem R_pn {T : Nat → Int} {L : Nat} {e s s5 : PS} {o o5 : Int} {E5 W5 : Nat → Int} (q : RfR T L e (adS s) (o + 1) s5 o5 E5 W5) (hf : s5.2.1 < 0) (hn : nxS T L s5 ≠ 41) : RfR T L (parS T L e) s o (flS s5) o5 E5 W5 := by
  obtain ⟨f1, f2, f3, f4, f5⟩ := RfR_ok q hf
  obtain ⟨q1, q2, -⟩ := q
  have a1 : (adS s).1 = s.1 + 1 := rfl
  have a2 : (adS s).2.2 = s.2.2 := rfl
  rw [a1, a2] at f5
  rw [a1] at q2
  unfold parS
  rw [← f2, if_neg hn]
  have e4 : flS s5 = (s5.1, (s5.1 : Int), s5.2.2) := if_pos (by omega)
  rw [e4]
  exact ⟨q1, show s.1 ≤ s5.1 by omega, Or.inr ⟨show (0 : Int) ≤ (s5.1 : Int) by omega, show (s5.1 : Int) ≤ L by omega, Or.inl rfl, show s5.2.2.length + s.1 ≤ s5.1 + s.2.2.length + 1 by omega⟩⟩
theorem R_py {T : Nat → Int} {L : Nat} {e s s5 : PS} {o o5 : Int} {E5 W5 : Nat → Int} (q : RfR T L e (adS s) (o + 1) s5 o5 E5 W5) (hf : s5.2.1 < 0) (hn : nxS T L s5 = 41) : RfR T L (parS T L e) s o (adS s5) (o5 - 1) E5 W5 := by
  obtain ⟨f1, f2, f3, f4, f5⟩ := RfR_ok q hf
  obtain ⟨q1, q2, -⟩ := q
  have a1 : (adS s).1 = s.1 + 1 := rfl
  have a2 : (adS s).2.2 = s.2.2 := rfl
  rw [a1, a2] at f5
  rw [a1] at q2
  obtain ⟨j1, j2, -⟩ := nxS_ne (show nxS T L s5 ≠ -1 by omega)
  unfold parS
  rw [← f2, if_pos hn]
  exact ⟨show s5.1 + 1 ≤ L by omega, show s.1 ≤ s5.1 + 1 by omega, Or.inl ⟨f1, rfl, by omega, f4, show s5.2.2.length + s.1 ≤ s5.1 + 1 + s.2.2.length by omega⟩⟩
set_option maxRecDepth 20000 in
set_option maxHeartbeats 400000 in
theorem c_rop0 {X : pX} {I : IM} {T : Nat → Int} {L : Nat} (hL : I 81 17 = L ∧ L ≤ 120) (hTR : ∀ k, k < L → I 94 k = sg (T k)) (hT : ∀ k, 0 ≤ T k ∧ T k ≤ 255) : RfC X I T L 3 mX12_operand 6 (opS T L 0) := by
  intro h J s E W hs hf hE hn hw
  show Rz X (h + 3) mX12_operand 0 [some (.ref 81), none] [] (encR I s 6 E W) J _
  have hr := nxS_rg (L := L) (s := s) hT
  have hk : lkR T L s = sg (nxS T L s) := lkR_nx (by omega)
  have hg := sg_c (nxS T L s)
  have hz := nmZ_rg (lkR T L s)
  refine rz_aload_n dX12_operand_0 rfl ?_
  refine rz_cVI dX12_operand_1 kl_RX12_197 hd_81 ⟨_, _, rfl⟩ (c_X12_look hL hTR (by omega)) rfl rfl (Nat.le_of_ble_eq_true rfl) (Nat.le_of_ble_eq_true rfl) ?_
  refine rz_istore_n dX12_operand_4 (by decide) rfl ?_
  refine rz_iload_n dX12_operand_5 rfl ?_
  refine rz_cSI dX12_operand_6 kl_RX12_205 (c_X12_nameOf X _ (encR I s 6 E W) J (lkR T L s) (by omega)) rfl rfl (Nat.le_of_ble_eq_true rfl) (Nat.le_of_ble_eq_true rfl) ?_
  refine rz_if_lt (t := 34) dX12_operand_9 rfl (by omega) (fun c9 => ?_) (fun c9 => ?_)
  · have hnn : ¬ namC (nxS T L s) := by
      intro q
      have hb : lkR T L s = (nxS T L s) := by omega
      rw [hb] at c9
      exact nm_n c9 q
    refine rz_iload_n dX12_operand_34 rfl ?_
    refine rz_bipush dX12_operand_35 (by decide) ?_
    refine rz_icmp_eq (t := 46) dX12_operand_37 rfl (by omega) (by omega) (fun c37 => ?_) (fun c37 => ?_)
    · refine rz_aload_n dX12_operand_46 rfl ?_
      refine rz_cVIq dX12_operand_47 kl_RX12_209 hd_81 ⟨_, _, rfl⟩ (c_X12_opens hL hs hf (by omega)) rfl rfl (Nat.le_of_ble_eq_true rfl) (Nat.le_of_ble_eq_true rfl) ?_
      rintro z47 A47 _ ⟨⟨rfl, b47, rfl⟩ | ⟨rfl, b47, rfl⟩, rfl⟩
      · exact absurd rfl b47
      · refine rz_if_ne (t := 54) dX12_operand_50 rfl (by omega) (fun q => absurd q (by decide)) (fun _ => ?_)
        refine rz_vret dX12_operand_53 rfl ?_
        exact ⟨rfl, ⟨_, _, _, _, rfl, hw, R_fl hs hf (op_0 (by omega))⟩, rfl⟩
    · refine rz_iload_n dX12_operand_40 rfl ?_
      refine rz_bipush dX12_operand_41 (by decide) ?_
      refine rz_icmp_ne (t := 87) dX12_operand_43 rfl (by omega) (by omega) (fun c43 => ?_) (fun c43 => ?_)
      · refine rz_iload_n dX12_operand_87 rfl ?_
        refine rz_bipush dX12_operand_88 (by decide) ?_
        refine rz_icmp_ne (t := 150) dX12_operand_90 rfl (by omega) (by omega) (fun c90 => ?_) (fun c90 => ?_)
        · refine rz_aload_n dX12_operand_150 rfl ?_
          refine rz_cVVq dX12_operand_151 kl_RX12_219 hd_81 ⟨_, _, rfl⟩ (c_X12_figure hL hTR hT hs hf hE (by omega) hw) rfl rfl (Nat.le_of_ble_eq_true rfl) (Nat.le_of_ble_eq_true rfl) ?_
          rintro _ _ ⟨⟨s151, o151, E151, W151, rfl, w151, k151⟩, rfl⟩
          refine rz_vret dX12_operand_154 rfl ?_
          refine ⟨rfl, ⟨_, _, _, _, rfl, w151, ?_⟩, rfl⟩
          rw [op_fig hnn (by omega) (by omega) (by omega)]
          exact k151
        · refine rz_aload_n dX12_operand_93 rfl ?_
          refine rz_cVIq dX12_operand_94 kl_RX12_209 hd_81 ⟨_, _, rfl⟩ (c_X12_opens hL hs hf (by omega)) rfl rfl (Nat.le_of_ble_eq_true rfl) (Nat.le_of_ble_eq_true rfl) ?_
          rintro z94 A94 _ ⟨⟨rfl, b94, rfl⟩ | ⟨rfl, b94, rfl⟩, rfl⟩
          · exact absurd rfl b94
          · refine rz_if_ne (t := 101) dX12_operand_97 rfl (by omega) (fun q => absurd q (by decide)) (fun _ => ?_)
            refine rz_vret dX12_operand_100 rfl ?_
            exact ⟨rfl, ⟨_, _, _, _, rfl, hw, R_fl hs hf (op_0 (by omega))⟩, rfl⟩
      · refine rz_aload_n dX12_operand_46 rfl ?_
        refine rz_cVIq dX12_operand_47 kl_RX12_209 hd_81 ⟨_, _, rfl⟩ (c_X12_opens hL hs hf (by omega)) rfl rfl (Nat.le_of_ble_eq_true rfl) (Nat.le_of_ble_eq_true rfl) ?_
        rintro z47 A47 _ ⟨⟨rfl, b47, rfl⟩ | ⟨rfl, b47, rfl⟩, rfl⟩
        · exact absurd rfl b47
        · refine rz_if_ne (t := 54) dX12_operand_50 rfl (by omega) (fun q => absurd q (by decide)) (fun _ => ?_)
          refine rz_vret dX12_operand_53 rfl ?_
          exact ⟨rfl, ⟨_, _, _, _, rfl, hw, R_fl hs hf (op_0 (by omega))⟩, rfl⟩
  · have hnc := nm_c c9
    have hb : lkR T L s = (nxS T L s) := by omega
    rw [hb] at hnc
    have j1 := nxS_ne (T := T) (L := L) (s := s) (by omega)
    refine rz_aload_n dX12_operand_12 rfl ?_
    refine rz_iconst dX12_operand_13 ?_
    refine rz_iload_n dX12_operand_14 rfl ?_
    refine rz_cSI dX12_operand_15 kl_RX12_205 (c_X12_nameOf X _ (encR I s 6 E W) J (lkR T L s) (by omega)) rfl rfl (Nat.le_of_ble_eq_true rfl) (Nat.le_of_ble_eq_true rfl) ?_
    refine rz_cVV dX12_operand_18 kl_RX12_201 hd_81 ⟨_, _, rfl⟩ (c_X12_addStep (c := (-(nxS T L s))) hL (by omega) (by rw [hb]; exact hnc.2.1) (by omega) (by omega)) rfl rfl (Nat.le_of_ble_eq_true rfl) (Nat.le_of_ble_eq_true rfl) ?_
    refine rz_aload_n dX12_operand_21 rfl ?_
    refine rz_dup dX12_operand_22 rfl ?_
    refine rz_getI (z := ((apS (-(nxS T L s)) s).1 : Int)) dX12_operand_23 kf_RX12_182 hd_81 rfl (rfl) ?_
    refine rz_iconst dX12_operand_26 ?_
    refine rz_iadd dX12_operand_27 ?_
    refine rz_putI dX12_operand_28 kp_RX12_182 hd_81 rfl ?_
    refine rz_goto (t := 154) dX12_operand_31 rfl ?_
    refine rz_vret dX12_operand_154 rfl ?_
    exact ⟨rfl, ⟨adS (apS (-(nxS T L s)) s), _, _, _, encR_ad.symm, FrE_ap hw, R_nam j1.2.1 hf hE hnc.1⟩, rfl⟩
set_option maxRecDepth 20000 in
set_option maxHeartbeats 400000 in
theorem c_ropS {X : pX} {I : IM} {T : Nat → Int} {L H r : Nat} {o : Int} (hL : I 81 17 = L ∧ L ≤ 120) (hTR : ∀ k, k < L → I 94 k = sg (T k)) (hT : ∀ k, 0 ≤ T k ∧ T k ≤ 255) (ho : 0 ≤ o ∧ o < 6) (ih : RfC X I T L (H + 1) mX12_operand (o + 1) (opS T L r)) : RfC X I T L (H + 7) mX12_operand o (opS T L (r + 1)) := by
  have hei := c_X12_expr hL hTR hT ih
  intro h J s E W hs hf hE hn hw
  show Rz X (h + H + 7) mX12_operand 0 [some (.ref 81), none] [] (encR I s o E W) J _
  have hr := nxS_rg (L := L) (s := s) hT
  have hk : lkR T L s = sg (nxS T L s) := lkR_nx (by omega)
  have hg := sg_c (nxS T L s)
  have hz := nmZ_rg (lkR T L s)
  refine rz_aload_n dX12_operand_0 rfl ?_
  refine rz_cVI dX12_operand_1 kl_RX12_197 hd_81 ⟨_, _, rfl⟩ (c_X12_look hL hTR (by omega)) rfl rfl (Nat.le_of_ble_eq_true rfl) (Nat.le_of_ble_eq_true rfl) ?_
  refine rz_istore_n dX12_operand_4 (by decide) rfl ?_
  refine rz_iload_n dX12_operand_5 rfl ?_
  refine rz_cSI dX12_operand_6 kl_RX12_205 (c_X12_nameOf X _ (encR I s o E W) J (lkR T L s) (by omega)) rfl rfl (Nat.le_of_ble_eq_true rfl) (Nat.le_of_ble_eq_true rfl) ?_
  refine rz_if_lt (t := 34) dX12_operand_9 rfl (by omega) (fun c9 => ?_) (fun c9 => ?_)
  · have hnn : ¬ namC (nxS T L s) := by
      intro q
      have hb : lkR T L s = (nxS T L s) := by omega
      rw [hb] at c9
      exact nm_n c9 q
    refine rz_iload_n dX12_operand_34 rfl ?_
    refine rz_bipush dX12_operand_35 (by decide) ?_
    refine rz_icmp_eq (t := 46) dX12_operand_37 rfl (by omega) (by omega) (fun c37 => ?_) (fun c37 => ?_)
    · refine rz_aload_n dX12_operand_46 rfl ?_
      refine rz_cVIq dX12_operand_47 kl_RX12_209 hd_81 ⟨_, _, rfl⟩ (c_X12_opens hL hs hf (by omega)) rfl rfl (Nat.le_of_ble_eq_true rfl) (Nat.le_of_ble_eq_true rfl) ?_
      rintro z47 A47 _ ⟨⟨rfl, b47, rfl⟩ | ⟨rfl, b47, rfl⟩, rfl⟩
      · refine rz_if_ne (t := 54) dX12_operand_50 rfl (by omega) (fun _ => ?_) (fun q => absurd q (by decide))
        have j1 := nxS_ne (T := T) (L := L) (s := s) (by omega)
        have a1 : (adS s).1 ≤ L := show s.1 + 1 ≤ L by omega
        have a2 : (adS s).2.1 = -1 := hf
        have a3 : EOK E W (adS s).2.2 := hE
        have a4 : (adS s).2.2.length ≤ (adS s).1 := show s.2.2.length ≤ s.1 + 1 by omega
        have a5 : (adS s).1 = s.1 + 1 := rfl
        have a6 : (adS s).2.2.length = s.2.2.length := rfl
        refine rz_aload_n dX12_operand_54 rfl ?_
        refine rz_cVVq dX12_operand_55 kl_RX12_213 hd_81 ⟨_, _, rfl⟩ ((by have q := ih (h + 5) J (adS s) E W (by first | assumption | omega) (by first | assumption | omega) (by first | assumption | omega) (by first | assumption | omega) (by assumption); rw [show h + 5 + (H + 1) = h + H + 6 by omega] at q; exact q)) rfl rfl (Nat.le_of_ble_eq_true rfl) (Nat.le_of_ble_eq_true rfl) ?_
        rintro _ _ ⟨⟨s55, o55, E55, W55, rfl, w55, k55⟩, rfl⟩
        have r55 := RfR_rg k55
        refine rz_aload_n dX12_operand_58 rfl ?_
        refine rz_dup dX12_operand_59 rfl ?_
        refine rz_getI (z := o55) dX12_operand_60 kf_RX12_191 hd_81 rfl (rfl) ?_
        refine rz_iconst dX12_operand_63 ?_
        refine rz_isub dX12_operand_64 ?_
        refine rz_putI dX12_operand_65 kp_RX12_191 hd_81 rfl ?_
        refine rz_mem (I' := (encR I s55 (o55 - 1) E55 W55)) (J' := J) (encR_o) (rfl) ?_
        refine rz_aload_n dX12_operand_68 rfl ?_
        refine rz_iload_n dX12_operand_69 rfl ?_
        refine rz_bipush dX12_operand_70 (by decide) ?_
        refine rz_icmp_ne (t := 79) dX12_operand_72 rfl (by omega) (by omega) (fun c72 => ?_) (fun c72 => ?_)
        · refine rz_iconst dX12_operand_79 ?_
          refine rz_iconst dX12_operand_80 ?_
          refine rz_cVV dX12_operand_81 kl_RX12_201 hd_81 ⟨_, _, rfl⟩ (c_X12_addStep (c := (-1)) hL (by decide) (by decide) (by omega) (by omega)) rfl rfl (Nat.le_of_ble_eq_true rfl) (Nat.le_of_ble_eq_true rfl) ?_
          refine rz_goto (t := 154) dX12_operand_84 rfl ?_
          refine rz_vret dX12_operand_154 rfl ?_
          first | (exfalso; omega) | exact ⟨rfl, ⟨_, _, _, _, rfl, FrE_ap w55, by rw [op_45 (by omega)]; exact R_un k55⟩, rfl⟩
        · refine rz_iconst dX12_operand_75 ?_
          refine rz_goto (t := 80) dX12_operand_76 rfl ?_
          refine rz_iconst dX12_operand_80 ?_
          refine rz_cVV dX12_operand_81 kl_RX12_201 hd_81 ⟨_, _, rfl⟩ (c_X12_addStep (c := (-33)) hL (by decide) (by decide) (by omega) (by omega)) rfl rfl (Nat.le_of_ble_eq_true rfl) (Nat.le_of_ble_eq_true rfl) ?_
          refine rz_goto (t := 154) dX12_operand_84 rfl ?_
          refine rz_vret dX12_operand_154 rfl ?_
          first | (exfalso; omega) | exact ⟨rfl, ⟨_, _, _, _, rfl, FrE_ap w55, by rw [op_33 (by omega)]; exact R_un k55⟩, rfl⟩
      · exfalso; omega
    · refine rz_iload_n dX12_operand_40 rfl ?_
      refine rz_bipush dX12_operand_41 (by decide) ?_
      refine rz_icmp_ne (t := 87) dX12_operand_43 rfl (by omega) (by omega) (fun c43 => ?_) (fun c43 => ?_)
      · refine rz_iload_n dX12_operand_87 rfl ?_
        refine rz_bipush dX12_operand_88 (by decide) ?_
        refine rz_icmp_ne (t := 150) dX12_operand_90 rfl (by omega) (by omega) (fun c90 => ?_) (fun c90 => ?_)
        · refine rz_aload_n dX12_operand_150 rfl ?_
          refine rz_cVVq dX12_operand_151 kl_RX12_219 hd_81 ⟨_, _, rfl⟩ (c_X12_figure hL hTR hT hs hf hE (by omega) hw) rfl rfl (Nat.le_of_ble_eq_true rfl) (Nat.le_of_ble_eq_true rfl) ?_
          rintro _ _ ⟨⟨s151, o151, E151, W151, rfl, w151, k151⟩, rfl⟩
          refine rz_vret dX12_operand_154 rfl ?_
          refine ⟨rfl, ⟨_, _, _, _, rfl, w151, ?_⟩, rfl⟩
          rw [op_fig hnn (by omega) (by omega) (by omega)]
          exact k151
        · refine rz_aload_n dX12_operand_93 rfl ?_
          refine rz_cVIq dX12_operand_94 kl_RX12_209 hd_81 ⟨_, _, rfl⟩ (c_X12_opens hL hs hf (by omega)) rfl rfl (Nat.le_of_ble_eq_true rfl) (Nat.le_of_ble_eq_true rfl) ?_
          rintro z94 A94 _ ⟨⟨rfl, b94, rfl⟩ | ⟨rfl, b94, rfl⟩, rfl⟩
          · refine rz_if_ne (t := 101) dX12_operand_97 rfl (by omega) (fun _ => ?_) (fun q => absurd q (by decide))
            have j1 := nxS_ne (T := T) (L := L) (s := s) (by omega)
            have a1 : (adS s).1 ≤ L := show s.1 + 1 ≤ L by omega
            have a2 : (adS s).2.1 = -1 := hf
            have a3 : EOK E W (adS s).2.2 := hE
            have a4 : (adS s).2.2.length ≤ (adS s).1 := show s.2.2.length ≤ s.1 + 1 by omega
            have a5 : (adS s).1 = s.1 + 1 := rfl
            have a6 : (adS s).2.2.length = s.2.2.length := rfl
            refine rz_aload_n dX12_operand_101 rfl ?_
            refine rz_cVVq dX12_operand_102 kl_RX12_216 hd_81 ⟨_, _, rfl⟩ (hei h J (adS s) E W (by first | assumption | omega) (by first | assumption | omega) (by first | assumption | omega) (by first | assumption | omega) (by assumption)) rfl rfl (Nat.le_of_ble_eq_true rfl) (Nat.le_of_ble_eq_true rfl) ?_
            rintro _ _ ⟨⟨s102, o102, E102, W102, rfl, w102, k102⟩, rfl⟩
            have r102 := RfR_rg k102
            refine rz_aload_n dX12_operand_105 rfl ?_
            refine rz_getI (z := s102.2.1) dX12_operand_106 kf_RX12_185 hd_81 rfl (rfl) ?_
            refine rz_if_lt (t := 113) dX12_operand_109 rfl (by omega) (fun c109 => ?_) (fun c109 => ?_)
            · have hlr := lkR_rg (L := L) (s := s102) hT
              have hr2 := nxS_rg (L := L) (s := s102) hT
              have hk2 : lkR T L s102 = sg (nxS T L s102) := lkR_nx (by omega)
              have hg2 := sg_c (nxS T L s102)
              refine rz_aload_n dX12_operand_113 rfl ?_
              refine rz_cVI dX12_operand_114 kl_RX12_197 hd_81 ⟨_, _, rfl⟩ (c_X12_look hL hTR (by omega)) rfl rfl (Nat.le_of_ble_eq_true rfl) (Nat.le_of_ble_eq_true rfl) ?_
              refine rz_bipush dX12_operand_117 (by decide) ?_
              refine rz_icmp_eq (t := 127) dX12_operand_119 rfl (by omega) (by omega) (fun c119 => ?_) (fun c119 => ?_)
              · refine rz_aload_n dX12_operand_127 rfl ?_
                refine rz_dup dX12_operand_128 rfl ?_
                refine rz_getI (z := (s102.1 : Int)) dX12_operand_129 kf_RX12_182 hd_81 rfl (rfl) ?_
                refine rz_iconst dX12_operand_132 ?_
                refine rz_iadd dX12_operand_133 ?_
                refine rz_putI dX12_operand_134 kp_RX12_182 hd_81 rfl ?_
                refine rz_aload_n dX12_operand_137 rfl ?_
                refine rz_dup dX12_operand_138 rfl ?_
                refine rz_getI (z := o102) dX12_operand_139 kf_RX12_191 hd_81 rfl (rfl) ?_
                refine rz_iconst dX12_operand_142 ?_
                refine rz_isub dX12_operand_143 ?_
                refine rz_putI dX12_operand_144 kp_RX12_191 hd_81 rfl ?_
                refine rz_goto (t := 154) dX12_operand_147 rfl ?_
                refine rz_vret dX12_operand_154 rfl ?_
                refine ⟨rfl, ⟨adS s102, o102 - 1, _, _, encR_cl.symm, w102, ?_⟩, rfl⟩
                rw [op_40 (by omega)]
                exact R_py k102 (by omega) (by omega)
              · refine rz_aload_n dX12_operand_122 rfl ?_
                refine rz_cVV dX12_operand_123 kl_RX12_194 hd_81 ⟨_, _, rfl⟩ (c_X12_faulty hL (by omega) (by omega)) rfl rfl (Nat.le_of_ble_eq_true rfl) (Nat.le_of_ble_eq_true rfl) ?_
                refine rz_vret dX12_operand_126 rfl ?_
                refine ⟨rfl, ⟨_, _, _, _, rfl, w102, ?_⟩, rfl⟩
                rw [op_40 (by omega)]
                exact R_pn k102 (by omega) (by omega)
            · refine rz_vret dX12_operand_112 rfl ?_
              refine ⟨rfl, ⟨_, _, _, _, rfl, w102, ?_⟩, rfl⟩
              rw [op_40 (by omega)]
              exact R_pf k102 (by omega)
          · exfalso; omega
      · refine rz_aload_n dX12_operand_46 rfl ?_
        refine rz_cVIq dX12_operand_47 kl_RX12_209 hd_81 ⟨_, _, rfl⟩ (c_X12_opens hL hs hf (by omega)) rfl rfl (Nat.le_of_ble_eq_true rfl) (Nat.le_of_ble_eq_true rfl) ?_
        rintro z47 A47 _ ⟨⟨rfl, b47, rfl⟩ | ⟨rfl, b47, rfl⟩, rfl⟩
        · refine rz_if_ne (t := 54) dX12_operand_50 rfl (by omega) (fun _ => ?_) (fun q => absurd q (by decide))
          have j1 := nxS_ne (T := T) (L := L) (s := s) (by omega)
          have a1 : (adS s).1 ≤ L := show s.1 + 1 ≤ L by omega
          have a2 : (adS s).2.1 = -1 := hf
          have a3 : EOK E W (adS s).2.2 := hE
          have a4 : (adS s).2.2.length ≤ (adS s).1 := show s.2.2.length ≤ s.1 + 1 by omega
          have a5 : (adS s).1 = s.1 + 1 := rfl
          have a6 : (adS s).2.2.length = s.2.2.length := rfl
          refine rz_aload_n dX12_operand_54 rfl ?_
          refine rz_cVVq dX12_operand_55 kl_RX12_213 hd_81 ⟨_, _, rfl⟩ ((by have q := ih (h + 5) J (adS s) E W (by first | assumption | omega) (by first | assumption | omega) (by first | assumption | omega) (by first | assumption | omega) (by assumption); rw [show h + 5 + (H + 1) = h + H + 6 by omega] at q; exact q)) rfl rfl (Nat.le_of_ble_eq_true rfl) (Nat.le_of_ble_eq_true rfl) ?_
          rintro _ _ ⟨⟨s55, o55, E55, W55, rfl, w55, k55⟩, rfl⟩
          have r55 := RfR_rg k55
          refine rz_aload_n dX12_operand_58 rfl ?_
          refine rz_dup dX12_operand_59 rfl ?_
          refine rz_getI (z := o55) dX12_operand_60 kf_RX12_191 hd_81 rfl (rfl) ?_
          refine rz_iconst dX12_operand_63 ?_
          refine rz_isub dX12_operand_64 ?_
          refine rz_putI dX12_operand_65 kp_RX12_191 hd_81 rfl ?_
          refine rz_mem (I' := (encR I s55 (o55 - 1) E55 W55)) (J' := J) (encR_o) (rfl) ?_
          refine rz_aload_n dX12_operand_68 rfl ?_
          refine rz_iload_n dX12_operand_69 rfl ?_
          refine rz_bipush dX12_operand_70 (by decide) ?_
          refine rz_icmp_ne (t := 79) dX12_operand_72 rfl (by omega) (by omega) (fun c72 => ?_) (fun c72 => ?_)
          · refine rz_iconst dX12_operand_79 ?_
            refine rz_iconst dX12_operand_80 ?_
            refine rz_cVV dX12_operand_81 kl_RX12_201 hd_81 ⟨_, _, rfl⟩ (c_X12_addStep (c := (-1)) hL (by decide) (by decide) (by omega) (by omega)) rfl rfl (Nat.le_of_ble_eq_true rfl) (Nat.le_of_ble_eq_true rfl) ?_
            refine rz_goto (t := 154) dX12_operand_84 rfl ?_
            refine rz_vret dX12_operand_154 rfl ?_
            first | (exfalso; omega) | exact ⟨rfl, ⟨_, _, _, _, rfl, FrE_ap w55, by rw [op_45 (by omega)]; exact R_un k55⟩, rfl⟩
          · refine rz_iconst dX12_operand_75 ?_
            refine rz_goto (t := 80) dX12_operand_76 rfl ?_
            refine rz_iconst dX12_operand_80 ?_
            refine rz_cVV dX12_operand_81 kl_RX12_201 hd_81 ⟨_, _, rfl⟩ (c_X12_addStep (c := (-33)) hL (by decide) (by decide) (by omega) (by omega)) rfl rfl (Nat.le_of_ble_eq_true rfl) (Nat.le_of_ble_eq_true rfl) ?_
            refine rz_goto (t := 154) dX12_operand_84 rfl ?_
            refine rz_vret dX12_operand_154 rfl ?_
            first | (exfalso; omega) | exact ⟨rfl, ⟨_, _, _, _, rfl, FrE_ap w55, by rw [op_33 (by omega)]; exact R_un k55⟩, rfl⟩
        · exfalso; omega
  · have hnc := nm_c c9
    have hb : lkR T L s = (nxS T L s) := by omega
    rw [hb] at hnc
    have j1 := nxS_ne (T := T) (L := L) (s := s) (by omega)
    refine rz_aload_n dX12_operand_12 rfl ?_
    refine rz_iconst dX12_operand_13 ?_
    refine rz_iload_n dX12_operand_14 rfl ?_
    refine rz_cSI dX12_operand_15 kl_RX12_205 (c_X12_nameOf X _ (encR I s o E W) J (lkR T L s) (by omega)) rfl rfl (Nat.le_of_ble_eq_true rfl) (Nat.le_of_ble_eq_true rfl) ?_
    refine rz_cVV dX12_operand_18 kl_RX12_201 hd_81 ⟨_, _, rfl⟩ (c_X12_addStep (c := (-(nxS T L s))) hL (by omega) (by rw [hb]; exact hnc.2.1) (by omega) (by omega)) rfl rfl (Nat.le_of_ble_eq_true rfl) (Nat.le_of_ble_eq_true rfl) ?_
    refine rz_aload_n dX12_operand_21 rfl ?_
    refine rz_dup dX12_operand_22 rfl ?_
    refine rz_getI (z := ((apS (-(nxS T L s)) s).1 : Int)) dX12_operand_23 kf_RX12_182 hd_81 rfl (rfl) ?_
    refine rz_iconst dX12_operand_26 ?_
    refine rz_iadd dX12_operand_27 ?_
    refine rz_putI dX12_operand_28 kp_RX12_182 hd_81 rfl ?_
    refine rz_goto (t := 154) dX12_operand_31 rfl ?_
    refine rz_vret dX12_operand_154 rfl ?_
    exact ⟨rfl, ⟨adS (apS (-(nxS T L s)) s), _, _, _, encR_ad.symm, FrE_ap hw, R_nam j1.2.1 hf hE hnc.1⟩, rfl⟩
theorem c_rop {X : pX} {I : IM} {T : Nat → Int} {L : Nat} (hL : I 81 17 = L ∧ L ≤ 120) (hTR : ∀ k, k < L → I 94 k = sg (T k)) (hT : ∀ k, 0 ≤ T k ∧ T k ≤ 255) : RfC X I T L 39 mX12_operand 0 (opS T L 6) := by
  have h0 := c_rop0 (X := X) hL hTR hT
  have h1 := c_ropS (H := 2) (o := 5) hL hTR hT (by omega) h0
  have h2 := c_ropS (H := 8) (o := 4) hL hTR hT (by omega) h1
  have h3 := c_ropS (H := 14) (o := 3) hL hTR hT (by omega) h2
  have h4 := c_ropS (H := 20) (o := 2) hL hTR hT (by omega) h3
  have h5 := c_ropS (H := 26) (o := 1) hL hTR hT (by omega) h4
  exact c_ropS (H := 32) (o := 0) hL hTR hT (by omega) h5
theorem c_rei {X : pX} {I : IM} {T : Nat → Int} {L : Nat} (hL : I 81 17 = L ∧ L ≤ 120) (hTR : ∀ k, k < L → I 94 k = sg (T k)) (hT : ∀ k, 0 ≤ T k ∧ T k ≤ 255) : RfC X I T L 44 mX12_either 0 (eiS T L (opS T L 6)) := c_X12_expr (H := 38) hL hTR hT (c_rop hL hTR hT)
