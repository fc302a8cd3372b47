/-! law and act: the calls themselves -/
theorem lp_bd {T : Nat → Int} {L : Nat} {f : PS → PS} (hT : ∀ k : Nat, 0 ≤ T k ∧ T k ≤ 255) (hL : L ≤ 120) (hf : LnG L f) (hne : ∀ s, (f s).2.1 < 0 → (f s).2.2 ≠ []) : ∀ (k : Nat) (t : PS), t.1 ≤ L → (-1 ≤ t.2.1 ∧ t.2.1 ≤ 120) → t.2.2.length ≤ t.1 + 1 → (t.2.1 < 0 → t.2.2 ≠ []) → (lpS T L f k t).1 ≤ L ∧ (-1 ≤ (lpS T L f k t).2.1 ∧ (lpS T L f k t).2.1 ≤ 120) ∧ (lpS T L f k t).2.2.length ≤ (lpS T L f k t).1 + 1 ∧ ((lpS T L f k t).2.1 < 0 → (lpS T L f k t).2.2 ≠ [])
  | 0, t, h1, h2, h3, h4 => ⟨h1, h2, h3, h4⟩
  | k + 1, t, h1, h2, h3, h4 => by
    unfold lpS
    by_cases hx : nxS T L t = 59
    · rw [if_pos hx]
      have j1 := nxS_ne (T := T) (L := L) (s := t) (by omega)
      obtain ⟨g1, g2, g3, g4, g5⟩ := hf (adS t) (show t.1 + 1 ≤ L by omega)
      have g3' : (f (adS t)).2.2.length + (t.1 + 1) ≤ (f (adS t)).1 + t.2.2.length + 1 := g3
      exact lp_bd hT hL hf hne k _ g1 ((g4 j1.1).elim (fun e => by rw [e]; exact h2) (fun e => by omega)) (by omega) (hne _)
    · rw [if_neg hx]; exact ⟨h1, h2, h3, h4⟩
theorem em_ne {c : Int} {s : PS} (h : (emS c s).2.1 < 0) : (emS c s).2.2 ≠ [] := by
  rw [emS_2] at h
  unfold emS
  rw [if_pos h]
  simp
theorem rd_bd {T : Nat → Int} {L : Nat} (hT : ∀ k : Nat, 0 ≤ T k ∧ T k ≤ 255) (hL : L ≤ 120) : (-1 ≤ (rdS T L).2.1 ∧ (rdS T L).2.1 ≤ 120) ∧ (rdS T L).2.2.length ≤ 121 ∧ ((rdS T L).2.1 < 0 → 0 < (rdS T L).2.2.length) := by
  have hg := ei_gd (T := T) (op_gd (T := T) (L := L) 6)
  have hl := ln_gd (T := T) hg
  have hne : ∀ s, (lnS T L (eiS T L (opS T L 6)) s).2.1 < 0 → (lnS T L (eiS T L (opS T L 6)) s).2.2 ≠ [] := fun s h => em_ne h
  obtain ⟨p1, p2, p3, p4, p5⟩ := hl (0, -1, []) (Nat.zero_le _)
  have q := lp_bd hT hL hl hne 120 (lnS T L (eiS T L (opS T L 6)) (0, -1, [])) p1 ((p4 (by decide)).elim (fun e => by rw [e]; decide) (fun e => by omega)) (by have q : (lnS T L (eiS T L (opS T L 6)) (0, -1, [])).2.2.length + 0 ≤ (lnS T L (eiS T L (opS T L 6)) (0, -1, [])).1 + 0 + 1 := p3; omega) (hne _)
  obtain ⟨q1, q2, q3, q4⟩ := q
  unfold rdS flL
  by_cases e : (lpS T L (lnS T L (eiS T L (opS T L 6))) 120 (lnS T L (eiS T L (opS T L 6)) (0, -1, []))).1 < L
  · rw [if_pos e]
    unfold flS
    by_cases e2 : (lpS T L (lnS T L (eiS T L (opS T L 6))) 120 (lnS T L (eiS T L (opS T L 6)) (0, -1, []))).2.1 < 0
    · rw [if_pos e2]
      refine ⟨⟨?_, ?_⟩, ?_, fun h => ?_⟩
      · show (-1 : Int) ≤ ((lpS T L (lnS T L (eiS T L (opS T L 6))) 120 (lnS T L (eiS T L (opS T L 6)) (0, -1, []))).1 : Int)
        omega
      · show ((lpS T L (lnS T L (eiS T L (opS T L 6))) 120 (lnS T L (eiS T L (opS T L 6)) (0, -1, []))).1 : Int) ≤ 120
        omega
      · show (lpS T L (lnS T L (eiS T L (opS T L 6))) 120 (lnS T L (eiS T L (opS T L 6)) (0, -1, []))).2.2.length ≤ 121
        omega
      · have h' : ((lpS T L (lnS T L (eiS T L (opS T L 6))) 120 (lnS T L (eiS T L (opS T L 6)) (0, -1, []))).1 : Int) < 0 := h
        omega
    · rw [if_neg e2]; exact ⟨q2, by omega, fun h => List.length_pos_iff.mpr (q4 h)⟩
  · rw [if_neg e]; exact ⟨q2, by omega, fun h => List.length_pos_iff.mpr (q4 h)⟩
set_option maxRecDepth 20000 in
set_option maxHeartbeats 400000 in
theorem c_X11_law {X : pX} {I J : IM} {L h : Nat} (hL : I 1 0 = L ∧ L ≤ 120) (hT : ∀ k : Nat, 0 ≤ I 2 k ∧ I 2 k ≤ 255) : KIq X (h + 53) mX11_law [.ref 0] I J (fun z A B => ∃ A1, rdA I (rdS (I 2) L) A1 ∧ ((0 ≤ (rdS (I 2) L).2.1 ∧ z = -100 - (rdS (I 2) L).2.1 ∧ A = A1) ∨ ((rdS (I 2) L).2.1 < 0 ∧ z = 1 ∧ A = fillM A1 12 5 0)) ∧ J = B) := by
  show Rz X (h + 53) mX11_law 0 [some (.ref 0), none] [] I J _
  refine rz_aload_n dX11_law_0 rfl ?_
  refine rz_getR dX11_law_1 kf_RX11_10 hd_0 rfl rr_0_0 ?_
  refine rz_cVIq dX11_law_4 kl_RX11_179 hd_1 ⟨_, _, rfl⟩ (c_X4_read (L := L) hL hT) rfl rfl (Nat.le_of_ble_eq_true rfl) (Nat.le_of_ble_eq_true rfl) ?_
  rintro z4 A4 _ ⟨⟨hz4, ra4⟩, rfl⟩
  obtain ⟨hb1, hb2, hb3⟩ := rd_bd hT hL.2
  rw [← hz4] at hb1
  refine rz_istore_n dX11_law_7 (by decide) rfl ?_
  refine rz_iload_n dX11_law_8 rfl ?_
  refine rz_if_lt (t := 17) dX11_law_9 rfl (by omega) (fun c9 => ?_) (fun c9 => ?_)
  · refine rz_aload_n dX11_law_17 rfl ?_
    refine rz_getR dX11_law_18 kf_RX11_21 hd_0 rfl rr_0_1 ?_
    refine rz_cVV dX11_law_21 kl_RX11_181 hd_6 ⟨_, _, rfl⟩ (c_X8_forget X _ A4 J) rfl rfl (Nat.le_of_ble_eq_true rfl) (Nat.le_of_ble_eq_true rfl) ?_
    refine rz_iconst dX11_law_24 ?_
    refine rz_iret dX11_law_25 rfl ?_
    exact ⟨_, rfl, A4, ra4, Or.inr ⟨by omega, rfl, rfl⟩, rfl⟩
  · refine rz_bipush dX11_law_12 (by decide) ?_
    refine rz_iload_n dX11_law_14 rfl ?_
    refine rz_isub dX11_law_15 ?_
    refine rz_iret dX11_law_16 rfl ?_
    exact ⟨_, rfl, A4, ra4, Or.inl ⟨by omega, by rw [hz4], rfl⟩, rfl⟩
set_option maxRecDepth 20000 in
set_option maxHeartbeats 400000 in
theorem c_X12_law {X : pX} {I J : IM} {T : Nat → Int} {L h : Nat} (hL : I 81 17 = L ∧ L ≤ 120) (hTR : ∀ k, k < L → I 94 k = sg (T k)) (hT : ∀ k, 0 ≤ T k ∧ T k ≤ 255) : KIq X (h + 47) mX12_law [.ref 81] I J (fun z A B => ∃ A1, RtQ T L I (rdS T L).2.1 A1 ∧ ((0 ≤ (rdS T L).2.1 ∧ z = -100 - (rdS T L).2.1 ∧ A = A1) ∨ ((rdS T L).2.1 < 0 ∧ z = 1 ∧ A = upA A1 81 (up1 (A1 81) 29 1))) ∧ J = B) := by
  show Rz X (h + 47) mX12_law 0 [some (.ref 81), none] [] I J _
  refine rz_aload_n dX12_law_0 rfl ?_
  refine rz_iconst dX12_law_1 ?_
  refine rz_cVIq dX12_law_2 kl_RX12_243 hd_81 ⟨_, _, rfl⟩ (c_X12_readText (T := T) hL hTR hT) rfl rfl (Nat.le_of_ble_eq_true rfl) (Nat.le_of_ble_eq_true rfl) ?_
  rintro z2 A2 _ ⟨rq2, rfl⟩
  have hz2 := rq2.1
  obtain ⟨hb1, hb2, hb3⟩ := rd_bd hT hL.2
  rw [← hz2] at hb1
  refine rz_istore_n dX12_law_5 (by decide) rfl ?_
  refine rz_iload_n dX12_law_6 rfl ?_
  refine rz_if_lt (t := 15) dX12_law_7 rfl (by omega) (fun c7 => ?_) (fun c7 => ?_)
  · refine rz_aload_n dX12_law_15 rfl ?_
    refine rz_iconst dX12_law_16 ?_
    refine rz_putZ dX12_law_17 kp_RX12_246 hd_81 rfl (by decide) ?_
    refine rz_iconst dX12_law_20 ?_
    refine rz_iret dX12_law_21 rfl ?_
    exact ⟨_, rfl, A2, by rw [← hz2]; exact rq2, Or.inr ⟨by omega, rfl, rfl⟩, rfl⟩
  · refine rz_bipush dX12_law_10 (by decide) ?_
    refine rz_iload_n dX12_law_12 rfl ?_
    refine rz_isub dX12_law_13 ?_
    refine rz_iret dX12_law_14 rfl ?_
    exact ⟨_, rfl, A2, by rw [← hz2]; exact rq2, Or.inl ⟨by omega, by rw [hz2], rfl⟩, rfl⟩
set_option maxRecDepth 20000 in
set_option maxHeartbeats 400000 in
theorem X11_act_of {X : pX} {I J : IM} {h : Nat} {b a x : Int} {Q : Int → IM → IM → Prop} (hp : KIq X h mX0_perform [.ref 63, zi b, zi a, zi x] I J Q) : KIq X (h + 1) mX11_act [.ref 0, zi b, zi a, zi x] I J Q := by
  show Rz X (h + 1) mX11_act 0 [some (.ref 0), some (zi b), some (zi a), some (zi x)] [] I J _
  refine rz_aload_n dX11_act_0 rfl ?_
  refine rz_getR dX11_act_1 kf_RX11_70 hd_0 rfl rr_0_9 ?_
  refine rz_iload_n dX11_act_4 rfl ?_
  refine rz_iload_n dX11_act_5 rfl ?_
  refine rz_iload_n dX11_act_6 rfl ?_
  refine rz_cVIq dX11_act_7 kl_RX11_317 hd_63 ⟨_, _, rfl⟩ (hp) rfl rfl (Nat.le_of_ble_eq_true rfl) (Nat.le_of_ble_eq_true rfl) ?_
  rintro z7 A7 B7 q7
  refine rz_iret dX11_act_10 rfl ?_
  exact ⟨_, rfl, q7⟩
set_option maxRecDepth 20000 in
set_option maxHeartbeats 400000 in
theorem c_perform_n {X : pX} {I J : IM} {h : Nat} (b a x : Int) (hb : rg b) (ha : rg a) (h5 : 0 ≤ I 63 0 ∧ I 63 0 ≤ 50) (hn : ¬ ((0 ≤ b ∧ b < I 63 0) ∧ 0 ≤ a ∧ a ≤ 3)) : KI X h mX0_perform [.ref 63, zi b, zi a, zi x] I J 0 (upA I 63 (up1 (I 63) 1 0)) J := by
  show Rz X h mX0_perform 0 [some (.ref 63), some (zi b), some (zi a), some (zi x)] [] I J _
  refine rz_aload_n dX0_perform_0 rfl ?_
  refine rz_iconst dX0_perform_1 ?_
  refine rz_putI dX0_perform_2 kp_RX0_20 hd_63 rfl ?_
  refine rz_mem (I' := (upA I 63 (up1 (I 63) 1 0))) (J' := J) (rfl) (rfl) ?_
  refine rz_iload_n dX0_perform_5 rfl ?_
  refine rz_if_lt (t := 26) dX0_perform_6 rfl (by omega) (fun c6 => ?_) (fun c6 => ?_)
  · refine rz_iconst dX0_perform_26 ?_
    refine rz_iret dX0_perform_27 rfl ?_
    exact ⟨_, rfl, rfl, rfl, rfl⟩
  · refine rz_iload_n dX0_perform_9 rfl ?_
    refine rz_aload_n dX0_perform_10 rfl ?_
    refine rz_getI (z := (I 63 0)) dX0_perform_11 kf_RX0_16 hd_63 rfl (rfl) ?_
    refine rz_icmp_ge (t := 26) dX0_perform_14 rfl (by omega) (by omega) (fun c14 => ?_) (fun c14 => ?_)
    · refine rz_iconst dX0_perform_26 ?_
      refine rz_iret dX0_perform_27 rfl ?_
      exact ⟨_, rfl, rfl, rfl, rfl⟩
    · refine rz_iload_n dX0_perform_17 rfl ?_
      refine rz_if_lt (t := 26) dX0_perform_18 rfl (by omega) (fun c18 => ?_) (fun c18 => ?_)
      · refine rz_iconst dX0_perform_26 ?_
        refine rz_iret dX0_perform_27 rfl ?_
        exact ⟨_, rfl, rfl, rfl, rfl⟩
      · refine rz_iload_n dX0_perform_21 rfl ?_
        refine rz_iconst dX0_perform_22 ?_
        refine rz_icmp_le (t := 28) dX0_perform_23 rfl (by omega) (by omega) (fun c23 => ?_) (fun c23 => ?_)
        · exfalso; omega
        · refine rz_iconst dX0_perform_26 ?_
          refine rz_iret dX0_perform_27 rfl ?_
          exact ⟨_, rfl, rfl, rfl, rfl⟩
set_option maxRecDepth 20000 in
set_option maxHeartbeats 400000 in
theorem c_act_n {X : pX} {I J : IM} {h : Nat} (b a x : Int) (hb : rg b) (ha : rg a) (h5 : 0 ≤ I 81 51 ∧ I 81 51 ≤ 50) (hn : ¬ ((0 ≤ b ∧ b < I 81 51) ∧ 0 ≤ a ∧ a ≤ 3)) : KI X (h + 2) mX12_act [.ref 81, zi b, zi a, zi x] I J 0 (upA I 81 (up1 (I 81) 53 0)) J := by
  show Rz X (h + 2) mX12_act 0 [some (.ref 81), some (zi b), some (zi a), some (zi x)] [] I J _
  refine rz_aload_n dX12_act_0 rfl ?_
  refine rz_iconst dX12_act_1 ?_
  refine rz_putI dX12_act_2 kp_RX12_377 hd_81 rfl ?_
  refine rz_mem (I' := (upA I 81 (up1 (I 81) 53 0))) (J' := J) (rfl) (rfl) ?_
  refine rz_aload_n dX12_act_5 rfl ?_
  refine rz_iload_n dX12_act_6 rfl ?_
  refine rz_cVIq dX12_act_7 kl_RX12_416 hd_81 ⟨_, _, rfl⟩ (c_X12_isBody X _ (upA I 81 (up1 (I 81) 53 0)) J b (by omega) (by show 0 ≤ I 81 51 ∧ I 81 51 ≤ 50; omega)) rfl rfl (Nat.le_of_ble_eq_true rfl) (Nat.le_of_ble_eq_true rfl) ?_
  rintro z7 A7 B7 ⟨⟨rfl, b7⟩ | ⟨rfl, b7⟩, rfl, rfl⟩
  · refine rz_if_eq (t := 22) dX12_act_10 rfl (by omega) (fun q => absurd q (by decide)) (fun _ => ?_)
    refine rz_iload_n dX12_act_13 rfl ?_
    refine rz_iconst dX12_act_14 ?_
    refine rz_iconst dX12_act_15 ?_
    refine rz_cSIq dX12_act_16 kl_RX12_140 (c_X12_in X _ (upA I 81 (up1 (I 81) 53 0)) J a 0 3 (by omega) (by omega) (by omega)) rfl rfl (Nat.le_of_ble_eq_true rfl) (Nat.le_of_ble_eq_true rfl) ?_
    rintro z16 A16 B16 ⟨⟨rfl, b16⟩ | ⟨rfl, b16⟩, rfl, rfl⟩
    · exact absurd ⟨by have q : 0 ≤ b ∧ b ≤ I 81 51 - 1 := b7; omega, b16⟩ hn
    · refine rz_if_ne (t := 24) dX12_act_19 rfl (by omega) (fun q => absurd q (by decide)) (fun _ => ?_)
      refine rz_iconst dX12_act_22 ?_
      refine rz_iret dX12_act_23 rfl ?_
      exact ⟨_, rfl, rfl, rfl, rfl⟩
  · refine rz_if_eq (t := 22) dX12_act_10 rfl (by omega) (fun _ => ?_) (fun q => absurd q (by decide))
    refine rz_iconst dX12_act_22 ?_
    refine rz_iret dX12_act_23 rfl ?_
    exact ⟨_, rfl, rfl, rfl, rfl⟩
