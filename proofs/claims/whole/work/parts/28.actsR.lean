set_option maxRecDepth 20000 in
set_option maxHeartbeats 400000 in
theorem c_X12_ran (X : pX) (h : Nat) (I J : IM) (c : Int) (hR : 0 ≤ I 81 53 ∧ I 81 53 ≤ 23) : KV X h mX12_ran [.ref 81, zi c] I J (stR I c) J := by
  show Rz X h mX12_ran 0 [some (.ref 81), some (zi c)] [] I J _
  refine rz_aload_n dX12_ran_0 rfl ?_
  refine rz_getI (z := (I 81 53)) dX12_ran_1 kf_RX12_377 hd_81 rfl rfl ?_
  refine rz_bipush dX12_ran_4 (by decide) ?_
  refine rz_icmp_ge (t := 19) dX12_ran_6 rfl (by omega) (by omega) (fun c6 => ?_) (fun c6 => ?_)
  · exfalso; omega
  · refine rz_aload_n dX12_ran_9 rfl ?_
    refine rz_getR dX12_ran_10 kf_RX12_117 hd_81 rfl rr_81_54 ?_
    refine rz_aload_n dX12_ran_13 rfl ?_
    refine rz_getI (z := (I 81 53)) dX12_ran_14 kf_RX12_377 hd_81 rfl rfl ?_
    refine rz_iload_n dX12_ran_17 rfl ?_
    refine rz_iast dX12_ran_18 hd_117 (by decide) (by omega) ?_
    refine rz_aload_n dX12_ran_19 rfl ?_
    refine rz_dup dX12_ran_20 rfl ?_
    refine rz_getI (z := (I 81 53)) dX12_ran_21 kf_RX12_377 hd_81 rfl rfl ?_
    refine rz_iconst dX12_ran_24 ?_
    refine rz_iadd dX12_ran_25 ?_
    refine rz_putI dX12_ran_26 kp_RX12_377 hd_81 rfl ?_
    refine rz_vret dX12_ran_29 rfl ?_
    exact ⟨rfl, rfl, rfl⟩
set_option maxRecDepth 20000 in
set_option maxHeartbeats 400000 in
theorem c_X12_plainParts_0 (X : pX) (h : Nat) (I J : IM) (b x : Int) (hR : 0 ≤ I 81 53 ∧ I 81 53 ≤ 23) (hk : I 116 b.toNat = 0) (hb : 0 ≤ b ∧ b < 50) : KI X (h + 1) mX12_plainParts [.ref 81, zi b, zi x] I J ((x + b)) (trR I [1]) J := by
  show Rz X (h + 1) mX12_plainParts 0 [some (.ref 81), some (zi b), some (zi x)] [] I J _
  refine rz_aload_n dX12_plainParts_0 rfl ?_
  refine rz_iconst dX12_plainParts_1 ?_
  refine rz_cVV dX12_plainParts_2 kl_RX12_380 hd_81 ⟨_, _, rfl⟩ (c_X12_ran X _ I J 1 (by (try simp only [trM_R, stM_R, trR_R, stR_R, List.length_cons, List.length_nil]); omega)) rfl rfl (Nat.le_of_ble_eq_true rfl) (Nat.le_of_ble_eq_true rfl) ?_
  refine rz_iload_n dX12_plainParts_5 rfl ?_
  refine rz_iload_n dX12_plainParts_6 rfl ?_
  refine rz_iadd dX12_plainParts_7 ?_
  refine rz_iret dX12_plainParts_8 rfl ?_
  exact ⟨_, rfl, rfl, rfl, rfl⟩
set_option maxRecDepth 20000 in
set_option maxHeartbeats 400000 in
theorem c_X12_parting_0 (X : pX) (h : Nat) (I J : IM) (b x : Int) (hR : 0 ≤ I 81 53 ∧ I 81 53 ≤ 23) (hk : I 116 b.toNat = 0) (hb : 0 ≤ b ∧ b < 50) : KI X (h + 2) mX12_parting [.ref 81, zi b, zi x] I J ((x + b)) (trR I [1]) J := by
  show Rz X (h + 2) mX12_parting 0 [some (.ref 81), some (zi b), some (zi x)] [] I J _
  refine rz_aload_n dX12_parting_0 rfl ?_
  refine rz_getR dX12_parting_1 kf_RX12_114 hd_81 rfl rr_81_52 ?_
  refine rz_iload_n dX12_parting_4 rfl ?_
  refine rz_iald (z := 0) dX12_parting_5 hd_116 (by decide) (by omega) hk ?_
  refine rz_iconst dX12_parting_6 ?_
  refine rz_cSIq dX12_parting_7 kl_RX12_386 (c_X12_isUnder X _ I J 0 1 (by omega) (by omega)) rfl rfl (Nat.le_of_ble_eq_true rfl) (Nat.le_of_ble_eq_true rfl) ?_
  rintro z7 A7 B7 ⟨⟨rfl, b7⟩ | ⟨rfl, b7⟩, rfl, rfl⟩
  · exfalso; omega
  · refine rz_if_eq (t := 28) dX12_parting_10 rfl (by omega) (fun _ => ?_) (fun q => absurd q (by decide))
    refine rz_aload_n dX12_parting_28 rfl ?_
    refine rz_getR dX12_parting_29 kf_RX12_114 hd_81 rfl rr_81_52 ?_
    refine rz_iload_n dX12_parting_32 rfl ?_
    refine rz_iald (z := 0) dX12_parting_33 hd_116 (by decide) (by omega) hk ?_
    refine rz_bipush dX12_parting_34 (by decide) ?_
    refine rz_icmp_ne (t := 54) dX12_parting_36 rfl (by omega) (by omega) (fun _ => ?_) (fun q => absurd q (by decide))
    refine rz_aload_n dX12_parting_54 rfl ?_
    refine rz_getR dX12_parting_55 kf_RX12_114 hd_81 rfl rr_81_52 ?_
    refine rz_iload_n dX12_parting_58 rfl ?_
    refine rz_iald (z := 0) dX12_parting_59 hd_116 (by decide) (by omega) hk ?_
    refine rz_bipush dX12_parting_60 (by decide) ?_
    refine rz_icmp_ne (t := 74) dX12_parting_62 rfl (by omega) (by omega) (fun _ => ?_) (fun q => absurd q (by decide))
    refine rz_aload_n dX12_parting_74 rfl ?_
    refine rz_iload_n dX12_parting_75 rfl ?_
    refine rz_iload_n dX12_parting_76 rfl ?_
    refine rz_cVI dX12_parting_77 kl_RX12_383 hd_81 ⟨_, _, rfl⟩ (c_X12_plainParts_0 X _ I J b x (by (try simp only [trM_R, stM_R, trR_R, stR_R, List.length_cons, List.length_nil]); omega) hk hb) rfl rfl (Nat.le_of_ble_eq_true rfl) (Nat.le_of_ble_eq_true rfl) ?_
    refine rz_iret dX12_parting_80 rfl ?_
    exact ⟨_, rfl, rfl, rfl, rfl⟩
set_option maxRecDepth 20000 in
set_option maxHeartbeats 400000 in
theorem c_act_0_0 (X : pX) (h : Nat) (I J : IM) (b x : Int) (hb : 0 ≤ b ∧ b ≤ I 81 51 - 1) (h5 : I 81 51 ≤ 50) (hk : I 116 b.toNat = 0) : KI X (h + 3) mX12_act [.ref 81, zi b, zi 0, zi x] I J ((x + b)) (trR (upA I 81 (up1 (I 81) 53 0)) [1]) J := by
  show Rz X (h + 3) mX12_act 0 [some (.ref 81), some (zi b), some (zi 0), some (zi x)] [] I J _
  refine rz_aload_n dX12_act_0 rfl ?_
  refine rz_iconst dX12_act_1 ?_
  refine rz_putI dX12_act_2 kp_RX12_377 hd_81 rfl ?_
  refine rz_mem (I' := (upA I 81 (up1 (I 81) 53 0))) (J' := J) (rfl) (rfl) ?_
  refine rz_aload_n dX12_act_5 rfl ?_
  refine rz_iload_n dX12_act_6 rfl ?_
  refine rz_cVIq dX12_act_7 kl_RX12_416 hd_81 ⟨_, _, rfl⟩ (c_X12_isBody X _ (upA I 81 (up1 (I 81) 53 0)) J b (by omega) (by show 0 ≤ I 81 51 ∧ I 81 51 ≤ 50; omega)) rfl rfl (Nat.le_of_ble_eq_true rfl) (Nat.le_of_ble_eq_true rfl) ?_
  rintro z7 A7 B7 ⟨⟨rfl, b7⟩ | ⟨rfl, b7⟩, rfl, rfl⟩
  · refine rz_if_eq (t := 22) dX12_act_10 rfl (by omega) (fun q => absurd q (by decide)) (fun _ => ?_)
    refine rz_iload_n dX12_act_13 rfl ?_
    refine rz_iconst dX12_act_14 ?_
    refine rz_iconst dX12_act_15 ?_
    refine rz_cSIq dX12_act_16 kl_RX12_140 (c_X12_in X _ (upA I 81 (up1 (I 81) 53 0)) J 0 0 3 (by omega) (by omega) (by omega)) rfl rfl (Nat.le_of_ble_eq_true rfl) (Nat.le_of_ble_eq_true rfl) ?_
    rintro z16 A16 B16 ⟨⟨rfl, b16⟩ | ⟨rfl, b16⟩, rfl, rfl⟩
    · refine rz_if_ne (t := 24) dX12_act_19 rfl (by omega) (fun _ => ?_) (fun q => absurd q (by decide))
      refine rz_iload_n dX12_act_24 rfl ?_
      refine rz_if_ne (t := 37) dX12_act_25 rfl (by omega) (fun q => absurd q (by decide)) (fun _ => ?_)
      refine rz_aload_n dX12_act_28 rfl ?_
      refine rz_iload_n dX12_act_29 rfl ?_
      refine rz_iload_n dX12_act_30 rfl ?_
      refine rz_cVI dX12_act_31 kl_RX12_392 hd_81 ⟨_, _, rfl⟩ (c_X12_parting_0 X _ (upA I 81 (up1 (I 81) 53 0)) J b x (by show (0 : Int) ≤ 0 ∧ (0 : Int) ≤ _; omega) hk (by omega)) rfl rfl (Nat.le_of_ble_eq_true rfl) (Nat.le_of_ble_eq_true rfl) ?_
      refine rz_goto (t := 71) dX12_act_34 rfl ?_
      refine rz_iret dX12_act_71 rfl ?_
      exact ⟨_, rfl, rfl, rfl, rfl⟩
    · exfalso; omega
  · exact absurd (show 0 ≤ b ∧ b ≤ I 81 51 - 1 by omega) b7
set_option maxRecDepth 20000 in
set_option maxHeartbeats 400000 in
theorem c_X12_plainSends_0 (X : pX) (h : Nat) (I J : IM) (b x : Int) (hR : 0 ≤ I 81 53 ∧ I 81 53 ≤ 22) (hk : I 116 b.toNat = 0) (hb : 0 ≤ b ∧ b < 50) : KI X (h + 3) mX12_plainSends [.ref 81, zi b, zi x] I J (((x + b) * 2)) (trR I [10, 1]) J := by
  show Rz X (h + 3) mX12_plainSends 0 [some (.ref 81), some (zi b), some (zi x)] [] I J _
  refine rz_aload_n dX12_plainSends_0 rfl ?_
  refine rz_bipush dX12_plainSends_1 (by decide) ?_
  refine rz_cVV dX12_plainSends_3 kl_RX12_380 hd_81 ⟨_, _, rfl⟩ (c_X12_ran X _ I J 10 (by (try simp only [trM_R, stM_R, trR_R, stR_R, List.length_cons, List.length_nil]); omega)) rfl rfl (Nat.le_of_ble_eq_true rfl) (Nat.le_of_ble_eq_true rfl) ?_
  refine rz_aload_n dX12_plainSends_6 rfl ?_
  refine rz_iload_n dX12_plainSends_7 rfl ?_
  refine rz_iload_n dX12_plainSends_8 rfl ?_
  refine rz_cVI dX12_plainSends_9 kl_RX12_392 hd_81 ⟨_, _, rfl⟩ (c_X12_parting_0 X _ (stR I 10) J b x (by (try simp only [trM_R, stM_R, trR_R, stR_R, List.length_cons, List.length_nil]); omega) hk hb) rfl rfl (Nat.le_of_ble_eq_true rfl) (Nat.le_of_ble_eq_true rfl) ?_
  refine rz_iconst dX12_plainSends_12 ?_
  refine rz_imul dX12_plainSends_13 ?_
  refine rz_iret dX12_plainSends_14 rfl ?_
  exact ⟨_, rfl, rfl, rfl, rfl⟩
set_option maxRecDepth 20000 in
set_option maxHeartbeats 400000 in
theorem c_X12_sending_0 (X : pX) (h : Nat) (I J : IM) (b x : Int) (hR : 0 ≤ I 81 53 ∧ I 81 53 ≤ 22) (hk : I 116 b.toNat = 0) (hb : 0 ≤ b ∧ b < 50) : KI X (h + 4) mX12_sending [.ref 81, zi b, zi x] I J (((x + b) * 2)) (trR I [10, 1]) J := by
  show Rz X (h + 4) mX12_sending 0 [some (.ref 81), some (zi b), some (zi x), none] [] I J _
  refine rz_aload_n dX12_sending_0 rfl ?_
  refine rz_getR dX12_sending_1 kf_RX12_114 hd_81 rfl rr_81_52 ?_
  refine rz_iload_n dX12_sending_4 rfl ?_
  refine rz_iald (z := 0) dX12_sending_5 hd_116 (by decide) (by omega) hk ?_
  refine rz_iconst dX12_sending_6 ?_
  refine rz_icmp_ne (t := 25) dX12_sending_7 rfl (by omega) (by omega) (fun _ => ?_) (fun q => absurd q (by decide))
  refine rz_aload_n dX12_sending_25 rfl ?_
  refine rz_getR dX12_sending_26 kf_RX12_114 hd_81 rfl rr_81_52 ?_
  refine rz_iload_n dX12_sending_29 rfl ?_
  refine rz_iald (z := 0) dX12_sending_30 hd_116 (by decide) (by omega) hk ?_
  refine rz_bipush dX12_sending_31 (by decide) ?_
  refine rz_icmp_ne (t := 58) dX12_sending_33 rfl (by omega) (by omega) (fun _ => ?_) (fun q => absurd q (by decide))
  refine rz_aload_n dX12_sending_58 rfl ?_
  refine rz_getR dX12_sending_59 kf_RX12_114 hd_81 rfl rr_81_52 ?_
  refine rz_iload_n dX12_sending_62 rfl ?_
  refine rz_iald (z := 0) dX12_sending_63 hd_116 (by decide) (by omega) hk ?_
  refine rz_iconst dX12_sending_64 ?_
  refine rz_icmp_ne (t := 77) dX12_sending_65 rfl (by omega) (by omega) (fun _ => ?_) (fun q => absurd q (by decide))
  refine rz_aload_n dX12_sending_77 rfl ?_
  refine rz_iload_n dX12_sending_78 rfl ?_
  refine rz_iload_n dX12_sending_79 rfl ?_
  refine rz_cVI dX12_sending_80 kl_RX12_395 hd_81 ⟨_, _, rfl⟩ (c_X12_plainSends_0 X _ I J b x (by (try simp only [trM_R, stM_R, trR_R, stR_R, List.length_cons, List.length_nil]); omega) hk hb) rfl rfl (Nat.le_of_ble_eq_true rfl) (Nat.le_of_ble_eq_true rfl) ?_
  refine rz_iret dX12_sending_83 rfl ?_
  exact ⟨_, rfl, rfl, rfl, rfl⟩
set_option maxRecDepth 20000 in
set_option maxHeartbeats 400000 in
theorem c_act_0_1 (X : pX) (h : Nat) (I J : IM) (b x : Int) (hb : 0 ≤ b ∧ b ≤ I 81 51 - 1) (h5 : I 81 51 ≤ 50) (hk : I 116 b.toNat = 0) : KI X (h + 5) mX12_act [.ref 81, zi b, zi 1, zi x] I J (((x + b) * 2)) (trR (upA I 81 (up1 (I 81) 53 0)) [10, 1]) J := by
  show Rz X (h + 5) mX12_act 0 [some (.ref 81), some (zi b), some (zi 1), some (zi x)] [] I J _
  refine rz_aload_n dX12_act_0 rfl ?_
  refine rz_iconst dX12_act_1 ?_
  refine rz_putI dX12_act_2 kp_RX12_377 hd_81 rfl ?_
  refine rz_mem (I' := (upA I 81 (up1 (I 81) 53 0))) (J' := J) (rfl) (rfl) ?_
  refine rz_aload_n dX12_act_5 rfl ?_
  refine rz_iload_n dX12_act_6 rfl ?_
  refine rz_cVIq dX12_act_7 kl_RX12_416 hd_81 ⟨_, _, rfl⟩ (c_X12_isBody X _ (upA I 81 (up1 (I 81) 53 0)) J b (by omega) (by show 0 ≤ I 81 51 ∧ I 81 51 ≤ 50; omega)) rfl rfl (Nat.le_of_ble_eq_true rfl) (Nat.le_of_ble_eq_true rfl) ?_
  rintro z7 A7 B7 ⟨⟨rfl, b7⟩ | ⟨rfl, b7⟩, rfl, rfl⟩
  · refine rz_if_eq (t := 22) dX12_act_10 rfl (by omega) (fun q => absurd q (by decide)) (fun _ => ?_)
    refine rz_iload_n dX12_act_13 rfl ?_
    refine rz_iconst dX12_act_14 ?_
    refine rz_iconst dX12_act_15 ?_
    refine rz_cSIq dX12_act_16 kl_RX12_140 (c_X12_in X _ (upA I 81 (up1 (I 81) 53 0)) J 1 0 3 (by omega) (by omega) (by omega)) rfl rfl (Nat.le_of_ble_eq_true rfl) (Nat.le_of_ble_eq_true rfl) ?_
    rintro z16 A16 B16 ⟨⟨rfl, b16⟩ | ⟨rfl, b16⟩, rfl, rfl⟩
    · refine rz_if_ne (t := 24) dX12_act_19 rfl (by omega) (fun _ => ?_) (fun q => absurd q (by decide))
      refine rz_iload_n dX12_act_24 rfl ?_
      refine rz_if_ne (t := 37) dX12_act_25 rfl (by omega) (fun _ => ?_) (fun q => absurd q (by decide))
      refine rz_iload_n dX12_act_37 rfl ?_
      refine rz_iconst dX12_act_38 ?_
      refine rz_icmp_ne (t := 51) dX12_act_39 rfl (by omega) (by omega) (fun q => absurd q (by decide)) (fun _ => ?_)
      refine rz_aload_n dX12_act_42 rfl ?_
      refine rz_iload_n dX12_act_43 rfl ?_
      refine rz_iload_n dX12_act_44 rfl ?_
      refine rz_cVI dX12_act_45 kl_RX12_407 hd_81 ⟨_, _, rfl⟩ (c_X12_sending_0 X _ (upA I 81 (up1 (I 81) 53 0)) J b x (by show (0 : Int) ≤ 0 ∧ (0 : Int) ≤ _; omega) hk (by omega)) rfl rfl (Nat.le_of_ble_eq_true rfl) (Nat.le_of_ble_eq_true rfl) ?_
      refine rz_goto (t := 71) dX12_act_48 rfl ?_
      refine rz_iret dX12_act_71 rfl ?_
      exact ⟨_, rfl, rfl, rfl, rfl⟩
    · exfalso; omega
  · exact absurd (show 0 ≤ b ∧ b ≤ I 81 51 - 1 by omega) b7
set_option maxRecDepth 20000 in
set_option maxHeartbeats 400000 in
theorem c_X12_plainWins_0 (X : pX) (h : Nat) (I J : IM) (b x : Int) (hR : 0 ≤ I 81 53 ∧ I 81 53 ≤ 23) (hk : I 116 b.toNat = 0) (hb : 0 ≤ b ∧ b < 50) : KI X (h + 1) mX12_plainWins [.ref 81, zi b, zi x] I J ((xorZ x b)) (trR I [11]) J := by
  show Rz X (h + 1) mX12_plainWins 0 [some (.ref 81), some (zi b), some (zi x)] [] I J _
  refine rz_aload_n dX12_plainWins_0 rfl ?_
  refine rz_bipush dX12_plainWins_1 (by decide) ?_
  refine rz_cVV dX12_plainWins_3 kl_RX12_380 hd_81 ⟨_, _, rfl⟩ (c_X12_ran X _ I J 11 (by (try simp only [trM_R, stM_R, trR_R, stR_R, List.length_cons, List.length_nil]); omega)) rfl rfl (Nat.le_of_ble_eq_true rfl) (Nat.le_of_ble_eq_true rfl) ?_
  refine rz_iload_n dX12_plainWins_6 rfl ?_
  refine rz_iload_n dX12_plainWins_7 rfl ?_
  refine rz_ixor dX12_plainWins_8 ?_
  refine rz_iret dX12_plainWins_9 rfl ?_
  exact ⟨_, rfl, rfl, rfl, rfl⟩
set_option maxRecDepth 20000 in
set_option maxHeartbeats 400000 in
theorem c_X12_winning_0 (X : pX) (h : Nat) (I J : IM) (b x : Int) (hR : 0 ≤ I 81 53 ∧ I 81 53 ≤ 23) (hk : I 116 b.toNat = 0) (hb : 0 ≤ b ∧ b < 50) : KI X (h + 2) mX12_winning [.ref 81, zi b, zi x] I J ((xorZ x b)) (trR I [11]) J := by
  show Rz X (h + 2) mX12_winning 0 [some (.ref 81), some (zi b), some (zi x), none] [] I J _
  refine rz_aload_n dX12_winning_0 rfl ?_
  refine rz_getR dX12_winning_1 kf_RX12_114 hd_81 rfl rr_81_52 ?_
  refine rz_iload_n dX12_winning_4 rfl ?_
  refine rz_iald (z := 0) dX12_winning_5 hd_116 (by decide) (by omega) hk ?_
  refine rz_iconst dX12_winning_6 ?_
  refine rz_icmp_ne (t := 25) dX12_winning_7 rfl (by omega) (by omega) (fun _ => ?_) (fun q => absurd q (by decide))
  refine rz_aload_n dX12_winning_25 rfl ?_
  refine rz_getR dX12_winning_26 kf_RX12_114 hd_81 rfl rr_81_52 ?_
  refine rz_iload_n dX12_winning_29 rfl ?_
  refine rz_iald (z := 0) dX12_winning_30 hd_116 (by decide) (by omega) hk ?_
  refine rz_iconst dX12_winning_31 ?_
  refine rz_icmp_ne (t := 57) dX12_winning_32 rfl (by omega) (by omega) (fun _ => ?_) (fun q => absurd q (by decide))
  refine rz_aload_n dX12_winning_57 rfl ?_
  refine rz_iload_n dX12_winning_58 rfl ?_
  refine rz_iload_n dX12_winning_59 rfl ?_
  refine rz_cVI dX12_winning_60 kl_RX12_404 hd_81 ⟨_, _, rfl⟩ (c_X12_plainWins_0 X _ I J b x (by (try simp only [trM_R, stM_R, trR_R, stR_R, List.length_cons, List.length_nil]); omega) hk hb) rfl rfl (Nat.le_of_ble_eq_true rfl) (Nat.le_of_ble_eq_true rfl) ?_
  refine rz_iret dX12_winning_63 rfl ?_
  exact ⟨_, rfl, rfl, rfl, rfl⟩
set_option maxRecDepth 20000 in
set_option maxHeartbeats 400000 in
theorem c_act_0_2 (X : pX) (h : Nat) (I J : IM) (b x : Int) (hb : 0 ≤ b ∧ b ≤ I 81 51 - 1) (h5 : I 81 51 ≤ 50) (hk : I 116 b.toNat = 0) : KI X (h + 3) mX12_act [.ref 81, zi b, zi 2, zi x] I J ((xorZ x b)) (trR (upA I 81 (up1 (I 81) 53 0)) [11]) J := by
  show Rz X (h + 3) mX12_act 0 [some (.ref 81), some (zi b), some (zi 2), some (zi x)] [] I J _
  refine rz_aload_n dX12_act_0 rfl ?_
  refine rz_iconst dX12_act_1 ?_
  refine rz_putI dX12_act_2 kp_RX12_377 hd_81 rfl ?_
  refine rz_mem (I' := (upA I 81 (up1 (I 81) 53 0))) (J' := J) (rfl) (rfl) ?_
  refine rz_aload_n dX12_act_5 rfl ?_
  refine rz_iload_n dX12_act_6 rfl ?_
  refine rz_cVIq dX12_act_7 kl_RX12_416 hd_81 ⟨_, _, rfl⟩ (c_X12_isBody X _ (upA I 81 (up1 (I 81) 53 0)) J b (by omega) (by show 0 ≤ I 81 51 ∧ I 81 51 ≤ 50; omega)) rfl rfl (Nat.le_of_ble_eq_true rfl) (Nat.le_of_ble_eq_true rfl) ?_
  rintro z7 A7 B7 ⟨⟨rfl, b7⟩ | ⟨rfl, b7⟩, rfl, rfl⟩
  · refine rz_if_eq (t := 22) dX12_act_10 rfl (by omega) (fun q => absurd q (by decide)) (fun _ => ?_)
    refine rz_iload_n dX12_act_13 rfl ?_
    refine rz_iconst dX12_act_14 ?_
    refine rz_iconst dX12_act_15 ?_
    refine rz_cSIq dX12_act_16 kl_RX12_140 (c_X12_in X _ (upA I 81 (up1 (I 81) 53 0)) J 2 0 3 (by omega) (by omega) (by omega)) rfl rfl (Nat.le_of_ble_eq_true rfl) (Nat.le_of_ble_eq_true rfl) ?_
    rintro z16 A16 B16 ⟨⟨rfl, b16⟩ | ⟨rfl, b16⟩, rfl, rfl⟩
    · refine rz_if_ne (t := 24) dX12_act_19 rfl (by omega) (fun _ => ?_) (fun q => absurd q (by decide))
      refine rz_iload_n dX12_act_24 rfl ?_
      refine rz_if_ne (t := 37) dX12_act_25 rfl (by omega) (fun _ => ?_) (fun q => absurd q (by decide))
      refine rz_iload_n dX12_act_37 rfl ?_
      refine rz_iconst dX12_act_38 ?_
      refine rz_icmp_ne (t := 51) dX12_act_39 rfl (by omega) (by omega) (fun _ => ?_) (fun q => absurd q (by decide))
      refine rz_iload_n dX12_act_51 rfl ?_
      refine rz_iconst dX12_act_52 ?_
      refine rz_icmp_ne (t := 65) dX12_act_53 rfl (by omega) (by omega) (fun q => absurd q (by decide)) (fun _ => ?_)
      refine rz_aload_n dX12_act_56 rfl ?_
      refine rz_iload_n dX12_act_57 rfl ?_
      refine rz_iload_n dX12_act_58 rfl ?_
      refine rz_cVI dX12_act_59 kl_RX12_401 hd_81 ⟨_, _, rfl⟩ (c_X12_winning_0 X _ (upA I 81 (up1 (I 81) 53 0)) J b x (by show (0 : Int) ≤ 0 ∧ (0 : Int) ≤ _; omega) hk (by omega)) rfl rfl (Nat.le_of_ble_eq_true rfl) (Nat.le_of_ble_eq_true rfl) ?_
      refine rz_goto (t := 71) dX12_act_62 rfl ?_
      refine rz_iret dX12_act_71 rfl ?_
      exact ⟨_, rfl, rfl, rfl, rfl⟩
    · exfalso; omega
  · exact absurd (show 0 ≤ b ∧ b ≤ I 81 51 - 1 by omega) b7
set_option maxRecDepth 20000 in
set_option maxHeartbeats 400000 in
theorem c_X12_plainLearns_0 (X : pX) (h : Nat) (I J : IM) (b x : Int) (hR : 0 ≤ I 81 53 ∧ I 81 53 ≤ 20) (hk : I 116 b.toNat = 0) (hb : 0 ≤ b ∧ b < 50) : KI X (h + 5) mX12_plainLearns [.ref 81, zi b, zi x] I J ((((x + b) * 2) - (xorZ 1 b))) (trR I [2, 10, 1, 11]) J := by
  show Rz X (h + 5) mX12_plainLearns 0 [some (.ref 81), some (zi b), some (zi x), none] [] I J _
  refine rz_aload_n dX12_plainLearns_0 rfl ?_
  refine rz_iconst dX12_plainLearns_1 ?_
  refine rz_cVV dX12_plainLearns_2 kl_RX12_380 hd_81 ⟨_, _, rfl⟩ (c_X12_ran X _ I J 2 (by (try simp only [trM_R, stM_R, trR_R, stR_R, List.length_cons, List.length_nil]); omega)) rfl rfl (Nat.le_of_ble_eq_true rfl) (Nat.le_of_ble_eq_true rfl) ?_
  refine rz_aload_n dX12_plainLearns_5 rfl ?_
  refine rz_iload_n dX12_plainLearns_6 rfl ?_
  refine rz_iload_n dX12_plainLearns_7 rfl ?_
  refine rz_cVI dX12_plainLearns_8 kl_RX12_407 hd_81 ⟨_, _, rfl⟩ (c_X12_sending_0 X _ (stR I 2) J b x (by (try simp only [trM_R, stM_R, trR_R, stR_R, List.length_cons, List.length_nil]); omega) hk hb) rfl rfl (Nat.le_of_ble_eq_true rfl) (Nat.le_of_ble_eq_true rfl) ?_
  refine rz_istore_n dX12_plainLearns_11 (by decide) rfl ?_
  refine rz_iload_n dX12_plainLearns_12 rfl ?_
  refine rz_aload_n dX12_plainLearns_13 rfl ?_
  refine rz_iload_n dX12_plainLearns_14 rfl ?_
  refine rz_iconst dX12_plainLearns_15 ?_
  refine rz_cVI dX12_plainLearns_16 kl_RX12_401 hd_81 ⟨_, _, rfl⟩ (c_X12_winning_0 X _ (trR (stR I 2) [10, 1]) J b 1 (by (try simp only [trM_R, stM_R, trR_R, stR_R, List.length_cons, List.length_nil]); omega) hk hb) rfl rfl (Nat.le_of_ble_eq_true rfl) (Nat.le_of_ble_eq_true rfl) ?_
  refine rz_isub dX12_plainLearns_19 ?_
  refine rz_iret dX12_plainLearns_20 rfl ?_
  exact ⟨_, rfl, rfl, rfl, rfl⟩
set_option maxRecDepth 20000 in
set_option maxHeartbeats 400000 in
theorem c_X12_learning_0 (X : pX) (h : Nat) (I J : IM) (b x : Int) (hR : 0 ≤ I 81 53 ∧ I 81 53 ≤ 20) (hk : I 116 b.toNat = 0) (hb : 0 ≤ b ∧ b < 50) : KI X (h + 6) mX12_learning [.ref 81, zi b, zi x] I J ((((x + b) * 2) - (xorZ 1 b))) (trR I [2, 10, 1, 11]) J := by
  show Rz X (h + 6) mX12_learning 0 [some (.ref 81), some (zi b), some (zi x)] [] I J _
  refine rz_aload_n dX12_learning_0 rfl ?_
  refine rz_getR dX12_learning_1 kf_RX12_114 hd_81 rfl rr_81_52 ?_
  refine rz_iload_n dX12_learning_4 rfl ?_
  refine rz_iald (z := 0) dX12_learning_5 hd_116 (by decide) (by omega) hk ?_
  refine rz_iconst dX12_learning_6 ?_
  refine rz_icmp_ne (t := 25) dX12_learning_7 rfl (by omega) (by omega) (fun _ => ?_) (fun q => absurd q (by decide))
  refine rz_aload_n dX12_learning_25 rfl ?_
  refine rz_getR dX12_learning_26 kf_RX12_114 hd_81 rfl rr_81_52 ?_
  refine rz_iload_n dX12_learning_29 rfl ?_
  refine rz_iald (z := 0) dX12_learning_30 hd_116 (by decide) (by omega) hk ?_
  refine rz_iconst dX12_learning_31 ?_
  refine rz_icmp_ne (t := 44) dX12_learning_32 rfl (by omega) (by omega) (fun _ => ?_) (fun q => absurd q (by decide))
  refine rz_aload_n dX12_learning_44 rfl ?_
  refine rz_iload_n dX12_learning_45 rfl ?_
  refine rz_iload_n dX12_learning_46 rfl ?_
  refine rz_cVI dX12_learning_47 kl_RX12_410 hd_81 ⟨_, _, rfl⟩ (c_X12_plainLearns_0 X _ I J b x (by (try simp only [trM_R, stM_R, trR_R, stR_R, List.length_cons, List.length_nil]); omega) hk hb) rfl rfl (Nat.le_of_ble_eq_true rfl) (Nat.le_of_ble_eq_true rfl) ?_
  refine rz_iret dX12_learning_50 rfl ?_
  exact ⟨_, rfl, rfl, rfl, rfl⟩
set_option maxRecDepth 20000 in
set_option maxHeartbeats 400000 in
theorem c_act_0_3 (X : pX) (h : Nat) (I J : IM) (b x : Int) (hb : 0 ≤ b ∧ b ≤ I 81 51 - 1) (h5 : I 81 51 ≤ 50) (hk : I 116 b.toNat = 0) : KI X (h + 7) mX12_act [.ref 81, zi b, zi 3, zi x] I J ((((x + b) * 2) - (xorZ 1 b))) (trR (upA I 81 (up1 (I 81) 53 0)) [2, 10, 1, 11]) J := by
  show Rz X (h + 7) mX12_act 0 [some (.ref 81), some (zi b), some (zi 3), some (zi x)] [] I J _
  refine rz_aload_n dX12_act_0 rfl ?_
  refine rz_iconst dX12_act_1 ?_
  refine rz_putI dX12_act_2 kp_RX12_377 hd_81 rfl ?_
  refine rz_mem (I' := (upA I 81 (up1 (I 81) 53 0))) (J' := J) (rfl) (rfl) ?_
  refine rz_aload_n dX12_act_5 rfl ?_
  refine rz_iload_n dX12_act_6 rfl ?_
  refine rz_cVIq dX12_act_7 kl_RX12_416 hd_81 ⟨_, _, rfl⟩ (c_X12_isBody X _ (upA I 81 (up1 (I 81) 53 0)) J b (by omega) (by show 0 ≤ I 81 51 ∧ I 81 51 ≤ 50; omega)) rfl rfl (Nat.le_of_ble_eq_true rfl) (Nat.le_of_ble_eq_true rfl) ?_
  rintro z7 A7 B7 ⟨⟨rfl, b7⟩ | ⟨rfl, b7⟩, rfl, rfl⟩
  · refine rz_if_eq (t := 22) dX12_act_10 rfl (by omega) (fun q => absurd q (by decide)) (fun _ => ?_)
    refine rz_iload_n dX12_act_13 rfl ?_
    refine rz_iconst dX12_act_14 ?_
    refine rz_iconst dX12_act_15 ?_
    refine rz_cSIq dX12_act_16 kl_RX12_140 (c_X12_in X _ (upA I 81 (up1 (I 81) 53 0)) J 3 0 3 (by omega) (by omega) (by omega)) rfl rfl (Nat.le_of_ble_eq_true rfl) (Nat.le_of_ble_eq_true rfl) ?_
    rintro z16 A16 B16 ⟨⟨rfl, b16⟩ | ⟨rfl, b16⟩, rfl, rfl⟩
    · refine rz_if_ne (t := 24) dX12_act_19 rfl (by omega) (fun _ => ?_) (fun q => absurd q (by decide))
      refine rz_iload_n dX12_act_24 rfl ?_
      refine rz_if_ne (t := 37) dX12_act_25 rfl (by omega) (fun _ => ?_) (fun q => absurd q (by decide))
      refine rz_iload_n dX12_act_37 rfl ?_
      refine rz_iconst dX12_act_38 ?_
      refine rz_icmp_ne (t := 51) dX12_act_39 rfl (by omega) (by omega) (fun _ => ?_) (fun q => absurd q (by decide))
      refine rz_iload_n dX12_act_51 rfl ?_
      refine rz_iconst dX12_act_52 ?_
      refine rz_icmp_ne (t := 65) dX12_act_53 rfl (by omega) (by omega) (fun _ => ?_) (fun q => absurd q (by decide))
      refine rz_aload_n dX12_act_65 rfl ?_
      refine rz_iload_n dX12_act_66 rfl ?_
      refine rz_iload_n dX12_act_67 rfl ?_
      refine rz_cVI dX12_act_68 kl_RX12_419 hd_81 ⟨_, _, rfl⟩ (c_X12_learning_0 X _ (upA I 81 (up1 (I 81) 53 0)) J b x (by show (0 : Int) ≤ 0 ∧ (0 : Int) ≤ _; omega) hk (by omega)) rfl rfl (Nat.le_of_ble_eq_true rfl) (Nat.le_of_ble_eq_true rfl) ?_
      refine rz_iret dX12_act_71 rfl ?_
      exact ⟨_, rfl, rfl, rfl, rfl⟩
    · exfalso; omega
  · exact absurd (show 0 ≤ b ∧ b ≤ I 81 51 - 1 by omega) b7
set_option maxRecDepth 20000 in
set_option maxHeartbeats 400000 in
theorem c_X12_plainParts_1 (X : pX) (h : Nat) (I J : IM) (b x : Int) (hR : 0 ≤ I 81 53 ∧ I 81 53 ≤ 23) (hk : I 116 b.toNat = 1) (hb : 0 ≤ b ∧ b < 50) : KI X (h + 1) mX12_plainParts [.ref 81, zi b, zi x] I J ((x + b)) (trR I [1]) J := by
  show Rz X (h + 1) mX12_plainParts 0 [some (.ref 81), some (zi b), some (zi x)] [] I J _
  refine rz_aload_n dX12_plainParts_0 rfl ?_
  refine rz_iconst dX12_plainParts_1 ?_
  refine rz_cVV dX12_plainParts_2 kl_RX12_380 hd_81 ⟨_, _, rfl⟩ (c_X12_ran X _ I J 1 (by (try simp only [trM_R, stM_R, trR_R, stR_R, List.length_cons, List.length_nil]); omega)) rfl rfl (Nat.le_of_ble_eq_true rfl) (Nat.le_of_ble_eq_true rfl) ?_
  refine rz_iload_n dX12_plainParts_5 rfl ?_
  refine rz_iload_n dX12_plainParts_6 rfl ?_
  refine rz_iadd dX12_plainParts_7 ?_
  refine rz_iret dX12_plainParts_8 rfl ?_
  exact ⟨_, rfl, rfl, rfl, rfl⟩
set_option maxRecDepth 20000 in
set_option maxHeartbeats 400000 in
theorem c_X12_parting_1 (X : pX) (h : Nat) (I J : IM) (b x : Int) (hR : 0 ≤ I 81 53 ∧ I 81 53 ≤ 22) (hk : I 116 b.toNat = 1) (hb : 0 ≤ b ∧ b < 50) : KI X (h + 2) mX12_parting [.ref 81, zi b, zi x] I J (((x + b) + 3)) (trR I [20, 1]) J := by
  show Rz X (h + 2) mX12_parting 0 [some (.ref 81), some (zi b), some (zi x)] [] I J _
  refine rz_aload_n dX12_parting_0 rfl ?_
  refine rz_getR dX12_parting_1 kf_RX12_114 hd_81 rfl rr_81_52 ?_
  refine rz_iload_n dX12_parting_4 rfl ?_
  refine rz_iald (z := 1) dX12_parting_5 hd_116 (by decide) (by omega) hk ?_
  refine rz_iconst dX12_parting_6 ?_
  refine rz_cSIq dX12_parting_7 kl_RX12_386 (c_X12_isUnder X _ I J 1 1 (by omega) (by omega)) rfl rfl (Nat.le_of_ble_eq_true rfl) (Nat.le_of_ble_eq_true rfl) ?_
  rintro z7 A7 B7 ⟨⟨rfl, b7⟩ | ⟨rfl, b7⟩, rfl, rfl⟩
  · refine rz_if_eq (t := 28) dX12_parting_10 rfl (by omega) (fun q => absurd q (by decide)) (fun _ => ?_)
    refine rz_aload_n dX12_parting_13 rfl ?_
    refine rz_bipush dX12_parting_14 (by decide) ?_
    refine rz_cVV dX12_parting_16 kl_RX12_380 hd_81 ⟨_, _, rfl⟩ (c_X12_ran X _ I J 20 (by (try simp only [trM_R, stM_R, trR_R, stR_R, List.length_cons, List.length_nil]); omega)) rfl rfl (Nat.le_of_ble_eq_true rfl) (Nat.le_of_ble_eq_true rfl) ?_
    refine rz_aload_n dX12_parting_19 rfl ?_
    refine rz_iload_n dX12_parting_20 rfl ?_
    refine rz_iload_n dX12_parting_21 rfl ?_
    refine rz_cVI dX12_parting_22 kl_RX12_383 hd_81 ⟨_, _, rfl⟩ (c_X12_plainParts_1 X _ (stR I 20) J b x (by (try simp only [trM_R, stM_R, trR_R, stR_R, List.length_cons, List.length_nil]); omega) hk hb) rfl rfl (Nat.le_of_ble_eq_true rfl) (Nat.le_of_ble_eq_true rfl) ?_
    refine rz_iconst dX12_parting_25 ?_
    refine rz_iadd dX12_parting_26 ?_
    refine rz_iret dX12_parting_27 rfl ?_
    exact ⟨_, rfl, rfl, rfl, rfl⟩
  · exfalso; omega
set_option maxRecDepth 20000 in
set_option maxHeartbeats 400000 in
theorem c_act_1_0 (X : pX) (h : Nat) (I J : IM) (b x : Int) (hb : 0 ≤ b ∧ b ≤ I 81 51 - 1) (h5 : I 81 51 ≤ 50) (hk : I 116 b.toNat = 1) : KI X (h + 3) mX12_act [.ref 81, zi b, zi 0, zi x] I J (((x + b) + 3)) (trR (upA I 81 (up1 (I 81) 53 0)) [20, 1]) J := by
  show Rz X (h + 3) mX12_act 0 [some (.ref 81), some (zi b), some (zi 0), some (zi x)] [] I J _
  refine rz_aload_n dX12_act_0 rfl ?_
  refine rz_iconst dX12_act_1 ?_
  refine rz_putI dX12_act_2 kp_RX12_377 hd_81 rfl ?_
  refine rz_mem (I' := (upA I 81 (up1 (I 81) 53 0))) (J' := J) (rfl) (rfl) ?_
  refine rz_aload_n dX12_act_5 rfl ?_
  refine rz_iload_n dX12_act_6 rfl ?_
  refine rz_cVIq dX12_act_7 kl_RX12_416 hd_81 ⟨_, _, rfl⟩ (c_X12_isBody X _ (upA I 81 (up1 (I 81) 53 0)) J b (by omega) (by show 0 ≤ I 81 51 ∧ I 81 51 ≤ 50; omega)) rfl rfl (Nat.le_of_ble_eq_true rfl) (Nat.le_of_ble_eq_true rfl) ?_
  rintro z7 A7 B7 ⟨⟨rfl, b7⟩ | ⟨rfl, b7⟩, rfl, rfl⟩
  · refine rz_if_eq (t := 22) dX12_act_10 rfl (by omega) (fun q => absurd q (by decide)) (fun _ => ?_)
    refine rz_iload_n dX12_act_13 rfl ?_
    refine rz_iconst dX12_act_14 ?_
    refine rz_iconst dX12_act_15 ?_
    refine rz_cSIq dX12_act_16 kl_RX12_140 (c_X12_in X _ (upA I 81 (up1 (I 81) 53 0)) J 0 0 3 (by omega) (by omega) (by omega)) rfl rfl (Nat.le_of_ble_eq_true rfl) (Nat.le_of_ble_eq_true rfl) ?_
    rintro z16 A16 B16 ⟨⟨rfl, b16⟩ | ⟨rfl, b16⟩, rfl, rfl⟩
    · refine rz_if_ne (t := 24) dX12_act_19 rfl (by omega) (fun _ => ?_) (fun q => absurd q (by decide))
      refine rz_iload_n dX12_act_24 rfl ?_
      refine rz_if_ne (t := 37) dX12_act_25 rfl (by omega) (fun q => absurd q (by decide)) (fun _ => ?_)
      refine rz_aload_n dX12_act_28 rfl ?_
      refine rz_iload_n dX12_act_29 rfl ?_
      refine rz_iload_n dX12_act_30 rfl ?_
      refine rz_cVI dX12_act_31 kl_RX12_392 hd_81 ⟨_, _, rfl⟩ (c_X12_parting_1 X _ (upA I 81 (up1 (I 81) 53 0)) J b x (by show (0 : Int) ≤ 0 ∧ (0 : Int) ≤ _; omega) hk (by omega)) rfl rfl (Nat.le_of_ble_eq_true rfl) (Nat.le_of_ble_eq_true rfl) ?_
      refine rz_goto (t := 71) dX12_act_34 rfl ?_
      refine rz_iret dX12_act_71 rfl ?_
      exact ⟨_, rfl, rfl, rfl, rfl⟩
    · exfalso; omega
  · exact absurd (show 0 ≤ b ∧ b ≤ I 81 51 - 1 by omega) b7
set_option maxRecDepth 20000 in
set_option maxHeartbeats 400000 in
theorem c_X12_plainSends_1 (X : pX) (h : Nat) (I J : IM) (b x : Int) (hR : 0 ≤ I 81 53 ∧ I 81 53 ≤ 21) (hk : I 116 b.toNat = 1) (hb : 0 ≤ b ∧ b < 50) : KI X (h + 3) mX12_plainSends [.ref 81, zi b, zi x] I J ((((x + b) + 3) * 2)) (trR I [10, 20, 1]) J := by
  show Rz X (h + 3) mX12_plainSends 0 [some (.ref 81), some (zi b), some (zi x)] [] I J _
  refine rz_aload_n dX12_plainSends_0 rfl ?_
  refine rz_bipush dX12_plainSends_1 (by decide) ?_
  refine rz_cVV dX12_plainSends_3 kl_RX12_380 hd_81 ⟨_, _, rfl⟩ (c_X12_ran X _ I J 10 (by (try simp only [trM_R, stM_R, trR_R, stR_R, List.length_cons, List.length_nil]); omega)) rfl rfl (Nat.le_of_ble_eq_true rfl) (Nat.le_of_ble_eq_true rfl) ?_
  refine rz_aload_n dX12_plainSends_6 rfl ?_
  refine rz_iload_n dX12_plainSends_7 rfl ?_
  refine rz_iload_n dX12_plainSends_8 rfl ?_
  refine rz_cVI dX12_plainSends_9 kl_RX12_392 hd_81 ⟨_, _, rfl⟩ (c_X12_parting_1 X _ (stR I 10) J b x (by (try simp only [trM_R, stM_R, trR_R, stR_R, List.length_cons, List.length_nil]); omega) hk hb) rfl rfl (Nat.le_of_ble_eq_true rfl) (Nat.le_of_ble_eq_true rfl) ?_
  refine rz_iconst dX12_plainSends_12 ?_
  refine rz_imul dX12_plainSends_13 ?_
  refine rz_iret dX12_plainSends_14 rfl ?_
  exact ⟨_, rfl, rfl, rfl, rfl⟩
set_option maxRecDepth 20000 in
set_option maxHeartbeats 400000 in
theorem c_X12_sending_1 (X : pX) (h : Nat) (I J : IM) (b x : Int) (hR : 0 ≤ I 81 53 ∧ I 81 53 ≤ 21) (hk : I 116 b.toNat = 1) (hb : 0 ≤ b ∧ b < 50) : KI X (h + 4) mX12_sending [.ref 81, zi b, zi x] I J ((((x + b) + 3) * 2)) (trR I [10, 20, 1]) J := by
  show Rz X (h + 4) mX12_sending 0 [some (.ref 81), some (zi b), some (zi x), none] [] I J _
  refine rz_aload_n dX12_sending_0 rfl ?_
  refine rz_getR dX12_sending_1 kf_RX12_114 hd_81 rfl rr_81_52 ?_
  refine rz_iload_n dX12_sending_4 rfl ?_
  refine rz_iald (z := 1) dX12_sending_5 hd_116 (by decide) (by omega) hk ?_
  refine rz_iconst dX12_sending_6 ?_
  refine rz_icmp_ne (t := 25) dX12_sending_7 rfl (by omega) (by omega) (fun _ => ?_) (fun q => absurd q (by decide))
  refine rz_aload_n dX12_sending_25 rfl ?_
  refine rz_getR dX12_sending_26 kf_RX12_114 hd_81 rfl rr_81_52 ?_
  refine rz_iload_n dX12_sending_29 rfl ?_
  refine rz_iald (z := 1) dX12_sending_30 hd_116 (by decide) (by omega) hk ?_
  refine rz_bipush dX12_sending_31 (by decide) ?_
  refine rz_icmp_ne (t := 58) dX12_sending_33 rfl (by omega) (by omega) (fun _ => ?_) (fun q => absurd q (by decide))
  refine rz_aload_n dX12_sending_58 rfl ?_
  refine rz_getR dX12_sending_59 kf_RX12_114 hd_81 rfl rr_81_52 ?_
  refine rz_iload_n dX12_sending_62 rfl ?_
  refine rz_iald (z := 1) dX12_sending_63 hd_116 (by decide) (by omega) hk ?_
  refine rz_iconst dX12_sending_64 ?_
  refine rz_icmp_ne (t := 77) dX12_sending_65 rfl (by omega) (by omega) (fun _ => ?_) (fun q => absurd q (by decide))
  refine rz_aload_n dX12_sending_77 rfl ?_
  refine rz_iload_n dX12_sending_78 rfl ?_
  refine rz_iload_n dX12_sending_79 rfl ?_
  refine rz_cVI dX12_sending_80 kl_RX12_395 hd_81 ⟨_, _, rfl⟩ (c_X12_plainSends_1 X _ I J b x (by (try simp only [trM_R, stM_R, trR_R, stR_R, List.length_cons, List.length_nil]); omega) hk hb) rfl rfl (Nat.le_of_ble_eq_true rfl) (Nat.le_of_ble_eq_true rfl) ?_
  refine rz_iret dX12_sending_83 rfl ?_
  exact ⟨_, rfl, rfl, rfl, rfl⟩
set_option maxRecDepth 20000 in
set_option maxHeartbeats 400000 in
theorem c_act_1_1 (X : pX) (h : Nat) (I J : IM) (b x : Int) (hb : 0 ≤ b ∧ b ≤ I 81 51 - 1) (h5 : I 81 51 ≤ 50) (hk : I 116 b.toNat = 1) : KI X (h + 5) mX12_act [.ref 81, zi b, zi 1, zi x] I J ((((x + b) + 3) * 2)) (trR (upA I 81 (up1 (I 81) 53 0)) [10, 20, 1]) J := by
  show Rz X (h + 5) mX12_act 0 [some (.ref 81), some (zi b), some (zi 1), some (zi x)] [] I J _
  refine rz_aload_n dX12_act_0 rfl ?_
  refine rz_iconst dX12_act_1 ?_
  refine rz_putI dX12_act_2 kp_RX12_377 hd_81 rfl ?_
  refine rz_mem (I' := (upA I 81 (up1 (I 81) 53 0))) (J' := J) (rfl) (rfl) ?_
  refine rz_aload_n dX12_act_5 rfl ?_
  refine rz_iload_n dX12_act_6 rfl ?_
  refine rz_cVIq dX12_act_7 kl_RX12_416 hd_81 ⟨_, _, rfl⟩ (c_X12_isBody X _ (upA I 81 (up1 (I 81) 53 0)) J b (by omega) (by show 0 ≤ I 81 51 ∧ I 81 51 ≤ 50; omega)) rfl rfl (Nat.le_of_ble_eq_true rfl) (Nat.le_of_ble_eq_true rfl) ?_
  rintro z7 A7 B7 ⟨⟨rfl, b7⟩ | ⟨rfl, b7⟩, rfl, rfl⟩
  · refine rz_if_eq (t := 22) dX12_act_10 rfl (by omega) (fun q => absurd q (by decide)) (fun _ => ?_)
    refine rz_iload_n dX12_act_13 rfl ?_
    refine rz_iconst dX12_act_14 ?_
    refine rz_iconst dX12_act_15 ?_
    refine rz_cSIq dX12_act_16 kl_RX12_140 (c_X12_in X _ (upA I 81 (up1 (I 81) 53 0)) J 1 0 3 (by omega) (by omega) (by omega)) rfl rfl (Nat.le_of_ble_eq_true rfl) (Nat.le_of_ble_eq_true rfl) ?_
    rintro z16 A16 B16 ⟨⟨rfl, b16⟩ | ⟨rfl, b16⟩, rfl, rfl⟩
    · refine rz_if_ne (t := 24) dX12_act_19 rfl (by omega) (fun _ => ?_) (fun q => absurd q (by decide))
      refine rz_iload_n dX12_act_24 rfl ?_
      refine rz_if_ne (t := 37) dX12_act_25 rfl (by omega) (fun _ => ?_) (fun q => absurd q (by decide))
      refine rz_iload_n dX12_act_37 rfl ?_
      refine rz_iconst dX12_act_38 ?_
      refine rz_icmp_ne (t := 51) dX12_act_39 rfl (by omega) (by omega) (fun q => absurd q (by decide)) (fun _ => ?_)
      refine rz_aload_n dX12_act_42 rfl ?_
      refine rz_iload_n dX12_act_43 rfl ?_
      refine rz_iload_n dX12_act_44 rfl ?_
      refine rz_cVI dX12_act_45 kl_RX12_407 hd_81 ⟨_, _, rfl⟩ (c_X12_sending_1 X _ (upA I 81 (up1 (I 81) 53 0)) J b x (by show (0 : Int) ≤ 0 ∧ (0 : Int) ≤ _; omega) hk (by omega)) rfl rfl (Nat.le_of_ble_eq_true rfl) (Nat.le_of_ble_eq_true rfl) ?_
      refine rz_goto (t := 71) dX12_act_48 rfl ?_
      refine rz_iret dX12_act_71 rfl ?_
      exact ⟨_, rfl, rfl, rfl, rfl⟩
    · exfalso; omega
  · exact absurd (show 0 ≤ b ∧ b ≤ I 81 51 - 1 by omega) b7
set_option maxRecDepth 20000 in
set_option maxHeartbeats 400000 in
theorem c_X12_plainWins_1 (X : pX) (h : Nat) (I J : IM) (b x : Int) (hR : 0 ≤ I 81 53 ∧ I 81 53 ≤ 23) (hk : I 116 b.toNat = 1) (hb : 0 ≤ b ∧ b < 50) : KI X (h + 1) mX12_plainWins [.ref 81, zi b, zi x] I J ((xorZ x b)) (trR I [11]) J := by
  show Rz X (h + 1) mX12_plainWins 0 [some (.ref 81), some (zi b), some (zi x)] [] I J _
  refine rz_aload_n dX12_plainWins_0 rfl ?_
  refine rz_bipush dX12_plainWins_1 (by decide) ?_
  refine rz_cVV dX12_plainWins_3 kl_RX12_380 hd_81 ⟨_, _, rfl⟩ (c_X12_ran X _ I J 11 (by (try simp only [trM_R, stM_R, trR_R, stR_R, List.length_cons, List.length_nil]); omega)) rfl rfl (Nat.le_of_ble_eq_true rfl) (Nat.le_of_ble_eq_true rfl) ?_
  refine rz_iload_n dX12_plainWins_6 rfl ?_
  refine rz_iload_n dX12_plainWins_7 rfl ?_
  refine rz_ixor dX12_plainWins_8 ?_
  refine rz_iret dX12_plainWins_9 rfl ?_
  exact ⟨_, rfl, rfl, rfl, rfl⟩
set_option maxRecDepth 20000 in
set_option maxHeartbeats 400000 in
theorem c_X12_winning_1 (X : pX) (h : Nat) (I J : IM) (b x : Int) (hR : 0 ≤ I 81 53 ∧ I 81 53 ≤ 23) (hk : I 116 b.toNat = 1) (hb : 0 ≤ b ∧ b < 50) : KI X (h + 2) mX12_winning [.ref 81, zi b, zi x] I J ((xorZ x b)) (trR I [11]) J := by
  show Rz X (h + 2) mX12_winning 0 [some (.ref 81), some (zi b), some (zi x), none] [] I J _
  refine rz_aload_n dX12_winning_0 rfl ?_
  refine rz_getR dX12_winning_1 kf_RX12_114 hd_81 rfl rr_81_52 ?_
  refine rz_iload_n dX12_winning_4 rfl ?_
  refine rz_iald (z := 1) dX12_winning_5 hd_116 (by decide) (by omega) hk ?_
  refine rz_iconst dX12_winning_6 ?_
  refine rz_icmp_ne (t := 25) dX12_winning_7 rfl (by omega) (by omega) (fun _ => ?_) (fun q => absurd q (by decide))
  refine rz_aload_n dX12_winning_25 rfl ?_
  refine rz_getR dX12_winning_26 kf_RX12_114 hd_81 rfl rr_81_52 ?_
  refine rz_iload_n dX12_winning_29 rfl ?_
  refine rz_iald (z := 1) dX12_winning_30 hd_116 (by decide) (by omega) hk ?_
  refine rz_iconst dX12_winning_31 ?_
  refine rz_icmp_ne (t := 57) dX12_winning_32 rfl (by omega) (by omega) (fun _ => ?_) (fun q => absurd q (by decide))
  refine rz_aload_n dX12_winning_57 rfl ?_
  refine rz_iload_n dX12_winning_58 rfl ?_
  refine rz_iload_n dX12_winning_59 rfl ?_
  refine rz_cVI dX12_winning_60 kl_RX12_404 hd_81 ⟨_, _, rfl⟩ (c_X12_plainWins_1 X _ I J b x (by (try simp only [trM_R, stM_R, trR_R, stR_R, List.length_cons, List.length_nil]); omega) hk hb) rfl rfl (Nat.le_of_ble_eq_true rfl) (Nat.le_of_ble_eq_true rfl) ?_
  refine rz_iret dX12_winning_63 rfl ?_
  exact ⟨_, rfl, rfl, rfl, rfl⟩
set_option maxRecDepth 20000 in
set_option maxHeartbeats 400000 in
theorem c_act_1_2 (X : pX) (h : Nat) (I J : IM) (b x : Int) (hb : 0 ≤ b ∧ b ≤ I 81 51 - 1) (h5 : I 81 51 ≤ 50) (hk : I 116 b.toNat = 1) : KI X (h + 3) mX12_act [.ref 81, zi b, zi 2, zi x] I J ((xorZ x b)) (trR (upA I 81 (up1 (I 81) 53 0)) [11]) J := by
  show Rz X (h + 3) mX12_act 0 [some (.ref 81), some (zi b), some (zi 2), some (zi x)] [] I J _
  refine rz_aload_n dX12_act_0 rfl ?_
  refine rz_iconst dX12_act_1 ?_
  refine rz_putI dX12_act_2 kp_RX12_377 hd_81 rfl ?_
  refine rz_mem (I' := (upA I 81 (up1 (I 81) 53 0))) (J' := J) (rfl) (rfl) ?_
  refine rz_aload_n dX12_act_5 rfl ?_
  refine rz_iload_n dX12_act_6 rfl ?_
  refine rz_cVIq dX12_act_7 kl_RX12_416 hd_81 ⟨_, _, rfl⟩ (c_X12_isBody X _ (upA I 81 (up1 (I 81) 53 0)) J b (by omega) (by show 0 ≤ I 81 51 ∧ I 81 51 ≤ 50; omega)) rfl rfl (Nat.le_of_ble_eq_true rfl) (Nat.le_of_ble_eq_true rfl) ?_
  rintro z7 A7 B7 ⟨⟨rfl, b7⟩ | ⟨rfl, b7⟩, rfl, rfl⟩
  · refine rz_if_eq (t := 22) dX12_act_10 rfl (by omega) (fun q => absurd q (by decide)) (fun _ => ?_)
    refine rz_iload_n dX12_act_13 rfl ?_
    refine rz_iconst dX12_act_14 ?_
    refine rz_iconst dX12_act_15 ?_
    refine rz_cSIq dX12_act_16 kl_RX12_140 (c_X12_in X _ (upA I 81 (up1 (I 81) 53 0)) J 2 0 3 (by omega) (by omega) (by omega)) rfl rfl (Nat.le_of_ble_eq_true rfl) (Nat.le_of_ble_eq_true rfl) ?_
    rintro z16 A16 B16 ⟨⟨rfl, b16⟩ | ⟨rfl, b16⟩, rfl, rfl⟩
    · refine rz_if_ne (t := 24) dX12_act_19 rfl (by omega) (fun _ => ?_) (fun q => absurd q (by decide))
      refine rz_iload_n dX12_act_24 rfl ?_
      refine rz_if_ne (t := 37) dX12_act_25 rfl (by omega) (fun _ => ?_) (fun q => absurd q (by decide))
      refine rz_iload_n dX12_act_37 rfl ?_
      refine rz_iconst dX12_act_38 ?_
      refine rz_icmp_ne (t := 51) dX12_act_39 rfl (by omega) (by omega) (fun _ => ?_) (fun q => absurd q (by decide))
      refine rz_iload_n dX12_act_51 rfl ?_
      refine rz_iconst dX12_act_52 ?_
      refine rz_icmp_ne (t := 65) dX12_act_53 rfl (by omega) (by omega) (fun q => absurd q (by decide)) (fun _ => ?_)
      refine rz_aload_n dX12_act_56 rfl ?_
      refine rz_iload_n dX12_act_57 rfl ?_
      refine rz_iload_n dX12_act_58 rfl ?_
      refine rz_cVI dX12_act_59 kl_RX12_401 hd_81 ⟨_, _, rfl⟩ (c_X12_winning_1 X _ (upA I 81 (up1 (I 81) 53 0)) J b x (by show (0 : Int) ≤ 0 ∧ (0 : Int) ≤ _; omega) hk (by omega)) rfl rfl (Nat.le_of_ble_eq_true rfl) (Nat.le_of_ble_eq_true rfl) ?_
      refine rz_goto (t := 71) dX12_act_62 rfl ?_
      refine rz_iret dX12_act_71 rfl ?_
      exact ⟨_, rfl, rfl, rfl, rfl⟩
    · exfalso; omega
  · exact absurd (show 0 ≤ b ∧ b ≤ I 81 51 - 1 by omega) b7
set_option maxRecDepth 20000 in
set_option maxHeartbeats 400000 in
theorem c_X12_plainLearns_1 (X : pX) (h : Nat) (I J : IM) (b x : Int) (hR : 0 ≤ I 81 53 ∧ I 81 53 ≤ 19) (hk : I 116 b.toNat = 1) (hb : 0 ≤ b ∧ b < 50) : KI X (h + 5) mX12_plainLearns [.ref 81, zi b, zi x] I J (((((x + b) + 3) * 2) - (xorZ 1 b))) (trR I [2, 10, 20, 1, 11]) J := by
  show Rz X (h + 5) mX12_plainLearns 0 [some (.ref 81), some (zi b), some (zi x), none] [] I J _
  refine rz_aload_n dX12_plainLearns_0 rfl ?_
  refine rz_iconst dX12_plainLearns_1 ?_
  refine rz_cVV dX12_plainLearns_2 kl_RX12_380 hd_81 ⟨_, _, rfl⟩ (c_X12_ran X _ I J 2 (by (try simp only [trM_R, stM_R, trR_R, stR_R, List.length_cons, List.length_nil]); omega)) rfl rfl (Nat.le_of_ble_eq_true rfl) (Nat.le_of_ble_eq_true rfl) ?_
  refine rz_aload_n dX12_plainLearns_5 rfl ?_
  refine rz_iload_n dX12_plainLearns_6 rfl ?_
  refine rz_iload_n dX12_plainLearns_7 rfl ?_
  refine rz_cVI dX12_plainLearns_8 kl_RX12_407 hd_81 ⟨_, _, rfl⟩ (c_X12_sending_1 X _ (stR I 2) J b x (by (try simp only [trM_R, stM_R, trR_R, stR_R, List.length_cons, List.length_nil]); omega) hk hb) rfl rfl (Nat.le_of_ble_eq_true rfl) (Nat.le_of_ble_eq_true rfl) ?_
  refine rz_istore_n dX12_plainLearns_11 (by decide) rfl ?_
  refine rz_iload_n dX12_plainLearns_12 rfl ?_
  refine rz_aload_n dX12_plainLearns_13 rfl ?_
  refine rz_iload_n dX12_plainLearns_14 rfl ?_
  refine rz_iconst dX12_plainLearns_15 ?_
  refine rz_cVI dX12_plainLearns_16 kl_RX12_401 hd_81 ⟨_, _, rfl⟩ (c_X12_winning_1 X _ (trR (stR I 2) [10, 20, 1]) J b 1 (by (try simp only [trM_R, stM_R, trR_R, stR_R, List.length_cons, List.length_nil]); omega) hk hb) rfl rfl (Nat.le_of_ble_eq_true rfl) (Nat.le_of_ble_eq_true rfl) ?_
  refine rz_isub dX12_plainLearns_19 ?_
  refine rz_iret dX12_plainLearns_20 rfl ?_
  exact ⟨_, rfl, rfl, rfl, rfl⟩
set_option maxRecDepth 20000 in
set_option maxHeartbeats 400000 in
theorem c_X12_learning_1 (X : pX) (h : Nat) (I J : IM) (b x : Int) (hR : 0 ≤ I 81 53 ∧ I 81 53 ≤ 19) (hk : I 116 b.toNat = 1) (hb : 0 ≤ b ∧ b < 50) : KI X (h + 6) mX12_learning [.ref 81, zi b, zi x] I J (((((x + b) + 3) * 2) - (xorZ 1 b))) (trR I [2, 10, 20, 1, 11]) J := by
  show Rz X (h + 6) mX12_learning 0 [some (.ref 81), some (zi b), some (zi x)] [] I J _
  refine rz_aload_n dX12_learning_0 rfl ?_
  refine rz_getR dX12_learning_1 kf_RX12_114 hd_81 rfl rr_81_52 ?_
  refine rz_iload_n dX12_learning_4 rfl ?_
  refine rz_iald (z := 1) dX12_learning_5 hd_116 (by decide) (by omega) hk ?_
  refine rz_iconst dX12_learning_6 ?_
  refine rz_icmp_ne (t := 25) dX12_learning_7 rfl (by omega) (by omega) (fun _ => ?_) (fun q => absurd q (by decide))
  refine rz_aload_n dX12_learning_25 rfl ?_
  refine rz_getR dX12_learning_26 kf_RX12_114 hd_81 rfl rr_81_52 ?_
  refine rz_iload_n dX12_learning_29 rfl ?_
  refine rz_iald (z := 1) dX12_learning_30 hd_116 (by decide) (by omega) hk ?_
  refine rz_iconst dX12_learning_31 ?_
  refine rz_icmp_ne (t := 44) dX12_learning_32 rfl (by omega) (by omega) (fun _ => ?_) (fun q => absurd q (by decide))
  refine rz_aload_n dX12_learning_44 rfl ?_
  refine rz_iload_n dX12_learning_45 rfl ?_
  refine rz_iload_n dX12_learning_46 rfl ?_
  refine rz_cVI dX12_learning_47 kl_RX12_410 hd_81 ⟨_, _, rfl⟩ (c_X12_plainLearns_1 X _ I J b x (by (try simp only [trM_R, stM_R, trR_R, stR_R, List.length_cons, List.length_nil]); omega) hk hb) rfl rfl (Nat.le_of_ble_eq_true rfl) (Nat.le_of_ble_eq_true rfl) ?_
  refine rz_iret dX12_learning_50 rfl ?_
  exact ⟨_, rfl, rfl, rfl, rfl⟩
set_option maxRecDepth 20000 in
set_option maxHeartbeats 400000 in
theorem c_act_1_3 (X : pX) (h : Nat) (I J : IM) (b x : Int) (hb : 0 ≤ b ∧ b ≤ I 81 51 - 1) (h5 : I 81 51 ≤ 50) (hk : I 116 b.toNat = 1) : KI X (h + 7) mX12_act [.ref 81, zi b, zi 3, zi x] I J (((((x + b) + 3) * 2) - (xorZ 1 b))) (trR (upA I 81 (up1 (I 81) 53 0)) [2, 10, 20, 1, 11]) J := by
  show Rz X (h + 7) mX12_act 0 [some (.ref 81), some (zi b), some (zi 3), some (zi x)] [] I J _
  refine rz_aload_n dX12_act_0 rfl ?_
  refine rz_iconst dX12_act_1 ?_
  refine rz_putI dX12_act_2 kp_RX12_377 hd_81 rfl ?_
  refine rz_mem (I' := (upA I 81 (up1 (I 81) 53 0))) (J' := J) (rfl) (rfl) ?_
  refine rz_aload_n dX12_act_5 rfl ?_
  refine rz_iload_n dX12_act_6 rfl ?_
  refine rz_cVIq dX12_act_7 kl_RX12_416 hd_81 ⟨_, _, rfl⟩ (c_X12_isBody X _ (upA I 81 (up1 (I 81) 53 0)) J b (by omega) (by show 0 ≤ I 81 51 ∧ I 81 51 ≤ 50; omega)) rfl rfl (Nat.le_of_ble_eq_true rfl) (Nat.le_of_ble_eq_true rfl) ?_
  rintro z7 A7 B7 ⟨⟨rfl, b7⟩ | ⟨rfl, b7⟩, rfl, rfl⟩
  · refine rz_if_eq (t := 22) dX12_act_10 rfl (by omega) (fun q => absurd q (by decide)) (fun _ => ?_)
    refine rz_iload_n dX12_act_13 rfl ?_
    refine rz_iconst dX12_act_14 ?_
    refine rz_iconst dX12_act_15 ?_
    refine rz_cSIq dX12_act_16 kl_RX12_140 (c_X12_in X _ (upA I 81 (up1 (I 81) 53 0)) J 3 0 3 (by omega) (by omega) (by omega)) rfl rfl (Nat.le_of_ble_eq_true rfl) (Nat.le_of_ble_eq_true rfl) ?_
    rintro z16 A16 B16 ⟨⟨rfl, b16⟩ | ⟨rfl, b16⟩, rfl, rfl⟩
    · refine rz_if_ne (t := 24) dX12_act_19 rfl (by omega) (fun _ => ?_) (fun q => absurd q (by decide))
      refine rz_iload_n dX12_act_24 rfl ?_
      refine rz_if_ne (t := 37) dX12_act_25 rfl (by omega) (fun _ => ?_) (fun q => absurd q (by decide))
      refine rz_iload_n dX12_act_37 rfl ?_
      refine rz_iconst dX12_act_38 ?_
      refine rz_icmp_ne (t := 51) dX12_act_39 rfl (by omega) (by omega) (fun _ => ?_) (fun q => absurd q (by decide))
      refine rz_iload_n dX12_act_51 rfl ?_
      refine rz_iconst dX12_act_52 ?_
      refine rz_icmp_ne (t := 65) dX12_act_53 rfl (by omega) (by omega) (fun _ => ?_) (fun q => absurd q (by decide))
      refine rz_aload_n dX12_act_65 rfl ?_
      refine rz_iload_n dX12_act_66 rfl ?_
      refine rz_iload_n dX12_act_67 rfl ?_
      refine rz_cVI dX12_act_68 kl_RX12_419 hd_81 ⟨_, _, rfl⟩ (c_X12_learning_1 X _ (upA I 81 (up1 (I 81) 53 0)) J b x (by show (0 : Int) ≤ 0 ∧ (0 : Int) ≤ _; omega) hk (by omega)) rfl rfl (Nat.le_of_ble_eq_true rfl) (Nat.le_of_ble_eq_true rfl) ?_
      refine rz_iret dX12_act_71 rfl ?_
      exact ⟨_, rfl, rfl, rfl, rfl⟩
    · exfalso; omega
  · exact absurd (show 0 ≤ b ∧ b ≤ I 81 51 - 1 by omega) b7
set_option maxRecDepth 20000 in
set_option maxHeartbeats 400000 in
theorem c_X12_plainParts_2 (X : pX) (h : Nat) (I J : IM) (b x : Int) (hR : 0 ≤ I 81 53 ∧ I 81 53 ≤ 23) (hk : I 116 b.toNat = 2) (hb : 0 ≤ b ∧ b < 50) : KI X (h + 1) mX12_plainParts [.ref 81, zi b, zi x] I J ((x + b)) (trR I [1]) J := by
  show Rz X (h + 1) mX12_plainParts 0 [some (.ref 81), some (zi b), some (zi x)] [] I J _
  refine rz_aload_n dX12_plainParts_0 rfl ?_
  refine rz_iconst dX12_plainParts_1 ?_
  refine rz_cVV dX12_plainParts_2 kl_RX12_380 hd_81 ⟨_, _, rfl⟩ (c_X12_ran X _ I J 1 (by (try simp only [trM_R, stM_R, trR_R, stR_R, List.length_cons, List.length_nil]); omega)) rfl rfl (Nat.le_of_ble_eq_true rfl) (Nat.le_of_ble_eq_true rfl) ?_
  refine rz_iload_n dX12_plainParts_5 rfl ?_
  refine rz_iload_n dX12_plainParts_6 rfl ?_
  refine rz_iadd dX12_plainParts_7 ?_
  refine rz_iret dX12_plainParts_8 rfl ?_
  exact ⟨_, rfl, rfl, rfl, rfl⟩
set_option maxRecDepth 20000 in
set_option maxHeartbeats 400000 in
theorem c_X12_parting_2 (X : pX) (h : Nat) (I J : IM) (b x : Int) (hR : 0 ≤ I 81 53 ∧ I 81 53 ≤ 23) (hk : I 116 b.toNat = 2) (hb : 0 ≤ b ∧ b < 50) : KI X (h + 2) mX12_parting [.ref 81, zi b, zi x] I J ((x + b)) (trR I [1]) J := by
  show Rz X (h + 2) mX12_parting 0 [some (.ref 81), some (zi b), some (zi x)] [] I J _
  refine rz_aload_n dX12_parting_0 rfl ?_
  refine rz_getR dX12_parting_1 kf_RX12_114 hd_81 rfl rr_81_52 ?_
  refine rz_iload_n dX12_parting_4 rfl ?_
  refine rz_iald (z := 2) dX12_parting_5 hd_116 (by decide) (by omega) hk ?_
  refine rz_iconst dX12_parting_6 ?_
  refine rz_cSIq dX12_parting_7 kl_RX12_386 (c_X12_isUnder X _ I J 2 1 (by omega) (by omega)) rfl rfl (Nat.le_of_ble_eq_true rfl) (Nat.le_of_ble_eq_true rfl) ?_
  rintro z7 A7 B7 ⟨⟨rfl, b7⟩ | ⟨rfl, b7⟩, rfl, rfl⟩
  · exfalso; omega
  · refine rz_if_eq (t := 28) dX12_parting_10 rfl (by omega) (fun _ => ?_) (fun q => absurd q (by decide))
    refine rz_aload_n dX12_parting_28 rfl ?_
    refine rz_getR dX12_parting_29 kf_RX12_114 hd_81 rfl rr_81_52 ?_
    refine rz_iload_n dX12_parting_32 rfl ?_
    refine rz_iald (z := 2) dX12_parting_33 hd_116 (by decide) (by omega) hk ?_
    refine rz_bipush dX12_parting_34 (by decide) ?_
    refine rz_icmp_ne (t := 54) dX12_parting_36 rfl (by omega) (by omega) (fun _ => ?_) (fun q => absurd q (by decide))
    refine rz_aload_n dX12_parting_54 rfl ?_
    refine rz_getR dX12_parting_55 kf_RX12_114 hd_81 rfl rr_81_52 ?_
    refine rz_iload_n dX12_parting_58 rfl ?_
    refine rz_iald (z := 2) dX12_parting_59 hd_116 (by decide) (by omega) hk ?_
    refine rz_bipush dX12_parting_60 (by decide) ?_
    refine rz_icmp_ne (t := 74) dX12_parting_62 rfl (by omega) (by omega) (fun _ => ?_) (fun q => absurd q (by decide))
    refine rz_aload_n dX12_parting_74 rfl ?_
    refine rz_iload_n dX12_parting_75 rfl ?_
    refine rz_iload_n dX12_parting_76 rfl ?_
    refine rz_cVI dX12_parting_77 kl_RX12_383 hd_81 ⟨_, _, rfl⟩ (c_X12_plainParts_2 X _ I J b x (by (try simp only [trM_R, stM_R, trR_R, stR_R, List.length_cons, List.length_nil]); omega) hk hb) rfl rfl (Nat.le_of_ble_eq_true rfl) (Nat.le_of_ble_eq_true rfl) ?_
    refine rz_iret dX12_parting_80 rfl ?_
    exact ⟨_, rfl, rfl, rfl, rfl⟩
set_option maxRecDepth 20000 in
set_option maxHeartbeats 400000 in
theorem c_act_2_0 (X : pX) (h : Nat) (I J : IM) (b x : Int) (hb : 0 ≤ b ∧ b ≤ I 81 51 - 1) (h5 : I 81 51 ≤ 50) (hk : I 116 b.toNat = 2) : KI X (h + 3) mX12_act [.ref 81, zi b, zi 0, zi x] I J ((x + b)) (trR (upA I 81 (up1 (I 81) 53 0)) [1]) J := by
  show Rz X (h + 3) mX12_act 0 [some (.ref 81), some (zi b), some (zi 0), some (zi x)] [] I J _
  refine rz_aload_n dX12_act_0 rfl ?_
  refine rz_iconst dX12_act_1 ?_
  refine rz_putI dX12_act_2 kp_RX12_377 hd_81 rfl ?_
  refine rz_mem (I' := (upA I 81 (up1 (I 81) 53 0))) (J' := J) (rfl) (rfl) ?_
  refine rz_aload_n dX12_act_5 rfl ?_
  refine rz_iload_n dX12_act_6 rfl ?_
  refine rz_cVIq dX12_act_7 kl_RX12_416 hd_81 ⟨_, _, rfl⟩ (c_X12_isBody X _ (upA I 81 (up1 (I 81) 53 0)) J b (by omega) (by show 0 ≤ I 81 51 ∧ I 81 51 ≤ 50; omega)) rfl rfl (Nat.le_of_ble_eq_true rfl) (Nat.le_of_ble_eq_true rfl) ?_
  rintro z7 A7 B7 ⟨⟨rfl, b7⟩ | ⟨rfl, b7⟩, rfl, rfl⟩
  · refine rz_if_eq (t := 22) dX12_act_10 rfl (by omega) (fun q => absurd q (by decide)) (fun _ => ?_)
    refine rz_iload_n dX12_act_13 rfl ?_
    refine rz_iconst dX12_act_14 ?_
    refine rz_iconst dX12_act_15 ?_
    refine rz_cSIq dX12_act_16 kl_RX12_140 (c_X12_in X _ (upA I 81 (up1 (I 81) 53 0)) J 0 0 3 (by omega) (by omega) (by omega)) rfl rfl (Nat.le_of_ble_eq_true rfl) (Nat.le_of_ble_eq_true rfl) ?_
    rintro z16 A16 B16 ⟨⟨rfl, b16⟩ | ⟨rfl, b16⟩, rfl, rfl⟩
    · refine rz_if_ne (t := 24) dX12_act_19 rfl (by omega) (fun _ => ?_) (fun q => absurd q (by decide))
      refine rz_iload_n dX12_act_24 rfl ?_
      refine rz_if_ne (t := 37) dX12_act_25 rfl (by omega) (fun q => absurd q (by decide)) (fun _ => ?_)
      refine rz_aload_n dX12_act_28 rfl ?_
      refine rz_iload_n dX12_act_29 rfl ?_
      refine rz_iload_n dX12_act_30 rfl ?_
      refine rz_cVI dX12_act_31 kl_RX12_392 hd_81 ⟨_, _, rfl⟩ (c_X12_parting_2 X _ (upA I 81 (up1 (I 81) 53 0)) J b x (by show (0 : Int) ≤ 0 ∧ (0 : Int) ≤ _; omega) hk (by omega)) rfl rfl (Nat.le_of_ble_eq_true rfl) (Nat.le_of_ble_eq_true rfl) ?_
      refine rz_goto (t := 71) dX12_act_34 rfl ?_
      refine rz_iret dX12_act_71 rfl ?_
      exact ⟨_, rfl, rfl, rfl, rfl⟩
    · exfalso; omega
  · exact absurd (show 0 ≤ b ∧ b ≤ I 81 51 - 1 by omega) b7
set_option maxRecDepth 20000 in
set_option maxHeartbeats 400000 in
theorem c_X12_plainSends_2 (X : pX) (h : Nat) (I J : IM) (b x : Int) (hR : 0 ≤ I 81 53 ∧ I 81 53 ≤ 22) (hk : I 116 b.toNat = 2) (hb : 0 ≤ b ∧ b < 50) : KI X (h + 3) mX12_plainSends [.ref 81, zi b, zi x] I J (((x + b) * 2)) (trR I [10, 1]) J := by
  show Rz X (h + 3) mX12_plainSends 0 [some (.ref 81), some (zi b), some (zi x)] [] I J _
  refine rz_aload_n dX12_plainSends_0 rfl ?_
  refine rz_bipush dX12_plainSends_1 (by decide) ?_
  refine rz_cVV dX12_plainSends_3 kl_RX12_380 hd_81 ⟨_, _, rfl⟩ (c_X12_ran X _ I J 10 (by (try simp only [trM_R, stM_R, trR_R, stR_R, List.length_cons, List.length_nil]); omega)) rfl rfl (Nat.le_of_ble_eq_true rfl) (Nat.le_of_ble_eq_true rfl) ?_
  refine rz_aload_n dX12_plainSends_6 rfl ?_
  refine rz_iload_n dX12_plainSends_7 rfl ?_
  refine rz_iload_n dX12_plainSends_8 rfl ?_
  refine rz_cVI dX12_plainSends_9 kl_RX12_392 hd_81 ⟨_, _, rfl⟩ (c_X12_parting_2 X _ (stR I 10) J b x (by (try simp only [trM_R, stM_R, trR_R, stR_R, List.length_cons, List.length_nil]); omega) hk hb) rfl rfl (Nat.le_of_ble_eq_true rfl) (Nat.le_of_ble_eq_true rfl) ?_
  refine rz_iconst dX12_plainSends_12 ?_
  refine rz_imul dX12_plainSends_13 ?_
  refine rz_iret dX12_plainSends_14 rfl ?_
  exact ⟨_, rfl, rfl, rfl, rfl⟩
set_option maxRecDepth 20000 in
set_option maxHeartbeats 400000 in
theorem c_X12_fewSends_2 (X : pX) (h : Nat) (I J : IM) (b x : Int) (hR : 0 ≤ I 81 53 ∧ I 81 53 ≤ 21) (hk : I 116 b.toNat = 2) (hb : 0 ≤ b ∧ b < 50) : KI X (h + 4) mX12_fewSends [.ref 81, zi b, zi x] I J ((-((x + b) * 2))) (trR I [30, 10, 1]) J := by
  show Rz X (h + 4) mX12_fewSends 0 [some (.ref 81), some (zi b), some (zi x)] [] I J _
  refine rz_aload_n dX12_fewSends_0 rfl ?_
  refine rz_bipush dX12_fewSends_1 (by decide) ?_
  refine rz_cVV dX12_fewSends_3 kl_RX12_380 hd_81 ⟨_, _, rfl⟩ (c_X12_ran X _ I J 30 (by (try simp only [trM_R, stM_R, trR_R, stR_R, List.length_cons, List.length_nil]); omega)) rfl rfl (Nat.le_of_ble_eq_true rfl) (Nat.le_of_ble_eq_true rfl) ?_
  refine rz_aload_n dX12_fewSends_6 rfl ?_
  refine rz_iload_n dX12_fewSends_7 rfl ?_
  refine rz_iload_n dX12_fewSends_8 rfl ?_
  refine rz_cVI dX12_fewSends_9 kl_RX12_395 hd_81 ⟨_, _, rfl⟩ (c_X12_plainSends_2 X _ (stR I 30) J b x (by (try simp only [trM_R, stM_R, trR_R, stR_R, List.length_cons, List.length_nil]); omega) hk hb) rfl rfl (Nat.le_of_ble_eq_true rfl) (Nat.le_of_ble_eq_true rfl) ?_
  refine rz_ineg dX12_fewSends_12 ?_
  refine rz_iret dX12_fewSends_13 rfl ?_
  exact ⟨_, rfl, rfl, rfl, rfl⟩
set_option maxRecDepth 20000 in
set_option maxHeartbeats 400000 in
theorem c_X12_sending_2 (X : pX) (h : Nat) (I J : IM) (b x : Int) (hR : 0 ≤ I 81 53 ∧ I 81 53 ≤ 21) (hk : I 116 b.toNat = 2) (hb : 0 ≤ b ∧ b < 50) : KI X (h + 5) mX12_sending [.ref 81, zi b, zi x] I J ((-((x + b) * 2))) (trR I [30, 10, 1]) J := by
  show Rz X (h + 5) mX12_sending 0 [some (.ref 81), some (zi b), some (zi x), none] [] I J _
  refine rz_aload_n dX12_sending_0 rfl ?_
  refine rz_getR dX12_sending_1 kf_RX12_114 hd_81 rfl rr_81_52 ?_
  refine rz_iload_n dX12_sending_4 rfl ?_
  refine rz_iald (z := 2) dX12_sending_5 hd_116 (by decide) (by omega) hk ?_
  refine rz_iconst dX12_sending_6 ?_
  refine rz_icmp_ne (t := 25) dX12_sending_7 rfl (by omega) (by omega) (fun _ => ?_) (fun q => absurd q (by decide))
  refine rz_aload_n dX12_sending_25 rfl ?_
  refine rz_getR dX12_sending_26 kf_RX12_114 hd_81 rfl rr_81_52 ?_
  refine rz_iload_n dX12_sending_29 rfl ?_
  refine rz_iald (z := 2) dX12_sending_30 hd_116 (by decide) (by omega) hk ?_
  refine rz_bipush dX12_sending_31 (by decide) ?_
  refine rz_icmp_ne (t := 58) dX12_sending_33 rfl (by omega) (by omega) (fun _ => ?_) (fun q => absurd q (by decide))
  refine rz_aload_n dX12_sending_58 rfl ?_
  refine rz_getR dX12_sending_59 kf_RX12_114 hd_81 rfl rr_81_52 ?_
  refine rz_iload_n dX12_sending_62 rfl ?_
  refine rz_iald (z := 2) dX12_sending_63 hd_116 (by decide) (by omega) hk ?_
  refine rz_iconst dX12_sending_64 ?_
  refine rz_icmp_ne (t := 77) dX12_sending_65 rfl (by omega) (by omega) (fun q => absurd q (by decide)) (fun _ => ?_)
  refine rz_aload_n dX12_sending_68 rfl ?_
  refine rz_iload_n dX12_sending_69 rfl ?_
  refine rz_iload_n dX12_sending_70 rfl ?_
  refine rz_cVI dX12_sending_71 kl_RX12_398 hd_81 ⟨_, _, rfl⟩ (c_X12_fewSends_2 X _ I J b x (by (try simp only [trM_R, stM_R, trR_R, stR_R, List.length_cons, List.length_nil]); omega) hk hb) rfl rfl (Nat.le_of_ble_eq_true rfl) (Nat.le_of_ble_eq_true rfl) ?_
  refine rz_goto (t := 83) dX12_sending_74 rfl ?_
  refine rz_iret dX12_sending_83 rfl ?_
  exact ⟨_, rfl, rfl, rfl, rfl⟩
set_option maxRecDepth 20000 in
set_option maxHeartbeats 400000 in
theorem c_act_2_1 (X : pX) (h : Nat) (I J : IM) (b x : Int) (hb : 0 ≤ b ∧ b ≤ I 81 51 - 1) (h5 : I 81 51 ≤ 50) (hk : I 116 b.toNat = 2) : KI X (h + 6) mX12_act [.ref 81, zi b, zi 1, zi x] I J ((-((x + b) * 2))) (trR (upA I 81 (up1 (I 81) 53 0)) [30, 10, 1]) J := by
  show Rz X (h + 6) mX12_act 0 [some (.ref 81), some (zi b), some (zi 1), some (zi x)] [] I J _
  refine rz_aload_n dX12_act_0 rfl ?_
  refine rz_iconst dX12_act_1 ?_
  refine rz_putI dX12_act_2 kp_RX12_377 hd_81 rfl ?_
  refine rz_mem (I' := (upA I 81 (up1 (I 81) 53 0))) (J' := J) (rfl) (rfl) ?_
  refine rz_aload_n dX12_act_5 rfl ?_
  refine rz_iload_n dX12_act_6 rfl ?_
  refine rz_cVIq dX12_act_7 kl_RX12_416 hd_81 ⟨_, _, rfl⟩ (c_X12_isBody X _ (upA I 81 (up1 (I 81) 53 0)) J b (by omega) (by show 0 ≤ I 81 51 ∧ I 81 51 ≤ 50; omega)) rfl rfl (Nat.le_of_ble_eq_true rfl) (Nat.le_of_ble_eq_true rfl) ?_
  rintro z7 A7 B7 ⟨⟨rfl, b7⟩ | ⟨rfl, b7⟩, rfl, rfl⟩
  · refine rz_if_eq (t := 22) dX12_act_10 rfl (by omega) (fun q => absurd q (by decide)) (fun _ => ?_)
    refine rz_iload_n dX12_act_13 rfl ?_
    refine rz_iconst dX12_act_14 ?_
    refine rz_iconst dX12_act_15 ?_
    refine rz_cSIq dX12_act_16 kl_RX12_140 (c_X12_in X _ (upA I 81 (up1 (I 81) 53 0)) J 1 0 3 (by omega) (by omega) (by omega)) rfl rfl (Nat.le_of_ble_eq_true rfl) (Nat.le_of_ble_eq_true rfl) ?_
    rintro z16 A16 B16 ⟨⟨rfl, b16⟩ | ⟨rfl, b16⟩, rfl, rfl⟩
    · refine rz_if_ne (t := 24) dX12_act_19 rfl (by omega) (fun _ => ?_) (fun q => absurd q (by decide))
      refine rz_iload_n dX12_act_24 rfl ?_
      refine rz_if_ne (t := 37) dX12_act_25 rfl (by omega) (fun _ => ?_) (fun q => absurd q (by decide))
      refine rz_iload_n dX12_act_37 rfl ?_
      refine rz_iconst dX12_act_38 ?_
      refine rz_icmp_ne (t := 51) dX12_act_39 rfl (by omega) (by omega) (fun q => absurd q (by decide)) (fun _ => ?_)
      refine rz_aload_n dX12_act_42 rfl ?_
      refine rz_iload_n dX12_act_43 rfl ?_
      refine rz_iload_n dX12_act_44 rfl ?_
      refine rz_cVI dX12_act_45 kl_RX12_407 hd_81 ⟨_, _, rfl⟩ (c_X12_sending_2 X _ (upA I 81 (up1 (I 81) 53 0)) J b x (by show (0 : Int) ≤ 0 ∧ (0 : Int) ≤ _; omega) hk (by omega)) rfl rfl (Nat.le_of_ble_eq_true rfl) (Nat.le_of_ble_eq_true rfl) ?_
      refine rz_goto (t := 71) dX12_act_48 rfl ?_
      refine rz_iret dX12_act_71 rfl ?_
      exact ⟨_, rfl, rfl, rfl, rfl⟩
    · exfalso; omega
  · exact absurd (show 0 ≤ b ∧ b ≤ I 81 51 - 1 by omega) b7
set_option maxRecDepth 20000 in
set_option maxHeartbeats 400000 in
theorem c_X12_plainWins_2 (X : pX) (h : Nat) (I J : IM) (b x : Int) (hR : 0 ≤ I 81 53 ∧ I 81 53 ≤ 23) (hk : I 116 b.toNat = 2) (hb : 0 ≤ b ∧ b < 50) : KI X (h + 1) mX12_plainWins [.ref 81, zi b, zi x] I J ((xorZ x b)) (trR I [11]) J := by
  show Rz X (h + 1) mX12_plainWins 0 [some (.ref 81), some (zi b), some (zi x)] [] I J _
  refine rz_aload_n dX12_plainWins_0 rfl ?_
  refine rz_bipush dX12_plainWins_1 (by decide) ?_
  refine rz_cVV dX12_plainWins_3 kl_RX12_380 hd_81 ⟨_, _, rfl⟩ (c_X12_ran X _ I J 11 (by (try simp only [trM_R, stM_R, trR_R, stR_R, List.length_cons, List.length_nil]); omega)) rfl rfl (Nat.le_of_ble_eq_true rfl) (Nat.le_of_ble_eq_true rfl) ?_
  refine rz_iload_n dX12_plainWins_6 rfl ?_
  refine rz_iload_n dX12_plainWins_7 rfl ?_
  refine rz_ixor dX12_plainWins_8 ?_
  refine rz_iret dX12_plainWins_9 rfl ?_
  exact ⟨_, rfl, rfl, rfl, rfl⟩
set_option maxRecDepth 20000 in
set_option maxHeartbeats 400000 in
theorem c_X12_winning_2 (X : pX) (h : Nat) (I J : IM) (b x : Int) (hR : 0 ≤ I 81 53 ∧ I 81 53 ≤ 23) (hk : I 116 b.toNat = 2) (hb : 0 ≤ b ∧ b < 50) : KI X (h + 2) mX12_winning [.ref 81, zi b, zi x] I J ((xorZ x b)) (trR I [11]) J := by
  show Rz X (h + 2) mX12_winning 0 [some (.ref 81), some (zi b), some (zi x), none] [] I J _
  refine rz_aload_n dX12_winning_0 rfl ?_
  refine rz_getR dX12_winning_1 kf_RX12_114 hd_81 rfl rr_81_52 ?_
  refine rz_iload_n dX12_winning_4 rfl ?_
  refine rz_iald (z := 2) dX12_winning_5 hd_116 (by decide) (by omega) hk ?_
  refine rz_iconst dX12_winning_6 ?_
  refine rz_icmp_ne (t := 25) dX12_winning_7 rfl (by omega) (by omega) (fun _ => ?_) (fun q => absurd q (by decide))
  refine rz_aload_n dX12_winning_25 rfl ?_
  refine rz_getR dX12_winning_26 kf_RX12_114 hd_81 rfl rr_81_52 ?_
  refine rz_iload_n dX12_winning_29 rfl ?_
  refine rz_iald (z := 2) dX12_winning_30 hd_116 (by decide) (by omega) hk ?_
  refine rz_iconst dX12_winning_31 ?_
  refine rz_icmp_ne (t := 57) dX12_winning_32 rfl (by omega) (by omega) (fun _ => ?_) (fun q => absurd q (by decide))
  refine rz_aload_n dX12_winning_57 rfl ?_
  refine rz_iload_n dX12_winning_58 rfl ?_
  refine rz_iload_n dX12_winning_59 rfl ?_
  refine rz_cVI dX12_winning_60 kl_RX12_404 hd_81 ⟨_, _, rfl⟩ (c_X12_plainWins_2 X _ I J b x (by (try simp only [trM_R, stM_R, trR_R, stR_R, List.length_cons, List.length_nil]); omega) hk hb) rfl rfl (Nat.le_of_ble_eq_true rfl) (Nat.le_of_ble_eq_true rfl) ?_
  refine rz_iret dX12_winning_63 rfl ?_
  exact ⟨_, rfl, rfl, rfl, rfl⟩
set_option maxRecDepth 20000 in
set_option maxHeartbeats 400000 in
theorem c_act_2_2 (X : pX) (h : Nat) (I J : IM) (b x : Int) (hb : 0 ≤ b ∧ b ≤ I 81 51 - 1) (h5 : I 81 51 ≤ 50) (hk : I 116 b.toNat = 2) : KI X (h + 3) mX12_act [.ref 81, zi b, zi 2, zi x] I J ((xorZ x b)) (trR (upA I 81 (up1 (I 81) 53 0)) [11]) J := by
  show Rz X (h + 3) mX12_act 0 [some (.ref 81), some (zi b), some (zi 2), some (zi x)] [] I J _
  refine rz_aload_n dX12_act_0 rfl ?_
  refine rz_iconst dX12_act_1 ?_
  refine rz_putI dX12_act_2 kp_RX12_377 hd_81 rfl ?_
  refine rz_mem (I' := (upA I 81 (up1 (I 81) 53 0))) (J' := J) (rfl) (rfl) ?_
  refine rz_aload_n dX12_act_5 rfl ?_
  refine rz_iload_n dX12_act_6 rfl ?_
  refine rz_cVIq dX12_act_7 kl_RX12_416 hd_81 ⟨_, _, rfl⟩ (c_X12_isBody X _ (upA I 81 (up1 (I 81) 53 0)) J b (by omega) (by show 0 ≤ I 81 51 ∧ I 81 51 ≤ 50; omega)) rfl rfl (Nat.le_of_ble_eq_true rfl) (Nat.le_of_ble_eq_true rfl) ?_
  rintro z7 A7 B7 ⟨⟨rfl, b7⟩ | ⟨rfl, b7⟩, rfl, rfl⟩
  · refine rz_if_eq (t := 22) dX12_act_10 rfl (by omega) (fun q => absurd q (by decide)) (fun _ => ?_)
    refine rz_iload_n dX12_act_13 rfl ?_
    refine rz_iconst dX12_act_14 ?_
    refine rz_iconst dX12_act_15 ?_
    refine rz_cSIq dX12_act_16 kl_RX12_140 (c_X12_in X _ (upA I 81 (up1 (I 81) 53 0)) J 2 0 3 (by omega) (by omega) (by omega)) rfl rfl (Nat.le_of_ble_eq_true rfl) (Nat.le_of_ble_eq_true rfl) ?_
    rintro z16 A16 B16 ⟨⟨rfl, b16⟩ | ⟨rfl, b16⟩, rfl, rfl⟩
    · refine rz_if_ne (t := 24) dX12_act_19 rfl (by omega) (fun _ => ?_) (fun q => absurd q (by decide))
      refine rz_iload_n dX12_act_24 rfl ?_
      refine rz_if_ne (t := 37) dX12_act_25 rfl (by omega) (fun _ => ?_) (fun q => absurd q (by decide))
      refine rz_iload_n dX12_act_37 rfl ?_
      refine rz_iconst dX12_act_38 ?_
      refine rz_icmp_ne (t := 51) dX12_act_39 rfl (by omega) (by omega) (fun _ => ?_) (fun q => absurd q (by decide))
      refine rz_iload_n dX12_act_51 rfl ?_
      refine rz_iconst dX12_act_52 ?_
      refine rz_icmp_ne (t := 65) dX12_act_53 rfl (by omega) (by omega) (fun q => absurd q (by decide)) (fun _ => ?_)
      refine rz_aload_n dX12_act_56 rfl ?_
      refine rz_iload_n dX12_act_57 rfl ?_
      refine rz_iload_n dX12_act_58 rfl ?_
      refine rz_cVI dX12_act_59 kl_RX12_401 hd_81 ⟨_, _, rfl⟩ (c_X12_winning_2 X _ (upA I 81 (up1 (I 81) 53 0)) J b x (by show (0 : Int) ≤ 0 ∧ (0 : Int) ≤ _; omega) hk (by omega)) rfl rfl (Nat.le_of_ble_eq_true rfl) (Nat.le_of_ble_eq_true rfl) ?_
      refine rz_goto (t := 71) dX12_act_62 rfl ?_
      refine rz_iret dX12_act_71 rfl ?_
      exact ⟨_, rfl, rfl, rfl, rfl⟩
    · exfalso; omega
  · exact absurd (show 0 ≤ b ∧ b ≤ I 81 51 - 1 by omega) b7
set_option maxRecDepth 20000 in
set_option maxHeartbeats 400000 in
theorem c_X12_plainLearns_2 (X : pX) (h : Nat) (I J : IM) (b x : Int) (hR : 0 ≤ I 81 53 ∧ I 81 53 ≤ 19) (hk : I 116 b.toNat = 2) (hb : 0 ≤ b ∧ b < 50) : KI X (h + 6) mX12_plainLearns [.ref 81, zi b, zi x] I J (((-((x + b) * 2)) - (xorZ 1 b))) (trR I [2, 30, 10, 1, 11]) J := by
  show Rz X (h + 6) mX12_plainLearns 0 [some (.ref 81), some (zi b), some (zi x), none] [] I J _
  refine rz_aload_n dX12_plainLearns_0 rfl ?_
  refine rz_iconst dX12_plainLearns_1 ?_
  refine rz_cVV dX12_plainLearns_2 kl_RX12_380 hd_81 ⟨_, _, rfl⟩ (c_X12_ran X _ I J 2 (by (try simp only [trM_R, stM_R, trR_R, stR_R, List.length_cons, List.length_nil]); omega)) rfl rfl (Nat.le_of_ble_eq_true rfl) (Nat.le_of_ble_eq_true rfl) ?_
  refine rz_aload_n dX12_plainLearns_5 rfl ?_
  refine rz_iload_n dX12_plainLearns_6 rfl ?_
  refine rz_iload_n dX12_plainLearns_7 rfl ?_
  refine rz_cVI dX12_plainLearns_8 kl_RX12_407 hd_81 ⟨_, _, rfl⟩ (c_X12_sending_2 X _ (stR I 2) J b x (by (try simp only [trM_R, stM_R, trR_R, stR_R, List.length_cons, List.length_nil]); omega) hk hb) rfl rfl (Nat.le_of_ble_eq_true rfl) (Nat.le_of_ble_eq_true rfl) ?_
  refine rz_istore_n dX12_plainLearns_11 (by decide) rfl ?_
  refine rz_iload_n dX12_plainLearns_12 rfl ?_
  refine rz_aload_n dX12_plainLearns_13 rfl ?_
  refine rz_iload_n dX12_plainLearns_14 rfl ?_
  refine rz_iconst dX12_plainLearns_15 ?_
  refine rz_cVI dX12_plainLearns_16 kl_RX12_401 hd_81 ⟨_, _, rfl⟩ (c_X12_winning_2 X _ (trR (stR I 2) [30, 10, 1]) J b 1 (by (try simp only [trM_R, stM_R, trR_R, stR_R, List.length_cons, List.length_nil]); omega) hk hb) rfl rfl (Nat.le_of_ble_eq_true rfl) (Nat.le_of_ble_eq_true rfl) ?_
  refine rz_isub dX12_plainLearns_19 ?_
  refine rz_iret dX12_plainLearns_20 rfl ?_
  exact ⟨_, rfl, rfl, rfl, rfl⟩
set_option maxRecDepth 20000 in
set_option maxHeartbeats 400000 in
theorem c_X12_learning_2 (X : pX) (h : Nat) (I J : IM) (b x : Int) (hR : 0 ≤ I 81 53 ∧ I 81 53 ≤ 19) (hk : I 116 b.toNat = 2) (hb : 0 ≤ b ∧ b < 50) : KI X (h + 7) mX12_learning [.ref 81, zi b, zi x] I J (((-((x + b) * 2)) - (xorZ 1 b))) (trR I [2, 30, 10, 1, 11]) J := by
  show Rz X (h + 7) mX12_learning 0 [some (.ref 81), some (zi b), some (zi x)] [] I J _
  refine rz_aload_n dX12_learning_0 rfl ?_
  refine rz_getR dX12_learning_1 kf_RX12_114 hd_81 rfl rr_81_52 ?_
  refine rz_iload_n dX12_learning_4 rfl ?_
  refine rz_iald (z := 2) dX12_learning_5 hd_116 (by decide) (by omega) hk ?_
  refine rz_iconst dX12_learning_6 ?_
  refine rz_icmp_ne (t := 25) dX12_learning_7 rfl (by omega) (by omega) (fun _ => ?_) (fun q => absurd q (by decide))
  refine rz_aload_n dX12_learning_25 rfl ?_
  refine rz_getR dX12_learning_26 kf_RX12_114 hd_81 rfl rr_81_52 ?_
  refine rz_iload_n dX12_learning_29 rfl ?_
  refine rz_iald (z := 2) dX12_learning_30 hd_116 (by decide) (by omega) hk ?_
  refine rz_iconst dX12_learning_31 ?_
  refine rz_icmp_ne (t := 44) dX12_learning_32 rfl (by omega) (by omega) (fun _ => ?_) (fun q => absurd q (by decide))
  refine rz_aload_n dX12_learning_44 rfl ?_
  refine rz_iload_n dX12_learning_45 rfl ?_
  refine rz_iload_n dX12_learning_46 rfl ?_
  refine rz_cVI dX12_learning_47 kl_RX12_410 hd_81 ⟨_, _, rfl⟩ (c_X12_plainLearns_2 X _ I J b x (by (try simp only [trM_R, stM_R, trR_R, stR_R, List.length_cons, List.length_nil]); omega) hk hb) rfl rfl (Nat.le_of_ble_eq_true rfl) (Nat.le_of_ble_eq_true rfl) ?_
  refine rz_iret dX12_learning_50 rfl ?_
  exact ⟨_, rfl, rfl, rfl, rfl⟩
set_option maxRecDepth 20000 in
set_option maxHeartbeats 400000 in
theorem c_act_2_3 (X : pX) (h : Nat) (I J : IM) (b x : Int) (hb : 0 ≤ b ∧ b ≤ I 81 51 - 1) (h5 : I 81 51 ≤ 50) (hk : I 116 b.toNat = 2) : KI X (h + 8) mX12_act [.ref 81, zi b, zi 3, zi x] I J (((-((x + b) * 2)) - (xorZ 1 b))) (trR (upA I 81 (up1 (I 81) 53 0)) [2, 30, 10, 1, 11]) J := by
  show Rz X (h + 8) mX12_act 0 [some (.ref 81), some (zi b), some (zi 3), some (zi x)] [] I J _
  refine rz_aload_n dX12_act_0 rfl ?_
  refine rz_iconst dX12_act_1 ?_
  refine rz_putI dX12_act_2 kp_RX12_377 hd_81 rfl ?_
  refine rz_mem (I' := (upA I 81 (up1 (I 81) 53 0))) (J' := J) (rfl) (rfl) ?_
  refine rz_aload_n dX12_act_5 rfl ?_
  refine rz_iload_n dX12_act_6 rfl ?_
  refine rz_cVIq dX12_act_7 kl_RX12_416 hd_81 ⟨_, _, rfl⟩ (c_X12_isBody X _ (upA I 81 (up1 (I 81) 53 0)) J b (by omega) (by show 0 ≤ I 81 51 ∧ I 81 51 ≤ 50; omega)) rfl rfl (Nat.le_of_ble_eq_true rfl) (Nat.le_of_ble_eq_true rfl) ?_
  rintro z7 A7 B7 ⟨⟨rfl, b7⟩ | ⟨rfl, b7⟩, rfl, rfl⟩
  · refine rz_if_eq (t := 22) dX12_act_10 rfl (by omega) (fun q => absurd q (by decide)) (fun _ => ?_)
    refine rz_iload_n dX12_act_13 rfl ?_
    refine rz_iconst dX12_act_14 ?_
    refine rz_iconst dX12_act_15 ?_
    refine rz_cSIq dX12_act_16 kl_RX12_140 (c_X12_in X _ (upA I 81 (up1 (I 81) 53 0)) J 3 0 3 (by omega) (by omega) (by omega)) rfl rfl (Nat.le_of_ble_eq_true rfl) (Nat.le_of_ble_eq_true rfl) ?_
    rintro z16 A16 B16 ⟨⟨rfl, b16⟩ | ⟨rfl, b16⟩, rfl, rfl⟩
    · refine rz_if_ne (t := 24) dX12_act_19 rfl (by omega) (fun _ => ?_) (fun q => absurd q (by decide))
      refine rz_iload_n dX12_act_24 rfl ?_
      refine rz_if_ne (t := 37) dX12_act_25 rfl (by omega) (fun _ => ?_) (fun q => absurd q (by decide))
      refine rz_iload_n dX12_act_37 rfl ?_
      refine rz_iconst dX12_act_38 ?_
      refine rz_icmp_ne (t := 51) dX12_act_39 rfl (by omega) (by omega) (fun _ => ?_) (fun q => absurd q (by decide))
      refine rz_iload_n dX12_act_51 rfl ?_
      refine rz_iconst dX12_act_52 ?_
      refine rz_icmp_ne (t := 65) dX12_act_53 rfl (by omega) (by omega) (fun _ => ?_) (fun q => absurd q (by decide))
      refine rz_aload_n dX12_act_65 rfl ?_
      refine rz_iload_n dX12_act_66 rfl ?_
      refine rz_iload_n dX12_act_67 rfl ?_
      refine rz_cVI dX12_act_68 kl_RX12_419 hd_81 ⟨_, _, rfl⟩ (c_X12_learning_2 X _ (upA I 81 (up1 (I 81) 53 0)) J b x (by show (0 : Int) ≤ 0 ∧ (0 : Int) ≤ _; omega) hk (by omega)) rfl rfl (Nat.le_of_ble_eq_true rfl) (Nat.le_of_ble_eq_true rfl) ?_
      refine rz_iret dX12_act_71 rfl ?_
      exact ⟨_, rfl, rfl, rfl, rfl⟩
    · exfalso; omega
  · exact absurd (show 0 ≤ b ∧ b ≤ I 81 51 - 1 by omega) b7
set_option maxRecDepth 20000 in
set_option maxHeartbeats 400000 in
theorem c_X12_plainParts_3 (X : pX) (h : Nat) (I J : IM) (b x : Int) (hR : 0 ≤ I 81 53 ∧ I 81 53 ≤ 23) (hk : I 116 b.toNat = 3) (hb : 0 ≤ b ∧ b < 50) : KI X (h + 1) mX12_plainParts [.ref 81, zi b, zi x] I J ((x + b)) (trR I [1]) J := by
  show Rz X (h + 1) mX12_plainParts 0 [some (.ref 81), some (zi b), some (zi x)] [] I J _
  refine rz_aload_n dX12_plainParts_0 rfl ?_
  refine rz_iconst dX12_plainParts_1 ?_
  refine rz_cVV dX12_plainParts_2 kl_RX12_380 hd_81 ⟨_, _, rfl⟩ (c_X12_ran X _ I J 1 (by (try simp only [trM_R, stM_R, trR_R, stR_R, List.length_cons, List.length_nil]); omega)) rfl rfl (Nat.le_of_ble_eq_true rfl) (Nat.le_of_ble_eq_true rfl) ?_
  refine rz_iload_n dX12_plainParts_5 rfl ?_
  refine rz_iload_n dX12_plainParts_6 rfl ?_
  refine rz_iadd dX12_plainParts_7 ?_
  refine rz_iret dX12_plainParts_8 rfl ?_
  exact ⟨_, rfl, rfl, rfl, rfl⟩
set_option maxRecDepth 20000 in
set_option maxHeartbeats 400000 in
theorem c_X12_parting_3 (X : pX) (h : Nat) (I J : IM) (b x : Int) (hR : 0 ≤ I 81 53 ∧ I 81 53 ≤ 23) (hk : I 116 b.toNat = 3) (hb : 0 ≤ b ∧ b < 50) : KI X (h + 2) mX12_parting [.ref 81, zi b, zi x] I J ((x + b)) (trR I [1]) J := by
  show Rz X (h + 2) mX12_parting 0 [some (.ref 81), some (zi b), some (zi x)] [] I J _
  refine rz_aload_n dX12_parting_0 rfl ?_
  refine rz_getR dX12_parting_1 kf_RX12_114 hd_81 rfl rr_81_52 ?_
  refine rz_iload_n dX12_parting_4 rfl ?_
  refine rz_iald (z := 3) dX12_parting_5 hd_116 (by decide) (by omega) hk ?_
  refine rz_iconst dX12_parting_6 ?_
  refine rz_cSIq dX12_parting_7 kl_RX12_386 (c_X12_isUnder X _ I J 3 1 (by omega) (by omega)) rfl rfl (Nat.le_of_ble_eq_true rfl) (Nat.le_of_ble_eq_true rfl) ?_
  rintro z7 A7 B7 ⟨⟨rfl, b7⟩ | ⟨rfl, b7⟩, rfl, rfl⟩
  · exfalso; omega
  · refine rz_if_eq (t := 28) dX12_parting_10 rfl (by omega) (fun _ => ?_) (fun q => absurd q (by decide))
    refine rz_aload_n dX12_parting_28 rfl ?_
    refine rz_getR dX12_parting_29 kf_RX12_114 hd_81 rfl rr_81_52 ?_
    refine rz_iload_n dX12_parting_32 rfl ?_
    refine rz_iald (z := 3) dX12_parting_33 hd_116 (by decide) (by omega) hk ?_
    refine rz_bipush dX12_parting_34 (by decide) ?_
    refine rz_icmp_ne (t := 54) dX12_parting_36 rfl (by omega) (by omega) (fun _ => ?_) (fun q => absurd q (by decide))
    refine rz_aload_n dX12_parting_54 rfl ?_
    refine rz_getR dX12_parting_55 kf_RX12_114 hd_81 rfl rr_81_52 ?_
    refine rz_iload_n dX12_parting_58 rfl ?_
    refine rz_iald (z := 3) dX12_parting_59 hd_116 (by decide) (by omega) hk ?_
    refine rz_bipush dX12_parting_60 (by decide) ?_
    refine rz_icmp_ne (t := 74) dX12_parting_62 rfl (by omega) (by omega) (fun _ => ?_) (fun q => absurd q (by decide))
    refine rz_aload_n dX12_parting_74 rfl ?_
    refine rz_iload_n dX12_parting_75 rfl ?_
    refine rz_iload_n dX12_parting_76 rfl ?_
    refine rz_cVI dX12_parting_77 kl_RX12_383 hd_81 ⟨_, _, rfl⟩ (c_X12_plainParts_3 X _ I J b x (by (try simp only [trM_R, stM_R, trR_R, stR_R, List.length_cons, List.length_nil]); omega) hk hb) rfl rfl (Nat.le_of_ble_eq_true rfl) (Nat.le_of_ble_eq_true rfl) ?_
    refine rz_iret dX12_parting_80 rfl ?_
    exact ⟨_, rfl, rfl, rfl, rfl⟩
set_option maxRecDepth 20000 in
set_option maxHeartbeats 400000 in
theorem c_act_3_0 (X : pX) (h : Nat) (I J : IM) (b x : Int) (hb : 0 ≤ b ∧ b ≤ I 81 51 - 1) (h5 : I 81 51 ≤ 50) (hk : I 116 b.toNat = 3) : KI X (h + 3) mX12_act [.ref 81, zi b, zi 0, zi x] I J ((x + b)) (trR (upA I 81 (up1 (I 81) 53 0)) [1]) J := by
  show Rz X (h + 3) mX12_act 0 [some (.ref 81), some (zi b), some (zi 0), some (zi x)] [] I J _
  refine rz_aload_n dX12_act_0 rfl ?_
  refine rz_iconst dX12_act_1 ?_
  refine rz_putI dX12_act_2 kp_RX12_377 hd_81 rfl ?_
  refine rz_mem (I' := (upA I 81 (up1 (I 81) 53 0))) (J' := J) (rfl) (rfl) ?_
  refine rz_aload_n dX12_act_5 rfl ?_
  refine rz_iload_n dX12_act_6 rfl ?_
  refine rz_cVIq dX12_act_7 kl_RX12_416 hd_81 ⟨_, _, rfl⟩ (c_X12_isBody X _ (upA I 81 (up1 (I 81) 53 0)) J b (by omega) (by show 0 ≤ I 81 51 ∧ I 81 51 ≤ 50; omega)) rfl rfl (Nat.le_of_ble_eq_true rfl) (Nat.le_of_ble_eq_true rfl) ?_
  rintro z7 A7 B7 ⟨⟨rfl, b7⟩ | ⟨rfl, b7⟩, rfl, rfl⟩
  · refine rz_if_eq (t := 22) dX12_act_10 rfl (by omega) (fun q => absurd q (by decide)) (fun _ => ?_)
    refine rz_iload_n dX12_act_13 rfl ?_
    refine rz_iconst dX12_act_14 ?_
    refine rz_iconst dX12_act_15 ?_
    refine rz_cSIq dX12_act_16 kl_RX12_140 (c_X12_in X _ (upA I 81 (up1 (I 81) 53 0)) J 0 0 3 (by omega) (by omega) (by omega)) rfl rfl (Nat.le_of_ble_eq_true rfl) (Nat.le_of_ble_eq_true rfl) ?_
    rintro z16 A16 B16 ⟨⟨rfl, b16⟩ | ⟨rfl, b16⟩, rfl, rfl⟩
    · refine rz_if_ne (t := 24) dX12_act_19 rfl (by omega) (fun _ => ?_) (fun q => absurd q (by decide))
      refine rz_iload_n dX12_act_24 rfl ?_
      refine rz_if_ne (t := 37) dX12_act_25 rfl (by omega) (fun q => absurd q (by decide)) (fun _ => ?_)
      refine rz_aload_n dX12_act_28 rfl ?_
      refine rz_iload_n dX12_act_29 rfl ?_
      refine rz_iload_n dX12_act_30 rfl ?_
      refine rz_cVI dX12_act_31 kl_RX12_392 hd_81 ⟨_, _, rfl⟩ (c_X12_parting_3 X _ (upA I 81 (up1 (I 81) 53 0)) J b x (by show (0 : Int) ≤ 0 ∧ (0 : Int) ≤ _; omega) hk (by omega)) rfl rfl (Nat.le_of_ble_eq_true rfl) (Nat.le_of_ble_eq_true rfl) ?_
      refine rz_goto (t := 71) dX12_act_34 rfl ?_
      refine rz_iret dX12_act_71 rfl ?_
      exact ⟨_, rfl, rfl, rfl, rfl⟩
    · exfalso; omega
  · exact absurd (show 0 ≤ b ∧ b ≤ I 81 51 - 1 by omega) b7
set_option maxRecDepth 20000 in
set_option maxHeartbeats 400000 in
theorem c_X12_plainSends_3 (X : pX) (h : Nat) (I J : IM) (b x : Int) (hR : 0 ≤ I 81 53 ∧ I 81 53 ≤ 22) (hk : I 116 b.toNat = 3) (hb : 0 ≤ b ∧ b < 50) : KI X (h + 3) mX12_plainSends [.ref 81, zi b, zi x] I J (((x + b) * 2)) (trR I [10, 1]) J := by
  show Rz X (h + 3) mX12_plainSends 0 [some (.ref 81), some (zi b), some (zi x)] [] I J _
  refine rz_aload_n dX12_plainSends_0 rfl ?_
  refine rz_bipush dX12_plainSends_1 (by decide) ?_
  refine rz_cVV dX12_plainSends_3 kl_RX12_380 hd_81 ⟨_, _, rfl⟩ (c_X12_ran X _ I J 10 (by (try simp only [trM_R, stM_R, trR_R, stR_R, List.length_cons, List.length_nil]); omega)) rfl rfl (Nat.le_of_ble_eq_true rfl) (Nat.le_of_ble_eq_true rfl) ?_
  refine rz_aload_n dX12_plainSends_6 rfl ?_
  refine rz_iload_n dX12_plainSends_7 rfl ?_
  refine rz_iload_n dX12_plainSends_8 rfl ?_
  refine rz_cVI dX12_plainSends_9 kl_RX12_392 hd_81 ⟨_, _, rfl⟩ (c_X12_parting_3 X _ (stR I 10) J b x (by (try simp only [trM_R, stM_R, trR_R, stR_R, List.length_cons, List.length_nil]); omega) hk hb) rfl rfl (Nat.le_of_ble_eq_true rfl) (Nat.le_of_ble_eq_true rfl) ?_
  refine rz_iconst dX12_plainSends_12 ?_
  refine rz_imul dX12_plainSends_13 ?_
  refine rz_iret dX12_plainSends_14 rfl ?_
  exact ⟨_, rfl, rfl, rfl, rfl⟩
set_option maxRecDepth 20000 in
set_option maxHeartbeats 400000 in
theorem c_X12_fewSends_3 (X : pX) (h : Nat) (I J : IM) (b x : Int) (hR : 0 ≤ I 81 53 ∧ I 81 53 ≤ 21) (hk : I 116 b.toNat = 3) (hb : 0 ≤ b ∧ b < 50) : KI X (h + 4) mX12_fewSends [.ref 81, zi b, zi x] I J ((-((x + b) * 2))) (trR I [30, 10, 1]) J := by
  show Rz X (h + 4) mX12_fewSends 0 [some (.ref 81), some (zi b), some (zi x)] [] I J _
  refine rz_aload_n dX12_fewSends_0 rfl ?_
  refine rz_bipush dX12_fewSends_1 (by decide) ?_
  refine rz_cVV dX12_fewSends_3 kl_RX12_380 hd_81 ⟨_, _, rfl⟩ (c_X12_ran X _ I J 30 (by (try simp only [trM_R, stM_R, trR_R, stR_R, List.length_cons, List.length_nil]); omega)) rfl rfl (Nat.le_of_ble_eq_true rfl) (Nat.le_of_ble_eq_true rfl) ?_
  refine rz_aload_n dX12_fewSends_6 rfl ?_
  refine rz_iload_n dX12_fewSends_7 rfl ?_
  refine rz_iload_n dX12_fewSends_8 rfl ?_
  refine rz_cVI dX12_fewSends_9 kl_RX12_395 hd_81 ⟨_, _, rfl⟩ (c_X12_plainSends_3 X _ (stR I 30) J b x (by (try simp only [trM_R, stM_R, trR_R, stR_R, List.length_cons, List.length_nil]); omega) hk hb) rfl rfl (Nat.le_of_ble_eq_true rfl) (Nat.le_of_ble_eq_true rfl) ?_
  refine rz_ineg dX12_fewSends_12 ?_
  refine rz_iret dX12_fewSends_13 rfl ?_
  exact ⟨_, rfl, rfl, rfl, rfl⟩
set_option maxRecDepth 20000 in
set_option maxHeartbeats 400000 in
theorem c_X12_sending_3 (X : pX) (h : Nat) (I J : IM) (b x : Int) (hR : 0 ≤ I 81 53 ∧ I 81 53 ≤ 20) (hk : I 116 b.toNat = 3) (hb : 0 ≤ b ∧ b < 50) : KI X (h + 5) mX12_sending [.ref 81, zi b, zi x] I J ((-(((x + 1) + b) * 2))) (trR I [41, 30, 10, 1]) J := by
  show Rz X (h + 5) mX12_sending 0 [some (.ref 81), some (zi b), some (zi x), none] [] I J _
  refine rz_aload_n dX12_sending_0 rfl ?_
  refine rz_getR dX12_sending_1 kf_RX12_114 hd_81 rfl rr_81_52 ?_
  refine rz_iload_n dX12_sending_4 rfl ?_
  refine rz_iald (z := 3) dX12_sending_5 hd_116 (by decide) (by omega) hk ?_
  refine rz_iconst dX12_sending_6 ?_
  refine rz_icmp_ne (t := 25) dX12_sending_7 rfl (by omega) (by omega) (fun q => absurd q (by decide)) (fun _ => ?_)
  refine rz_aload_n dX12_sending_10 rfl ?_
  refine rz_bipush dX12_sending_11 (by decide) ?_
  refine rz_cVV dX12_sending_13 kl_RX12_380 hd_81 ⟨_, _, rfl⟩ (c_X12_ran X _ I J 41 (by (try simp only [trM_R, stM_R, trR_R, stR_R, List.length_cons, List.length_nil]); omega)) rfl rfl (Nat.le_of_ble_eq_true rfl) (Nat.le_of_ble_eq_true rfl) ?_
  refine rz_aload_n dX12_sending_16 rfl ?_
  refine rz_iload_n dX12_sending_17 rfl ?_
  refine rz_iload_n dX12_sending_18 rfl ?_
  refine rz_iconst dX12_sending_19 ?_
  refine rz_iadd dX12_sending_20 ?_
  refine rz_cVI dX12_sending_21 kl_RX12_398 hd_81 ⟨_, _, rfl⟩ (c_X12_fewSends_3 X _ (stR I 41) J b (x + 1) (by (try simp only [trM_R, stM_R, trR_R, stR_R, List.length_cons, List.length_nil]); omega) hk hb) rfl rfl (Nat.le_of_ble_eq_true rfl) (Nat.le_of_ble_eq_true rfl) ?_
  refine rz_iret dX12_sending_24 rfl ?_
  exact ⟨_, rfl, rfl, rfl, rfl⟩
set_option maxRecDepth 20000 in
set_option maxHeartbeats 400000 in
theorem c_act_3_1 (X : pX) (h : Nat) (I J : IM) (b x : Int) (hb : 0 ≤ b ∧ b ≤ I 81 51 - 1) (h5 : I 81 51 ≤ 50) (hk : I 116 b.toNat = 3) : KI X (h + 6) mX12_act [.ref 81, zi b, zi 1, zi x] I J ((-(((x + 1) + b) * 2))) (trR (upA I 81 (up1 (I 81) 53 0)) [41, 30, 10, 1]) J := by
  show Rz X (h + 6) mX12_act 0 [some (.ref 81), some (zi b), some (zi 1), some (zi x)] [] I J _
  refine rz_aload_n dX12_act_0 rfl ?_
  refine rz_iconst dX12_act_1 ?_
  refine rz_putI dX12_act_2 kp_RX12_377 hd_81 rfl ?_
  refine rz_mem (I' := (upA I 81 (up1 (I 81) 53 0))) (J' := J) (rfl) (rfl) ?_
  refine rz_aload_n dX12_act_5 rfl ?_
  refine rz_iload_n dX12_act_6 rfl ?_
  refine rz_cVIq dX12_act_7 kl_RX12_416 hd_81 ⟨_, _, rfl⟩ (c_X12_isBody X _ (upA I 81 (up1 (I 81) 53 0)) J b (by omega) (by show 0 ≤ I 81 51 ∧ I 81 51 ≤ 50; omega)) rfl rfl (Nat.le_of_ble_eq_true rfl) (Nat.le_of_ble_eq_true rfl) ?_
  rintro z7 A7 B7 ⟨⟨rfl, b7⟩ | ⟨rfl, b7⟩, rfl, rfl⟩
  · refine rz_if_eq (t := 22) dX12_act_10 rfl (by omega) (fun q => absurd q (by decide)) (fun _ => ?_)
    refine rz_iload_n dX12_act_13 rfl ?_
    refine rz_iconst dX12_act_14 ?_
    refine rz_iconst dX12_act_15 ?_
    refine rz_cSIq dX12_act_16 kl_RX12_140 (c_X12_in X _ (upA I 81 (up1 (I 81) 53 0)) J 1 0 3 (by omega) (by omega) (by omega)) rfl rfl (Nat.le_of_ble_eq_true rfl) (Nat.le_of_ble_eq_true rfl) ?_
    rintro z16 A16 B16 ⟨⟨rfl, b16⟩ | ⟨rfl, b16⟩, rfl, rfl⟩
    · refine rz_if_ne (t := 24) dX12_act_19 rfl (by omega) (fun _ => ?_) (fun q => absurd q (by decide))
      refine rz_iload_n dX12_act_24 rfl ?_
      refine rz_if_ne (t := 37) dX12_act_25 rfl (by omega) (fun _ => ?_) (fun q => absurd q (by decide))
      refine rz_iload_n dX12_act_37 rfl ?_
      refine rz_iconst dX12_act_38 ?_
      refine rz_icmp_ne (t := 51) dX12_act_39 rfl (by omega) (by omega) (fun q => absurd q (by decide)) (fun _ => ?_)
      refine rz_aload_n dX12_act_42 rfl ?_
      refine rz_iload_n dX12_act_43 rfl ?_
      refine rz_iload_n dX12_act_44 rfl ?_
      refine rz_cVI dX12_act_45 kl_RX12_407 hd_81 ⟨_, _, rfl⟩ (c_X12_sending_3 X _ (upA I 81 (up1 (I 81) 53 0)) J b x (by show (0 : Int) ≤ 0 ∧ (0 : Int) ≤ _; omega) hk (by omega)) rfl rfl (Nat.le_of_ble_eq_true rfl) (Nat.le_of_ble_eq_true rfl) ?_
      refine rz_goto (t := 71) dX12_act_48 rfl ?_
      refine rz_iret dX12_act_71 rfl ?_
      exact ⟨_, rfl, rfl, rfl, rfl⟩
    · exfalso; omega
  · exact absurd (show 0 ≤ b ∧ b ≤ I 81 51 - 1 by omega) b7
set_option maxRecDepth 20000 in
set_option maxHeartbeats 400000 in
theorem c_X12_plainWins_3 (X : pX) (h : Nat) (I J : IM) (b x : Int) (hR : 0 ≤ I 81 53 ∧ I 81 53 ≤ 23) (hk : I 116 b.toNat = 3) (hb : 0 ≤ b ∧ b < 50) : KI X (h + 1) mX12_plainWins [.ref 81, zi b, zi x] I J ((xorZ x b)) (trR I [11]) J := by
  show Rz X (h + 1) mX12_plainWins 0 [some (.ref 81), some (zi b), some (zi x)] [] I J _
  refine rz_aload_n dX12_plainWins_0 rfl ?_
  refine rz_bipush dX12_plainWins_1 (by decide) ?_
  refine rz_cVV dX12_plainWins_3 kl_RX12_380 hd_81 ⟨_, _, rfl⟩ (c_X12_ran X _ I J 11 (by (try simp only [trM_R, stM_R, trR_R, stR_R, List.length_cons, List.length_nil]); omega)) rfl rfl (Nat.le_of_ble_eq_true rfl) (Nat.le_of_ble_eq_true rfl) ?_
  refine rz_iload_n dX12_plainWins_6 rfl ?_
  refine rz_iload_n dX12_plainWins_7 rfl ?_
  refine rz_ixor dX12_plainWins_8 ?_
  refine rz_iret dX12_plainWins_9 rfl ?_
  exact ⟨_, rfl, rfl, rfl, rfl⟩
set_option maxRecDepth 20000 in
set_option maxHeartbeats 400000 in
theorem c_X12_winning_3 (X : pX) (h : Nat) (I J : IM) (b x : Int) (hR : 0 ≤ I 81 53 ∧ I 81 53 ≤ 22) (hk : I 116 b.toNat = 3) (hb : 0 ≤ b ∧ b < 50) : KI X (h + 2) mX12_winning [.ref 81, zi b, zi x] I J (((xorZ x b) * 3)) (trR I [40, 11]) J := by
  show Rz X (h + 2) mX12_winning 0 [some (.ref 81), some (zi b), some (zi x), none] [] I J _
  refine rz_aload_n dX12_winning_0 rfl ?_
  refine rz_getR dX12_winning_1 kf_RX12_114 hd_81 rfl rr_81_52 ?_
  refine rz_iload_n dX12_winning_4 rfl ?_
  refine rz_iald (z := 3) dX12_winning_5 hd_116 (by decide) (by omega) hk ?_
  refine rz_iconst dX12_winning_6 ?_
  refine rz_icmp_ne (t := 25) dX12_winning_7 rfl (by omega) (by omega) (fun q => absurd q (by decide)) (fun _ => ?_)
  refine rz_aload_n dX12_winning_10 rfl ?_
  refine rz_bipush dX12_winning_11 (by decide) ?_
  refine rz_cVV dX12_winning_13 kl_RX12_380 hd_81 ⟨_, _, rfl⟩ (c_X12_ran X _ I J 40 (by (try simp only [trM_R, stM_R, trR_R, stR_R, List.length_cons, List.length_nil]); omega)) rfl rfl (Nat.le_of_ble_eq_true rfl) (Nat.le_of_ble_eq_true rfl) ?_
  refine rz_aload_n dX12_winning_16 rfl ?_
  refine rz_iload_n dX12_winning_17 rfl ?_
  refine rz_iload_n dX12_winning_18 rfl ?_
  refine rz_cVI dX12_winning_19 kl_RX12_404 hd_81 ⟨_, _, rfl⟩ (c_X12_plainWins_3 X _ (stR I 40) J b x (by (try simp only [trM_R, stM_R, trR_R, stR_R, List.length_cons, List.length_nil]); omega) hk hb) rfl rfl (Nat.le_of_ble_eq_true rfl) (Nat.le_of_ble_eq_true rfl) ?_
  refine rz_iconst dX12_winning_22 ?_
  refine rz_imul dX12_winning_23 ?_
  refine rz_iret dX12_winning_24 rfl ?_
  exact ⟨_, rfl, rfl, rfl, rfl⟩
set_option maxRecDepth 20000 in
set_option maxHeartbeats 400000 in
theorem c_act_3_2 (X : pX) (h : Nat) (I J : IM) (b x : Int) (hb : 0 ≤ b ∧ b ≤ I 81 51 - 1) (h5 : I 81 51 ≤ 50) (hk : I 116 b.toNat = 3) : KI X (h + 3) mX12_act [.ref 81, zi b, zi 2, zi x] I J (((xorZ x b) * 3)) (trR (upA I 81 (up1 (I 81) 53 0)) [40, 11]) J := by
  show Rz X (h + 3) mX12_act 0 [some (.ref 81), some (zi b), some (zi 2), some (zi x)] [] I J _
  refine rz_aload_n dX12_act_0 rfl ?_
  refine rz_iconst dX12_act_1 ?_
  refine rz_putI dX12_act_2 kp_RX12_377 hd_81 rfl ?_
  refine rz_mem (I' := (upA I 81 (up1 (I 81) 53 0))) (J' := J) (rfl) (rfl) ?_
  refine rz_aload_n dX12_act_5 rfl ?_
  refine rz_iload_n dX12_act_6 rfl ?_
  refine rz_cVIq dX12_act_7 kl_RX12_416 hd_81 ⟨_, _, rfl⟩ (c_X12_isBody X _ (upA I 81 (up1 (I 81) 53 0)) J b (by omega) (by show 0 ≤ I 81 51 ∧ I 81 51 ≤ 50; omega)) rfl rfl (Nat.le_of_ble_eq_true rfl) (Nat.le_of_ble_eq_true rfl) ?_
  rintro z7 A7 B7 ⟨⟨rfl, b7⟩ | ⟨rfl, b7⟩, rfl, rfl⟩
  · refine rz_if_eq (t := 22) dX12_act_10 rfl (by omega) (fun q => absurd q (by decide)) (fun _ => ?_)
    refine rz_iload_n dX12_act_13 rfl ?_
    refine rz_iconst dX12_act_14 ?_
    refine rz_iconst dX12_act_15 ?_
    refine rz_cSIq dX12_act_16 kl_RX12_140 (c_X12_in X _ (upA I 81 (up1 (I 81) 53 0)) J 2 0 3 (by omega) (by omega) (by omega)) rfl rfl (Nat.le_of_ble_eq_true rfl) (Nat.le_of_ble_eq_true rfl) ?_
    rintro z16 A16 B16 ⟨⟨rfl, b16⟩ | ⟨rfl, b16⟩, rfl, rfl⟩
    · refine rz_if_ne (t := 24) dX12_act_19 rfl (by omega) (fun _ => ?_) (fun q => absurd q (by decide))
      refine rz_iload_n dX12_act_24 rfl ?_
      refine rz_if_ne (t := 37) dX12_act_25 rfl (by omega) (fun _ => ?_) (fun q => absurd q (by decide))
      refine rz_iload_n dX12_act_37 rfl ?_
      refine rz_iconst dX12_act_38 ?_
      refine rz_icmp_ne (t := 51) dX12_act_39 rfl (by omega) (by omega) (fun _ => ?_) (fun q => absurd q (by decide))
      refine rz_iload_n dX12_act_51 rfl ?_
      refine rz_iconst dX12_act_52 ?_
      refine rz_icmp_ne (t := 65) dX12_act_53 rfl (by omega) (by omega) (fun q => absurd q (by decide)) (fun _ => ?_)
      refine rz_aload_n dX12_act_56 rfl ?_
      refine rz_iload_n dX12_act_57 rfl ?_
      refine rz_iload_n dX12_act_58 rfl ?_
      refine rz_cVI dX12_act_59 kl_RX12_401 hd_81 ⟨_, _, rfl⟩ (c_X12_winning_3 X _ (upA I 81 (up1 (I 81) 53 0)) J b x (by show (0 : Int) ≤ 0 ∧ (0 : Int) ≤ _; omega) hk (by omega)) rfl rfl (Nat.le_of_ble_eq_true rfl) (Nat.le_of_ble_eq_true rfl) ?_
      refine rz_goto (t := 71) dX12_act_62 rfl ?_
      refine rz_iret dX12_act_71 rfl ?_
      exact ⟨_, rfl, rfl, rfl, rfl⟩
    · exfalso; omega
  · exact absurd (show 0 ≤ b ∧ b ≤ I 81 51 - 1 by omega) b7
set_option maxRecDepth 20000 in
set_option maxHeartbeats 400000 in
theorem c_X12_plainLearns_3 (X : pX) (h : Nat) (I J : IM) (b x : Int) (hR : 0 ≤ I 81 53 ∧ I 81 53 ≤ 17) (hk : I 116 b.toNat = 3) (hb : 0 ≤ b ∧ b < 50) : KI X (h + 6) mX12_plainLearns [.ref 81, zi b, zi x] I J (((-(((x + 1) + b) * 2)) - ((xorZ 1 b) * 3))) (trR I [2, 41, 30, 10, 1, 40, 11]) J := by
  show Rz X (h + 6) mX12_plainLearns 0 [some (.ref 81), some (zi b), some (zi x), none] [] I J _
  refine rz_aload_n dX12_plainLearns_0 rfl ?_
  refine rz_iconst dX12_plainLearns_1 ?_
  refine rz_cVV dX12_plainLearns_2 kl_RX12_380 hd_81 ⟨_, _, rfl⟩ (c_X12_ran X _ I J 2 (by (try simp only [trM_R, stM_R, trR_R, stR_R, List.length_cons, List.length_nil]); omega)) rfl rfl (Nat.le_of_ble_eq_true rfl) (Nat.le_of_ble_eq_true rfl) ?_
  refine rz_aload_n dX12_plainLearns_5 rfl ?_
  refine rz_iload_n dX12_plainLearns_6 rfl ?_
  refine rz_iload_n dX12_plainLearns_7 rfl ?_
  refine rz_cVI dX12_plainLearns_8 kl_RX12_407 hd_81 ⟨_, _, rfl⟩ (c_X12_sending_3 X _ (stR I 2) J b x (by (try simp only [trM_R, stM_R, trR_R, stR_R, List.length_cons, List.length_nil]); omega) hk hb) rfl rfl (Nat.le_of_ble_eq_true rfl) (Nat.le_of_ble_eq_true rfl) ?_
  refine rz_istore_n dX12_plainLearns_11 (by decide) rfl ?_
  refine rz_iload_n dX12_plainLearns_12 rfl ?_
  refine rz_aload_n dX12_plainLearns_13 rfl ?_
  refine rz_iload_n dX12_plainLearns_14 rfl ?_
  refine rz_iconst dX12_plainLearns_15 ?_
  refine rz_cVI dX12_plainLearns_16 kl_RX12_401 hd_81 ⟨_, _, rfl⟩ (c_X12_winning_3 X _ (trR (stR I 2) [41, 30, 10, 1]) J b 1 (by (try simp only [trM_R, stM_R, trR_R, stR_R, List.length_cons, List.length_nil]); omega) hk hb) rfl rfl (Nat.le_of_ble_eq_true rfl) (Nat.le_of_ble_eq_true rfl) ?_
  refine rz_isub dX12_plainLearns_19 ?_
  refine rz_iret dX12_plainLearns_20 rfl ?_
  exact ⟨_, rfl, rfl, rfl, rfl⟩
set_option maxRecDepth 20000 in
set_option maxHeartbeats 400000 in
theorem c_X12_learning_3 (X : pX) (h : Nat) (I J : IM) (b x : Int) (hR : 0 ≤ I 81 53 ∧ I 81 53 ≤ 17) (hk : I 116 b.toNat = 3) (hb : 0 ≤ b ∧ b < 50) : KI X (h + 7) mX12_learning [.ref 81, zi b, zi x] I J (((-(((x + 1) + b) * 2)) - ((xorZ 1 b) * 3))) (trR I [2, 41, 30, 10, 1, 40, 11]) J := by
  show Rz X (h + 7) mX12_learning 0 [some (.ref 81), some (zi b), some (zi x)] [] I J _
  refine rz_aload_n dX12_learning_0 rfl ?_
  refine rz_getR dX12_learning_1 kf_RX12_114 hd_81 rfl rr_81_52 ?_
  refine rz_iload_n dX12_learning_4 rfl ?_
  refine rz_iald (z := 3) dX12_learning_5 hd_116 (by decide) (by omega) hk ?_
  refine rz_iconst dX12_learning_6 ?_
  refine rz_icmp_ne (t := 25) dX12_learning_7 rfl (by omega) (by omega) (fun _ => ?_) (fun q => absurd q (by decide))
  refine rz_aload_n dX12_learning_25 rfl ?_
  refine rz_getR dX12_learning_26 kf_RX12_114 hd_81 rfl rr_81_52 ?_
  refine rz_iload_n dX12_learning_29 rfl ?_
  refine rz_iald (z := 3) dX12_learning_30 hd_116 (by decide) (by omega) hk ?_
  refine rz_iconst dX12_learning_31 ?_
  refine rz_icmp_ne (t := 44) dX12_learning_32 rfl (by omega) (by omega) (fun _ => ?_) (fun q => absurd q (by decide))
  refine rz_aload_n dX12_learning_44 rfl ?_
  refine rz_iload_n dX12_learning_45 rfl ?_
  refine rz_iload_n dX12_learning_46 rfl ?_
  refine rz_cVI dX12_learning_47 kl_RX12_410 hd_81 ⟨_, _, rfl⟩ (c_X12_plainLearns_3 X _ I J b x (by (try simp only [trM_R, stM_R, trR_R, stR_R, List.length_cons, List.length_nil]); omega) hk hb) rfl rfl (Nat.le_of_ble_eq_true rfl) (Nat.le_of_ble_eq_true rfl) ?_
  refine rz_iret dX12_learning_50 rfl ?_
  exact ⟨_, rfl, rfl, rfl, rfl⟩
set_option maxRecDepth 20000 in
set_option maxHeartbeats 400000 in
theorem c_act_3_3 (X : pX) (h : Nat) (I J : IM) (b x : Int) (hb : 0 ≤ b ∧ b ≤ I 81 51 - 1) (h5 : I 81 51 ≤ 50) (hk : I 116 b.toNat = 3) : KI X (h + 8) mX12_act [.ref 81, zi b, zi 3, zi x] I J (((-(((x + 1) + b) * 2)) - ((xorZ 1 b) * 3))) (trR (upA I 81 (up1 (I 81) 53 0)) [2, 41, 30, 10, 1, 40, 11]) J := by
  show Rz X (h + 8) mX12_act 0 [some (.ref 81), some (zi b), some (zi 3), some (zi x)] [] I J _
  refine rz_aload_n dX12_act_0 rfl ?_
  refine rz_iconst dX12_act_1 ?_
  refine rz_putI dX12_act_2 kp_RX12_377 hd_81 rfl ?_
  refine rz_mem (I' := (upA I 81 (up1 (I 81) 53 0))) (J' := J) (rfl) (rfl) ?_
  refine rz_aload_n dX12_act_5 rfl ?_
  refine rz_iload_n dX12_act_6 rfl ?_
  refine rz_cVIq dX12_act_7 kl_RX12_416 hd_81 ⟨_, _, rfl⟩ (c_X12_isBody X _ (upA I 81 (up1 (I 81) 53 0)) J b (by omega) (by show 0 ≤ I 81 51 ∧ I 81 51 ≤ 50; omega)) rfl rfl (Nat.le_of_ble_eq_true rfl) (Nat.le_of_ble_eq_true rfl) ?_
  rintro z7 A7 B7 ⟨⟨rfl, b7⟩ | ⟨rfl, b7⟩, rfl, rfl⟩
  · refine rz_if_eq (t := 22) dX12_act_10 rfl (by omega) (fun q => absurd q (by decide)) (fun _ => ?_)
    refine rz_iload_n dX12_act_13 rfl ?_
    refine rz_iconst dX12_act_14 ?_
    refine rz_iconst dX12_act_15 ?_
    refine rz_cSIq dX12_act_16 kl_RX12_140 (c_X12_in X _ (upA I 81 (up1 (I 81) 53 0)) J 3 0 3 (by omega) (by omega) (by omega)) rfl rfl (Nat.le_of_ble_eq_true rfl) (Nat.le_of_ble_eq_true rfl) ?_
    rintro z16 A16 B16 ⟨⟨rfl, b16⟩ | ⟨rfl, b16⟩, rfl, rfl⟩
    · refine rz_if_ne (t := 24) dX12_act_19 rfl (by omega) (fun _ => ?_) (fun q => absurd q (by decide))
      refine rz_iload_n dX12_act_24 rfl ?_
      refine rz_if_ne (t := 37) dX12_act_25 rfl (by omega) (fun _ => ?_) (fun q => absurd q (by decide))
      refine rz_iload_n dX12_act_37 rfl ?_
      refine rz_iconst dX12_act_38 ?_
      refine rz_icmp_ne (t := 51) dX12_act_39 rfl (by omega) (by omega) (fun _ => ?_) (fun q => absurd q (by decide))
      refine rz_iload_n dX12_act_51 rfl ?_
      refine rz_iconst dX12_act_52 ?_
      refine rz_icmp_ne (t := 65) dX12_act_53 rfl (by omega) (by omega) (fun _ => ?_) (fun q => absurd q (by decide))
      refine rz_aload_n dX12_act_65 rfl ?_
      refine rz_iload_n dX12_act_66 rfl ?_
      refine rz_iload_n dX12_act_67 rfl ?_
      refine rz_cVI dX12_act_68 kl_RX12_419 hd_81 ⟨_, _, rfl⟩ (c_X12_learning_3 X _ (upA I 81 (up1 (I 81) 53 0)) J b x (by show (0 : Int) ≤ 0 ∧ (0 : Int) ≤ _; omega) hk (by omega)) rfl rfl (Nat.le_of_ble_eq_true rfl) (Nat.le_of_ble_eq_true rfl) ?_
      refine rz_iret dX12_act_71 rfl ?_
      exact ⟨_, rfl, rfl, rfl, rfl⟩
    · exfalso; omega
  · exact absurd (show 0 ≤ b ∧ b ≤ I 81 51 - 1 by omega) b7
set_option maxRecDepth 20000 in
set_option maxHeartbeats 400000 in
theorem c_X12_plainParts_4 (X : pX) (h : Nat) (I J : IM) (b x : Int) (hR : 0 ≤ I 81 53 ∧ I 81 53 ≤ 23) (hk : I 116 b.toNat = 4) (hb : 0 ≤ b ∧ b < 50) : KI X (h + 1) mX12_plainParts [.ref 81, zi b, zi x] I J ((x + b)) (trR I [1]) J := by
  show Rz X (h + 1) mX12_plainParts 0 [some (.ref 81), some (zi b), some (zi x)] [] I J _
  refine rz_aload_n dX12_plainParts_0 rfl ?_
  refine rz_iconst dX12_plainParts_1 ?_
  refine rz_cVV dX12_plainParts_2 kl_RX12_380 hd_81 ⟨_, _, rfl⟩ (c_X12_ran X _ I J 1 (by (try simp only [trM_R, stM_R, trR_R, stR_R, List.length_cons, List.length_nil]); omega)) rfl rfl (Nat.le_of_ble_eq_true rfl) (Nat.le_of_ble_eq_true rfl) ?_
  refine rz_iload_n dX12_plainParts_5 rfl ?_
  refine rz_iload_n dX12_plainParts_6 rfl ?_
  refine rz_iadd dX12_plainParts_7 ?_
  refine rz_iret dX12_plainParts_8 rfl ?_
  exact ⟨_, rfl, rfl, rfl, rfl⟩
set_option maxRecDepth 20000 in
set_option maxHeartbeats 400000 in
theorem c_X12_parting_4 (X : pX) (h : Nat) (I J : IM) (b x : Int) (hR : 0 ≤ I 81 53 ∧ I 81 53 ≤ 22) (hk : I 116 b.toNat = 4) (hb : 0 ≤ b ∧ b < 50) : KI X (h + 2) mX12_parting [.ref 81, zi b, zi x] I J (((x + b) + 3)) (trR I [20, 1]) J := by
  show Rz X (h + 2) mX12_parting 0 [some (.ref 81), some (zi b), some (zi x)] [] I J _
  refine rz_aload_n dX12_parting_0 rfl ?_
  refine rz_getR dX12_parting_1 kf_RX12_114 hd_81 rfl rr_81_52 ?_
  refine rz_iload_n dX12_parting_4 rfl ?_
  refine rz_iald (z := 4) dX12_parting_5 hd_116 (by decide) (by omega) hk ?_
  refine rz_iconst dX12_parting_6 ?_
  refine rz_cSIq dX12_parting_7 kl_RX12_386 (c_X12_isUnder X _ I J 4 1 (by omega) (by omega)) rfl rfl (Nat.le_of_ble_eq_true rfl) (Nat.le_of_ble_eq_true rfl) ?_
  rintro z7 A7 B7 ⟨⟨rfl, b7⟩ | ⟨rfl, b7⟩, rfl, rfl⟩
  · refine rz_if_eq (t := 28) dX12_parting_10 rfl (by omega) (fun q => absurd q (by decide)) (fun _ => ?_)
    refine rz_aload_n dX12_parting_13 rfl ?_
    refine rz_bipush dX12_parting_14 (by decide) ?_
    refine rz_cVV dX12_parting_16 kl_RX12_380 hd_81 ⟨_, _, rfl⟩ (c_X12_ran X _ I J 20 (by (try simp only [trM_R, stM_R, trR_R, stR_R, List.length_cons, List.length_nil]); omega)) rfl rfl (Nat.le_of_ble_eq_true rfl) (Nat.le_of_ble_eq_true rfl) ?_
    refine rz_aload_n dX12_parting_19 rfl ?_
    refine rz_iload_n dX12_parting_20 rfl ?_
    refine rz_iload_n dX12_parting_21 rfl ?_
    refine rz_cVI dX12_parting_22 kl_RX12_383 hd_81 ⟨_, _, rfl⟩ (c_X12_plainParts_4 X _ (stR I 20) J b x (by (try simp only [trM_R, stM_R, trR_R, stR_R, List.length_cons, List.length_nil]); omega) hk hb) rfl rfl (Nat.le_of_ble_eq_true rfl) (Nat.le_of_ble_eq_true rfl) ?_
    refine rz_iconst dX12_parting_25 ?_
    refine rz_iadd dX12_parting_26 ?_
    refine rz_iret dX12_parting_27 rfl ?_
    exact ⟨_, rfl, rfl, rfl, rfl⟩
  · exfalso; omega
set_option maxRecDepth 20000 in
set_option maxHeartbeats 400000 in
theorem c_act_4_0 (X : pX) (h : Nat) (I J : IM) (b x : Int) (hb : 0 ≤ b ∧ b ≤ I 81 51 - 1) (h5 : I 81 51 ≤ 50) (hk : I 116 b.toNat = 4) : KI X (h + 3) mX12_act [.ref 81, zi b, zi 0, zi x] I J (((x + b) + 3)) (trR (upA I 81 (up1 (I 81) 53 0)) [20, 1]) J := by
  show Rz X (h + 3) mX12_act 0 [some (.ref 81), some (zi b), some (zi 0), some (zi x)] [] I J _
  refine rz_aload_n dX12_act_0 rfl ?_
  refine rz_iconst dX12_act_1 ?_
  refine rz_putI dX12_act_2 kp_RX12_377 hd_81 rfl ?_
  refine rz_mem (I' := (upA I 81 (up1 (I 81) 53 0))) (J' := J) (rfl) (rfl) ?_
  refine rz_aload_n dX12_act_5 rfl ?_
  refine rz_iload_n dX12_act_6 rfl ?_
  refine rz_cVIq dX12_act_7 kl_RX12_416 hd_81 ⟨_, _, rfl⟩ (c_X12_isBody X _ (upA I 81 (up1 (I 81) 53 0)) J b (by omega) (by show 0 ≤ I 81 51 ∧ I 81 51 ≤ 50; omega)) rfl rfl (Nat.le_of_ble_eq_true rfl) (Nat.le_of_ble_eq_true rfl) ?_
  rintro z7 A7 B7 ⟨⟨rfl, b7⟩ | ⟨rfl, b7⟩, rfl, rfl⟩
  · refine rz_if_eq (t := 22) dX12_act_10 rfl (by omega) (fun q => absurd q (by decide)) (fun _ => ?_)
    refine rz_iload_n dX12_act_13 rfl ?_
    refine rz_iconst dX12_act_14 ?_
    refine rz_iconst dX12_act_15 ?_
    refine rz_cSIq dX12_act_16 kl_RX12_140 (c_X12_in X _ (upA I 81 (up1 (I 81) 53 0)) J 0 0 3 (by omega) (by omega) (by omega)) rfl rfl (Nat.le_of_ble_eq_true rfl) (Nat.le_of_ble_eq_true rfl) ?_
    rintro z16 A16 B16 ⟨⟨rfl, b16⟩ | ⟨rfl, b16⟩, rfl, rfl⟩
    · refine rz_if_ne (t := 24) dX12_act_19 rfl (by omega) (fun _ => ?_) (fun q => absurd q (by decide))
      refine rz_iload_n dX12_act_24 rfl ?_
      refine rz_if_ne (t := 37) dX12_act_25 rfl (by omega) (fun q => absurd q (by decide)) (fun _ => ?_)
      refine rz_aload_n dX12_act_28 rfl ?_
      refine rz_iload_n dX12_act_29 rfl ?_
      refine rz_iload_n dX12_act_30 rfl ?_
      refine rz_cVI dX12_act_31 kl_RX12_392 hd_81 ⟨_, _, rfl⟩ (c_X12_parting_4 X _ (upA I 81 (up1 (I 81) 53 0)) J b x (by show (0 : Int) ≤ 0 ∧ (0 : Int) ≤ _; omega) hk (by omega)) rfl rfl (Nat.le_of_ble_eq_true rfl) (Nat.le_of_ble_eq_true rfl) ?_
      refine rz_goto (t := 71) dX12_act_34 rfl ?_
      refine rz_iret dX12_act_71 rfl ?_
      exact ⟨_, rfl, rfl, rfl, rfl⟩
    · exfalso; omega
  · exact absurd (show 0 ≤ b ∧ b ≤ I 81 51 - 1 by omega) b7
set_option maxRecDepth 20000 in
set_option maxHeartbeats 400000 in
theorem c_X12_plainSends_4 (X : pX) (h : Nat) (I J : IM) (b x : Int) (hR : 0 ≤ I 81 53 ∧ I 81 53 ≤ 21) (hk : I 116 b.toNat = 4) (hb : 0 ≤ b ∧ b < 50) : KI X (h + 3) mX12_plainSends [.ref 81, zi b, zi x] I J ((((x + b) + 3) * 2)) (trR I [10, 20, 1]) J := by
  show Rz X (h + 3) mX12_plainSends 0 [some (.ref 81), some (zi b), some (zi x)] [] I J _
  refine rz_aload_n dX12_plainSends_0 rfl ?_
  refine rz_bipush dX12_plainSends_1 (by decide) ?_
  refine rz_cVV dX12_plainSends_3 kl_RX12_380 hd_81 ⟨_, _, rfl⟩ (c_X12_ran X _ I J 10 (by (try simp only [trM_R, stM_R, trR_R, stR_R, List.length_cons, List.length_nil]); omega)) rfl rfl (Nat.le_of_ble_eq_true rfl) (Nat.le_of_ble_eq_true rfl) ?_
  refine rz_aload_n dX12_plainSends_6 rfl ?_
  refine rz_iload_n dX12_plainSends_7 rfl ?_
  refine rz_iload_n dX12_plainSends_8 rfl ?_
  refine rz_cVI dX12_plainSends_9 kl_RX12_392 hd_81 ⟨_, _, rfl⟩ (c_X12_parting_4 X _ (stR I 10) J b x (by (try simp only [trM_R, stM_R, trR_R, stR_R, List.length_cons, List.length_nil]); omega) hk hb) rfl rfl (Nat.le_of_ble_eq_true rfl) (Nat.le_of_ble_eq_true rfl) ?_
  refine rz_iconst dX12_plainSends_12 ?_
  refine rz_imul dX12_plainSends_13 ?_
  refine rz_iret dX12_plainSends_14 rfl ?_
  exact ⟨_, rfl, rfl, rfl, rfl⟩
set_option maxRecDepth 20000 in
set_option maxHeartbeats 400000 in
theorem c_X12_sending_4 (X : pX) (h : Nat) (I J : IM) (b x : Int) (hR : 0 ≤ I 81 53 ∧ I 81 53 ≤ 21) (hk : I 116 b.toNat = 4) (hb : 0 ≤ b ∧ b < 50) : KI X (h + 4) mX12_sending [.ref 81, zi b, zi x] I J ((((x + b) + 3) * 2)) (trR I [10, 20, 1]) J := by
  show Rz X (h + 4) mX12_sending 0 [some (.ref 81), some (zi b), some (zi x), none] [] I J _
  refine rz_aload_n dX12_sending_0 rfl ?_
  refine rz_getR dX12_sending_1 kf_RX12_114 hd_81 rfl rr_81_52 ?_
  refine rz_iload_n dX12_sending_4 rfl ?_
  refine rz_iald (z := 4) dX12_sending_5 hd_116 (by decide) (by omega) hk ?_
  refine rz_iconst dX12_sending_6 ?_
  refine rz_icmp_ne (t := 25) dX12_sending_7 rfl (by omega) (by omega) (fun _ => ?_) (fun q => absurd q (by decide))
  refine rz_aload_n dX12_sending_25 rfl ?_
  refine rz_getR dX12_sending_26 kf_RX12_114 hd_81 rfl rr_81_52 ?_
  refine rz_iload_n dX12_sending_29 rfl ?_
  refine rz_iald (z := 4) dX12_sending_30 hd_116 (by decide) (by omega) hk ?_
  refine rz_bipush dX12_sending_31 (by decide) ?_
  refine rz_icmp_ne (t := 58) dX12_sending_33 rfl (by omega) (by omega) (fun _ => ?_) (fun q => absurd q (by decide))
  refine rz_aload_n dX12_sending_58 rfl ?_
  refine rz_getR dX12_sending_59 kf_RX12_114 hd_81 rfl rr_81_52 ?_
  refine rz_iload_n dX12_sending_62 rfl ?_
  refine rz_iald (z := 4) dX12_sending_63 hd_116 (by decide) (by omega) hk ?_
  refine rz_iconst dX12_sending_64 ?_
  refine rz_icmp_ne (t := 77) dX12_sending_65 rfl (by omega) (by omega) (fun _ => ?_) (fun q => absurd q (by decide))
  refine rz_aload_n dX12_sending_77 rfl ?_
  refine rz_iload_n dX12_sending_78 rfl ?_
  refine rz_iload_n dX12_sending_79 rfl ?_
  refine rz_cVI dX12_sending_80 kl_RX12_395 hd_81 ⟨_, _, rfl⟩ (c_X12_plainSends_4 X _ I J b x (by (try simp only [trM_R, stM_R, trR_R, stR_R, List.length_cons, List.length_nil]); omega) hk hb) rfl rfl (Nat.le_of_ble_eq_true rfl) (Nat.le_of_ble_eq_true rfl) ?_
  refine rz_iret dX12_sending_83 rfl ?_
  exact ⟨_, rfl, rfl, rfl, rfl⟩
set_option maxRecDepth 20000 in
set_option maxHeartbeats 400000 in
theorem c_act_4_1 (X : pX) (h : Nat) (I J : IM) (b x : Int) (hb : 0 ≤ b ∧ b ≤ I 81 51 - 1) (h5 : I 81 51 ≤ 50) (hk : I 116 b.toNat = 4) : KI X (h + 5) mX12_act [.ref 81, zi b, zi 1, zi x] I J ((((x + b) + 3) * 2)) (trR (upA I 81 (up1 (I 81) 53 0)) [10, 20, 1]) J := by
  show Rz X (h + 5) mX12_act 0 [some (.ref 81), some (zi b), some (zi 1), some (zi x)] [] I J _
  refine rz_aload_n dX12_act_0 rfl ?_
  refine rz_iconst dX12_act_1 ?_
  refine rz_putI dX12_act_2 kp_RX12_377 hd_81 rfl ?_
  refine rz_mem (I' := (upA I 81 (up1 (I 81) 53 0))) (J' := J) (rfl) (rfl) ?_
  refine rz_aload_n dX12_act_5 rfl ?_
  refine rz_iload_n dX12_act_6 rfl ?_
  refine rz_cVIq dX12_act_7 kl_RX12_416 hd_81 ⟨_, _, rfl⟩ (c_X12_isBody X _ (upA I 81 (up1 (I 81) 53 0)) J b (by omega) (by show 0 ≤ I 81 51 ∧ I 81 51 ≤ 50; omega)) rfl rfl (Nat.le_of_ble_eq_true rfl) (Nat.le_of_ble_eq_true rfl) ?_
  rintro z7 A7 B7 ⟨⟨rfl, b7⟩ | ⟨rfl, b7⟩, rfl, rfl⟩
  · refine rz_if_eq (t := 22) dX12_act_10 rfl (by omega) (fun q => absurd q (by decide)) (fun _ => ?_)
    refine rz_iload_n dX12_act_13 rfl ?_
    refine rz_iconst dX12_act_14 ?_
    refine rz_iconst dX12_act_15 ?_
    refine rz_cSIq dX12_act_16 kl_RX12_140 (c_X12_in X _ (upA I 81 (up1 (I 81) 53 0)) J 1 0 3 (by omega) (by omega) (by omega)) rfl rfl (Nat.le_of_ble_eq_true rfl) (Nat.le_of_ble_eq_true rfl) ?_
    rintro z16 A16 B16 ⟨⟨rfl, b16⟩ | ⟨rfl, b16⟩, rfl, rfl⟩
    · refine rz_if_ne (t := 24) dX12_act_19 rfl (by omega) (fun _ => ?_) (fun q => absurd q (by decide))
      refine rz_iload_n dX12_act_24 rfl ?_
      refine rz_if_ne (t := 37) dX12_act_25 rfl (by omega) (fun _ => ?_) (fun q => absurd q (by decide))
      refine rz_iload_n dX12_act_37 rfl ?_
      refine rz_iconst dX12_act_38 ?_
      refine rz_icmp_ne (t := 51) dX12_act_39 rfl (by omega) (by omega) (fun q => absurd q (by decide)) (fun _ => ?_)
      refine rz_aload_n dX12_act_42 rfl ?_
      refine rz_iload_n dX12_act_43 rfl ?_
      refine rz_iload_n dX12_act_44 rfl ?_
      refine rz_cVI dX12_act_45 kl_RX12_407 hd_81 ⟨_, _, rfl⟩ (c_X12_sending_4 X _ (upA I 81 (up1 (I 81) 53 0)) J b x (by show (0 : Int) ≤ 0 ∧ (0 : Int) ≤ _; omega) hk (by omega)) rfl rfl (Nat.le_of_ble_eq_true rfl) (Nat.le_of_ble_eq_true rfl) ?_
      refine rz_goto (t := 71) dX12_act_48 rfl ?_
      refine rz_iret dX12_act_71 rfl ?_
      exact ⟨_, rfl, rfl, rfl, rfl⟩
    · exfalso; omega
  · exact absurd (show 0 ≤ b ∧ b ≤ I 81 51 - 1 by omega) b7
set_option maxRecDepth 20000 in
set_option maxHeartbeats 400000 in
theorem c_X12_plainWins_4 (X : pX) (h : Nat) (I J : IM) (b x : Int) (hR : 0 ≤ I 81 53 ∧ I 81 53 ≤ 23) (hk : I 116 b.toNat = 4) (hb : 0 ≤ b ∧ b < 50) : KI X (h + 1) mX12_plainWins [.ref 81, zi b, zi x] I J ((xorZ x b)) (trR I [11]) J := by
  show Rz X (h + 1) mX12_plainWins 0 [some (.ref 81), some (zi b), some (zi x)] [] I J _
  refine rz_aload_n dX12_plainWins_0 rfl ?_
  refine rz_bipush dX12_plainWins_1 (by decide) ?_
  refine rz_cVV dX12_plainWins_3 kl_RX12_380 hd_81 ⟨_, _, rfl⟩ (c_X12_ran X _ I J 11 (by (try simp only [trM_R, stM_R, trR_R, stR_R, List.length_cons, List.length_nil]); omega)) rfl rfl (Nat.le_of_ble_eq_true rfl) (Nat.le_of_ble_eq_true rfl) ?_
  refine rz_iload_n dX12_plainWins_6 rfl ?_
  refine rz_iload_n dX12_plainWins_7 rfl ?_
  refine rz_ixor dX12_plainWins_8 ?_
  refine rz_iret dX12_plainWins_9 rfl ?_
  exact ⟨_, rfl, rfl, rfl, rfl⟩
set_option maxRecDepth 20000 in
set_option maxHeartbeats 400000 in
theorem c_X12_winning_4 (X : pX) (h : Nat) (I J : IM) (b x : Int) (hR : 0 ≤ I 81 53 ∧ I 81 53 ≤ 23) (hk : I 116 b.toNat = 4) (hb : 0 ≤ b ∧ b < 50) : KI X (h + 2) mX12_winning [.ref 81, zi b, zi x] I J ((xorZ x b)) (trR I [11]) J := by
  show Rz X (h + 2) mX12_winning 0 [some (.ref 81), some (zi b), some (zi x), none] [] I J _
  refine rz_aload_n dX12_winning_0 rfl ?_
  refine rz_getR dX12_winning_1 kf_RX12_114 hd_81 rfl rr_81_52 ?_
  refine rz_iload_n dX12_winning_4 rfl ?_
  refine rz_iald (z := 4) dX12_winning_5 hd_116 (by decide) (by omega) hk ?_
  refine rz_iconst dX12_winning_6 ?_
  refine rz_icmp_ne (t := 25) dX12_winning_7 rfl (by omega) (by omega) (fun _ => ?_) (fun q => absurd q (by decide))
  refine rz_aload_n dX12_winning_25 rfl ?_
  refine rz_getR dX12_winning_26 kf_RX12_114 hd_81 rfl rr_81_52 ?_
  refine rz_iload_n dX12_winning_29 rfl ?_
  refine rz_iald (z := 4) dX12_winning_30 hd_116 (by decide) (by omega) hk ?_
  refine rz_iconst dX12_winning_31 ?_
  refine rz_icmp_ne (t := 57) dX12_winning_32 rfl (by omega) (by omega) (fun _ => ?_) (fun q => absurd q (by decide))
  refine rz_aload_n dX12_winning_57 rfl ?_
  refine rz_iload_n dX12_winning_58 rfl ?_
  refine rz_iload_n dX12_winning_59 rfl ?_
  refine rz_cVI dX12_winning_60 kl_RX12_404 hd_81 ⟨_, _, rfl⟩ (c_X12_plainWins_4 X _ I J b x (by (try simp only [trM_R, stM_R, trR_R, stR_R, List.length_cons, List.length_nil]); omega) hk hb) rfl rfl (Nat.le_of_ble_eq_true rfl) (Nat.le_of_ble_eq_true rfl) ?_
  refine rz_iret dX12_winning_63 rfl ?_
  exact ⟨_, rfl, rfl, rfl, rfl⟩
set_option maxRecDepth 20000 in
set_option maxHeartbeats 400000 in
theorem c_act_4_2 (X : pX) (h : Nat) (I J : IM) (b x : Int) (hb : 0 ≤ b ∧ b ≤ I 81 51 - 1) (h5 : I 81 51 ≤ 50) (hk : I 116 b.toNat = 4) : KI X (h + 3) mX12_act [.ref 81, zi b, zi 2, zi x] I J ((xorZ x b)) (trR (upA I 81 (up1 (I 81) 53 0)) [11]) J := by
  show Rz X (h + 3) mX12_act 0 [some (.ref 81), some (zi b), some (zi 2), some (zi x)] [] I J _
  refine rz_aload_n dX12_act_0 rfl ?_
  refine rz_iconst dX12_act_1 ?_
  refine rz_putI dX12_act_2 kp_RX12_377 hd_81 rfl ?_
  refine rz_mem (I' := (upA I 81 (up1 (I 81) 53 0))) (J' := J) (rfl) (rfl) ?_
  refine rz_aload_n dX12_act_5 rfl ?_
  refine rz_iload_n dX12_act_6 rfl ?_
  refine rz_cVIq dX12_act_7 kl_RX12_416 hd_81 ⟨_, _, rfl⟩ (c_X12_isBody X _ (upA I 81 (up1 (I 81) 53 0)) J b (by omega) (by show 0 ≤ I 81 51 ∧ I 81 51 ≤ 50; omega)) rfl rfl (Nat.le_of_ble_eq_true rfl) (Nat.le_of_ble_eq_true rfl) ?_
  rintro z7 A7 B7 ⟨⟨rfl, b7⟩ | ⟨rfl, b7⟩, rfl, rfl⟩
  · refine rz_if_eq (t := 22) dX12_act_10 rfl (by omega) (fun q => absurd q (by decide)) (fun _ => ?_)
    refine rz_iload_n dX12_act_13 rfl ?_
    refine rz_iconst dX12_act_14 ?_
    refine rz_iconst dX12_act_15 ?_
    refine rz_cSIq dX12_act_16 kl_RX12_140 (c_X12_in X _ (upA I 81 (up1 (I 81) 53 0)) J 2 0 3 (by omega) (by omega) (by omega)) rfl rfl (Nat.le_of_ble_eq_true rfl) (Nat.le_of_ble_eq_true rfl) ?_
    rintro z16 A16 B16 ⟨⟨rfl, b16⟩ | ⟨rfl, b16⟩, rfl, rfl⟩
    · refine rz_if_ne (t := 24) dX12_act_19 rfl (by omega) (fun _ => ?_) (fun q => absurd q (by decide))
      refine rz_iload_n dX12_act_24 rfl ?_
      refine rz_if_ne (t := 37) dX12_act_25 rfl (by omega) (fun _ => ?_) (fun q => absurd q (by decide))
      refine rz_iload_n dX12_act_37 rfl ?_
      refine rz_iconst dX12_act_38 ?_
      refine rz_icmp_ne (t := 51) dX12_act_39 rfl (by omega) (by omega) (fun _ => ?_) (fun q => absurd q (by decide))
      refine rz_iload_n dX12_act_51 rfl ?_
      refine rz_iconst dX12_act_52 ?_
      refine rz_icmp_ne (t := 65) dX12_act_53 rfl (by omega) (by omega) (fun q => absurd q (by decide)) (fun _ => ?_)
      refine rz_aload_n dX12_act_56 rfl ?_
      refine rz_iload_n dX12_act_57 rfl ?_
      refine rz_iload_n dX12_act_58 rfl ?_
      refine rz_cVI dX12_act_59 kl_RX12_401 hd_81 ⟨_, _, rfl⟩ (c_X12_winning_4 X _ (upA I 81 (up1 (I 81) 53 0)) J b x (by show (0 : Int) ≤ 0 ∧ (0 : Int) ≤ _; omega) hk (by omega)) rfl rfl (Nat.le_of_ble_eq_true rfl) (Nat.le_of_ble_eq_true rfl) ?_
      refine rz_goto (t := 71) dX12_act_62 rfl ?_
      refine rz_iret dX12_act_71 rfl ?_
      exact ⟨_, rfl, rfl, rfl, rfl⟩
    · exfalso; omega
  · exact absurd (show 0 ≤ b ∧ b ≤ I 81 51 - 1 by omega) b7
set_option maxRecDepth 20000 in
set_option maxHeartbeats 400000 in
theorem c_X12_plainLearns_4 (X : pX) (h : Nat) (I J : IM) (b x : Int) (hR : 0 ≤ I 81 53 ∧ I 81 53 ≤ 19) (hk : I 116 b.toNat = 4) (hb : 0 ≤ b ∧ b < 50) : KI X (h + 5) mX12_plainLearns [.ref 81, zi b, zi x] I J (((((x + b) + 3) * 2) - (xorZ 1 b))) (trR I [2, 10, 20, 1, 11]) J := by
  show Rz X (h + 5) mX12_plainLearns 0 [some (.ref 81), some (zi b), some (zi x), none] [] I J _
  refine rz_aload_n dX12_plainLearns_0 rfl ?_
  refine rz_iconst dX12_plainLearns_1 ?_
  refine rz_cVV dX12_plainLearns_2 kl_RX12_380 hd_81 ⟨_, _, rfl⟩ (c_X12_ran X _ I J 2 (by (try simp only [trM_R, stM_R, trR_R, stR_R, List.length_cons, List.length_nil]); omega)) rfl rfl (Nat.le_of_ble_eq_true rfl) (Nat.le_of_ble_eq_true rfl) ?_
  refine rz_aload_n dX12_plainLearns_5 rfl ?_
  refine rz_iload_n dX12_plainLearns_6 rfl ?_
  refine rz_iload_n dX12_plainLearns_7 rfl ?_
  refine rz_cVI dX12_plainLearns_8 kl_RX12_407 hd_81 ⟨_, _, rfl⟩ (c_X12_sending_4 X _ (stR I 2) J b x (by (try simp only [trM_R, stM_R, trR_R, stR_R, List.length_cons, List.length_nil]); omega) hk hb) rfl rfl (Nat.le_of_ble_eq_true rfl) (Nat.le_of_ble_eq_true rfl) ?_
  refine rz_istore_n dX12_plainLearns_11 (by decide) rfl ?_
  refine rz_iload_n dX12_plainLearns_12 rfl ?_
  refine rz_aload_n dX12_plainLearns_13 rfl ?_
  refine rz_iload_n dX12_plainLearns_14 rfl ?_
  refine rz_iconst dX12_plainLearns_15 ?_
  refine rz_cVI dX12_plainLearns_16 kl_RX12_401 hd_81 ⟨_, _, rfl⟩ (c_X12_winning_4 X _ (trR (stR I 2) [10, 20, 1]) J b 1 (by (try simp only [trM_R, stM_R, trR_R, stR_R, List.length_cons, List.length_nil]); omega) hk hb) rfl rfl (Nat.le_of_ble_eq_true rfl) (Nat.le_of_ble_eq_true rfl) ?_
  refine rz_isub dX12_plainLearns_19 ?_
  refine rz_iret dX12_plainLearns_20 rfl ?_
  exact ⟨_, rfl, rfl, rfl, rfl⟩
set_option maxRecDepth 20000 in
set_option maxHeartbeats 400000 in
theorem c_X12_bestLearns_4 (X : pX) (h : Nat) (I J : IM) (b x : Int) (hR : 0 ≤ I 81 53 ∧ I 81 53 ≤ 18) (hk : I 116 b.toNat = 4) (hb : 0 ≤ b ∧ b < 50) : KI X (h + 6) mX12_bestLearns [.ref 81, zi b, zi x] I J ((xorZ ((((x + b) + 3) * 2) - (xorZ 1 b)) 5)) (trR I [50, 2, 10, 20, 1, 11]) J := by
  show Rz X (h + 6) mX12_bestLearns 0 [some (.ref 81), some (zi b), some (zi x)] [] I J _
  refine rz_aload_n dX12_bestLearns_0 rfl ?_
  refine rz_bipush dX12_bestLearns_1 (by decide) ?_
  refine rz_cVV dX12_bestLearns_3 kl_RX12_380 hd_81 ⟨_, _, rfl⟩ (c_X12_ran X _ I J 50 (by (try simp only [trM_R, stM_R, trR_R, stR_R, List.length_cons, List.length_nil]); omega)) rfl rfl (Nat.le_of_ble_eq_true rfl) (Nat.le_of_ble_eq_true rfl) ?_
  refine rz_aload_n dX12_bestLearns_6 rfl ?_
  refine rz_iload_n dX12_bestLearns_7 rfl ?_
  refine rz_iload_n dX12_bestLearns_8 rfl ?_
  refine rz_cVI dX12_bestLearns_9 kl_RX12_410 hd_81 ⟨_, _, rfl⟩ (c_X12_plainLearns_4 X _ (stR I 50) J b x (by (try simp only [trM_R, stM_R, trR_R, stR_R, List.length_cons, List.length_nil]); omega) hk hb) rfl rfl (Nat.le_of_ble_eq_true rfl) (Nat.le_of_ble_eq_true rfl) ?_
  refine rz_iconst dX12_bestLearns_12 ?_
  refine rz_ixor dX12_bestLearns_13 ?_
  refine rz_iret dX12_bestLearns_14 rfl ?_
  exact ⟨_, rfl, rfl, rfl, rfl⟩
set_option maxRecDepth 20000 in
set_option maxHeartbeats 400000 in
theorem c_X12_learning_4 (X : pX) (h : Nat) (I J : IM) (b x : Int) (hR : 0 ≤ I 81 53 ∧ I 81 53 ≤ 18) (hk : I 116 b.toNat = 4) (hb : 0 ≤ b ∧ b < 50) : KI X (h + 7) mX12_learning [.ref 81, zi b, zi x] I J ((xorZ ((((x + b) + 3) * 2) - (xorZ 1 b)) 5)) (trR I [50, 2, 10, 20, 1, 11]) J := by
  show Rz X (h + 7) mX12_learning 0 [some (.ref 81), some (zi b), some (zi x)] [] I J _
  refine rz_aload_n dX12_learning_0 rfl ?_
  refine rz_getR dX12_learning_1 kf_RX12_114 hd_81 rfl rr_81_52 ?_
  refine rz_iload_n dX12_learning_4 rfl ?_
  refine rz_iald (z := 4) dX12_learning_5 hd_116 (by decide) (by omega) hk ?_
  refine rz_iconst dX12_learning_6 ?_
  refine rz_icmp_ne (t := 25) dX12_learning_7 rfl (by omega) (by omega) (fun _ => ?_) (fun q => absurd q (by decide))
  refine rz_aload_n dX12_learning_25 rfl ?_
  refine rz_getR dX12_learning_26 kf_RX12_114 hd_81 rfl rr_81_52 ?_
  refine rz_iload_n dX12_learning_29 rfl ?_
  refine rz_iald (z := 4) dX12_learning_30 hd_116 (by decide) (by omega) hk ?_
  refine rz_iconst dX12_learning_31 ?_
  refine rz_icmp_ne (t := 44) dX12_learning_32 rfl (by omega) (by omega) (fun q => absurd q (by decide)) (fun _ => ?_)
  refine rz_aload_n dX12_learning_35 rfl ?_
  refine rz_iload_n dX12_learning_36 rfl ?_
  refine rz_iload_n dX12_learning_37 rfl ?_
  refine rz_cVI dX12_learning_38 kl_RX12_413 hd_81 ⟨_, _, rfl⟩ (c_X12_bestLearns_4 X _ I J b x (by (try simp only [trM_R, stM_R, trR_R, stR_R, List.length_cons, List.length_nil]); omega) hk hb) rfl rfl (Nat.le_of_ble_eq_true rfl) (Nat.le_of_ble_eq_true rfl) ?_
  refine rz_goto (t := 50) dX12_learning_41 rfl ?_
  refine rz_iret dX12_learning_50 rfl ?_
  exact ⟨_, rfl, rfl, rfl, rfl⟩
set_option maxRecDepth 20000 in
set_option maxHeartbeats 400000 in
theorem c_act_4_3 (X : pX) (h : Nat) (I J : IM) (b x : Int) (hb : 0 ≤ b ∧ b ≤ I 81 51 - 1) (h5 : I 81 51 ≤ 50) (hk : I 116 b.toNat = 4) : KI X (h + 8) mX12_act [.ref 81, zi b, zi 3, zi x] I J ((xorZ ((((x + b) + 3) * 2) - (xorZ 1 b)) 5)) (trR (upA I 81 (up1 (I 81) 53 0)) [50, 2, 10, 20, 1, 11]) J := by
  show Rz X (h + 8) mX12_act 0 [some (.ref 81), some (zi b), some (zi 3), some (zi x)] [] I J _
  refine rz_aload_n dX12_act_0 rfl ?_
  refine rz_iconst dX12_act_1 ?_
  refine rz_putI dX12_act_2 kp_RX12_377 hd_81 rfl ?_
  refine rz_mem (I' := (upA I 81 (up1 (I 81) 53 0))) (J' := J) (rfl) (rfl) ?_
  refine rz_aload_n dX12_act_5 rfl ?_
  refine rz_iload_n dX12_act_6 rfl ?_
  refine rz_cVIq dX12_act_7 kl_RX12_416 hd_81 ⟨_, _, rfl⟩ (c_X12_isBody X _ (upA I 81 (up1 (I 81) 53 0)) J b (by omega) (by show 0 ≤ I 81 51 ∧ I 81 51 ≤ 50; omega)) rfl rfl (Nat.le_of_ble_eq_true rfl) (Nat.le_of_ble_eq_true rfl) ?_
  rintro z7 A7 B7 ⟨⟨rfl, b7⟩ | ⟨rfl, b7⟩, rfl, rfl⟩
  · refine rz_if_eq (t := 22) dX12_act_10 rfl (by omega) (fun q => absurd q (by decide)) (fun _ => ?_)
    refine rz_iload_n dX12_act_13 rfl ?_
    refine rz_iconst dX12_act_14 ?_
    refine rz_iconst dX12_act_15 ?_
    refine rz_cSIq dX12_act_16 kl_RX12_140 (c_X12_in X _ (upA I 81 (up1 (I 81) 53 0)) J 3 0 3 (by omega) (by omega) (by omega)) rfl rfl (Nat.le_of_ble_eq_true rfl) (Nat.le_of_ble_eq_true rfl) ?_
    rintro z16 A16 B16 ⟨⟨rfl, b16⟩ | ⟨rfl, b16⟩, rfl, rfl⟩
    · refine rz_if_ne (t := 24) dX12_act_19 rfl (by omega) (fun _ => ?_) (fun q => absurd q (by decide))
      refine rz_iload_n dX12_act_24 rfl ?_
      refine rz_if_ne (t := 37) dX12_act_25 rfl (by omega) (fun _ => ?_) (fun q => absurd q (by decide))
      refine rz_iload_n dX12_act_37 rfl ?_
      refine rz_iconst dX12_act_38 ?_
      refine rz_icmp_ne (t := 51) dX12_act_39 rfl (by omega) (by omega) (fun _ => ?_) (fun q => absurd q (by decide))
      refine rz_iload_n dX12_act_51 rfl ?_
      refine rz_iconst dX12_act_52 ?_
      refine rz_icmp_ne (t := 65) dX12_act_53 rfl (by omega) (by omega) (fun _ => ?_) (fun q => absurd q (by decide))
      refine rz_aload_n dX12_act_65 rfl ?_
      refine rz_iload_n dX12_act_66 rfl ?_
      refine rz_iload_n dX12_act_67 rfl ?_
      refine rz_cVI dX12_act_68 kl_RX12_419 hd_81 ⟨_, _, rfl⟩ (c_X12_learning_4 X _ (upA I 81 (up1 (I 81) 53 0)) J b x (by show (0 : Int) ≤ 0 ∧ (0 : Int) ≤ _; omega) hk (by omega)) rfl rfl (Nat.le_of_ble_eq_true rfl) (Nat.le_of_ble_eq_true rfl) ?_
      refine rz_iret dX12_act_71 rfl ?_
      exact ⟨_, rfl, rfl, rfl, rfl⟩
    · exfalso; omega
  · exact absurd (show 0 ≤ b ∧ b ≤ I 81 51 - 1 by omega) b7
set_option maxRecDepth 20000 in
set_option maxHeartbeats 400000 in
theorem c_X12_plainParts_5 (X : pX) (h : Nat) (I J : IM) (b x : Int) (hR : 0 ≤ I 81 53 ∧ I 81 53 ≤ 23) (hk : I 116 b.toNat = 5) (hb : 0 ≤ b ∧ b < 50) : KI X (h + 1) mX12_plainParts [.ref 81, zi b, zi x] I J ((x + b)) (trR I [1]) J := by
  show Rz X (h + 1) mX12_plainParts 0 [some (.ref 81), some (zi b), some (zi x)] [] I J _
  refine rz_aload_n dX12_plainParts_0 rfl ?_
  refine rz_iconst dX12_plainParts_1 ?_
  refine rz_cVV dX12_plainParts_2 kl_RX12_380 hd_81 ⟨_, _, rfl⟩ (c_X12_ran X _ I J 1 (by (try simp only [trM_R, stM_R, trR_R, stR_R, List.length_cons, List.length_nil]); omega)) rfl rfl (Nat.le_of_ble_eq_true rfl) (Nat.le_of_ble_eq_true rfl) ?_
  refine rz_iload_n dX12_plainParts_5 rfl ?_
  refine rz_iload_n dX12_plainParts_6 rfl ?_
  refine rz_iadd dX12_plainParts_7 ?_
  refine rz_iret dX12_plainParts_8 rfl ?_
  exact ⟨_, rfl, rfl, rfl, rfl⟩
set_option maxRecDepth 20000 in
set_option maxHeartbeats 400000 in
theorem c_X12_parting_5 (X : pX) (h : Nat) (I J : IM) (b x : Int) (hR : 0 ≤ I 81 53 ∧ I 81 53 ≤ 22) (hk : I 116 b.toNat = 5) (hb : 0 ≤ b ∧ b < 50) : KI X (h + 2) mX12_parting [.ref 81, zi b, zi x] I J (((x + b) + 3)) (trR I [20, 1]) J := by
  show Rz X (h + 2) mX12_parting 0 [some (.ref 81), some (zi b), some (zi x)] [] I J _
  refine rz_aload_n dX12_parting_0 rfl ?_
  refine rz_getR dX12_parting_1 kf_RX12_114 hd_81 rfl rr_81_52 ?_
  refine rz_iload_n dX12_parting_4 rfl ?_
  refine rz_iald (z := 5) dX12_parting_5 hd_116 (by decide) (by omega) hk ?_
  refine rz_iconst dX12_parting_6 ?_
  refine rz_cSIq dX12_parting_7 kl_RX12_386 (c_X12_isUnder X _ I J 5 1 (by omega) (by omega)) rfl rfl (Nat.le_of_ble_eq_true rfl) (Nat.le_of_ble_eq_true rfl) ?_
  rintro z7 A7 B7 ⟨⟨rfl, b7⟩ | ⟨rfl, b7⟩, rfl, rfl⟩
  · refine rz_if_eq (t := 28) dX12_parting_10 rfl (by omega) (fun q => absurd q (by decide)) (fun _ => ?_)
    refine rz_aload_n dX12_parting_13 rfl ?_
    refine rz_bipush dX12_parting_14 (by decide) ?_
    refine rz_cVV dX12_parting_16 kl_RX12_380 hd_81 ⟨_, _, rfl⟩ (c_X12_ran X _ I J 20 (by (try simp only [trM_R, stM_R, trR_R, stR_R, List.length_cons, List.length_nil]); omega)) rfl rfl (Nat.le_of_ble_eq_true rfl) (Nat.le_of_ble_eq_true rfl) ?_
    refine rz_aload_n dX12_parting_19 rfl ?_
    refine rz_iload_n dX12_parting_20 rfl ?_
    refine rz_iload_n dX12_parting_21 rfl ?_
    refine rz_cVI dX12_parting_22 kl_RX12_383 hd_81 ⟨_, _, rfl⟩ (c_X12_plainParts_5 X _ (stR I 20) J b x (by (try simp only [trM_R, stM_R, trR_R, stR_R, List.length_cons, List.length_nil]); omega) hk hb) rfl rfl (Nat.le_of_ble_eq_true rfl) (Nat.le_of_ble_eq_true rfl) ?_
    refine rz_iconst dX12_parting_25 ?_
    refine rz_iadd dX12_parting_26 ?_
    refine rz_iret dX12_parting_27 rfl ?_
    exact ⟨_, rfl, rfl, rfl, rfl⟩
  · exfalso; omega
set_option maxRecDepth 20000 in
set_option maxHeartbeats 400000 in
theorem c_act_5_0 (X : pX) (h : Nat) (I J : IM) (b x : Int) (hb : 0 ≤ b ∧ b ≤ I 81 51 - 1) (h5 : I 81 51 ≤ 50) (hk : I 116 b.toNat = 5) : KI X (h + 3) mX12_act [.ref 81, zi b, zi 0, zi x] I J (((x + b) + 3)) (trR (upA I 81 (up1 (I 81) 53 0)) [20, 1]) J := by
  show Rz X (h + 3) mX12_act 0 [some (.ref 81), some (zi b), some (zi 0), some (zi x)] [] I J _
  refine rz_aload_n dX12_act_0 rfl ?_
  refine rz_iconst dX12_act_1 ?_
  refine rz_putI dX12_act_2 kp_RX12_377 hd_81 rfl ?_
  refine rz_mem (I' := (upA I 81 (up1 (I 81) 53 0))) (J' := J) (rfl) (rfl) ?_
  refine rz_aload_n dX12_act_5 rfl ?_
  refine rz_iload_n dX12_act_6 rfl ?_
  refine rz_cVIq dX12_act_7 kl_RX12_416 hd_81 ⟨_, _, rfl⟩ (c_X12_isBody X _ (upA I 81 (up1 (I 81) 53 0)) J b (by omega) (by show 0 ≤ I 81 51 ∧ I 81 51 ≤ 50; omega)) rfl rfl (Nat.le_of_ble_eq_true rfl) (Nat.le_of_ble_eq_true rfl) ?_
  rintro z7 A7 B7 ⟨⟨rfl, b7⟩ | ⟨rfl, b7⟩, rfl, rfl⟩
  · refine rz_if_eq (t := 22) dX12_act_10 rfl (by omega) (fun q => absurd q (by decide)) (fun _ => ?_)
    refine rz_iload_n dX12_act_13 rfl ?_
    refine rz_iconst dX12_act_14 ?_
    refine rz_iconst dX12_act_15 ?_
    refine rz_cSIq dX12_act_16 kl_RX12_140 (c_X12_in X _ (upA I 81 (up1 (I 81) 53 0)) J 0 0 3 (by omega) (by omega) (by omega)) rfl rfl (Nat.le_of_ble_eq_true rfl) (Nat.le_of_ble_eq_true rfl) ?_
    rintro z16 A16 B16 ⟨⟨rfl, b16⟩ | ⟨rfl, b16⟩, rfl, rfl⟩
    · refine rz_if_ne (t := 24) dX12_act_19 rfl (by omega) (fun _ => ?_) (fun q => absurd q (by decide))
      refine rz_iload_n dX12_act_24 rfl ?_
      refine rz_if_ne (t := 37) dX12_act_25 rfl (by omega) (fun q => absurd q (by decide)) (fun _ => ?_)
      refine rz_aload_n dX12_act_28 rfl ?_
      refine rz_iload_n dX12_act_29 rfl ?_
      refine rz_iload_n dX12_act_30 rfl ?_
      refine rz_cVI dX12_act_31 kl_RX12_392 hd_81 ⟨_, _, rfl⟩ (c_X12_parting_5 X _ (upA I 81 (up1 (I 81) 53 0)) J b x (by show (0 : Int) ≤ 0 ∧ (0 : Int) ≤ _; omega) hk (by omega)) rfl rfl (Nat.le_of_ble_eq_true rfl) (Nat.le_of_ble_eq_true rfl) ?_
      refine rz_goto (t := 71) dX12_act_34 rfl ?_
      refine rz_iret dX12_act_71 rfl ?_
      exact ⟨_, rfl, rfl, rfl, rfl⟩
    · exfalso; omega
  · exact absurd (show 0 ≤ b ∧ b ≤ I 81 51 - 1 by omega) b7
set_option maxRecDepth 20000 in
set_option maxHeartbeats 400000 in
theorem c_X12_plainSends_5 (X : pX) (h : Nat) (I J : IM) (b x : Int) (hR : 0 ≤ I 81 53 ∧ I 81 53 ≤ 21) (hk : I 116 b.toNat = 5) (hb : 0 ≤ b ∧ b < 50) : KI X (h + 3) mX12_plainSends [.ref 81, zi b, zi x] I J ((((x + b) + 3) * 2)) (trR I [10, 20, 1]) J := by
  show Rz X (h + 3) mX12_plainSends 0 [some (.ref 81), some (zi b), some (zi x)] [] I J _
  refine rz_aload_n dX12_plainSends_0 rfl ?_
  refine rz_bipush dX12_plainSends_1 (by decide) ?_
  refine rz_cVV dX12_plainSends_3 kl_RX12_380 hd_81 ⟨_, _, rfl⟩ (c_X12_ran X _ I J 10 (by (try simp only [trM_R, stM_R, trR_R, stR_R, List.length_cons, List.length_nil]); omega)) rfl rfl (Nat.le_of_ble_eq_true rfl) (Nat.le_of_ble_eq_true rfl) ?_
  refine rz_aload_n dX12_plainSends_6 rfl ?_
  refine rz_iload_n dX12_plainSends_7 rfl ?_
  refine rz_iload_n dX12_plainSends_8 rfl ?_
  refine rz_cVI dX12_plainSends_9 kl_RX12_392 hd_81 ⟨_, _, rfl⟩ (c_X12_parting_5 X _ (stR I 10) J b x (by (try simp only [trM_R, stM_R, trR_R, stR_R, List.length_cons, List.length_nil]); omega) hk hb) rfl rfl (Nat.le_of_ble_eq_true rfl) (Nat.le_of_ble_eq_true rfl) ?_
  refine rz_iconst dX12_plainSends_12 ?_
  refine rz_imul dX12_plainSends_13 ?_
  refine rz_iret dX12_plainSends_14 rfl ?_
  exact ⟨_, rfl, rfl, rfl, rfl⟩
set_option maxRecDepth 20000 in
set_option maxHeartbeats 400000 in
theorem c_X12_sending_5 (X : pX) (h : Nat) (I J : IM) (b x : Int) (hR : 0 ≤ I 81 53 ∧ I 81 53 ≤ 21) (hk : I 116 b.toNat = 5) (hb : 0 ≤ b ∧ b < 50) : KI X (h + 4) mX12_sending [.ref 81, zi b, zi x] I J ((((x + b) + 3) * 2)) (trR I [10, 20, 1]) J := by
  show Rz X (h + 4) mX12_sending 0 [some (.ref 81), some (zi b), some (zi x), none] [] I J _
  refine rz_aload_n dX12_sending_0 rfl ?_
  refine rz_getR dX12_sending_1 kf_RX12_114 hd_81 rfl rr_81_52 ?_
  refine rz_iload_n dX12_sending_4 rfl ?_
  refine rz_iald (z := 5) dX12_sending_5 hd_116 (by decide) (by omega) hk ?_
  refine rz_iconst dX12_sending_6 ?_
  refine rz_icmp_ne (t := 25) dX12_sending_7 rfl (by omega) (by omega) (fun _ => ?_) (fun q => absurd q (by decide))
  refine rz_aload_n dX12_sending_25 rfl ?_
  refine rz_getR dX12_sending_26 kf_RX12_114 hd_81 rfl rr_81_52 ?_
  refine rz_iload_n dX12_sending_29 rfl ?_
  refine rz_iald (z := 5) dX12_sending_30 hd_116 (by decide) (by omega) hk ?_
  refine rz_bipush dX12_sending_31 (by decide) ?_
  refine rz_icmp_ne (t := 58) dX12_sending_33 rfl (by omega) (by omega) (fun _ => ?_) (fun q => absurd q (by decide))
  refine rz_aload_n dX12_sending_58 rfl ?_
  refine rz_getR dX12_sending_59 kf_RX12_114 hd_81 rfl rr_81_52 ?_
  refine rz_iload_n dX12_sending_62 rfl ?_
  refine rz_iald (z := 5) dX12_sending_63 hd_116 (by decide) (by omega) hk ?_
  refine rz_iconst dX12_sending_64 ?_
  refine rz_icmp_ne (t := 77) dX12_sending_65 rfl (by omega) (by omega) (fun _ => ?_) (fun q => absurd q (by decide))
  refine rz_aload_n dX12_sending_77 rfl ?_
  refine rz_iload_n dX12_sending_78 rfl ?_
  refine rz_iload_n dX12_sending_79 rfl ?_
  refine rz_cVI dX12_sending_80 kl_RX12_395 hd_81 ⟨_, _, rfl⟩ (c_X12_plainSends_5 X _ I J b x (by (try simp only [trM_R, stM_R, trR_R, stR_R, List.length_cons, List.length_nil]); omega) hk hb) rfl rfl (Nat.le_of_ble_eq_true rfl) (Nat.le_of_ble_eq_true rfl) ?_
  refine rz_iret dX12_sending_83 rfl ?_
  exact ⟨_, rfl, rfl, rfl, rfl⟩
set_option maxRecDepth 20000 in
set_option maxHeartbeats 400000 in
theorem c_act_5_1 (X : pX) (h : Nat) (I J : IM) (b x : Int) (hb : 0 ≤ b ∧ b ≤ I 81 51 - 1) (h5 : I 81 51 ≤ 50) (hk : I 116 b.toNat = 5) : KI X (h + 5) mX12_act [.ref 81, zi b, zi 1, zi x] I J ((((x + b) + 3) * 2)) (trR (upA I 81 (up1 (I 81) 53 0)) [10, 20, 1]) J := by
  show Rz X (h + 5) mX12_act 0 [some (.ref 81), some (zi b), some (zi 1), some (zi x)] [] I J _
  refine rz_aload_n dX12_act_0 rfl ?_
  refine rz_iconst dX12_act_1 ?_
  refine rz_putI dX12_act_2 kp_RX12_377 hd_81 rfl ?_
  refine rz_mem (I' := (upA I 81 (up1 (I 81) 53 0))) (J' := J) (rfl) (rfl) ?_
  refine rz_aload_n dX12_act_5 rfl ?_
  refine rz_iload_n dX12_act_6 rfl ?_
  refine rz_cVIq dX12_act_7 kl_RX12_416 hd_81 ⟨_, _, rfl⟩ (c_X12_isBody X _ (upA I 81 (up1 (I 81) 53 0)) J b (by omega) (by show 0 ≤ I 81 51 ∧ I 81 51 ≤ 50; omega)) rfl rfl (Nat.le_of_ble_eq_true rfl) (Nat.le_of_ble_eq_true rfl) ?_
  rintro z7 A7 B7 ⟨⟨rfl, b7⟩ | ⟨rfl, b7⟩, rfl, rfl⟩
  · refine rz_if_eq (t := 22) dX12_act_10 rfl (by omega) (fun q => absurd q (by decide)) (fun _ => ?_)
    refine rz_iload_n dX12_act_13 rfl ?_
    refine rz_iconst dX12_act_14 ?_
    refine rz_iconst dX12_act_15 ?_
    refine rz_cSIq dX12_act_16 kl_RX12_140 (c_X12_in X _ (upA I 81 (up1 (I 81) 53 0)) J 1 0 3 (by omega) (by omega) (by omega)) rfl rfl (Nat.le_of_ble_eq_true rfl) (Nat.le_of_ble_eq_true rfl) ?_
    rintro z16 A16 B16 ⟨⟨rfl, b16⟩ | ⟨rfl, b16⟩, rfl, rfl⟩
    · refine rz_if_ne (t := 24) dX12_act_19 rfl (by omega) (fun _ => ?_) (fun q => absurd q (by decide))
      refine rz_iload_n dX12_act_24 rfl ?_
      refine rz_if_ne (t := 37) dX12_act_25 rfl (by omega) (fun _ => ?_) (fun q => absurd q (by decide))
      refine rz_iload_n dX12_act_37 rfl ?_
      refine rz_iconst dX12_act_38 ?_
      refine rz_icmp_ne (t := 51) dX12_act_39 rfl (by omega) (by omega) (fun q => absurd q (by decide)) (fun _ => ?_)
      refine rz_aload_n dX12_act_42 rfl ?_
      refine rz_iload_n dX12_act_43 rfl ?_
      refine rz_iload_n dX12_act_44 rfl ?_
      refine rz_cVI dX12_act_45 kl_RX12_407 hd_81 ⟨_, _, rfl⟩ (c_X12_sending_5 X _ (upA I 81 (up1 (I 81) 53 0)) J b x (by show (0 : Int) ≤ 0 ∧ (0 : Int) ≤ _; omega) hk (by omega)) rfl rfl (Nat.le_of_ble_eq_true rfl) (Nat.le_of_ble_eq_true rfl) ?_
      refine rz_goto (t := 71) dX12_act_48 rfl ?_
      refine rz_iret dX12_act_71 rfl ?_
      exact ⟨_, rfl, rfl, rfl, rfl⟩
    · exfalso; omega
  · exact absurd (show 0 ≤ b ∧ b ≤ I 81 51 - 1 by omega) b7
set_option maxRecDepth 20000 in
set_option maxHeartbeats 400000 in
theorem c_X12_plainWins_5 (X : pX) (h : Nat) (I J : IM) (b x : Int) (hR : 0 ≤ I 81 53 ∧ I 81 53 ≤ 23) (hk : I 116 b.toNat = 5) (hb : 0 ≤ b ∧ b < 50) : KI X (h + 1) mX12_plainWins [.ref 81, zi b, zi x] I J ((xorZ x b)) (trR I [11]) J := by
  show Rz X (h + 1) mX12_plainWins 0 [some (.ref 81), some (zi b), some (zi x)] [] I J _
  refine rz_aload_n dX12_plainWins_0 rfl ?_
  refine rz_bipush dX12_plainWins_1 (by decide) ?_
  refine rz_cVV dX12_plainWins_3 kl_RX12_380 hd_81 ⟨_, _, rfl⟩ (c_X12_ran X _ I J 11 (by (try simp only [trM_R, stM_R, trR_R, stR_R, List.length_cons, List.length_nil]); omega)) rfl rfl (Nat.le_of_ble_eq_true rfl) (Nat.le_of_ble_eq_true rfl) ?_
  refine rz_iload_n dX12_plainWins_6 rfl ?_
  refine rz_iload_n dX12_plainWins_7 rfl ?_
  refine rz_ixor dX12_plainWins_8 ?_
  refine rz_iret dX12_plainWins_9 rfl ?_
  exact ⟨_, rfl, rfl, rfl, rfl⟩
set_option maxRecDepth 20000 in
set_option maxHeartbeats 400000 in
theorem c_X12_winning_5 (X : pX) (h : Nat) (I J : IM) (b x : Int) (hR : 0 ≤ I 81 53 ∧ I 81 53 ≤ 20) (hk : I 116 b.toNat = 5) (hb : 0 ≤ b ∧ b < 50) : KI X (h + 3) mX12_winning [.ref 81, zi b, zi x] I J (((xorZ x b) - ((2 + b) + 3))) (trR I [60, 11, 20, 1]) J := by
  show Rz X (h + 3) mX12_winning 0 [some (.ref 81), some (zi b), some (zi x), none] [] I J _
  refine rz_aload_n dX12_winning_0 rfl ?_
  refine rz_getR dX12_winning_1 kf_RX12_114 hd_81 rfl rr_81_52 ?_
  refine rz_iload_n dX12_winning_4 rfl ?_
  refine rz_iald (z := 5) dX12_winning_5 hd_116 (by decide) (by omega) hk ?_
  refine rz_iconst dX12_winning_6 ?_
  refine rz_icmp_ne (t := 25) dX12_winning_7 rfl (by omega) (by omega) (fun _ => ?_) (fun q => absurd q (by decide))
  refine rz_aload_n dX12_winning_25 rfl ?_
  refine rz_getR dX12_winning_26 kf_RX12_114 hd_81 rfl rr_81_52 ?_
  refine rz_iload_n dX12_winning_29 rfl ?_
  refine rz_iald (z := 5) dX12_winning_30 hd_116 (by decide) (by omega) hk ?_
  refine rz_iconst dX12_winning_31 ?_
  refine rz_icmp_ne (t := 57) dX12_winning_32 rfl (by omega) (by omega) (fun q => absurd q (by decide)) (fun _ => ?_)
  refine rz_aload_n dX12_winning_35 rfl ?_
  refine rz_bipush dX12_winning_36 (by decide) ?_
  refine rz_cVV dX12_winning_38 kl_RX12_380 hd_81 ⟨_, _, rfl⟩ (c_X12_ran X _ I J 60 (by (try simp only [trM_R, stM_R, trR_R, stR_R, List.length_cons, List.length_nil]); omega)) rfl rfl (Nat.le_of_ble_eq_true rfl) (Nat.le_of_ble_eq_true rfl) ?_
  refine rz_aload_n dX12_winning_41 rfl ?_
  refine rz_iload_n dX12_winning_42 rfl ?_
  refine rz_iload_n dX12_winning_43 rfl ?_
  refine rz_cVI dX12_winning_44 kl_RX12_404 hd_81 ⟨_, _, rfl⟩ (c_X12_plainWins_5 X _ (stR I 60) J b x (by (try simp only [trM_R, stM_R, trR_R, stR_R, List.length_cons, List.length_nil]); omega) hk hb) rfl rfl (Nat.le_of_ble_eq_true rfl) (Nat.le_of_ble_eq_true rfl) ?_
  refine rz_istore_n dX12_winning_47 (by decide) rfl ?_
  refine rz_iload_n dX12_winning_48 rfl ?_
  refine rz_aload_n dX12_winning_49 rfl ?_
  refine rz_iload_n dX12_winning_50 rfl ?_
  refine rz_iconst dX12_winning_51 ?_
  refine rz_cVI dX12_winning_52 kl_RX12_392 hd_81 ⟨_, _, rfl⟩ (c_X12_parting_5 X _ (trR (stR I 60) [11]) J b 2 (by (try simp only [trM_R, stM_R, trR_R, stR_R, List.length_cons, List.length_nil]); omega) hk hb) rfl rfl (Nat.le_of_ble_eq_true rfl) (Nat.le_of_ble_eq_true rfl) ?_
  refine rz_isub dX12_winning_55 ?_
  refine rz_iret dX12_winning_56 rfl ?_
  exact ⟨_, rfl, rfl, rfl, rfl⟩
set_option maxRecDepth 20000 in
set_option maxHeartbeats 400000 in
theorem c_act_5_2 (X : pX) (h : Nat) (I J : IM) (b x : Int) (hb : 0 ≤ b ∧ b ≤ I 81 51 - 1) (h5 : I 81 51 ≤ 50) (hk : I 116 b.toNat = 5) : KI X (h + 4) mX12_act [.ref 81, zi b, zi 2, zi x] I J (((xorZ x b) - ((2 + b) + 3))) (trR (upA I 81 (up1 (I 81) 53 0)) [60, 11, 20, 1]) J := by
  show Rz X (h + 4) mX12_act 0 [some (.ref 81), some (zi b), some (zi 2), some (zi x)] [] I J _
  refine rz_aload_n dX12_act_0 rfl ?_
  refine rz_iconst dX12_act_1 ?_
  refine rz_putI dX12_act_2 kp_RX12_377 hd_81 rfl ?_
  refine rz_mem (I' := (upA I 81 (up1 (I 81) 53 0))) (J' := J) (rfl) (rfl) ?_
  refine rz_aload_n dX12_act_5 rfl ?_
  refine rz_iload_n dX12_act_6 rfl ?_
  refine rz_cVIq dX12_act_7 kl_RX12_416 hd_81 ⟨_, _, rfl⟩ (c_X12_isBody X _ (upA I 81 (up1 (I 81) 53 0)) J b (by omega) (by show 0 ≤ I 81 51 ∧ I 81 51 ≤ 50; omega)) rfl rfl (Nat.le_of_ble_eq_true rfl) (Nat.le_of_ble_eq_true rfl) ?_
  rintro z7 A7 B7 ⟨⟨rfl, b7⟩ | ⟨rfl, b7⟩, rfl, rfl⟩
  · refine rz_if_eq (t := 22) dX12_act_10 rfl (by omega) (fun q => absurd q (by decide)) (fun _ => ?_)
    refine rz_iload_n dX12_act_13 rfl ?_
    refine rz_iconst dX12_act_14 ?_
    refine rz_iconst dX12_act_15 ?_
    refine rz_cSIq dX12_act_16 kl_RX12_140 (c_X12_in X _ (upA I 81 (up1 (I 81) 53 0)) J 2 0 3 (by omega) (by omega) (by omega)) rfl rfl (Nat.le_of_ble_eq_true rfl) (Nat.le_of_ble_eq_true rfl) ?_
    rintro z16 A16 B16 ⟨⟨rfl, b16⟩ | ⟨rfl, b16⟩, rfl, rfl⟩
    · refine rz_if_ne (t := 24) dX12_act_19 rfl (by omega) (fun _ => ?_) (fun q => absurd q (by decide))
      refine rz_iload_n dX12_act_24 rfl ?_
      refine rz_if_ne (t := 37) dX12_act_25 rfl (by omega) (fun _ => ?_) (fun q => absurd q (by decide))
      refine rz_iload_n dX12_act_37 rfl ?_
      refine rz_iconst dX12_act_38 ?_
      refine rz_icmp_ne (t := 51) dX12_act_39 rfl (by omega) (by omega) (fun _ => ?_) (fun q => absurd q (by decide))
      refine rz_iload_n dX12_act_51 rfl ?_
      refine rz_iconst dX12_act_52 ?_
      refine rz_icmp_ne (t := 65) dX12_act_53 rfl (by omega) (by omega) (fun q => absurd q (by decide)) (fun _ => ?_)
      refine rz_aload_n dX12_act_56 rfl ?_
      refine rz_iload_n dX12_act_57 rfl ?_
      refine rz_iload_n dX12_act_58 rfl ?_
      refine rz_cVI dX12_act_59 kl_RX12_401 hd_81 ⟨_, _, rfl⟩ (c_X12_winning_5 X _ (upA I 81 (up1 (I 81) 53 0)) J b x (by show (0 : Int) ≤ 0 ∧ (0 : Int) ≤ _; omega) hk (by omega)) rfl rfl (Nat.le_of_ble_eq_true rfl) (Nat.le_of_ble_eq_true rfl) ?_
      refine rz_goto (t := 71) dX12_act_62 rfl ?_
      refine rz_iret dX12_act_71 rfl ?_
      exact ⟨_, rfl, rfl, rfl, rfl⟩
    · exfalso; omega
  · exact absurd (show 0 ≤ b ∧ b ≤ I 81 51 - 1 by omega) b7
set_option maxRecDepth 20000 in
set_option maxHeartbeats 400000 in
theorem c_X12_plainLearns_5 (X : pX) (h : Nat) (I J : IM) (b x : Int) (hR : 0 ≤ I 81 53 ∧ I 81 53 ≤ 16) (hk : I 116 b.toNat = 5) (hb : 0 ≤ b ∧ b < 50) : KI X (h + 5) mX12_plainLearns [.ref 81, zi b, zi x] I J (((((x + b) + 3) * 2) - ((xorZ 1 b) - ((2 + b) + 3)))) (trR I [2, 10, 20, 1, 60, 11, 20, 1]) J := by
  show Rz X (h + 5) mX12_plainLearns 0 [some (.ref 81), some (zi b), some (zi x), none] [] I J _
  refine rz_aload_n dX12_plainLearns_0 rfl ?_
  refine rz_iconst dX12_plainLearns_1 ?_
  refine rz_cVV dX12_plainLearns_2 kl_RX12_380 hd_81 ⟨_, _, rfl⟩ (c_X12_ran X _ I J 2 (by (try simp only [trM_R, stM_R, trR_R, stR_R, List.length_cons, List.length_nil]); omega)) rfl rfl (Nat.le_of_ble_eq_true rfl) (Nat.le_of_ble_eq_true rfl) ?_
  refine rz_aload_n dX12_plainLearns_5 rfl ?_
  refine rz_iload_n dX12_plainLearns_6 rfl ?_
  refine rz_iload_n dX12_plainLearns_7 rfl ?_
  refine rz_cVI dX12_plainLearns_8 kl_RX12_407 hd_81 ⟨_, _, rfl⟩ (c_X12_sending_5 X _ (stR I 2) J b x (by (try simp only [trM_R, stM_R, trR_R, stR_R, List.length_cons, List.length_nil]); omega) hk hb) rfl rfl (Nat.le_of_ble_eq_true rfl) (Nat.le_of_ble_eq_true rfl) ?_
  refine rz_istore_n dX12_plainLearns_11 (by decide) rfl ?_
  refine rz_iload_n dX12_plainLearns_12 rfl ?_
  refine rz_aload_n dX12_plainLearns_13 rfl ?_
  refine rz_iload_n dX12_plainLearns_14 rfl ?_
  refine rz_iconst dX12_plainLearns_15 ?_
  refine rz_cVI dX12_plainLearns_16 kl_RX12_401 hd_81 ⟨_, _, rfl⟩ (c_X12_winning_5 X _ (trR (stR I 2) [10, 20, 1]) J b 1 (by (try simp only [trM_R, stM_R, trR_R, stR_R, List.length_cons, List.length_nil]); omega) hk hb) rfl rfl (Nat.le_of_ble_eq_true rfl) (Nat.le_of_ble_eq_true rfl) ?_
  refine rz_isub dX12_plainLearns_19 ?_
  refine rz_iret dX12_plainLearns_20 rfl ?_
  exact ⟨_, rfl, rfl, rfl, rfl⟩
set_option maxRecDepth 20000 in
set_option maxHeartbeats 400000 in
theorem c_X12_bestLearns_5 (X : pX) (h : Nat) (I J : IM) (b x : Int) (hR : 0 ≤ I 81 53 ∧ I 81 53 ≤ 15) (hk : I 116 b.toNat = 5) (hb : 0 ≤ b ∧ b < 50) : KI X (h + 6) mX12_bestLearns [.ref 81, zi b, zi x] I J ((xorZ ((((x + b) + 3) * 2) - ((xorZ 1 b) - ((2 + b) + 3))) 5)) (trR I [50, 2, 10, 20, 1, 60, 11, 20, 1]) J := by
  show Rz X (h + 6) mX12_bestLearns 0 [some (.ref 81), some (zi b), some (zi x)] [] I J _
  refine rz_aload_n dX12_bestLearns_0 rfl ?_
  refine rz_bipush dX12_bestLearns_1 (by decide) ?_
  refine rz_cVV dX12_bestLearns_3 kl_RX12_380 hd_81 ⟨_, _, rfl⟩ (c_X12_ran X _ I J 50 (by (try simp only [trM_R, stM_R, trR_R, stR_R, List.length_cons, List.length_nil]); omega)) rfl rfl (Nat.le_of_ble_eq_true rfl) (Nat.le_of_ble_eq_true rfl) ?_
  refine rz_aload_n dX12_bestLearns_6 rfl ?_
  refine rz_iload_n dX12_bestLearns_7 rfl ?_
  refine rz_iload_n dX12_bestLearns_8 rfl ?_
  refine rz_cVI dX12_bestLearns_9 kl_RX12_410 hd_81 ⟨_, _, rfl⟩ (c_X12_plainLearns_5 X _ (stR I 50) J b x (by (try simp only [trM_R, stM_R, trR_R, stR_R, List.length_cons, List.length_nil]); omega) hk hb) rfl rfl (Nat.le_of_ble_eq_true rfl) (Nat.le_of_ble_eq_true rfl) ?_
  refine rz_iconst dX12_bestLearns_12 ?_
  refine rz_ixor dX12_bestLearns_13 ?_
  refine rz_iret dX12_bestLearns_14 rfl ?_
  exact ⟨_, rfl, rfl, rfl, rfl⟩
set_option maxRecDepth 20000 in
set_option maxHeartbeats 400000 in
theorem c_X12_learning_5 (X : pX) (h : Nat) (I J : IM) (b x : Int) (hR : 0 ≤ I 81 53 ∧ I 81 53 ≤ 14) (hk : I 116 b.toNat = 5) (hb : 0 ≤ b ∧ b < 50) : KI X (h + 7) mX12_learning [.ref 81, zi b, zi x] I J (((xorZ ((((x + b) + 3) * 2) - ((xorZ 1 b) - ((2 + b) + 3))) 5) + 1)) (trR I [61, 50, 2, 10, 20, 1, 60, 11, 20, 1]) J := by
  show Rz X (h + 7) mX12_learning 0 [some (.ref 81), some (zi b), some (zi x)] [] I J _
  refine rz_aload_n dX12_learning_0 rfl ?_
  refine rz_getR dX12_learning_1 kf_RX12_114 hd_81 rfl rr_81_52 ?_
  refine rz_iload_n dX12_learning_4 rfl ?_
  refine rz_iald (z := 5) dX12_learning_5 hd_116 (by decide) (by omega) hk ?_
  refine rz_iconst dX12_learning_6 ?_
  refine rz_icmp_ne (t := 25) dX12_learning_7 rfl (by omega) (by omega) (fun q => absurd q (by decide)) (fun _ => ?_)
  refine rz_aload_n dX12_learning_10 rfl ?_
  refine rz_bipush dX12_learning_11 (by decide) ?_
  refine rz_cVV dX12_learning_13 kl_RX12_380 hd_81 ⟨_, _, rfl⟩ (c_X12_ran X _ I J 61 (by (try simp only [trM_R, stM_R, trR_R, stR_R, List.length_cons, List.length_nil]); omega)) rfl rfl (Nat.le_of_ble_eq_true rfl) (Nat.le_of_ble_eq_true rfl) ?_
  refine rz_aload_n dX12_learning_16 rfl ?_
  refine rz_iload_n dX12_learning_17 rfl ?_
  refine rz_iload_n dX12_learning_18 rfl ?_
  refine rz_cVI dX12_learning_19 kl_RX12_413 hd_81 ⟨_, _, rfl⟩ (c_X12_bestLearns_5 X _ (stR I 61) J b x (by (try simp only [trM_R, stM_R, trR_R, stR_R, List.length_cons, List.length_nil]); omega) hk hb) rfl rfl (Nat.le_of_ble_eq_true rfl) (Nat.le_of_ble_eq_true rfl) ?_
  refine rz_iconst dX12_learning_22 ?_
  refine rz_iadd dX12_learning_23 ?_
  refine rz_iret dX12_learning_24 rfl ?_
  exact ⟨_, rfl, rfl, rfl, rfl⟩
set_option maxRecDepth 20000 in
set_option maxHeartbeats 400000 in
theorem c_act_5_3 (X : pX) (h : Nat) (I J : IM) (b x : Int) (hb : 0 ≤ b ∧ b ≤ I 81 51 - 1) (h5 : I 81 51 ≤ 50) (hk : I 116 b.toNat = 5) : KI X (h + 8) mX12_act [.ref 81, zi b, zi 3, zi x] I J (((xorZ ((((x + b) + 3) * 2) - ((xorZ 1 b) - ((2 + b) + 3))) 5) + 1)) (trR (upA I 81 (up1 (I 81) 53 0)) [61, 50, 2, 10, 20, 1, 60, 11, 20, 1]) J := by
  show Rz X (h + 8) mX12_act 0 [some (.ref 81), some (zi b), some (zi 3), some (zi x)] [] I J _
  refine rz_aload_n dX12_act_0 rfl ?_
  refine rz_iconst dX12_act_1 ?_
  refine rz_putI dX12_act_2 kp_RX12_377 hd_81 rfl ?_
  refine rz_mem (I' := (upA I 81 (up1 (I 81) 53 0))) (J' := J) (rfl) (rfl) ?_
  refine rz_aload_n dX12_act_5 rfl ?_
  refine rz_iload_n dX12_act_6 rfl ?_
  refine rz_cVIq dX12_act_7 kl_RX12_416 hd_81 ⟨_, _, rfl⟩ (c_X12_isBody X _ (upA I 81 (up1 (I 81) 53 0)) J b (by omega) (by show 0 ≤ I 81 51 ∧ I 81 51 ≤ 50; omega)) rfl rfl (Nat.le_of_ble_eq_true rfl) (Nat.le_of_ble_eq_true rfl) ?_
  rintro z7 A7 B7 ⟨⟨rfl, b7⟩ | ⟨rfl, b7⟩, rfl, rfl⟩
  · refine rz_if_eq (t := 22) dX12_act_10 rfl (by omega) (fun q => absurd q (by decide)) (fun _ => ?_)
    refine rz_iload_n dX12_act_13 rfl ?_
    refine rz_iconst dX12_act_14 ?_
    refine rz_iconst dX12_act_15 ?_
    refine rz_cSIq dX12_act_16 kl_RX12_140 (c_X12_in X _ (upA I 81 (up1 (I 81) 53 0)) J 3 0 3 (by omega) (by omega) (by omega)) rfl rfl (Nat.le_of_ble_eq_true rfl) (Nat.le_of_ble_eq_true rfl) ?_
    rintro z16 A16 B16 ⟨⟨rfl, b16⟩ | ⟨rfl, b16⟩, rfl, rfl⟩
    · refine rz_if_ne (t := 24) dX12_act_19 rfl (by omega) (fun _ => ?_) (fun q => absurd q (by decide))
      refine rz_iload_n dX12_act_24 rfl ?_
      refine rz_if_ne (t := 37) dX12_act_25 rfl (by omega) (fun _ => ?_) (fun q => absurd q (by decide))
      refine rz_iload_n dX12_act_37 rfl ?_
      refine rz_iconst dX12_act_38 ?_
      refine rz_icmp_ne (t := 51) dX12_act_39 rfl (by omega) (by omega) (fun _ => ?_) (fun q => absurd q (by decide))
      refine rz_iload_n dX12_act_51 rfl ?_
      refine rz_iconst dX12_act_52 ?_
      refine rz_icmp_ne (t := 65) dX12_act_53 rfl (by omega) (by omega) (fun _ => ?_) (fun q => absurd q (by decide))
      refine rz_aload_n dX12_act_65 rfl ?_
      refine rz_iload_n dX12_act_66 rfl ?_
      refine rz_iload_n dX12_act_67 rfl ?_
      refine rz_cVI dX12_act_68 kl_RX12_419 hd_81 ⟨_, _, rfl⟩ (c_X12_learning_5 X _ (upA I 81 (up1 (I 81) 53 0)) J b x (by show (0 : Int) ≤ 0 ∧ (0 : Int) ≤ _; omega) hk (by omega)) rfl rfl (Nat.le_of_ble_eq_true rfl) (Nat.le_of_ble_eq_true rfl) ?_
      refine rz_iret dX12_act_71 rfl ?_
      exact ⟨_, rfl, rfl, rfl, rfl⟩
    · exfalso; omega
  · exact absurd (show 0 ≤ b ∧ b ≤ I 81 51 - 1 by omega) b7
set_option maxRecDepth 20000 in
set_option maxHeartbeats 400000 in
theorem c_X12_plainParts_6 (X : pX) (h : Nat) (I J : IM) (b x : Int) (hR : 0 ≤ I 81 53 ∧ I 81 53 ≤ 23) (hk : I 116 b.toNat = 6) (hb : 0 ≤ b ∧ b < 50) : KI X (h + 1) mX12_plainParts [.ref 81, zi b, zi x] I J ((x + b)) (trR I [1]) J := by
  show Rz X (h + 1) mX12_plainParts 0 [some (.ref 81), some (zi b), some (zi x)] [] I J _
  refine rz_aload_n dX12_plainParts_0 rfl ?_
  refine rz_iconst dX12_plainParts_1 ?_
  refine rz_cVV dX12_plainParts_2 kl_RX12_380 hd_81 ⟨_, _, rfl⟩ (c_X12_ran X _ I J 1 (by (try simp only [trM_R, stM_R, trR_R, stR_R, List.length_cons, List.length_nil]); omega)) rfl rfl (Nat.le_of_ble_eq_true rfl) (Nat.le_of_ble_eq_true rfl) ?_
  refine rz_iload_n dX12_plainParts_5 rfl ?_
  refine rz_iload_n dX12_plainParts_6 rfl ?_
  refine rz_iadd dX12_plainParts_7 ?_
  refine rz_iret dX12_plainParts_8 rfl ?_
  exact ⟨_, rfl, rfl, rfl, rfl⟩
set_option maxRecDepth 20000 in
set_option maxHeartbeats 400000 in
theorem c_X12_toldParts_6 (X : pX) (h : Nat) (I J : IM) (b x : Int) (hR : 0 ≤ I 81 53 ∧ I 81 53 ≤ 22) (hk : I 116 b.toNat = 6) (hb : 0 ≤ b ∧ b < 50) : KI X (h + 2) mX12_toldParts [.ref 81, zi b, zi x] I J (((x + b) * 2)) (trR I [70, 1]) J := by
  show Rz X (h + 2) mX12_toldParts 0 [some (.ref 81), some (zi b), some (zi x)] [] I J _
  refine rz_aload_n dX12_toldParts_0 rfl ?_
  refine rz_bipush dX12_toldParts_1 (by decide) ?_
  refine rz_cVV dX12_toldParts_3 kl_RX12_380 hd_81 ⟨_, _, rfl⟩ (c_X12_ran X _ I J 70 (by (try simp only [trM_R, stM_R, trR_R, stR_R, List.length_cons, List.length_nil]); omega)) rfl rfl (Nat.le_of_ble_eq_true rfl) (Nat.le_of_ble_eq_true rfl) ?_
  refine rz_aload_n dX12_toldParts_6 rfl ?_
  refine rz_iload_n dX12_toldParts_7 rfl ?_
  refine rz_iload_n dX12_toldParts_8 rfl ?_
  refine rz_cVI dX12_toldParts_9 kl_RX12_383 hd_81 ⟨_, _, rfl⟩ (c_X12_plainParts_6 X _ (stR I 70) J b x (by (try simp only [trM_R, stM_R, trR_R, stR_R, List.length_cons, List.length_nil]); omega) hk hb) rfl rfl (Nat.le_of_ble_eq_true rfl) (Nat.le_of_ble_eq_true rfl) ?_
  refine rz_iconst dX12_toldParts_12 ?_
  refine rz_imul dX12_toldParts_13 ?_
  refine rz_iret dX12_toldParts_14 rfl ?_
  exact ⟨_, rfl, rfl, rfl, rfl⟩
set_option maxRecDepth 20000 in
set_option maxHeartbeats 400000 in
theorem c_X12_parting_6 (X : pX) (h : Nat) (I J : IM) (b x : Int) (hR : 0 ≤ I 81 53 ∧ I 81 53 ≤ 22) (hk : I 116 b.toNat = 6) (hb : 0 ≤ b ∧ b < 50) : KI X (h + 3) mX12_parting [.ref 81, zi b, zi x] I J (((x + b) * 2)) (trR I [70, 1]) J := by
  show Rz X (h + 3) mX12_parting 0 [some (.ref 81), some (zi b), some (zi x)] [] I J _
  refine rz_aload_n dX12_parting_0 rfl ?_
  refine rz_getR dX12_parting_1 kf_RX12_114 hd_81 rfl rr_81_52 ?_
  refine rz_iload_n dX12_parting_4 rfl ?_
  refine rz_iald (z := 6) dX12_parting_5 hd_116 (by decide) (by omega) hk ?_
  refine rz_iconst dX12_parting_6 ?_
  refine rz_cSIq dX12_parting_7 kl_RX12_386 (c_X12_isUnder X _ I J 6 1 (by omega) (by omega)) rfl rfl (Nat.le_of_ble_eq_true rfl) (Nat.le_of_ble_eq_true rfl) ?_
  rintro z7 A7 B7 ⟨⟨rfl, b7⟩ | ⟨rfl, b7⟩, rfl, rfl⟩
  · exfalso; omega
  · refine rz_if_eq (t := 28) dX12_parting_10 rfl (by omega) (fun _ => ?_) (fun q => absurd q (by decide))
    refine rz_aload_n dX12_parting_28 rfl ?_
    refine rz_getR dX12_parting_29 kf_RX12_114 hd_81 rfl rr_81_52 ?_
    refine rz_iload_n dX12_parting_32 rfl ?_
    refine rz_iald (z := 6) dX12_parting_33 hd_116 (by decide) (by omega) hk ?_
    refine rz_bipush dX12_parting_34 (by decide) ?_
    refine rz_icmp_ne (t := 54) dX12_parting_36 rfl (by omega) (by omega) (fun _ => ?_) (fun q => absurd q (by decide))
    refine rz_aload_n dX12_parting_54 rfl ?_
    refine rz_getR dX12_parting_55 kf_RX12_114 hd_81 rfl rr_81_52 ?_
    refine rz_iload_n dX12_parting_58 rfl ?_
    refine rz_iald (z := 6) dX12_parting_59 hd_116 (by decide) (by omega) hk ?_
    refine rz_bipush dX12_parting_60 (by decide) ?_
    refine rz_icmp_ne (t := 74) dX12_parting_62 rfl (by omega) (by omega) (fun q => absurd q (by decide)) (fun _ => ?_)
    refine rz_aload_n dX12_parting_65 rfl ?_
    refine rz_iload_n dX12_parting_66 rfl ?_
    refine rz_iload_n dX12_parting_67 rfl ?_
    refine rz_cVI dX12_parting_68 kl_RX12_389 hd_81 ⟨_, _, rfl⟩ (c_X12_toldParts_6 X _ I J b x (by (try simp only [trM_R, stM_R, trR_R, stR_R, List.length_cons, List.length_nil]); omega) hk hb) rfl rfl (Nat.le_of_ble_eq_true rfl) (Nat.le_of_ble_eq_true rfl) ?_
    refine rz_goto (t := 80) dX12_parting_71 rfl ?_
    refine rz_iret dX12_parting_80 rfl ?_
    exact ⟨_, rfl, rfl, rfl, rfl⟩
set_option maxRecDepth 20000 in
set_option maxHeartbeats 400000 in
theorem c_act_6_0 (X : pX) (h : Nat) (I J : IM) (b x : Int) (hb : 0 ≤ b ∧ b ≤ I 81 51 - 1) (h5 : I 81 51 ≤ 50) (hk : I 116 b.toNat = 6) : KI X (h + 4) mX12_act [.ref 81, zi b, zi 0, zi x] I J (((x + b) * 2)) (trR (upA I 81 (up1 (I 81) 53 0)) [70, 1]) J := by
  show Rz X (h + 4) mX12_act 0 [some (.ref 81), some (zi b), some (zi 0), some (zi x)] [] I J _
  refine rz_aload_n dX12_act_0 rfl ?_
  refine rz_iconst dX12_act_1 ?_
  refine rz_putI dX12_act_2 kp_RX12_377 hd_81 rfl ?_
  refine rz_mem (I' := (upA I 81 (up1 (I 81) 53 0))) (J' := J) (rfl) (rfl) ?_
  refine rz_aload_n dX12_act_5 rfl ?_
  refine rz_iload_n dX12_act_6 rfl ?_
  refine rz_cVIq dX12_act_7 kl_RX12_416 hd_81 ⟨_, _, rfl⟩ (c_X12_isBody X _ (upA I 81 (up1 (I 81) 53 0)) J b (by omega) (by show 0 ≤ I 81 51 ∧ I 81 51 ≤ 50; omega)) rfl rfl (Nat.le_of_ble_eq_true rfl) (Nat.le_of_ble_eq_true rfl) ?_
  rintro z7 A7 B7 ⟨⟨rfl, b7⟩ | ⟨rfl, b7⟩, rfl, rfl⟩
  · refine rz_if_eq (t := 22) dX12_act_10 rfl (by omega) (fun q => absurd q (by decide)) (fun _ => ?_)
    refine rz_iload_n dX12_act_13 rfl ?_
    refine rz_iconst dX12_act_14 ?_
    refine rz_iconst dX12_act_15 ?_
    refine rz_cSIq dX12_act_16 kl_RX12_140 (c_X12_in X _ (upA I 81 (up1 (I 81) 53 0)) J 0 0 3 (by omega) (by omega) (by omega)) rfl rfl (Nat.le_of_ble_eq_true rfl) (Nat.le_of_ble_eq_true rfl) ?_
    rintro z16 A16 B16 ⟨⟨rfl, b16⟩ | ⟨rfl, b16⟩, rfl, rfl⟩
    · refine rz_if_ne (t := 24) dX12_act_19 rfl (by omega) (fun _ => ?_) (fun q => absurd q (by decide))
      refine rz_iload_n dX12_act_24 rfl ?_
      refine rz_if_ne (t := 37) dX12_act_25 rfl (by omega) (fun q => absurd q (by decide)) (fun _ => ?_)
      refine rz_aload_n dX12_act_28 rfl ?_
      refine rz_iload_n dX12_act_29 rfl ?_
      refine rz_iload_n dX12_act_30 rfl ?_
      refine rz_cVI dX12_act_31 kl_RX12_392 hd_81 ⟨_, _, rfl⟩ (c_X12_parting_6 X _ (upA I 81 (up1 (I 81) 53 0)) J b x (by show (0 : Int) ≤ 0 ∧ (0 : Int) ≤ _; omega) hk (by omega)) rfl rfl (Nat.le_of_ble_eq_true rfl) (Nat.le_of_ble_eq_true rfl) ?_
      refine rz_goto (t := 71) dX12_act_34 rfl ?_
      refine rz_iret dX12_act_71 rfl ?_
      exact ⟨_, rfl, rfl, rfl, rfl⟩
    · exfalso; omega
  · exact absurd (show 0 ≤ b ∧ b ≤ I 81 51 - 1 by omega) b7
set_option maxRecDepth 20000 in
set_option maxHeartbeats 400000 in
theorem c_X12_plainSends_6 (X : pX) (h : Nat) (I J : IM) (b x : Int) (hR : 0 ≤ I 81 53 ∧ I 81 53 ≤ 21) (hk : I 116 b.toNat = 6) (hb : 0 ≤ b ∧ b < 50) : KI X (h + 4) mX12_plainSends [.ref 81, zi b, zi x] I J ((((x + b) * 2) * 2)) (trR I [10, 70, 1]) J := by
  show Rz X (h + 4) mX12_plainSends 0 [some (.ref 81), some (zi b), some (zi x)] [] I J _
  refine rz_aload_n dX12_plainSends_0 rfl ?_
  refine rz_bipush dX12_plainSends_1 (by decide) ?_
  refine rz_cVV dX12_plainSends_3 kl_RX12_380 hd_81 ⟨_, _, rfl⟩ (c_X12_ran X _ I J 10 (by (try simp only [trM_R, stM_R, trR_R, stR_R, List.length_cons, List.length_nil]); omega)) rfl rfl (Nat.le_of_ble_eq_true rfl) (Nat.le_of_ble_eq_true rfl) ?_
  refine rz_aload_n dX12_plainSends_6 rfl ?_
  refine rz_iload_n dX12_plainSends_7 rfl ?_
  refine rz_iload_n dX12_plainSends_8 rfl ?_
  refine rz_cVI dX12_plainSends_9 kl_RX12_392 hd_81 ⟨_, _, rfl⟩ (c_X12_parting_6 X _ (stR I 10) J b x (by (try simp only [trM_R, stM_R, trR_R, stR_R, List.length_cons, List.length_nil]); omega) hk hb) rfl rfl (Nat.le_of_ble_eq_true rfl) (Nat.le_of_ble_eq_true rfl) ?_
  refine rz_iconst dX12_plainSends_12 ?_
  refine rz_imul dX12_plainSends_13 ?_
  refine rz_iret dX12_plainSends_14 rfl ?_
  exact ⟨_, rfl, rfl, rfl, rfl⟩
set_option maxRecDepth 20000 in
set_option maxHeartbeats 400000 in
theorem c_X12_sending_6 (X : pX) (h : Nat) (I J : IM) (b x : Int) (hR : 0 ≤ I 81 53 ∧ I 81 53 ≤ 21) (hk : I 116 b.toNat = 6) (hb : 0 ≤ b ∧ b < 50) : KI X (h + 5) mX12_sending [.ref 81, zi b, zi x] I J ((((x + b) * 2) * 2)) (trR I [10, 70, 1]) J := by
  show Rz X (h + 5) mX12_sending 0 [some (.ref 81), some (zi b), some (zi x), none] [] I J _
  refine rz_aload_n dX12_sending_0 rfl ?_
  refine rz_getR dX12_sending_1 kf_RX12_114 hd_81 rfl rr_81_52 ?_
  refine rz_iload_n dX12_sending_4 rfl ?_
  refine rz_iald (z := 6) dX12_sending_5 hd_116 (by decide) (by omega) hk ?_
  refine rz_iconst dX12_sending_6 ?_
  refine rz_icmp_ne (t := 25) dX12_sending_7 rfl (by omega) (by omega) (fun _ => ?_) (fun q => absurd q (by decide))
  refine rz_aload_n dX12_sending_25 rfl ?_
  refine rz_getR dX12_sending_26 kf_RX12_114 hd_81 rfl rr_81_52 ?_
  refine rz_iload_n dX12_sending_29 rfl ?_
  refine rz_iald (z := 6) dX12_sending_30 hd_116 (by decide) (by omega) hk ?_
  refine rz_bipush dX12_sending_31 (by decide) ?_
  refine rz_icmp_ne (t := 58) dX12_sending_33 rfl (by omega) (by omega) (fun _ => ?_) (fun q => absurd q (by decide))
  refine rz_aload_n dX12_sending_58 rfl ?_
  refine rz_getR dX12_sending_59 kf_RX12_114 hd_81 rfl rr_81_52 ?_
  refine rz_iload_n dX12_sending_62 rfl ?_
  refine rz_iald (z := 6) dX12_sending_63 hd_116 (by decide) (by omega) hk ?_
  refine rz_iconst dX12_sending_64 ?_
  refine rz_icmp_ne (t := 77) dX12_sending_65 rfl (by omega) (by omega) (fun _ => ?_) (fun q => absurd q (by decide))
  refine rz_aload_n dX12_sending_77 rfl ?_
  refine rz_iload_n dX12_sending_78 rfl ?_
  refine rz_iload_n dX12_sending_79 rfl ?_
  refine rz_cVI dX12_sending_80 kl_RX12_395 hd_81 ⟨_, _, rfl⟩ (c_X12_plainSends_6 X _ I J b x (by (try simp only [trM_R, stM_R, trR_R, stR_R, List.length_cons, List.length_nil]); omega) hk hb) rfl rfl (Nat.le_of_ble_eq_true rfl) (Nat.le_of_ble_eq_true rfl) ?_
  refine rz_iret dX12_sending_83 rfl ?_
  exact ⟨_, rfl, rfl, rfl, rfl⟩
set_option maxRecDepth 20000 in
set_option maxHeartbeats 400000 in
theorem c_act_6_1 (X : pX) (h : Nat) (I J : IM) (b x : Int) (hb : 0 ≤ b ∧ b ≤ I 81 51 - 1) (h5 : I 81 51 ≤ 50) (hk : I 116 b.toNat = 6) : KI X (h + 6) mX12_act [.ref 81, zi b, zi 1, zi x] I J ((((x + b) * 2) * 2)) (trR (upA I 81 (up1 (I 81) 53 0)) [10, 70, 1]) J := by
  show Rz X (h + 6) mX12_act 0 [some (.ref 81), some (zi b), some (zi 1), some (zi x)] [] I J _
  refine rz_aload_n dX12_act_0 rfl ?_
  refine rz_iconst dX12_act_1 ?_
  refine rz_putI dX12_act_2 kp_RX12_377 hd_81 rfl ?_
  refine rz_mem (I' := (upA I 81 (up1 (I 81) 53 0))) (J' := J) (rfl) (rfl) ?_
  refine rz_aload_n dX12_act_5 rfl ?_
  refine rz_iload_n dX12_act_6 rfl ?_
  refine rz_cVIq dX12_act_7 kl_RX12_416 hd_81 ⟨_, _, rfl⟩ (c_X12_isBody X _ (upA I 81 (up1 (I 81) 53 0)) J b (by omega) (by show 0 ≤ I 81 51 ∧ I 81 51 ≤ 50; omega)) rfl rfl (Nat.le_of_ble_eq_true rfl) (Nat.le_of_ble_eq_true rfl) ?_
  rintro z7 A7 B7 ⟨⟨rfl, b7⟩ | ⟨rfl, b7⟩, rfl, rfl⟩
  · refine rz_if_eq (t := 22) dX12_act_10 rfl (by omega) (fun q => absurd q (by decide)) (fun _ => ?_)
    refine rz_iload_n dX12_act_13 rfl ?_
    refine rz_iconst dX12_act_14 ?_
    refine rz_iconst dX12_act_15 ?_
    refine rz_cSIq dX12_act_16 kl_RX12_140 (c_X12_in X _ (upA I 81 (up1 (I 81) 53 0)) J 1 0 3 (by omega) (by omega) (by omega)) rfl rfl (Nat.le_of_ble_eq_true rfl) (Nat.le_of_ble_eq_true rfl) ?_
    rintro z16 A16 B16 ⟨⟨rfl, b16⟩ | ⟨rfl, b16⟩, rfl, rfl⟩
    · refine rz_if_ne (t := 24) dX12_act_19 rfl (by omega) (fun _ => ?_) (fun q => absurd q (by decide))
      refine rz_iload_n dX12_act_24 rfl ?_
      refine rz_if_ne (t := 37) dX12_act_25 rfl (by omega) (fun _ => ?_) (fun q => absurd q (by decide))
      refine rz_iload_n dX12_act_37 rfl ?_
      refine rz_iconst dX12_act_38 ?_
      refine rz_icmp_ne (t := 51) dX12_act_39 rfl (by omega) (by omega) (fun q => absurd q (by decide)) (fun _ => ?_)
      refine rz_aload_n dX12_act_42 rfl ?_
      refine rz_iload_n dX12_act_43 rfl ?_
      refine rz_iload_n dX12_act_44 rfl ?_
      refine rz_cVI dX12_act_45 kl_RX12_407 hd_81 ⟨_, _, rfl⟩ (c_X12_sending_6 X _ (upA I 81 (up1 (I 81) 53 0)) J b x (by show (0 : Int) ≤ 0 ∧ (0 : Int) ≤ _; omega) hk (by omega)) rfl rfl (Nat.le_of_ble_eq_true rfl) (Nat.le_of_ble_eq_true rfl) ?_
      refine rz_goto (t := 71) dX12_act_48 rfl ?_
      refine rz_iret dX12_act_71 rfl ?_
      exact ⟨_, rfl, rfl, rfl, rfl⟩
    · exfalso; omega
  · exact absurd (show 0 ≤ b ∧ b ≤ I 81 51 - 1 by omega) b7
set_option maxRecDepth 20000 in
set_option maxHeartbeats 400000 in
theorem c_X12_plainWins_6 (X : pX) (h : Nat) (I J : IM) (b x : Int) (hR : 0 ≤ I 81 53 ∧ I 81 53 ≤ 23) (hk : I 116 b.toNat = 6) (hb : 0 ≤ b ∧ b < 50) : KI X (h + 1) mX12_plainWins [.ref 81, zi b, zi x] I J ((xorZ x b)) (trR I [11]) J := by
  show Rz X (h + 1) mX12_plainWins 0 [some (.ref 81), some (zi b), some (zi x)] [] I J _
  refine rz_aload_n dX12_plainWins_0 rfl ?_
  refine rz_bipush dX12_plainWins_1 (by decide) ?_
  refine rz_cVV dX12_plainWins_3 kl_RX12_380 hd_81 ⟨_, _, rfl⟩ (c_X12_ran X _ I J 11 (by (try simp only [trM_R, stM_R, trR_R, stR_R, List.length_cons, List.length_nil]); omega)) rfl rfl (Nat.le_of_ble_eq_true rfl) (Nat.le_of_ble_eq_true rfl) ?_
  refine rz_iload_n dX12_plainWins_6 rfl ?_
  refine rz_iload_n dX12_plainWins_7 rfl ?_
  refine rz_ixor dX12_plainWins_8 ?_
  refine rz_iret dX12_plainWins_9 rfl ?_
  exact ⟨_, rfl, rfl, rfl, rfl⟩
set_option maxRecDepth 20000 in
set_option maxHeartbeats 400000 in
theorem c_X12_winning_6 (X : pX) (h : Nat) (I J : IM) (b x : Int) (hR : 0 ≤ I 81 53 ∧ I 81 53 ≤ 23) (hk : I 116 b.toNat = 6) (hb : 0 ≤ b ∧ b < 50) : KI X (h + 2) mX12_winning [.ref 81, zi b, zi x] I J ((xorZ x b)) (trR I [11]) J := by
  show Rz X (h + 2) mX12_winning 0 [some (.ref 81), some (zi b), some (zi x), none] [] I J _
  refine rz_aload_n dX12_winning_0 rfl ?_
  refine rz_getR dX12_winning_1 kf_RX12_114 hd_81 rfl rr_81_52 ?_
  refine rz_iload_n dX12_winning_4 rfl ?_
  refine rz_iald (z := 6) dX12_winning_5 hd_116 (by decide) (by omega) hk ?_
  refine rz_iconst dX12_winning_6 ?_
  refine rz_icmp_ne (t := 25) dX12_winning_7 rfl (by omega) (by omega) (fun _ => ?_) (fun q => absurd q (by decide))
  refine rz_aload_n dX12_winning_25 rfl ?_
  refine rz_getR dX12_winning_26 kf_RX12_114 hd_81 rfl rr_81_52 ?_
  refine rz_iload_n dX12_winning_29 rfl ?_
  refine rz_iald (z := 6) dX12_winning_30 hd_116 (by decide) (by omega) hk ?_
  refine rz_iconst dX12_winning_31 ?_
  refine rz_icmp_ne (t := 57) dX12_winning_32 rfl (by omega) (by omega) (fun _ => ?_) (fun q => absurd q (by decide))
  refine rz_aload_n dX12_winning_57 rfl ?_
  refine rz_iload_n dX12_winning_58 rfl ?_
  refine rz_iload_n dX12_winning_59 rfl ?_
  refine rz_cVI dX12_winning_60 kl_RX12_404 hd_81 ⟨_, _, rfl⟩ (c_X12_plainWins_6 X _ I J b x (by (try simp only [trM_R, stM_R, trR_R, stR_R, List.length_cons, List.length_nil]); omega) hk hb) rfl rfl (Nat.le_of_ble_eq_true rfl) (Nat.le_of_ble_eq_true rfl) ?_
  refine rz_iret dX12_winning_63 rfl ?_
  exact ⟨_, rfl, rfl, rfl, rfl⟩
set_option maxRecDepth 20000 in
set_option maxHeartbeats 400000 in
theorem c_act_6_2 (X : pX) (h : Nat) (I J : IM) (b x : Int) (hb : 0 ≤ b ∧ b ≤ I 81 51 - 1) (h5 : I 81 51 ≤ 50) (hk : I 116 b.toNat = 6) : KI X (h + 3) mX12_act [.ref 81, zi b, zi 2, zi x] I J ((xorZ x b)) (trR (upA I 81 (up1 (I 81) 53 0)) [11]) J := by
  show Rz X (h + 3) mX12_act 0 [some (.ref 81), some (zi b), some (zi 2), some (zi x)] [] I J _
  refine rz_aload_n dX12_act_0 rfl ?_
  refine rz_iconst dX12_act_1 ?_
  refine rz_putI dX12_act_2 kp_RX12_377 hd_81 rfl ?_
  refine rz_mem (I' := (upA I 81 (up1 (I 81) 53 0))) (J' := J) (rfl) (rfl) ?_
  refine rz_aload_n dX12_act_5 rfl ?_
  refine rz_iload_n dX12_act_6 rfl ?_
  refine rz_cVIq dX12_act_7 kl_RX12_416 hd_81 ⟨_, _, rfl⟩ (c_X12_isBody X _ (upA I 81 (up1 (I 81) 53 0)) J b (by omega) (by show 0 ≤ I 81 51 ∧ I 81 51 ≤ 50; omega)) rfl rfl (Nat.le_of_ble_eq_true rfl) (Nat.le_of_ble_eq_true rfl) ?_
  rintro z7 A7 B7 ⟨⟨rfl, b7⟩ | ⟨rfl, b7⟩, rfl, rfl⟩
  · refine rz_if_eq (t := 22) dX12_act_10 rfl (by omega) (fun q => absurd q (by decide)) (fun _ => ?_)
    refine rz_iload_n dX12_act_13 rfl ?_
    refine rz_iconst dX12_act_14 ?_
    refine rz_iconst dX12_act_15 ?_
    refine rz_cSIq dX12_act_16 kl_RX12_140 (c_X12_in X _ (upA I 81 (up1 (I 81) 53 0)) J 2 0 3 (by omega) (by omega) (by omega)) rfl rfl (Nat.le_of_ble_eq_true rfl) (Nat.le_of_ble_eq_true rfl) ?_
    rintro z16 A16 B16 ⟨⟨rfl, b16⟩ | ⟨rfl, b16⟩, rfl, rfl⟩
    · refine rz_if_ne (t := 24) dX12_act_19 rfl (by omega) (fun _ => ?_) (fun q => absurd q (by decide))
      refine rz_iload_n dX12_act_24 rfl ?_
      refine rz_if_ne (t := 37) dX12_act_25 rfl (by omega) (fun _ => ?_) (fun q => absurd q (by decide))
      refine rz_iload_n dX12_act_37 rfl ?_
      refine rz_iconst dX12_act_38 ?_
      refine rz_icmp_ne (t := 51) dX12_act_39 rfl (by omega) (by omega) (fun _ => ?_) (fun q => absurd q (by decide))
      refine rz_iload_n dX12_act_51 rfl ?_
      refine rz_iconst dX12_act_52 ?_
      refine rz_icmp_ne (t := 65) dX12_act_53 rfl (by omega) (by omega) (fun q => absurd q (by decide)) (fun _ => ?_)
      refine rz_aload_n dX12_act_56 rfl ?_
      refine rz_iload_n dX12_act_57 rfl ?_
      refine rz_iload_n dX12_act_58 rfl ?_
      refine rz_cVI dX12_act_59 kl_RX12_401 hd_81 ⟨_, _, rfl⟩ (c_X12_winning_6 X _ (upA I 81 (up1 (I 81) 53 0)) J b x (by show (0 : Int) ≤ 0 ∧ (0 : Int) ≤ _; omega) hk (by omega)) rfl rfl (Nat.le_of_ble_eq_true rfl) (Nat.le_of_ble_eq_true rfl) ?_
      refine rz_goto (t := 71) dX12_act_62 rfl ?_
      refine rz_iret dX12_act_71 rfl ?_
      exact ⟨_, rfl, rfl, rfl, rfl⟩
    · exfalso; omega
  · exact absurd (show 0 ≤ b ∧ b ≤ I 81 51 - 1 by omega) b7
set_option maxRecDepth 20000 in
set_option maxHeartbeats 400000 in
theorem c_X12_plainLearns_6 (X : pX) (h : Nat) (I J : IM) (b x : Int) (hR : 0 ≤ I 81 53 ∧ I 81 53 ≤ 19) (hk : I 116 b.toNat = 6) (hb : 0 ≤ b ∧ b < 50) : KI X (h + 6) mX12_plainLearns [.ref 81, zi b, zi x] I J (((((x + b) * 2) * 2) - (xorZ 1 b))) (trR I [2, 10, 70, 1, 11]) J := by
  show Rz X (h + 6) mX12_plainLearns 0 [some (.ref 81), some (zi b), some (zi x), none] [] I J _
  refine rz_aload_n dX12_plainLearns_0 rfl ?_
  refine rz_iconst dX12_plainLearns_1 ?_
  refine rz_cVV dX12_plainLearns_2 kl_RX12_380 hd_81 ⟨_, _, rfl⟩ (c_X12_ran X _ I J 2 (by (try simp only [trM_R, stM_R, trR_R, stR_R, List.length_cons, List.length_nil]); omega)) rfl rfl (Nat.le_of_ble_eq_true rfl) (Nat.le_of_ble_eq_true rfl) ?_
  refine rz_aload_n dX12_plainLearns_5 rfl ?_
  refine rz_iload_n dX12_plainLearns_6 rfl ?_
  refine rz_iload_n dX12_plainLearns_7 rfl ?_
  refine rz_cVI dX12_plainLearns_8 kl_RX12_407 hd_81 ⟨_, _, rfl⟩ (c_X12_sending_6 X _ (stR I 2) J b x (by (try simp only [trM_R, stM_R, trR_R, stR_R, List.length_cons, List.length_nil]); omega) hk hb) rfl rfl (Nat.le_of_ble_eq_true rfl) (Nat.le_of_ble_eq_true rfl) ?_
  refine rz_istore_n dX12_plainLearns_11 (by decide) rfl ?_
  refine rz_iload_n dX12_plainLearns_12 rfl ?_
  refine rz_aload_n dX12_plainLearns_13 rfl ?_
  refine rz_iload_n dX12_plainLearns_14 rfl ?_
  refine rz_iconst dX12_plainLearns_15 ?_
  refine rz_cVI dX12_plainLearns_16 kl_RX12_401 hd_81 ⟨_, _, rfl⟩ (c_X12_winning_6 X _ (trR (stR I 2) [10, 70, 1]) J b 1 (by (try simp only [trM_R, stM_R, trR_R, stR_R, List.length_cons, List.length_nil]); omega) hk hb) rfl rfl (Nat.le_of_ble_eq_true rfl) (Nat.le_of_ble_eq_true rfl) ?_
  refine rz_isub dX12_plainLearns_19 ?_
  refine rz_iret dX12_plainLearns_20 rfl ?_
  exact ⟨_, rfl, rfl, rfl, rfl⟩
set_option maxRecDepth 20000 in
set_option maxHeartbeats 400000 in
theorem c_X12_learning_6 (X : pX) (h : Nat) (I J : IM) (b x : Int) (hR : 0 ≤ I 81 53 ∧ I 81 53 ≤ 19) (hk : I 116 b.toNat = 6) (hb : 0 ≤ b ∧ b < 50) : KI X (h + 7) mX12_learning [.ref 81, zi b, zi x] I J (((((x + b) * 2) * 2) - (xorZ 1 b))) (trR I [2, 10, 70, 1, 11]) J := by
  show Rz X (h + 7) mX12_learning 0 [some (.ref 81), some (zi b), some (zi x)] [] I J _
  refine rz_aload_n dX12_learning_0 rfl ?_
  refine rz_getR dX12_learning_1 kf_RX12_114 hd_81 rfl rr_81_52 ?_
  refine rz_iload_n dX12_learning_4 rfl ?_
  refine rz_iald (z := 6) dX12_learning_5 hd_116 (by decide) (by omega) hk ?_
  refine rz_iconst dX12_learning_6 ?_
  refine rz_icmp_ne (t := 25) dX12_learning_7 rfl (by omega) (by omega) (fun _ => ?_) (fun q => absurd q (by decide))
  refine rz_aload_n dX12_learning_25 rfl ?_
  refine rz_getR dX12_learning_26 kf_RX12_114 hd_81 rfl rr_81_52 ?_
  refine rz_iload_n dX12_learning_29 rfl ?_
  refine rz_iald (z := 6) dX12_learning_30 hd_116 (by decide) (by omega) hk ?_
  refine rz_iconst dX12_learning_31 ?_
  refine rz_icmp_ne (t := 44) dX12_learning_32 rfl (by omega) (by omega) (fun _ => ?_) (fun q => absurd q (by decide))
  refine rz_aload_n dX12_learning_44 rfl ?_
  refine rz_iload_n dX12_learning_45 rfl ?_
  refine rz_iload_n dX12_learning_46 rfl ?_
  refine rz_cVI dX12_learning_47 kl_RX12_410 hd_81 ⟨_, _, rfl⟩ (c_X12_plainLearns_6 X _ I J b x (by (try simp only [trM_R, stM_R, trR_R, stR_R, List.length_cons, List.length_nil]); omega) hk hb) rfl rfl (Nat.le_of_ble_eq_true rfl) (Nat.le_of_ble_eq_true rfl) ?_
  refine rz_iret dX12_learning_50 rfl ?_
  exact ⟨_, rfl, rfl, rfl, rfl⟩
set_option maxRecDepth 20000 in
set_option maxHeartbeats 400000 in
theorem c_act_6_3 (X : pX) (h : Nat) (I J : IM) (b x : Int) (hb : 0 ≤ b ∧ b ≤ I 81 51 - 1) (h5 : I 81 51 ≤ 50) (hk : I 116 b.toNat = 6) : KI X (h + 8) mX12_act [.ref 81, zi b, zi 3, zi x] I J (((((x + b) * 2) * 2) - (xorZ 1 b))) (trR (upA I 81 (up1 (I 81) 53 0)) [2, 10, 70, 1, 11]) J := by
  show Rz X (h + 8) mX12_act 0 [some (.ref 81), some (zi b), some (zi 3), some (zi x)] [] I J _
  refine rz_aload_n dX12_act_0 rfl ?_
  refine rz_iconst dX12_act_1 ?_
  refine rz_putI dX12_act_2 kp_RX12_377 hd_81 rfl ?_
  refine rz_mem (I' := (upA I 81 (up1 (I 81) 53 0))) (J' := J) (rfl) (rfl) ?_
  refine rz_aload_n dX12_act_5 rfl ?_
  refine rz_iload_n dX12_act_6 rfl ?_
  refine rz_cVIq dX12_act_7 kl_RX12_416 hd_81 ⟨_, _, rfl⟩ (c_X12_isBody X _ (upA I 81 (up1 (I 81) 53 0)) J b (by omega) (by show 0 ≤ I 81 51 ∧ I 81 51 ≤ 50; omega)) rfl rfl (Nat.le_of_ble_eq_true rfl) (Nat.le_of_ble_eq_true rfl) ?_
  rintro z7 A7 B7 ⟨⟨rfl, b7⟩ | ⟨rfl, b7⟩, rfl, rfl⟩
  · refine rz_if_eq (t := 22) dX12_act_10 rfl (by omega) (fun q => absurd q (by decide)) (fun _ => ?_)
    refine rz_iload_n dX12_act_13 rfl ?_
    refine rz_iconst dX12_act_14 ?_
    refine rz_iconst dX12_act_15 ?_
    refine rz_cSIq dX12_act_16 kl_RX12_140 (c_X12_in X _ (upA I 81 (up1 (I 81) 53 0)) J 3 0 3 (by omega) (by omega) (by omega)) rfl rfl (Nat.le_of_ble_eq_true rfl) (Nat.le_of_ble_eq_true rfl) ?_
    rintro z16 A16 B16 ⟨⟨rfl, b16⟩ | ⟨rfl, b16⟩, rfl, rfl⟩
    · refine rz_if_ne (t := 24) dX12_act_19 rfl (by omega) (fun _ => ?_) (fun q => absurd q (by decide))
      refine rz_iload_n dX12_act_24 rfl ?_
      refine rz_if_ne (t := 37) dX12_act_25 rfl (by omega) (fun _ => ?_) (fun q => absurd q (by decide))
      refine rz_iload_n dX12_act_37 rfl ?_
      refine rz_iconst dX12_act_38 ?_
      refine rz_icmp_ne (t := 51) dX12_act_39 rfl (by omega) (by omega) (fun _ => ?_) (fun q => absurd q (by decide))
      refine rz_iload_n dX12_act_51 rfl ?_
      refine rz_iconst dX12_act_52 ?_
      refine rz_icmp_ne (t := 65) dX12_act_53 rfl (by omega) (by omega) (fun _ => ?_) (fun q => absurd q (by decide))
      refine rz_aload_n dX12_act_65 rfl ?_
      refine rz_iload_n dX12_act_66 rfl ?_
      refine rz_iload_n dX12_act_67 rfl ?_
      refine rz_cVI dX12_act_68 kl_RX12_419 hd_81 ⟨_, _, rfl⟩ (c_X12_learning_6 X _ (upA I 81 (up1 (I 81) 53 0)) J b x (by show (0 : Int) ≤ 0 ∧ (0 : Int) ≤ _; omega) hk (by omega)) rfl rfl (Nat.le_of_ble_eq_true rfl) (Nat.le_of_ble_eq_true rfl) ?_
      refine rz_iret dX12_act_71 rfl ?_
      exact ⟨_, rfl, rfl, rfl, rfl⟩
    · exfalso; omega
  · exact absurd (show 0 ≤ b ∧ b ≤ I 81 51 - 1 by omega) b7
set_option maxRecDepth 20000 in
set_option maxHeartbeats 400000 in
theorem c_X12_plainParts_7 (X : pX) (h : Nat) (I J : IM) (b x : Int) (hR : 0 ≤ I 81 53 ∧ I 81 53 ≤ 23) (hk : I 116 b.toNat = 7) (hb : 0 ≤ b ∧ b < 50) : KI X (h + 1) mX12_plainParts [.ref 81, zi b, zi x] I J ((x + b)) (trR I [1]) J := by
  show Rz X (h + 1) mX12_plainParts 0 [some (.ref 81), some (zi b), some (zi x)] [] I J _
  refine rz_aload_n dX12_plainParts_0 rfl ?_
  refine rz_iconst dX12_plainParts_1 ?_
  refine rz_cVV dX12_plainParts_2 kl_RX12_380 hd_81 ⟨_, _, rfl⟩ (c_X12_ran X _ I J 1 (by (try simp only [trM_R, stM_R, trR_R, stR_R, List.length_cons, List.length_nil]); omega)) rfl rfl (Nat.le_of_ble_eq_true rfl) (Nat.le_of_ble_eq_true rfl) ?_
  refine rz_iload_n dX12_plainParts_5 rfl ?_
  refine rz_iload_n dX12_plainParts_6 rfl ?_
  refine rz_iadd dX12_plainParts_7 ?_
  refine rz_iret dX12_plainParts_8 rfl ?_
  exact ⟨_, rfl, rfl, rfl, rfl⟩
set_option maxRecDepth 20000 in
set_option maxHeartbeats 400000 in
theorem c_X12_toldParts_7 (X : pX) (h : Nat) (I J : IM) (b x : Int) (hR : 0 ≤ I 81 53 ∧ I 81 53 ≤ 22) (hk : I 116 b.toNat = 7) (hb : 0 ≤ b ∧ b < 50) : KI X (h + 2) mX12_toldParts [.ref 81, zi b, zi x] I J (((x + b) * 2)) (trR I [70, 1]) J := by
  show Rz X (h + 2) mX12_toldParts 0 [some (.ref 81), some (zi b), some (zi x)] [] I J _
  refine rz_aload_n dX12_toldParts_0 rfl ?_
  refine rz_bipush dX12_toldParts_1 (by decide) ?_
  refine rz_cVV dX12_toldParts_3 kl_RX12_380 hd_81 ⟨_, _, rfl⟩ (c_X12_ran X _ I J 70 (by (try simp only [trM_R, stM_R, trR_R, stR_R, List.length_cons, List.length_nil]); omega)) rfl rfl (Nat.le_of_ble_eq_true rfl) (Nat.le_of_ble_eq_true rfl) ?_
  refine rz_aload_n dX12_toldParts_6 rfl ?_
  refine rz_iload_n dX12_toldParts_7 rfl ?_
  refine rz_iload_n dX12_toldParts_8 rfl ?_
  refine rz_cVI dX12_toldParts_9 kl_RX12_383 hd_81 ⟨_, _, rfl⟩ (c_X12_plainParts_7 X _ (stR I 70) J b x (by (try simp only [trM_R, stM_R, trR_R, stR_R, List.length_cons, List.length_nil]); omega) hk hb) rfl rfl (Nat.le_of_ble_eq_true rfl) (Nat.le_of_ble_eq_true rfl) ?_
  refine rz_iconst dX12_toldParts_12 ?_
  refine rz_imul dX12_toldParts_13 ?_
  refine rz_iret dX12_toldParts_14 rfl ?_
  exact ⟨_, rfl, rfl, rfl, rfl⟩
set_option maxRecDepth 20000 in
set_option maxHeartbeats 400000 in
theorem c_X12_parting_7 (X : pX) (h : Nat) (I J : IM) (b x : Int) (hR : 0 ≤ I 81 53 ∧ I 81 53 ≤ 21) (hk : I 116 b.toNat = 7) (hb : 0 ≤ b ∧ b < 50) : KI X (h + 3) mX12_parting [.ref 81, zi b, zi x] I J ((((x + b) * 2) - 1)) (trR I [81, 70, 1]) J := by
  show Rz X (h + 3) mX12_parting 0 [some (.ref 81), some (zi b), some (zi x)] [] I J _
  refine rz_aload_n dX12_parting_0 rfl ?_
  refine rz_getR dX12_parting_1 kf_RX12_114 hd_81 rfl rr_81_52 ?_
  refine rz_iload_n dX12_parting_4 rfl ?_
  refine rz_iald (z := 7) dX12_parting_5 hd_116 (by decide) (by omega) hk ?_
  refine rz_iconst dX12_parting_6 ?_
  refine rz_cSIq dX12_parting_7 kl_RX12_386 (c_X12_isUnder X _ I J 7 1 (by omega) (by omega)) rfl rfl (Nat.le_of_ble_eq_true rfl) (Nat.le_of_ble_eq_true rfl) ?_
  rintro z7 A7 B7 ⟨⟨rfl, b7⟩ | ⟨rfl, b7⟩, rfl, rfl⟩
  · exfalso; omega
  · refine rz_if_eq (t := 28) dX12_parting_10 rfl (by omega) (fun _ => ?_) (fun q => absurd q (by decide))
    refine rz_aload_n dX12_parting_28 rfl ?_
    refine rz_getR dX12_parting_29 kf_RX12_114 hd_81 rfl rr_81_52 ?_
    refine rz_iload_n dX12_parting_32 rfl ?_
    refine rz_iald (z := 7) dX12_parting_33 hd_116 (by decide) (by omega) hk ?_
    refine rz_bipush dX12_parting_34 (by decide) ?_
    refine rz_icmp_ne (t := 54) dX12_parting_36 rfl (by omega) (by omega) (fun q => absurd q (by decide)) (fun _ => ?_)
    refine rz_aload_n dX12_parting_39 rfl ?_
    refine rz_bipush dX12_parting_40 (by decide) ?_
    refine rz_cVV dX12_parting_42 kl_RX12_380 hd_81 ⟨_, _, rfl⟩ (c_X12_ran X _ I J 81 (by (try simp only [trM_R, stM_R, trR_R, stR_R, List.length_cons, List.length_nil]); omega)) rfl rfl (Nat.le_of_ble_eq_true rfl) (Nat.le_of_ble_eq_true rfl) ?_
    refine rz_aload_n dX12_parting_45 rfl ?_
    refine rz_iload_n dX12_parting_46 rfl ?_
    refine rz_iload_n dX12_parting_47 rfl ?_
    refine rz_cVI dX12_parting_48 kl_RX12_389 hd_81 ⟨_, _, rfl⟩ (c_X12_toldParts_7 X _ (stR I 81) J b x (by (try simp only [trM_R, stM_R, trR_R, stR_R, List.length_cons, List.length_nil]); omega) hk hb) rfl rfl (Nat.le_of_ble_eq_true rfl) (Nat.le_of_ble_eq_true rfl) ?_
    refine rz_iconst dX12_parting_51 ?_
    refine rz_isub dX12_parting_52 ?_
    refine rz_iret dX12_parting_53 rfl ?_
    exact ⟨_, rfl, rfl, rfl, rfl⟩
set_option maxRecDepth 20000 in
set_option maxHeartbeats 400000 in
theorem c_act_7_0 (X : pX) (h : Nat) (I J : IM) (b x : Int) (hb : 0 ≤ b ∧ b ≤ I 81 51 - 1) (h5 : I 81 51 ≤ 50) (hk : I 116 b.toNat = 7) : KI X (h + 4) mX12_act [.ref 81, zi b, zi 0, zi x] I J ((((x + b) * 2) - 1)) (trR (upA I 81 (up1 (I 81) 53 0)) [81, 70, 1]) J := by
  show Rz X (h + 4) mX12_act 0 [some (.ref 81), some (zi b), some (zi 0), some (zi x)] [] I J _
  refine rz_aload_n dX12_act_0 rfl ?_
  refine rz_iconst dX12_act_1 ?_
  refine rz_putI dX12_act_2 kp_RX12_377 hd_81 rfl ?_
  refine rz_mem (I' := (upA I 81 (up1 (I 81) 53 0))) (J' := J) (rfl) (rfl) ?_
  refine rz_aload_n dX12_act_5 rfl ?_
  refine rz_iload_n dX12_act_6 rfl ?_
  refine rz_cVIq dX12_act_7 kl_RX12_416 hd_81 ⟨_, _, rfl⟩ (c_X12_isBody X _ (upA I 81 (up1 (I 81) 53 0)) J b (by omega) (by show 0 ≤ I 81 51 ∧ I 81 51 ≤ 50; omega)) rfl rfl (Nat.le_of_ble_eq_true rfl) (Nat.le_of_ble_eq_true rfl) ?_
  rintro z7 A7 B7 ⟨⟨rfl, b7⟩ | ⟨rfl, b7⟩, rfl, rfl⟩
  · refine rz_if_eq (t := 22) dX12_act_10 rfl (by omega) (fun q => absurd q (by decide)) (fun _ => ?_)
    refine rz_iload_n dX12_act_13 rfl ?_
    refine rz_iconst dX12_act_14 ?_
    refine rz_iconst dX12_act_15 ?_
    refine rz_cSIq dX12_act_16 kl_RX12_140 (c_X12_in X _ (upA I 81 (up1 (I 81) 53 0)) J 0 0 3 (by omega) (by omega) (by omega)) rfl rfl (Nat.le_of_ble_eq_true rfl) (Nat.le_of_ble_eq_true rfl) ?_
    rintro z16 A16 B16 ⟨⟨rfl, b16⟩ | ⟨rfl, b16⟩, rfl, rfl⟩
    · refine rz_if_ne (t := 24) dX12_act_19 rfl (by omega) (fun _ => ?_) (fun q => absurd q (by decide))
      refine rz_iload_n dX12_act_24 rfl ?_
      refine rz_if_ne (t := 37) dX12_act_25 rfl (by omega) (fun q => absurd q (by decide)) (fun _ => ?_)
      refine rz_aload_n dX12_act_28 rfl ?_
      refine rz_iload_n dX12_act_29 rfl ?_
      refine rz_iload_n dX12_act_30 rfl ?_
      refine rz_cVI dX12_act_31 kl_RX12_392 hd_81 ⟨_, _, rfl⟩ (c_X12_parting_7 X _ (upA I 81 (up1 (I 81) 53 0)) J b x (by show (0 : Int) ≤ 0 ∧ (0 : Int) ≤ _; omega) hk (by omega)) rfl rfl (Nat.le_of_ble_eq_true rfl) (Nat.le_of_ble_eq_true rfl) ?_
      refine rz_goto (t := 71) dX12_act_34 rfl ?_
      refine rz_iret dX12_act_71 rfl ?_
      exact ⟨_, rfl, rfl, rfl, rfl⟩
    · exfalso; omega
  · exact absurd (show 0 ≤ b ∧ b ≤ I 81 51 - 1 by omega) b7
set_option maxRecDepth 20000 in
set_option maxHeartbeats 400000 in
theorem c_X12_plainSends_7 (X : pX) (h : Nat) (I J : IM) (b x : Int) (hR : 0 ≤ I 81 53 ∧ I 81 53 ≤ 20) (hk : I 116 b.toNat = 7) (hb : 0 ≤ b ∧ b < 50) : KI X (h + 4) mX12_plainSends [.ref 81, zi b, zi x] I J (((((x + b) * 2) - 1) * 2)) (trR I [10, 81, 70, 1]) J := by
  show Rz X (h + 4) mX12_plainSends 0 [some (.ref 81), some (zi b), some (zi x)] [] I J _
  refine rz_aload_n dX12_plainSends_0 rfl ?_
  refine rz_bipush dX12_plainSends_1 (by decide) ?_
  refine rz_cVV dX12_plainSends_3 kl_RX12_380 hd_81 ⟨_, _, rfl⟩ (c_X12_ran X _ I J 10 (by (try simp only [trM_R, stM_R, trR_R, stR_R, List.length_cons, List.length_nil]); omega)) rfl rfl (Nat.le_of_ble_eq_true rfl) (Nat.le_of_ble_eq_true rfl) ?_
  refine rz_aload_n dX12_plainSends_6 rfl ?_
  refine rz_iload_n dX12_plainSends_7 rfl ?_
  refine rz_iload_n dX12_plainSends_8 rfl ?_
  refine rz_cVI dX12_plainSends_9 kl_RX12_392 hd_81 ⟨_, _, rfl⟩ (c_X12_parting_7 X _ (stR I 10) J b x (by (try simp only [trM_R, stM_R, trR_R, stR_R, List.length_cons, List.length_nil]); omega) hk hb) rfl rfl (Nat.le_of_ble_eq_true rfl) (Nat.le_of_ble_eq_true rfl) ?_
  refine rz_iconst dX12_plainSends_12 ?_
  refine rz_imul dX12_plainSends_13 ?_
  refine rz_iret dX12_plainSends_14 rfl ?_
  exact ⟨_, rfl, rfl, rfl, rfl⟩
set_option maxRecDepth 20000 in
set_option maxHeartbeats 400000 in
theorem c_X12_plainWins_7 (X : pX) (h : Nat) (I J : IM) (b x : Int) (hR : 0 ≤ I 81 53 ∧ I 81 53 ≤ 23) (hk : I 116 b.toNat = 7) (hb : 0 ≤ b ∧ b < 50) : KI X (h + 1) mX12_plainWins [.ref 81, zi b, zi x] I J ((xorZ x b)) (trR I [11]) J := by
  show Rz X (h + 1) mX12_plainWins 0 [some (.ref 81), some (zi b), some (zi x)] [] I J _
  refine rz_aload_n dX12_plainWins_0 rfl ?_
  refine rz_bipush dX12_plainWins_1 (by decide) ?_
  refine rz_cVV dX12_plainWins_3 kl_RX12_380 hd_81 ⟨_, _, rfl⟩ (c_X12_ran X _ I J 11 (by (try simp only [trM_R, stM_R, trR_R, stR_R, List.length_cons, List.length_nil]); omega)) rfl rfl (Nat.le_of_ble_eq_true rfl) (Nat.le_of_ble_eq_true rfl) ?_
  refine rz_iload_n dX12_plainWins_6 rfl ?_
  refine rz_iload_n dX12_plainWins_7 rfl ?_
  refine rz_ixor dX12_plainWins_8 ?_
  refine rz_iret dX12_plainWins_9 rfl ?_
  exact ⟨_, rfl, rfl, rfl, rfl⟩
set_option maxRecDepth 20000 in
set_option maxHeartbeats 400000 in
theorem c_X12_winning_7 (X : pX) (h : Nat) (I J : IM) (b x : Int) (hR : 0 ≤ I 81 53 ∧ I 81 53 ≤ 23) (hk : I 116 b.toNat = 7) (hb : 0 ≤ b ∧ b < 50) : KI X (h + 2) mX12_winning [.ref 81, zi b, zi x] I J ((xorZ x b)) (trR I [11]) J := by
  show Rz X (h + 2) mX12_winning 0 [some (.ref 81), some (zi b), some (zi x), none] [] I J _
  refine rz_aload_n dX12_winning_0 rfl ?_
  refine rz_getR dX12_winning_1 kf_RX12_114 hd_81 rfl rr_81_52 ?_
  refine rz_iload_n dX12_winning_4 rfl ?_
  refine rz_iald (z := 7) dX12_winning_5 hd_116 (by decide) (by omega) hk ?_
  refine rz_iconst dX12_winning_6 ?_
  refine rz_icmp_ne (t := 25) dX12_winning_7 rfl (by omega) (by omega) (fun _ => ?_) (fun q => absurd q (by decide))
  refine rz_aload_n dX12_winning_25 rfl ?_
  refine rz_getR dX12_winning_26 kf_RX12_114 hd_81 rfl rr_81_52 ?_
  refine rz_iload_n dX12_winning_29 rfl ?_
  refine rz_iald (z := 7) dX12_winning_30 hd_116 (by decide) (by omega) hk ?_
  refine rz_iconst dX12_winning_31 ?_
  refine rz_icmp_ne (t := 57) dX12_winning_32 rfl (by omega) (by omega) (fun _ => ?_) (fun q => absurd q (by decide))
  refine rz_aload_n dX12_winning_57 rfl ?_
  refine rz_iload_n dX12_winning_58 rfl ?_
  refine rz_iload_n dX12_winning_59 rfl ?_
  refine rz_cVI dX12_winning_60 kl_RX12_404 hd_81 ⟨_, _, rfl⟩ (c_X12_plainWins_7 X _ I J b x (by (try simp only [trM_R, stM_R, trR_R, stR_R, List.length_cons, List.length_nil]); omega) hk hb) rfl rfl (Nat.le_of_ble_eq_true rfl) (Nat.le_of_ble_eq_true rfl) ?_
  refine rz_iret dX12_winning_63 rfl ?_
  exact ⟨_, rfl, rfl, rfl, rfl⟩
set_option maxRecDepth 20000 in
set_option maxHeartbeats 400000 in
theorem c_X12_sending_7 (X : pX) (h : Nat) (I J : IM) (b x : Int) (hR : 0 ≤ I 81 53 ∧ I 81 53 ≤ 18) (hk : I 116 b.toNat = 7) (hb : 0 ≤ b ∧ b < 50) : KI X (h + 5) mX12_sending [.ref 81, zi b, zi x] I J ((((((x + b) * 2) - 1) * 2) + (xorZ 2 b))) (trR I [80, 10, 81, 70, 1, 11]) J := by
  show Rz X (h + 5) mX12_sending 0 [some (.ref 81), some (zi b), some (zi x), none] [] I J _
  refine rz_aload_n dX12_sending_0 rfl ?_
  refine rz_getR dX12_sending_1 kf_RX12_114 hd_81 rfl rr_81_52 ?_
  refine rz_iload_n dX12_sending_4 rfl ?_
  refine rz_iald (z := 7) dX12_sending_5 hd_116 (by decide) (by omega) hk ?_
  refine rz_iconst dX12_sending_6 ?_
  refine rz_icmp_ne (t := 25) dX12_sending_7 rfl (by omega) (by omega) (fun _ => ?_) (fun q => absurd q (by decide))
  refine rz_aload_n dX12_sending_25 rfl ?_
  refine rz_getR dX12_sending_26 kf_RX12_114 hd_81 rfl rr_81_52 ?_
  refine rz_iload_n dX12_sending_29 rfl ?_
  refine rz_iald (z := 7) dX12_sending_30 hd_116 (by decide) (by omega) hk ?_
  refine rz_bipush dX12_sending_31 (by decide) ?_
  refine rz_icmp_ne (t := 58) dX12_sending_33 rfl (by omega) (by omega) (fun q => absurd q (by decide)) (fun _ => ?_)
  refine rz_aload_n dX12_sending_36 rfl ?_
  refine rz_bipush dX12_sending_37 (by decide) ?_
  refine rz_cVV dX12_sending_39 kl_RX12_380 hd_81 ⟨_, _, rfl⟩ (c_X12_ran X _ I J 80 (by (try simp only [trM_R, stM_R, trR_R, stR_R, List.length_cons, List.length_nil]); omega)) rfl rfl (Nat.le_of_ble_eq_true rfl) (Nat.le_of_ble_eq_true rfl) ?_
  refine rz_aload_n dX12_sending_42 rfl ?_
  refine rz_iload_n dX12_sending_43 rfl ?_
  refine rz_iload_n dX12_sending_44 rfl ?_
  refine rz_cVI dX12_sending_45 kl_RX12_395 hd_81 ⟨_, _, rfl⟩ (c_X12_plainSends_7 X _ (stR I 80) J b x (by (try simp only [trM_R, stM_R, trR_R, stR_R, List.length_cons, List.length_nil]); omega) hk hb) rfl rfl (Nat.le_of_ble_eq_true rfl) (Nat.le_of_ble_eq_true rfl) ?_
  refine rz_istore_n dX12_sending_48 (by decide) rfl ?_
  refine rz_iload_n dX12_sending_49 rfl ?_
  refine rz_aload_n dX12_sending_50 rfl ?_
  refine rz_iload_n dX12_sending_51 rfl ?_
  refine rz_iconst dX12_sending_52 ?_
  refine rz_cVI dX12_sending_53 kl_RX12_401 hd_81 ⟨_, _, rfl⟩ (c_X12_winning_7 X _ (trR (stR I 80) [10, 81, 70, 1]) J b 2 (by (try simp only [trM_R, stM_R, trR_R, stR_R, List.length_cons, List.length_nil]); omega) hk hb) rfl rfl (Nat.le_of_ble_eq_true rfl) (Nat.le_of_ble_eq_true rfl) ?_
  refine rz_iadd dX12_sending_56 ?_
  refine rz_iret dX12_sending_57 rfl ?_
  exact ⟨_, rfl, rfl, rfl, rfl⟩
set_option maxRecDepth 20000 in
set_option maxHeartbeats 400000 in
theorem c_act_7_1 (X : pX) (h : Nat) (I J : IM) (b x : Int) (hb : 0 ≤ b ∧ b ≤ I 81 51 - 1) (h5 : I 81 51 ≤ 50) (hk : I 116 b.toNat = 7) : KI X (h + 6) mX12_act [.ref 81, zi b, zi 1, zi x] I J ((((((x + b) * 2) - 1) * 2) + (xorZ 2 b))) (trR (upA I 81 (up1 (I 81) 53 0)) [80, 10, 81, 70, 1, 11]) J := by
  show Rz X (h + 6) mX12_act 0 [some (.ref 81), some (zi b), some (zi 1), some (zi x)] [] I J _
  refine rz_aload_n dX12_act_0 rfl ?_
  refine rz_iconst dX12_act_1 ?_
  refine rz_putI dX12_act_2 kp_RX12_377 hd_81 rfl ?_
  refine rz_mem (I' := (upA I 81 (up1 (I 81) 53 0))) (J' := J) (rfl) (rfl) ?_
  refine rz_aload_n dX12_act_5 rfl ?_
  refine rz_iload_n dX12_act_6 rfl ?_
  refine rz_cVIq dX12_act_7 kl_RX12_416 hd_81 ⟨_, _, rfl⟩ (c_X12_isBody X _ (upA I 81 (up1 (I 81) 53 0)) J b (by omega) (by show 0 ≤ I 81 51 ∧ I 81 51 ≤ 50; omega)) rfl rfl (Nat.le_of_ble_eq_true rfl) (Nat.le_of_ble_eq_true rfl) ?_
  rintro z7 A7 B7 ⟨⟨rfl, b7⟩ | ⟨rfl, b7⟩, rfl, rfl⟩
  · refine rz_if_eq (t := 22) dX12_act_10 rfl (by omega) (fun q => absurd q (by decide)) (fun _ => ?_)
    refine rz_iload_n dX12_act_13 rfl ?_
    refine rz_iconst dX12_act_14 ?_
    refine rz_iconst dX12_act_15 ?_
    refine rz_cSIq dX12_act_16 kl_RX12_140 (c_X12_in X _ (upA I 81 (up1 (I 81) 53 0)) J 1 0 3 (by omega) (by omega) (by omega)) rfl rfl (Nat.le_of_ble_eq_true rfl) (Nat.le_of_ble_eq_true rfl) ?_
    rintro z16 A16 B16 ⟨⟨rfl, b16⟩ | ⟨rfl, b16⟩, rfl, rfl⟩
    · refine rz_if_ne (t := 24) dX12_act_19 rfl (by omega) (fun _ => ?_) (fun q => absurd q (by decide))
      refine rz_iload_n dX12_act_24 rfl ?_
      refine rz_if_ne (t := 37) dX12_act_25 rfl (by omega) (fun _ => ?_) (fun q => absurd q (by decide))
      refine rz_iload_n dX12_act_37 rfl ?_
      refine rz_iconst dX12_act_38 ?_
      refine rz_icmp_ne (t := 51) dX12_act_39 rfl (by omega) (by omega) (fun q => absurd q (by decide)) (fun _ => ?_)
      refine rz_aload_n dX12_act_42 rfl ?_
      refine rz_iload_n dX12_act_43 rfl ?_
      refine rz_iload_n dX12_act_44 rfl ?_
      refine rz_cVI dX12_act_45 kl_RX12_407 hd_81 ⟨_, _, rfl⟩ (c_X12_sending_7 X _ (upA I 81 (up1 (I 81) 53 0)) J b x (by show (0 : Int) ≤ 0 ∧ (0 : Int) ≤ _; omega) hk (by omega)) rfl rfl (Nat.le_of_ble_eq_true rfl) (Nat.le_of_ble_eq_true rfl) ?_
      refine rz_goto (t := 71) dX12_act_48 rfl ?_
      refine rz_iret dX12_act_71 rfl ?_
      exact ⟨_, rfl, rfl, rfl, rfl⟩
    · exfalso; omega
  · exact absurd (show 0 ≤ b ∧ b ≤ I 81 51 - 1 by omega) b7
set_option maxRecDepth 20000 in
set_option maxHeartbeats 400000 in
theorem c_act_7_2 (X : pX) (h : Nat) (I J : IM) (b x : Int) (hb : 0 ≤ b ∧ b ≤ I 81 51 - 1) (h5 : I 81 51 ≤ 50) (hk : I 116 b.toNat = 7) : KI X (h + 3) mX12_act [.ref 81, zi b, zi 2, zi x] I J ((xorZ x b)) (trR (upA I 81 (up1 (I 81) 53 0)) [11]) J := by
  show Rz X (h + 3) mX12_act 0 [some (.ref 81), some (zi b), some (zi 2), some (zi x)] [] I J _
  refine rz_aload_n dX12_act_0 rfl ?_
  refine rz_iconst dX12_act_1 ?_
  refine rz_putI dX12_act_2 kp_RX12_377 hd_81 rfl ?_
  refine rz_mem (I' := (upA I 81 (up1 (I 81) 53 0))) (J' := J) (rfl) (rfl) ?_
  refine rz_aload_n dX12_act_5 rfl ?_
  refine rz_iload_n dX12_act_6 rfl ?_
  refine rz_cVIq dX12_act_7 kl_RX12_416 hd_81 ⟨_, _, rfl⟩ (c_X12_isBody X _ (upA I 81 (up1 (I 81) 53 0)) J b (by omega) (by show 0 ≤ I 81 51 ∧ I 81 51 ≤ 50; omega)) rfl rfl (Nat.le_of_ble_eq_true rfl) (Nat.le_of_ble_eq_true rfl) ?_
  rintro z7 A7 B7 ⟨⟨rfl, b7⟩ | ⟨rfl, b7⟩, rfl, rfl⟩
  · refine rz_if_eq (t := 22) dX12_act_10 rfl (by omega) (fun q => absurd q (by decide)) (fun _ => ?_)
    refine rz_iload_n dX12_act_13 rfl ?_
    refine rz_iconst dX12_act_14 ?_
    refine rz_iconst dX12_act_15 ?_
    refine rz_cSIq dX12_act_16 kl_RX12_140 (c_X12_in X _ (upA I 81 (up1 (I 81) 53 0)) J 2 0 3 (by omega) (by omega) (by omega)) rfl rfl (Nat.le_of_ble_eq_true rfl) (Nat.le_of_ble_eq_true rfl) ?_
    rintro z16 A16 B16 ⟨⟨rfl, b16⟩ | ⟨rfl, b16⟩, rfl, rfl⟩
    · refine rz_if_ne (t := 24) dX12_act_19 rfl (by omega) (fun _ => ?_) (fun q => absurd q (by decide))
      refine rz_iload_n dX12_act_24 rfl ?_
      refine rz_if_ne (t := 37) dX12_act_25 rfl (by omega) (fun _ => ?_) (fun q => absurd q (by decide))
      refine rz_iload_n dX12_act_37 rfl ?_
      refine rz_iconst dX12_act_38 ?_
      refine rz_icmp_ne (t := 51) dX12_act_39 rfl (by omega) (by omega) (fun _ => ?_) (fun q => absurd q (by decide))
      refine rz_iload_n dX12_act_51 rfl ?_
      refine rz_iconst dX12_act_52 ?_
      refine rz_icmp_ne (t := 65) dX12_act_53 rfl (by omega) (by omega) (fun q => absurd q (by decide)) (fun _ => ?_)
      refine rz_aload_n dX12_act_56 rfl ?_
      refine rz_iload_n dX12_act_57 rfl ?_
      refine rz_iload_n dX12_act_58 rfl ?_
      refine rz_cVI dX12_act_59 kl_RX12_401 hd_81 ⟨_, _, rfl⟩ (c_X12_winning_7 X _ (upA I 81 (up1 (I 81) 53 0)) J b x (by show (0 : Int) ≤ 0 ∧ (0 : Int) ≤ _; omega) hk (by omega)) rfl rfl (Nat.le_of_ble_eq_true rfl) (Nat.le_of_ble_eq_true rfl) ?_
      refine rz_goto (t := 71) dX12_act_62 rfl ?_
      refine rz_iret dX12_act_71 rfl ?_
      exact ⟨_, rfl, rfl, rfl, rfl⟩
    · exfalso; omega
  · exact absurd (show 0 ≤ b ∧ b ≤ I 81 51 - 1 by omega) b7
set_option maxRecDepth 20000 in
set_option maxHeartbeats 400000 in
theorem c_X12_plainLearns_7 (X : pX) (h : Nat) (I J : IM) (b x : Int) (hR : 0 ≤ I 81 53 ∧ I 81 53 ≤ 16) (hk : I 116 b.toNat = 7) (hb : 0 ≤ b ∧ b < 50) : KI X (h + 6) mX12_plainLearns [.ref 81, zi b, zi x] I J (((((((x + b) * 2) - 1) * 2) + (xorZ 2 b)) - (xorZ 1 b))) (trR I [2, 80, 10, 81, 70, 1, 11, 11]) J := by
  show Rz X (h + 6) mX12_plainLearns 0 [some (.ref 81), some (zi b), some (zi x), none] [] I J _
  refine rz_aload_n dX12_plainLearns_0 rfl ?_
  refine rz_iconst dX12_plainLearns_1 ?_
  refine rz_cVV dX12_plainLearns_2 kl_RX12_380 hd_81 ⟨_, _, rfl⟩ (c_X12_ran X _ I J 2 (by (try simp only [trM_R, stM_R, trR_R, stR_R, List.length_cons, List.length_nil]); omega)) rfl rfl (Nat.le_of_ble_eq_true rfl) (Nat.le_of_ble_eq_true rfl) ?_
  refine rz_aload_n dX12_plainLearns_5 rfl ?_
  refine rz_iload_n dX12_plainLearns_6 rfl ?_
  refine rz_iload_n dX12_plainLearns_7 rfl ?_
  refine rz_cVI dX12_plainLearns_8 kl_RX12_407 hd_81 ⟨_, _, rfl⟩ (c_X12_sending_7 X _ (stR I 2) J b x (by (try simp only [trM_R, stM_R, trR_R, stR_R, List.length_cons, List.length_nil]); omega) hk hb) rfl rfl (Nat.le_of_ble_eq_true rfl) (Nat.le_of_ble_eq_true rfl) ?_
  refine rz_istore_n dX12_plainLearns_11 (by decide) rfl ?_
  refine rz_iload_n dX12_plainLearns_12 rfl ?_
  refine rz_aload_n dX12_plainLearns_13 rfl ?_
  refine rz_iload_n dX12_plainLearns_14 rfl ?_
  refine rz_iconst dX12_plainLearns_15 ?_
  refine rz_cVI dX12_plainLearns_16 kl_RX12_401 hd_81 ⟨_, _, rfl⟩ (c_X12_winning_7 X _ (trR (stR I 2) [80, 10, 81, 70, 1, 11]) J b 1 (by (try simp only [trM_R, stM_R, trR_R, stR_R, List.length_cons, List.length_nil]); omega) hk hb) rfl rfl (Nat.le_of_ble_eq_true rfl) (Nat.le_of_ble_eq_true rfl) ?_
  refine rz_isub dX12_plainLearns_19 ?_
  refine rz_iret dX12_plainLearns_20 rfl ?_
  exact ⟨_, rfl, rfl, rfl, rfl⟩
set_option maxRecDepth 20000 in
set_option maxHeartbeats 400000 in
theorem c_X12_learning_7 (X : pX) (h : Nat) (I J : IM) (b x : Int) (hR : 0 ≤ I 81 53 ∧ I 81 53 ≤ 16) (hk : I 116 b.toNat = 7) (hb : 0 ≤ b ∧ b < 50) : KI X (h + 7) mX12_learning [.ref 81, zi b, zi x] I J (((((((x + b) * 2) - 1) * 2) + (xorZ 2 b)) - (xorZ 1 b))) (trR I [2, 80, 10, 81, 70, 1, 11, 11]) J := by
  show Rz X (h + 7) mX12_learning 0 [some (.ref 81), some (zi b), some (zi x)] [] I J _
  refine rz_aload_n dX12_learning_0 rfl ?_
  refine rz_getR dX12_learning_1 kf_RX12_114 hd_81 rfl rr_81_52 ?_
  refine rz_iload_n dX12_learning_4 rfl ?_
  refine rz_iald (z := 7) dX12_learning_5 hd_116 (by decide) (by omega) hk ?_
  refine rz_iconst dX12_learning_6 ?_
  refine rz_icmp_ne (t := 25) dX12_learning_7 rfl (by omega) (by omega) (fun _ => ?_) (fun q => absurd q (by decide))
  refine rz_aload_n dX12_learning_25 rfl ?_
  refine rz_getR dX12_learning_26 kf_RX12_114 hd_81 rfl rr_81_52 ?_
  refine rz_iload_n dX12_learning_29 rfl ?_
  refine rz_iald (z := 7) dX12_learning_30 hd_116 (by decide) (by omega) hk ?_
  refine rz_iconst dX12_learning_31 ?_
  refine rz_icmp_ne (t := 44) dX12_learning_32 rfl (by omega) (by omega) (fun _ => ?_) (fun q => absurd q (by decide))
  refine rz_aload_n dX12_learning_44 rfl ?_
  refine rz_iload_n dX12_learning_45 rfl ?_
  refine rz_iload_n dX12_learning_46 rfl ?_
  refine rz_cVI dX12_learning_47 kl_RX12_410 hd_81 ⟨_, _, rfl⟩ (c_X12_plainLearns_7 X _ I J b x (by (try simp only [trM_R, stM_R, trR_R, stR_R, List.length_cons, List.length_nil]); omega) hk hb) rfl rfl (Nat.le_of_ble_eq_true rfl) (Nat.le_of_ble_eq_true rfl) ?_
  refine rz_iret dX12_learning_50 rfl ?_
  exact ⟨_, rfl, rfl, rfl, rfl⟩
set_option maxRecDepth 20000 in
set_option maxHeartbeats 400000 in
theorem c_act_7_3 (X : pX) (h : Nat) (I J : IM) (b x : Int) (hb : 0 ≤ b ∧ b ≤ I 81 51 - 1) (h5 : I 81 51 ≤ 50) (hk : I 116 b.toNat = 7) : KI X (h + 8) mX12_act [.ref 81, zi b, zi 3, zi x] I J (((((((x + b) * 2) - 1) * 2) + (xorZ 2 b)) - (xorZ 1 b))) (trR (upA I 81 (up1 (I 81) 53 0)) [2, 80, 10, 81, 70, 1, 11, 11]) J := by
  show Rz X (h + 8) mX12_act 0 [some (.ref 81), some (zi b), some (zi 3), some (zi x)] [] I J _
  refine rz_aload_n dX12_act_0 rfl ?_
  refine rz_iconst dX12_act_1 ?_
  refine rz_putI dX12_act_2 kp_RX12_377 hd_81 rfl ?_
  refine rz_mem (I' := (upA I 81 (up1 (I 81) 53 0))) (J' := J) (rfl) (rfl) ?_
  refine rz_aload_n dX12_act_5 rfl ?_
  refine rz_iload_n dX12_act_6 rfl ?_
  refine rz_cVIq dX12_act_7 kl_RX12_416 hd_81 ⟨_, _, rfl⟩ (c_X12_isBody X _ (upA I 81 (up1 (I 81) 53 0)) J b (by omega) (by show 0 ≤ I 81 51 ∧ I 81 51 ≤ 50; omega)) rfl rfl (Nat.le_of_ble_eq_true rfl) (Nat.le_of_ble_eq_true rfl) ?_
  rintro z7 A7 B7 ⟨⟨rfl, b7⟩ | ⟨rfl, b7⟩, rfl, rfl⟩
  · refine rz_if_eq (t := 22) dX12_act_10 rfl (by omega) (fun q => absurd q (by decide)) (fun _ => ?_)
    refine rz_iload_n dX12_act_13 rfl ?_
    refine rz_iconst dX12_act_14 ?_
    refine rz_iconst dX12_act_15 ?_
    refine rz_cSIq dX12_act_16 kl_RX12_140 (c_X12_in X _ (upA I 81 (up1 (I 81) 53 0)) J 3 0 3 (by omega) (by omega) (by omega)) rfl rfl (Nat.le_of_ble_eq_true rfl) (Nat.le_of_ble_eq_true rfl) ?_
    rintro z16 A16 B16 ⟨⟨rfl, b16⟩ | ⟨rfl, b16⟩, rfl, rfl⟩
    · refine rz_if_ne (t := 24) dX12_act_19 rfl (by omega) (fun _ => ?_) (fun q => absurd q (by decide))
      refine rz_iload_n dX12_act_24 rfl ?_
      refine rz_if_ne (t := 37) dX12_act_25 rfl (by omega) (fun _ => ?_) (fun q => absurd q (by decide))
      refine rz_iload_n dX12_act_37 rfl ?_
      refine rz_iconst dX12_act_38 ?_
      refine rz_icmp_ne (t := 51) dX12_act_39 rfl (by omega) (by omega) (fun _ => ?_) (fun q => absurd q (by decide))
      refine rz_iload_n dX12_act_51 rfl ?_
      refine rz_iconst dX12_act_52 ?_
      refine rz_icmp_ne (t := 65) dX12_act_53 rfl (by omega) (by omega) (fun _ => ?_) (fun q => absurd q (by decide))
      refine rz_aload_n dX12_act_65 rfl ?_
      refine rz_iload_n dX12_act_66 rfl ?_
      refine rz_iload_n dX12_act_67 rfl ?_
      refine rz_cVI dX12_act_68 kl_RX12_419 hd_81 ⟨_, _, rfl⟩ (c_X12_learning_7 X _ (upA I 81 (up1 (I 81) 53 0)) J b x (by show (0 : Int) ≤ 0 ∧ (0 : Int) ≤ _; omega) hk (by omega)) rfl rfl (Nat.le_of_ble_eq_true rfl) (Nat.le_of_ble_eq_true rfl) ?_
      refine rz_iret dX12_act_71 rfl ?_
      exact ⟨_, rfl, rfl, rfl, rfl⟩
    · exfalso; omega
  · exact absurd (show 0 ≤ b ∧ b ≤ I 81 51 - 1 by omega) b7
