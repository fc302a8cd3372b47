/-! the reference's villages and changes -/
def villR (I : IM) (w t : Int) : IM := if (1 ≤ w ∧ w ≤ 9 ∧ 0 ≤ t ∧ t ≤ 99 ∧ t % 10 ≤ 2) ∧ I 81 1 < 5 then upA (upA (upA (upA I 82 (up1 (I 82) (I 81 1).toNat w)) 83 (up1 (I 83) (I 81 1).toNat (t / 10))) 84 (up1 (I 84) (I 81 1).toNat (t % 10))) 81 (up1 (I 81) 1 (I 81 1 + 1)) else I
set_option maxRecDepth 20000 in
set_option maxHeartbeats 400000 in
theorem c_X12_village (X : pX) (h : Nat) (I J : IM) (w t : Int) (hw : rg w) (ht : rg t) (hv : 0 ≤ I 81 1 ∧ I 81 1 ≤ 5) : KI X (h + 1) mX12_village [.ref 81, zi w, zi t] I J (villZ (I 81 1) w t) (villR I w t) J := by
  show Rz X (h + 1) mX12_village 0 [some (.ref 81), some (zi w), some (zi t)] [] I J _
  refine rz_iload_n dX12_village_0 rfl ?_
  refine rz_iconst dX12_village_1 ?_
  refine rz_bipush dX12_village_2 (by decide) ?_
  refine rz_cSIq dX12_village_4 kl_RX12_140 (c_X12_in X _ I J w 1 9 (by omega) (by omega) (by omega)) rfl rfl (Nat.le_of_ble_eq_true rfl) (Nat.le_of_ble_eq_true rfl) ?_
  rintro z4 A4 B4 ⟨⟨rfl, b4⟩ | ⟨rfl, b4⟩, rfl, rfl⟩
  · refine rz_if_eq (t := 28) dX12_village_7 rfl (by omega) (fun q => absurd q (by decide)) (fun _ => ?_)
    refine rz_iload_n dX12_village_10 rfl ?_
    refine rz_iconst dX12_village_11 ?_
    refine rz_bipush dX12_village_12 (by decide) ?_
    refine rz_cSIq dX12_village_14 kl_RX12_140 (c_X12_in X _ I J t 0 99 (by omega) (by omega) (by omega)) rfl rfl (Nat.le_of_ble_eq_true rfl) (Nat.le_of_ble_eq_true rfl) ?_
    rintro z14 A14 B14 ⟨⟨rfl, b14⟩ | ⟨rfl, b14⟩, rfl, rfl⟩
    · refine rz_if_eq (t := 28) dX12_village_17 rfl (by omega) (fun q => absurd q (by decide)) (fun _ => ?_)
      refine rz_iload_n dX12_village_20 rfl ?_
      refine rz_bipush dX12_village_21 (by decide) ?_
      refine rz_irem dX12_village_23 (by omega) (by omega) ?_
      refine rz_iconst dX12_village_24 ?_
      refine rz_icmp_le (t := 30) dX12_village_25 rfl (by omega) (by omega) (fun c25 => ?_) (fun c25 => ?_)
      · refine rz_aload_n dX12_village_30 rfl ?_
        refine rz_getI (z := (I 81 1)) dX12_village_31 kf_RX12_137 hd_81 rfl rfl ?_
        refine rz_iconst dX12_village_34 ?_
        refine rz_icmp_ne (t := 41) dX12_village_35 rfl (by omega) (by omega) (fun c35 => ?_) (fun c35 => ?_)
        · refine rz_aload_n dX12_village_41 rfl ?_
          refine rz_getR dX12_village_42 kf_RX12_7 hd_81 rfl rr_81_2 ?_
          refine rz_aload_n dX12_village_45 rfl ?_
          refine rz_getI (z := (I 81 1)) dX12_village_46 kf_RX12_137 hd_81 rfl rfl ?_
          refine rz_iload_n dX12_village_49 rfl ?_
          refine rz_iast dX12_village_50 hd_82 (by decide) (by omega) ?_
          refine rz_aload_n dX12_village_51 rfl ?_
          refine rz_getR dX12_village_52 kf_RX12_13 hd_81 rfl rr_81_3 ?_
          refine rz_aload_n dX12_village_55 rfl ?_
          refine rz_getI (z := (I 81 1)) dX12_village_56 kf_RX12_137 hd_81 rfl rfl ?_
          refine rz_iload_n dX12_village_59 rfl ?_
          refine rz_bipush dX12_village_60 (by decide) ?_
          refine rz_idiv dX12_village_62 (by omega) (by omega) ?_
          refine rz_iast dX12_village_63 hd_83 (by decide) (by omega) ?_
          refine rz_aload_n dX12_village_64 rfl ?_
          refine rz_getR dX12_village_65 kf_RX12_16 hd_81 rfl rr_81_4 ?_
          refine rz_aload_n dX12_village_68 rfl ?_
          refine rz_getI (z := (I 81 1)) dX12_village_69 kf_RX12_137 hd_81 rfl rfl ?_
          refine rz_iload_n dX12_village_72 rfl ?_
          refine rz_bipush dX12_village_73 (by decide) ?_
          refine rz_irem dX12_village_75 (by omega) (by omega) ?_
          refine rz_iast dX12_village_76 hd_84 (by decide) (by omega) ?_
          refine rz_aload_n dX12_village_77 rfl ?_
          refine rz_dup dX12_village_78 rfl ?_
          refine rz_getI (z := (I 81 1)) dX12_village_79 kf_RX12_137 hd_81 rfl rfl ?_
          refine rz_iconst dX12_village_82 ?_
          refine rz_iadd dX12_village_83 ?_
          refine rz_putI dX12_village_84 kp_RX12_137 hd_81 rfl ?_
          refine rz_aload_n dX12_village_87 rfl ?_
          refine rz_getI (z := ((I 81 1) + 1)) dX12_village_88 kf_RX12_137 hd_81 rfl rfl ?_
          refine rz_iconst dX12_village_91 ?_
          refine rz_isub dX12_village_92 ?_
          refine rz_iret dX12_village_93 rfl ?_
          exact ⟨_, rfl, by unfold villZ; split <;> (try split) <;> omega, by unfold villR; split <;> first | rfl | omega, rfl⟩
        · refine rz_bipush dX12_village_38 (by decide) ?_
          refine rz_iret dX12_village_40 rfl ?_
          exact ⟨_, rfl, by unfold villZ; split <;> (try split) <;> omega, by unfold villR; split <;> first | rfl | omega, rfl⟩
      · refine rz_iconst dX12_village_28 ?_
        refine rz_iret dX12_village_29 rfl ?_
        exact ⟨_, rfl, by unfold villZ; split <;> (try split) <;> omega, by unfold villR; split <;> first | rfl | omega, rfl⟩
    · refine rz_if_eq (t := 28) dX12_village_17 rfl (by omega) (fun _ => ?_) (fun q => absurd q (by decide))
      refine rz_iconst dX12_village_28 ?_
      refine rz_iret dX12_village_29 rfl ?_
      exact ⟨_, rfl, by unfold villZ; split <;> (try split) <;> omega, by unfold villR; split <;> first | rfl | omega, rfl⟩
  · refine rz_if_eq (t := 28) dX12_village_7 rfl (by omega) (fun _ => ?_) (fun q => absurd q (by decide))
    refine rz_iconst dX12_village_28 ?_
    refine rz_iret dX12_village_29 rfl ?_
    exact ⟨_, rfl, by unfold villZ; split <;> (try split) <;> omega, by unfold villR; split <;> first | rfl | omega, rfl⟩
def valR (I : IM) (n w : Int) : Int := if w = 0 then I 85 n.toNat else if w = 1 then I 82 n.toNat else I 83 n.toNat
def laysM (I : IM) (w n v : Int) : IM := if w = 0 then upA I 85 (up1 (I 85) n.toNat v) else if w = 1 then upA I 82 (up1 (I 82) n.toNat v) else upA I 83 (up1 (I 83) n.toNat v)
set_option maxRecDepth 20000 in
set_option maxHeartbeats 400000 in
theorem c_X12_valueAt (X : pX) (h : Nat) (I J : IM) (w n : Int) (hw : rg w) (hn : 0 ≤ n ∧ n < 5) (h0 : w = 0 → n < 2) : KI X h mX12_valueAt [.ref 81, zi w, zi n] I J (valR I n w) I J := by
  show Rz X h mX12_valueAt 0 [some (.ref 81), some (zi w), some (zi n)] [] I J _
  refine rz_iload_n dX12_valueAt_0 rfl ?_
  refine rz_if_ne (t := 13) dX12_valueAt_1 rfl (by omega) (fun c1 => ?_) (fun c1 => ?_)
  · refine rz_iload_n dX12_valueAt_13 rfl ?_
    refine rz_iconst dX12_valueAt_14 ?_
    refine rz_icmp_ne (t := 27) dX12_valueAt_15 rfl (by omega) (by omega) (fun c15 => ?_) (fun c15 => ?_)
    · refine rz_aload_n dX12_valueAt_27 rfl ?_
      refine rz_getR dX12_valueAt_28 kf_RX12_13 hd_81 rfl rr_81_3 ?_
      refine rz_iload_n dX12_valueAt_31 rfl ?_
      refine rz_iald (z := (I 83 (n).toNat)) dX12_valueAt_32 hd_83 (by decide) (by omega) rfl ?_
      refine rz_iret dX12_valueAt_33 rfl ?_
      exact ⟨_, rfl, by simp [valR, *], rfl, rfl⟩
    · refine rz_aload_n dX12_valueAt_18 rfl ?_
      refine rz_getR dX12_valueAt_19 kf_RX12_7 hd_81 rfl rr_81_2 ?_
      refine rz_iload_n dX12_valueAt_22 rfl ?_
      refine rz_iald (z := (I 82 (n).toNat)) dX12_valueAt_23 hd_82 (by decide) (by omega) rfl ?_
      refine rz_goto (t := 33) dX12_valueAt_24 rfl ?_
      refine rz_iret dX12_valueAt_33 rfl ?_
      exact ⟨_, rfl, by simp [valR, *], rfl, rfl⟩
  · refine rz_aload_n dX12_valueAt_4 rfl ?_
    refine rz_getR dX12_valueAt_5 kf_RX12_19 hd_81 rfl rr_81_5 ?_
    refine rz_iload_n dX12_valueAt_8 rfl ?_
    refine rz_iald (z := (I 85 (n).toNat)) dX12_valueAt_9 hd_85 (by decide) (by omega) rfl ?_
    refine rz_goto (t := 33) dX12_valueAt_10 rfl ?_
    refine rz_iret dX12_valueAt_33 rfl ?_
    exact ⟨_, rfl, by simp [valR, *], rfl, rfl⟩
set_option maxRecDepth 20000 in
set_option maxHeartbeats 400000 in
theorem c_X12_lays (X : pX) (h : Nat) (I J : IM) (w n v : Int) (hw : rg w) (hn : 0 ≤ n ∧ n < 5) (h0 : w = 0 → n < 2) : KV X h mX12_lays [.ref 81, zi w, zi n, zi v] I J (laysM I w n v) J := by
  show Rz X h mX12_lays 0 [some (.ref 81), some (zi w), some (zi n), some (zi v)] [] I J _
  refine rz_iload_n dX12_lays_0 rfl ?_
  refine rz_if_ne (t := 14) dX12_lays_1 rfl (by omega) (fun c1 => ?_) (fun c1 => ?_)
  · refine rz_iload_n dX12_lays_14 rfl ?_
    refine rz_iconst dX12_lays_15 ?_
    refine rz_icmp_ne (t := 29) dX12_lays_16 rfl (by omega) (by omega) (fun c16 => ?_) (fun c16 => ?_)
    · refine rz_aload_n dX12_lays_29 rfl ?_
      refine rz_getR dX12_lays_30 kf_RX12_13 hd_81 rfl rr_81_3 ?_
      refine rz_iload_n dX12_lays_33 rfl ?_
      refine rz_iload_n dX12_lays_34 rfl ?_
      refine rz_iast dX12_lays_35 hd_83 (by decide) (by omega) ?_
      refine rz_vret dX12_lays_36 rfl ?_
      exact ⟨rfl, by simp [laysM, *], rfl⟩
    · refine rz_aload_n dX12_lays_19 rfl ?_
      refine rz_getR dX12_lays_20 kf_RX12_7 hd_81 rfl rr_81_2 ?_
      refine rz_iload_n dX12_lays_23 rfl ?_
      refine rz_iload_n dX12_lays_24 rfl ?_
      refine rz_iast dX12_lays_25 hd_82 (by decide) (by omega) ?_
      refine rz_goto (t := 36) dX12_lays_26 rfl ?_
      refine rz_vret dX12_lays_36 rfl ?_
      exact ⟨rfl, by simp [laysM, *], rfl⟩
  · refine rz_aload_n dX12_lays_4 rfl ?_
    refine rz_getR dX12_lays_5 kf_RX12_19 hd_81 rfl rr_81_5 ?_
    refine rz_iload_n dX12_lays_8 rfl ?_
    refine rz_iload_n dX12_lays_9 rfl ?_
    refine rz_iast dX12_lays_10 hd_85 (by decide) (by omega) ?_
    refine rz_goto (t := 36) dX12_lays_11 rfl ?_
    refine rz_vret dX12_lays_36 rfl ?_
    exact ⟨rfl, by simp [laysM, *], rfl⟩
def shM (I : IM) (v : Nat) : IM := fun a k => if 89 ≤ a ∧ a ≤ 92 ∧ k < v then I a (k + 1) else I a k
theorem shM_step {I : IM} {v : Nat} : shM I (v + 1) = upA (upA (upA (upA (shM I v) 89 (up1 (shM I v 89) v (shM I v 89 (v + 1)))) 90 (up1 (shM I v 90) v (shM I v 90 (v + 1)))) 91 (up1 (shM I v 91) v (shM I v 91 (v + 1)))) 92 (up1 (shM I v 92) v (shM I v 92 (v + 1))) := by
  funext a k
  have e : ∀ b, shM I v b (v + 1) = I b (v + 1) := fun b => by unfold shM; rw [if_neg (by omega)]
  simp only [e]
  unfold upA up1 shM
  by_cases h1 : a = 92
  · subst h1; by_cases h2 : k = v
    · subst h2; simp
    · by_cases h3 : k < v
      · simp [h2, h3, Nat.lt_succ_of_lt h3]
      · simp [h2, h3, show ¬ k < v + 1 by omega]
  by_cases h1 : a = 91
  · subst h1; by_cases h2 : k = v
    · subst h2; simp
    · by_cases h3 : k < v
      · simp [h2, h3, Nat.lt_succ_of_lt h3]
      · simp [h2, h3, show ¬ k < v + 1 by omega]
  by_cases h1 : a = 90
  · subst h1; by_cases h2 : k = v
    · subst h2; simp
    · by_cases h3 : k < v
      · simp [h2, h3, Nat.lt_succ_of_lt h3]
      · simp [h2, h3, show ¬ k < v + 1 by omega]
  by_cases h1 : a = 89
  · subst h1; by_cases h2 : k = v
    · subst h2; simp
    · by_cases h3 : k < v
      · simp [h2, h3, Nat.lt_succ_of_lt h3]
      · simp [h2, h3, show ¬ k < v + 1 by omega]
  have h5 : ¬ (89 ≤ a ∧ a ≤ 92) := by omega
  rw [if_neg (fun q => h5 ⟨q.1, q.2.1⟩), if_neg (by omega), if_neg (by omega), if_neg (by omega), if_neg (by omega), if_neg (fun q => h5 ⟨q.1, q.2.1⟩)]
theorem shM_0 {I : IM} : shM I 0 = I := by
  funext a k
  unfold shM
  rw [if_neg (by omega)]
theorem shM_out {I : IM} {v a : Nat} (h : a < 89 ∨ 92 < a) : shM I v a = I a := by
  funext k
  unfold shM
  rw [if_neg (by omega)]
def chR0 (I : IM) : IM := upA I 81 (up1 (I 81) 10 0)
def chR1 (I : IM) : IM := upA (shM (chR0 I) 39) 81 (up1 (shM (chR0 I) 39 81) 9 (shM (chR0 I) 39 81 9 - 1))
def chR2 (I : IM) (w n a v : Int) : IM := upA (upA (upA (upA (upA I 89 (up1 (I 89) (I 81 9).toNat w)) 90 (up1 (I 90) (I 81 9).toNat n)) 91 (up1 (I 91) (I 81 9).toNat a)) 92 (up1 (I 92) (I 81 9).toNat v)) 81 (up1 (I 81) 9 (I 81 9 + 1))
def chR (I : IM) (w n v : Int) : IM := if valR I n w = v then I else laysM (chR2 (if I 81 9 = 40 then chR1 I else chR0 I) w n (valR I n w) v) w n v
theorem chR_eq {I : IM} {w n v : Int} (h : valR I n w = v) : chR I w n v = I := if_pos h
theorem chR_a {I : IM} {w n v : Int} (h : valR I n w ≠ v) (h2 : I 81 9 ≠ 40) : chR I w n v = laysM (chR2 (chR0 I) w n (valR I n w) v) w n v := by
  unfold chR; rw [if_neg h, if_neg h2]
theorem chR_b {I : IM} {w n v : Int} (h : valR I n w ≠ v) (h2 : I 81 9 = 40) : chR I w n v = laysM (chR2 (chR1 I) w n (valR I n w) v) w n v := by
  unfold chR; rw [if_neg h, if_pos h2]
theorem valR_bd {I : IM} {w n : Int} (hr : (∀ v : Nat, v < 5 → (0 ≤ I 82 v ∧ I 82 v ≤ 9) ∧ 0 ≤ I 83 v ∧ I 83 v ≤ 9) ∧ ∀ b : Nat, b < 2 → 0 ≤ I 85 b ∧ I 85 b ≤ 9) (hn : 0 ≤ n ∧ n < 5) (h0 : w = 0 → n < 2) : 0 ≤ valR I n w ∧ valR I n w ≤ 9 := by
  unfold valR
  have := hr.1 n.toNat (by omega)
  split
  · exact hr.2 n.toNat (by omega)
  · split
    · exact this.1
    · exact this.2
set_option maxRecDepth 20000 in
set_option maxHeartbeats 400000 in
theorem c_X12_changes (X : pX) (h : Nat) (I J : IM) (w n v : Int) (hw : rg w) (hvv : rg v) (hn : 0 ≤ n ∧ n < 5) (h0 : w = 0 → n < 2) (hd : 0 ≤ I 81 9 ∧ I 81 9 ≤ 40) (hr : (∀ v : Nat, v < 5 → (0 ≤ I 82 v ∧ I 82 v ≤ 9) ∧ 0 ≤ I 83 v ∧ I 83 v ≤ 9) ∧ ∀ b : Nat, b < 2 → 0 ≤ I 85 b ∧ I 85 b ≤ 9) : KI X (h + 1) mX12_changes [.ref 81, zi w, zi n, zi v] I J (valR I n w) (chR I w n v) J := by
  show Rz X (h + 1) mX12_changes 0 [some (.ref 81), some (zi w), some (zi n), some (zi v), none, none] [] I J _
  have hb := valR_bd hr hn h0
  refine rz_aload_n dX12_changes_0 rfl ?_
  refine rz_iload_n dX12_changes_1 rfl ?_
  refine rz_iload_n dX12_changes_2 rfl ?_
  refine rz_cVI dX12_changes_3 kl_RX12_144 hd_81 ⟨_, _, rfl⟩ (c_X12_valueAt X _ I J w n (by omega) (by omega) (by omega)) rfl rfl (Nat.le_of_ble_eq_true rfl) (Nat.le_of_ble_eq_true rfl) ?_
  refine rz_istore dX12_changes_6 (by decide) rfl ?_
  refine rz_iload dX12_changes_8 rfl ?_
  refine rz_iload_n dX12_changes_10 rfl ?_
  refine rz_icmp_ne (t := 17) dX12_changes_11 rfl (by omega) (by omega) (fun c11 => ?_) (fun c11 => ?_)
  · refine rz_aload_n dX12_changes_17 rfl ?_
    refine rz_iconst dX12_changes_18 ?_
    refine rz_putI dX12_changes_19 kp_RX12_148 hd_81 rfl ?_
    refine rz_aload_n dX12_changes_22 rfl ?_
    refine rz_getI (z := (I 81 9)) dX12_changes_23 kf_RX12_151 hd_81 rfl rfl ?_
    refine rz_bipush dX12_changes_26 (by decide) ?_
    refine rz_icmp_ne (t := 121) dX12_changes_28 rfl (by omega) (by omega) (fun c28 => ?_) (fun c28 => ?_)
    · refine rz_mem (I' := (chR0 I)) (J' := J) (rfl) (rfl) ?_
      refine rz_aload_n dX12_changes_121 rfl ?_
      refine rz_getR dX12_changes_122 kf_RX12_32 hd_81 rfl rr_81_11 ?_
      refine rz_aload_n dX12_changes_125 rfl ?_
      refine rz_getI (z := (I 81 9)) dX12_changes_126 kf_RX12_151 hd_81 rfl rfl ?_
      refine rz_iload_n dX12_changes_129 rfl ?_
      refine rz_iast dX12_changes_130 hd_89 (by decide) (by omega) ?_
      refine rz_aload_n dX12_changes_131 rfl ?_
      refine rz_getR dX12_changes_132 kf_RX12_35 hd_81 rfl rr_81_12 ?_
      refine rz_aload_n dX12_changes_135 rfl ?_
      refine rz_getI (z := (I 81 9)) dX12_changes_136 kf_RX12_151 hd_81 rfl rfl ?_
      refine rz_iload_n dX12_changes_139 rfl ?_
      refine rz_iast dX12_changes_140 hd_90 (by decide) (by omega) ?_
      refine rz_aload_n dX12_changes_141 rfl ?_
      refine rz_getR dX12_changes_142 kf_RX12_38 hd_81 rfl rr_81_13 ?_
      refine rz_aload_n dX12_changes_145 rfl ?_
      refine rz_getI (z := (I 81 9)) dX12_changes_146 kf_RX12_151 hd_81 rfl rfl ?_
      refine rz_iload dX12_changes_149 rfl ?_
      refine rz_iast dX12_changes_151 hd_91 (by decide) (by omega) ?_
      refine rz_aload_n dX12_changes_152 rfl ?_
      refine rz_getR dX12_changes_153 kf_RX12_41 hd_81 rfl rr_81_14 ?_
      refine rz_aload_n dX12_changes_156 rfl ?_
      refine rz_getI (z := (I 81 9)) dX12_changes_157 kf_RX12_151 hd_81 rfl rfl ?_
      refine rz_iload_n dX12_changes_160 rfl ?_
      refine rz_iast dX12_changes_161 hd_92 (by decide) (by omega) ?_
      refine rz_aload_n dX12_changes_162 rfl ?_
      refine rz_dup dX12_changes_163 rfl ?_
      refine rz_getI (z := (I 81 9)) dX12_changes_164 kf_RX12_151 hd_81 rfl rfl ?_
      refine rz_iconst dX12_changes_167 ?_
      refine rz_iadd dX12_changes_168 ?_
      refine rz_putI dX12_changes_169 kp_RX12_151 hd_81 rfl ?_
      refine rz_mem (I' := (chR2 (chR0 I) w n (valR I n w) v)) (J' := J) (rfl) (rfl) ?_
      refine rz_aload_n dX12_changes_172 rfl ?_
      refine rz_iload_n dX12_changes_173 rfl ?_
      refine rz_iload_n dX12_changes_174 rfl ?_
      refine rz_iload_n dX12_changes_175 rfl ?_
      refine rz_cVV dX12_changes_176 kl_RX12_154 hd_81 ⟨_, _, rfl⟩ (c_X12_lays X _ (chR2 (chR0 I) w n (valR I n w) v) J w n v (by omega) (by omega) (by omega)) rfl rfl (Nat.le_of_ble_eq_true rfl) (Nat.le_of_ble_eq_true rfl) ?_
      refine rz_iload dX12_changes_179 rfl ?_
      refine rz_iret dX12_changes_181 rfl ?_
      exact ⟨_, rfl, rfl, by first | exact (chR_a c11 c28).symm | exact (chR_b c11 c28).symm, rfl⟩
    · refine rz_iconst dX12_changes_31 ?_
      refine rz_istore dX12_changes_32 (by decide) rfl ?_
      refine rz_up (ls := fun q : Nat => [some (.ref 81), some (zi w), some (zi n), some (zi v), some (zi (valR I n w)), some (zi ((q : Int) + 1))]) (IV := fun q : Nat => (shM (chR0 I) q)) (JV := fun q : Nat => J) (39) ⟨Or.inr rfl, Or.inr rfl, Or.inr rfl, Or.inr rfl, Or.inr rfl, Or.inr rfl, trivial⟩ (shM_0) (rfl) ?_ ?_
      · intro q hq ihq
        refine rz_iload dX12_changes_34 rfl ?_
        refine rz_bipush dX12_changes_36 (by decide) ?_
        refine rz_icmp_ge (t := 111) dX12_changes_38 rfl (by omega) (by omega) (fun c38 => ?_) (fun c38 => ?_)
        · exfalso; omega
        · refine rz_aload_n dX12_changes_41 rfl ?_
          refine rz_getR dX12_changes_42 kf_RX12_32 hd_81 rfl rr_81_11 ?_
          refine rz_iload dX12_changes_45 rfl ?_
          refine rz_iconst dX12_changes_47 ?_
          refine rz_isub dX12_changes_48 ?_
          refine rz_aload_n dX12_changes_49 rfl ?_
          refine rz_getR dX12_changes_50 kf_RX12_32 hd_81 rfl rr_81_11 ?_
          refine rz_iload dX12_changes_53 rfl ?_
          refine rz_ialdN (k := (q + 1)) (z := ((shM (chR0 I) q) 89 (q + 1))) dX12_changes_55 hd_89 (by decide) (by omega) (by omega) rfl ?_
          refine rz_iastN (k := q) dX12_changes_56 hd_89 (by decide) (by omega) (by omega) ?_
          refine rz_aload_n dX12_changes_57 rfl ?_
          refine rz_getR dX12_changes_58 kf_RX12_35 hd_81 rfl rr_81_12 ?_
          refine rz_iload dX12_changes_61 rfl ?_
          refine rz_iconst dX12_changes_63 ?_
          refine rz_isub dX12_changes_64 ?_
          refine rz_aload_n dX12_changes_65 rfl ?_
          refine rz_getR dX12_changes_66 kf_RX12_35 hd_81 rfl rr_81_12 ?_
          refine rz_iload dX12_changes_69 rfl ?_
          refine rz_ialdN (k := (q + 1)) (z := ((shM (chR0 I) q) 90 (q + 1))) dX12_changes_71 hd_90 (by decide) (by omega) (by omega) rfl ?_
          refine rz_iastN (k := q) dX12_changes_72 hd_90 (by decide) (by omega) (by omega) ?_
          refine rz_aload_n dX12_changes_73 rfl ?_
          refine rz_getR dX12_changes_74 kf_RX12_38 hd_81 rfl rr_81_13 ?_
          refine rz_iload dX12_changes_77 rfl ?_
          refine rz_iconst dX12_changes_79 ?_
          refine rz_isub dX12_changes_80 ?_
          refine rz_aload_n dX12_changes_81 rfl ?_
          refine rz_getR dX12_changes_82 kf_RX12_38 hd_81 rfl rr_81_13 ?_
          refine rz_iload dX12_changes_85 rfl ?_
          refine rz_ialdN (k := (q + 1)) (z := ((shM (chR0 I) q) 91 (q + 1))) dX12_changes_87 hd_91 (by decide) (by omega) (by omega) rfl ?_
          refine rz_iastN (k := q) dX12_changes_88 hd_91 (by decide) (by omega) (by omega) ?_
          refine rz_aload_n dX12_changes_89 rfl ?_
          refine rz_getR dX12_changes_90 kf_RX12_41 hd_81 rfl rr_81_14 ?_
          refine rz_iload dX12_changes_93 rfl ?_
          refine rz_iconst dX12_changes_95 ?_
          refine rz_isub dX12_changes_96 ?_
          refine rz_aload_n dX12_changes_97 rfl ?_
          refine rz_getR dX12_changes_98 kf_RX12_41 hd_81 rfl rr_81_14 ?_
          refine rz_iload dX12_changes_101 rfl ?_
          refine rz_ialdN (k := (q + 1)) (z := ((shM (chR0 I) q) 92 (q + 1))) dX12_changes_103 hd_92 (by decide) (by omega) (by omega) rfl ?_
          refine rz_iastN (k := q) dX12_changes_104 hd_92 (by decide) (by omega) (by omega) ?_
          refine rz_iinc dX12_changes_105 (by decide) rfl rfl rfl ?_
          refine rz_goto (t := 34) dX12_changes_108 rfl ?_
          exact rz_bk ihq ⟨Or.inr rfl, Or.inr rfl, Or.inr rfl, Or.inr rfl, Or.inr rfl, Or.inr (congrArg (fun z => some (zi z)) (by omega)), trivial⟩ (shM_step) (rfl)
      · skip
        refine rz_iload dX12_changes_34 rfl ?_
        refine rz_bipush dX12_changes_36 (by decide) ?_
        refine rz_icmp_ge (t := 111) dX12_changes_38 rfl (by omega) (by omega) (fun c38 => ?_) (fun c38 => ?_)
        · refine rz_aload_n dX12_changes_111 rfl ?_
          refine rz_dup dX12_changes_112 rfl ?_
          refine rz_getI (z := (I 81 9)) dX12_changes_113 kf_RX12_151 hd_81 rfl rfl ?_
          refine rz_iconst dX12_changes_116 ?_
          refine rz_isub dX12_changes_117 ?_
          refine rz_putI dX12_changes_118 kp_RX12_151 hd_81 rfl ?_
          refine rz_mem (I' := (chR1 I)) (J' := J) (rfl) (rfl) ?_
          refine rz_aload_n dX12_changes_121 rfl ?_
          refine rz_getR dX12_changes_122 kf_RX12_32 hd_81 rfl rr_81_11 ?_
          refine rz_aload_n dX12_changes_125 rfl ?_
          refine rz_getI (z := ((I 81 9) - 1)) dX12_changes_126 kf_RX12_151 hd_81 rfl rfl ?_
          refine rz_iload_n dX12_changes_129 rfl ?_
          refine rz_iast dX12_changes_130 hd_89 (by decide) (by omega) ?_
          refine rz_aload_n dX12_changes_131 rfl ?_
          refine rz_getR dX12_changes_132 kf_RX12_35 hd_81 rfl rr_81_12 ?_
          refine rz_aload_n dX12_changes_135 rfl ?_
          refine rz_getI (z := ((I 81 9) - 1)) dX12_changes_136 kf_RX12_151 hd_81 rfl rfl ?_
          refine rz_iload_n dX12_changes_139 rfl ?_
          refine rz_iast dX12_changes_140 hd_90 (by decide) (by omega) ?_
          refine rz_aload_n dX12_changes_141 rfl ?_
          refine rz_getR dX12_changes_142 kf_RX12_38 hd_81 rfl rr_81_13 ?_
          refine rz_aload_n dX12_changes_145 rfl ?_
          refine rz_getI (z := ((I 81 9) - 1)) dX12_changes_146 kf_RX12_151 hd_81 rfl rfl ?_
          refine rz_iload dX12_changes_149 rfl ?_
          refine rz_iast dX12_changes_151 hd_91 (by decide) (by omega) ?_
          refine rz_aload_n dX12_changes_152 rfl ?_
          refine rz_getR dX12_changes_153 kf_RX12_41 hd_81 rfl rr_81_14 ?_
          refine rz_aload_n dX12_changes_156 rfl ?_
          refine rz_getI (z := ((I 81 9) - 1)) dX12_changes_157 kf_RX12_151 hd_81 rfl rfl ?_
          refine rz_iload_n dX12_changes_160 rfl ?_
          refine rz_iast dX12_changes_161 hd_92 (by decide) (by omega) ?_
          refine rz_aload_n dX12_changes_162 rfl ?_
          refine rz_dup dX12_changes_163 rfl ?_
          refine rz_getI (z := ((I 81 9) - 1)) dX12_changes_164 kf_RX12_151 hd_81 rfl rfl ?_
          refine rz_iconst dX12_changes_167 ?_
          refine rz_iadd dX12_changes_168 ?_
          refine rz_putI dX12_changes_169 kp_RX12_151 hd_81 rfl ?_
          refine rz_mem (I' := (chR2 (chR1 I) w n (valR I n w) v)) (J' := J) (rfl) (rfl) ?_
          refine rz_aload_n dX12_changes_172 rfl ?_
          refine rz_iload_n dX12_changes_173 rfl ?_
          refine rz_iload_n dX12_changes_174 rfl ?_
          refine rz_iload_n dX12_changes_175 rfl ?_
          refine rz_cVV dX12_changes_176 kl_RX12_154 hd_81 ⟨_, _, rfl⟩ (c_X12_lays X _ (chR2 (chR1 I) w n (valR I n w) v) J w n v (by omega) (by omega) (by omega)) rfl rfl (Nat.le_of_ble_eq_true rfl) (Nat.le_of_ble_eq_true rfl) ?_
          refine rz_iload dX12_changes_179 rfl ?_
          refine rz_iret dX12_changes_181 rfl ?_
          exact ⟨_, rfl, rfl, by first | exact (chR_a c11 c28).symm | exact (chR_b c11 c28).symm, rfl⟩
        · exfalso; omega
  · refine rz_iload dX12_changes_14 rfl ?_
    refine rz_iret dX12_changes_16 rfl ?_
    exact ⟨_, rfl, rfl, (chR_eq c11).symm, rfl⟩
abbrev mayR (n0 n w v : Int) : Prop := (0 ≤ v ∧ v ≤ 9) ∧ ((w = 0 ∧ 0 ≤ n ∧ n ≤ 1) ∨ (w = 1 ∧ 0 ≤ n ∧ n < n0 ∧ 1 ≤ v) ∨ (w = 2 ∧ 0 ≤ n ∧ n < n0))
def RgR (I : IM) : Prop := (∀ v : Nat, v < 5 → (0 ≤ I 82 v ∧ I 82 v ≤ 9) ∧ 0 ≤ I 83 v ∧ I 83 v ≤ 9) ∧ ∀ b : Nat, b < 2 → 0 ≤ I 85 b ∧ I 85 b ≤ 9

def mendZ (I : IM) (n w v : Int) : Int := if mayR (I 81 1) n w v then valR I n w else -1

def mendR (I : IM) (n w v : Int) : IM := if mayR (I 81 1) n w v then chR I w n v else I
theorem mend_y {I : IM} {n w v : Int} (h : mayR (I 81 1) n w v) : mendZ I n w v = valR I n w ∧ mendR I n w v = chR I w n v := ⟨if_pos h, if_pos h⟩
theorem mend_n {I : IM} {n w v : Int} (h : ¬ mayR (I 81 1) n w v) : mendZ I n w v = -1 ∧ mendR I n w v = I := ⟨if_neg h, if_neg h⟩
set_option maxRecDepth 20000 in
set_option maxHeartbeats 400000 in
theorem c_X12_isBaker (X : pX) (h : Nat) (I J : IM) (n : Int) (hn : rg n) : KIq X (h + 1) mX12_isBaker [zi n] I J (BQ I J (0 ≤ n ∧ n ≤ 1)) := by
  show Rz X (h + 1) mX12_isBaker 0 [some (zi n)] [] I J _
  refine rz_iload_n dX12_isBaker_0 rfl ?_
  refine rz_iconst dX12_isBaker_1 ?_
  refine rz_iconst dX12_isBaker_2 ?_
  refine rz_cSIq dX12_isBaker_3 kl_RX12_140 (c_X12_in X _ I J n 0 1 (by omega) (by omega) (by omega)) rfl rfl (Nat.le_of_ble_eq_true rfl) (Nat.le_of_ble_eq_true rfl) ?_
  rintro z3 A3 B3 ⟨⟨rfl, b3⟩ | ⟨rfl, b3⟩, rfl, rfl⟩
  · refine rz_zret dX12_isBaker_6 rfl (by decide) ?_
    exact ⟨_, rfl, Or.inl ⟨rfl, by first | omega | assumption⟩, rfl, rfl⟩
  · refine rz_zret dX12_isBaker_6 rfl (by decide) ?_
    exact ⟨_, rfl, Or.inr ⟨rfl, by first | omega | assumption⟩, rfl, rfl⟩
set_option maxRecDepth 20000 in
set_option maxHeartbeats 400000 in
theorem c_X12_mend (X : pX) (h : Nat) (I J : IM) (n w v : Int) (hn : rg n) (hw : rg w) (hvv : rg v) (hv : 0 ≤ I 81 1 ∧ I 81 1 ≤ 5) (hd : 0 ≤ I 81 9 ∧ I 81 9 ≤ 40) (hr : RgR I) : KI X (h + 2) mX12_mend [.ref 81, zi n, zi w, zi v] I J (mendZ I n w v) (mendR I n w v) J := by
  show Rz X (h + 2) mX12_mend 0 [some (.ref 81), some (zi n), some (zi w), some (zi v)] [] I J _
  refine rz_iload_n dX12_mend_0 rfl ?_
  by_cases s1_0 : w = 0
  · subst s1_0
    refine rz_tableIn (t := 28) dX12_mend_1 (by omega) (by decide) rfl rfl ?_
    refine rz_iload_n dX12_mend_28 rfl ?_
    refine rz_cSIq dX12_mend_29 kl_RX12_158 (c_X12_isBaker X _ I J n (by omega)) rfl rfl (Nat.le_of_ble_eq_true rfl) (Nat.le_of_ble_eq_true rfl) ?_
    rintro z29 A29 B29 ⟨⟨rfl, b29⟩ | ⟨rfl, b29⟩, rfl, rfl⟩
    · refine rz_if_eq (t := 55) dX12_mend_32 rfl (by omega) (fun q => absurd q (by decide)) (fun _ => ?_)
      refine rz_iload_n dX12_mend_35 rfl ?_
      refine rz_iconst dX12_mend_36 ?_
      refine rz_bipush dX12_mend_37 (by decide) ?_
      refine rz_cSIq dX12_mend_39 kl_RX12_140 (c_X12_in X _ I J v 0 9 (by omega) (by omega) (by omega)) rfl rfl (Nat.le_of_ble_eq_true rfl) (Nat.le_of_ble_eq_true rfl) ?_
      rintro z39 A39 B39 ⟨⟨rfl, b39⟩ | ⟨rfl, b39⟩, rfl, rfl⟩
      · refine rz_if_eq (t := 55) dX12_mend_42 rfl (by omega) (fun q => absurd q (by decide)) (fun _ => ?_)
        refine rz_aload_n dX12_mend_45 rfl ?_
        refine rz_iconst dX12_mend_46 ?_
        refine rz_iload_n dX12_mend_47 rfl ?_
        refine rz_iload_n dX12_mend_48 rfl ?_
        refine rz_cVI dX12_mend_49 kl_RX12_162 hd_81 ⟨_, _, rfl⟩ (c_X12_changes X _ I J 0 n v (by omega) (by omega) (by omega) (by omega) (by omega) hr) rfl rfl (Nat.le_of_ble_eq_true rfl) (Nat.le_of_ble_eq_true rfl) ?_
        refine rz_goto (t := 56) dX12_mend_52 rfl ?_
        refine rz_iret dX12_mend_56 rfl ?_
        exact ⟨_, rfl, (mend_y (by unfold mayR; omega)).1.symm, (mend_y (by unfold mayR; omega)).2.symm, rfl⟩
      · refine rz_if_eq (t := 55) dX12_mend_42 rfl (by omega) (fun _ => ?_) (fun q => absurd q (by decide))
        refine rz_iconst dX12_mend_55 ?_
        refine rz_iret dX12_mend_56 rfl ?_
        exact ⟨_, rfl, (mend_n (by unfold mayR; omega)).1.symm, (mend_n (by unfold mayR; omega)).2.symm, rfl⟩
    · refine rz_if_eq (t := 55) dX12_mend_32 rfl (by omega) (fun _ => ?_) (fun q => absurd q (by decide))
      refine rz_iconst dX12_mend_55 ?_
      refine rz_iret dX12_mend_56 rfl ?_
      exact ⟨_, rfl, (mend_n (by unfold mayR; omega)).1.symm, (mend_n (by unfold mayR; omega)).2.symm, rfl⟩
  by_cases s1_1 : w = 1
  · subst s1_1
    refine rz_tableIn (t := 57) dX12_mend_1 (by omega) (by decide) rfl rfl ?_
    refine rz_aload_n dX12_mend_57 rfl ?_
    refine rz_iload_n dX12_mend_58 rfl ?_
    refine rz_cVIq dX12_mend_59 kl_RX12_166 hd_81 ⟨_, _, rfl⟩ (c_X12_isVillage X _ I J n (by omega) (by omega)) rfl rfl (Nat.le_of_ble_eq_true rfl) (Nat.le_of_ble_eq_true rfl) ?_
    rintro z59 A59 B59 ⟨⟨rfl, b59⟩ | ⟨rfl, b59⟩, rfl, rfl⟩
    · refine rz_if_eq (t := 85) dX12_mend_62 rfl (by omega) (fun q => absurd q (by decide)) (fun _ => ?_)
      refine rz_iload_n dX12_mend_65 rfl ?_
      refine rz_iconst dX12_mend_66 ?_
      refine rz_bipush dX12_mend_67 (by decide) ?_
      refine rz_cSIq dX12_mend_69 kl_RX12_140 (c_X12_in X _ I J v 1 9 (by omega) (by omega) (by omega)) rfl rfl (Nat.le_of_ble_eq_true rfl) (Nat.le_of_ble_eq_true rfl) ?_
      rintro z69 A69 B69 ⟨⟨rfl, b69⟩ | ⟨rfl, b69⟩, rfl, rfl⟩
      · refine rz_if_eq (t := 85) dX12_mend_72 rfl (by omega) (fun q => absurd q (by decide)) (fun _ => ?_)
        refine rz_aload_n dX12_mend_75 rfl ?_
        refine rz_iconst dX12_mend_76 ?_
        refine rz_iload_n dX12_mend_77 rfl ?_
        refine rz_iload_n dX12_mend_78 rfl ?_
        refine rz_cVI dX12_mend_79 kl_RX12_162 hd_81 ⟨_, _, rfl⟩ (c_X12_changes X _ I J 1 n v (by omega) (by omega) (by omega) (by omega) (by omega) hr) rfl rfl (Nat.le_of_ble_eq_true rfl) (Nat.le_of_ble_eq_true rfl) ?_
        refine rz_goto (t := 86) dX12_mend_82 rfl ?_
        refine rz_iret dX12_mend_86 rfl ?_
        exact ⟨_, rfl, (mend_y (by unfold mayR; omega)).1.symm, (mend_y (by unfold mayR; omega)).2.symm, rfl⟩
      · refine rz_if_eq (t := 85) dX12_mend_72 rfl (by omega) (fun _ => ?_) (fun q => absurd q (by decide))
        refine rz_iconst dX12_mend_85 ?_
        refine rz_iret dX12_mend_86 rfl ?_
        exact ⟨_, rfl, (mend_n (by unfold mayR; omega)).1.symm, (mend_n (by unfold mayR; omega)).2.symm, rfl⟩
    · refine rz_if_eq (t := 85) dX12_mend_62 rfl (by omega) (fun _ => ?_) (fun q => absurd q (by decide))
      refine rz_iconst dX12_mend_85 ?_
      refine rz_iret dX12_mend_86 rfl ?_
      exact ⟨_, rfl, (mend_n (by unfold mayR; omega)).1.symm, (mend_n (by unfold mayR; omega)).2.symm, rfl⟩
  by_cases s1_2 : w = 2
  · subst s1_2
    refine rz_tableIn (t := 87) dX12_mend_1 (by omega) (by decide) rfl rfl ?_
    refine rz_aload_n dX12_mend_87 rfl ?_
    refine rz_iload_n dX12_mend_88 rfl ?_
    refine rz_cVIq dX12_mend_89 kl_RX12_166 hd_81 ⟨_, _, rfl⟩ (c_X12_isVillage X _ I J n (by omega) (by omega)) rfl rfl (Nat.le_of_ble_eq_true rfl) (Nat.le_of_ble_eq_true rfl) ?_
    rintro z89 A89 B89 ⟨⟨rfl, b89⟩ | ⟨rfl, b89⟩, rfl, rfl⟩
    · refine rz_if_eq (t := 115) dX12_mend_92 rfl (by omega) (fun q => absurd q (by decide)) (fun _ => ?_)
      refine rz_iload_n dX12_mend_95 rfl ?_
      refine rz_iconst dX12_mend_96 ?_
      refine rz_bipush dX12_mend_97 (by decide) ?_
      refine rz_cSIq dX12_mend_99 kl_RX12_140 (c_X12_in X _ I J v 0 9 (by omega) (by omega) (by omega)) rfl rfl (Nat.le_of_ble_eq_true rfl) (Nat.le_of_ble_eq_true rfl) ?_
      rintro z99 A99 B99 ⟨⟨rfl, b99⟩ | ⟨rfl, b99⟩, rfl, rfl⟩
      · refine rz_if_eq (t := 115) dX12_mend_102 rfl (by omega) (fun q => absurd q (by decide)) (fun _ => ?_)
        refine rz_aload_n dX12_mend_105 rfl ?_
        refine rz_iconst dX12_mend_106 ?_
        refine rz_iload_n dX12_mend_107 rfl ?_
        refine rz_iload_n dX12_mend_108 rfl ?_
        refine rz_cVI dX12_mend_109 kl_RX12_162 hd_81 ⟨_, _, rfl⟩ (c_X12_changes X _ I J 2 n v (by omega) (by omega) (by omega) (by omega) (by omega) hr) rfl rfl (Nat.le_of_ble_eq_true rfl) (Nat.le_of_ble_eq_true rfl) ?_
        refine rz_goto (t := 116) dX12_mend_112 rfl ?_
        refine rz_iret dX12_mend_116 rfl ?_
        exact ⟨_, rfl, (mend_y (by unfold mayR; omega)).1.symm, (mend_y (by unfold mayR; omega)).2.symm, rfl⟩
      · refine rz_if_eq (t := 115) dX12_mend_102 rfl (by omega) (fun _ => ?_) (fun q => absurd q (by decide))
        refine rz_iconst dX12_mend_115 ?_
        refine rz_iret dX12_mend_116 rfl ?_
        exact ⟨_, rfl, (mend_n (by unfold mayR; omega)).1.symm, (mend_n (by unfold mayR; omega)).2.symm, rfl⟩
    · refine rz_if_eq (t := 115) dX12_mend_92 rfl (by omega) (fun _ => ?_) (fun q => absurd q (by decide))
      refine rz_iconst dX12_mend_115 ?_
      refine rz_iret dX12_mend_116 rfl ?_
      exact ⟨_, rfl, (mend_n (by unfold mayR; omega)).1.symm, (mend_n (by unfold mayR; omega)).2.symm, rfl⟩
  refine rz_tableOut (t := 117) dX12_mend_1 (by omega) (by omega) rfl ?_
  refine rz_iconst dX12_mend_117 ?_
  refine rz_iret dX12_mend_118 rfl ?_
  exact ⟨_, rfl, (mend_n (by unfold mayR; omega)).1.symm, (mend_n (by unfold mayR; omega)).2.symm, rfl⟩
def undo1 (I : IM) : IM := upA (upA I 81 (up1 (I 81) 9 (I 81 9 - 1))) 81 (up1 (upA I 81 (up1 (I 81) 9 (I 81 9 - 1)) 81) 10 (I 81 10 + 1))
def undoR (I : IM) : IM := if I 81 9 = 0 then I else laysM (undo1 I) (I 89 (I 81 9 - 1).toNat) (I 90 (I 81 9 - 1).toNat) (I 91 (I 81 9 - 1).toNat)
def undoZ (I : IM) : Int := if I 81 9 = 0 then -5 else I 81 9 - 1
theorem lays_k {I : IM} {w n v : Int} {k : Nat} : laysM I w n v 81 k = I 81 k := by
  unfold laysM; split
  · rfl
  · split <;> rfl
set_option maxRecDepth 20000 in
set_option maxHeartbeats 400000 in
theorem c_X12_undo (X : pX) (h : Nat) (I J : IM) (hd : 0 ≤ I 81 9 ∧ 0 ≤ I 81 10 ∧ I 81 9 + I 81 10 ≤ 40) (hc : ∀ k : Nat, (k : Int) < I 81 9 + I 81 10 → (0 ≤ I 89 k ∧ I 89 k ≤ 2) ∧ (0 ≤ I 90 k ∧ I 90 k < 5) ∧ (I 89 k = 0 → I 90 k < 2)) : KI X (h + 1) mX12_undo [.ref 81] I J (undoZ I) (undoR I) J := by
  show Rz X (h + 1) mX12_undo 0 [some (.ref 81)] [] I J _
  refine rz_aload_n dX12_undo_0 rfl ?_
  refine rz_getI (z := (I 81 9)) dX12_undo_1 kf_RX12_151 hd_81 rfl rfl ?_
  refine rz_if_ne (t := 10) dX12_undo_4 rfl (by omega) (fun c4 => ?_) (fun c4 => ?_)
  · refine rz_aload_n dX12_undo_10 rfl ?_
    refine rz_dup dX12_undo_11 rfl ?_
    refine rz_getI (z := (I 81 9)) dX12_undo_12 kf_RX12_151 hd_81 rfl rfl ?_
    refine rz_iconst dX12_undo_15 ?_
    refine rz_isub dX12_undo_16 ?_
    refine rz_putI dX12_undo_17 kp_RX12_151 hd_81 rfl ?_
    refine rz_aload_n dX12_undo_20 rfl ?_
    refine rz_dup dX12_undo_21 rfl ?_
    refine rz_getI (z := (I 81 10)) dX12_undo_22 kf_RX12_148 hd_81 rfl rfl ?_
    refine rz_iconst dX12_undo_25 ?_
    refine rz_iadd dX12_undo_26 ?_
    refine rz_putI dX12_undo_27 kp_RX12_148 hd_81 rfl ?_
    refine rz_mem (I' := (undo1 I)) (J' := J) (rfl) (rfl) ?_
    refine rz_aload_n dX12_undo_30 rfl ?_
    refine rz_aload_n dX12_undo_31 rfl ?_
    refine rz_getR dX12_undo_32 kf_RX12_32 hd_81 rfl rr_81_11 ?_
    refine rz_aload_n dX12_undo_35 rfl ?_
    refine rz_getI (z := ((I 81 9) - 1)) dX12_undo_36 kf_RX12_151 hd_81 rfl rfl ?_
    refine rz_iald (z := (I 89 (((I 81 9) - 1)).toNat)) dX12_undo_39 hd_89 (by decide) (by omega) rfl ?_
    refine rz_aload_n dX12_undo_40 rfl ?_
    refine rz_getR dX12_undo_41 kf_RX12_35 hd_81 rfl rr_81_12 ?_
    refine rz_aload_n dX12_undo_44 rfl ?_
    refine rz_getI (z := ((I 81 9) - 1)) dX12_undo_45 kf_RX12_151 hd_81 rfl rfl ?_
    refine rz_iald (z := (I 90 (((I 81 9) - 1)).toNat)) dX12_undo_48 hd_90 (by decide) (by omega) rfl ?_
    refine rz_aload_n dX12_undo_49 rfl ?_
    refine rz_getR dX12_undo_50 kf_RX12_38 hd_81 rfl rr_81_13 ?_
    refine rz_aload_n dX12_undo_53 rfl ?_
    refine rz_getI (z := ((I 81 9) - 1)) dX12_undo_54 kf_RX12_151 hd_81 rfl rfl ?_
    refine rz_iald (z := (I 91 (((I 81 9) - 1)).toNat)) dX12_undo_57 hd_91 (by decide) (by omega) rfl ?_
    refine rz_cVV dX12_undo_58 kl_RX12_154 hd_81 ⟨_, _, rfl⟩ (c_X12_lays X _ (undo1 I) J (I 89 (((I 81 9) - 1)).toNat) (I 90 (((I 81 9) - 1)).toNat) (I 91 (((I 81 9) - 1)).toNat) (by have := hc (I 81 9 - 1).toNat (by omega); omega) (by have := hc (I 81 9 - 1).toNat (by omega); omega) (by have := hc (I 81 9 - 1).toNat (by omega); omega)) rfl rfl (Nat.le_of_ble_eq_true rfl) (Nat.le_of_ble_eq_true rfl) ?_
    refine rz_aload_n dX12_undo_61 rfl ?_
    refine rz_getI (z := ((laysM (undo1 I) (I 89 (I 81 9 - 1).toNat) (I 90 (I 81 9 - 1).toNat) (I 91 (I 81 9 - 1).toNat)) 81 9)) dX12_undo_62 kf_RX12_151 hd_81 rfl rfl ?_
    refine rz_iret dX12_undo_65 rfl ?_
    exact ⟨_, rfl, by rw [undoZ, if_neg c4, lays_k]; rfl, by rw [undoR, if_neg c4], rfl⟩
  · refine rz_bipush dX12_undo_7 (by decide) ?_
    refine rz_iret dX12_undo_9 rfl ?_
    exact ⟨_, rfl, (if_pos c4).symm, (if_pos c4).symm, rfl⟩
def redoM (I : IM) : IM := laysM I (I 89 (I 81 9).toNat) (I 90 (I 81 9).toNat) (I 92 (I 81 9).toNat)
def redoN (M : IM) : IM := upA (upA M 81 (up1 (M 81) 9 (M 81 9 + 1))) 81 (up1 (upA M 81 (up1 (M 81) 9 (M 81 9 + 1)) 81) 10 (M 81 10 - 1))
def redoR (I : IM) : IM := if I 81 10 = 0 then I else redoN (redoM I)
def redoZ (I : IM) : Int := if I 81 10 = 0 then -5 else I 81 10 - 1
theorem redo_k {I : IM} {k : Nat} : redoM I 81 k = I 81 k := lays_k
set_option maxRecDepth 20000 in
set_option maxHeartbeats 400000 in
theorem c_X12_redo (X : pX) (h : Nat) (I J : IM) (hd : 0 ≤ I 81 9 ∧ 0 ≤ I 81 10 ∧ I 81 9 + I 81 10 ≤ 40) (hc : ∀ k : Nat, (k : Int) < I 81 9 + I 81 10 → (0 ≤ I 89 k ∧ I 89 k ≤ 2) ∧ (0 ≤ I 90 k ∧ I 90 k < 5) ∧ (I 89 k = 0 → I 90 k < 2)) : KI X (h + 1) mX12_redo [.ref 81] I J (redoZ I) (redoR I) J := by
  show Rz X (h + 1) mX12_redo 0 [some (.ref 81)] [] I J _
  refine rz_aload_n dX12_redo_0 rfl ?_
  refine rz_getI (z := (I 81 10)) dX12_redo_1 kf_RX12_148 hd_81 rfl rfl ?_
  refine rz_if_ne (t := 10) dX12_redo_4 rfl (by omega) (fun c4 => ?_) (fun c4 => ?_)
  · refine rz_aload_n dX12_redo_10 rfl ?_
    refine rz_aload_n dX12_redo_11 rfl ?_
    refine rz_getR dX12_redo_12 kf_RX12_32 hd_81 rfl rr_81_11 ?_
    refine rz_aload_n dX12_redo_15 rfl ?_
    refine rz_getI (z := (I 81 9)) dX12_redo_16 kf_RX12_151 hd_81 rfl rfl ?_
    refine rz_iald (z := (I 89 ((I 81 9)).toNat)) dX12_redo_19 hd_89 (by decide) (by omega) rfl ?_
    refine rz_aload_n dX12_redo_20 rfl ?_
    refine rz_getR dX12_redo_21 kf_RX12_35 hd_81 rfl rr_81_12 ?_
    refine rz_aload_n dX12_redo_24 rfl ?_
    refine rz_getI (z := (I 81 9)) dX12_redo_25 kf_RX12_151 hd_81 rfl rfl ?_
    refine rz_iald (z := (I 90 ((I 81 9)).toNat)) dX12_redo_28 hd_90 (by decide) (by omega) rfl ?_
    refine rz_aload_n dX12_redo_29 rfl ?_
    refine rz_getR dX12_redo_30 kf_RX12_41 hd_81 rfl rr_81_14 ?_
    refine rz_aload_n dX12_redo_33 rfl ?_
    refine rz_getI (z := (I 81 9)) dX12_redo_34 kf_RX12_151 hd_81 rfl rfl ?_
    refine rz_iald (z := (I 92 ((I 81 9)).toNat)) dX12_redo_37 hd_92 (by decide) (by omega) rfl ?_
    refine rz_cVV dX12_redo_38 kl_RX12_154 hd_81 ⟨_, _, rfl⟩ (c_X12_lays X _ I J (I 89 ((I 81 9)).toNat) (I 90 ((I 81 9)).toNat) (I 92 ((I 81 9)).toNat) (by have := hc (I 81 9).toNat (by omega); omega) (by have := hc (I 81 9).toNat (by omega); omega) (by have := hc (I 81 9).toNat (by omega); omega)) rfl rfl (Nat.le_of_ble_eq_true rfl) (Nat.le_of_ble_eq_true rfl) ?_
    refine rz_aload_n dX12_redo_41 rfl ?_
    refine rz_dup dX12_redo_42 rfl ?_
    refine rz_getI (z := ((redoM I) 81 9)) dX12_redo_43 kf_RX12_151 hd_81 rfl rfl ?_
    refine rz_iconst dX12_redo_46 ?_
    refine rz_iadd dX12_redo_47 ?_
    refine rz_putI dX12_redo_48 kp_RX12_151 hd_81 rfl ?_
    refine rz_aload_n dX12_redo_51 rfl ?_
    refine rz_dup dX12_redo_52 rfl ?_
    refine rz_getI (z := ((redoM I) 81 10)) dX12_redo_53 kf_RX12_148 hd_81 rfl rfl ?_
    refine rz_iconst dX12_redo_56 ?_
    refine rz_isub dX12_redo_57 ?_
    refine rz_putI dX12_redo_58 kp_RX12_148 hd_81 rfl ?_
    refine rz_aload_n dX12_redo_61 rfl ?_
    refine rz_getI (z := (((redoM I) 81 10) - 1)) dX12_redo_62 kf_RX12_148 hd_81 rfl rfl ?_
    refine rz_iret dX12_redo_65 rfl ?_
    exact ⟨_, rfl, by rw [redoZ, if_neg c4, redo_k], by rw [redoR, if_neg c4]; rfl, rfl⟩
  · refine rz_bipush dX12_redo_7 (by decide) ?_
    refine rz_iret dX12_redo_9 rfl ?_
    exact ⟨_, rfl, (if_pos c4).symm, (if_pos c4).symm, rfl⟩

def mendC (I : IM) (n w v : Int) : IM := if mayB I n w v ∧ valT I n w ≠ v then becM (noteM I n w (valT I n w) v) n w v else I

def mendZC (I : IM) (n w v : Int) : Int := if mayB I n w v then valT I n w else -1
theorem noteW_k {I : IM} {n w a v : Int} {b : Nat} (h : b < 58 ∨ 62 < b) : noteW I n w a v b = I b := by
  unfold noteW upA
  simp only [show ¬ b = 62 by omega, show ¬ b = 61 by omega, show ¬ b = 60 by omega, show ¬ b = 59 by omega, show ¬ b = 58 by omega, if_false]
theorem dropM_k {I : IM} {b : Nat} (h : b < 58 ∨ 62 < b) : dropM I b = I b := by
  unfold dropM upA
  simp only [show ¬ b = 62 by omega, show ¬ b = 61 by omega, show ¬ b = 60 by omega, show ¬ b = 59 by omega, show ¬ b = 58 by omega, if_false]
theorem noteM_k {I : IM} {n w a v : Int} {b : Nat} (h : b < 58 ∨ 62 < b) : noteM I n w a v b = I b := by
  unfold noteM; split
  · rw [noteW_k h, dropM_k h]
  · exact noteW_k h
theorem mayB_note {I : IM} {n w a v n' w' v' : Int} : mayB (noteM I n w a v) n' w' v' ↔ mayB I n' w' v' := by
  unfold mayB; rw [noteM_k (by omega)]
set_option maxRecDepth 20000 in
set_option maxHeartbeats 400000 in
theorem c_X11_mend (X : pX) (h : Nat) (I J : IM) (n w v : Int) (hn : rg n) (hw : rg w) (hvv : rg v) (hT : TI I) (hd : 0 ≤ I 58 1 ∧ I 58 1 ≤ 40) : KI X (h + 3) mX11_mend [.ref 0, zi n, zi w, zi v] I J (mendZC I n w v) (mendC I n w v) J := by
  show Rz X (h + 3) mX11_mend 0 [some (.ref 0), some (zi n), some (zi w), some (zi v), none] [] I J _
  have hv := hT.1
  refine rz_aload_n dX11_mend_0 rfl ?_
  refine rz_getR dX11_mend_1 kf_RX11_21 hd_0 rfl rr_0_1 ?_
  refine rz_iload_n dX11_mend_4 rfl ?_
  refine rz_iload_n dX11_mend_5 rfl ?_
  refine rz_iload_n dX11_mend_6 rfl ?_
  refine rz_cVIq dX11_mend_7 kl_RX11_96 hd_6 ⟨_, _, rfl⟩ (c_X8_mayBecome X _ I J n w v (by omega) (by omega) (by omega) (by omega)) rfl rfl (Nat.le_of_ble_eq_true rfl) (Nat.le_of_ble_eq_true rfl) ?_
  rintro z7 A7 B7 ⟨⟨rfl, b7⟩ | ⟨rfl, b7⟩, rfl, rfl⟩
  · refine rz_if_ne (t := 15) dX11_mend_10 rfl (by omega) (fun _ => ?_) (fun q => absurd q (by decide))
    have hm := b7
    unfold mayB at hm
    have hb : 0 ≤ valT I n w ∧ valT I n w ≤ 9 := by
      have := hT.2.1 n.toNat (by omega)
      have h2 := hT.2.2.1 n.toNat
      unfold valT
      split
      · exact h2 (by omega)
      · split
        · exact this.1
        · exact this.2.1
    refine rz_aload_n dX11_mend_15 rfl ?_
    refine rz_getR dX11_mend_16 kf_RX11_21 hd_0 rfl rr_0_1 ?_
    refine rz_iload_n dX11_mend_19 rfl ?_
    refine rz_iload_n dX11_mend_20 rfl ?_
    refine rz_cVI dX11_mend_21 kl_RX11_100 hd_6 ⟨_, _, rfl⟩ (c_X8_valueOf X _ I J n w (by omega) (by omega) (by omega)) rfl rfl (Nat.le_of_ble_eq_true rfl) (Nat.le_of_ble_eq_true rfl) ?_
    refine rz_istore dX11_mend_24 (by decide) rfl ?_
    refine rz_iload_n dX11_mend_26 rfl ?_
    refine rz_iload dX11_mend_27 rfl ?_
    refine rz_icmp_ne (t := 35) dX11_mend_29 rfl (by omega) (by omega) (fun c29 => ?_) (fun c29 => ?_)
    · refine rz_aload_n dX11_mend_35 rfl ?_
      refine rz_getR dX11_mend_36 kf_RX11_63 hd_0 rfl rr_0_8 ?_
      refine rz_iload_n dX11_mend_39 rfl ?_
      refine rz_iload_n dX11_mend_40 rfl ?_
      refine rz_iload dX11_mend_41 rfl ?_
      refine rz_iload_n dX11_mend_43 rfl ?_
      refine rz_cVV dX11_mend_44 kl_RX11_104 hd_58 ⟨_, _, rfl⟩ (c_X1_note X _ I J n w (valT I n w) v (by omega)) rfl rfl (Nat.le_of_ble_eq_true rfl) (Nat.le_of_ble_eq_true rfl) ?_
      refine rz_aload_n dX11_mend_47 rfl ?_
      refine rz_getR dX11_mend_48 kf_RX11_21 hd_0 rfl rr_0_1 ?_
      refine rz_iload_n dX11_mend_51 rfl ?_
      refine rz_iload_n dX11_mend_52 rfl ?_
      refine rz_iload_n dX11_mend_53 rfl ?_
      refine rz_cVV dX11_mend_54 kl_RX11_108 hd_6 ⟨_, _, rfl⟩ (c_X8_become X _ (noteM I n w (valT I n w) v) J n w v (by omega) (by omega) (by omega) (by rw [noteM_k (by omega)]; omega) (mayB_note.mpr b7)) rfl rfl (Nat.le_of_ble_eq_true rfl) (Nat.le_of_ble_eq_true rfl) ?_
      refine rz_iload dX11_mend_57 rfl ?_
      refine rz_iret dX11_mend_59 rfl ?_
      exact ⟨_, rfl, (if_pos b7).symm, (if_pos ⟨b7, fun q => c29 q.symm⟩).symm, rfl⟩
    · refine rz_iload dX11_mend_32 rfl ?_
      refine rz_iret dX11_mend_34 rfl ?_
      exact ⟨_, rfl, (if_pos b7).symm, (if_neg (fun q => q.2 c29.symm)).symm, rfl⟩
  · refine rz_if_ne (t := 15) dX11_mend_10 rfl (by omega) (fun q => absurd q (by decide)) (fun _ => ?_)
    refine rz_iconst dX11_mend_13 ?_
    refine rz_iret dX11_mend_14 rfl ?_
    exact ⟨_, rfl, (if_neg b7).symm, (if_neg (fun q => b7 q.1)).symm, rfl⟩
def takeM (I : IM) : IM := upA I 58 (up1 (I 58) 1 (I 58 1 - 1))
def undoC (I : IM) : IM := if I 58 1 = 0 then I else becM (takeM I) (I 59 (I 58 1 - 1).toNat) (I 60 (I 58 1 - 1).toNat) (I 61 (I 58 1 - 1).toNat)
theorem becM_k {I : IM} {n w v : Int} {b : Nat} (h : b < 7 ∨ 12 < b) : becM I n w v b = I b := by
  unfold becM; split
  · simp only [upA, show ¬ b = 10 by omega, if_false]
  · split <;> simp only [upA, show ¬ b = 7 by omega, show ¬ b = 8 by omega, show ¬ b = 12 by omega, if_false]
set_option maxRecDepth 20000 in
set_option maxHeartbeats 400000 in
theorem c_X1_takeBack (X : pX) (h : Nat) (I J : IM) (hv : 0 ≤ I 6 0 ∧ I 6 0 ≤ 5) (hd : 0 ≤ I 58 1 ∧ I 58 1 ≤ I 58 0 ∧ I 58 0 ≤ 40) (hc : ∀ k : Nat, (k : Int) < I 58 0 → mayB I (I 59 k) (I 60 k) (I 61 k) ∧ mayB I (I 59 k) (I 60 k) (I 62 k)) : KV X (h + 3) mX1_takeBack [.ref 58, .ref 6] I J (undoC I) J := by
  show Rz X (h + 3) mX1_takeBack 0 [some (.ref 58), some (.ref 6)] [] I J _
  refine rz_aload_n dX1_takeBack_0 rfl ?_
  refine rz_getI (z := (I 58 1)) dX1_takeBack_1 kf_RX1_22 hd_58 rfl rfl ?_
  refine rz_if_gt (t := 8) dX1_takeBack_4 rfl (by omega) (fun c4 => ?_) (fun c4 => ?_)
  · have hp := hc (I 58 1 - 1).toNat (by omega)
    have hq := hp
    unfold mayB at hq
    refine rz_aload_n dX1_takeBack_8 rfl ?_
    refine rz_dup dX1_takeBack_9 rfl ?_
    refine rz_getI (z := (I 58 1)) dX1_takeBack_10 kf_RX1_22 hd_58 rfl rfl ?_
    refine rz_iconst dX1_takeBack_13 ?_
    refine rz_isub dX1_takeBack_14 ?_
    refine rz_putI dX1_takeBack_15 kp_RX1_22 hd_58 rfl ?_
    refine rz_mem (I' := (takeM I)) (J' := J) (rfl) (rfl) ?_
    refine rz_aload_n dX1_takeBack_18 rfl ?_
    refine rz_aload_n dX1_takeBack_19 rfl ?_
    refine rz_getR dX1_takeBack_20 kf_RX1_9 hd_58 rfl rr_58_2 ?_
    refine rz_aload_n dX1_takeBack_23 rfl ?_
    refine rz_getI (z := ((I 58 1) - 1)) dX1_takeBack_24 kf_RX1_22 hd_58 rfl rfl ?_
    refine rz_iald (z := (I 59 (((I 58 1) - 1)).toNat)) dX1_takeBack_27 hd_59 (by decide) (by omega) rfl ?_
    refine rz_aload_n dX1_takeBack_28 rfl ?_
    refine rz_getR dX1_takeBack_29 kf_RX1_13 hd_58 rfl rr_58_3 ?_
    refine rz_aload_n dX1_takeBack_32 rfl ?_
    refine rz_getI (z := ((I 58 1) - 1)) dX1_takeBack_33 kf_RX1_22 hd_58 rfl rfl ?_
    refine rz_iald (z := (I 60 (((I 58 1) - 1)).toNat)) dX1_takeBack_36 hd_60 (by decide) (by omega) rfl ?_
    refine rz_aload_n dX1_takeBack_37 rfl ?_
    refine rz_getR dX1_takeBack_38 kf_RX1_16 hd_58 rfl rr_58_4 ?_
    refine rz_aload_n dX1_takeBack_41 rfl ?_
    refine rz_getI (z := ((I 58 1) - 1)) dX1_takeBack_42 kf_RX1_22 hd_58 rfl rfl ?_
    refine rz_iald (z := (I 61 (((I 58 1) - 1)).toNat)) dX1_takeBack_45 hd_61 (by decide) (by omega) rfl ?_
    refine rz_cVV dX1_takeBack_46 kl_RX1_38 hd_6 ⟨_, _, rfl⟩ (c_X8_become X _ (takeM I) J (I 59 (((I 58 1) - 1)).toNat) (I 60 (((I 58 1) - 1)).toNat) (I 61 (((I 58 1) - 1)).toNat) (by omega) (by omega) (by omega) hv hp.1) rfl rfl (Nat.le_of_ble_eq_true rfl) (Nat.le_of_ble_eq_true rfl) ?_
    refine rz_vret dX1_takeBack_49 rfl ?_
    exact ⟨rfl, (if_neg (by omega)).symm, rfl⟩
  · refine rz_vret dX1_takeBack_7 rfl ?_
    exact ⟨rfl, (if_pos (by omega)).symm, rfl⟩
set_option maxRecDepth 20000 in
set_option maxHeartbeats 400000 in
theorem c_X11_undo (X : pX) (h : Nat) (I J : IM) (hv : 0 ≤ I 6 0 ∧ I 6 0 ≤ 5) (hd : 0 ≤ I 58 1 ∧ I 58 1 ≤ I 58 0 ∧ I 58 0 ≤ 40) (hc : ∀ k : Nat, (k : Int) < I 58 0 → mayB I (I 59 k) (I 60 k) (I 61 k) ∧ mayB I (I 59 k) (I 60 k) (I 62 k)) : KI X (h + 4) mX11_undo [.ref 0] I J (if I 58 1 = 0 then -5 else I 58 1 - 1) (undoC I) J := by
  show Rz X (h + 4) mX11_undo 0 [some (.ref 0)] [] I J _
  refine rz_aload_n dX11_undo_0 rfl ?_
  refine rz_getR dX11_undo_1 kf_RX11_63 hd_0 rfl rr_0_8 ?_
  refine rz_getI (z := (I 58 1)) dX11_undo_4 kf_RX11_301 hd_58 rfl rfl ?_
  refine rz_if_ne (t := 13) dX11_undo_7 rfl (by omega) (fun c7 => ?_) (fun c7 => ?_)
  · refine rz_aload_n dX11_undo_13 rfl ?_
    refine rz_getR dX11_undo_14 kf_RX11_63 hd_0 rfl rr_0_8 ?_
    refine rz_aload_n dX11_undo_17 rfl ?_
    refine rz_getR dX11_undo_18 kf_RX11_21 hd_0 rfl rr_0_1 ?_
    refine rz_cVV dX11_undo_21 kl_RX11_304 hd_58 ⟨_, _, rfl⟩ (c_X1_takeBack X _ I J hv hd hc) rfl rfl (Nat.le_of_ble_eq_true rfl) (Nat.le_of_ble_eq_true rfl) ?_
    refine rz_aload_n dX11_undo_24 rfl ?_
    refine rz_getR dX11_undo_25 kf_RX11_63 hd_0 rfl rr_0_8 ?_
    refine rz_getI (z := ((undoC I) 58 1)) dX11_undo_28 kf_RX11_301 hd_58 rfl rfl ?_
    refine rz_iret dX11_undo_31 rfl ?_
    exact ⟨_, rfl, by rw [if_neg c7, undoC, if_neg c7, becM_k (by omega)]; rfl, rfl, rfl⟩
  · refine rz_bipush dX11_undo_10 (by decide) ?_
    refine rz_iret dX11_undo_12 rfl ?_
    exact ⟨_, rfl, (if_pos c7).symm, (if_pos c7).symm, rfl⟩
def againM (I : IM) : IM := becM I (I 59 (I 58 1).toNat) (I 60 (I 58 1).toNat) (I 62 (I 58 1).toNat)
def redoC (I : IM) : IM := if I 58 1 = I 58 0 then I else upA (againM I) 58 (up1 (againM I 58) 1 (againM I 58 1 + 1))
theorem againM_58 {I : IM} : againM I 58 = I 58 := becM_k (by omega)
set_option maxRecDepth 20000 in
set_option maxHeartbeats 400000 in
theorem c_X1_doAgain (X : pX) (h : Nat) (I J : IM) (hv : 0 ≤ I 6 0 ∧ I 6 0 ≤ 5) (hd : 0 ≤ I 58 1 ∧ I 58 1 ≤ I 58 0 ∧ I 58 0 ≤ 40) (hc : ∀ k : Nat, (k : Int) < I 58 0 → mayB I (I 59 k) (I 60 k) (I 61 k) ∧ mayB I (I 59 k) (I 60 k) (I 62 k)) : KV X (h + 3) mX1_doAgain [.ref 58, .ref 6] I J (redoC I) J := by
  show Rz X (h + 3) mX1_doAgain 0 [some (.ref 58), some (.ref 6)] [] I J _
  refine rz_aload_n dX1_doAgain_0 rfl ?_
  refine rz_getI (z := (I 58 1)) dX1_doAgain_1 kf_RX1_22 hd_58 rfl rfl ?_
  refine rz_aload_n dX1_doAgain_4 rfl ?_
  refine rz_getI (z := (I 58 0)) dX1_doAgain_5 kf_RX1_29 hd_58 rfl rfl ?_
  refine rz_icmp_lt (t := 12) dX1_doAgain_8 rfl (by omega) (by omega) (fun c8 => ?_) (fun c8 => ?_)
  · have hp := hc (I 58 1).toNat (by omega)
    have hq := hp
    unfold mayB at hq
    refine rz_aload_n dX1_doAgain_12 rfl ?_
    refine rz_aload_n dX1_doAgain_13 rfl ?_
    refine rz_getR dX1_doAgain_14 kf_RX1_9 hd_58 rfl rr_58_2 ?_
    refine rz_aload_n dX1_doAgain_17 rfl ?_
    refine rz_getI (z := (I 58 1)) dX1_doAgain_18 kf_RX1_22 hd_58 rfl rfl ?_
    refine rz_iald (z := (I 59 ((I 58 1)).toNat)) dX1_doAgain_21 hd_59 (by decide) (by omega) rfl ?_
    refine rz_aload_n dX1_doAgain_22 rfl ?_
    refine rz_getR dX1_doAgain_23 kf_RX1_13 hd_58 rfl rr_58_3 ?_
    refine rz_aload_n dX1_doAgain_26 rfl ?_
    refine rz_getI (z := (I 58 1)) dX1_doAgain_27 kf_RX1_22 hd_58 rfl rfl ?_
    refine rz_iald (z := (I 60 ((I 58 1)).toNat)) dX1_doAgain_30 hd_60 (by decide) (by omega) rfl ?_
    refine rz_aload_n dX1_doAgain_31 rfl ?_
    refine rz_getR dX1_doAgain_32 kf_RX1_19 hd_58 rfl rr_58_5 ?_
    refine rz_aload_n dX1_doAgain_35 rfl ?_
    refine rz_getI (z := (I 58 1)) dX1_doAgain_36 kf_RX1_22 hd_58 rfl rfl ?_
    refine rz_iald (z := (I 62 ((I 58 1)).toNat)) dX1_doAgain_39 hd_62 (by decide) (by omega) rfl ?_
    refine rz_cVV dX1_doAgain_40 kl_RX1_38 hd_6 ⟨_, _, rfl⟩ (c_X8_become X _ I J (I 59 ((I 58 1)).toNat) (I 60 ((I 58 1)).toNat) (I 62 ((I 58 1)).toNat) (by omega) (by omega) (by omega) hv hp.2) rfl rfl (Nat.le_of_ble_eq_true rfl) (Nat.le_of_ble_eq_true rfl) ?_
    refine rz_aload_n dX1_doAgain_43 rfl ?_
    refine rz_dup dX1_doAgain_44 rfl ?_
    refine rz_getI (z := ((againM I) 58 1)) dX1_doAgain_45 kf_RX1_22 hd_58 rfl rfl ?_
    refine rz_iconst dX1_doAgain_48 ?_
    refine rz_iadd dX1_doAgain_49 ?_
    refine rz_putI dX1_doAgain_50 kp_RX1_22 hd_58 rfl ?_
    refine rz_vret dX1_doAgain_53 rfl ?_
    exact ⟨rfl, (if_neg (by omega)).symm, rfl⟩
  · refine rz_vret dX1_doAgain_11 rfl ?_
    exact ⟨rfl, (if_pos (by omega)).symm, rfl⟩
set_option maxRecDepth 20000 in
set_option maxHeartbeats 400000 in
theorem c_X11_redo (X : pX) (h : Nat) (I J : IM) (hv : 0 ≤ I 6 0 ∧ I 6 0 ≤ 5) (hd : 0 ≤ I 58 1 ∧ I 58 1 ≤ I 58 0 ∧ I 58 0 ≤ 40) (hc : ∀ k : Nat, (k : Int) < I 58 0 → mayB I (I 59 k) (I 60 k) (I 61 k) ∧ mayB I (I 59 k) (I 60 k) (I 62 k)) : KI X (h + 4) mX11_redo [.ref 0] I J (if I 58 1 = I 58 0 then -5 else I 58 0 - I 58 1 - 1) (redoC I) J := by
  show Rz X (h + 4) mX11_redo 0 [some (.ref 0)] [] I J _
  refine rz_aload_n dX11_redo_0 rfl ?_
  refine rz_getR dX11_redo_1 kf_RX11_63 hd_0 rfl rr_0_8 ?_
  refine rz_getI (z := (I 58 1)) dX11_redo_4 kf_RX11_301 hd_58 rfl rfl ?_
  refine rz_aload_n dX11_redo_7 rfl ?_
  refine rz_getR dX11_redo_8 kf_RX11_63 hd_0 rfl rr_0_8 ?_
  refine rz_getI (z := (I 58 0)) dX11_redo_11 kf_RX11_307 hd_58 rfl rfl ?_
  refine rz_icmp_ne (t := 20) dX11_redo_14 rfl (by omega) (by omega) (fun c14 => ?_) (fun c14 => ?_)
  · refine rz_aload_n dX11_redo_20 rfl ?_
    refine rz_getR dX11_redo_21 kf_RX11_63 hd_0 rfl rr_0_8 ?_
    refine rz_aload_n dX11_redo_24 rfl ?_
    refine rz_getR dX11_redo_25 kf_RX11_21 hd_0 rfl rr_0_1 ?_
    refine rz_cVV dX11_redo_28 kl_RX11_308 hd_58 ⟨_, _, rfl⟩ (c_X1_doAgain X _ I J hv hd hc) rfl rfl (Nat.le_of_ble_eq_true rfl) (Nat.le_of_ble_eq_true rfl) ?_
    refine rz_aload_n dX11_redo_31 rfl ?_
    refine rz_getR dX11_redo_32 kf_RX11_63 hd_0 rfl rr_0_8 ?_
    refine rz_getI (z := ((redoC I) 58 0)) dX11_redo_35 kf_RX11_307 hd_58 rfl rfl ?_
    refine rz_aload_n dX11_redo_38 rfl ?_
    refine rz_getR dX11_redo_39 kf_RX11_63 hd_0 rfl rr_0_8 ?_
    refine rz_getI (z := ((redoC I) 58 1)) dX11_redo_42 kf_RX11_301 hd_58 rfl rfl ?_
    refine rz_isub dX11_redo_45 ?_
    refine rz_iret dX11_redo_46 rfl ?_
    exact ⟨_, rfl, by rw [if_neg c14, redoC, if_neg c14, againM_58]; show I 58 0 - (I 58 1 + 1) = _; omega, rfl, rfl⟩
  · refine rz_bipush dX11_redo_17 (by decide) ?_
    refine rz_iret dX11_redo_19 rfl ?_
    exact ⟨_, rfl, (if_pos c14).symm, (if_pos c14).symm, rfl⟩
