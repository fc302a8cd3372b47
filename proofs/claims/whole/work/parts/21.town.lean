/-! villages, loaves, changes -/
/-- ranges in the class's town -/
def TI (I : IM) : Prop := (0 ≤ I 6 0 ∧ I 6 0 ≤ 5) ∧ (∀ v : Nat, v < 5 → (0 ≤ I 7 v ∧ I 7 v ≤ 9) ∧ (0 ≤ I 8 v ∧ I 8 v ≤ 9) ∧ (0 ≤ I 9 v ∧ I 9 v ≤ 2)) ∧ (∀ b : Nat, b < 2 → 0 ≤ I 10 b ∧ I 10 b ≤ 9) ∧ ∀ v : Nat, v < 5 → I 12 v = 0 ∨ I 12 v = 1
def foundM (I : IM) (w t u : Int) : IM := upA (upA (upA (upA I 7 (up1 (I 7) (I 6 0).toNat w)) 8 (up1 (I 8) (I 6 0).toNat t)) 9 (up1 (I 9) (I 6 0).toNat u)) 6 (up1 (I 6) 0 (I 6 0 + 1))
set_option maxRecDepth 20000 in
set_option maxHeartbeats 400000 in
theorem c_X8_found (X : pX) (h : Nat) (I J : IM) (w t u : Int) (hv : 0 ≤ I 6 0 ∧ I 6 0 < 5) : KI X h mX8_found [.ref 6, zi w, zi t, zi u] I J (I 6 0) (foundM I w t u) J := by
  show Rz X h mX8_found 0 [some (.ref 6), some (zi w), some (zi t), some (zi u)] [] I J _
  refine rz_aload_n dX8_found_0 rfl ?_
  refine rz_getI (z := (I 6 0)) dX8_found_1 kf_RX8_35 hd_6 rfl rfl ?_
  refine rz_iconst dX8_found_4 ?_
  refine rz_icmp_lt (t := 11) dX8_found_5 rfl (by omega) (by omega) (fun c5 => ?_) (fun c5 => ?_)
  · refine rz_aload_n dX8_found_11 rfl ?_
    refine rz_getR dX8_found_12 kf_RX8_11 hd_6 rfl rr_6_1 ?_
    refine rz_aload_n dX8_found_15 rfl ?_
    refine rz_getI (z := (I 6 0)) dX8_found_16 kf_RX8_35 hd_6 rfl rfl ?_
    refine rz_iload_n dX8_found_19 rfl ?_
    refine rz_iast dX8_found_20 hd_7 (by decide) (by omega) ?_
    refine rz_aload_n dX8_found_21 rfl ?_
    refine rz_getR dX8_found_22 kf_RX8_15 hd_6 rfl rr_6_2 ?_
    refine rz_aload_n dX8_found_25 rfl ?_
    refine rz_getI (z := (I 6 0)) dX8_found_26 kf_RX8_35 hd_6 rfl rfl ?_
    refine rz_iload_n dX8_found_29 rfl ?_
    refine rz_iast dX8_found_30 hd_8 (by decide) (by omega) ?_
    refine rz_aload_n dX8_found_31 rfl ?_
    refine rz_getR dX8_found_32 kf_RX8_18 hd_6 rfl rr_6_3 ?_
    refine rz_aload_n dX8_found_35 rfl ?_
    refine rz_getI (z := (I 6 0)) dX8_found_36 kf_RX8_35 hd_6 rfl rfl ?_
    refine rz_iload_n dX8_found_39 rfl ?_
    refine rz_iast dX8_found_40 hd_9 (by decide) (by omega) ?_
    refine rz_aload_n dX8_found_41 rfl ?_
    refine rz_dup dX8_found_42 rfl ?_
    refine rz_getI (z := (I 6 0)) dX8_found_43 kf_RX8_35 hd_6 rfl rfl ?_
    refine rz_iconst dX8_found_46 ?_
    refine rz_iadd dX8_found_47 ?_
    refine rz_putI dX8_found_48 kp_RX8_35 hd_6 rfl ?_
    refine rz_aload_n dX8_found_51 rfl ?_
    refine rz_getI (z := ((I 6 0) + 1)) dX8_found_52 kf_RX8_35 hd_6 rfl rfl ?_
    refine rz_iconst dX8_found_55 ?_
    refine rz_isub dX8_found_56 ?_
    refine rz_iret dX8_found_57 rfl ?_
    exact ⟨_, rfl, by omega, rfl, rfl⟩
  · exact absurd c5 (by omega)
def vOK (w t : Int) : Prop := 1 ≤ w ∧ w ≤ 9 ∧ 0 ≤ t ∧ t ≤ 99 ∧ t % 10 ≤ 2
def villZ (n w t : Int) : Int := if 1 ≤ w ∧ w ≤ 9 ∧ 0 ≤ t ∧ t ≤ 99 ∧ t % 10 ≤ 2 then (if n < 5 then n else -3) else -1
def villM (I : IM) (w t : Int) : IM := if (1 ≤ w ∧ w ≤ 9 ∧ 0 ≤ t ∧ t ≤ 99 ∧ t % 10 ≤ 2) ∧ I 6 0 < 5 then foundM I w (t / 10) (t % 10) else I
set_option maxRecDepth 20000 in
set_option maxHeartbeats 400000 in
theorem c_X11_village (X : pX) (h : Nat) (I J : IM) (w t : Int) (hw : rg w) (ht : rg t) (hT : TI I) : KI X (h + 1) mX11_village [.ref 0, zi w, zi t] I J (villZ (I 6 0) w t) (villM I w t) J := by
  show Rz X (h + 1) mX11_village 0 [some (.ref 0), some (zi w), some (zi t)] [] I J _
  have hv := hT.1
  refine rz_iload_n dX11_village_0 rfl ?_
  refine rz_iconst dX11_village_1 ?_
  refine rz_icmp_lt (t := 29) dX11_village_2 rfl (by omega) (by omega) (fun c2 => ?_) (fun c2 => ?_)
  · refine rz_iconst dX11_village_29 ?_
    refine rz_iret dX11_village_30 rfl ?_
    exact ⟨_, rfl, by unfold villZ; split <;> (try split) <;> omega, by unfold villM; split <;> first | rfl | omega, rfl⟩
  · refine rz_iload_n dX11_village_5 rfl ?_
    refine rz_bipush dX11_village_6 (by decide) ?_
    refine rz_icmp_gt (t := 29) dX11_village_8 rfl (by omega) (by omega) (fun c8 => ?_) (fun c8 => ?_)
    · refine rz_iconst dX11_village_29 ?_
      refine rz_iret dX11_village_30 rfl ?_
      exact ⟨_, rfl, by unfold villZ; split <;> (try split) <;> omega, by unfold villM; split <;> first | rfl | omega, rfl⟩
    · refine rz_iload_n dX11_village_11 rfl ?_
      refine rz_if_lt (t := 29) dX11_village_12 rfl (by omega) (fun c12 => ?_) (fun c12 => ?_)
      · refine rz_iconst dX11_village_29 ?_
        refine rz_iret dX11_village_30 rfl ?_
        exact ⟨_, rfl, by unfold villZ; split <;> (try split) <;> omega, by unfold villM; split <;> first | rfl | omega, rfl⟩
      · refine rz_iload_n dX11_village_15 rfl ?_
        refine rz_bipush dX11_village_16 (by decide) ?_
        refine rz_icmp_gt (t := 29) dX11_village_18 rfl (by omega) (by omega) (fun c18 => ?_) (fun c18 => ?_)
        · refine rz_iconst dX11_village_29 ?_
          refine rz_iret dX11_village_30 rfl ?_
          exact ⟨_, rfl, by unfold villZ; split <;> (try split) <;> omega, by unfold villM; split <;> first | rfl | omega, rfl⟩
        · refine rz_iload_n dX11_village_21 rfl ?_
          refine rz_bipush dX11_village_22 (by decide) ?_
          refine rz_irem dX11_village_24 (by omega) (by omega) ?_
          refine rz_iconst dX11_village_25 ?_
          refine rz_icmp_le (t := 31) dX11_village_26 rfl (by omega) (by omega) (fun c26 => ?_) (fun c26 => ?_)
          · refine rz_aload_n dX11_village_31 rfl ?_
            refine rz_getR dX11_village_32 kf_RX11_21 hd_0 rfl rr_0_1 ?_
            refine rz_getI (z := (I 6 0)) dX11_village_35 kf_RX11_88 hd_6 rfl rfl ?_
            refine rz_iconst dX11_village_38 ?_
            refine rz_icmp_lt (t := 45) dX11_village_39 rfl (by omega) (by omega) (fun c39 => ?_) (fun c39 => ?_)
            · refine rz_aload_n dX11_village_45 rfl ?_
              refine rz_getR dX11_village_46 kf_RX11_21 hd_0 rfl rr_0_1 ?_
              refine rz_iload_n dX11_village_49 rfl ?_
              refine rz_iload_n dX11_village_50 rfl ?_
              refine rz_bipush dX11_village_51 (by decide) ?_
              refine rz_idiv dX11_village_53 (by omega) (by omega) ?_
              refine rz_iload_n dX11_village_54 rfl ?_
              refine rz_bipush dX11_village_55 (by decide) ?_
              refine rz_irem dX11_village_57 (by omega) (by omega) ?_
              refine rz_cVI dX11_village_58 kl_RX11_92 hd_6 ⟨_, _, rfl⟩ (c_X8_found X _ I J w (t / 10) (t % 10) (by omega)) rfl rfl (Nat.le_of_ble_eq_true rfl) (Nat.le_of_ble_eq_true rfl) ?_
              refine rz_iret dX11_village_61 rfl ?_
              exact ⟨_, rfl, by unfold villZ; split <;> (try split) <;> omega, by unfold villM; split <;> first | rfl | omega, rfl⟩
            · refine rz_bipush dX11_village_42 (by decide) ?_
              refine rz_iret dX11_village_44 rfl ?_
              exact ⟨_, rfl, by unfold villZ; split <;> (try split) <;> omega, by unfold villM; split <;> first | rfl | omega, rfl⟩
          · refine rz_iconst dX11_village_29 ?_
            refine rz_iret dX11_village_30 rfl ?_
            exact ⟨_, rfl, by unfold villZ; split <;> (try split) <;> omega, by unfold villM; split <;> first | rfl | omega, rfl⟩
abbrev mayB (I : IM) (n w v : Int) : Prop := (0 ≤ v ∧ v ≤ 9) ∧ ((w = 0 ∧ 0 ≤ n ∧ n ≤ 1) ∨ (w = 1 ∧ 0 ≤ n ∧ n < I 6 0 ∧ 1 ≤ v) ∨ (w = 2 ∧ 0 ≤ n ∧ n < I 6 0))
set_option maxRecDepth 20000 in
set_option maxHeartbeats 400000 in
theorem c_X8_mayBecome (X : pX) (h : Nat) (I J : IM) (n w v : Int) (hn : rg n) (hw : rg w) (hvv : rg v) (hv : 0 ≤ I 6 0 ∧ I 6 0 ≤ 5) : KIq X (h + 1) mX8_mayBecome [.ref 6, zi n, zi w, zi v] I J (BQ I J (mayB I n w v)) := by
  show Rz X (h + 1) mX8_mayBecome 0 [some (.ref 6), some (zi n), some (zi w), some (zi v)] [] I J _
  refine rz_iload_n dX8_mayBecome_0 rfl ?_
  refine rz_if_lt (t := 10) dX8_mayBecome_1 rfl (by omega) (fun c1 => ?_) (fun c1 => ?_)
  · refine rz_iconst dX8_mayBecome_10 ?_
    refine rz_zret dX8_mayBecome_11 rfl (by decide) ?_
    exact ⟨_, rfl, Or.inr ⟨rfl, by unfold mayB; omega⟩, rfl, rfl⟩
  · refine rz_iload_n dX8_mayBecome_4 rfl ?_
    refine rz_bipush dX8_mayBecome_5 (by decide) ?_
    refine rz_icmp_le (t := 12) dX8_mayBecome_7 rfl (by omega) (by omega) (fun c7 => ?_) (fun c7 => ?_)
    · refine rz_iload_n dX8_mayBecome_12 rfl ?_
      by_cases s13_0 : w = 0
      · subst s13_0
        refine rz_tableIn (t := 40) dX8_mayBecome_13 (by omega) (by decide) rfl rfl ?_
        refine rz_iload_n dX8_mayBecome_40 rfl ?_
        refine rz_cNIq dX8_mayBecome_41 kl_RX8_39 (c_X11_isBaker X _ I J n (by omega)) rfl rfl (Nat.le_of_ble_eq_true rfl) (Nat.le_of_ble_eq_true rfl) ?_
        rintro z41 A41 B41 ⟨⟨rfl, b41⟩ | ⟨rfl, b41⟩, rfl, rfl⟩
        · refine rz_zret dX8_mayBecome_44 rfl (by decide) ?_
          exact ⟨_, rfl, Or.inl ⟨rfl, by unfold mayB; omega⟩, rfl, rfl⟩
        · refine rz_zret dX8_mayBecome_44 rfl (by decide) ?_
          exact ⟨_, rfl, Or.inr ⟨rfl, by unfold mayB; omega⟩, rfl, rfl⟩
      by_cases s13_1 : w = 1
      · subst s13_1
        refine rz_tableIn (t := 45) dX8_mayBecome_13 (by omega) (by decide) rfl rfl ?_
        refine rz_aload_n dX8_mayBecome_45 rfl ?_
        refine rz_iload_n dX8_mayBecome_46 rfl ?_
        refine rz_cVIq dX8_mayBecome_47 kl_RX8_43 hd_6 ⟨_, _, rfl⟩ (c_X8_isVillage X _ I J n (by omega) (by omega)) rfl rfl (Nat.le_of_ble_eq_true rfl) (Nat.le_of_ble_eq_true rfl) ?_
        rintro z47 A47 B47 ⟨⟨rfl, b47⟩ | ⟨rfl, b47⟩, rfl, rfl⟩
        · refine rz_if_eq (t := 62) dX8_mayBecome_50 rfl (by omega) (fun q => absurd q (by decide)) (fun _ => ?_)
          refine rz_iload_n dX8_mayBecome_53 rfl ?_
          refine rz_iconst dX8_mayBecome_54 ?_
          refine rz_icmp_lt (t := 62) dX8_mayBecome_55 rfl (by omega) (by omega) (fun c55 => ?_) (fun c55 => ?_)
          · refine rz_iconst dX8_mayBecome_62 ?_
            refine rz_zret dX8_mayBecome_63 rfl (by decide) ?_
            exact ⟨_, rfl, Or.inr ⟨rfl, by unfold mayB; omega⟩, rfl, rfl⟩
          · refine rz_iconst dX8_mayBecome_58 ?_
            refine rz_goto (t := 63) dX8_mayBecome_59 rfl ?_
            refine rz_zret dX8_mayBecome_63 rfl (by decide) ?_
            exact ⟨_, rfl, Or.inl ⟨rfl, by unfold mayB; omega⟩, rfl, rfl⟩
        · refine rz_if_eq (t := 62) dX8_mayBecome_50 rfl (by omega) (fun _ => ?_) (fun q => absurd q (by decide))
          refine rz_iconst dX8_mayBecome_62 ?_
          refine rz_zret dX8_mayBecome_63 rfl (by decide) ?_
          exact ⟨_, rfl, Or.inr ⟨rfl, by unfold mayB; omega⟩, rfl, rfl⟩
      by_cases s13_2 : w = 2
      · subst s13_2
        refine rz_tableIn (t := 64) dX8_mayBecome_13 (by omega) (by decide) rfl rfl ?_
        refine rz_aload_n dX8_mayBecome_64 rfl ?_
        refine rz_iload_n dX8_mayBecome_65 rfl ?_
        refine rz_cVIq dX8_mayBecome_66 kl_RX8_43 hd_6 ⟨_, _, rfl⟩ (c_X8_isVillage X _ I J n (by omega) (by omega)) rfl rfl (Nat.le_of_ble_eq_true rfl) (Nat.le_of_ble_eq_true rfl) ?_
        rintro z66 A66 B66 ⟨⟨rfl, b66⟩ | ⟨rfl, b66⟩, rfl, rfl⟩
        · refine rz_zret dX8_mayBecome_69 rfl (by decide) ?_
          exact ⟨_, rfl, Or.inl ⟨rfl, by unfold mayB; omega⟩, rfl, rfl⟩
        · refine rz_zret dX8_mayBecome_69 rfl (by decide) ?_
          exact ⟨_, rfl, Or.inr ⟨rfl, by unfold mayB; omega⟩, rfl, rfl⟩
      refine rz_tableOut (t := 70) dX8_mayBecome_13 (by omega) (by omega) rfl ?_
      refine rz_iconst dX8_mayBecome_70 ?_
      refine rz_zret dX8_mayBecome_71 rfl (by decide) ?_
      exact ⟨_, rfl, Or.inr ⟨rfl, by unfold mayB; omega⟩, rfl, rfl⟩
    · refine rz_iconst dX8_mayBecome_10 ?_
      refine rz_zret dX8_mayBecome_11 rfl (by decide) ?_
      exact ⟨_, rfl, Or.inr ⟨rfl, by unfold mayB; omega⟩, rfl, rfl⟩
def valT (I : IM) (n w : Int) : Int := if w = 0 then I 10 n.toNat else if w = 1 then I 7 n.toNat else I 8 n.toNat
set_option maxRecDepth 20000 in
set_option maxHeartbeats 400000 in
theorem c_X8_valueOf (X : pX) (h : Nat) (I J : IM) (n w : Int) (hw : rg w) (hn : 0 ≤ n ∧ n < 5) (h0 : w = 0 → n < 2) : KI X h mX8_valueOf [.ref 6, zi n, zi w] I J (valT I n w) I J := by
  show Rz X h mX8_valueOf 0 [some (.ref 6), some (zi n), some (zi w)] [] I J _
  refine rz_iload_n dX8_valueOf_0 rfl ?_
  refine rz_if_ne (t := 13) dX8_valueOf_1 rfl (by omega) (fun c1 => ?_) (fun c1 => ?_)
  · refine rz_iload_n dX8_valueOf_13 rfl ?_
    refine rz_iconst dX8_valueOf_14 ?_
    refine rz_icmp_ne (t := 27) dX8_valueOf_15 rfl (by omega) (by omega) (fun c15 => ?_) (fun c15 => ?_)
    · refine rz_aload_n dX8_valueOf_27 rfl ?_
      refine rz_getR dX8_valueOf_28 kf_RX8_15 hd_6 rfl rr_6_2 ?_
      refine rz_iload_n dX8_valueOf_31 rfl ?_
      refine rz_iald (z := (I 8 (n).toNat)) dX8_valueOf_32 hd_8 (by decide) (by omega) rfl ?_
      refine rz_iret dX8_valueOf_33 rfl ?_
      exact ⟨_, rfl, by simp [valT, *], rfl, rfl⟩
    · refine rz_aload_n dX8_valueOf_18 rfl ?_
      refine rz_getR dX8_valueOf_19 kf_RX8_11 hd_6 rfl rr_6_1 ?_
      refine rz_iload_n dX8_valueOf_22 rfl ?_
      refine rz_iald (z := (I 7 (n).toNat)) dX8_valueOf_23 hd_7 (by decide) (by omega) rfl ?_
      refine rz_goto (t := 33) dX8_valueOf_24 rfl ?_
      refine rz_iret dX8_valueOf_33 rfl ?_
      exact ⟨_, rfl, by simp [valT, *], rfl, rfl⟩
  · refine rz_aload_n dX8_valueOf_4 rfl ?_
    refine rz_getR dX8_valueOf_5 kf_RX8_21 hd_6 rfl rr_6_4 ?_
    refine rz_iload_n dX8_valueOf_8 rfl ?_
    refine rz_iald (z := (I 10 (n).toNat)) dX8_valueOf_9 hd_10 (by decide) (by omega) rfl ?_
    refine rz_goto (t := 33) dX8_valueOf_10 rfl ?_
    refine rz_iret dX8_valueOf_33 rfl ?_
    exact ⟨_, rfl, by simp [valT, *], rfl, rfl⟩
def becM (I : IM) (n w v : Int) : IM := if w = 0 then upA I 10 (up1 (I 10) n.toNat v) else if w = 1 then upA (upA I 7 (up1 (I 7) n.toNat v)) 12 (up1 (I 12) n.toNat 0) else upA (upA I 8 (up1 (I 8) n.toNat v)) 12 (up1 (I 12) n.toNat 0)
set_option maxRecDepth 20000 in
set_option maxHeartbeats 400000 in
theorem c_X8_become (X : pX) (h : Nat) (I J : IM) (n w v : Int) (hn : rg n) (hw : rg w) (hvv : rg v) (hv : 0 ≤ I 6 0 ∧ I 6 0 ≤ 5) (hm : mayB I n w v) : KV X (h + 2) mX8_become [.ref 6, zi n, zi w, zi v] I J (becM I n w v) J := by
  show Rz X (h + 2) mX8_become 0 [some (.ref 6), some (zi n), some (zi w), some (zi v)] [] I J _
  have hm2 := hm
  unfold mayB at hm2
  refine rz_aload_n dX8_become_0 rfl ?_
  refine rz_iload_n dX8_become_1 rfl ?_
  refine rz_iload_n dX8_become_2 rfl ?_
  refine rz_iload_n dX8_become_3 rfl ?_
  refine rz_cVIq dX8_become_4 kl_RX8_46 hd_6 ⟨_, _, rfl⟩ (c_X8_mayBecome X _ I J n w v (by omega) (by omega) (by omega) (by omega)) rfl rfl (Nat.le_of_ble_eq_true rfl) (Nat.le_of_ble_eq_true rfl) ?_
  rintro z4 A4 B4 ⟨⟨rfl, b4⟩ | ⟨rfl, b4⟩, rfl, rfl⟩
  · refine rz_if_ne (t := 11) dX8_become_7 rfl (by omega) (fun _ => ?_) (fun q => absurd q (by decide))
    refine rz_iload_n dX8_become_11 rfl ?_
    refine rz_if_ne (t := 23) dX8_become_12 rfl (by omega) (fun c12 => ?_) (fun c12 => ?_)
    · refine rz_iload_n dX8_become_23 rfl ?_
      refine rz_iconst dX8_become_24 ?_
      refine rz_icmp_ne (t := 38) dX8_become_25 rfl (by omega) (by omega) (fun c25 => ?_) (fun c25 => ?_)
      · refine rz_aload_n dX8_become_38 rfl ?_
        refine rz_getR dX8_become_39 kf_RX8_15 hd_6 rfl rr_6_2 ?_
        refine rz_iload_n dX8_become_42 rfl ?_
        refine rz_iload_n dX8_become_43 rfl ?_
        refine rz_iast dX8_become_44 hd_8 (by decide) (by omega) ?_
        refine rz_aload_n dX8_become_45 rfl ?_
        refine rz_getR dX8_become_46 kf_RX8_27 hd_6 rfl rr_6_6 ?_
        refine rz_iload_n dX8_become_49 rfl ?_
        refine rz_iconst dX8_become_50 ?_
        refine rz_zast dX8_become_51 hd_12 (by decide) (by omega) (by omega) ?_
        refine rz_vret dX8_become_52 rfl ?_
        exact ⟨rfl, by simp [becM, *]; try rfl, rfl⟩
      · refine rz_aload_n dX8_become_28 rfl ?_
        refine rz_getR dX8_become_29 kf_RX8_11 hd_6 rfl rr_6_1 ?_
        refine rz_iload_n dX8_become_32 rfl ?_
        refine rz_iload_n dX8_become_33 rfl ?_
        refine rz_iast dX8_become_34 hd_7 (by decide) (by omega) ?_
        refine rz_goto (t := 45) dX8_become_35 rfl ?_
        refine rz_aload_n dX8_become_45 rfl ?_
        refine rz_getR dX8_become_46 kf_RX8_27 hd_6 rfl rr_6_6 ?_
        refine rz_iload_n dX8_become_49 rfl ?_
        refine rz_iconst dX8_become_50 ?_
        refine rz_zast dX8_become_51 hd_12 (by decide) (by omega) (by omega) ?_
        refine rz_vret dX8_become_52 rfl ?_
        exact ⟨rfl, by simp [becM, *]; try rfl, rfl⟩
    · refine rz_aload_n dX8_become_15 rfl ?_
      refine rz_getR dX8_become_16 kf_RX8_21 hd_6 rfl rr_6_4 ?_
      refine rz_iload_n dX8_become_19 rfl ?_
      refine rz_iload_n dX8_become_20 rfl ?_
      refine rz_iast dX8_become_21 hd_10 (by decide) (by omega) ?_
      refine rz_vret dX8_become_22 rfl ?_
      exact ⟨rfl, by simp [becM, *]; try rfl, rfl⟩
  · exact absurd hm b4
def dropM (I : IM) : IM := upA (upA (upA (upA (upA I 59 (va_cpy (I 59) (I 59) 1 0 39)) 60 (va_cpy (I 60) (I 60) 1 0 39)) 61 (va_cpy (I 61) (I 61) 1 0 39)) 62 (va_cpy (I 62) (I 62) 1 0 39)) 58 (up1 (I 58) 1 39)
def noteW (I : IM) (n w a v : Int) : IM := upA (upA (upA (upA (upA (upA I 59 (up1 (I 59) (I 58 1).toNat n)) 60 (up1 (I 60) (I 58 1).toNat w)) 61 (up1 (I 61) (I 58 1).toNat a)) 62 (up1 (I 62) (I 58 1).toNat v)) 58 (up1 (I 58) 1 (I 58 1 + 1))) 58 (up1 (up1 (I 58) 1 (I 58 1 + 1)) 0 (I 58 1 + 1))
def noteM (I : IM) (n w a v : Int) : IM := if 40 ≤ I 58 1 then noteW (dropM I) n w a v else noteW I n w a v
theorem noteM_lt {I : IM} {n w a v : Int} (h : I 58 1 < 40) : noteM I n w a v = noteW I n w a v := if_neg (by omega)
theorem noteM_ge {I : IM} {n w a v : Int} (h : 40 ≤ I 58 1) : noteM I n w a v = noteW (dropM I) n w a v := if_pos h
set_option maxRecDepth 20000 in
set_option maxHeartbeats 400000 in
theorem c_X1_dropFirst (X : pX) (h : Nat) (I J : IM)  : KV X (h + 1) mX1_dropFirst [.ref 58] I J (dropM I) J := by
  show Rz X (h + 1) mX1_dropFirst 0 [some (.ref 58)] [] I J _
  refine rz_aload_n dX1_dropFirst_0 rfl ?_
  refine rz_getR dX1_dropFirst_1 kf_RX1_9 hd_58 rfl rr_58_2 ?_
  refine rz_iconst dX1_dropFirst_4 ?_
  refine rz_aload_n dX1_dropFirst_5 rfl ?_
  refine rz_getR dX1_dropFirst_6 kf_RX1_9 hd_58 rfl rr_58_2 ?_
  refine rz_iconst dX1_dropFirst_9 ?_
  refine rz_bipush dX1_dropFirst_10 (by decide) ?_
  refine rz_copyi dX1_dropFirst_12 kl_RX1_32 hd_59 hd_59 (by decide) (Nat.le_of_ble_eq_true rfl) (by omega) ?_
  refine rz_aload_n dX1_dropFirst_15 rfl ?_
  refine rz_getR dX1_dropFirst_16 kf_RX1_13 hd_58 rfl rr_58_3 ?_
  refine rz_iconst dX1_dropFirst_19 ?_
  refine rz_aload_n dX1_dropFirst_20 rfl ?_
  refine rz_getR dX1_dropFirst_21 kf_RX1_13 hd_58 rfl rr_58_3 ?_
  refine rz_iconst dX1_dropFirst_24 ?_
  refine rz_bipush dX1_dropFirst_25 (by decide) ?_
  refine rz_copyi dX1_dropFirst_27 kl_RX1_32 hd_60 hd_60 (by decide) (Nat.le_of_ble_eq_true rfl) (by omega) ?_
  refine rz_aload_n dX1_dropFirst_30 rfl ?_
  refine rz_getR dX1_dropFirst_31 kf_RX1_16 hd_58 rfl rr_58_4 ?_
  refine rz_iconst dX1_dropFirst_34 ?_
  refine rz_aload_n dX1_dropFirst_35 rfl ?_
  refine rz_getR dX1_dropFirst_36 kf_RX1_16 hd_58 rfl rr_58_4 ?_
  refine rz_iconst dX1_dropFirst_39 ?_
  refine rz_bipush dX1_dropFirst_40 (by decide) ?_
  refine rz_copyi dX1_dropFirst_42 kl_RX1_32 hd_61 hd_61 (by decide) (Nat.le_of_ble_eq_true rfl) (by omega) ?_
  refine rz_aload_n dX1_dropFirst_45 rfl ?_
  refine rz_getR dX1_dropFirst_46 kf_RX1_19 hd_58 rfl rr_58_5 ?_
  refine rz_iconst dX1_dropFirst_49 ?_
  refine rz_aload_n dX1_dropFirst_50 rfl ?_
  refine rz_getR dX1_dropFirst_51 kf_RX1_19 hd_58 rfl rr_58_5 ?_
  refine rz_iconst dX1_dropFirst_54 ?_
  refine rz_bipush dX1_dropFirst_55 (by decide) ?_
  refine rz_copyi dX1_dropFirst_57 kl_RX1_32 hd_62 hd_62 (by decide) (Nat.le_of_ble_eq_true rfl) (by omega) ?_
  refine rz_aload_n dX1_dropFirst_60 rfl ?_
  refine rz_bipush dX1_dropFirst_61 (by decide) ?_
  refine rz_putI dX1_dropFirst_63 kp_RX1_22 hd_58 rfl ?_
  refine rz_vret dX1_dropFirst_66 rfl ?_
  exact ⟨rfl, by funext a k; simp only [dropM, upA, up1]; split <;> rfl, rfl⟩
set_option maxRecDepth 20000 in
set_option maxHeartbeats 400000 in
theorem c_X1_note (X : pX) (h : Nat) (I J : IM) (n w a v : Int) (hd0 : 0 ≤ I 58 1 ∧ I 58 1 ≤ 40) : KV X (h + 2) mX1_note [.ref 58, zi n, zi w, zi a, zi v] I J (noteM I n w a v) J := by
  show Rz X (h + 2) mX1_note 0 [some (.ref 58), some (zi n), some (zi w), some (zi a), some (zi v)] [] I J _
  refine rz_aload_n dX1_note_0 rfl ?_
  refine rz_getI (z := (I 58 1)) dX1_note_1 kf_RX1_22 hd_58 rfl rfl ?_
  refine rz_bipush dX1_note_4 (by decide) ?_
  refine rz_icmp_lt (t := 13) dX1_note_6 rfl (by omega) (by omega) (fun c6 => ?_) (fun c6 => ?_)
  · refine rz_aload_n dX1_note_13 rfl ?_
    refine rz_getR dX1_note_14 kf_RX1_9 hd_58 rfl rr_58_2 ?_
    refine rz_aload_n dX1_note_17 rfl ?_
    refine rz_getI (z := (I 58 1)) dX1_note_18 kf_RX1_22 hd_58 rfl rfl ?_
    refine rz_iload_n dX1_note_21 rfl ?_
    refine rz_iast dX1_note_22 hd_59 (by decide) (by omega) ?_
    refine rz_aload_n dX1_note_23 rfl ?_
    refine rz_getR dX1_note_24 kf_RX1_13 hd_58 rfl rr_58_3 ?_
    refine rz_aload_n dX1_note_27 rfl ?_
    refine rz_getI (z := (I 58 1)) dX1_note_28 kf_RX1_22 hd_58 rfl rfl ?_
    refine rz_iload_n dX1_note_31 rfl ?_
    refine rz_iast dX1_note_32 hd_60 (by decide) (by omega) ?_
    refine rz_aload_n dX1_note_33 rfl ?_
    refine rz_getR dX1_note_34 kf_RX1_16 hd_58 rfl rr_58_4 ?_
    refine rz_aload_n dX1_note_37 rfl ?_
    refine rz_getI (z := (I 58 1)) dX1_note_38 kf_RX1_22 hd_58 rfl rfl ?_
    refine rz_iload_n dX1_note_41 rfl ?_
    refine rz_iast dX1_note_42 hd_61 (by decide) (by omega) ?_
    refine rz_aload_n dX1_note_43 rfl ?_
    refine rz_getR dX1_note_44 kf_RX1_19 hd_58 rfl rr_58_5 ?_
    refine rz_aload_n dX1_note_47 rfl ?_
    refine rz_getI (z := (I 58 1)) dX1_note_48 kf_RX1_22 hd_58 rfl rfl ?_
    refine rz_iload dX1_note_51 rfl ?_
    refine rz_iast dX1_note_53 hd_62 (by decide) (by omega) ?_
    refine rz_aload_n dX1_note_54 rfl ?_
    refine rz_dup dX1_note_55 rfl ?_
    refine rz_getI (z := (I 58 1)) dX1_note_56 kf_RX1_22 hd_58 rfl rfl ?_
    refine rz_iconst dX1_note_59 ?_
    refine rz_iadd dX1_note_60 ?_
    refine rz_putI dX1_note_61 kp_RX1_22 hd_58 rfl ?_
    refine rz_aload_n dX1_note_64 rfl ?_
    refine rz_aload_n dX1_note_65 rfl ?_
    refine rz_getI (z := ((I 58 1) + 1)) dX1_note_66 kf_RX1_22 hd_58 rfl rfl ?_
    refine rz_putI dX1_note_69 kp_RX1_29 hd_58 rfl ?_
    refine rz_vret dX1_note_72 rfl ?_
    exact ⟨rfl, by first | (rw [noteM_lt c6]; rfl) | (rw [noteM_ge c6]; rfl), rfl⟩
  · refine rz_aload_n dX1_note_9 rfl ?_
    refine rz_cVV dX1_note_10 kl_RX1_26 hd_58 ⟨_, _, rfl⟩ (c_X1_dropFirst X _ I J) rfl rfl (Nat.le_of_ble_eq_true rfl) (Nat.le_of_ble_eq_true rfl) ?_
    have hd : dropM I 58 1 = 39 := rfl
    refine rz_aload_n dX1_note_13 rfl ?_
    refine rz_getR dX1_note_14 kf_RX1_9 hd_58 rfl rr_58_2 ?_
    refine rz_aload_n dX1_note_17 rfl ?_
    refine rz_getI (z := ((dropM I) 58 1)) dX1_note_18 kf_RX1_22 hd_58 rfl rfl ?_
    refine rz_iload_n dX1_note_21 rfl ?_
    refine rz_iast dX1_note_22 hd_59 (by decide) (by omega) ?_
    refine rz_aload_n dX1_note_23 rfl ?_
    refine rz_getR dX1_note_24 kf_RX1_13 hd_58 rfl rr_58_3 ?_
    refine rz_aload_n dX1_note_27 rfl ?_
    refine rz_getI (z := ((dropM I) 58 1)) dX1_note_28 kf_RX1_22 hd_58 rfl rfl ?_
    refine rz_iload_n dX1_note_31 rfl ?_
    refine rz_iast dX1_note_32 hd_60 (by decide) (by omega) ?_
    refine rz_aload_n dX1_note_33 rfl ?_
    refine rz_getR dX1_note_34 kf_RX1_16 hd_58 rfl rr_58_4 ?_
    refine rz_aload_n dX1_note_37 rfl ?_
    refine rz_getI (z := ((dropM I) 58 1)) dX1_note_38 kf_RX1_22 hd_58 rfl rfl ?_
    refine rz_iload_n dX1_note_41 rfl ?_
    refine rz_iast dX1_note_42 hd_61 (by decide) (by omega) ?_
    refine rz_aload_n dX1_note_43 rfl ?_
    refine rz_getR dX1_note_44 kf_RX1_19 hd_58 rfl rr_58_5 ?_
    refine rz_aload_n dX1_note_47 rfl ?_
    refine rz_getI (z := ((dropM I) 58 1)) dX1_note_48 kf_RX1_22 hd_58 rfl rfl ?_
    refine rz_iload dX1_note_51 rfl ?_
    refine rz_iast dX1_note_53 hd_62 (by decide) (by omega) ?_
    refine rz_aload_n dX1_note_54 rfl ?_
    refine rz_dup dX1_note_55 rfl ?_
    refine rz_getI (z := ((dropM I) 58 1)) dX1_note_56 kf_RX1_22 hd_58 rfl rfl ?_
    refine rz_iconst dX1_note_59 ?_
    refine rz_iadd dX1_note_60 ?_
    refine rz_putI dX1_note_61 kp_RX1_22 hd_58 rfl ?_
    refine rz_aload_n dX1_note_64 rfl ?_
    refine rz_aload_n dX1_note_65 rfl ?_
    refine rz_getI (z := (((dropM I) 58 1) + 1)) dX1_note_66 kf_RX1_22 hd_58 rfl rfl ?_
    refine rz_putI dX1_note_69 kp_RX1_29 hd_58 rfl ?_
    refine rz_vret dX1_note_72 rfl ?_
    exact ⟨rfl, by first | (rw [noteM_lt c6]; rfl) | (rw [noteM_ge c6]; rfl), rfl⟩
