/-! the mixes -/
def addC (I : IM) (o : Nat) (w : Int) : IM := upA (upA (upA I (o + 2) (va_cpy (I 79) (I (o + 2)) 0 (I o 0 * 5).toNat 5)) (o + 1) (up1 (I (o + 1)) (I o 0).toNat w)) o (up1 (I o) 0 (I o 0 + 1))
def mixZ (m : Int) (n : Nat) (p L b w : Int) : Int := if ¬ ((0 ≤ b ∧ b ≤ 1) ∧ 0 ≤ w ∧ w ≤ 9) then -1 else if w = 0 then 0 else if ¬ okP n p L then -1 else if m = 8 then -3 else m + 1
def mixC (I : IM) (o : Nat) (g : Nat → Int) (n : Nat) (p L b w : Int) : IM := if ¬ ((0 ≤ b ∧ b ≤ 1) ∧ 0 ≤ w ∧ w ≤ 9) then upA I 79 g else if w = 0 then upA (upA I 79 g) o (up1 (I o) 0 0) else if ¬ okP n p L then upA I 79 g else if I o 0 = 8 then upA I 79 g else addC (upA I 79 g) o w
set_option maxRecDepth 20000 in
set_option maxHeartbeats 400000 in
theorem c_add14 (X : pX) (h : Nat) (I J : IM) (w : Int) (hs : 0 ≤ I 14 0 ∧ I 14 0 ≤ 8) : KIq X (h + 1) mX5_add [.ref 14, .ref 79, zi w] I J (fun z A B => ((z = 1 ∧ I 14 0 ≠ 8 ∧ A = addC I 14 w) ∨ (z = 0 ∧ I 14 0 = 8 ∧ I = A)) ∧ J = B) := by
  show Rz X (h + 1) mX5_add 0 [some (.ref 14), some (.ref 79), some (zi w)] [] I J _
  refine rz_aload_n dX5_add_0 rfl ?_
  refine rz_getI (z := (I 14 0)) dX5_add_1 kf_RX5_18 hd_14 rfl rfl ?_
  refine rz_bipush dX5_add_4 (by decide) ?_
  refine rz_icmp_lt (t := 11) dX5_add_6 rfl (by omega) (by omega) (fun c6 => ?_) (fun c6 => ?_)
  · refine rz_aload_n dX5_add_11 rfl ?_
    refine rz_iconst dX5_add_12 ?_
    refine rz_aload_n dX5_add_13 rfl ?_
    refine rz_getR dX5_add_14 kf_RX5_15 hd_14 rfl rr_14_2 ?_
    refine rz_aload_n dX5_add_17 rfl ?_
    refine rz_getI (z := (I 14 0)) dX5_add_18 kf_RX5_18 hd_14 rfl rfl ?_
    refine rz_iconst dX5_add_21 ?_
    refine rz_imul dX5_add_22 ?_
    refine rz_iconst dX5_add_23 ?_
    refine rz_copyi dX5_add_24 kl_RX5_22 hd_79 hd_16 (by decide) (Nat.le_of_ble_eq_true rfl) (by omega) ?_
    refine rz_aload_n dX5_add_27 rfl ?_
    refine rz_getR dX5_add_28 kf_RX5_9 hd_14 rfl rr_14_1 ?_
    refine rz_aload_n dX5_add_31 rfl ?_
    refine rz_getI (z := (I 14 0)) dX5_add_32 kf_RX5_18 hd_14 rfl rfl ?_
    refine rz_iload_n dX5_add_35 rfl ?_
    refine rz_iast dX5_add_36 hd_15 (by decide) (by omega) ?_
    refine rz_aload_n dX5_add_37 rfl ?_
    refine rz_dup dX5_add_38 rfl ?_
    refine rz_getI (z := (I 14 0)) dX5_add_39 kf_RX5_18 hd_14 rfl rfl ?_
    refine rz_iconst dX5_add_42 ?_
    refine rz_iadd dX5_add_43 ?_
    refine rz_putI dX5_add_44 kp_RX5_18 hd_14 rfl ?_
    refine rz_iconst dX5_add_47 ?_
    refine rz_zret dX5_add_48 rfl (by decide) ?_
    exact ⟨_, rfl, Or.inl ⟨rfl, by omega, rfl⟩, rfl⟩
  · refine rz_iconst dX5_add_9 ?_
    refine rz_zret dX5_add_10 rfl (by decide) ?_
    exact ⟨_, rfl, Or.inr ⟨rfl, by omega, rfl⟩, rfl⟩
set_option maxRecDepth 20000 in
set_option maxHeartbeats 400000 in
theorem c_add17 (X : pX) (h : Nat) (I J : IM) (w : Int) (hs : 0 ≤ I 17 0 ∧ I 17 0 ≤ 8) : KIq X (h + 1) mX5_add [.ref 17, .ref 79, zi w] I J (fun z A B => ((z = 1 ∧ I 17 0 ≠ 8 ∧ A = addC I 17 w) ∨ (z = 0 ∧ I 17 0 = 8 ∧ I = A)) ∧ J = B) := by
  show Rz X (h + 1) mX5_add 0 [some (.ref 17), some (.ref 79), some (zi w)] [] I J _
  refine rz_aload_n dX5_add_0 rfl ?_
  refine rz_getI (z := (I 17 0)) dX5_add_1 kf_RX5_18 hd_17 rfl rfl ?_
  refine rz_bipush dX5_add_4 (by decide) ?_
  refine rz_icmp_lt (t := 11) dX5_add_6 rfl (by omega) (by omega) (fun c6 => ?_) (fun c6 => ?_)
  · refine rz_aload_n dX5_add_11 rfl ?_
    refine rz_iconst dX5_add_12 ?_
    refine rz_aload_n dX5_add_13 rfl ?_
    refine rz_getR dX5_add_14 kf_RX5_15 hd_17 rfl rr_17_2 ?_
    refine rz_aload_n dX5_add_17 rfl ?_
    refine rz_getI (z := (I 17 0)) dX5_add_18 kf_RX5_18 hd_17 rfl rfl ?_
    refine rz_iconst dX5_add_21 ?_
    refine rz_imul dX5_add_22 ?_
    refine rz_iconst dX5_add_23 ?_
    refine rz_copyi dX5_add_24 kl_RX5_22 hd_79 hd_19 (by decide) (Nat.le_of_ble_eq_true rfl) (by omega) ?_
    refine rz_aload_n dX5_add_27 rfl ?_
    refine rz_getR dX5_add_28 kf_RX5_9 hd_17 rfl rr_17_1 ?_
    refine rz_aload_n dX5_add_31 rfl ?_
    refine rz_getI (z := (I 17 0)) dX5_add_32 kf_RX5_18 hd_17 rfl rfl ?_
    refine rz_iload_n dX5_add_35 rfl ?_
    refine rz_iast dX5_add_36 hd_18 (by decide) (by omega) ?_
    refine rz_aload_n dX5_add_37 rfl ?_
    refine rz_dup dX5_add_38 rfl ?_
    refine rz_getI (z := (I 17 0)) dX5_add_39 kf_RX5_18 hd_17 rfl rfl ?_
    refine rz_iconst dX5_add_42 ?_
    refine rz_iadd dX5_add_43 ?_
    refine rz_putI dX5_add_44 kp_RX5_18 hd_17 rfl ?_
    refine rz_iconst dX5_add_47 ?_
    refine rz_zret dX5_add_48 rfl (by decide) ?_
    exact ⟨_, rfl, Or.inl ⟨rfl, by omega, rfl⟩, rfl⟩
  · refine rz_iconst dX5_add_9 ?_
    refine rz_zret dX5_add_10 rfl (by decide) ?_
    exact ⟨_, rfl, Or.inr ⟨rfl, by omega, rfl⟩, rfl⟩
theorem mix_n {I : IM} {o n : Nat} {p L b w : Int} (h : ¬ ((0 ≤ b ∧ b ≤ 1) ∧ 0 ≤ w ∧ w ≤ 9)) : mixC I o (I 79) n p L b w = I := by
  unfold mixC; rw [if_pos h]; exact upA_id
theorem mix_0 {I : IM} {o n : Nat} {p L b w : Int} (h : ((0 ≤ b ∧ b ≤ 1) ∧ 0 ≤ w ∧ w ≤ 9)) (h0 : w = 0) : mixC I o (I 79) n p L b w = upA I o (up1 (I o) 0 0) := by
  unfold mixC; rw [if_neg (fun q => q h), if_pos h0, upA_id]
set_option maxRecDepth 20000 in
set_option maxHeartbeats 400000 in
theorem c_mix14 (X : pX) (h : Nat) (I J : IM) (n : Nat) (hn : I 6 0 = n ∧ n ≤ 5) (p w : Int) (hp : rg p) (hw : rg w) (hl : 0 ≤ I 10 0 ∧ I 10 0 ≤ 9) (hs : 0 ≤ I 14 0 ∧ I 14 0 ≤ 8) : KIq X (h + 2) mX11_mix [.ref 0, zi 0, zi p, zi w] I J (fun z A B => z = mixZ (I 14 0) n p (I 10 0) 0 w ∧ (∃ g, ((0 ≤ w ∧ w ≤ 9) ∧ w ≠ 0 ∧ okP n p (I 10 0) → ∀ v, v < 5 → g v = dgt n p v) ∧ A = mixC I 14 g n p (I 10 0) 0 w) ∧ J = B) := by
  show Rz X (h + 2) mX11_mix 0 [some (.ref 0), some (zi 0), some (zi p), some (zi w), none] [] I J _
  refine rz_iload_n dX11_mix_0 rfl ?_
  refine rz_cSIq dX11_mix_1 kl_RX11_112 (c_X11_isBaker X _ I J 0 (by omega)) rfl rfl (Nat.le_of_ble_eq_true rfl) (Nat.le_of_ble_eq_true rfl) ?_
  rintro z1 A1 B1 ⟨⟨rfl, b1⟩ | ⟨rfl, b1⟩, rfl, rfl⟩
  · refine rz_if_eq (t := 17) dX11_mix_4 rfl (by omega) (fun q => absurd q (by decide)) (fun _ => ?_)
    refine rz_iload_n dX11_mix_7 rfl ?_
    refine rz_if_lt (t := 17) dX11_mix_8 rfl (by omega) (fun c8 => ?_) (fun c8 => ?_)
    · refine rz_iconst dX11_mix_17 ?_
      refine rz_iret dX11_mix_18 rfl ?_
      exact ⟨_, rfl, (if_pos (by omega)).symm, ⟨I 79, fun q => absurd q.1 (by omega), (mix_n (by omega)).symm⟩, rfl⟩
    · refine rz_iload_n dX11_mix_11 rfl ?_
      refine rz_bipush dX11_mix_12 (by decide) ?_
      refine rz_icmp_le (t := 19) dX11_mix_14 rfl (by omega) (by omega) (fun c14 => ?_) (fun c14 => ?_)
      · refine rz_aload_n dX11_mix_19 rfl ?_
        refine rz_getR dX11_mix_20 kf_RX11_28 hd_0 rfl rr_0_2 ?_
        refine rz_iload_n dX11_mix_23 rfl ?_
        refine rz_aald (by decide) dX11_mix_24 hd_13 (by decide) (by decide) rr_13_0 ?_
        refine rz_astore dX11_mix_25 (by decide) rfl ?_
        refine rz_iload_n dX11_mix_27 rfl ?_
        refine rz_if_ne (t := 39) dX11_mix_28 rfl (by omega) (fun c28 => ?_) (fun c28 => ?_)
        · refine rz_aload_n dX11_mix_39 rfl ?_
          refine rz_getR dX11_mix_40 kf_RX11_21 hd_0 rfl rr_0_1 ?_
          refine rz_iload_n dX11_mix_43 rfl ?_
          refine rz_iload_n dX11_mix_44 rfl ?_
          refine rz_aload_n dX11_mix_45 rfl ?_
          refine rz_getR dX11_mix_46 kf_RX11_81 hd_0 rfl rr_0_11 ?_
          refine rz_cVIq dX11_mix_49 kl_RX11_145 hd_6 ⟨_, _, rfl⟩ (c_X8_read79 X _ I J n hn p 0 (by omega) (by omega) hl) rfl rfl (Nat.le_of_ble_eq_true rfl) (Nat.le_of_ble_eq_true rfl) ?_
          rintro z49 _ _ ⟨g49, rfl, rfl, ⟨rfl, b49, k49⟩ | ⟨rfl, b49⟩⟩
          · refine rz_if_ne (t := 57) dX11_mix_52 rfl (by omega) (fun _ => ?_) (fun q => absurd q (by decide))
            refine rz_aload dX11_mix_57 rfl ?_
            refine rz_aload_n dX11_mix_59 rfl ?_
            refine rz_getR dX11_mix_60 kf_RX11_81 hd_0 rfl rr_0_11 ?_
            refine rz_iload_n dX11_mix_63 rfl ?_
            refine rz_cVIq dX11_mix_64 kl_RX11_149 hd_14 ⟨_, _, rfl⟩ (c_add14 X _ (upA I 79 g49) J w hs) rfl rfl (Nat.le_of_ble_eq_true rfl) (Nat.le_of_ble_eq_true rfl) ?_
            rintro z64 A64 _ ⟨⟨rfl, b64, rfl⟩ | ⟨rfl, b64, rfl⟩, rfl⟩
            · refine rz_if_eq (t := 78) dX11_mix_67 rfl (by omega) (fun q => absurd q (by decide)) (fun _ => ?_)
              refine rz_aload dX11_mix_70 rfl ?_
              refine rz_getI (z := ((addC (upA I 79 g49) 14 w) 14 0)) dX11_mix_72 kf_RX11_134 hd_14 rfl rfl ?_
              refine rz_goto (t := 80) dX11_mix_75 rfl ?_
              refine rz_iret dX11_mix_80 rfl ?_
              exact ⟨_, rfl, by rw [mixZ, if_neg (by omega), if_neg c28, if_neg (show ¬ ¬ okP n p (I 10 0) from fun q => q b49), if_neg (show ¬ I 14 0 = 8 from b64)]; rfl, ⟨g49, fun _ => k49, by rw [mixC, if_neg (by omega), if_neg c28, if_neg (show ¬ ¬ okP n p (I 10 0) from fun q => q b49), if_neg (show ¬ I 14 0 = 8 from b64)]⟩, rfl⟩
            · refine rz_if_eq (t := 78) dX11_mix_67 rfl (by omega) (fun _ => ?_) (fun q => absurd q (by decide))
              refine rz_bipush dX11_mix_78 (by decide) ?_
              refine rz_iret dX11_mix_80 rfl ?_
              exact ⟨_, rfl, by rw [mixZ, if_neg (by omega), if_neg c28, if_neg (show ¬ ¬ okP n p (I 10 0) from fun q => q b49), if_pos (show I 14 0 = 8 from b64)], ⟨g49, fun _ => k49, by rw [mixC, if_neg (by omega), if_neg c28, if_neg (show ¬ ¬ okP n p (I 10 0) from fun q => q b49), if_pos (show I 14 0 = 8 from b64)]⟩, rfl⟩
          · refine rz_if_ne (t := 57) dX11_mix_52 rfl (by omega) (fun q => absurd q (by decide)) (fun _ => ?_)
            refine rz_iconst dX11_mix_55 ?_
            refine rz_iret dX11_mix_56 rfl ?_
            exact ⟨_, rfl, by rw [mixZ, if_neg (by omega), if_neg c28, if_pos (show ¬ okP n p (I 10 0) from b49)], ⟨g49, fun q => absurd q.2.2 b49, by rw [mixC, if_neg (by omega), if_neg c28, if_pos (show ¬ okP n p (I 10 0) from b49)]⟩, rfl⟩
        · refine rz_aload dX11_mix_31 rfl ?_
          refine rz_iconst dX11_mix_33 ?_
          refine rz_putI dX11_mix_34 kp_RX11_134 hd_14 rfl ?_
          refine rz_iconst dX11_mix_37 ?_
          refine rz_iret dX11_mix_38 rfl ?_
          exact ⟨_, rfl, by rw [mixZ, if_neg (by omega), if_pos c28], ⟨I 79, fun q => absurd c28 q.2.1, (mix_0 (by omega) c28).symm⟩, rfl⟩
      · refine rz_iconst dX11_mix_17 ?_
        refine rz_iret dX11_mix_18 rfl ?_
        exact ⟨_, rfl, (if_pos (by omega)).symm, ⟨I 79, fun q => absurd q.1 (by omega), (mix_n (by omega)).symm⟩, rfl⟩
  · exfalso; omega
set_option maxRecDepth 20000 in
set_option maxHeartbeats 400000 in
theorem c_mix17 (X : pX) (h : Nat) (I J : IM) (n : Nat) (hn : I 6 0 = n ∧ n ≤ 5) (p w : Int) (hp : rg p) (hw : rg w) (hl : 0 ≤ I 10 1 ∧ I 10 1 ≤ 9) (hs : 0 ≤ I 17 0 ∧ I 17 0 ≤ 8) : KIq X (h + 2) mX11_mix [.ref 0, zi 1, zi p, zi w] I J (fun z A B => z = mixZ (I 17 0) n p (I 10 1) 1 w ∧ (∃ g, ((0 ≤ w ∧ w ≤ 9) ∧ w ≠ 0 ∧ okP n p (I 10 1) → ∀ v, v < 5 → g v = dgt n p v) ∧ A = mixC I 17 g n p (I 10 1) 1 w) ∧ J = B) := by
  show Rz X (h + 2) mX11_mix 0 [some (.ref 0), some (zi 1), some (zi p), some (zi w), none] [] I J _
  refine rz_iload_n dX11_mix_0 rfl ?_
  refine rz_cSIq dX11_mix_1 kl_RX11_112 (c_X11_isBaker X _ I J 1 (by omega)) rfl rfl (Nat.le_of_ble_eq_true rfl) (Nat.le_of_ble_eq_true rfl) ?_
  rintro z1 A1 B1 ⟨⟨rfl, b1⟩ | ⟨rfl, b1⟩, rfl, rfl⟩
  · refine rz_if_eq (t := 17) dX11_mix_4 rfl (by omega) (fun q => absurd q (by decide)) (fun _ => ?_)
    refine rz_iload_n dX11_mix_7 rfl ?_
    refine rz_if_lt (t := 17) dX11_mix_8 rfl (by omega) (fun c8 => ?_) (fun c8 => ?_)
    · refine rz_iconst dX11_mix_17 ?_
      refine rz_iret dX11_mix_18 rfl ?_
      exact ⟨_, rfl, (if_pos (by omega)).symm, ⟨I 79, fun q => absurd q.1 (by omega), (mix_n (by omega)).symm⟩, rfl⟩
    · refine rz_iload_n dX11_mix_11 rfl ?_
      refine rz_bipush dX11_mix_12 (by decide) ?_
      refine rz_icmp_le (t := 19) dX11_mix_14 rfl (by omega) (by omega) (fun c14 => ?_) (fun c14 => ?_)
      · refine rz_aload_n dX11_mix_19 rfl ?_
        refine rz_getR dX11_mix_20 kf_RX11_28 hd_0 rfl rr_0_2 ?_
        refine rz_iload_n dX11_mix_23 rfl ?_
        refine rz_aald (by decide) dX11_mix_24 hd_13 (by decide) (by decide) rr_13_1 ?_
        refine rz_astore dX11_mix_25 (by decide) rfl ?_
        refine rz_iload_n dX11_mix_27 rfl ?_
        refine rz_if_ne (t := 39) dX11_mix_28 rfl (by omega) (fun c28 => ?_) (fun c28 => ?_)
        · refine rz_aload_n dX11_mix_39 rfl ?_
          refine rz_getR dX11_mix_40 kf_RX11_21 hd_0 rfl rr_0_1 ?_
          refine rz_iload_n dX11_mix_43 rfl ?_
          refine rz_iload_n dX11_mix_44 rfl ?_
          refine rz_aload_n dX11_mix_45 rfl ?_
          refine rz_getR dX11_mix_46 kf_RX11_81 hd_0 rfl rr_0_11 ?_
          refine rz_cVIq dX11_mix_49 kl_RX11_145 hd_6 ⟨_, _, rfl⟩ (c_X8_read79 X _ I J n hn p 1 (by omega) (by omega) hl) rfl rfl (Nat.le_of_ble_eq_true rfl) (Nat.le_of_ble_eq_true rfl) ?_
          rintro z49 _ _ ⟨g49, rfl, rfl, ⟨rfl, b49, k49⟩ | ⟨rfl, b49⟩⟩
          · refine rz_if_ne (t := 57) dX11_mix_52 rfl (by omega) (fun _ => ?_) (fun q => absurd q (by decide))
            refine rz_aload dX11_mix_57 rfl ?_
            refine rz_aload_n dX11_mix_59 rfl ?_
            refine rz_getR dX11_mix_60 kf_RX11_81 hd_0 rfl rr_0_11 ?_
            refine rz_iload_n dX11_mix_63 rfl ?_
            refine rz_cVIq dX11_mix_64 kl_RX11_149 hd_17 ⟨_, _, rfl⟩ (c_add17 X _ (upA I 79 g49) J w hs) rfl rfl (Nat.le_of_ble_eq_true rfl) (Nat.le_of_ble_eq_true rfl) ?_
            rintro z64 A64 _ ⟨⟨rfl, b64, rfl⟩ | ⟨rfl, b64, rfl⟩, rfl⟩
            · refine rz_if_eq (t := 78) dX11_mix_67 rfl (by omega) (fun q => absurd q (by decide)) (fun _ => ?_)
              refine rz_aload dX11_mix_70 rfl ?_
              refine rz_getI (z := ((addC (upA I 79 g49) 17 w) 17 0)) dX11_mix_72 kf_RX11_134 hd_17 rfl rfl ?_
              refine rz_goto (t := 80) dX11_mix_75 rfl ?_
              refine rz_iret dX11_mix_80 rfl ?_
              exact ⟨_, rfl, by rw [mixZ, if_neg (by omega), if_neg c28, if_neg (show ¬ ¬ okP n p (I 10 1) from fun q => q b49), if_neg (show ¬ I 17 0 = 8 from b64)]; rfl, ⟨g49, fun _ => k49, by rw [mixC, if_neg (by omega), if_neg c28, if_neg (show ¬ ¬ okP n p (I 10 1) from fun q => q b49), if_neg (show ¬ I 17 0 = 8 from b64)]⟩, rfl⟩
            · refine rz_if_eq (t := 78) dX11_mix_67 rfl (by omega) (fun _ => ?_) (fun q => absurd q (by decide))
              refine rz_bipush dX11_mix_78 (by decide) ?_
              refine rz_iret dX11_mix_80 rfl ?_
              exact ⟨_, rfl, by rw [mixZ, if_neg (by omega), if_neg c28, if_neg (show ¬ ¬ okP n p (I 10 1) from fun q => q b49), if_pos (show I 17 0 = 8 from b64)], ⟨g49, fun _ => k49, by rw [mixC, if_neg (by omega), if_neg c28, if_neg (show ¬ ¬ okP n p (I 10 1) from fun q => q b49), if_pos (show I 17 0 = 8 from b64)]⟩, rfl⟩
          · refine rz_if_ne (t := 57) dX11_mix_52 rfl (by omega) (fun q => absurd q (by decide)) (fun _ => ?_)
            refine rz_iconst dX11_mix_55 ?_
            refine rz_iret dX11_mix_56 rfl ?_
            exact ⟨_, rfl, by rw [mixZ, if_neg (by omega), if_neg c28, if_pos (show ¬ okP n p (I 10 1) from b49)], ⟨g49, fun q => absurd q.2.2 b49, by rw [mixC, if_neg (by omega), if_neg c28, if_pos (show ¬ okP n p (I 10 1) from b49)]⟩, rfl⟩
        · refine rz_aload dX11_mix_31 rfl ?_
          refine rz_iconst dX11_mix_33 ?_
          refine rz_putI dX11_mix_34 kp_RX11_134 hd_17 rfl ?_
          refine rz_iconst dX11_mix_37 ?_
          refine rz_iret dX11_mix_38 rfl ?_
          exact ⟨_, rfl, by rw [mixZ, if_neg (by omega), if_pos c28], ⟨I 79, fun q => absurd c28 q.2.1, (mix_0 (by omega) c28).symm⟩, rfl⟩
      · refine rz_iconst dX11_mix_17 ?_
        refine rz_iret dX11_mix_18 rfl ?_
        exact ⟨_, rfl, (if_pos (by omega)).symm, ⟨I 79, fun q => absurd q.1 (by omega), (mix_n (by omega)).symm⟩, rfl⟩
  · exfalso; omega
def mk8 (I : IM) (b : Int) : Nat := (8 * b + I 86 b.toNat).toNat
abbrev tolF (I : IM) : Nat → Int := fun t => if (t : Int) < I 81 1 then I 93 t else 0
def adR1 (I : IM) (b w : Int) : IM := upA I 87 (up1 (I 87) (mk8 I b) w)
def adR2 (I : IM) (b w : Int) : IM := copF (adR1 I b w) 88 (5 * mk8 I b) 5 (tolF I)
def addR (I : IM) (b w : Int) : IM := upA (adR2 I b w) 86 (up1 (I 86) b.toNat (I 86 b.toNat + 1))
def mixR (I : IM) (g : Nat → Int) (n : Nat) (p L b w : Int) : IM := if ¬ ((0 ≤ b ∧ b ≤ 1) ∧ 0 ≤ w ∧ w ≤ 9) then upA I 93 g else if w = 0 then upA (upA I 93 g) 86 (up1 (I 86) b.toNat 0) else if ¬ okP n p L then upA I 93 g else if I 86 b.toNat = 8 then upA I 93 g else addR (upA I 93 g) b w
theorem mixR_n {I : IM} {n : Nat} {p L b w : Int} (h : ¬ ((0 ≤ b ∧ b ≤ 1) ∧ 0 ≤ w ∧ w ≤ 9)) : mixR I (I 93) n p L b w = I := by
  unfold mixR; rw [if_pos h]; exact upA_id
theorem mixR_0 {I : IM} {n : Nat} {p L b w : Int} (h : ((0 ≤ b ∧ b ≤ 1) ∧ 0 ≤ w ∧ w ≤ 9)) (h0 : w = 0) : mixR I (I 93) n p L b w = upA I 86 (up1 (I 86) b.toNat 0) := by
  unfold mixR; rw [if_neg (fun q => q h), if_pos h0, upA_id]
set_option maxRecDepth 20000 in
set_option maxHeartbeats 400000 in
theorem c_X12_addMix (X : pX) (h : Nat) (I J : IM) (b w : Int) (hb : 0 ≤ b ∧ b ≤ 1) (hm : 0 ≤ I 86 b.toNat ∧ I 86 b.toNat ≤ 7) (hv : 0 ≤ I 81 1 ∧ I 81 1 ≤ 5) (ht : ∀ v : Nat, (v : Int) < I 81 1 → 0 ≤ I 93 v ∧ I 93 v ≤ 9) : KI X h mX12_addMix [.ref 81, zi b, zi w] I J (I 86 b.toNat + 1) (addR I b w) J := by
  show Rz X h mX12_addMix 0 [some (.ref 81), some (zi b), some (zi w), none, none] [] I J _
  have hk : ((mk8 I b : Nat) : Int) = 8 * b + I 86 b.toNat := by unfold mk8; omega
  refine rz_bipush dX12_addMix_0 (by decide) ?_
  refine rz_iload_n dX12_addMix_2 rfl ?_
  refine rz_imul dX12_addMix_3 ?_
  refine rz_aload_n dX12_addMix_4 rfl ?_
  refine rz_getR dX12_addMix_5 kf_RX12_22 hd_81 rfl rr_81_6 ?_
  refine rz_iload_n dX12_addMix_8 rfl ?_
  refine rz_iald (z := (I 86 (b).toNat)) dX12_addMix_9 hd_86 (by decide) (by omega) rfl ?_
  refine rz_iadd dX12_addMix_10 ?_
  refine rz_istore_n dX12_addMix_11 (by decide) rfl ?_
  refine rz_aload_n dX12_addMix_12 rfl ?_
  refine rz_getR dX12_addMix_13 kf_RX12_25 hd_81 rfl rr_81_7 ?_
  refine rz_iload_n dX12_addMix_16 rfl ?_
  refine rz_iload_n dX12_addMix_17 rfl ?_
  refine rz_iastN (k := (mk8 I b)) dX12_addMix_18 hd_87 (by decide) (by omega) (by omega) ?_
  refine rz_iconst dX12_addMix_19 ?_
  refine rz_istore dX12_addMix_20 (by decide) rfl ?_
  refine rz_up (ls := fun q : Nat => [some (.ref 81), some (zi b), some (zi w), some (zi ((8 * b) + (I 86 (b).toNat))), some (zi (q : Int))]) (IV := fun q : Nat => (copF (adR1 I b w) 88 (5 * mk8 I b) q (tolF I))) (JV := fun q : Nat => J) (5) ⟨Or.inr rfl, Or.inr rfl, Or.inr rfl, Or.inr rfl, Or.inr rfl, trivial⟩ (copF_0) (rfl) ?_ ?_
  · intro q hq ihq
    refine rz_iload dX12_addMix_22 rfl ?_
    refine rz_iconst dX12_addMix_24 ?_
    refine rz_icmp_ge (t := 66) dX12_addMix_25 rfl (by omega) (by omega) (fun c25 => ?_) (fun c25 => ?_)
    · exfalso; omega
    · refine rz_aload_n dX12_addMix_28 rfl ?_
      refine rz_getR dX12_addMix_29 kf_RX12_28 hd_81 rfl rr_81_8 ?_
      refine rz_iconst dX12_addMix_32 ?_
      refine rz_iload_n dX12_addMix_33 rfl ?_
      refine rz_imul dX12_addMix_34 ?_
      refine rz_iload dX12_addMix_35 rfl ?_
      refine rz_iadd dX12_addMix_37 ?_
      refine rz_iload dX12_addMix_38 rfl ?_
      refine rz_aload_n dX12_addMix_40 rfl ?_
      refine rz_getI (z := (I 81 1)) dX12_addMix_41 kf_RX12_137 hd_81 rfl rfl ?_
      refine rz_icmp_ge (t := 57) dX12_addMix_44 rfl (by omega) (by omega) (fun c44 => ?_) (fun c44 => ?_)
      · refine rz_iconst dX12_addMix_57 ?_
        refine rz_i2b dX12_addMix_58 (by omega) ?_
        refine rz_bastN (k := (5 * mk8 I b + q)) dX12_addMix_59 hd_88 (by decide) (by omega) (by omega) (by omega) ?_
        refine rz_iinc dX12_addMix_60 (by decide) rfl rfl rfl ?_
        refine rz_goto (t := 22) dX12_addMix_63 rfl ?_
        exact rz_bk ihq ⟨Or.inr rfl, Or.inr rfl, Or.inr rfl, Or.inr rfl, Or.inr rfl, trivial⟩ ((by first | exact copF_step (if_pos (by omega)) | exact copF_step (if_neg (by omega)))) (rfl)
      · refine rz_aload_n dX12_addMix_47 rfl ?_
        refine rz_getR dX12_addMix_48 kf_RX12_44 hd_81 rfl rr_81_15 ?_
        refine rz_iload dX12_addMix_51 rfl ?_
        refine rz_iald (z := (I 93 q)) dX12_addMix_53 hd_93 (by decide) (by omega) rfl ?_
        refine rz_goto (t := 58) dX12_addMix_54 rfl ?_
        refine rz_i2b dX12_addMix_58 (by have := ht q (by omega); omega) ?_
        refine rz_bastN (k := (5 * mk8 I b + q)) dX12_addMix_59 hd_88 (by decide) (by omega) (by omega) (by have := ht q (by omega); omega) ?_
        refine rz_iinc dX12_addMix_60 (by decide) rfl rfl rfl ?_
        refine rz_goto (t := 22) dX12_addMix_63 rfl ?_
        exact rz_bk ihq ⟨Or.inr rfl, Or.inr rfl, Or.inr rfl, Or.inr rfl, Or.inr rfl, trivial⟩ ((by first | exact copF_step (if_pos (by omega)) | exact copF_step (if_neg (by omega)))) (rfl)
  · skip
    refine rz_iload dX12_addMix_22 rfl ?_
    refine rz_iconst dX12_addMix_24 ?_
    refine rz_icmp_ge (t := 66) dX12_addMix_25 rfl (by omega) (by omega) (fun c25 => ?_) (fun c25 => ?_)
    · refine rz_aload_n dX12_addMix_66 rfl ?_
      refine rz_getR dX12_addMix_67 kf_RX12_22 hd_81 rfl rr_81_6 ?_
      refine rz_iload_n dX12_addMix_70 rfl ?_
      refine rz_dup2 dX12_addMix_71 rfl rfl ?_
      refine rz_iald (z := (I 86 (b).toNat)) dX12_addMix_72 hd_86 (by decide) (by omega) rfl ?_
      refine rz_iconst dX12_addMix_73 ?_
      refine rz_iadd dX12_addMix_74 ?_
      refine rz_iast dX12_addMix_75 hd_86 (by decide) (by omega) ?_
      refine rz_aload_n dX12_addMix_76 rfl ?_
      refine rz_getR dX12_addMix_77 kf_RX12_22 hd_81 rfl rr_81_6 ?_
      refine rz_iload_n dX12_addMix_80 rfl ?_
      refine rz_iald (z := ((I 86 (b).toNat) + 1)) dX12_addMix_81 hd_86 (by decide) (by omega) (by simp [upA, up1]) ?_
      refine rz_iret dX12_addMix_82 rfl ?_
      exact ⟨_, rfl, rfl, rfl, rfl⟩
    · exfalso; omega
set_option maxRecDepth 20000 in
set_option maxHeartbeats 400000 in
theorem c_X12_mix (X : pX) (h : Nat) (I J : IM) (n : Nat) (hn : I 81 1 = n ∧ n ≤ 5) (b p w : Int) (hb : rg b) (hp : rg p) (hw : rg w) (hl : ∀ b : Nat, b < 2 → 0 ≤ I 85 b ∧ I 85 b ≤ 9) (hs : ∀ b : Nat, b < 2 → 0 ≤ I 86 b ∧ I 86 b ≤ 8) : KIq X (h + 2) mX12_mix [.ref 81, zi b, zi p, zi w] I J (fun z A B => z = mixZ (I 86 b.toNat) n p (I 85 b.toNat) b w ∧ (∃ g, (((0 ≤ b ∧ b ≤ 1) ∧ 0 ≤ w ∧ w ≤ 9) ∧ w ≠ 0 ∧ okP n p (I 85 b.toNat) → ∀ v, v < n → g v = dgt n p v) ∧ A = mixR I g n p (I 85 b.toNat) b w) ∧ J = B) := by
  show Rz X (h + 2) mX12_mix 0 [some (.ref 81), some (zi b), some (zi p), some (zi w)] [] I J _
  refine rz_iload_n dX12_mix_0 rfl ?_
  refine rz_cSIq dX12_mix_1 kl_RX12_158 (c_X12_isBaker X _ I J b (by omega)) rfl rfl (Nat.le_of_ble_eq_true rfl) (Nat.le_of_ble_eq_true rfl) ?_
  rintro z1 A1 B1 ⟨⟨rfl, b1⟩ | ⟨rfl, b1⟩, rfl, rfl⟩
  · refine rz_if_eq (t := 17) dX12_mix_4 rfl (by omega) (fun q => absurd q (by decide)) (fun _ => ?_)
    refine rz_iload_n dX12_mix_7 rfl ?_
    refine rz_iconst dX12_mix_8 ?_
    refine rz_bipush dX12_mix_9 (by decide) ?_
    refine rz_cSIq dX12_mix_11 kl_RX12_140 (c_X12_in X _ I J w 0 9 (by omega) (by omega) (by omega)) rfl rfl (Nat.le_of_ble_eq_true rfl) (Nat.le_of_ble_eq_true rfl) ?_
    rintro z11 A11 B11 ⟨⟨rfl, b11⟩ | ⟨rfl, b11⟩, rfl, rfl⟩
    · refine rz_if_ne (t := 19) dX12_mix_14 rfl (by omega) (fun _ => ?_) (fun q => absurd q (by decide))
      have h7 := hs b.toNat (by omega)
      have h8 := hl b.toNat (by omega)
      refine rz_iload_n dX12_mix_19 rfl ?_
      refine rz_if_ne (t := 32) dX12_mix_20 rfl (by omega) (fun c20 => ?_) (fun c20 => ?_)
      · refine rz_aload_n dX12_mix_32 rfl ?_
        refine rz_iload_n dX12_mix_33 rfl ?_
        refine rz_iload_n dX12_mix_34 rfl ?_
        refine rz_cVIq dX12_mix_35 kl_RX12_169 hd_81 ⟨_, _, rfl⟩ (c_X12_reads X _ I J n hn p b (by omega) (by omega) (hl _ (by omega))) rfl rfl (Nat.le_of_ble_eq_true rfl) (Nat.le_of_ble_eq_true rfl) ?_
        rintro z35 _ _ ⟨g35, rfl, rfl, ⟨rfl, b35, k35⟩ | ⟨rfl, b35⟩⟩
        · refine rz_if_ne (t := 43) dX12_mix_38 rfl (by omega) (fun _ => ?_) (fun q => absurd q (by decide))
          refine rz_aload_n dX12_mix_43 rfl ?_
          refine rz_getR dX12_mix_44 kf_RX12_22 hd_81 rfl rr_81_6 ?_
          refine rz_iload_n dX12_mix_47 rfl ?_
          refine rz_iald (z := (I 86 (b).toNat)) dX12_mix_48 hd_86 (by decide) (by omega) rfl ?_
          refine rz_bipush dX12_mix_49 (by decide) ?_
          refine rz_icmp_ne (t := 59) dX12_mix_51 rfl (by omega) (by omega) (fun c51 => ?_) (fun c51 => ?_)
          · refine rz_aload_n dX12_mix_59 rfl ?_
            refine rz_iload_n dX12_mix_60 rfl ?_
            refine rz_iload_n dX12_mix_61 rfl ?_
            refine rz_cVI dX12_mix_62 kl_RX12_173 hd_81 ⟨_, _, rfl⟩ (c_X12_addMix X _ (upA I 93 g35) J b w (by omega) (by show 0 ≤ I 86 b.toNat ∧ I 86 b.toNat ≤ 7; omega) (by show 0 ≤ I 81 1 ∧ I 81 1 ≤ 5; omega) (by intro v hv; show 0 ≤ g35 v ∧ g35 v ≤ 9; rw [k35 v (by have : (v : Int) < I 81 1 := hv; omega)]; exact dgt_bd _ _ _)) rfl rfl (Nat.le_of_ble_eq_true rfl) (Nat.le_of_ble_eq_true rfl) ?_
            refine rz_iret dX12_mix_65 rfl ?_
            exact ⟨_, rfl, by rw [mixZ, if_neg (by omega), if_neg c20, if_neg (fun q => q b35), if_neg c51]; rfl, ⟨g35, fun _ => k35, by rw [mixR, if_neg (by omega), if_neg c20, if_neg (fun q => q b35), if_neg c51]⟩, rfl⟩
          · refine rz_bipush dX12_mix_54 (by decide) ?_
            refine rz_goto (t := 65) dX12_mix_56 rfl ?_
            refine rz_iret dX12_mix_65 rfl ?_
            exact ⟨_, rfl, by rw [mixZ, if_neg (by omega), if_neg c20, if_neg (fun q => q b35), if_pos c51], ⟨g35, fun _ => k35, by rw [mixR, if_neg (by omega), if_neg c20, if_neg (fun q => q b35), if_pos c51]⟩, rfl⟩
        · refine rz_if_ne (t := 43) dX12_mix_38 rfl (by omega) (fun q => absurd q (by decide)) (fun _ => ?_)
          refine rz_iconst dX12_mix_41 ?_
          refine rz_iret dX12_mix_42 rfl ?_
          exact ⟨_, rfl, by rw [mixZ, if_neg (by omega), if_neg c20, if_pos b35], ⟨g35, fun q => absurd q.2.2 b35, by rw [mixR, if_neg (by omega), if_neg c20, if_pos b35]⟩, rfl⟩
      · refine rz_aload_n dX12_mix_23 rfl ?_
        refine rz_getR dX12_mix_24 kf_RX12_22 hd_81 rfl rr_81_6 ?_
        refine rz_iload_n dX12_mix_27 rfl ?_
        refine rz_iconst dX12_mix_28 ?_
        refine rz_iast dX12_mix_29 hd_86 (by decide) (by omega) ?_
        refine rz_iconst dX12_mix_30 ?_
        refine rz_iret dX12_mix_31 rfl ?_
        exact ⟨_, rfl, by rw [mixZ, if_neg (by omega), if_pos c20], ⟨I 93, fun q => absurd c20 q.2.1, (mixR_0 (by omega) c20).symm⟩, rfl⟩
    · refine rz_if_ne (t := 19) dX12_mix_14 rfl (by omega) (fun q => absurd q (by decide)) (fun _ => ?_)
      refine rz_iconst dX12_mix_17 ?_
      refine rz_iret dX12_mix_18 rfl ?_
      exact ⟨_, rfl, (if_pos (by omega)).symm, ⟨I 93, fun q => absurd q.1 (by omega), (mixR_n (by omega)).symm⟩, rfl⟩
  · refine rz_if_eq (t := 17) dX12_mix_4 rfl (by omega) (fun _ => ?_) (fun q => absurd q (by decide))
    refine rz_iconst dX12_mix_17 ?_
    refine rz_iret dX12_mix_18 rfl ?_
    exact ⟨_, rfl, (if_pos (by omega)).symm, ⟨I 93, fun q => absurd q.1 (by omega), (mixR_n (by omega)).symm⟩, rfl⟩
