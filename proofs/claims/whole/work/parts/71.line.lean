/-! line, both sides -/
theorem lin_neg {lw : Lw} {W T U Q : Nat → Int} {n : Nat} {m0 m1 : Mx} {b k p : Int} (h : ¬ ((b = 0 ∨ b = 1) ∧ (-1 ≤ k ∧ k ≤ 9) ∧ (p = 0 ∨ p = 1))) : linZ2 lw W T U Q n m0 m1 b k p = -9223372036854775808 := if_neg h
set_option maxRecDepth 20000 in
set_option maxHeartbeats 400000 in
theorem line_c0m {X : pX} {I J : IM} {h : Nat} {lw : Lw} {n : Nat} {m0 m1 : Mx} (hq : CqI I lw n m0 m1) (p : Int) (hp : p = 0 ∨ p = 1) : KLq X (h + 6) mX11_line [.ref 0, zi 0, zi (-1), zi p] I J (fun z A B => z = linZ2 lw (I 7) (I 8) (I 9) (I 10) n m0 m1 0 (-1) p ∧ QC I lw n A ∧ J = B) := by
  obtain ⟨h1, h2, h3, h4, h5, h6, h7⟩ := hq
  have h8 := h7 0 (by decide)
  show Rz X (h + 6) mX11_line 0 [some (.ref 0), some (zi 0), some (zi (-1)), some (zi p), none] [] I J _
  refine rz_iload_n dX11_line_0 rfl ?_
  refine rz_cSIq dX11_line_1 kl_RX11_112 (c_X11_isBaker X _ I J 0 (by omega)) rfl rfl (Nat.le_of_ble_eq_true rfl) (Nat.le_of_ble_eq_true rfl) ?_
  rintro z1 A1 B1 ⟨⟨rfl, b1⟩ | ⟨rfl, b1⟩, rfl, rfl⟩
  · refine rz_if_eq (t := 25) dX11_line_4 rfl (by omega) (fun q => absurd q (by decide)) (fun _ => ?_)
    refine rz_iload_n dX11_line_7 rfl ?_
    refine rz_iconst dX11_line_8 ?_
    refine rz_icmp_lt (t := 25) dX11_line_9 rfl (by omega) (by omega) (fun q => absurd q (by decide)) (fun _ => ?_)
    refine rz_iload_n dX11_line_12 rfl ?_
    refine rz_bipush dX11_line_13 (by decide) ?_
    refine rz_icmp_gt (t := 25) dX11_line_15 rfl (by omega) (by omega) (fun q => absurd q (by decide)) (fun _ => ?_)
    refine rz_iload_n dX11_line_18 rfl ?_
    refine rz_cSIq dX11_line_19 kl_RX11_202 (c_X11_isPart X _ I J p (by omega)) rfl rfl (Nat.le_of_ble_eq_true rfl) (Nat.le_of_ble_eq_true rfl) ?_
    rintro z19 A19 B19 ⟨⟨rfl, b19⟩ | ⟨rfl, b19⟩, rfl, rfl⟩
    · refine rz_if_ne (t := 29) dX11_line_22 rfl (by omega) (fun _ => ?_) (fun q => absurd q (by decide))
      refine rz_iload_n dX11_line_29 rfl ?_
      refine rz_if_ge (t := 45) dX11_line_30 rfl (by omega) (fun q => absurd q (by decide)) (fun _ => ?_)
      refine rz_aload_n dX11_line_33 rfl ?_
      refine rz_getR dX11_line_34 kf_RX11_21 hd_0 rfl rr_0_1 ?_
      refine rz_getR dX11_line_37 kf_RX11_131 hd_6 rfl rr_6_4 ?_
      refine rz_iload_n dX11_line_40 rfl ?_
      refine rz_iald (z := ((I 10 0).toNat : Int)) dX11_line_41 hd_10 (by decide) (by omega) (by show I 10 0 = _; omega) ?_
      refine rz_goto (t := 46) dX11_line_42 rfl ?_
      refine rz_istore dX11_line_46 (by decide) rfl ?_
      refine rz_aload_n dX11_line_48 rfl ?_
      refine rz_getR dX11_line_49 kf_RX11_40 hd_0 rfl rr_0_5 ?_
      refine rz_iload_n dX11_line_52 rfl ?_
      refine rz_iload dX11_line_53 rfl ?_
      refine rz_cVIq dX11_line_55 kl_RX11_209 hd_27 ⟨_, _, rfl⟩ (c_X9_earned0 lw h1 n h2 h3 h4 m1 h6 ((I 10 0).toNat) (by omega)) rfl rfl (Nat.le_of_ble_eq_true rfl) (Nat.le_of_ble_eq_true rfl) ?_
      rintro _ _ _ ⟨rfl, ⟨B, g, M, hB, rfl, hg, hpl⟩, rfl⟩
      obtain ⟨hf1, hf2⟩ := SetQ_fr hB
      have hmB : MixC B 17 m1 := MixC_of (hf1 17 (by decide) (by decide) (by decide) (by decide)) (hf1 18 (by decide) (by decide) (by decide) (by decide)) (hf1 19 (by decide) (by decide) (by decide) (by decide)) h6
      have hz := mx_bd (lw := lw) (T := I 8) (U := I 9) (b := 0) (N := (I 10 0).toNat) h2.2 (by omega) (MixC_ok h6) (fun v hv => (h3 v hv).1)
      have hwh := whS_rg (MixC_ok h6)
      refine rz_i2l dX11_line_58 (by omega) ?_
      refine rz_aload_n dX11_line_59 rfl ?_
      refine rz_getR dX11_line_60 kf_RX11_28 hd_0 rfl rr_0_2 ?_
      refine rz_iconst dX11_line_63 ?_
      refine rz_iload_n dX11_line_64 rfl ?_
      refine rz_isub dX11_line_65 ?_
      refine rz_aald (by decide) dX11_line_66 hd_13 (by decide) (by decide) rr_13_1 ?_
      refine rz_cVI dX11_line_67 kl_RX11_212 hd_17 ⟨_, _, rfl⟩ (c_whole17 X _ (upA (upA B 29 g) 30 M) J m1.1 hmB.1) rfl rfl (Nat.le_of_ble_eq_true rfl) (Nat.le_of_ble_eq_true rfl) ?_
      refine rz_ieq (y := whS m1) (MixC_wh hmB).symm ?_
      refine rz_i2l dX11_line_70 (by omega) ?_
      refine rz_iload_n dX11_line_71 rfl ?_
      refine rz_cSL dX11_line_72 kl_RX11_215 (c_X11_inLowest (mx (gS lw (I 7) (I 8) (I 9) 0 m1) false n 0 ((I 10 0).toNat)) (whS m1) p (by omega) (by omega) hp) rfl rfl (Nat.le_of_ble_eq_true rfl) (Nat.le_of_ble_eq_true rfl) ?_
      refine rz_lret dX11_line_75 rfl ?_
      exact ⟨_, rfl, by rw [linZ2, if_pos ⟨by omega, by omega, hp⟩, if_pos rfl]; rfl, QC_up (by decide) (QC_up (by decide) (QC_set h4 hB)), rfl⟩
    · exfalso; omega
  · exfalso; omega
set_option maxRecDepth 20000 in
set_option maxHeartbeats 400000 in
theorem line_r0m {X : pX} {I J : IM} {h : Nat} {lw : Lw} {n : Nat} {m0 m1 : Mx} (hq : RqI I lw n m0 m1) (p : Int) (hp : p = 0 ∨ p = 1) : KLq X (h + 7) mX12_line [.ref 81, zi 0, zi (-1), zi p] I J (fun z A B => z = linZ2 lw (I 82) (I 83) (I 84) (I 85) n m0 m1 0 (-1) p ∧ FrR I A ∧ J = B) := by
  obtain ⟨h1, h2, h3, h5, h6, h7⟩ := hq
  have h8 := h7 0 (by decide)
  show Rz X (h + 7) mX12_line 0 [some (.ref 81), some (zi 0), some (zi (-1)), some (zi p)] [] I J _
  refine rz_iload_n dX12_line_0 rfl ?_
  refine rz_cSIq dX12_line_1 kl_RX12_158 (c_X12_isBaker X _ I J 0 (by omega)) rfl rfl (Nat.le_of_ble_eq_true rfl) (Nat.le_of_ble_eq_true rfl) ?_
  rintro z1 A1 B1 ⟨⟨rfl, b1⟩ | ⟨rfl, b1⟩, rfl, rfl⟩
  · refine rz_if_eq (t := 26) dX12_line_4 rfl (by omega) (fun q => absurd q (by decide)) (fun _ => ?_)
    refine rz_iload_n dX12_line_7 rfl ?_
    refine rz_iconst dX12_line_8 ?_
    refine rz_bipush dX12_line_9 (by decide) ?_
    refine rz_cSIq dX12_line_11 kl_RX12_140 (c_X12_in X _ I J (-1) (-1) 9 (by omega) (by omega) (by omega)) rfl rfl (Nat.le_of_ble_eq_true rfl) (Nat.le_of_ble_eq_true rfl) ?_
    rintro z11 A11 B11 ⟨⟨rfl, b11⟩ | ⟨rfl, b11⟩, rfl, rfl⟩
    · refine rz_if_eq (t := 26) dX12_line_14 rfl (by omega) (fun q => absurd q (by decide)) (fun _ => ?_)
      refine rz_iload_n dX12_line_17 rfl ?_
      refine rz_iconst dX12_line_18 ?_
      refine rz_iconst dX12_line_19 ?_
      refine rz_cSIq dX12_line_20 kl_RX12_140 (c_X12_in X _ I J p 0 1 (by omega) (by omega) (by omega)) rfl rfl (Nat.le_of_ble_eq_true rfl) (Nat.le_of_ble_eq_true rfl) ?_
      rintro z20 A20 B20 ⟨⟨rfl, b20⟩ | ⟨rfl, b20⟩, rfl, rfl⟩
      · refine rz_if_ne (t := 30) dX12_line_23 rfl (by omega) (fun _ => ?_) (fun q => absurd q (by decide))
        refine rz_aload_n dX12_line_30 rfl ?_
        refine rz_cVVq dX12_line_31 kl_RX12_257 hd_81 ⟨_, _, rfl⟩ (c_X12_findHas lw h1 n h2 h3) rfl rfl (Nat.le_of_ble_eq_true rfl) (Nat.le_of_ble_eq_true rfl) ?_
        rintro B _ ⟨hB, rfl⟩
        have hf := FhQ_fr hB
        have hH := FhQ_has hB
        have hnB : B 81 1 = n ∧ n ≤ 5 := ⟨by rw [hf 81 (by decide) (by decide) (by decide)]; exact h2.1, h2.2⟩
        have hmB : MixR B 1 m1 := MixR_of (hf 86 (by decide) (by decide) (by decide)) (hf 87 (by decide) (by decide) (by decide)) (hf 88 (by decide) (by decide) (by decide)) h6
        have e82 := hf 82 (by decide) (by decide) (by decide)
        have e83 := hf 83 (by decide) (by decide) (by decide)
        have e84 := hf 84 (by decide) (by decide) (by decide)
        have e85 := hf 85 (by decide) (by decide) (by decide)
        have hmo := MixR_ok hmB
        refine rz_aload_n dX12_line_34 rfl ?_
        refine rz_iload_n dX12_line_35 rfl ?_
        refine rz_cVV dX12_line_36 kl_RX12_319 hd_81 ⟨_, _, rfl⟩ (c_X12_findGains0 lw n hnB m1 hmB hH) rfl rfl (Nat.le_of_ble_eq_true rfl) (Nat.le_of_ble_eq_true rfl) ?_
        refine rz_aload_n dX12_line_39 rfl ?_
        refine rz_iload_n dX12_line_40 rfl ?_
        refine rz_if_ge (t := 53) dX12_line_41 rfl (by omega) (fun q => absurd q (by decide)) (fun _ => ?_)
        refine rz_aload_n dX12_line_44 rfl ?_
        refine rz_getR dX12_line_45 kf_RX12_19 hd_81 rfl rr_81_5 ?_
        refine rz_iload_n dX12_line_48 rfl ?_
        refine rz_iald (z := ((I 85 0).toNat : Int)) dX12_line_49 hd_85 (by decide) (by omega) (by show B 85 0 = _; rw [e85]; omega) ?_
        refine rz_goto (t := 54) dX12_line_50 rfl ?_
        refine rz_iconst dX12_line_54 ?_
        refine rz_cVVq dX12_line_55 kl_RX12_270 hd_81 ⟨_, _, rfl⟩ (c_X12_findRows (I := (acM (fillM B 106 50 0) 106 n (lnN m1) (fun i j => gF lw (B 82) (B 83) (B 84) 0 m1 i j))) n hnB (I 85 0).toNat false (by omega) (rows_cnt n h2.2 (I 85 0).toNat (by omega)).1) rfl rfl (Nat.le_of_ble_eq_true rfl) (Nat.le_of_ble_eq_true rfl) ?_
        rintro _ _ ⟨⟨R, W, rfl, hR, hRb⟩, rfl⟩
        have hgs : ∀ v x, v < n → x ≤ 9 → (acM (fillM B 106 50 0) 106 n (lnN m1) (fun i j => gF lw (B 82) (B 83) (B 84) 0 m1 i j)) 106 (10 * v + x) = gS lw (I 82) (I 83) (I 84) 0 m1 v x := fun v x hv hx => by rw [acM_at hv hx, e82, e83, e84]
        have hGA : GRg (layM (acM (fillM B 106 50 0) 106 n (lnN m1) (fun i j => gF lw (B 82) (B 83) (B 84) 0 m1 i j)) (rowsL n (I 85 0).toNat false).length R W) 106 n := fun v x hv hx => by
          have e : (layM (acM (fillM B 106 50 0) 106 n (lnN m1) (fun i j => gF lw (B 82) (B 83) (B 84) 0 m1 i j)) (rowsL n (I 85 0).toNat false).length R W) 106 (10 * v + x) = gS lw (I 82) (I 83) (I 84) 0 m1 v x := hgs v x hv hx
          rw [e]
          have := gS_rg (lw := lw) (W := I 82) (T := I 83) (U := I 84) (b := 0) (v := v) (x := x) hmo (h3 v hv).1
          omega
        refine rz_aload_n dX12_line_58 rfl ?_
        refine rz_cVVq dX12_line_59 kl_RX12_323 hd_81 ⟨_, _, rfl⟩ (c_X12_findBest (I := (layM (acM (fillM B 106 50 0) 106 n (lnN m1) (fun i j => gF lw (B 82) (B 83) (B 84) 0 m1 i j)) (rowsL n (I 85 0).toNat false).length R W)) n hnB (rowsL n (I 85 0).toNat false) rfl (rows_cnt n h2.2 (I 85 0).toNat (by omega)).1 (rowsL_ok (by omega)) hR hGA) rfl rfl (Nat.le_of_ble_eq_true rfl) (Nat.le_of_ble_eq_true rfl) ?_
        rintro _ _ ⟨⟨bb, g, rfl, hFb⟩, rfl⟩
        obtain ⟨hg1, j, rfl, hj⟩ := fb_done h2.2 (by omega) hGA hFb
        have hg2 : g = mx (gS lw (I 82) (I 83) (I 84) 0 m1) false n 0 (I 85 0).toNat := hg1.trans (mx_congr (n := n) (fun v x hv hx => hgs v x hv hx) n 0 (I 85 0).toNat (by omega) (by omega))
        have hch : chsR (gI (layM (acM (fillM B 106 50 0) 106 n (lnN m1) (fun i j => gF lw (B 82) (B 83) (B 84) 0 m1 i j)) (rowsL n (I 85 0).toNat false).length R W) 106) n 0 (I 85 0).toNat = chsR (gS lw (I 82) (I 83) (I 84) 0 m1) n 0 (I 85 0).toNat := chsR_congr (n := n) (fun v x hv hx => hgs v x hv hx) n 0 (I 85 0).toNat (by omega) (by omega)
        have hFr : FrR I (fbM (layM (acM (fillM B 106 50 0) 106 n (lnN m1) (fun i j => gF lw (B 82) (B 83) (B 84) 0 m1 i j)) (rowsL n (I 85 0).toNat false).length R W) (j : Int) g) := FrR.trans (FrR_fh hB) (FrR.trans FrR_ac (FrR.trans (FrR_lay hRb) FrR_fb))
        have hz := mx_bd (lw := lw) (T := I 83) (U := I 84) (b := 0) (N := (I 85 0).toNat) h2.2 (by omega) hmo (fun v hv => (h3 v hv).1)
        have hwh := whS_rg hmo
        subst hg2
        refine rz_aload_n dX12_line_62 rfl ?_
        refine rz_getI (z := (mx (gS lw (I 82) (I 83) (I 84) 0 m1) false n 0 ((I 85 0).toNat))) dX12_line_63 kf_RX12_300 hd_81 rfl (rfl) ?_
        refine rz_i2l dX12_line_66 (by omega) ?_
        refine rz_aload_n dX12_line_67 rfl ?_
        refine rz_iconst dX12_line_68 ?_
        refine rz_iload_n dX12_line_69 rfl ?_
        refine rz_isub dX12_line_70 ?_
        refine rz_iconst dX12_line_71 ?_
        refine rz_cVI dX12_line_72 kl_RX12_274 hd_81 ⟨_, _, rfl⟩ (c_X12_weights X _ (fbM (layM (acM (fillM B 106 50 0) 106 n (lnN m1) (fun i j => gF lw (B 82) (B 83) (B 84) 0 m1 i j)) (rowsL n (I 85 0).toNat false).length R W) (j : Int) (mx (gS lw (I 82) (I 83) (I 84) 0 m1) false n 0 ((I 85 0).toNat))) J 1 1 m1.1 (by omega) (Or.inr rfl) hmB.1) rfl rfl (Nat.le_of_ble_eq_true rfl) (Nat.le_of_ble_eq_true rfl) ?_
        refine rz_ieq (y := whS m1) (MixR_wh hmB).symm ?_
        refine rz_i2l dX12_line_75 (by omega) ?_
        refine rz_iload_n dX12_line_76 rfl ?_
        refine rz_cSL dX12_line_77 kl_RX12_315 (c_X12_part (mx (gS lw (I 82) (I 83) (I 84) 0 m1) false n 0 ((I 85 0).toNat)) (whS m1) p (by omega) (by omega) hp) rfl rfl (Nat.le_of_ble_eq_true rfl) (Nat.le_of_ble_eq_true rfl) ?_
        refine rz_lret dX12_line_80 rfl ?_
        exact ⟨_, rfl, by rw [linZ2, if_pos ⟨by omega, by omega, hp⟩, if_pos rfl]; rfl, hFr, rfl⟩
      · exfalso; omega
    · exfalso; omega
  · exfalso; omega
set_option maxRecDepth 20000 in
set_option maxHeartbeats 400000 in
theorem line_c0n {X : pX} {I J : IM} {h : Nat} {lw : Lw} {n : Nat} {m0 m1 : Mx} (hq : CqI I lw n m0 m1) (k : Nat) (hk : k ≤ 9) (p : Int) (hp : p = 0 ∨ p = 1) : KLq X (h + 6) mX11_line [.ref 0, zi 0, zi (k : Int), zi p] I J (fun z A B => z = linZ2 lw (I 7) (I 8) (I 9) (I 10) n m0 m1 0 (k : Int) p ∧ QC I lw n A ∧ J = B) := by
  obtain ⟨h1, h2, h3, h4, h5, h6, h7⟩ := hq
  have h8 := h7 0 (by decide)
  show Rz X (h + 6) mX11_line 0 [some (.ref 0), some (zi 0), some (zi (k : Int)), some (zi p), none] [] I J _
  refine rz_iload_n dX11_line_0 rfl ?_
  refine rz_cSIq dX11_line_1 kl_RX11_112 (c_X11_isBaker X _ I J 0 (by omega)) rfl rfl (Nat.le_of_ble_eq_true rfl) (Nat.le_of_ble_eq_true rfl) ?_
  rintro z1 A1 B1 ⟨⟨rfl, b1⟩ | ⟨rfl, b1⟩, rfl, rfl⟩
  · refine rz_if_eq (t := 25) dX11_line_4 rfl (by omega) (fun q => absurd q (by decide)) (fun _ => ?_)
    refine rz_iload_n dX11_line_7 rfl ?_
    refine rz_iconst dX11_line_8 ?_
    refine rz_icmp_lt (t := 25) dX11_line_9 rfl (by omega) (by omega) (fun c9 => ?_) (fun c9 => ?_)
    · exfalso; omega
    · refine rz_iload_n dX11_line_12 rfl ?_
      refine rz_bipush dX11_line_13 (by decide) ?_
      refine rz_icmp_gt (t := 25) dX11_line_15 rfl (by omega) (by omega) (fun c15 => ?_) (fun c15 => ?_)
      · exfalso; omega
      · refine rz_iload_n dX11_line_18 rfl ?_
        refine rz_cSIq dX11_line_19 kl_RX11_202 (c_X11_isPart X _ I J p (by omega)) rfl rfl (Nat.le_of_ble_eq_true rfl) (Nat.le_of_ble_eq_true rfl) ?_
        rintro z19 A19 B19 ⟨⟨rfl, b19⟩ | ⟨rfl, b19⟩, rfl, rfl⟩
        · refine rz_if_ne (t := 29) dX11_line_22 rfl (by omega) (fun _ => ?_) (fun q => absurd q (by decide))
          refine rz_iload_n dX11_line_29 rfl ?_
          refine rz_if_ge (t := 45) dX11_line_30 rfl (by omega) (fun c30 => ?_) (fun c30 => ?_)
          · refine rz_iload_n dX11_line_45 rfl ?_
            refine rz_istore dX11_line_46 (by decide) rfl ?_
            refine rz_aload_n dX11_line_48 rfl ?_
            refine rz_getR dX11_line_49 kf_RX11_40 hd_0 rfl rr_0_5 ?_
            refine rz_iload_n dX11_line_52 rfl ?_
            refine rz_iload dX11_line_53 rfl ?_
            refine rz_cVIq dX11_line_55 kl_RX11_209 hd_27 ⟨_, _, rfl⟩ (c_X9_earned0 lw h1 n h2 h3 h4 m1 h6 (k) (by omega)) rfl rfl (Nat.le_of_ble_eq_true rfl) (Nat.le_of_ble_eq_true rfl) ?_
            rintro _ _ _ ⟨rfl, ⟨B, g, M, hB, rfl, hg, hpl⟩, rfl⟩
            obtain ⟨hf1, hf2⟩ := SetQ_fr hB
            have hmB : MixC B 17 m1 := MixC_of (hf1 17 (by decide) (by decide) (by decide) (by decide)) (hf1 18 (by decide) (by decide) (by decide) (by decide)) (hf1 19 (by decide) (by decide) (by decide) (by decide)) h6
            have hz := mx_bd (lw := lw) (T := I 8) (U := I 9) (b := 0) (N := k) h2.2 (by omega) (MixC_ok h6) (fun v hv => (h3 v hv).1)
            have hwh := whS_rg (MixC_ok h6)
            refine rz_i2l dX11_line_58 (by omega) ?_
            refine rz_aload_n dX11_line_59 rfl ?_
            refine rz_getR dX11_line_60 kf_RX11_28 hd_0 rfl rr_0_2 ?_
            refine rz_iconst dX11_line_63 ?_
            refine rz_iload_n dX11_line_64 rfl ?_
            refine rz_isub dX11_line_65 ?_
            refine rz_aald (by decide) dX11_line_66 hd_13 (by decide) (by decide) rr_13_1 ?_
            refine rz_cVI dX11_line_67 kl_RX11_212 hd_17 ⟨_, _, rfl⟩ (c_whole17 X _ (upA (upA B 29 g) 30 M) J m1.1 hmB.1) rfl rfl (Nat.le_of_ble_eq_true rfl) (Nat.le_of_ble_eq_true rfl) ?_
            refine rz_ieq (y := whS m1) (MixC_wh hmB).symm ?_
            refine rz_i2l dX11_line_70 (by omega) ?_
            refine rz_iload_n dX11_line_71 rfl ?_
            refine rz_cSL dX11_line_72 kl_RX11_215 (c_X11_inLowest (mx (gS lw (I 7) (I 8) (I 9) 0 m1) false n 0 (k)) (whS m1) p (by omega) (by omega) hp) rfl rfl (Nat.le_of_ble_eq_true rfl) (Nat.le_of_ble_eq_true rfl) ?_
            refine rz_lret dX11_line_75 rfl ?_
            exact ⟨_, rfl, by rw [linZ2, if_pos ⟨by omega, by omega, hp⟩, if_pos rfl, if_neg (show ¬ (k : Int) < 0 by omega)]; rfl, QC_up (by decide) (QC_up (by decide) (QC_set h4 hB)), rfl⟩
          · exfalso; omega
        · exfalso; omega
  · exfalso; omega
set_option maxRecDepth 20000 in
set_option maxHeartbeats 400000 in
theorem line_r0n {X : pX} {I J : IM} {h : Nat} {lw : Lw} {n : Nat} {m0 m1 : Mx} (hq : RqI I lw n m0 m1) (k : Nat) (hk : k ≤ 9) (p : Int) (hp : p = 0 ∨ p = 1) : KLq X (h + 7) mX12_line [.ref 81, zi 0, zi (k : Int), zi p] I J (fun z A B => z = linZ2 lw (I 82) (I 83) (I 84) (I 85) n m0 m1 0 (k : Int) p ∧ FrR I A ∧ J = B) := by
  obtain ⟨h1, h2, h3, h5, h6, h7⟩ := hq
  have h8 := h7 0 (by decide)
  show Rz X (h + 7) mX12_line 0 [some (.ref 81), some (zi 0), some (zi (k : Int)), some (zi p)] [] I J _
  refine rz_iload_n dX12_line_0 rfl ?_
  refine rz_cSIq dX12_line_1 kl_RX12_158 (c_X12_isBaker X _ I J 0 (by omega)) rfl rfl (Nat.le_of_ble_eq_true rfl) (Nat.le_of_ble_eq_true rfl) ?_
  rintro z1 A1 B1 ⟨⟨rfl, b1⟩ | ⟨rfl, b1⟩, rfl, rfl⟩
  · refine rz_if_eq (t := 26) dX12_line_4 rfl (by omega) (fun q => absurd q (by decide)) (fun _ => ?_)
    refine rz_iload_n dX12_line_7 rfl ?_
    refine rz_iconst dX12_line_8 ?_
    refine rz_bipush dX12_line_9 (by decide) ?_
    refine rz_cSIq dX12_line_11 kl_RX12_140 (c_X12_in X _ I J (k : Int) (-1) 9 (by omega) (by omega) (by omega)) rfl rfl (Nat.le_of_ble_eq_true rfl) (Nat.le_of_ble_eq_true rfl) ?_
    rintro z11 A11 B11 ⟨⟨rfl, b11⟩ | ⟨rfl, b11⟩, rfl, rfl⟩
    · refine rz_if_eq (t := 26) dX12_line_14 rfl (by omega) (fun q => absurd q (by decide)) (fun _ => ?_)
      refine rz_iload_n dX12_line_17 rfl ?_
      refine rz_iconst dX12_line_18 ?_
      refine rz_iconst dX12_line_19 ?_
      refine rz_cSIq dX12_line_20 kl_RX12_140 (c_X12_in X _ I J p 0 1 (by omega) (by omega) (by omega)) rfl rfl (Nat.le_of_ble_eq_true rfl) (Nat.le_of_ble_eq_true rfl) ?_
      rintro z20 A20 B20 ⟨⟨rfl, b20⟩ | ⟨rfl, b20⟩, rfl, rfl⟩
      · refine rz_if_ne (t := 30) dX12_line_23 rfl (by omega) (fun _ => ?_) (fun q => absurd q (by decide))
        refine rz_aload_n dX12_line_30 rfl ?_
        refine rz_cVVq dX12_line_31 kl_RX12_257 hd_81 ⟨_, _, rfl⟩ (c_X12_findHas lw h1 n h2 h3) rfl rfl (Nat.le_of_ble_eq_true rfl) (Nat.le_of_ble_eq_true rfl) ?_
        rintro B _ ⟨hB, rfl⟩
        have hf := FhQ_fr hB
        have hH := FhQ_has hB
        have hnB : B 81 1 = n ∧ n ≤ 5 := ⟨by rw [hf 81 (by decide) (by decide) (by decide)]; exact h2.1, h2.2⟩
        have hmB : MixR B 1 m1 := MixR_of (hf 86 (by decide) (by decide) (by decide)) (hf 87 (by decide) (by decide) (by decide)) (hf 88 (by decide) (by decide) (by decide)) h6
        have e82 := hf 82 (by decide) (by decide) (by decide)
        have e83 := hf 83 (by decide) (by decide) (by decide)
        have e84 := hf 84 (by decide) (by decide) (by decide)
        have e85 := hf 85 (by decide) (by decide) (by decide)
        have hmo := MixR_ok hmB
        refine rz_aload_n dX12_line_34 rfl ?_
        refine rz_iload_n dX12_line_35 rfl ?_
        refine rz_cVV dX12_line_36 kl_RX12_319 hd_81 ⟨_, _, rfl⟩ (c_X12_findGains0 lw n hnB m1 hmB hH) rfl rfl (Nat.le_of_ble_eq_true rfl) (Nat.le_of_ble_eq_true rfl) ?_
        refine rz_aload_n dX12_line_39 rfl ?_
        refine rz_iload_n dX12_line_40 rfl ?_
        refine rz_if_ge (t := 53) dX12_line_41 rfl (by omega) (fun c41 => ?_) (fun c41 => ?_)
        · refine rz_iload_n dX12_line_53 rfl ?_
          refine rz_iconst dX12_line_54 ?_
          refine rz_cVVq dX12_line_55 kl_RX12_270 hd_81 ⟨_, _, rfl⟩ (c_X12_findRows (I := (acM (fillM B 106 50 0) 106 n (lnN m1) (fun i j => gF lw (B 82) (B 83) (B 84) 0 m1 i j))) n hnB k false (by omega) (rows_cnt n h2.2 k (by omega)).1) rfl rfl (Nat.le_of_ble_eq_true rfl) (Nat.le_of_ble_eq_true rfl) ?_
          rintro _ _ ⟨⟨R, W, rfl, hR, hRb⟩, rfl⟩
          have hgs : ∀ v x, v < n → x ≤ 9 → (acM (fillM B 106 50 0) 106 n (lnN m1) (fun i j => gF lw (B 82) (B 83) (B 84) 0 m1 i j)) 106 (10 * v + x) = gS lw (I 82) (I 83) (I 84) 0 m1 v x := fun v x hv hx => by rw [acM_at hv hx, e82, e83, e84]
          have hGA : GRg (layM (acM (fillM B 106 50 0) 106 n (lnN m1) (fun i j => gF lw (B 82) (B 83) (B 84) 0 m1 i j)) (rowsL n k false).length R W) 106 n := fun v x hv hx => by
            have e : (layM (acM (fillM B 106 50 0) 106 n (lnN m1) (fun i j => gF lw (B 82) (B 83) (B 84) 0 m1 i j)) (rowsL n k false).length R W) 106 (10 * v + x) = gS lw (I 82) (I 83) (I 84) 0 m1 v x := hgs v x hv hx
            rw [e]
            have := gS_rg (lw := lw) (W := I 82) (T := I 83) (U := I 84) (b := 0) (v := v) (x := x) hmo (h3 v hv).1
            omega
          refine rz_aload_n dX12_line_58 rfl ?_
          refine rz_cVVq dX12_line_59 kl_RX12_323 hd_81 ⟨_, _, rfl⟩ (c_X12_findBest (I := (layM (acM (fillM B 106 50 0) 106 n (lnN m1) (fun i j => gF lw (B 82) (B 83) (B 84) 0 m1 i j)) (rowsL n k false).length R W)) n hnB (rowsL n k false) rfl (rows_cnt n h2.2 k (by omega)).1 (rowsL_ok (by omega)) hR hGA) rfl rfl (Nat.le_of_ble_eq_true rfl) (Nat.le_of_ble_eq_true rfl) ?_
          rintro _ _ ⟨⟨bb, g, rfl, hFb⟩, rfl⟩
          obtain ⟨hg1, j, rfl, hj⟩ := fb_done h2.2 (by omega) hGA hFb
          have hg2 : g = mx (gS lw (I 82) (I 83) (I 84) 0 m1) false n 0 k := hg1.trans (mx_congr (n := n) (fun v x hv hx => hgs v x hv hx) n 0 k (by omega) (by omega))
          have hch : chsR (gI (layM (acM (fillM B 106 50 0) 106 n (lnN m1) (fun i j => gF lw (B 82) (B 83) (B 84) 0 m1 i j)) (rowsL n k false).length R W) 106) n 0 k = chsR (gS lw (I 82) (I 83) (I 84) 0 m1) n 0 k := chsR_congr (n := n) (fun v x hv hx => hgs v x hv hx) n 0 k (by omega) (by omega)
          have hFr : FrR I (fbM (layM (acM (fillM B 106 50 0) 106 n (lnN m1) (fun i j => gF lw (B 82) (B 83) (B 84) 0 m1 i j)) (rowsL n k false).length R W) (j : Int) g) := FrR.trans (FrR_fh hB) (FrR.trans FrR_ac (FrR.trans (FrR_lay hRb) FrR_fb))
          have hz := mx_bd (lw := lw) (T := I 83) (U := I 84) (b := 0) (N := k) h2.2 (by omega) hmo (fun v hv => (h3 v hv).1)
          have hwh := whS_rg hmo
          subst hg2
          refine rz_aload_n dX12_line_62 rfl ?_
          refine rz_getI (z := (mx (gS lw (I 82) (I 83) (I 84) 0 m1) false n 0 (k))) dX12_line_63 kf_RX12_300 hd_81 rfl (rfl) ?_
          refine rz_i2l dX12_line_66 (by omega) ?_
          refine rz_aload_n dX12_line_67 rfl ?_
          refine rz_iconst dX12_line_68 ?_
          refine rz_iload_n dX12_line_69 rfl ?_
          refine rz_isub dX12_line_70 ?_
          refine rz_iconst dX12_line_71 ?_
          refine rz_cVI dX12_line_72 kl_RX12_274 hd_81 ⟨_, _, rfl⟩ (c_X12_weights X _ (fbM (layM (acM (fillM B 106 50 0) 106 n (lnN m1) (fun i j => gF lw (B 82) (B 83) (B 84) 0 m1 i j)) (rowsL n k false).length R W) (j : Int) (mx (gS lw (I 82) (I 83) (I 84) 0 m1) false n 0 (k))) J 1 1 m1.1 (by omega) (Or.inr rfl) hmB.1) rfl rfl (Nat.le_of_ble_eq_true rfl) (Nat.le_of_ble_eq_true rfl) ?_
          refine rz_ieq (y := whS m1) (MixR_wh hmB).symm ?_
          refine rz_i2l dX12_line_75 (by omega) ?_
          refine rz_iload_n dX12_line_76 rfl ?_
          refine rz_cSL dX12_line_77 kl_RX12_315 (c_X12_part (mx (gS lw (I 82) (I 83) (I 84) 0 m1) false n 0 (k)) (whS m1) p (by omega) (by omega) hp) rfl rfl (Nat.le_of_ble_eq_true rfl) (Nat.le_of_ble_eq_true rfl) ?_
          refine rz_lret dX12_line_80 rfl ?_
          exact ⟨_, rfl, by rw [linZ2, if_pos ⟨by omega, by omega, hp⟩, if_pos rfl, if_neg (show ¬ (k : Int) < 0 by omega)]; rfl, hFr, rfl⟩
        · exfalso; omega
      · exfalso; omega
    · exfalso; omega
  · exfalso; omega
set_option maxRecDepth 20000 in
set_option maxHeartbeats 400000 in
theorem line_c1m {X : pX} {I J : IM} {h : Nat} {lw : Lw} {n : Nat} {m0 m1 : Mx} (hq : CqI I lw n m0 m1) (p : Int) (hp : p = 0 ∨ p = 1) : KLq X (h + 6) mX11_line [.ref 0, zi 1, zi (-1), zi p] I J (fun z A B => z = linZ2 lw (I 7) (I 8) (I 9) (I 10) n m0 m1 1 (-1) p ∧ QC I lw n A ∧ J = B) := by
  obtain ⟨h1, h2, h3, h4, h5, h6, h7⟩ := hq
  have h8 := h7 1 (by decide)
  show Rz X (h + 6) mX11_line 0 [some (.ref 0), some (zi 1), some (zi (-1)), some (zi p), none] [] I J _
  refine rz_iload_n dX11_line_0 rfl ?_
  refine rz_cSIq dX11_line_1 kl_RX11_112 (c_X11_isBaker X _ I J 1 (by omega)) rfl rfl (Nat.le_of_ble_eq_true rfl) (Nat.le_of_ble_eq_true rfl) ?_
  rintro z1 A1 B1 ⟨⟨rfl, b1⟩ | ⟨rfl, b1⟩, rfl, rfl⟩
  · refine rz_if_eq (t := 25) dX11_line_4 rfl (by omega) (fun q => absurd q (by decide)) (fun _ => ?_)
    refine rz_iload_n dX11_line_7 rfl ?_
    refine rz_iconst dX11_line_8 ?_
    refine rz_icmp_lt (t := 25) dX11_line_9 rfl (by omega) (by omega) (fun q => absurd q (by decide)) (fun _ => ?_)
    refine rz_iload_n dX11_line_12 rfl ?_
    refine rz_bipush dX11_line_13 (by decide) ?_
    refine rz_icmp_gt (t := 25) dX11_line_15 rfl (by omega) (by omega) (fun q => absurd q (by decide)) (fun _ => ?_)
    refine rz_iload_n dX11_line_18 rfl ?_
    refine rz_cSIq dX11_line_19 kl_RX11_202 (c_X11_isPart X _ I J p (by omega)) rfl rfl (Nat.le_of_ble_eq_true rfl) (Nat.le_of_ble_eq_true rfl) ?_
    rintro z19 A19 B19 ⟨⟨rfl, b19⟩ | ⟨rfl, b19⟩, rfl, rfl⟩
    · refine rz_if_ne (t := 29) dX11_line_22 rfl (by omega) (fun _ => ?_) (fun q => absurd q (by decide))
      refine rz_iload_n dX11_line_29 rfl ?_
      refine rz_if_ge (t := 45) dX11_line_30 rfl (by omega) (fun q => absurd q (by decide)) (fun _ => ?_)
      refine rz_aload_n dX11_line_33 rfl ?_
      refine rz_getR dX11_line_34 kf_RX11_21 hd_0 rfl rr_0_1 ?_
      refine rz_getR dX11_line_37 kf_RX11_131 hd_6 rfl rr_6_4 ?_
      refine rz_iload_n dX11_line_40 rfl ?_
      refine rz_iald (z := ((I 10 1).toNat : Int)) dX11_line_41 hd_10 (by decide) (by omega) (by show I 10 1 = _; omega) ?_
      refine rz_goto (t := 46) dX11_line_42 rfl ?_
      refine rz_istore dX11_line_46 (by decide) rfl ?_
      refine rz_aload_n dX11_line_48 rfl ?_
      refine rz_getR dX11_line_49 kf_RX11_40 hd_0 rfl rr_0_5 ?_
      refine rz_iload_n dX11_line_52 rfl ?_
      refine rz_iload dX11_line_53 rfl ?_
      refine rz_cVIq dX11_line_55 kl_RX11_209 hd_27 ⟨_, _, rfl⟩ (c_X9_earned1 lw h1 n h2 h3 h4 m0 h5 ((I 10 1).toNat) (by omega)) rfl rfl (Nat.le_of_ble_eq_true rfl) (Nat.le_of_ble_eq_true rfl) ?_
      rintro _ _ _ ⟨rfl, ⟨B, g, M, hB, rfl, hg, hpl⟩, rfl⟩
      obtain ⟨hf1, hf2⟩ := SetQ_fr hB
      have hmB : MixC B 14 m0 := MixC_of (hf1 14 (by decide) (by decide) (by decide) (by decide)) (hf1 15 (by decide) (by decide) (by decide) (by decide)) (hf1 16 (by decide) (by decide) (by decide) (by decide)) h5
      have hz := mx_bd (lw := lw) (T := I 8) (U := I 9) (b := 1) (N := (I 10 1).toNat) h2.2 (by omega) (MixC_ok h5) (fun v hv => (h3 v hv).1)
      have hwh := whS_rg (MixC_ok h5)
      refine rz_i2l dX11_line_58 (by omega) ?_
      refine rz_aload_n dX11_line_59 rfl ?_
      refine rz_getR dX11_line_60 kf_RX11_28 hd_0 rfl rr_0_2 ?_
      refine rz_iconst dX11_line_63 ?_
      refine rz_iload_n dX11_line_64 rfl ?_
      refine rz_isub dX11_line_65 ?_
      refine rz_aald (by decide) dX11_line_66 hd_13 (by decide) (by decide) rr_13_0 ?_
      refine rz_cVI dX11_line_67 kl_RX11_212 hd_14 ⟨_, _, rfl⟩ (c_whole14 X _ (upA (upA B 29 g) 30 M) J m0.1 hmB.1) rfl rfl (Nat.le_of_ble_eq_true rfl) (Nat.le_of_ble_eq_true rfl) ?_
      refine rz_ieq (y := whS m0) (MixC_wh hmB).symm ?_
      refine rz_i2l dX11_line_70 (by omega) ?_
      refine rz_iload_n dX11_line_71 rfl ?_
      refine rz_cSL dX11_line_72 kl_RX11_215 (c_X11_inLowest (mx (gS lw (I 7) (I 8) (I 9) 1 m0) false n 0 ((I 10 1).toNat)) (whS m0) p (by omega) (by omega) hp) rfl rfl (Nat.le_of_ble_eq_true rfl) (Nat.le_of_ble_eq_true rfl) ?_
      refine rz_lret dX11_line_75 rfl ?_
      exact ⟨_, rfl, by rw [linZ2, if_pos ⟨by omega, by omega, hp⟩, if_neg (by decide)]; rfl, QC_up (by decide) (QC_up (by decide) (QC_set h4 hB)), rfl⟩
    · exfalso; omega
  · exfalso; omega
set_option maxRecDepth 20000 in
set_option maxHeartbeats 400000 in
theorem line_r1m {X : pX} {I J : IM} {h : Nat} {lw : Lw} {n : Nat} {m0 m1 : Mx} (hq : RqI I lw n m0 m1) (p : Int) (hp : p = 0 ∨ p = 1) : KLq X (h + 7) mX12_line [.ref 81, zi 1, zi (-1), zi p] I J (fun z A B => z = linZ2 lw (I 82) (I 83) (I 84) (I 85) n m0 m1 1 (-1) p ∧ FrR I A ∧ J = B) := by
  obtain ⟨h1, h2, h3, h5, h6, h7⟩ := hq
  have h8 := h7 1 (by decide)
  show Rz X (h + 7) mX12_line 0 [some (.ref 81), some (zi 1), some (zi (-1)), some (zi p)] [] I J _
  refine rz_iload_n dX12_line_0 rfl ?_
  refine rz_cSIq dX12_line_1 kl_RX12_158 (c_X12_isBaker X _ I J 1 (by omega)) rfl rfl (Nat.le_of_ble_eq_true rfl) (Nat.le_of_ble_eq_true rfl) ?_
  rintro z1 A1 B1 ⟨⟨rfl, b1⟩ | ⟨rfl, b1⟩, rfl, rfl⟩
  · refine rz_if_eq (t := 26) dX12_line_4 rfl (by omega) (fun q => absurd q (by decide)) (fun _ => ?_)
    refine rz_iload_n dX12_line_7 rfl ?_
    refine rz_iconst dX12_line_8 ?_
    refine rz_bipush dX12_line_9 (by decide) ?_
    refine rz_cSIq dX12_line_11 kl_RX12_140 (c_X12_in X _ I J (-1) (-1) 9 (by omega) (by omega) (by omega)) rfl rfl (Nat.le_of_ble_eq_true rfl) (Nat.le_of_ble_eq_true rfl) ?_
    rintro z11 A11 B11 ⟨⟨rfl, b11⟩ | ⟨rfl, b11⟩, rfl, rfl⟩
    · refine rz_if_eq (t := 26) dX12_line_14 rfl (by omega) (fun q => absurd q (by decide)) (fun _ => ?_)
      refine rz_iload_n dX12_line_17 rfl ?_
      refine rz_iconst dX12_line_18 ?_
      refine rz_iconst dX12_line_19 ?_
      refine rz_cSIq dX12_line_20 kl_RX12_140 (c_X12_in X _ I J p 0 1 (by omega) (by omega) (by omega)) rfl rfl (Nat.le_of_ble_eq_true rfl) (Nat.le_of_ble_eq_true rfl) ?_
      rintro z20 A20 B20 ⟨⟨rfl, b20⟩ | ⟨rfl, b20⟩, rfl, rfl⟩
      · refine rz_if_ne (t := 30) dX12_line_23 rfl (by omega) (fun _ => ?_) (fun q => absurd q (by decide))
        refine rz_aload_n dX12_line_30 rfl ?_
        refine rz_cVVq dX12_line_31 kl_RX12_257 hd_81 ⟨_, _, rfl⟩ (c_X12_findHas lw h1 n h2 h3) rfl rfl (Nat.le_of_ble_eq_true rfl) (Nat.le_of_ble_eq_true rfl) ?_
        rintro B _ ⟨hB, rfl⟩
        have hf := FhQ_fr hB
        have hH := FhQ_has hB
        have hnB : B 81 1 = n ∧ n ≤ 5 := ⟨by rw [hf 81 (by decide) (by decide) (by decide)]; exact h2.1, h2.2⟩
        have hmB : MixR B 0 m0 := MixR_of (hf 86 (by decide) (by decide) (by decide)) (hf 87 (by decide) (by decide) (by decide)) (hf 88 (by decide) (by decide) (by decide)) h5
        have e82 := hf 82 (by decide) (by decide) (by decide)
        have e83 := hf 83 (by decide) (by decide) (by decide)
        have e84 := hf 84 (by decide) (by decide) (by decide)
        have e85 := hf 85 (by decide) (by decide) (by decide)
        have hmo := MixR_ok hmB
        refine rz_aload_n dX12_line_34 rfl ?_
        refine rz_iload_n dX12_line_35 rfl ?_
        refine rz_cVV dX12_line_36 kl_RX12_319 hd_81 ⟨_, _, rfl⟩ (c_X12_findGains1 lw n hnB m0 hmB hH) rfl rfl (Nat.le_of_ble_eq_true rfl) (Nat.le_of_ble_eq_true rfl) ?_
        refine rz_aload_n dX12_line_39 rfl ?_
        refine rz_iload_n dX12_line_40 rfl ?_
        refine rz_if_ge (t := 53) dX12_line_41 rfl (by omega) (fun q => absurd q (by decide)) (fun _ => ?_)
        refine rz_aload_n dX12_line_44 rfl ?_
        refine rz_getR dX12_line_45 kf_RX12_19 hd_81 rfl rr_81_5 ?_
        refine rz_iload_n dX12_line_48 rfl ?_
        refine rz_iald (z := ((I 85 1).toNat : Int)) dX12_line_49 hd_85 (by decide) (by omega) (by show B 85 1 = _; rw [e85]; omega) ?_
        refine rz_goto (t := 54) dX12_line_50 rfl ?_
        refine rz_iconst dX12_line_54 ?_
        refine rz_cVVq dX12_line_55 kl_RX12_270 hd_81 ⟨_, _, rfl⟩ (c_X12_findRows (I := (acM (fillM B 106 50 0) 106 n (lnN m0) (fun i j => gF lw (B 82) (B 83) (B 84) 1 m0 i j))) n hnB (I 85 1).toNat false (by omega) (rows_cnt n h2.2 (I 85 1).toNat (by omega)).1) rfl rfl (Nat.le_of_ble_eq_true rfl) (Nat.le_of_ble_eq_true rfl) ?_
        rintro _ _ ⟨⟨R, W, rfl, hR, hRb⟩, rfl⟩
        have hgs : ∀ v x, v < n → x ≤ 9 → (acM (fillM B 106 50 0) 106 n (lnN m0) (fun i j => gF lw (B 82) (B 83) (B 84) 1 m0 i j)) 106 (10 * v + x) = gS lw (I 82) (I 83) (I 84) 1 m0 v x := fun v x hv hx => by rw [acM_at hv hx, e82, e83, e84]
        have hGA : GRg (layM (acM (fillM B 106 50 0) 106 n (lnN m0) (fun i j => gF lw (B 82) (B 83) (B 84) 1 m0 i j)) (rowsL n (I 85 1).toNat false).length R W) 106 n := fun v x hv hx => by
          have e : (layM (acM (fillM B 106 50 0) 106 n (lnN m0) (fun i j => gF lw (B 82) (B 83) (B 84) 1 m0 i j)) (rowsL n (I 85 1).toNat false).length R W) 106 (10 * v + x) = gS lw (I 82) (I 83) (I 84) 1 m0 v x := hgs v x hv hx
          rw [e]
          have := gS_rg (lw := lw) (W := I 82) (T := I 83) (U := I 84) (b := 1) (v := v) (x := x) hmo (h3 v hv).1
          omega
        refine rz_aload_n dX12_line_58 rfl ?_
        refine rz_cVVq dX12_line_59 kl_RX12_323 hd_81 ⟨_, _, rfl⟩ (c_X12_findBest (I := (layM (acM (fillM B 106 50 0) 106 n (lnN m0) (fun i j => gF lw (B 82) (B 83) (B 84) 1 m0 i j)) (rowsL n (I 85 1).toNat false).length R W)) n hnB (rowsL n (I 85 1).toNat false) rfl (rows_cnt n h2.2 (I 85 1).toNat (by omega)).1 (rowsL_ok (by omega)) hR hGA) rfl rfl (Nat.le_of_ble_eq_true rfl) (Nat.le_of_ble_eq_true rfl) ?_
        rintro _ _ ⟨⟨bb, g, rfl, hFb⟩, rfl⟩
        obtain ⟨hg1, j, rfl, hj⟩ := fb_done h2.2 (by omega) hGA hFb
        have hg2 : g = mx (gS lw (I 82) (I 83) (I 84) 1 m0) false n 0 (I 85 1).toNat := hg1.trans (mx_congr (n := n) (fun v x hv hx => hgs v x hv hx) n 0 (I 85 1).toNat (by omega) (by omega))
        have hch : chsR (gI (layM (acM (fillM B 106 50 0) 106 n (lnN m0) (fun i j => gF lw (B 82) (B 83) (B 84) 1 m0 i j)) (rowsL n (I 85 1).toNat false).length R W) 106) n 0 (I 85 1).toNat = chsR (gS lw (I 82) (I 83) (I 84) 1 m0) n 0 (I 85 1).toNat := chsR_congr (n := n) (fun v x hv hx => hgs v x hv hx) n 0 (I 85 1).toNat (by omega) (by omega)
        have hFr : FrR I (fbM (layM (acM (fillM B 106 50 0) 106 n (lnN m0) (fun i j => gF lw (B 82) (B 83) (B 84) 1 m0 i j)) (rowsL n (I 85 1).toNat false).length R W) (j : Int) g) := FrR.trans (FrR_fh hB) (FrR.trans FrR_ac (FrR.trans (FrR_lay hRb) FrR_fb))
        have hz := mx_bd (lw := lw) (T := I 83) (U := I 84) (b := 1) (N := (I 85 1).toNat) h2.2 (by omega) hmo (fun v hv => (h3 v hv).1)
        have hwh := whS_rg hmo
        subst hg2
        refine rz_aload_n dX12_line_62 rfl ?_
        refine rz_getI (z := (mx (gS lw (I 82) (I 83) (I 84) 1 m0) false n 0 ((I 85 1).toNat))) dX12_line_63 kf_RX12_300 hd_81 rfl (rfl) ?_
        refine rz_i2l dX12_line_66 (by omega) ?_
        refine rz_aload_n dX12_line_67 rfl ?_
        refine rz_iconst dX12_line_68 ?_
        refine rz_iload_n dX12_line_69 rfl ?_
        refine rz_isub dX12_line_70 ?_
        refine rz_iconst dX12_line_71 ?_
        refine rz_cVI dX12_line_72 kl_RX12_274 hd_81 ⟨_, _, rfl⟩ (c_X12_weights X _ (fbM (layM (acM (fillM B 106 50 0) 106 n (lnN m0) (fun i j => gF lw (B 82) (B 83) (B 84) 1 m0 i j)) (rowsL n (I 85 1).toNat false).length R W) (j : Int) (mx (gS lw (I 82) (I 83) (I 84) 1 m0) false n 0 ((I 85 1).toNat))) J 0 1 m0.1 (by omega) (Or.inr rfl) hmB.1) rfl rfl (Nat.le_of_ble_eq_true rfl) (Nat.le_of_ble_eq_true rfl) ?_
        refine rz_ieq (y := whS m0) (MixR_wh hmB).symm ?_
        refine rz_i2l dX12_line_75 (by omega) ?_
        refine rz_iload_n dX12_line_76 rfl ?_
        refine rz_cSL dX12_line_77 kl_RX12_315 (c_X12_part (mx (gS lw (I 82) (I 83) (I 84) 1 m0) false n 0 ((I 85 1).toNat)) (whS m0) p (by omega) (by omega) hp) rfl rfl (Nat.le_of_ble_eq_true rfl) (Nat.le_of_ble_eq_true rfl) ?_
        refine rz_lret dX12_line_80 rfl ?_
        exact ⟨_, rfl, by rw [linZ2, if_pos ⟨by omega, by omega, hp⟩, if_neg (by decide)]; rfl, hFr, rfl⟩
      · exfalso; omega
    · exfalso; omega
  · exfalso; omega
set_option maxRecDepth 20000 in
set_option maxHeartbeats 400000 in
theorem line_c1n {X : pX} {I J : IM} {h : Nat} {lw : Lw} {n : Nat} {m0 m1 : Mx} (hq : CqI I lw n m0 m1) (k : Nat) (hk : k ≤ 9) (p : Int) (hp : p = 0 ∨ p = 1) : KLq X (h + 6) mX11_line [.ref 0, zi 1, zi (k : Int), zi p] I J (fun z A B => z = linZ2 lw (I 7) (I 8) (I 9) (I 10) n m0 m1 1 (k : Int) p ∧ QC I lw n A ∧ J = B) := by
  obtain ⟨h1, h2, h3, h4, h5, h6, h7⟩ := hq
  have h8 := h7 1 (by decide)
  show Rz X (h + 6) mX11_line 0 [some (.ref 0), some (zi 1), some (zi (k : Int)), some (zi p), none] [] I J _
  refine rz_iload_n dX11_line_0 rfl ?_
  refine rz_cSIq dX11_line_1 kl_RX11_112 (c_X11_isBaker X _ I J 1 (by omega)) rfl rfl (Nat.le_of_ble_eq_true rfl) (Nat.le_of_ble_eq_true rfl) ?_
  rintro z1 A1 B1 ⟨⟨rfl, b1⟩ | ⟨rfl, b1⟩, rfl, rfl⟩
  · refine rz_if_eq (t := 25) dX11_line_4 rfl (by omega) (fun q => absurd q (by decide)) (fun _ => ?_)
    refine rz_iload_n dX11_line_7 rfl ?_
    refine rz_iconst dX11_line_8 ?_
    refine rz_icmp_lt (t := 25) dX11_line_9 rfl (by omega) (by omega) (fun c9 => ?_) (fun c9 => ?_)
    · exfalso; omega
    · refine rz_iload_n dX11_line_12 rfl ?_
      refine rz_bipush dX11_line_13 (by decide) ?_
      refine rz_icmp_gt (t := 25) dX11_line_15 rfl (by omega) (by omega) (fun c15 => ?_) (fun c15 => ?_)
      · exfalso; omega
      · refine rz_iload_n dX11_line_18 rfl ?_
        refine rz_cSIq dX11_line_19 kl_RX11_202 (c_X11_isPart X _ I J p (by omega)) rfl rfl (Nat.le_of_ble_eq_true rfl) (Nat.le_of_ble_eq_true rfl) ?_
        rintro z19 A19 B19 ⟨⟨rfl, b19⟩ | ⟨rfl, b19⟩, rfl, rfl⟩
        · refine rz_if_ne (t := 29) dX11_line_22 rfl (by omega) (fun _ => ?_) (fun q => absurd q (by decide))
          refine rz_iload_n dX11_line_29 rfl ?_
          refine rz_if_ge (t := 45) dX11_line_30 rfl (by omega) (fun c30 => ?_) (fun c30 => ?_)
          · refine rz_iload_n dX11_line_45 rfl ?_
            refine rz_istore dX11_line_46 (by decide) rfl ?_
            refine rz_aload_n dX11_line_48 rfl ?_
            refine rz_getR dX11_line_49 kf_RX11_40 hd_0 rfl rr_0_5 ?_
            refine rz_iload_n dX11_line_52 rfl ?_
            refine rz_iload dX11_line_53 rfl ?_
            refine rz_cVIq dX11_line_55 kl_RX11_209 hd_27 ⟨_, _, rfl⟩ (c_X9_earned1 lw h1 n h2 h3 h4 m0 h5 (k) (by omega)) rfl rfl (Nat.le_of_ble_eq_true rfl) (Nat.le_of_ble_eq_true rfl) ?_
            rintro _ _ _ ⟨rfl, ⟨B, g, M, hB, rfl, hg, hpl⟩, rfl⟩
            obtain ⟨hf1, hf2⟩ := SetQ_fr hB
            have hmB : MixC B 14 m0 := MixC_of (hf1 14 (by decide) (by decide) (by decide) (by decide)) (hf1 15 (by decide) (by decide) (by decide) (by decide)) (hf1 16 (by decide) (by decide) (by decide) (by decide)) h5
            have hz := mx_bd (lw := lw) (T := I 8) (U := I 9) (b := 1) (N := k) h2.2 (by omega) (MixC_ok h5) (fun v hv => (h3 v hv).1)
            have hwh := whS_rg (MixC_ok h5)
            refine rz_i2l dX11_line_58 (by omega) ?_
            refine rz_aload_n dX11_line_59 rfl ?_
            refine rz_getR dX11_line_60 kf_RX11_28 hd_0 rfl rr_0_2 ?_
            refine rz_iconst dX11_line_63 ?_
            refine rz_iload_n dX11_line_64 rfl ?_
            refine rz_isub dX11_line_65 ?_
            refine rz_aald (by decide) dX11_line_66 hd_13 (by decide) (by decide) rr_13_0 ?_
            refine rz_cVI dX11_line_67 kl_RX11_212 hd_14 ⟨_, _, rfl⟩ (c_whole14 X _ (upA (upA B 29 g) 30 M) J m0.1 hmB.1) rfl rfl (Nat.le_of_ble_eq_true rfl) (Nat.le_of_ble_eq_true rfl) ?_
            refine rz_ieq (y := whS m0) (MixC_wh hmB).symm ?_
            refine rz_i2l dX11_line_70 (by omega) ?_
            refine rz_iload_n dX11_line_71 rfl ?_
            refine rz_cSL dX11_line_72 kl_RX11_215 (c_X11_inLowest (mx (gS lw (I 7) (I 8) (I 9) 1 m0) false n 0 (k)) (whS m0) p (by omega) (by omega) hp) rfl rfl (Nat.le_of_ble_eq_true rfl) (Nat.le_of_ble_eq_true rfl) ?_
            refine rz_lret dX11_line_75 rfl ?_
            exact ⟨_, rfl, by rw [linZ2, if_pos ⟨by omega, by omega, hp⟩, if_neg (by decide), if_neg (show ¬ (k : Int) < 0 by omega)]; rfl, QC_up (by decide) (QC_up (by decide) (QC_set h4 hB)), rfl⟩
          · exfalso; omega
        · exfalso; omega
  · exfalso; omega
set_option maxRecDepth 20000 in
set_option maxHeartbeats 400000 in
theorem line_r1n {X : pX} {I J : IM} {h : Nat} {lw : Lw} {n : Nat} {m0 m1 : Mx} (hq : RqI I lw n m0 m1) (k : Nat) (hk : k ≤ 9) (p : Int) (hp : p = 0 ∨ p = 1) : KLq X (h + 7) mX12_line [.ref 81, zi 1, zi (k : Int), zi p] I J (fun z A B => z = linZ2 lw (I 82) (I 83) (I 84) (I 85) n m0 m1 1 (k : Int) p ∧ FrR I A ∧ J = B) := by
  obtain ⟨h1, h2, h3, h5, h6, h7⟩ := hq
  have h8 := h7 1 (by decide)
  show Rz X (h + 7) mX12_line 0 [some (.ref 81), some (zi 1), some (zi (k : Int)), some (zi p)] [] I J _
  refine rz_iload_n dX12_line_0 rfl ?_
  refine rz_cSIq dX12_line_1 kl_RX12_158 (c_X12_isBaker X _ I J 1 (by omega)) rfl rfl (Nat.le_of_ble_eq_true rfl) (Nat.le_of_ble_eq_true rfl) ?_
  rintro z1 A1 B1 ⟨⟨rfl, b1⟩ | ⟨rfl, b1⟩, rfl, rfl⟩
  · refine rz_if_eq (t := 26) dX12_line_4 rfl (by omega) (fun q => absurd q (by decide)) (fun _ => ?_)
    refine rz_iload_n dX12_line_7 rfl ?_
    refine rz_iconst dX12_line_8 ?_
    refine rz_bipush dX12_line_9 (by decide) ?_
    refine rz_cSIq dX12_line_11 kl_RX12_140 (c_X12_in X _ I J (k : Int) (-1) 9 (by omega) (by omega) (by omega)) rfl rfl (Nat.le_of_ble_eq_true rfl) (Nat.le_of_ble_eq_true rfl) ?_
    rintro z11 A11 B11 ⟨⟨rfl, b11⟩ | ⟨rfl, b11⟩, rfl, rfl⟩
    · refine rz_if_eq (t := 26) dX12_line_14 rfl (by omega) (fun q => absurd q (by decide)) (fun _ => ?_)
      refine rz_iload_n dX12_line_17 rfl ?_
      refine rz_iconst dX12_line_18 ?_
      refine rz_iconst dX12_line_19 ?_
      refine rz_cSIq dX12_line_20 kl_RX12_140 (c_X12_in X _ I J p 0 1 (by omega) (by omega) (by omega)) rfl rfl (Nat.le_of_ble_eq_true rfl) (Nat.le_of_ble_eq_true rfl) ?_
      rintro z20 A20 B20 ⟨⟨rfl, b20⟩ | ⟨rfl, b20⟩, rfl, rfl⟩
      · refine rz_if_ne (t := 30) dX12_line_23 rfl (by omega) (fun _ => ?_) (fun q => absurd q (by decide))
        refine rz_aload_n dX12_line_30 rfl ?_
        refine rz_cVVq dX12_line_31 kl_RX12_257 hd_81 ⟨_, _, rfl⟩ (c_X12_findHas lw h1 n h2 h3) rfl rfl (Nat.le_of_ble_eq_true rfl) (Nat.le_of_ble_eq_true rfl) ?_
        rintro B _ ⟨hB, rfl⟩
        have hf := FhQ_fr hB
        have hH := FhQ_has hB
        have hnB : B 81 1 = n ∧ n ≤ 5 := ⟨by rw [hf 81 (by decide) (by decide) (by decide)]; exact h2.1, h2.2⟩
        have hmB : MixR B 0 m0 := MixR_of (hf 86 (by decide) (by decide) (by decide)) (hf 87 (by decide) (by decide) (by decide)) (hf 88 (by decide) (by decide) (by decide)) h5
        have e82 := hf 82 (by decide) (by decide) (by decide)
        have e83 := hf 83 (by decide) (by decide) (by decide)
        have e84 := hf 84 (by decide) (by decide) (by decide)
        have e85 := hf 85 (by decide) (by decide) (by decide)
        have hmo := MixR_ok hmB
        refine rz_aload_n dX12_line_34 rfl ?_
        refine rz_iload_n dX12_line_35 rfl ?_
        refine rz_cVV dX12_line_36 kl_RX12_319 hd_81 ⟨_, _, rfl⟩ (c_X12_findGains1 lw n hnB m0 hmB hH) rfl rfl (Nat.le_of_ble_eq_true rfl) (Nat.le_of_ble_eq_true rfl) ?_
        refine rz_aload_n dX12_line_39 rfl ?_
        refine rz_iload_n dX12_line_40 rfl ?_
        refine rz_if_ge (t := 53) dX12_line_41 rfl (by omega) (fun c41 => ?_) (fun c41 => ?_)
        · refine rz_iload_n dX12_line_53 rfl ?_
          refine rz_iconst dX12_line_54 ?_
          refine rz_cVVq dX12_line_55 kl_RX12_270 hd_81 ⟨_, _, rfl⟩ (c_X12_findRows (I := (acM (fillM B 106 50 0) 106 n (lnN m0) (fun i j => gF lw (B 82) (B 83) (B 84) 1 m0 i j))) n hnB k false (by omega) (rows_cnt n h2.2 k (by omega)).1) rfl rfl (Nat.le_of_ble_eq_true rfl) (Nat.le_of_ble_eq_true rfl) ?_
          rintro _ _ ⟨⟨R, W, rfl, hR, hRb⟩, rfl⟩
          have hgs : ∀ v x, v < n → x ≤ 9 → (acM (fillM B 106 50 0) 106 n (lnN m0) (fun i j => gF lw (B 82) (B 83) (B 84) 1 m0 i j)) 106 (10 * v + x) = gS lw (I 82) (I 83) (I 84) 1 m0 v x := fun v x hv hx => by rw [acM_at hv hx, e82, e83, e84]
          have hGA : GRg (layM (acM (fillM B 106 50 0) 106 n (lnN m0) (fun i j => gF lw (B 82) (B 83) (B 84) 1 m0 i j)) (rowsL n k false).length R W) 106 n := fun v x hv hx => by
            have e : (layM (acM (fillM B 106 50 0) 106 n (lnN m0) (fun i j => gF lw (B 82) (B 83) (B 84) 1 m0 i j)) (rowsL n k false).length R W) 106 (10 * v + x) = gS lw (I 82) (I 83) (I 84) 1 m0 v x := hgs v x hv hx
            rw [e]
            have := gS_rg (lw := lw) (W := I 82) (T := I 83) (U := I 84) (b := 1) (v := v) (x := x) hmo (h3 v hv).1
            omega
          refine rz_aload_n dX12_line_58 rfl ?_
          refine rz_cVVq dX12_line_59 kl_RX12_323 hd_81 ⟨_, _, rfl⟩ (c_X12_findBest (I := (layM (acM (fillM B 106 50 0) 106 n (lnN m0) (fun i j => gF lw (B 82) (B 83) (B 84) 1 m0 i j)) (rowsL n k false).length R W)) n hnB (rowsL n k false) rfl (rows_cnt n h2.2 k (by omega)).1 (rowsL_ok (by omega)) hR hGA) rfl rfl (Nat.le_of_ble_eq_true rfl) (Nat.le_of_ble_eq_true rfl) ?_
          rintro _ _ ⟨⟨bb, g, rfl, hFb⟩, rfl⟩
          obtain ⟨hg1, j, rfl, hj⟩ := fb_done h2.2 (by omega) hGA hFb
          have hg2 : g = mx (gS lw (I 82) (I 83) (I 84) 1 m0) false n 0 k := hg1.trans (mx_congr (n := n) (fun v x hv hx => hgs v x hv hx) n 0 k (by omega) (by omega))
          have hch : chsR (gI (layM (acM (fillM B 106 50 0) 106 n (lnN m0) (fun i j => gF lw (B 82) (B 83) (B 84) 1 m0 i j)) (rowsL n k false).length R W) 106) n 0 k = chsR (gS lw (I 82) (I 83) (I 84) 1 m0) n 0 k := chsR_congr (n := n) (fun v x hv hx => hgs v x hv hx) n 0 k (by omega) (by omega)
          have hFr : FrR I (fbM (layM (acM (fillM B 106 50 0) 106 n (lnN m0) (fun i j => gF lw (B 82) (B 83) (B 84) 1 m0 i j)) (rowsL n k false).length R W) (j : Int) g) := FrR.trans (FrR_fh hB) (FrR.trans FrR_ac (FrR.trans (FrR_lay hRb) FrR_fb))
          have hz := mx_bd (lw := lw) (T := I 83) (U := I 84) (b := 1) (N := k) h2.2 (by omega) hmo (fun v hv => (h3 v hv).1)
          have hwh := whS_rg hmo
          subst hg2
          refine rz_aload_n dX12_line_62 rfl ?_
          refine rz_getI (z := (mx (gS lw (I 82) (I 83) (I 84) 1 m0) false n 0 (k))) dX12_line_63 kf_RX12_300 hd_81 rfl (rfl) ?_
          refine rz_i2l dX12_line_66 (by omega) ?_
          refine rz_aload_n dX12_line_67 rfl ?_
          refine rz_iconst dX12_line_68 ?_
          refine rz_iload_n dX12_line_69 rfl ?_
          refine rz_isub dX12_line_70 ?_
          refine rz_iconst dX12_line_71 ?_
          refine rz_cVI dX12_line_72 kl_RX12_274 hd_81 ⟨_, _, rfl⟩ (c_X12_weights X _ (fbM (layM (acM (fillM B 106 50 0) 106 n (lnN m0) (fun i j => gF lw (B 82) (B 83) (B 84) 1 m0 i j)) (rowsL n k false).length R W) (j : Int) (mx (gS lw (I 82) (I 83) (I 84) 1 m0) false n 0 (k))) J 0 1 m0.1 (by omega) (Or.inr rfl) hmB.1) rfl rfl (Nat.le_of_ble_eq_true rfl) (Nat.le_of_ble_eq_true rfl) ?_
          refine rz_ieq (y := whS m0) (MixR_wh hmB).symm ?_
          refine rz_i2l dX12_line_75 (by omega) ?_
          refine rz_iload_n dX12_line_76 rfl ?_
          refine rz_cSL dX12_line_77 kl_RX12_315 (c_X12_part (mx (gS lw (I 82) (I 83) (I 84) 1 m0) false n 0 (k)) (whS m0) p (by omega) (by omega) hp) rfl rfl (Nat.le_of_ble_eq_true rfl) (Nat.le_of_ble_eq_true rfl) ?_
          refine rz_lret dX12_line_80 rfl ?_
          exact ⟨_, rfl, by rw [linZ2, if_pos ⟨by omega, by omega, hp⟩, if_neg (by decide), if_neg (show ¬ (k : Int) < 0 by omega)]; rfl, hFr, rfl⟩
        · exfalso; omega
      · exfalso; omega
    · exfalso; omega
  · exfalso; omega
set_option maxRecDepth 20000 in
set_option maxHeartbeats 400000 in
theorem line_cn {X : pX} {I J : IM} {h : Nat} {lw : Lw} {n : Nat} {m0 m1 : Mx} (hq : CqI I lw n m0 m1) (b k p : Int) (hb : rg b) (hk : rg k) (hp : rg p) (hnv : ¬ ((b = 0 ∨ b = 1) ∧ (-1 ≤ k ∧ k ≤ 9) ∧ (p = 0 ∨ p = 1))) : KLq X (h + 6) mX11_line [.ref 0, zi b, zi k, zi p] I J (fun z A B => z = linZ2 lw (I 7) (I 8) (I 9) (I 10) n m0 m1 b k p ∧ QC I lw n A ∧ J = B) := by
  show Rz X (h + 6) mX11_line 0 [some (.ref 0), some (zi b), some (zi k), some (zi p), none] [] I J _
  refine rz_iload_n dX11_line_0 rfl ?_
  refine rz_cSIq dX11_line_1 kl_RX11_112 (c_X11_isBaker X _ I J b (by omega)) rfl rfl (Nat.le_of_ble_eq_true rfl) (Nat.le_of_ble_eq_true rfl) ?_
  rintro z1 A1 B1 ⟨⟨rfl, b1⟩ | ⟨rfl, b1⟩, rfl, rfl⟩
  · refine rz_if_eq (t := 25) dX11_line_4 rfl (by omega) (fun q => absurd q (by decide)) (fun _ => ?_)
    refine rz_iload_n dX11_line_7 rfl ?_
    refine rz_iconst dX11_line_8 ?_
    refine rz_icmp_lt (t := 25) dX11_line_9 rfl (by omega) (by omega) (fun c9 => ?_) (fun c9 => ?_)
    · refine rz_ldc2 (x := (-9223372036854775808)) dX11_line_25 kk_RX11_207 (by decide) ?_
      refine rz_lret dX11_line_28 rfl ?_
      exact ⟨_, rfl, (lin_neg hnv).symm, QC_refl hq.2.2.2.1, rfl⟩
    · refine rz_iload_n dX11_line_12 rfl ?_
      refine rz_bipush dX11_line_13 (by decide) ?_
      refine rz_icmp_gt (t := 25) dX11_line_15 rfl (by omega) (by omega) (fun c15 => ?_) (fun c15 => ?_)
      · refine rz_ldc2 (x := (-9223372036854775808)) dX11_line_25 kk_RX11_207 (by decide) ?_
        refine rz_lret dX11_line_28 rfl ?_
        exact ⟨_, rfl, (lin_neg hnv).symm, QC_refl hq.2.2.2.1, rfl⟩
      · refine rz_iload_n dX11_line_18 rfl ?_
        refine rz_cSIq dX11_line_19 kl_RX11_202 (c_X11_isPart X _ I J p (by omega)) rfl rfl (Nat.le_of_ble_eq_true rfl) (Nat.le_of_ble_eq_true rfl) ?_
        rintro z19 A19 B19 ⟨⟨rfl, b19⟩ | ⟨rfl, b19⟩, rfl, rfl⟩
        · refine rz_if_ne (t := 29) dX11_line_22 rfl (by omega) (fun _ => ?_) (fun q => absurd q (by decide))
          exfalso; omega
        · refine rz_if_ne (t := 29) dX11_line_22 rfl (by omega) (fun q => absurd q (by decide)) (fun _ => ?_)
          refine rz_ldc2 (x := (-9223372036854775808)) dX11_line_25 kk_RX11_207 (by decide) ?_
          refine rz_lret dX11_line_28 rfl ?_
          exact ⟨_, rfl, (lin_neg hnv).symm, QC_refl hq.2.2.2.1, rfl⟩
  · refine rz_if_eq (t := 25) dX11_line_4 rfl (by omega) (fun _ => ?_) (fun q => absurd q (by decide))
    refine rz_ldc2 (x := (-9223372036854775808)) dX11_line_25 kk_RX11_207 (by decide) ?_
    refine rz_lret dX11_line_28 rfl ?_
    exact ⟨_, rfl, (lin_neg hnv).symm, QC_refl hq.2.2.2.1, rfl⟩
set_option maxRecDepth 20000 in
set_option maxHeartbeats 400000 in
theorem line_rn {X : pX} {I J : IM} {h : Nat} {lw : Lw} {n : Nat} {m0 m1 : Mx} (b k p : Int) (hb : rg b) (hk : rg k) (hp : rg p) (hnv : ¬ ((b = 0 ∨ b = 1) ∧ (-1 ≤ k ∧ k ≤ 9) ∧ (p = 0 ∨ p = 1))) : KLq X (h + 7) mX12_line [.ref 81, zi b, zi k, zi p] I J (fun z A B => z = linZ2 lw (I 82) (I 83) (I 84) (I 85) n m0 m1 b k p ∧ FrR I A ∧ J = B) := by
  show Rz X (h + 7) mX12_line 0 [some (.ref 81), some (zi b), some (zi k), some (zi p)] [] I J _
  refine rz_iload_n dX12_line_0 rfl ?_
  refine rz_cSIq dX12_line_1 kl_RX12_158 (c_X12_isBaker X _ I J b (by omega)) rfl rfl (Nat.le_of_ble_eq_true rfl) (Nat.le_of_ble_eq_true rfl) ?_
  rintro z1 A1 B1 ⟨⟨rfl, b1⟩ | ⟨rfl, b1⟩, rfl, rfl⟩
  · refine rz_if_eq (t := 26) dX12_line_4 rfl (by omega) (fun q => absurd q (by decide)) (fun _ => ?_)
    refine rz_iload_n dX12_line_7 rfl ?_
    refine rz_iconst dX12_line_8 ?_
    refine rz_bipush dX12_line_9 (by decide) ?_
    refine rz_cSIq dX12_line_11 kl_RX12_140 (c_X12_in X _ I J k (-1) 9 (by omega) (by omega) (by omega)) rfl rfl (Nat.le_of_ble_eq_true rfl) (Nat.le_of_ble_eq_true rfl) ?_
    rintro z11 A11 B11 ⟨⟨rfl, b11⟩ | ⟨rfl, b11⟩, rfl, rfl⟩
    · refine rz_if_eq (t := 26) dX12_line_14 rfl (by omega) (fun q => absurd q (by decide)) (fun _ => ?_)
      refine rz_iload_n dX12_line_17 rfl ?_
      refine rz_iconst dX12_line_18 ?_
      refine rz_iconst dX12_line_19 ?_
      refine rz_cSIq dX12_line_20 kl_RX12_140 (c_X12_in X _ I J p 0 1 (by omega) (by omega) (by omega)) rfl rfl (Nat.le_of_ble_eq_true rfl) (Nat.le_of_ble_eq_true rfl) ?_
      rintro z20 A20 B20 ⟨⟨rfl, b20⟩ | ⟨rfl, b20⟩, rfl, rfl⟩
      · refine rz_if_ne (t := 30) dX12_line_23 rfl (by omega) (fun _ => ?_) (fun q => absurd q (by decide))
        exfalso; omega
      · refine rz_if_ne (t := 30) dX12_line_23 rfl (by omega) (fun q => absurd q (by decide)) (fun _ => ?_)
        refine rz_ldc2 (x := (-9223372036854775808)) dX12_line_26 kk_RX12_313 (by decide) ?_
        refine rz_lret dX12_line_29 rfl ?_
        exact ⟨_, rfl, (lin_neg hnv).symm, FrR_refl, rfl⟩
    · refine rz_if_eq (t := 26) dX12_line_14 rfl (by omega) (fun _ => ?_) (fun q => absurd q (by decide))
      refine rz_ldc2 (x := (-9223372036854775808)) dX12_line_26 kk_RX12_313 (by decide) ?_
      refine rz_lret dX12_line_29 rfl ?_
      exact ⟨_, rfl, (lin_neg hnv).symm, FrR_refl, rfl⟩
  · refine rz_if_eq (t := 26) dX12_line_4 rfl (by omega) (fun _ => ?_) (fun q => absurd q (by decide))
    refine rz_ldc2 (x := (-9223372036854775808)) dX12_line_26 kk_RX12_313 (by decide) ?_
    refine rz_lret dX12_line_29 rfl ?_
    exact ⟨_, rfl, (lin_neg hnv).symm, FrR_refl, rfl⟩
theorem c_X11_line {X : pX} {I J : IM} {h : Nat} {lw : Lw} {n : Nat} {m0 m1 : Mx} (hq : CqI I lw n m0 m1) (b k p : Int) (hb : rg b) (hk : rg k) (hp : rg p) : KLq X (h + 6) mX11_line [.ref 0, zi b, zi k, zi p] I J (fun z A B => z = linZ2 lw (I 7) (I 8) (I 9) (I 10) n m0 m1 b k p ∧ QC I lw n A ∧ J = B) := by
  by_cases hv : (b = 0 ∨ b = 1) ∧ (-1 ≤ k ∧ k ≤ 9) ∧ (p = 0 ∨ p = 1)
  · obtain ⟨hb1, hk1, hp1⟩ := hv
    by_cases e : k = -1
    · subst e
      rcases hb1 with rfl | rfl
      · exact line_c0m hq p hp1
      · exact line_c1m hq p hp1
    · obtain ⟨q, rfl⟩ : ∃ q : Nat, k = (q : Int) := ⟨k.toNat, by omega⟩
      rcases hb1 with rfl | rfl
      · exact line_c0n hq q (by omega) p hp1
      · exact line_c1n hq q (by omega) p hp1
  · exact line_cn hq b k p hb hk hp hv
theorem c_X12_line {X : pX} {I J : IM} {h : Nat} {lw : Lw} {n : Nat} {m0 m1 : Mx} (hq : RqI I lw n m0 m1) (b k p : Int) (hb : rg b) (hk : rg k) (hp : rg p) : KLq X (h + 7) mX12_line [.ref 81, zi b, zi k, zi p] I J (fun z A B => z = linZ2 lw (I 82) (I 83) (I 84) (I 85) n m0 m1 b k p ∧ FrR I A ∧ J = B) := by
  by_cases hv : (b = 0 ∨ b = 1) ∧ (-1 ≤ k ∧ k ≤ 9) ∧ (p = 0 ∨ p = 1)
  · obtain ⟨hb1, hk1, hp1⟩ := hv
    by_cases e : k = -1
    · subst e
      rcases hb1 with rfl | rfl
      · exact line_r0m hq p hp1
      · exact line_r1m hq p hp1
    · obtain ⟨q, rfl⟩ : ∃ q : Nat, k = (q : Int) := ⟨k.toNat, by omega⟩
      rcases hb1 with rfl | rfl
      · exact line_r0n hq q (by omega) p hp1
      · exact line_r1n hq q (by omega) p hp1
  · exact line_rn b k p hb hk hp hv
