/-! images, weights, numbers -/
def copyM (I : IM) (o e : Nat) : IM := upA (upA (upA I o (up1 (I o) 0 (I e 0))) (o + 1) (va_cpy (I (e + 1)) (I (o + 1)) 0 0 8)) (o + 2) (va_cpy (I (e + 2)) (I (o + 2)) 0 0 40)
set_option maxRecDepth 20000 in
set_option maxHeartbeats 400000 in
theorem c_copy21 (X : pX) (h : Nat) (I J : IM)  : KV X (h + 1) mX5_copy [.ref 21, .ref 14] I J (copyM I 21 14) J := by
  show Rz X (h + 1) mX5_copy 0 [some (.ref 21), some (.ref 14)] [] I J _
  refine rz_aload_n dX5_copy_0 rfl ?_
  refine rz_aload_n dX5_copy_1 rfl ?_
  refine rz_getI (z := (I 14 0)) dX5_copy_2 kf_RX5_18 hd_14 rfl rfl ?_
  refine rz_putI dX5_copy_5 kp_RX5_18 hd_21 rfl ?_
  refine rz_aload_n dX5_copy_8 rfl ?_
  refine rz_getR dX5_copy_9 kf_RX5_9 hd_14 rfl rr_14_1 ?_
  refine rz_iconst dX5_copy_12 ?_
  refine rz_aload_n dX5_copy_13 rfl ?_
  refine rz_getR dX5_copy_14 kf_RX5_9 hd_21 rfl rr_21_1 ?_
  refine rz_iconst dX5_copy_17 ?_
  refine rz_bipush dX5_copy_18 (by decide) ?_
  refine rz_copyi dX5_copy_20 kl_RX5_22 hd_15 hd_22 (by decide) (Nat.le_of_ble_eq_true rfl) (by omega) ?_
  refine rz_aload_n dX5_copy_23 rfl ?_
  refine rz_getR dX5_copy_24 kf_RX5_15 hd_14 rfl rr_14_2 ?_
  refine rz_iconst dX5_copy_27 ?_
  refine rz_aload_n dX5_copy_28 rfl ?_
  refine rz_getR dX5_copy_29 kf_RX5_15 hd_21 rfl rr_21_2 ?_
  refine rz_iconst dX5_copy_32 ?_
  refine rz_bipush dX5_copy_33 (by decide) ?_
  refine rz_copyi dX5_copy_35 kl_RX5_22 hd_16 hd_23 (by decide) (Nat.le_of_ble_eq_true rfl) (by omega) ?_
  refine rz_vret dX5_copy_38 rfl ?_
  exact ⟨rfl, rfl, rfl⟩
set_option maxRecDepth 20000 in
set_option maxHeartbeats 400000 in
theorem c_copy24 (X : pX) (h : Nat) (I J : IM)  : KV X (h + 1) mX5_copy [.ref 24, .ref 17] I J (copyM I 24 17) J := by
  show Rz X (h + 1) mX5_copy 0 [some (.ref 24), some (.ref 17)] [] I J _
  refine rz_aload_n dX5_copy_0 rfl ?_
  refine rz_aload_n dX5_copy_1 rfl ?_
  refine rz_getI (z := (I 17 0)) dX5_copy_2 kf_RX5_18 hd_17 rfl rfl ?_
  refine rz_putI dX5_copy_5 kp_RX5_18 hd_24 rfl ?_
  refine rz_aload_n dX5_copy_8 rfl ?_
  refine rz_getR dX5_copy_9 kf_RX5_9 hd_17 rfl rr_17_1 ?_
  refine rz_iconst dX5_copy_12 ?_
  refine rz_aload_n dX5_copy_13 rfl ?_
  refine rz_getR dX5_copy_14 kf_RX5_9 hd_24 rfl rr_24_1 ?_
  refine rz_iconst dX5_copy_17 ?_
  refine rz_bipush dX5_copy_18 (by decide) ?_
  refine rz_copyi dX5_copy_20 kl_RX5_22 hd_18 hd_25 (by decide) (Nat.le_of_ble_eq_true rfl) (by omega) ?_
  refine rz_aload_n dX5_copy_23 rfl ?_
  refine rz_getR dX5_copy_24 kf_RX5_15 hd_17 rfl rr_17_2 ?_
  refine rz_iconst dX5_copy_27 ?_
  refine rz_aload_n dX5_copy_28 rfl ?_
  refine rz_getR dX5_copy_29 kf_RX5_15 hd_24 rfl rr_24_2 ?_
  refine rz_iconst dX5_copy_32 ?_
  refine rz_bipush dX5_copy_33 (by decide) ?_
  refine rz_copyi dX5_copy_35 kl_RX5_22 hd_19 hd_26 (by decide) (Nat.le_of_ble_eq_true rfl) (by omega) ?_
  refine rz_vret dX5_copy_38 rfl ?_
  exact ⟨rfl, rfl, rfl⟩
set_option maxRecDepth 20000 in
set_option maxHeartbeats 400000 in
theorem c_copy14 (X : pX) (h : Nat) (I J : IM)  : KV X (h + 1) mX5_copy [.ref 14, .ref 21] I J (copyM I 14 21) J := by
  show Rz X (h + 1) mX5_copy 0 [some (.ref 14), some (.ref 21)] [] I J _
  refine rz_aload_n dX5_copy_0 rfl ?_
  refine rz_aload_n dX5_copy_1 rfl ?_
  refine rz_getI (z := (I 21 0)) dX5_copy_2 kf_RX5_18 hd_21 rfl rfl ?_
  refine rz_putI dX5_copy_5 kp_RX5_18 hd_14 rfl ?_
  refine rz_aload_n dX5_copy_8 rfl ?_
  refine rz_getR dX5_copy_9 kf_RX5_9 hd_21 rfl rr_21_1 ?_
  refine rz_iconst dX5_copy_12 ?_
  refine rz_aload_n dX5_copy_13 rfl ?_
  refine rz_getR dX5_copy_14 kf_RX5_9 hd_14 rfl rr_14_1 ?_
  refine rz_iconst dX5_copy_17 ?_
  refine rz_bipush dX5_copy_18 (by decide) ?_
  refine rz_copyi dX5_copy_20 kl_RX5_22 hd_22 hd_15 (by decide) (Nat.le_of_ble_eq_true rfl) (by omega) ?_
  refine rz_aload_n dX5_copy_23 rfl ?_
  refine rz_getR dX5_copy_24 kf_RX5_15 hd_21 rfl rr_21_2 ?_
  refine rz_iconst dX5_copy_27 ?_
  refine rz_aload_n dX5_copy_28 rfl ?_
  refine rz_getR dX5_copy_29 kf_RX5_15 hd_14 rfl rr_14_2 ?_
  refine rz_iconst dX5_copy_32 ?_
  refine rz_bipush dX5_copy_33 (by decide) ?_
  refine rz_copyi dX5_copy_35 kl_RX5_22 hd_23 hd_16 (by decide) (Nat.le_of_ble_eq_true rfl) (by omega) ?_
  refine rz_vret dX5_copy_38 rfl ?_
  exact ⟨rfl, rfl, rfl⟩
set_option maxRecDepth 20000 in
set_option maxHeartbeats 400000 in
theorem c_copy17 (X : pX) (h : Nat) (I J : IM)  : KV X (h + 1) mX5_copy [.ref 17, .ref 24] I J (copyM I 17 24) J := by
  show Rz X (h + 1) mX5_copy 0 [some (.ref 17), some (.ref 24)] [] I J _
  refine rz_aload_n dX5_copy_0 rfl ?_
  refine rz_aload_n dX5_copy_1 rfl ?_
  refine rz_getI (z := (I 24 0)) dX5_copy_2 kf_RX5_18 hd_24 rfl rfl ?_
  refine rz_putI dX5_copy_5 kp_RX5_18 hd_17 rfl ?_
  refine rz_aload_n dX5_copy_8 rfl ?_
  refine rz_getR dX5_copy_9 kf_RX5_9 hd_24 rfl rr_24_1 ?_
  refine rz_iconst dX5_copy_12 ?_
  refine rz_aload_n dX5_copy_13 rfl ?_
  refine rz_getR dX5_copy_14 kf_RX5_9 hd_17 rfl rr_17_1 ?_
  refine rz_iconst dX5_copy_17 ?_
  refine rz_bipush dX5_copy_18 (by decide) ?_
  refine rz_copyi dX5_copy_20 kl_RX5_22 hd_25 hd_18 (by decide) (Nat.le_of_ble_eq_true rfl) (by omega) ?_
  refine rz_aload_n dX5_copy_23 rfl ?_
  refine rz_getR dX5_copy_24 kf_RX5_15 hd_24 rfl rr_24_2 ?_
  refine rz_iconst dX5_copy_27 ?_
  refine rz_aload_n dX5_copy_28 rfl ?_
  refine rz_getR dX5_copy_29 kf_RX5_15 hd_17 rfl rr_17_2 ?_
  refine rz_iconst dX5_copy_32 ?_
  refine rz_bipush dX5_copy_33 (by decide) ?_
  refine rz_copyi dX5_copy_35 kl_RX5_22 hd_26 hd_19 (by decide) (Nat.le_of_ble_eq_true rfl) (by omega) ?_
  refine rz_vret dX5_copy_38 rfl ?_
  exact ⟨rfl, rfl, rfl⟩
def imageC (I : IM) : IM := upA (copyM (copyM I 21 14) 24 17) 0 (up1 (copyM (copyM I 21 14) 24 17 0) 4 1)
def backC (I : IM) : IM := if I 0 4 = 0 then I else copyM (copyM I 14 21) 17 24
set_option maxRecDepth 20000 in
set_option maxHeartbeats 400000 in
theorem c_X11_image (X : pX) (h : Nat) (I J : IM)  : KI X (h + 2) mX11_image [.ref 0] I J (I 14 0 + I 17 0) (imageC I) J := by
  show Rz X (h + 2) mX11_image 0 [some (.ref 0)] [] I J _
  refine rz_aload_n dX11_image_0 rfl ?_
  refine rz_getR dX11_image_1 kf_RX11_32 hd_0 rfl rr_0_3 ?_
  refine rz_iconst dX11_image_4 ?_
  refine rz_aald (by decide) dX11_image_5 hd_20 (by decide) (by decide) rr_20_0 ?_
  refine rz_aload_n dX11_image_6 rfl ?_
  refine rz_getR dX11_image_7 kf_RX11_28 hd_0 rfl rr_0_2 ?_
  refine rz_iconst dX11_image_10 ?_
  refine rz_aald (by decide) dX11_image_11 hd_13 (by decide) (by decide) rr_13_0 ?_
  refine rz_cVV dX11_image_12 kl_RX11_293 hd_21 ⟨_, _, rfl⟩ (c_copy21 X _ I J) rfl rfl (Nat.le_of_ble_eq_true rfl) (Nat.le_of_ble_eq_true rfl) ?_
  refine rz_aload_n dX11_image_15 rfl ?_
  refine rz_getR dX11_image_16 kf_RX11_32 hd_0 rfl rr_0_3 ?_
  refine rz_iconst dX11_image_19 ?_
  refine rz_aald (by decide) dX11_image_20 hd_20 (by decide) (by decide) rr_20_1 ?_
  refine rz_aload_n dX11_image_21 rfl ?_
  refine rz_getR dX11_image_22 kf_RX11_28 hd_0 rfl rr_0_2 ?_
  refine rz_iconst dX11_image_25 ?_
  refine rz_aald (by decide) dX11_image_26 hd_13 (by decide) (by decide) rr_13_1 ?_
  refine rz_cVV dX11_image_27 kl_RX11_293 hd_24 ⟨_, _, rfl⟩ (c_copy24 X _ (copyM I 21 14) J) rfl rfl (Nat.le_of_ble_eq_true rfl) (Nat.le_of_ble_eq_true rfl) ?_
  refine rz_aload_n dX11_image_30 rfl ?_
  refine rz_iconst dX11_image_31 ?_
  refine rz_putZ dX11_image_32 kp_RX11_297 hd_0 rfl (by decide) ?_
  refine rz_aload_n dX11_image_35 rfl ?_
  refine rz_getR dX11_image_36 kf_RX11_28 hd_0 rfl rr_0_2 ?_
  refine rz_iconst dX11_image_39 ?_
  refine rz_aald (by decide) dX11_image_40 hd_13 (by decide) (by decide) rr_13_0 ?_
  refine rz_getI (z := (I 14 0)) dX11_image_41 kf_RX11_134 hd_14 rfl rfl ?_
  refine rz_aload_n dX11_image_44 rfl ?_
  refine rz_getR dX11_image_45 kf_RX11_28 hd_0 rfl rr_0_2 ?_
  refine rz_iconst dX11_image_48 ?_
  refine rz_aald (by decide) dX11_image_49 hd_13 (by decide) (by decide) rr_13_1 ?_
  refine rz_getI (z := (I 17 0)) dX11_image_50 kf_RX11_134 hd_17 rfl rfl ?_
  refine rz_iadd dX11_image_53 ?_
  refine rz_iret dX11_image_54 rfl ?_
  exact ⟨_, rfl, rfl, rfl, rfl⟩
set_option maxRecDepth 20000 in
set_option maxHeartbeats 400000 in
theorem c_X11_back (X : pX) (h : Nat) (I J : IM) (hz : I 0 4 = 0 ∨ I 0 4 = 1) : KI X (h + 2) mX11_back [.ref 0] I J (if I 0 4 = 0 then -5 else I 21 0 + I 24 0) (backC I) J := by
  show Rz X (h + 2) mX11_back 0 [some (.ref 0)] [] I J _
  refine rz_aload_n dX11_back_0 rfl ?_
  refine rz_getI (z := (I 0 4)) dX11_back_1 kf_RX11_297 hd_0 rfl rfl ?_
  refine rz_if_ne (t := 10) dX11_back_4 rfl (by omega) (fun c4 => ?_) (fun c4 => ?_)
  · refine rz_aload_n dX11_back_10 rfl ?_
    refine rz_getR dX11_back_11 kf_RX11_28 hd_0 rfl rr_0_2 ?_
    refine rz_iconst dX11_back_14 ?_
    refine rz_aald (by decide) dX11_back_15 hd_13 (by decide) (by decide) rr_13_0 ?_
    refine rz_aload_n dX11_back_16 rfl ?_
    refine rz_getR dX11_back_17 kf_RX11_32 hd_0 rfl rr_0_3 ?_
    refine rz_iconst dX11_back_20 ?_
    refine rz_aald (by decide) dX11_back_21 hd_20 (by decide) (by decide) rr_20_0 ?_
    refine rz_cVV dX11_back_22 kl_RX11_293 hd_14 ⟨_, _, rfl⟩ (c_copy14 X _ I J) rfl rfl (Nat.le_of_ble_eq_true rfl) (Nat.le_of_ble_eq_true rfl) ?_
    refine rz_aload_n dX11_back_25 rfl ?_
    refine rz_getR dX11_back_26 kf_RX11_28 hd_0 rfl rr_0_2 ?_
    refine rz_iconst dX11_back_29 ?_
    refine rz_aald (by decide) dX11_back_30 hd_13 (by decide) (by decide) rr_13_1 ?_
    refine rz_aload_n dX11_back_31 rfl ?_
    refine rz_getR dX11_back_32 kf_RX11_32 hd_0 rfl rr_0_3 ?_
    refine rz_iconst dX11_back_35 ?_
    refine rz_aald (by decide) dX11_back_36 hd_20 (by decide) (by decide) rr_20_1 ?_
    refine rz_cVV dX11_back_37 kl_RX11_293 hd_17 ⟨_, _, rfl⟩ (c_copy17 X _ (copyM I 14 21) J) rfl rfl (Nat.le_of_ble_eq_true rfl) (Nat.le_of_ble_eq_true rfl) ?_
    refine rz_aload_n dX11_back_40 rfl ?_
    refine rz_getR dX11_back_41 kf_RX11_28 hd_0 rfl rr_0_2 ?_
    refine rz_iconst dX11_back_44 ?_
    refine rz_aald (by decide) dX11_back_45 hd_13 (by decide) (by decide) rr_13_0 ?_
    refine rz_getI (z := ((copyM I 14 21) 14 0)) dX11_back_46 kf_RX11_134 hd_14 rfl rfl ?_
    refine rz_aload_n dX11_back_49 rfl ?_
    refine rz_getR dX11_back_50 kf_RX11_28 hd_0 rfl rr_0_2 ?_
    refine rz_iconst dX11_back_53 ?_
    refine rz_aald (by decide) dX11_back_54 hd_13 (by decide) (by decide) rr_13_1 ?_
    refine rz_getI (z := ((copyM (copyM I 14 21) 17 24) 17 0)) dX11_back_55 kf_RX11_134 hd_17 rfl rfl ?_
    refine rz_iadd dX11_back_58 ?_
    refine rz_iret dX11_back_59 rfl ?_
    exact ⟨_, rfl, by rw [if_neg c4]; rfl, (if_neg c4).symm, rfl⟩
  · refine rz_bipush dX11_back_7 (by decide) ?_
    refine rz_iret dX11_back_9 rfl ?_
    exact ⟨_, rfl, (if_pos c4).symm, (if_pos c4).symm, rfl⟩
def imR0 (I : IM) : IM := upA I 81 (up1 (I 81) 47 1)
def imR1 (I : IM) : IM := copF (imR0 I) 113 0 2 (I 86)
def imR2 (I : IM) : IM := copF (imR1 I) 114 0 16 (I 87)
def imR3 (I : IM) : IM := copF (imR2 I) 115 0 80 (I 88)
def baR1 (I : IM) : IM := copF I 86 0 2 (I 113)
def baR2 (I : IM) : IM := copF (baR1 I) 87 0 16 (I 114)
def baR3 (I : IM) : IM := copF (baR2 I) 88 0 80 (I 115)
set_option maxRecDepth 20000 in
set_option maxHeartbeats 400000 in
theorem c_X12_image (X : pX) (h : Nat) (I J : IM) (h8 : ∀ k : Nat, -128 ≤ I 88 k ∧ I 88 k ≤ 127) : KI X h mX12_image [.ref 81] I J (I 86 0 + I 86 1) (imR3 I) J := by
  show Rz X h mX12_image 0 [some (.ref 81), none] [] I J _
  refine rz_aload_n dX12_image_0 rfl ?_
  refine rz_iconst dX12_image_1 ?_
  refine rz_putZ dX12_image_2 kp_RX12_371 hd_81 rfl (by decide) ?_
  refine rz_iconst dX12_image_5 ?_
  refine rz_istore_n dX12_image_6 (by decide) rfl ?_
  refine rz_up (ls := fun q : Nat => [some (.ref 81), some (zi (q : Int))]) (IV := fun q : Nat => (copF (imR0 I) 113 0 q (I 86))) (JV := fun q : Nat => J) (2) ⟨Or.inr rfl, Or.inr rfl, trivial⟩ (copF_0) (rfl) ?_ ?_
  · intro q hq ihq
    refine rz_iload_n dX12_image_7 rfl ?_
    refine rz_iconst dX12_image_8 ?_
    refine rz_icmp_ge (t := 30) dX12_image_9 rfl (by omega) (by omega) (fun c9 => ?_) (fun c9 => ?_)
    · exfalso; omega
    · refine rz_aload_n dX12_image_12 rfl ?_
      refine rz_getR dX12_image_13 kf_RX12_105 hd_81 rfl rr_81_48 ?_
      refine rz_iload_n dX12_image_16 rfl ?_
      refine rz_aload_n dX12_image_17 rfl ?_
      refine rz_getR dX12_image_18 kf_RX12_22 hd_81 rfl rr_81_6 ?_
      refine rz_iload_n dX12_image_21 rfl ?_
      refine rz_ialdN (k := q) (z := (I 86 q)) dX12_image_22 hd_86 (by decide) (by omega) (by omega) rfl ?_
      refine rz_iastN (k := q) dX12_image_23 hd_113 (by decide) (by omega) (by omega) ?_
      refine rz_iinc dX12_image_24 (by decide) rfl rfl rfl ?_
      refine rz_goto (t := 7) dX12_image_27 rfl ?_
      exact rz_bk ihq ⟨Or.inr rfl, Or.inr rfl, trivial⟩ ((by rw [copF_step rfl, Nat.zero_add])) (rfl)
  · skip
    refine rz_iload_n dX12_image_7 rfl ?_
    refine rz_iconst dX12_image_8 ?_
    refine rz_icmp_ge (t := 30) dX12_image_9 rfl (by omega) (by omega) (fun c9 => ?_) (fun c9 => ?_)
    · refine rz_iconst dX12_image_30 ?_
      refine rz_istore_n dX12_image_31 (by decide) rfl ?_
      refine rz_up (ls := fun q : Nat => [some (.ref 81), some (zi (q : Int))]) (IV := fun q : Nat => (copF (imR1 I) 114 0 q (I 87))) (JV := fun q : Nat => J) (16) ⟨Or.inr rfl, Or.inr rfl, trivial⟩ (copF_0) (rfl) ?_ ?_
      · intro q hq ihq
        refine rz_iload_n dX12_image_32 rfl ?_
        refine rz_bipush dX12_image_33 (by decide) ?_
        refine rz_icmp_ge (t := 56) dX12_image_35 rfl (by omega) (by omega) (fun c35 => ?_) (fun c35 => ?_)
        · exfalso; omega
        · refine rz_aload_n dX12_image_38 rfl ?_
          refine rz_getR dX12_image_39 kf_RX12_108 hd_81 rfl rr_81_49 ?_
          refine rz_iload_n dX12_image_42 rfl ?_
          refine rz_aload_n dX12_image_43 rfl ?_
          refine rz_getR dX12_image_44 kf_RX12_25 hd_81 rfl rr_81_7 ?_
          refine rz_iload_n dX12_image_47 rfl ?_
          refine rz_ialdN (k := q) (z := (I 87 q)) dX12_image_48 hd_87 (by decide) (by omega) (by omega) rfl ?_
          refine rz_iastN (k := q) dX12_image_49 hd_114 (by decide) (by omega) (by omega) ?_
          refine rz_iinc dX12_image_50 (by decide) rfl rfl rfl ?_
          refine rz_goto (t := 32) dX12_image_53 rfl ?_
          exact rz_bk ihq ⟨Or.inr rfl, Or.inr rfl, trivial⟩ ((by rw [copF_step rfl, Nat.zero_add])) (rfl)
      · skip
        refine rz_iload_n dX12_image_32 rfl ?_
        refine rz_bipush dX12_image_33 (by decide) ?_
        refine rz_icmp_ge (t := 56) dX12_image_35 rfl (by omega) (by omega) (fun c35 => ?_) (fun c35 => ?_)
        · refine rz_iconst dX12_image_56 ?_
          refine rz_istore_n dX12_image_57 (by decide) rfl ?_
          refine rz_up (ls := fun q : Nat => [some (.ref 81), some (zi (q : Int))]) (IV := fun q : Nat => (copF (imR2 I) 115 0 q (I 88))) (JV := fun q : Nat => J) (80) ⟨Or.inr rfl, Or.inr rfl, trivial⟩ (copF_0) (rfl) ?_ ?_
          · intro q hq ihq
            refine rz_iload_n dX12_image_58 rfl ?_
            refine rz_bipush dX12_image_59 (by decide) ?_
            refine rz_icmp_ge (t := 82) dX12_image_61 rfl (by omega) (by omega) (fun c61 => ?_) (fun c61 => ?_)
            · exfalso; omega
            · refine rz_aload_n dX12_image_64 rfl ?_
              refine rz_getR dX12_image_65 kf_RX12_111 hd_81 rfl rr_81_50 ?_
              refine rz_iload_n dX12_image_68 rfl ?_
              refine rz_aload_n dX12_image_69 rfl ?_
              refine rz_getR dX12_image_70 kf_RX12_28 hd_81 rfl rr_81_8 ?_
              refine rz_iload_n dX12_image_73 rfl ?_
              refine rz_baldN (k := q) (z := (I 88 q)) dX12_image_74 hd_88 (by decide) (by omega) (by omega) rfl ?_
              refine rz_bastN (k := q) dX12_image_75 hd_115 (by decide) (by omega) (by omega) (h8 q) ?_
              refine rz_iinc dX12_image_76 (by decide) rfl rfl rfl ?_
              refine rz_goto (t := 58) dX12_image_79 rfl ?_
              exact rz_bk ihq ⟨Or.inr rfl, Or.inr rfl, trivial⟩ ((by rw [copF_step rfl, Nat.zero_add])) (rfl)
          · skip
            refine rz_iload_n dX12_image_58 rfl ?_
            refine rz_bipush dX12_image_59 (by decide) ?_
            refine rz_icmp_ge (t := 82) dX12_image_61 rfl (by omega) (by omega) (fun c61 => ?_) (fun c61 => ?_)
            · refine rz_aload_n dX12_image_82 rfl ?_
              refine rz_getR dX12_image_83 kf_RX12_22 hd_81 rfl rr_81_6 ?_
              refine rz_iconst dX12_image_86 ?_
              refine rz_iald (z := (I 86 0)) dX12_image_87 hd_86 (by decide) (by omega) rfl ?_
              refine rz_aload_n dX12_image_88 rfl ?_
              refine rz_getR dX12_image_89 kf_RX12_22 hd_81 rfl rr_81_6 ?_
              refine rz_iconst dX12_image_92 ?_
              refine rz_iald (z := (I 86 1)) dX12_image_93 hd_86 (by decide) (by omega) rfl ?_
              refine rz_iadd dX12_image_94 ?_
              refine rz_iret dX12_image_95 rfl ?_
              exact ⟨_, rfl, rfl, rfl, rfl⟩
            · exfalso; omega
        · exfalso; omega
    · exfalso; omega
set_option maxRecDepth 20000 in
set_option maxHeartbeats 400000 in
theorem c_X12_back (X : pX) (h : Nat) (I J : IM) (h8 : ∀ k : Nat, -128 ≤ I 115 k ∧ I 115 k ≤ 127) (hz : I 81 47 = 0 ∨ I 81 47 = 1) : KI X h mX12_back [.ref 81] I J (if I 81 47 = 0 then -5 else I 113 0 + I 113 1) (if I 81 47 = 0 then I else baR3 I) J := by
  show Rz X h mX12_back 0 [some (.ref 81), none] [] I J _
  refine rz_aload_n dX12_back_0 rfl ?_
  refine rz_getI (z := (I 81 47)) dX12_back_1 kf_RX12_371 hd_81 rfl rfl ?_
  refine rz_if_ne (t := 10) dX12_back_4 rfl (by omega) (fun c4 => ?_) (fun c4 => ?_)
  · refine rz_iconst dX12_back_10 ?_
    refine rz_istore_n dX12_back_11 (by decide) rfl ?_
    refine rz_up (ls := fun q : Nat => [some (.ref 81), some (zi (q : Int))]) (IV := fun q : Nat => (copF I 86 0 q (I 113))) (JV := fun q : Nat => J) (2) ⟨Or.inr rfl, Or.inr rfl, trivial⟩ (copF_0) (rfl) ?_ ?_
    · intro q hq ihq
      refine rz_iload_n dX12_back_12 rfl ?_
      refine rz_iconst dX12_back_13 ?_
      refine rz_icmp_ge (t := 35) dX12_back_14 rfl (by omega) (by omega) (fun c14 => ?_) (fun c14 => ?_)
      · exfalso; omega
      · refine rz_aload_n dX12_back_17 rfl ?_
        refine rz_getR dX12_back_18 kf_RX12_22 hd_81 rfl rr_81_6 ?_
        refine rz_iload_n dX12_back_21 rfl ?_
        refine rz_aload_n dX12_back_22 rfl ?_
        refine rz_getR dX12_back_23 kf_RX12_105 hd_81 rfl rr_81_48 ?_
        refine rz_iload_n dX12_back_26 rfl ?_
        refine rz_ialdN (k := q) (z := (I 113 q)) dX12_back_27 hd_113 (by decide) (by omega) (by omega) rfl ?_
        refine rz_iastN (k := q) dX12_back_28 hd_86 (by decide) (by omega) (by omega) ?_
        refine rz_iinc dX12_back_29 (by decide) rfl rfl rfl ?_
        refine rz_goto (t := 12) dX12_back_32 rfl ?_
        exact rz_bk ihq ⟨Or.inr rfl, Or.inr rfl, trivial⟩ ((by rw [copF_step rfl, Nat.zero_add])) (rfl)
    · skip
      refine rz_iload_n dX12_back_12 rfl ?_
      refine rz_iconst dX12_back_13 ?_
      refine rz_icmp_ge (t := 35) dX12_back_14 rfl (by omega) (by omega) (fun c14 => ?_) (fun c14 => ?_)
      · refine rz_iconst dX12_back_35 ?_
        refine rz_istore_n dX12_back_36 (by decide) rfl ?_
        refine rz_up (ls := fun q : Nat => [some (.ref 81), some (zi (q : Int))]) (IV := fun q : Nat => (copF (baR1 I) 87 0 q (I 114))) (JV := fun q : Nat => J) (16) ⟨Or.inr rfl, Or.inr rfl, trivial⟩ (copF_0) (rfl) ?_ ?_
        · intro q hq ihq
          refine rz_iload_n dX12_back_37 rfl ?_
          refine rz_bipush dX12_back_38 (by decide) ?_
          refine rz_icmp_ge (t := 61) dX12_back_40 rfl (by omega) (by omega) (fun c40 => ?_) (fun c40 => ?_)
          · exfalso; omega
          · refine rz_aload_n dX12_back_43 rfl ?_
            refine rz_getR dX12_back_44 kf_RX12_25 hd_81 rfl rr_81_7 ?_
            refine rz_iload_n dX12_back_47 rfl ?_
            refine rz_aload_n dX12_back_48 rfl ?_
            refine rz_getR dX12_back_49 kf_RX12_108 hd_81 rfl rr_81_49 ?_
            refine rz_iload_n dX12_back_52 rfl ?_
            refine rz_ialdN (k := q) (z := (I 114 q)) dX12_back_53 hd_114 (by decide) (by omega) (by omega) rfl ?_
            refine rz_iastN (k := q) dX12_back_54 hd_87 (by decide) (by omega) (by omega) ?_
            refine rz_iinc dX12_back_55 (by decide) rfl rfl rfl ?_
            refine rz_goto (t := 37) dX12_back_58 rfl ?_
            exact rz_bk ihq ⟨Or.inr rfl, Or.inr rfl, trivial⟩ ((by rw [copF_step rfl, Nat.zero_add])) (rfl)
        · skip
          refine rz_iload_n dX12_back_37 rfl ?_
          refine rz_bipush dX12_back_38 (by decide) ?_
          refine rz_icmp_ge (t := 61) dX12_back_40 rfl (by omega) (by omega) (fun c40 => ?_) (fun c40 => ?_)
          · refine rz_iconst dX12_back_61 ?_
            refine rz_istore_n dX12_back_62 (by decide) rfl ?_
            refine rz_up (ls := fun q : Nat => [some (.ref 81), some (zi (q : Int))]) (IV := fun q : Nat => (copF (baR2 I) 88 0 q (I 115))) (JV := fun q : Nat => J) (80) ⟨Or.inr rfl, Or.inr rfl, trivial⟩ (copF_0) (rfl) ?_ ?_
            · intro q hq ihq
              refine rz_iload_n dX12_back_63 rfl ?_
              refine rz_bipush dX12_back_64 (by decide) ?_
              refine rz_icmp_ge (t := 87) dX12_back_66 rfl (by omega) (by omega) (fun c66 => ?_) (fun c66 => ?_)
              · exfalso; omega
              · refine rz_aload_n dX12_back_69 rfl ?_
                refine rz_getR dX12_back_70 kf_RX12_28 hd_81 rfl rr_81_8 ?_
                refine rz_iload_n dX12_back_73 rfl ?_
                refine rz_aload_n dX12_back_74 rfl ?_
                refine rz_getR dX12_back_75 kf_RX12_111 hd_81 rfl rr_81_50 ?_
                refine rz_iload_n dX12_back_78 rfl ?_
                refine rz_baldN (k := q) (z := (I 115 q)) dX12_back_79 hd_115 (by decide) (by omega) (by omega) rfl ?_
                refine rz_bastN (k := q) dX12_back_80 hd_88 (by decide) (by omega) (by omega) (h8 q) ?_
                refine rz_iinc dX12_back_81 (by decide) rfl rfl rfl ?_
                refine rz_goto (t := 63) dX12_back_84 rfl ?_
                exact rz_bk ihq ⟨Or.inr rfl, Or.inr rfl, trivial⟩ ((by rw [copF_step rfl, Nat.zero_add])) (rfl)
            · skip
              refine rz_iload_n dX12_back_63 rfl ?_
              refine rz_bipush dX12_back_64 (by decide) ?_
              refine rz_icmp_ge (t := 87) dX12_back_66 rfl (by omega) (by omega) (fun c66 => ?_) (fun c66 => ?_)
              · refine rz_aload_n dX12_back_87 rfl ?_
                refine rz_getR dX12_back_88 kf_RX12_22 hd_81 rfl rr_81_6 ?_
                refine rz_iconst dX12_back_91 ?_
                refine rz_iald (z := ((copF I 86 0 2 (I 113)) 86 0)) dX12_back_92 hd_86 (by decide) (by omega) rfl ?_
                refine rz_aload_n dX12_back_93 rfl ?_
                refine rz_getR dX12_back_94 kf_RX12_22 hd_81 rfl rr_81_6 ?_
                refine rz_iconst dX12_back_97 ?_
                refine rz_iald (z := ((copF I 86 0 2 (I 113)) 86 1)) dX12_back_98 hd_86 (by decide) (by omega) rfl ?_
                refine rz_iadd dX12_back_99 ?_
                refine rz_iret dX12_back_100 rfl ?_
                exact ⟨_, rfl, by rw [if_neg c4]; rfl, (if_neg c4).symm, rfl⟩
              · exfalso; omega
          · exfalso; omega
      · exfalso; omega
  · refine rz_bipush dX12_back_7 (by decide) ?_
    refine rz_iret dX12_back_9 rfl ?_
    exact ⟨_, rfl, (if_pos c4).symm, (if_pos c4).symm, rfl⟩
def linZ (m : Int) : Int := if m = 0 then 1 else m
set_option maxRecDepth 20000 in
set_option maxHeartbeats 400000 in
theorem c_weight14 (X : pX) (h : Nat) (I J : IM) (m : Nat) (hm : I 14 0 = m ∧ m ≤ 8) : KI X h mX5_weight [.ref 14] I J (sumP (I 15) m) I J := by
  show Rz X h mX5_weight 0 [some (.ref 14), none, none] [] I J _
  refine rz_iconst dX5_weight_0 ?_
  refine rz_istore_n dX5_weight_1 (by decide) rfl ?_
  refine rz_iconst dX5_weight_2 ?_
  refine rz_istore_n dX5_weight_3 (by decide) rfl ?_
  refine rz_up (ls := fun q : Nat => [some (.ref 14), some (zi (sumP (I 15) q)), some (zi (q : Int))]) (IV := fun q : Nat => I) (JV := fun q : Nat => J) (m) ⟨Or.inr rfl, Or.inr rfl, Or.inr rfl, trivial⟩ (rfl) (rfl) ?_ ?_
  · intro q hq ihq
    refine rz_iload_n dX5_weight_4 rfl ?_
    refine rz_aload_n dX5_weight_5 rfl ?_
    refine rz_getI (z := (I 14 0)) dX5_weight_6 kf_RX5_18 hd_14 rfl rfl ?_
    refine rz_icmp_ge (t := 27) dX5_weight_9 rfl (by omega) (by omega) (fun c9 => ?_) (fun c9 => ?_)
    · exfalso; omega
    · refine rz_iload_n dX5_weight_12 rfl ?_
      refine rz_aload_n dX5_weight_13 rfl ?_
      refine rz_getR dX5_weight_14 kf_RX5_9 hd_14 rfl rr_14_1 ?_
      refine rz_iload_n dX5_weight_17 rfl ?_
      refine rz_ialdN (k := q) (z := (I 15 q)) dX5_weight_18 hd_15 (by decide) (by omega) (by omega) rfl ?_
      refine rz_iadd dX5_weight_19 ?_
      refine rz_istore_n dX5_weight_20 (by decide) rfl ?_
      refine rz_iinc dX5_weight_21 (by decide) rfl rfl rfl ?_
      refine rz_goto (t := 4) dX5_weight_24 rfl ?_
      exact rz_bk ihq ⟨Or.inr rfl, Or.inr rfl, Or.inr rfl, trivial⟩ (rfl) (rfl)
  · skip
    refine rz_iload_n dX5_weight_4 rfl ?_
    refine rz_aload_n dX5_weight_5 rfl ?_
    refine rz_getI (z := (I 14 0)) dX5_weight_6 kf_RX5_18 hd_14 rfl rfl ?_
    refine rz_icmp_ge (t := 27) dX5_weight_9 rfl (by omega) (by omega) (fun c9 => ?_) (fun c9 => ?_)
    · refine rz_iload_n dX5_weight_27 rfl ?_
      refine rz_iret dX5_weight_28 rfl ?_
      exact ⟨_, rfl, rfl, rfl, rfl⟩
    · exfalso; omega
set_option maxRecDepth 20000 in
set_option maxHeartbeats 400000 in
theorem c_whole14 (X : pX) (h : Nat) (I J : IM) (m : Nat) (hm : I 14 0 = m ∧ m ≤ 8) : KI X (h + 1) mX5_whole [.ref 14] I J (if m = 0 then 1 else sumP (I 15) m) I J := by
  show Rz X (h + 1) mX5_whole 0 [some (.ref 14)] [] I J _
  refine rz_aload_n dX5_whole_0 rfl ?_
  refine rz_getI (z := (I 14 0)) dX5_whole_1 kf_RX5_18 hd_14 rfl rfl ?_
  refine rz_if_ne (t := 11) dX5_whole_4 rfl (by omega) (fun c4 => ?_) (fun c4 => ?_)
  · refine rz_aload_n dX5_whole_11 rfl ?_
    refine rz_cVI dX5_whole_12 kl_RX5_28 hd_14 ⟨_, _, rfl⟩ (c_weight14 X _ I J m hm) rfl rfl (Nat.le_of_ble_eq_true rfl) (Nat.le_of_ble_eq_true rfl) ?_
    refine rz_iret dX5_whole_15 rfl ?_
    exact ⟨_, rfl, (if_neg (by omega)).symm, rfl, rfl⟩
  · refine rz_iconst dX5_whole_7 ?_
    refine rz_goto (t := 15) dX5_whole_8 rfl ?_
    refine rz_iret dX5_whole_15 rfl ?_
    exact ⟨_, rfl, (if_pos (by omega)).symm, rfl, rfl⟩
set_option maxRecDepth 20000 in
set_option maxHeartbeats 400000 in
theorem c_lines14 (X : pX) (h : Nat) (I J : IM) (hm : 0 ≤ I 14 0 ∧ I 14 0 ≤ 8) : KI X h mX5_lines [.ref 14] I J (linZ (I 14 0)) I J := by
  show Rz X h mX5_lines 0 [some (.ref 14)] [] I J _
  refine rz_aload_n dX5_lines_0 rfl ?_
  refine rz_getI (z := (I 14 0)) dX5_lines_1 kf_RX5_18 hd_14 rfl rfl ?_
  refine rz_if_ne (t := 11) dX5_lines_4 rfl (by omega) (fun c4 => ?_) (fun c4 => ?_)
  · refine rz_aload_n dX5_lines_11 rfl ?_
    refine rz_getI (z := (I 14 0)) dX5_lines_12 kf_RX5_18 hd_14 rfl rfl ?_
    refine rz_iret dX5_lines_15 rfl ?_
    exact ⟨_, rfl, (if_neg (by omega)).symm, rfl, rfl⟩
  · refine rz_iconst dX5_lines_7 ?_
    refine rz_goto (t := 15) dX5_lines_8 rfl ?_
    refine rz_iret dX5_lines_15 rfl ?_
    exact ⟨_, rfl, (if_pos (by omega)).symm, rfl, rfl⟩
set_option maxRecDepth 20000 in
set_option maxHeartbeats 400000 in
theorem c_weightAt14 (X : pX) (h : Nat) (I J : IM) (k : Nat) (hm : 0 ≤ I 14 0 ∧ I 14 0 ≤ 8) (hk : k < 8) : KI X h mX5_weightAt [.ref 14, zi (k : Int)] I J (if I 14 0 = 0 then 1 else I 15 k) I J := by
  show Rz X h mX5_weightAt 0 [some (.ref 14), some (zi (k : Int))] [] I J _
  refine rz_aload_n dX5_weightAt_0 rfl ?_
  refine rz_getI (z := (I 14 0)) dX5_weightAt_1 kf_RX5_18 hd_14 rfl rfl ?_
  refine rz_if_ne (t := 11) dX5_weightAt_4 rfl (by omega) (fun c4 => ?_) (fun c4 => ?_)
  · refine rz_aload_n dX5_weightAt_11 rfl ?_
    refine rz_getR dX5_weightAt_12 kf_RX5_9 hd_14 rfl rr_14_1 ?_
    refine rz_iload_n dX5_weightAt_15 rfl ?_
    refine rz_ialdN (k := k) (z := (I 15 k)) dX5_weightAt_16 hd_15 (by decide) (by omega) (by omega) rfl ?_
    refine rz_iret dX5_weightAt_17 rfl ?_
    exact ⟨_, rfl, (if_neg (by omega)).symm, rfl, rfl⟩
  · refine rz_iconst dX5_weightAt_7 ?_
    refine rz_goto (t := 17) dX5_weightAt_8 rfl ?_
    refine rz_iret dX5_weightAt_17 rfl ?_
    exact ⟨_, rfl, (if_pos (by omega)).symm, rfl, rfl⟩
set_option maxRecDepth 20000 in
set_option maxHeartbeats 400000 in
theorem c_loavesAt14 (X : pX) (h : Nat) (I J : IM) (k v : Nat) (hm : 0 ≤ I 14 0 ∧ I 14 0 ≤ 8) (hk : k < 8) (hv : v < 5) : KI X h mX5_loavesAt [.ref 14, zi (k : Int), zi (v : Int)] I J (if I 14 0 = 0 then 0 else I 16 (5 * k + v)) I J := by
  show Rz X h mX5_loavesAt 0 [some (.ref 14), some (zi (k : Int)), some (zi (v : Int))] [] I J _
  refine rz_aload_n dX5_loavesAt_0 rfl ?_
  refine rz_getI (z := (I 14 0)) dX5_loavesAt_1 kf_RX5_18 hd_14 rfl rfl ?_
  refine rz_if_ne (t := 11) dX5_loavesAt_4 rfl (by omega) (fun c4 => ?_) (fun c4 => ?_)
  · refine rz_aload_n dX5_loavesAt_11 rfl ?_
    refine rz_getR dX5_loavesAt_12 kf_RX5_15 hd_14 rfl rr_14_2 ?_
    refine rz_iload_n dX5_loavesAt_15 rfl ?_
    refine rz_iconst dX5_loavesAt_16 ?_
    refine rz_imul dX5_loavesAt_17 ?_
    refine rz_iload_n dX5_loavesAt_18 rfl ?_
    refine rz_iadd dX5_loavesAt_19 ?_
    refine rz_ialdN (k := (5 * k + v)) (z := (I 16 (5 * k + v))) dX5_loavesAt_20 hd_16 (by decide) (by omega) (by omega) rfl ?_
    refine rz_iret dX5_loavesAt_21 rfl ?_
    exact ⟨_, rfl, (if_neg (by omega)).symm, rfl, rfl⟩
  · refine rz_iconst dX5_loavesAt_7 ?_
    refine rz_goto (t := 21) dX5_loavesAt_8 rfl ?_
    refine rz_iret dX5_loavesAt_21 rfl ?_
    exact ⟨_, rfl, (if_pos (by omega)).symm, rfl, rfl⟩
set_option maxRecDepth 20000 in
set_option maxHeartbeats 400000 in
theorem c_weight17 (X : pX) (h : Nat) (I J : IM) (m : Nat) (hm : I 17 0 = m ∧ m ≤ 8) : KI X h mX5_weight [.ref 17] I J (sumP (I 18) m) I J := by
  show Rz X h mX5_weight 0 [some (.ref 17), none, none] [] I J _
  refine rz_iconst dX5_weight_0 ?_
  refine rz_istore_n dX5_weight_1 (by decide) rfl ?_
  refine rz_iconst dX5_weight_2 ?_
  refine rz_istore_n dX5_weight_3 (by decide) rfl ?_
  refine rz_up (ls := fun q : Nat => [some (.ref 17), some (zi (sumP (I 18) q)), some (zi (q : Int))]) (IV := fun q : Nat => I) (JV := fun q : Nat => J) (m) ⟨Or.inr rfl, Or.inr rfl, Or.inr rfl, trivial⟩ (rfl) (rfl) ?_ ?_
  · intro q hq ihq
    refine rz_iload_n dX5_weight_4 rfl ?_
    refine rz_aload_n dX5_weight_5 rfl ?_
    refine rz_getI (z := (I 17 0)) dX5_weight_6 kf_RX5_18 hd_17 rfl rfl ?_
    refine rz_icmp_ge (t := 27) dX5_weight_9 rfl (by omega) (by omega) (fun c9 => ?_) (fun c9 => ?_)
    · exfalso; omega
    · refine rz_iload_n dX5_weight_12 rfl ?_
      refine rz_aload_n dX5_weight_13 rfl ?_
      refine rz_getR dX5_weight_14 kf_RX5_9 hd_17 rfl rr_17_1 ?_
      refine rz_iload_n dX5_weight_17 rfl ?_
      refine rz_ialdN (k := q) (z := (I 18 q)) dX5_weight_18 hd_18 (by decide) (by omega) (by omega) rfl ?_
      refine rz_iadd dX5_weight_19 ?_
      refine rz_istore_n dX5_weight_20 (by decide) rfl ?_
      refine rz_iinc dX5_weight_21 (by decide) rfl rfl rfl ?_
      refine rz_goto (t := 4) dX5_weight_24 rfl ?_
      exact rz_bk ihq ⟨Or.inr rfl, Or.inr rfl, Or.inr rfl, trivial⟩ (rfl) (rfl)
  · skip
    refine rz_iload_n dX5_weight_4 rfl ?_
    refine rz_aload_n dX5_weight_5 rfl ?_
    refine rz_getI (z := (I 17 0)) dX5_weight_6 kf_RX5_18 hd_17 rfl rfl ?_
    refine rz_icmp_ge (t := 27) dX5_weight_9 rfl (by omega) (by omega) (fun c9 => ?_) (fun c9 => ?_)
    · refine rz_iload_n dX5_weight_27 rfl ?_
      refine rz_iret dX5_weight_28 rfl ?_
      exact ⟨_, rfl, rfl, rfl, rfl⟩
    · exfalso; omega
set_option maxRecDepth 20000 in
set_option maxHeartbeats 400000 in
theorem c_whole17 (X : pX) (h : Nat) (I J : IM) (m : Nat) (hm : I 17 0 = m ∧ m ≤ 8) : KI X (h + 1) mX5_whole [.ref 17] I J (if m = 0 then 1 else sumP (I 18) m) I J := by
  show Rz X (h + 1) mX5_whole 0 [some (.ref 17)] [] I J _
  refine rz_aload_n dX5_whole_0 rfl ?_
  refine rz_getI (z := (I 17 0)) dX5_whole_1 kf_RX5_18 hd_17 rfl rfl ?_
  refine rz_if_ne (t := 11) dX5_whole_4 rfl (by omega) (fun c4 => ?_) (fun c4 => ?_)
  · refine rz_aload_n dX5_whole_11 rfl ?_
    refine rz_cVI dX5_whole_12 kl_RX5_28 hd_17 ⟨_, _, rfl⟩ (c_weight17 X _ I J m hm) rfl rfl (Nat.le_of_ble_eq_true rfl) (Nat.le_of_ble_eq_true rfl) ?_
    refine rz_iret dX5_whole_15 rfl ?_
    exact ⟨_, rfl, (if_neg (by omega)).symm, rfl, rfl⟩
  · refine rz_iconst dX5_whole_7 ?_
    refine rz_goto (t := 15) dX5_whole_8 rfl ?_
    refine rz_iret dX5_whole_15 rfl ?_
    exact ⟨_, rfl, (if_pos (by omega)).symm, rfl, rfl⟩
set_option maxRecDepth 20000 in
set_option maxHeartbeats 400000 in
theorem c_lines17 (X : pX) (h : Nat) (I J : IM) (hm : 0 ≤ I 17 0 ∧ I 17 0 ≤ 8) : KI X h mX5_lines [.ref 17] I J (linZ (I 17 0)) I J := by
  show Rz X h mX5_lines 0 [some (.ref 17)] [] I J _
  refine rz_aload_n dX5_lines_0 rfl ?_
  refine rz_getI (z := (I 17 0)) dX5_lines_1 kf_RX5_18 hd_17 rfl rfl ?_
  refine rz_if_ne (t := 11) dX5_lines_4 rfl (by omega) (fun c4 => ?_) (fun c4 => ?_)
  · refine rz_aload_n dX5_lines_11 rfl ?_
    refine rz_getI (z := (I 17 0)) dX5_lines_12 kf_RX5_18 hd_17 rfl rfl ?_
    refine rz_iret dX5_lines_15 rfl ?_
    exact ⟨_, rfl, (if_neg (by omega)).symm, rfl, rfl⟩
  · refine rz_iconst dX5_lines_7 ?_
    refine rz_goto (t := 15) dX5_lines_8 rfl ?_
    refine rz_iret dX5_lines_15 rfl ?_
    exact ⟨_, rfl, (if_pos (by omega)).symm, rfl, rfl⟩
set_option maxRecDepth 20000 in
set_option maxHeartbeats 400000 in
theorem c_weightAt17 (X : pX) (h : Nat) (I J : IM) (k : Nat) (hm : 0 ≤ I 17 0 ∧ I 17 0 ≤ 8) (hk : k < 8) : KI X h mX5_weightAt [.ref 17, zi (k : Int)] I J (if I 17 0 = 0 then 1 else I 18 k) I J := by
  show Rz X h mX5_weightAt 0 [some (.ref 17), some (zi (k : Int))] [] I J _
  refine rz_aload_n dX5_weightAt_0 rfl ?_
  refine rz_getI (z := (I 17 0)) dX5_weightAt_1 kf_RX5_18 hd_17 rfl rfl ?_
  refine rz_if_ne (t := 11) dX5_weightAt_4 rfl (by omega) (fun c4 => ?_) (fun c4 => ?_)
  · refine rz_aload_n dX5_weightAt_11 rfl ?_
    refine rz_getR dX5_weightAt_12 kf_RX5_9 hd_17 rfl rr_17_1 ?_
    refine rz_iload_n dX5_weightAt_15 rfl ?_
    refine rz_ialdN (k := k) (z := (I 18 k)) dX5_weightAt_16 hd_18 (by decide) (by omega) (by omega) rfl ?_
    refine rz_iret dX5_weightAt_17 rfl ?_
    exact ⟨_, rfl, (if_neg (by omega)).symm, rfl, rfl⟩
  · refine rz_iconst dX5_weightAt_7 ?_
    refine rz_goto (t := 17) dX5_weightAt_8 rfl ?_
    refine rz_iret dX5_weightAt_17 rfl ?_
    exact ⟨_, rfl, (if_pos (by omega)).symm, rfl, rfl⟩
set_option maxRecDepth 20000 in
set_option maxHeartbeats 400000 in
theorem c_loavesAt17 (X : pX) (h : Nat) (I J : IM) (k v : Nat) (hm : 0 ≤ I 17 0 ∧ I 17 0 ≤ 8) (hk : k < 8) (hv : v < 5) : KI X h mX5_loavesAt [.ref 17, zi (k : Int), zi (v : Int)] I J (if I 17 0 = 0 then 0 else I 19 (5 * k + v)) I J := by
  show Rz X h mX5_loavesAt 0 [some (.ref 17), some (zi (k : Int)), some (zi (v : Int))] [] I J _
  refine rz_aload_n dX5_loavesAt_0 rfl ?_
  refine rz_getI (z := (I 17 0)) dX5_loavesAt_1 kf_RX5_18 hd_17 rfl rfl ?_
  refine rz_if_ne (t := 11) dX5_loavesAt_4 rfl (by omega) (fun c4 => ?_) (fun c4 => ?_)
  · refine rz_aload_n dX5_loavesAt_11 rfl ?_
    refine rz_getR dX5_loavesAt_12 kf_RX5_15 hd_17 rfl rr_17_2 ?_
    refine rz_iload_n dX5_loavesAt_15 rfl ?_
    refine rz_iconst dX5_loavesAt_16 ?_
    refine rz_imul dX5_loavesAt_17 ?_
    refine rz_iload_n dX5_loavesAt_18 rfl ?_
    refine rz_iadd dX5_loavesAt_19 ?_
    refine rz_ialdN (k := (5 * k + v)) (z := (I 19 (5 * k + v))) dX5_loavesAt_20 hd_19 (by decide) (by omega) (by omega) rfl ?_
    refine rz_iret dX5_loavesAt_21 rfl ?_
    exact ⟨_, rfl, (if_neg (by omega)).symm, rfl, rfl⟩
  · refine rz_iconst dX5_loavesAt_7 ?_
    refine rz_goto (t := 21) dX5_loavesAt_8 rfl ?_
    refine rz_iret dX5_loavesAt_21 rfl ?_
    exact ⟨_, rfl, (if_pos (by omega)).symm, rfl, rfl⟩
abbrev wtF (I : IM) (b : Int) : Nat → Int := fun k => I 87 (8 * b.toNat + k)
set_option maxRecDepth 20000 in
set_option maxHeartbeats 400000 in
theorem c_X12_weights (X : pX) (h : Nat) (I J : IM) (b y : Int) (m : Nat) (hb : 0 ≤ b ∧ b ≤ 1) (hy : y = 0 ∨ y = 1) (hm : I 86 b.toNat = m ∧ m ≤ 8) : KI X h mX12_weights [.ref 81, zi b, zi y] I J (if y = 1 ∧ m = 0 then 1 else sumP (wtF I b) m) I J := by
  show Rz X h mX12_weights 0 [some (.ref 81), some (zi b), some (zi y), none, none] [] I J _
  refine rz_iconst dX12_weights_0 ?_
  refine rz_istore_n dX12_weights_1 (by decide) rfl ?_
  refine rz_iconst dX12_weights_2 ?_
  refine rz_istore dX12_weights_3 (by decide) rfl ?_
  refine rz_up (ls := fun q : Nat => [some (.ref 81), some (zi b), some (zi y), some (zi (sumP (wtF I b) q)), some (zi (q : Int))]) (IV := fun q : Nat => I) (JV := fun q : Nat => J) (m) ⟨Or.inr rfl, Or.inr rfl, Or.inr rfl, Or.inr rfl, Or.inr rfl, trivial⟩ (rfl) (rfl) ?_ ?_
  · intro q hq ihq
    refine rz_iload dX12_weights_5 rfl ?_
    refine rz_aload_n dX12_weights_7 rfl ?_
    refine rz_getR dX12_weights_8 kf_RX12_22 hd_81 rfl rr_81_6 ?_
    refine rz_iload_n dX12_weights_11 rfl ?_
    refine rz_iald (z := (I 86 (b).toNat)) dX12_weights_12 hd_86 (by decide) (by omega) rfl ?_
    refine rz_icmp_ge (t := 37) dX12_weights_13 rfl (by omega) (by omega) (fun c13 => ?_) (fun c13 => ?_)
    · exfalso; omega
    · refine rz_iload_n dX12_weights_16 rfl ?_
      refine rz_aload_n dX12_weights_17 rfl ?_
      refine rz_getR dX12_weights_18 kf_RX12_25 hd_81 rfl rr_81_7 ?_
      refine rz_bipush dX12_weights_21 (by decide) ?_
      refine rz_iload_n dX12_weights_23 rfl ?_
      refine rz_imul dX12_weights_24 ?_
      refine rz_iload dX12_weights_25 rfl ?_
      refine rz_iadd dX12_weights_27 ?_
      refine rz_ialdN (k := (8 * b.toNat + q)) (z := (I 87 (8 * b.toNat + q))) dX12_weights_28 hd_87 (by decide) (by omega) (by omega) rfl ?_
      refine rz_iadd dX12_weights_29 ?_
      refine rz_istore_n dX12_weights_30 (by decide) rfl ?_
      refine rz_iinc dX12_weights_31 (by decide) rfl rfl rfl ?_
      refine rz_goto (t := 5) dX12_weights_34 rfl ?_
      exact rz_bk ihq ⟨Or.inr rfl, Or.inr rfl, Or.inr rfl, Or.inr rfl, Or.inr rfl, trivial⟩ (rfl) (rfl)
  · skip
    refine rz_iload dX12_weights_5 rfl ?_
    refine rz_aload_n dX12_weights_7 rfl ?_
    refine rz_getR dX12_weights_8 kf_RX12_22 hd_81 rfl rr_81_6 ?_
    refine rz_iload_n dX12_weights_11 rfl ?_
    refine rz_iald (z := (I 86 (b).toNat)) dX12_weights_12 hd_86 (by decide) (by omega) rfl ?_
    refine rz_icmp_ge (t := 37) dX12_weights_13 rfl (by omega) (by omega) (fun c13 => ?_) (fun c13 => ?_)
    · refine rz_iload_n dX12_weights_37 rfl ?_
      refine rz_if_eq (t := 54) dX12_weights_38 rfl (by omega) (fun c38 => ?_) (fun c38 => ?_)
      · refine rz_iload_n dX12_weights_54 rfl ?_
        refine rz_iret dX12_weights_55 rfl ?_
        exact ⟨_, rfl, (if_neg (by omega)).symm, rfl, rfl⟩
      · refine rz_aload_n dX12_weights_41 rfl ?_
        refine rz_getR dX12_weights_42 kf_RX12_22 hd_81 rfl rr_81_6 ?_
        refine rz_iload_n dX12_weights_45 rfl ?_
        refine rz_iald (z := (I 86 (b).toNat)) dX12_weights_46 hd_86 (by decide) (by omega) rfl ?_
        refine rz_if_ne (t := 54) dX12_weights_47 rfl (by omega) (fun c47 => ?_) (fun c47 => ?_)
        · refine rz_iload_n dX12_weights_54 rfl ?_
          refine rz_iret dX12_weights_55 rfl ?_
          exact ⟨_, rfl, (if_neg (by omega)).symm, rfl, rfl⟩
        · refine rz_iconst dX12_weights_50 ?_
          refine rz_goto (t := 55) dX12_weights_51 rfl ?_
          refine rz_iret dX12_weights_55 rfl ?_
          exact ⟨_, rfl, (if_pos (by omega)).symm, rfl, rfl⟩
    · exfalso; omega
set_option maxRecDepth 20000 in
set_option maxHeartbeats 400000 in
theorem c_X12_mixMany (X : pX) (h : Nat) (I J : IM) (b : Int) (hb : 0 ≤ b ∧ b ≤ 1) (hm : 0 ≤ I 86 b.toNat ∧ I 86 b.toNat ≤ 8) : KI X h mX12_mixMany [.ref 81, zi b] I J (linZ (I 86 b.toNat)) I J := by
  show Rz X h mX12_mixMany 0 [some (.ref 81), some (zi b)] [] I J _
  refine rz_aload_n dX12_mixMany_0 rfl ?_
  refine rz_getR dX12_mixMany_1 kf_RX12_22 hd_81 rfl rr_81_6 ?_
  refine rz_iload_n dX12_mixMany_4 rfl ?_
  refine rz_iald (z := (I 86 (b).toNat)) dX12_mixMany_5 hd_86 (by decide) (by omega) rfl ?_
  refine rz_if_ne (t := 13) dX12_mixMany_6 rfl (by omega) (fun c6 => ?_) (fun c6 => ?_)
  · refine rz_aload_n dX12_mixMany_13 rfl ?_
    refine rz_getR dX12_mixMany_14 kf_RX12_22 hd_81 rfl rr_81_6 ?_
    refine rz_iload_n dX12_mixMany_17 rfl ?_
    refine rz_iald (z := (I 86 (b).toNat)) dX12_mixMany_18 hd_86 (by decide) (by omega) rfl ?_
    refine rz_iret dX12_mixMany_19 rfl ?_
    exact ⟨_, rfl, (if_neg (by omega)).symm, rfl, rfl⟩
  · refine rz_iconst dX12_mixMany_9 ?_
    refine rz_goto (t := 19) dX12_mixMany_10 rfl ?_
    refine rz_iret dX12_mixMany_19 rfl ?_
    exact ⟨_, rfl, (if_pos (by omega)).symm, rfl, rfl⟩
set_option maxRecDepth 20000 in
set_option maxHeartbeats 400000 in
theorem c_X12_weightAt (X : pX) (h : Nat) (I J : IM) (b : Int) (k : Nat) (hb : 0 ≤ b ∧ b ≤ 1) (hm : 0 ≤ I 86 b.toNat ∧ I 86 b.toNat ≤ 8) (hk : k < 8) : KI X h mX12_weightAt [.ref 81, zi b, zi (k : Int)] I J (if I 86 b.toNat = 0 then 1 else I 87 (8 * b.toNat + k)) I J := by
  show Rz X h mX12_weightAt 0 [some (.ref 81), some (zi b), some (zi (k : Int))] [] I J _
  refine rz_aload_n dX12_weightAt_0 rfl ?_
  refine rz_getR dX12_weightAt_1 kf_RX12_22 hd_81 rfl rr_81_6 ?_
  refine rz_iload_n dX12_weightAt_4 rfl ?_
  refine rz_iald (z := (I 86 (b).toNat)) dX12_weightAt_5 hd_86 (by decide) (by omega) rfl ?_
  refine rz_if_ne (t := 13) dX12_weightAt_6 rfl (by omega) (fun c6 => ?_) (fun c6 => ?_)
  · refine rz_aload_n dX12_weightAt_13 rfl ?_
    refine rz_getR dX12_weightAt_14 kf_RX12_25 hd_81 rfl rr_81_7 ?_
    refine rz_bipush dX12_weightAt_17 (by decide) ?_
    refine rz_iload_n dX12_weightAt_19 rfl ?_
    refine rz_imul dX12_weightAt_20 ?_
    refine rz_iload_n dX12_weightAt_21 rfl ?_
    refine rz_iadd dX12_weightAt_22 ?_
    refine rz_ialdN (k := (8 * b.toNat + k)) (z := (I 87 (8 * b.toNat + k))) dX12_weightAt_23 hd_87 (by decide) (by omega) (by omega) rfl ?_
    refine rz_iret dX12_weightAt_24 rfl ?_
    exact ⟨_, rfl, (if_neg (by omega)).symm, rfl, rfl⟩
  · refine rz_iconst dX12_weightAt_9 ?_
    refine rz_goto (t := 24) dX12_weightAt_10 rfl ?_
    refine rz_iret dX12_weightAt_24 rfl ?_
    exact ⟨_, rfl, (if_pos (by omega)).symm, rfl, rfl⟩
set_option maxRecDepth 20000 in
set_option maxHeartbeats 400000 in
theorem c_X12_mixAt (X : pX) (h : Nat) (I J : IM) (b : Int) (k v : Nat) (hb : 0 ≤ b ∧ b ≤ 1) (hm : 0 ≤ I 86 b.toNat ∧ I 86 b.toNat ≤ 8) (hk : k < 8) (hv : v < 5) : KI X h mX12_mixAt [.ref 81, zi b, zi (k : Int), zi (v : Int)] I J (if I 86 b.toNat = 0 then 0 else I 88 (5 * (8 * b.toNat + k) + v)) I J := by
  show Rz X h mX12_mixAt 0 [some (.ref 81), some (zi b), some (zi (k : Int)), some (zi (v : Int))] [] I J _
  refine rz_aload_n dX12_mixAt_0 rfl ?_
  refine rz_getR dX12_mixAt_1 kf_RX12_22 hd_81 rfl rr_81_6 ?_
  refine rz_iload_n dX12_mixAt_4 rfl ?_
  refine rz_iald (z := (I 86 (b).toNat)) dX12_mixAt_5 hd_86 (by decide) (by omega) rfl ?_
  refine rz_if_ne (t := 13) dX12_mixAt_6 rfl (by omega) (fun c6 => ?_) (fun c6 => ?_)
  · refine rz_aload_n dX12_mixAt_13 rfl ?_
    refine rz_getR dX12_mixAt_14 kf_RX12_28 hd_81 rfl rr_81_8 ?_
    refine rz_iconst dX12_mixAt_17 ?_
    refine rz_bipush dX12_mixAt_18 (by decide) ?_
    refine rz_iload_n dX12_mixAt_20 rfl ?_
    refine rz_imul dX12_mixAt_21 ?_
    refine rz_iload_n dX12_mixAt_22 rfl ?_
    refine rz_iadd dX12_mixAt_23 ?_
    refine rz_imul dX12_mixAt_24 ?_
    refine rz_iload_n dX12_mixAt_25 rfl ?_
    refine rz_iadd dX12_mixAt_26 ?_
    refine rz_baldN (k := (5 * (8 * b.toNat + k) + v)) (z := (I 88 (5 * (8 * b.toNat + k) + v))) dX12_mixAt_27 hd_88 (by decide) (by omega) (by omega) rfl ?_
    refine rz_iret dX12_mixAt_28 rfl ?_
    exact ⟨_, rfl, (if_neg (by omega)).symm, rfl, rfl⟩
  · refine rz_iconst dX12_mixAt_9 ?_
    refine rz_goto (t := 28) dX12_mixAt_10 rfl ?_
    refine rz_iret dX12_mixAt_28 rfl ?_
    exact ⟨_, rfl, (if_pos (by omega)).symm, rfl, rfl⟩
set_option maxRecDepth 20000 in
set_option maxHeartbeats 400000 in
theorem c_numberOf (X : pX) (h : Nat) (I J : IM) (n a N s : Nat) (hn : I 6 0 = n ∧ n ≤ 5) (hh : HD0[a]? = some (1, 0, N)) (hN : N ≤ 100000) (hs : s + n ≤ N) : KI X h mX8_numberOf [.ref 6, .ref a, zi (s : Int)] I J (numP (fun v => I a (s + v)) n) I J := by
  show Rz X h mX8_numberOf 0 [some (.ref 6), some (.ref a), some (zi (s : Int)), none, none] [] I J _
  refine rz_iconst dX8_numberOf_0 ?_
  refine rz_istore_n dX8_numberOf_1 (by decide) rfl ?_
  refine rz_iconst dX8_numberOf_2 ?_
  refine rz_istore dX8_numberOf_3 (by decide) rfl ?_
  refine rz_up (ls := fun q : Nat => [some (.ref 6), some (.ref a), some (zi (s : Int)), some (zi (numP (fun v => I a (s + v)) q)), some (zi (q : Int))]) (IV := fun q : Nat => I) (JV := fun q : Nat => J) (n) ⟨Or.inr rfl, Or.inr rfl, Or.inr rfl, Or.inr rfl, Or.inr rfl, trivial⟩ (rfl) (rfl) ?_ ?_
  · intro q hq ihq
    refine rz_iload dX8_numberOf_5 rfl ?_
    refine rz_aload_n dX8_numberOf_7 rfl ?_
    refine rz_getI (z := (I 6 0)) dX8_numberOf_8 kf_RX8_35 hd_6 rfl rfl ?_
    refine rz_icmp_ge (t := 32) dX8_numberOf_11 rfl (by omega) (by omega) (fun c11 => ?_) (fun c11 => ?_)
    · exfalso; omega
    · refine rz_iload_n dX8_numberOf_14 rfl ?_
      refine rz_bipush dX8_numberOf_15 (by decide) ?_
      refine rz_imul dX8_numberOf_17 ?_
      refine rz_aload_n dX8_numberOf_18 rfl ?_
      refine rz_iload_n dX8_numberOf_19 rfl ?_
      refine rz_iload dX8_numberOf_20 rfl ?_
      refine rz_iadd dX8_numberOf_22 ?_
      refine rz_ialdN (k := (s + q)) (z := (I a (s + q))) dX8_numberOf_23 hh hN (by omega) (by omega) rfl ?_
      refine rz_iadd dX8_numberOf_24 ?_
      refine rz_istore_n dX8_numberOf_25 (by decide) rfl ?_
      refine rz_iinc dX8_numberOf_26 (by decide) rfl rfl rfl ?_
      refine rz_goto (t := 5) dX8_numberOf_29 rfl ?_
      exact rz_bk ihq ⟨Or.inr rfl, Or.inr rfl, Or.inr rfl, Or.inr (congrArg (fun z => some (zi z)) (by simp only [numP]; omega)), Or.inr rfl, trivial⟩ (rfl) (rfl)
  · skip
    refine rz_iload dX8_numberOf_5 rfl ?_
    refine rz_aload_n dX8_numberOf_7 rfl ?_
    refine rz_getI (z := (I 6 0)) dX8_numberOf_8 kf_RX8_35 hd_6 rfl rfl ?_
    refine rz_icmp_ge (t := 32) dX8_numberOf_11 rfl (by omega) (by omega) (fun c11 => ?_) (fun c11 => ?_)
    · refine rz_iload_n dX8_numberOf_32 rfl ?_
      refine rz_iret dX8_numberOf_33 rfl ?_
      exact ⟨_, rfl, rfl, rfl, rfl⟩
    · exfalso; omega
