/-! years, the reference -/
set_option maxRecDepth 20000 in
set_option maxHeartbeats 400000 in
theorem c_X12_sentAt {X : pX} {I J : IM} {h : Nat} (b y v : Nat) (hb : b < 2) (hy : y ≤ 30) (hv : v < 5) : KI X h mX12_sentAt [.ref 81, zi (b : Int), zi (y : Int), zi (v : Int)] I J (I 112 (5 * (31 * b + y) + v)) I J := by
  show Rz X h mX12_sentAt 0 [some (.ref 81), some (zi (b : Int)), some (zi (y : Int)), some (zi (v : Int))] [] I J _
  refine rz_aload_n dX12_sentAt_0 rfl ?_
  refine rz_getR dX12_sentAt_1 kf_RX12_102 hd_81 rfl rr_81_46 ?_
  refine rz_iconst dX12_sentAt_4 ?_
  refine rz_bipush dX12_sentAt_5 (by decide) ?_
  refine rz_iload_n dX12_sentAt_7 rfl ?_
  refine rz_imul dX12_sentAt_8 ?_
  refine rz_iload_n dX12_sentAt_9 rfl ?_
  refine rz_iadd dX12_sentAt_10 ?_
  refine rz_imul dX12_sentAt_11 ?_
  refine rz_iload_n dX12_sentAt_12 rfl ?_
  refine rz_iadd dX12_sentAt_13 ?_
  refine rz_baldN (k := (5 * (31 * b + y) + v)) (z := (I 112 (5 * (31 * b + y) + v))) dX12_sentAt_14 hd_112 (by decide) (by omega) (by omega) rfl ?_
  refine rz_iret dX12_sentAt_15 rfl ?_
  exact ⟨_, rfl, rfl, rfl, rfl⟩
set_option maxRecDepth 20000 in
set_option maxHeartbeats 400000 in
theorem c_send0_0 {X : pX} {I J : IM} {h : Nat} (n : Nat) (hn : I 81 1 = n ∧ n ≤ 5) (m : Mx) (hm : MixR I 0 m) : KV X (h + 1) mX12_send [.ref 81, zi 0, zi 0] I J (copF I 112 0 n (fun v => ((loS m 0 v : Nat) : Int))) J := by
  have hmo := MixR_ok hm
  have hl8 := lnN_le hmo.1
  show Rz X (h + 1) mX12_send 0 [some (.ref 81), some (zi 0), some (zi 0), none] [] I J _
  refine rz_iconst dX12_send_0 ?_
  refine rz_istore_n dX12_send_1 (by decide) rfl ?_
  refine rz_up (ls := fun v : Nat => [some (.ref 81), some (zi 0), some (zi 0), some (zi (v : Int))]) (IV := fun v : Nat => (copF I 112 0 v (fun v => ((loS m 0 v : Nat) : Int)))) (JV := fun v : Nat => J) (n) ⟨Or.inr rfl, Or.inr rfl, Or.inr rfl, Or.inr rfl, trivial⟩ (copF_0) (rfl) ?_ ?_
  · intro v hv ihv
    have hl9 := loS_rg hmo (i := 0) (v := v) (by omega) (by omega)
    refine rz_iload_n dX12_send_2 rfl ?_
    refine rz_aload_n dX12_send_3 rfl ?_
    refine rz_getI (z := (n : Int)) dX12_send_4 kf_RX12_137 hd_81 rfl (hn.1) ?_
    refine rz_icmp_ge (t := 59) dX12_send_7 rfl (by omega) (by omega) (fun c7 => ?_) (fun c7 => ?_)
    · exfalso; omega
    · refine rz_aload_n dX12_send_10 rfl ?_
      refine rz_getR dX12_send_11 kf_RX12_102 hd_81 rfl rr_81_46 ?_
      refine rz_iconst dX12_send_14 ?_
      refine rz_bipush dX12_send_15 (by decide) ?_
      refine rz_iload_n dX12_send_17 rfl ?_
      refine rz_imul dX12_send_18 ?_
      refine rz_iload_n dX12_send_19 rfl ?_
      refine rz_iadd dX12_send_20 ?_
      refine rz_imul dX12_send_21 ?_
      refine rz_iload_n dX12_send_22 rfl ?_
      refine rz_iadd dX12_send_23 ?_
      refine rz_iload_n dX12_send_24 rfl ?_
      refine rz_if_ne (t := 39) dX12_send_25 rfl (by omega) (fun q => absurd q (by decide)) (fun _ => ?_)
      refine rz_aload_n dX12_send_28 rfl ?_
      refine rz_iload_n dX12_send_29 rfl ?_
      refine rz_iconst dX12_send_30 ?_
      refine rz_iload_n dX12_send_31 rfl ?_
      refine rz_cVI dX12_send_32 kl_RX12_287 hd_81 ⟨_, _, rfl⟩ (c_X12_mixAt X _ (copF I 112 0 v (fun v => ((loS m 0 v : Nat) : Int))) J 0 0 v (by omega) (MixR_ln (show MixR (copF I 112 0 v (fun v => ((loS m 0 v : Nat) : Int))) 0 m from hm)).1 (by omega) (by omega)) rfl rfl (Nat.le_of_ble_eq_true rfl) (Nat.le_of_ble_eq_true rfl) ?_
      refine rz_ieq (y := ((loS m 0 v : Nat) : Int)) (MixR_lo (show MixR (copF I 112 0 v (fun v => ((loS m 0 v : Nat) : Int))) 0 m from hm) (by omega) (by omega)).symm ?_
      refine rz_i2b dX12_send_35 (by omega) ?_
      refine rz_goto (t := 52) dX12_send_36 rfl ?_
      refine rz_bastN (k := (0 + v)) dX12_send_52 hd_112 (by decide) (by omega) (by omega) (by omega) ?_
      refine rz_iinc dX12_send_53 (by decide) rfl rfl rfl ?_
      refine rz_goto (t := 2) dX12_send_56 rfl ?_
      exact rz_bk ihv ⟨Or.inr rfl, Or.inr rfl, Or.inr rfl, Or.inr rfl, trivial⟩ ((copF_step rfl)) (rfl)
  · skip
    refine rz_iload_n dX12_send_2 rfl ?_
    refine rz_aload_n dX12_send_3 rfl ?_
    refine rz_getI (z := (n : Int)) dX12_send_4 kf_RX12_137 hd_81 rfl (hn.1) ?_
    refine rz_icmp_ge (t := 59) dX12_send_7 rfl (by omega) (by omega) (fun c7 => ?_) (fun c7 => ?_)
    · refine rz_vret dX12_send_59 rfl ?_
      exact ⟨rfl, rfl, rfl⟩
    · exfalso; omega
set_option maxRecDepth 20000 in
set_option maxHeartbeats 400000 in
theorem c_sendY_0 {X : pX} {I J : IM} {h : Nat} (n : Nat) (hn : I 81 1 = n ∧ n ≤ 5) (y : Nat) (hy : y < 30) (r : Nat) (hr : I 81 36 = (r : Int) ∧ r ≤ 2001) (w : List Nat) (hw : ∀ v, v < n → I 104 (5 * r + v) = ((w.getD v 0 : Nat) : Int) ∧ w.getD v 0 ≤ 9) : KV X (h + 1) mX12_send [.ref 81, zi 0, zi ((y + 1 : Nat) : Int)] I J (copF I 112 (5 * (31 * 0 + (y + 1))) n (fun v => ((w.getD v 0 : Nat) : Int))) J := by
  show Rz X (h + 1) mX12_send 0 [some (.ref 81), some (zi 0), some (zi ((y + 1 : Nat) : Int)), none] [] I J _
  refine rz_iconst dX12_send_0 ?_
  refine rz_istore_n dX12_send_1 (by decide) rfl ?_
  refine rz_up (ls := fun v : Nat => [some (.ref 81), some (zi 0), some (zi ((y + 1 : Nat) : Int)), some (zi (v : Int))]) (IV := fun v : Nat => (copF I 112 (5 * (31 * 0 + (y + 1))) v (fun v => ((w.getD v 0 : Nat) : Int)))) (JV := fun v : Nat => J) (n) ⟨Or.inr rfl, Or.inr rfl, Or.inr rfl, Or.inr rfl, trivial⟩ (copF_0) (rfl) ?_ ?_
  · intro v hv ihv
    have hw9 := (hw v hv).2
    refine rz_iload_n dX12_send_2 rfl ?_
    refine rz_aload_n dX12_send_3 rfl ?_
    refine rz_getI (z := (n : Int)) dX12_send_4 kf_RX12_137 hd_81 rfl (hn.1) ?_
    refine rz_icmp_ge (t := 59) dX12_send_7 rfl (by omega) (by omega) (fun c7 => ?_) (fun c7 => ?_)
    · exfalso; omega
    · refine rz_aload_n dX12_send_10 rfl ?_
      refine rz_getR dX12_send_11 kf_RX12_102 hd_81 rfl rr_81_46 ?_
      refine rz_iconst dX12_send_14 ?_
      refine rz_bipush dX12_send_15 (by decide) ?_
      refine rz_iload_n dX12_send_17 rfl ?_
      refine rz_imul dX12_send_18 ?_
      refine rz_iload_n dX12_send_19 rfl ?_
      refine rz_iadd dX12_send_20 ?_
      refine rz_imul dX12_send_21 ?_
      refine rz_iload_n dX12_send_22 rfl ?_
      refine rz_iadd dX12_send_23 ?_
      refine rz_iload_n dX12_send_24 rfl ?_
      refine rz_if_ne (t := 39) dX12_send_25 rfl (by omega) (fun c25 => ?_) (fun c25 => ?_)
      · refine rz_aload_n dX12_send_39 rfl ?_
        refine rz_getR dX12_send_40 kf_RX12_78 hd_81 rfl rr_81_32 ?_
        refine rz_iconst dX12_send_43 ?_
        refine rz_aload_n dX12_send_44 rfl ?_
        refine rz_getI (z := (I 81 36)) dX12_send_45 kf_RX12_297 hd_81 rfl rfl ?_
        refine rz_imul dX12_send_48 ?_
        refine rz_iload_n dX12_send_49 rfl ?_
        refine rz_iadd dX12_send_50 ?_
        refine rz_baldN (k := (5 * r + v)) (z := ((w.getD v 0 : Nat) : Int)) dX12_send_51 hd_104 (by decide) (by omega) (by omega) (hw v hv).1 ?_
        refine rz_bastN (k := ((5 * (31 * 0 + (y + 1))) + v)) dX12_send_52 hd_112 (by decide) (by omega) (by omega) (by omega) ?_
        refine rz_iinc dX12_send_53 (by decide) rfl rfl rfl ?_
        refine rz_goto (t := 2) dX12_send_56 rfl ?_
        exact rz_bk ihv ⟨Or.inr rfl, Or.inr rfl, Or.inr rfl, Or.inr rfl, trivial⟩ ((copF_step rfl)) (rfl)
      · exfalso; omega
  · skip
    refine rz_iload_n dX12_send_2 rfl ?_
    refine rz_aload_n dX12_send_3 rfl ?_
    refine rz_getI (z := (n : Int)) dX12_send_4 kf_RX12_137 hd_81 rfl (hn.1) ?_
    refine rz_icmp_ge (t := 59) dX12_send_7 rfl (by omega) (by omega) (fun c7 => ?_) (fun c7 => ?_)
    · refine rz_vret dX12_send_59 rfl ?_
      exact ⟨rfl, rfl, rfl⟩
    · exfalso; omega
set_option maxRecDepth 20000 in
set_option maxHeartbeats 400000 in
theorem c_send0_1 {X : pX} {I J : IM} {h : Nat} (n : Nat) (hn : I 81 1 = n ∧ n ≤ 5) (m : Mx) (hm : MixR I 1 m) : KV X (h + 1) mX12_send [.ref 81, zi 1, zi 0] I J (copF I 112 155 n (fun v => ((loS m 0 v : Nat) : Int))) J := by
  have hmo := MixR_ok hm
  have hl8 := lnN_le hmo.1
  show Rz X (h + 1) mX12_send 0 [some (.ref 81), some (zi 1), some (zi 0), none] [] I J _
  refine rz_iconst dX12_send_0 ?_
  refine rz_istore_n dX12_send_1 (by decide) rfl ?_
  refine rz_up (ls := fun v : Nat => [some (.ref 81), some (zi 1), some (zi 0), some (zi (v : Int))]) (IV := fun v : Nat => (copF I 112 155 v (fun v => ((loS m 0 v : Nat) : Int)))) (JV := fun v : Nat => J) (n) ⟨Or.inr rfl, Or.inr rfl, Or.inr rfl, Or.inr rfl, trivial⟩ (copF_0) (rfl) ?_ ?_
  · intro v hv ihv
    have hl9 := loS_rg hmo (i := 0) (v := v) (by omega) (by omega)
    refine rz_iload_n dX12_send_2 rfl ?_
    refine rz_aload_n dX12_send_3 rfl ?_
    refine rz_getI (z := (n : Int)) dX12_send_4 kf_RX12_137 hd_81 rfl (hn.1) ?_
    refine rz_icmp_ge (t := 59) dX12_send_7 rfl (by omega) (by omega) (fun c7 => ?_) (fun c7 => ?_)
    · exfalso; omega
    · refine rz_aload_n dX12_send_10 rfl ?_
      refine rz_getR dX12_send_11 kf_RX12_102 hd_81 rfl rr_81_46 ?_
      refine rz_iconst dX12_send_14 ?_
      refine rz_bipush dX12_send_15 (by decide) ?_
      refine rz_iload_n dX12_send_17 rfl ?_
      refine rz_imul dX12_send_18 ?_
      refine rz_iload_n dX12_send_19 rfl ?_
      refine rz_iadd dX12_send_20 ?_
      refine rz_imul dX12_send_21 ?_
      refine rz_iload_n dX12_send_22 rfl ?_
      refine rz_iadd dX12_send_23 ?_
      refine rz_iload_n dX12_send_24 rfl ?_
      refine rz_if_ne (t := 39) dX12_send_25 rfl (by omega) (fun q => absurd q (by decide)) (fun _ => ?_)
      refine rz_aload_n dX12_send_28 rfl ?_
      refine rz_iload_n dX12_send_29 rfl ?_
      refine rz_iconst dX12_send_30 ?_
      refine rz_iload_n dX12_send_31 rfl ?_
      refine rz_cVI dX12_send_32 kl_RX12_287 hd_81 ⟨_, _, rfl⟩ (c_X12_mixAt X _ (copF I 112 155 v (fun v => ((loS m 0 v : Nat) : Int))) J 1 0 v (by omega) (MixR_ln (show MixR (copF I 112 155 v (fun v => ((loS m 0 v : Nat) : Int))) 1 m from hm)).1 (by omega) (by omega)) rfl rfl (Nat.le_of_ble_eq_true rfl) (Nat.le_of_ble_eq_true rfl) ?_
      refine rz_ieq (y := ((loS m 0 v : Nat) : Int)) (MixR_lo (show MixR (copF I 112 155 v (fun v => ((loS m 0 v : Nat) : Int))) 1 m from hm) (by omega) (by omega)).symm ?_
      refine rz_i2b dX12_send_35 (by omega) ?_
      refine rz_goto (t := 52) dX12_send_36 rfl ?_
      refine rz_bastN (k := (155 + v)) dX12_send_52 hd_112 (by decide) (by omega) (by omega) (by omega) ?_
      refine rz_iinc dX12_send_53 (by decide) rfl rfl rfl ?_
      refine rz_goto (t := 2) dX12_send_56 rfl ?_
      exact rz_bk ihv ⟨Or.inr rfl, Or.inr rfl, Or.inr rfl, Or.inr rfl, trivial⟩ ((copF_step rfl)) (rfl)
  · skip
    refine rz_iload_n dX12_send_2 rfl ?_
    refine rz_aload_n dX12_send_3 rfl ?_
    refine rz_getI (z := (n : Int)) dX12_send_4 kf_RX12_137 hd_81 rfl (hn.1) ?_
    refine rz_icmp_ge (t := 59) dX12_send_7 rfl (by omega) (by omega) (fun c7 => ?_) (fun c7 => ?_)
    · refine rz_vret dX12_send_59 rfl ?_
      exact ⟨rfl, rfl, rfl⟩
    · exfalso; omega
set_option maxRecDepth 20000 in
set_option maxHeartbeats 400000 in
theorem c_sendY_1 {X : pX} {I J : IM} {h : Nat} (n : Nat) (hn : I 81 1 = n ∧ n ≤ 5) (y : Nat) (hy : y < 30) (r : Nat) (hr : I 81 36 = (r : Int) ∧ r ≤ 2001) (w : List Nat) (hw : ∀ v, v < n → I 104 (5 * r + v) = ((w.getD v 0 : Nat) : Int) ∧ w.getD v 0 ≤ 9) : KV X (h + 1) mX12_send [.ref 81, zi 1, zi ((y + 1 : Nat) : Int)] I J (copF I 112 (5 * (31 * 1 + (y + 1))) n (fun v => ((w.getD v 0 : Nat) : Int))) J := by
  show Rz X (h + 1) mX12_send 0 [some (.ref 81), some (zi 1), some (zi ((y + 1 : Nat) : Int)), none] [] I J _
  refine rz_iconst dX12_send_0 ?_
  refine rz_istore_n dX12_send_1 (by decide) rfl ?_
  refine rz_up (ls := fun v : Nat => [some (.ref 81), some (zi 1), some (zi ((y + 1 : Nat) : Int)), some (zi (v : Int))]) (IV := fun v : Nat => (copF I 112 (5 * (31 * 1 + (y + 1))) v (fun v => ((w.getD v 0 : Nat) : Int)))) (JV := fun v : Nat => J) (n) ⟨Or.inr rfl, Or.inr rfl, Or.inr rfl, Or.inr rfl, trivial⟩ (copF_0) (rfl) ?_ ?_
  · intro v hv ihv
    have hw9 := (hw v hv).2
    refine rz_iload_n dX12_send_2 rfl ?_
    refine rz_aload_n dX12_send_3 rfl ?_
    refine rz_getI (z := (n : Int)) dX12_send_4 kf_RX12_137 hd_81 rfl (hn.1) ?_
    refine rz_icmp_ge (t := 59) dX12_send_7 rfl (by omega) (by omega) (fun c7 => ?_) (fun c7 => ?_)
    · exfalso; omega
    · refine rz_aload_n dX12_send_10 rfl ?_
      refine rz_getR dX12_send_11 kf_RX12_102 hd_81 rfl rr_81_46 ?_
      refine rz_iconst dX12_send_14 ?_
      refine rz_bipush dX12_send_15 (by decide) ?_
      refine rz_iload_n dX12_send_17 rfl ?_
      refine rz_imul dX12_send_18 ?_
      refine rz_iload_n dX12_send_19 rfl ?_
      refine rz_iadd dX12_send_20 ?_
      refine rz_imul dX12_send_21 ?_
      refine rz_iload_n dX12_send_22 rfl ?_
      refine rz_iadd dX12_send_23 ?_
      refine rz_iload_n dX12_send_24 rfl ?_
      refine rz_if_ne (t := 39) dX12_send_25 rfl (by omega) (fun c25 => ?_) (fun c25 => ?_)
      · refine rz_aload_n dX12_send_39 rfl ?_
        refine rz_getR dX12_send_40 kf_RX12_78 hd_81 rfl rr_81_32 ?_
        refine rz_iconst dX12_send_43 ?_
        refine rz_aload_n dX12_send_44 rfl ?_
        refine rz_getI (z := (I 81 36)) dX12_send_45 kf_RX12_297 hd_81 rfl rfl ?_
        refine rz_imul dX12_send_48 ?_
        refine rz_iload_n dX12_send_49 rfl ?_
        refine rz_iadd dX12_send_50 ?_
        refine rz_baldN (k := (5 * r + v)) (z := ((w.getD v 0 : Nat) : Int)) dX12_send_51 hd_104 (by decide) (by omega) (by omega) (hw v hv).1 ?_
        refine rz_bastN (k := ((5 * (31 * 1 + (y + 1))) + v)) dX12_send_52 hd_112 (by decide) (by omega) (by omega) (by omega) ?_
        refine rz_iinc dX12_send_53 (by decide) rfl rfl rfl ?_
        refine rz_goto (t := 2) dX12_send_56 rfl ?_
        exact rz_bk ihv ⟨Or.inr rfl, Or.inr rfl, Or.inr rfl, Or.inr rfl, trivial⟩ ((copF_step rfl)) (rfl)
      · exfalso; omega
  · skip
    refine rz_iload_n dX12_send_2 rfl ?_
    refine rz_aload_n dX12_send_3 rfl ?_
    refine rz_getI (z := (n : Int)) dX12_send_4 kf_RX12_137 hd_81 rfl (hn.1) ?_
    refine rz_icmp_ge (t := 59) dX12_send_7 rfl (by omega) (by omega) (fun c7 => ?_) (fun c7 => ?_)
    · refine rz_vret dX12_send_59 rfl ?_
      exact ⟨rfl, rfl, rfl⟩
    · exfalso; omega
theorem RsI_0 {B : IM} {lw : Lw} {W T U Q : Nat → Int} {n : Nat} {m0 m1 : Mx} (hn : n ≤ 5) : RsI (copF (copF B 112 0 n (fun v => ((loS m0 0 v : Nat) : Int))) 112 155 n (fun v => ((loS m1 0 v : Nat) : Int))) lw W T U Q n m0 m1 0 := by
  intro k hk v hv
  obtain rfl : k = 0 := by omega
  refine ⟨?_, ?_⟩
  · rw [show 5 * (31 * 0 + 0) + v = 0 + v by omega, copF_out (by omega), copF_at hv]; rfl
  · rw [show 5 * (31 * 1 + 0) + v = 155 + v by omega, copF_at hv]; rfl
/-- a row behind the others -/
theorem RsI_a {A : IM} {lw : Lw} {W T U Q : Nat → Int} {n : Nat} {m0 m1 : Mx} {y : Nat} {g : Nat → Int} (hn : n ≤ 5) (hy : y < 30) (h : RsI A lw W T U Q n m0 m1 y) : RsI (copF A 112 (5 * (31 * 0 + (y + 1))) n g) lw W T U Q n m0 m1 y := by
  intro k hk v hv
  have q := h k hk v hv
  refine ⟨?_, ?_⟩
  · rw [copF_out (by omega)]; exact q.1
  · rw [copF_out (by omega)]; exact q.2
theorem RsI_b {A : IM} {lw : Lw} {W T U Q : Nat → Int} {n : Nat} {m0 m1 : Mx} {y : Nat} {g : Nat → Int} (hn : n ≤ 5) (hy : y < 30) (h : RsI A lw W T U Q n m0 m1 y) (h0 : ∀ v, v < n → A 112 (5 * (31 * 0 + (y + 1)) + v) = ((yS lw W T U Q n m0 m1 (y + 1) 0 v : Nat) : Int)) (h1 : ∀ v, v < n → g v = ((yS lw W T U Q n m0 m1 (y + 1) 1 v : Nat) : Int)) : RsI (copF A 112 (5 * (31 * 1 + (y + 1))) n g) lw W T U Q n m0 m1 (y + 1) := by
  intro k hk v hv
  by_cases e : k = y + 1
  · subst e
    refine ⟨?_, ?_⟩
    · rw [copF_out (by omega)]; exact h0 v hv
    · rw [copF_at hv]; exact h1 v hv
  · have q := h k (by omega) v hv
    refine ⟨?_, ?_⟩
    · rw [copF_out (by omega)]; exact q.1
    · rw [copF_out (by omega)]; exact q.2
/-- the row found, for gains that are as they should be -/
theorem fb_year {A : IM} {lw : Lw} {W T U Q : Nat → Int} {n y b N : Nat} {m0 m1 : Mx} {bb g : Int} (hn : n ≤ 5) (hN : N = (Q b).toNat) (hN9 : N ≤ 9) (hW : ∀ v, v < n → 0 ≤ W v ∧ W v ≤ 9) (hy : y < 30) (hg : ∀ v x, v < n → x ≤ 9 → A 106 (10 * v + x) = yG lw W T U Q n m0 m1 (y + 1) b v x) (hF : FbI (gainL (gI A 106) 0) (rowsL n N false) (rowsL n N false).length bb g) : ∃ j : Nat, bb = (j : Int) ∧ j ≤ 2001 ∧ ∃ w, (rowsL n N false)[j]? = some w ∧ (∀ v, w.getD v 0 ≤ 9) ∧ ∀ v, w.getD v 0 = yS lw W T U Q n m0 m1 (y + 1) b v := by
  have hG : GRg A 106 n := fun v x hv hx => by
    rw [hg v x hv hx]
    have := yG_rg (lw := lw) (T := T) (U := U) (Q := Q) (m0 := m0) (m1 := m1) hW (y + 1) b v x hv
    omega
  obtain ⟨-, j, e, hj⟩ := fb_done hn hN9 hG hF
  have hlt := (List.getElem?_eq_some_iff.mp hj).1
  have hc := (rows_cnt n hn N hN9).1
  have hch : chsR (gI A 106) n 0 N = chsR (fun v x => yG lw W T U Q n m0 m1 (y + 1) b v x) n 0 N := chsR_congr (n := n) (fun v x hv hx => hg v x hv hx) n 0 N (by omega) hN9
  refine ⟨j, e, by omega, _, hj, fun v => getD_le (rowsL_ok (n := n) (left := N) (all := false) hN9 _ (List.mem_of_getElem? hj)).2 v, fun v => ?_⟩
  rw [hch, yS_s, hN]
set_option maxRecDepth 20000 in
set_option maxHeartbeats 400000 in
theorem c_X12_goYears {X : pX} {I J : IM} {h : Nat} {lw : Lw} {n : Nat} {m0 m1 : Mx} (hq : RqI I lw n m0 m1) (y : Nat) (hy : y ≤ 30) : KVq X (h + 7) mX12_goYears [.ref 81, zi (y : Int)] I J (fun A Bj => (FrR I A ∧ RsI A lw (I 82) (I 83) (I 84) (I 85) n m0 m1 y ∧ HasR A lw n ∧ A 81 1 = n) ∧ J = Bj) := by
  obtain ⟨h1, h2, h3, h5, h6, h7⟩ := hq
  have h80 := h7 0 (by decide)
  have h81 := h7 1 (by decide)
  show Rz X (h + 7) mX12_goYears 0 [some (.ref 81), some (zi (y : Int)), none, none, none, none] [] I J _
  refine rz_aload_n dX12_goYears_0 rfl ?_
  refine rz_cVVq dX12_goYears_1 kl_RX12_257 hd_81 ⟨_, _, rfl⟩ (c_X12_findHas lw h1 n h2 h3) rfl rfl (Nat.le_of_ble_eq_true rfl) (Nat.le_of_ble_eq_true rfl) ?_
  rintro B _ ⟨hB, rfl⟩
  have hf := FhQ_fr hB
  have hH := FhQ_has hB
  have hnB : B 81 1 = n ∧ n ≤ 5 := ⟨by rw [hf 81 (by decide) (by decide) (by decide)]; exact h2.1, h2.2⟩
  have hmB0 : MixR B 0 m0 := MixR_of (hf 86 (by decide) (by decide) (by decide)) (hf 87 (by decide) (by decide) (by decide)) (hf 88 (by decide) (by decide) (by decide)) h5
  have hmB1 : MixR B 1 m1 := MixR_of (hf 86 (by decide) (by decide) (by decide)) (hf 87 (by decide) (by decide) (by decide)) (hf 88 (by decide) (by decide) (by decide)) h6
  have e82 := hf 82 (by decide) (by decide) (by decide)
  have e83 := hf 83 (by decide) (by decide) (by decide)
  have e84 := hf 84 (by decide) (by decide) (by decide)
  have e85 := hf 85 (by decide) (by decide) (by decide)
  have ho0 := MixR_ok h5
  have ho1 := MixR_ok h6
  have hW : ∀ v, v < n → 0 ≤ I 82 v ∧ I 82 v ≤ 9 := fun v hv => (h3 v hv).1
  refine rz_aload_n dX12_goYears_4 rfl ?_
  refine rz_iconst dX12_goYears_5 ?_
  refine rz_iconst dX12_goYears_6 ?_
  refine rz_cVV dX12_goYears_7 kl_RX12_362 hd_81 ⟨_, _, rfl⟩ (c_send0_0 (I := B) n hnB m0 hmB0) rfl rfl (Nat.le_of_ble_eq_true rfl) (Nat.le_of_ble_eq_true rfl) ?_
  refine rz_aload_n dX12_goYears_10 rfl ?_
  refine rz_iconst dX12_goYears_11 ?_
  refine rz_iconst dX12_goYears_12 ?_
  refine rz_cVV dX12_goYears_13 kl_RX12_362 hd_81 ⟨_, _, rfl⟩ (c_send0_1 (I := (copF B 112 0 n (fun v => ((loS m0 0 v : Nat) : Int)))) n hnB m1 (show MixR (copF B 112 0 n (fun v => ((loS m0 0 v : Nat) : Int))) 1 m1 from hmB1)) rfl rfl (Nat.le_of_ble_eq_true rfl) (Nat.le_of_ble_eq_true rfl) ?_
  refine rz_iconst dX12_goYears_16 ?_
  refine rz_istore_n dX12_goYears_17 (by decide) rfl ?_
  refine rz_upx (σ := IM) (Inv := fun k sk => GyF B sk ∧ RsI sk lw (I 82) (I 83) (I 84) (I 85) n m0 m1 k) (ls := fun (k : Nat) sk => [some (.ref 81), some (zi (y : Int)), some (zi ((k + 1 : Nat) : Int)), none, none, none]) (IV := fun (k : Nat) sk => sk) (JV := fun (k : Nat) sk => J) (y) ((copF (copF B 112 0 n (fun v => ((loS m0 0 v : Nat) : Int))) 112 155 n (fun v => ((loS m1 0 v : Nat) : Int)))) ⟨GyF_112.trans GyF_112, RsI_0 h2.2⟩ ⟨Or.inr rfl, Or.inr rfl, Or.inr rfl, Or.inl rfl, Or.inl rfl, Or.inl rfl, trivial⟩ (rfl) (rfl) ?_ ?_
  · intro k sk hk qk ihk
    have x1 : sk 81 1 = n := by rw [qk.1.2.1 1 (by decide) (by decide) (by decide)]; exact hnB.1
    have x82 : sk 82 = I 82 := by rw [qk.1.1 82 (by decide) (by decide) (by decide) (by decide) (by decide)]; exact e82
    have x83 : sk 83 = I 83 := by rw [qk.1.1 83 (by decide) (by decide) (by decide) (by decide) (by decide)]; exact e83
    have x84 : sk 84 = I 84 := by rw [qk.1.1 84 (by decide) (by decide) (by decide) (by decide) (by decide)]; exact e84
    have x85 : sk 85 = I 85 := by rw [qk.1.1 85 (by decide) (by decide) (by decide) (by decide) (by decide)]; exact e85
    have xH : HasR sk lw n := HasR_of (qk.1.1 102 (by decide) (by decide) (by decide) (by decide) (by decide)) (qk.1.1 82 (by decide) (by decide) (by decide) (by decide) (by decide)) (qk.1.1 83 (by decide) (by decide) (by decide) (by decide) (by decide)) (qk.1.1 84 (by decide) (by decide) (by decide) (by decide) (by decide)) hH
    refine rz_iload_n dX12_goYears_18 rfl ?_
    refine rz_iload_n dX12_goYears_19 rfl ?_
    refine rz_icmp_gt (t := 119) dX12_goYears_20 rfl (by omega) (by omega) (fun c20 => ?_) (fun c20 => ?_)
    · exfalso; omega
    · refine rz_iconst dX12_goYears_23 ?_
      refine rz_istore_n dX12_goYears_24 (by decide) rfl ?_
      refine rz_iload_n dX12_goYears_25 rfl ?_
      refine rz_iconst dX12_goYears_26 ?_
      refine rz_icmp_ge (t := 113) dX12_goYears_27 rfl (by omega) (by omega) (fun q => absurd q (by decide)) (fun _ => ?_)
      refine rz_aload_n dX12_goYears_30 rfl ?_
      refine rz_cVV dX12_goYears_31 kl_RX12_281 hd_81 ⟨_, _, rfl⟩ (c_X12_noGains (I := sk)) rfl rfl (Nat.le_of_ble_eq_true rfl) (Nat.le_of_ble_eq_true rfl) ?_
      refine rz_iconst dX12_goYears_34 ?_
      refine rz_istore dX12_goYears_35 (by decide) rfl ?_
      refine rz_up (ls := fun q : Nat => [some (.ref 81), some (zi (y : Int)), some (zi ((k + 1 : Nat) : Int)), some (zi 0), some (zi (q : Int)), none]) (IV := fun q : Nat => (acM (fillM sk 106 50 0) 106 n q (fun q j => yF lw (sk 82) (sk 83) (sk 84) 0 (yS lw (I 82) (I 83) (I 84) (I 85) n m0 m1 q (1 - 0)) j))) (JV := fun q : Nat => J) ((k + 1)) ⟨Or.inr rfl, Or.inr rfl, Or.inr rfl, Or.inr rfl, Or.inr rfl, Or.inl rfl, trivial⟩ ((acM_0 (fun j hj => by show (fillM sk 106 50 0) 106 j = 0; unfold fillM; rw [upA_self, if_pos (by omega)]))) (rfl) ?_ ?_
      · intro q hq ihq
        refine rz_iload dX12_goYears_37 rfl ?_
        refine rz_iload_n dX12_goYears_39 rfl ?_
        refine rz_icmp_ge (t := 86) dX12_goYears_40 rfl (by omega) (by omega) (fun c40 => ?_) (fun c40 => ?_)
        · exfalso; omega
        · refine rz_iconst dX12_goYears_43 ?_
          refine rz_istore dX12_goYears_44 (by decide) rfl ?_
          refine rz_up (ls := fun v : Nat => [some (.ref 81), some (zi (y : Int)), some (zi ((k + 1 : Nat) : Int)), some (zi 0), some (zi (q : Int)), some (zi (v : Int))]) (IV := fun v : Nat => (adN (acM (fillM sk 106 50 0) 106 n q (fun q j => yF lw (sk 82) (sk 83) (sk 84) 0 (yS lw (I 82) (I 83) (I 84) (I 85) n m0 m1 q (1 - 0)) j)) 106 (10 * v) (yF lw (sk 82) (sk 83) (sk 84) 0 (yS lw (I 82) (I 83) (I 84) (I 85) n m0 m1 q (1 - 0))))) (JV := fun v : Nat => J) (n) ⟨Or.inr rfl, Or.inr rfl, Or.inr rfl, Or.inr rfl, Or.inr rfl, Or.inr rfl, trivial⟩ (adN_0) (rfl) ?_ ?_
          · intro v hv ihv
            refine rz_iload dX12_goYears_46 rfl ?_
            refine rz_aload_n dX12_goYears_48 rfl ?_
            refine rz_getI (z := (n : Int)) dX12_goYears_49 kf_RX12_137 hd_81 rfl (x1) ?_
            refine rz_icmp_ge (t := 80) dX12_goYears_52 rfl (by omega) (by omega) (fun c52 => ?_) (fun c52 => ?_)
            · exfalso; omega
            · refine rz_aload_n dX12_goYears_55 rfl ?_
              refine rz_iload_n dX12_goYears_56 rfl ?_
              refine rz_iload dX12_goYears_57 rfl ?_
              refine rz_aload_n dX12_goYears_59 rfl ?_
              refine rz_iconst dX12_goYears_60 ?_
              refine rz_iload_n dX12_goYears_61 rfl ?_
              refine rz_isub dX12_goYears_62 ?_
              refine rz_iload dX12_goYears_63 rfl ?_
              refine rz_iload dX12_goYears_65 rfl ?_
              refine rz_cVI dX12_goYears_67 kl_RX12_365 hd_81 ⟨_, _, rfl⟩ (c_X12_sentAt (I := (adN (acM (fillM sk 106 50 0) 106 n q (fun q j => yF lw (sk 82) (sk 83) (sk 84) 0 (yS lw (I 82) (I 83) (I 84) (I 85) n m0 m1 q (1 - 0)) j)) 106 (10 * v) (yF lw (sk 82) (sk 83) (sk 84) 0 (yS lw (I 82) (I 83) (I 84) (I 85) n m0 m1 q (1 - 0))))) 1 q v (by decide) (by omega) (by omega)) rfl rfl (Nat.le_of_ble_eq_true rfl) (Nat.le_of_ble_eq_true rfl) ?_
              refine rz_ieq (y := ((yS lw (I 82) (I 83) (I 84) (I 85) n m0 m1 q (1 - 0) v : Nat) : Int)) (by show ((yS lw (I 82) (I 83) (I 84) (I 85) n m0 m1 q 1 v : Nat) : Int) = sk 112 (5 * (31 * 1 + q) + v); exact (qk.2 q (by omega) v hv).2.symm) ?_
              have hs9 : yS lw (I 82) (I 83) (I 84) (I 85) n m0 m1 q (1 - 0) v ≤ 9 := yS_le h2.2 h7 ho0 ho1 hW (by omega) (by omega) (by omega)
              refine rz_iconst dX12_goYears_70 ?_
              refine rz_cVV dX12_goYears_71 kl_RX12_293 hd_81 ⟨_, _, rfl⟩ (c_X12_addGains (I := (adN (acM (fillM sk 106 50 0) 106 n q (fun q j => yF lw (sk 82) (sk 83) (sk 84) 0 (yS lw (I 82) (I 83) (I 84) (I 85) n m0 m1 q (1 - 0)) j)) 106 (10 * v) (yF lw (sk 82) (sk 83) (sk 84) 0 (yS lw (I 82) (I 83) (I 84) (I 85) n m0 m1 q (1 - 0))))) lw n 0 v (yS lw (I 82) (I 83) (I 84) (I 85) n m0 m1 q (1 - 0) v) 1 h2.2 (by decide) hv hs9 xH) rfl rfl (Nat.le_of_ble_eq_true rfl) (Nat.le_of_ble_eq_true rfl) ?_
              refine rz_iinc dX12_goYears_74 (by decide) rfl rfl rfl ?_
              refine rz_goto (t := 46) dX12_goYears_77 rfl ?_
              exact rz_bk ihv ⟨Or.inr rfl, Or.inr rfl, Or.inr rfl, Or.inr rfl, Or.inr rfl, Or.inr rfl, trivial⟩ ((adM_adN (F := (yF lw (sk 82) (sk 83) (sk 84) 0 (yS lw (I 82) (I 83) (I 84) (I 85) n m0 m1 q (1 - 0)))) (fun x hx => yF_at hx)).symm) (rfl)
          · skip
            refine rz_iload dX12_goYears_46 rfl ?_
            refine rz_aload_n dX12_goYears_48 rfl ?_
            refine rz_getI (z := (n : Int)) dX12_goYears_49 kf_RX12_137 hd_81 rfl (x1) ?_
            refine rz_icmp_ge (t := 80) dX12_goYears_52 rfl (by omega) (by omega) (fun c52 => ?_) (fun c52 => ?_)
            · refine rz_iinc dX12_goYears_80 (by decide) rfl rfl rfl ?_
              refine rz_goto (t := 37) dX12_goYears_83 rfl ?_
              exact rz_bk ihq ⟨Or.inr rfl, Or.inr rfl, Or.inr rfl, Or.inr rfl, Or.inr rfl, Or.inl rfl, trivial⟩ (acM_s.symm) (rfl)
            · exfalso; omega
      · skip
        refine rz_iload dX12_goYears_37 rfl ?_
        refine rz_iload_n dX12_goYears_39 rfl ?_
        refine rz_icmp_ge (t := 86) dX12_goYears_40 rfl (by omega) (by omega) (fun c40 => ?_) (fun c40 => ?_)
        · refine rz_aload_n dX12_goYears_86 rfl ?_
          refine rz_aload_n dX12_goYears_87 rfl ?_
          refine rz_getR dX12_goYears_88 kf_RX12_19 hd_81 rfl rr_81_5 ?_
          refine rz_iload_n dX12_goYears_91 rfl ?_
          refine rz_iald (z := ((I 85 0).toNat : Int)) dX12_goYears_92 hd_85 (by decide) (by omega) (by show sk 85 0 = _; rw [x85]; omega) ?_
          refine rz_iconst dX12_goYears_93 ?_
          refine rz_cVVq dX12_goYears_94 kl_RX12_270 hd_81 ⟨_, _, rfl⟩ (c_X12_findRows (I := (acM (fillM sk 106 50 0) 106 n (k + 1) (fun q j => yF lw (sk 82) (sk 83) (sk 84) 0 (yS lw (I 82) (I 83) (I 84) (I 85) n m0 m1 q (1 - 0)) j))) n ⟨x1, h2.2⟩ (I 85 0).toNat false (by omega) (rows_cnt n h2.2 (I 85 0).toNat (by omega)).1) rfl rfl (Nat.le_of_ble_eq_true rfl) (Nat.le_of_ble_eq_true rfl) ?_
          rintro _ _ ⟨⟨R0, X0, rfl, hR0, hRb0⟩, rfl⟩
          have hgs : ∀ v x, v < n → x ≤ 9 → (layM (acM (fillM sk 106 50 0) 106 n (k + 1) (fun q j => yF lw (sk 82) (sk 83) (sk 84) 0 (yS lw (I 82) (I 83) (I 84) (I 85) n m0 m1 q (1 - 0)) j)) (rowsL n (I 85 0).toNat false).length R0 X0) 106 (10 * v + x) = yG lw (I 82) (I 83) (I 84) (I 85) n m0 m1 (k + 1) 0 v x := fun v x hv hx => yF_sum x82 x83 x84 hv hx
          have hGA : GRg (layM (acM (fillM sk 106 50 0) 106 n (k + 1) (fun q j => yF lw (sk 82) (sk 83) (sk 84) 0 (yS lw (I 82) (I 83) (I 84) (I 85) n m0 m1 q (1 - 0)) j)) (rowsL n (I 85 0).toNat false).length R0 X0) 106 n := fun v x hv hx => by
            rw [hgs v x hv hx]
            have := yG_rg (lw := lw) (T := I 83) (U := I 84) (Q := I 85) (m0 := m0) (m1 := m1) hW (k + 1) 0 v x hv
            omega
          refine rz_aload_n dX12_goYears_97 rfl ?_
          refine rz_cVVq dX12_goYears_98 kl_RX12_323 hd_81 ⟨_, _, rfl⟩ (c_X12_findBest (I := (layM (acM (fillM sk 106 50 0) 106 n (k + 1) (fun q j => yF lw (sk 82) (sk 83) (sk 84) 0 (yS lw (I 82) (I 83) (I 84) (I 85) n m0 m1 q (1 - 0)) j)) (rowsL n (I 85 0).toNat false).length R0 X0)) n ⟨x1, h2.2⟩ (rowsL n (I 85 0).toNat false) rfl (rows_cnt n h2.2 (I 85 0).toNat (by omega)).1 (rowsL_ok (by omega)) hR0 hGA) rfl rfl (Nat.le_of_ble_eq_true rfl) (Nat.le_of_ble_eq_true rfl) ?_
          rintro _ _ ⟨⟨bb, g0, rfl, hFb⟩, rfl⟩
          obtain ⟨j0, rfl, hj0, w0, hw0, hw9, hwy0⟩ := fb_year h2.2 rfl (by omega) hW (by omega) hgs hFb
          have gyf : GyF sk (fbM (layM (acM (fillM sk 106 50 0) 106 n (k + 1) (fun q j => yF lw (sk 82) (sk 83) (sk 84) 0 (yS lw (I 82) (I 83) (I 84) (I 85) n m0 m1 q (1 - 0)) j)) (rowsL n (I 85 0).toNat false).length R0 X0) (j0 : Int) g0) := GyF_big hRb0
          refine rz_aload_n dX12_goYears_101 rfl ?_
          refine rz_iload_n dX12_goYears_102 rfl ?_
          refine rz_iload_n dX12_goYears_103 rfl ?_
          refine rz_cVVq dX12_goYears_104 kl_RX12_362 hd_81 ⟨_, _, rfl⟩ ((show KVq X _ mX12_send [.ref 81, zi 0, zi ((k + 1 : Nat) : Int)] (fbM (layM (acM (fillM sk 106 50 0) 106 n (k + 1) (fun q j => yF lw (sk 82) (sk 83) (sk 84) 0 (yS lw (I 82) (I 83) (I 84) (I 85) n m0 m1 q (1 - 0)) j)) (rowsL n (I 85 0).toNat false).length R0 X0) (j0 : Int) g0) J (fun A Bj => A = copF (fbM (layM (acM (fillM sk 106 50 0) 106 n (k + 1) (fun q j => yF lw (sk 82) (sk 83) (sk 84) 0 (yS lw (I 82) (I 83) (I 84) (I 85) n m0 m1 q (1 - 0)) j)) (rowsL n (I 85 0).toNat false).length R0 X0) (j0 : Int) g0) 112 (5 * (31 * 0 + (k + 1))) n (fun v => ((w0.getD v 0 : Nat) : Int)) ∧ Bj = J) from c_sendY_0 (I := (fbM (layM (acM (fillM sk 106 50 0) 106 n (k + 1) (fun q j => yF lw (sk 82) (sk 83) (sk 84) 0 (yS lw (I 82) (I 83) (I 84) (I 85) n m0 m1 q (1 - 0)) j)) (rowsL n (I 85 0).toNat false).length R0 X0) (j0 : Int) g0)) n ⟨x1, h2.2⟩ k (by omega) j0 ⟨rfl, hj0⟩ w0 (fun v hv => ⟨hR0 _ _ hw0 v hv, hw9 v⟩))) rfl rfl (Nat.le_of_ble_eq_true rfl) (Nat.le_of_ble_eq_true rfl) ?_
          rintro S1 BS1 ⟨hS1, hBS1⟩
          obtain rfl : J = BS1 := hBS1.symm
          have gy1 : GyF B S1 := by rw [hS1]; exact qk.1.trans (gyf.trans GyF_112)
          have rs1 : RsI S1 lw (I 82) (I 83) (I 84) (I 85) n m0 m1 k := by
            rw [hS1]
            exact RsI_a h2.2 (by omega) (fun a ha v hv => qk.2 a ha v hv)
          have rw1 : ∀ v, v < n → S1 112 (5 * (31 * 0 + (k + 1)) + v) = ((yS lw (I 82) (I 83) (I 84) (I 85) n m0 m1 (k + 1) 0 v : Nat) : Int) := fun v hv => by
            rw [hS1, copF_at hv, hwy0 v]
          clear x1 x82 x83 x84 x85 xH hgs hGA gyf hFb
          have x1 : S1 81 1 = n := by rw [gy1.2.1 1 (by decide) (by decide) (by decide)]; exact hnB.1
          have x82 : S1 82 = I 82 := by rw [gy1.1 82 (by decide) (by decide) (by decide) (by decide) (by decide)]; exact e82
          have x83 : S1 83 = I 83 := by rw [gy1.1 83 (by decide) (by decide) (by decide) (by decide) (by decide)]; exact e83
          have x84 : S1 84 = I 84 := by rw [gy1.1 84 (by decide) (by decide) (by decide) (by decide) (by decide)]; exact e84
          have x85 : S1 85 = I 85 := by rw [gy1.1 85 (by decide) (by decide) (by decide) (by decide) (by decide)]; exact e85
          have xH : HasR S1 lw n := HasR_of (gy1.1 102 (by decide) (by decide) (by decide) (by decide) (by decide)) (gy1.1 82 (by decide) (by decide) (by decide) (by decide) (by decide)) (gy1.1 83 (by decide) (by decide) (by decide) (by decide) (by decide)) (gy1.1 84 (by decide) (by decide) (by decide) (by decide) (by decide)) hH
          refine rz_iinc (z := 1) dX12_goYears_107 (by decide) rfl rfl rfl ?_
          refine rz_goto (t := 25) dX12_goYears_110 rfl ?_
          refine rz_iload_n dX12_goYears_25 rfl ?_
          refine rz_iconst dX12_goYears_26 ?_
          refine rz_icmp_ge (t := 113) dX12_goYears_27 rfl (by omega) (by omega) (fun q => absurd q (by decide)) (fun _ => ?_)
          refine rz_aload_n dX12_goYears_30 rfl ?_
          refine rz_cVV dX12_goYears_31 kl_RX12_281 hd_81 ⟨_, _, rfl⟩ (c_X12_noGains (I := S1)) rfl rfl (Nat.le_of_ble_eq_true rfl) (Nat.le_of_ble_eq_true rfl) ?_
          refine rz_iconst dX12_goYears_34 ?_
          refine rz_istore dX12_goYears_35 (by decide) rfl ?_
          refine rz_up (ls := fun q : Nat => [some (.ref 81), some (zi (y : Int)), some (zi ((k + 1 : Nat) : Int)), some (zi 1), some (zi (q : Int)), none]) (IV := fun q : Nat => (acM (fillM S1 106 50 0) 106 n q (fun q j => yF lw (S1 82) (S1 83) (S1 84) 1 (yS lw (I 82) (I 83) (I 84) (I 85) n m0 m1 q (1 - 1)) j))) (JV := fun q : Nat => J) ((k + 1)) ⟨Or.inr rfl, Or.inr rfl, Or.inr rfl, Or.inr rfl, Or.inr rfl, Or.inl rfl, trivial⟩ ((acM_0 (fun j hj => by show (fillM S1 106 50 0) 106 j = 0; unfold fillM; rw [upA_self, if_pos (by omega)]))) (rfl) ?_ ?_
          · intro q hq ihq
            refine rz_iload dX12_goYears_37 rfl ?_
            refine rz_iload_n dX12_goYears_39 rfl ?_
            refine rz_icmp_ge (t := 86) dX12_goYears_40 rfl (by omega) (by omega) (fun c40 => ?_) (fun c40 => ?_)
            · exfalso; omega
            · refine rz_iconst dX12_goYears_43 ?_
              refine rz_istore dX12_goYears_44 (by decide) rfl ?_
              refine rz_up (ls := fun v : Nat => [some (.ref 81), some (zi (y : Int)), some (zi ((k + 1 : Nat) : Int)), some (zi 1), some (zi (q : Int)), some (zi (v : Int))]) (IV := fun v : Nat => (adN (acM (fillM S1 106 50 0) 106 n q (fun q j => yF lw (S1 82) (S1 83) (S1 84) 1 (yS lw (I 82) (I 83) (I 84) (I 85) n m0 m1 q (1 - 1)) j)) 106 (10 * v) (yF lw (S1 82) (S1 83) (S1 84) 1 (yS lw (I 82) (I 83) (I 84) (I 85) n m0 m1 q (1 - 1))))) (JV := fun v : Nat => J) (n) ⟨Or.inr rfl, Or.inr rfl, Or.inr rfl, Or.inr rfl, Or.inr rfl, Or.inr rfl, trivial⟩ (adN_0) (rfl) ?_ ?_
              · intro v hv ihv
                refine rz_iload dX12_goYears_46 rfl ?_
                refine rz_aload_n dX12_goYears_48 rfl ?_
                refine rz_getI (z := (n : Int)) dX12_goYears_49 kf_RX12_137 hd_81 rfl (x1) ?_
                refine rz_icmp_ge (t := 80) dX12_goYears_52 rfl (by omega) (by omega) (fun c52 => ?_) (fun c52 => ?_)
                · exfalso; omega
                · refine rz_aload_n dX12_goYears_55 rfl ?_
                  refine rz_iload_n dX12_goYears_56 rfl ?_
                  refine rz_iload dX12_goYears_57 rfl ?_
                  refine rz_aload_n dX12_goYears_59 rfl ?_
                  refine rz_iconst dX12_goYears_60 ?_
                  refine rz_iload_n dX12_goYears_61 rfl ?_
                  refine rz_isub dX12_goYears_62 ?_
                  refine rz_iload dX12_goYears_63 rfl ?_
                  refine rz_iload dX12_goYears_65 rfl ?_
                  refine rz_cVI dX12_goYears_67 kl_RX12_365 hd_81 ⟨_, _, rfl⟩ (c_X12_sentAt (I := (adN (acM (fillM S1 106 50 0) 106 n q (fun q j => yF lw (S1 82) (S1 83) (S1 84) 1 (yS lw (I 82) (I 83) (I 84) (I 85) n m0 m1 q (1 - 1)) j)) 106 (10 * v) (yF lw (S1 82) (S1 83) (S1 84) 1 (yS lw (I 82) (I 83) (I 84) (I 85) n m0 m1 q (1 - 1))))) 0 q v (by decide) (by omega) (by omega)) rfl rfl (Nat.le_of_ble_eq_true rfl) (Nat.le_of_ble_eq_true rfl) ?_
                  refine rz_ieq (y := ((yS lw (I 82) (I 83) (I 84) (I 85) n m0 m1 q (1 - 1) v : Nat) : Int)) (by show ((yS lw (I 82) (I 83) (I 84) (I 85) n m0 m1 q 0 v : Nat) : Int) = S1 112 (5 * (31 * 0 + q) + v); exact (rs1 q (by omega) v hv).1.symm) ?_
                  have hs9 : yS lw (I 82) (I 83) (I 84) (I 85) n m0 m1 q (1 - 1) v ≤ 9 := yS_le h2.2 h7 ho0 ho1 hW (by omega) (by omega) (by omega)
                  refine rz_iconst dX12_goYears_70 ?_
                  refine rz_cVV dX12_goYears_71 kl_RX12_293 hd_81 ⟨_, _, rfl⟩ (c_X12_addGains (I := (adN (acM (fillM S1 106 50 0) 106 n q (fun q j => yF lw (S1 82) (S1 83) (S1 84) 1 (yS lw (I 82) (I 83) (I 84) (I 85) n m0 m1 q (1 - 1)) j)) 106 (10 * v) (yF lw (S1 82) (S1 83) (S1 84) 1 (yS lw (I 82) (I 83) (I 84) (I 85) n m0 m1 q (1 - 1))))) lw n 1 v (yS lw (I 82) (I 83) (I 84) (I 85) n m0 m1 q (1 - 1) v) 1 h2.2 (by decide) hv hs9 xH) rfl rfl (Nat.le_of_ble_eq_true rfl) (Nat.le_of_ble_eq_true rfl) ?_
                  refine rz_iinc dX12_goYears_74 (by decide) rfl rfl rfl ?_
                  refine rz_goto (t := 46) dX12_goYears_77 rfl ?_
                  exact rz_bk ihv ⟨Or.inr rfl, Or.inr rfl, Or.inr rfl, Or.inr rfl, Or.inr rfl, Or.inr rfl, trivial⟩ ((adM_adN (F := (yF lw (S1 82) (S1 83) (S1 84) 1 (yS lw (I 82) (I 83) (I 84) (I 85) n m0 m1 q (1 - 1)))) (fun x hx => yF_at hx)).symm) (rfl)
              · skip
                refine rz_iload dX12_goYears_46 rfl ?_
                refine rz_aload_n dX12_goYears_48 rfl ?_
                refine rz_getI (z := (n : Int)) dX12_goYears_49 kf_RX12_137 hd_81 rfl (x1) ?_
                refine rz_icmp_ge (t := 80) dX12_goYears_52 rfl (by omega) (by omega) (fun c52 => ?_) (fun c52 => ?_)
                · refine rz_iinc dX12_goYears_80 (by decide) rfl rfl rfl ?_
                  refine rz_goto (t := 37) dX12_goYears_83 rfl ?_
                  exact rz_bk ihq ⟨Or.inr rfl, Or.inr rfl, Or.inr rfl, Or.inr rfl, Or.inr rfl, Or.inl rfl, trivial⟩ (acM_s.symm) (rfl)
                · exfalso; omega
          · skip
            refine rz_iload dX12_goYears_37 rfl ?_
            refine rz_iload_n dX12_goYears_39 rfl ?_
            refine rz_icmp_ge (t := 86) dX12_goYears_40 rfl (by omega) (by omega) (fun c40 => ?_) (fun c40 => ?_)
            · refine rz_aload_n dX12_goYears_86 rfl ?_
              refine rz_aload_n dX12_goYears_87 rfl ?_
              refine rz_getR dX12_goYears_88 kf_RX12_19 hd_81 rfl rr_81_5 ?_
              refine rz_iload_n dX12_goYears_91 rfl ?_
              refine rz_iald (z := ((I 85 1).toNat : Int)) dX12_goYears_92 hd_85 (by decide) (by omega) (by show S1 85 1 = _; rw [x85]; omega) ?_
              refine rz_iconst dX12_goYears_93 ?_
              refine rz_cVVq dX12_goYears_94 kl_RX12_270 hd_81 ⟨_, _, rfl⟩ (c_X12_findRows (I := (acM (fillM S1 106 50 0) 106 n (k + 1) (fun q j => yF lw (S1 82) (S1 83) (S1 84) 1 (yS lw (I 82) (I 83) (I 84) (I 85) n m0 m1 q (1 - 1)) j))) n ⟨x1, h2.2⟩ (I 85 1).toNat false (by omega) (rows_cnt n h2.2 (I 85 1).toNat (by omega)).1) rfl rfl (Nat.le_of_ble_eq_true rfl) (Nat.le_of_ble_eq_true rfl) ?_
              rintro _ _ ⟨⟨R1, X1, rfl, hR1, hRb1⟩, rfl⟩
              have hgs : ∀ v x, v < n → x ≤ 9 → (layM (acM (fillM S1 106 50 0) 106 n (k + 1) (fun q j => yF lw (S1 82) (S1 83) (S1 84) 1 (yS lw (I 82) (I 83) (I 84) (I 85) n m0 m1 q (1 - 1)) j)) (rowsL n (I 85 1).toNat false).length R1 X1) 106 (10 * v + x) = yG lw (I 82) (I 83) (I 84) (I 85) n m0 m1 (k + 1) 1 v x := fun v x hv hx => yF_sum x82 x83 x84 hv hx
              have hGA : GRg (layM (acM (fillM S1 106 50 0) 106 n (k + 1) (fun q j => yF lw (S1 82) (S1 83) (S1 84) 1 (yS lw (I 82) (I 83) (I 84) (I 85) n m0 m1 q (1 - 1)) j)) (rowsL n (I 85 1).toNat false).length R1 X1) 106 n := fun v x hv hx => by
                rw [hgs v x hv hx]
                have := yG_rg (lw := lw) (T := I 83) (U := I 84) (Q := I 85) (m0 := m0) (m1 := m1) hW (k + 1) 1 v x hv
                omega
              refine rz_aload_n dX12_goYears_97 rfl ?_
              refine rz_cVVq dX12_goYears_98 kl_RX12_323 hd_81 ⟨_, _, rfl⟩ (c_X12_findBest (I := (layM (acM (fillM S1 106 50 0) 106 n (k + 1) (fun q j => yF lw (S1 82) (S1 83) (S1 84) 1 (yS lw (I 82) (I 83) (I 84) (I 85) n m0 m1 q (1 - 1)) j)) (rowsL n (I 85 1).toNat false).length R1 X1)) n ⟨x1, h2.2⟩ (rowsL n (I 85 1).toNat false) rfl (rows_cnt n h2.2 (I 85 1).toNat (by omega)).1 (rowsL_ok (by omega)) hR1 hGA) rfl rfl (Nat.le_of_ble_eq_true rfl) (Nat.le_of_ble_eq_true rfl) ?_
              rintro _ _ ⟨⟨bb, g1, rfl, hFb⟩, rfl⟩
              obtain ⟨j1, rfl, hj1, w1, hw1, hw9, hwy1⟩ := fb_year h2.2 rfl (by omega) hW (by omega) hgs hFb
              have gyf : GyF S1 (fbM (layM (acM (fillM S1 106 50 0) 106 n (k + 1) (fun q j => yF lw (S1 82) (S1 83) (S1 84) 1 (yS lw (I 82) (I 83) (I 84) (I 85) n m0 m1 q (1 - 1)) j)) (rowsL n (I 85 1).toNat false).length R1 X1) (j1 : Int) g1) := GyF_big hRb1
              refine rz_aload_n dX12_goYears_101 rfl ?_
              refine rz_iload_n dX12_goYears_102 rfl ?_
              refine rz_iload_n dX12_goYears_103 rfl ?_
              refine rz_cVVq dX12_goYears_104 kl_RX12_362 hd_81 ⟨_, _, rfl⟩ ((show KVq X _ mX12_send [.ref 81, zi 1, zi ((k + 1 : Nat) : Int)] (fbM (layM (acM (fillM S1 106 50 0) 106 n (k + 1) (fun q j => yF lw (S1 82) (S1 83) (S1 84) 1 (yS lw (I 82) (I 83) (I 84) (I 85) n m0 m1 q (1 - 1)) j)) (rowsL n (I 85 1).toNat false).length R1 X1) (j1 : Int) g1) J (fun A Bj => A = copF (fbM (layM (acM (fillM S1 106 50 0) 106 n (k + 1) (fun q j => yF lw (S1 82) (S1 83) (S1 84) 1 (yS lw (I 82) (I 83) (I 84) (I 85) n m0 m1 q (1 - 1)) j)) (rowsL n (I 85 1).toNat false).length R1 X1) (j1 : Int) g1) 112 (5 * (31 * 1 + (k + 1))) n (fun v => ((w1.getD v 0 : Nat) : Int)) ∧ Bj = J) from c_sendY_1 (I := (fbM (layM (acM (fillM S1 106 50 0) 106 n (k + 1) (fun q j => yF lw (S1 82) (S1 83) (S1 84) 1 (yS lw (I 82) (I 83) (I 84) (I 85) n m0 m1 q (1 - 1)) j)) (rowsL n (I 85 1).toNat false).length R1 X1) (j1 : Int) g1)) n ⟨x1, h2.2⟩ k (by omega) j1 ⟨rfl, hj1⟩ w1 (fun v hv => ⟨hR1 _ _ hw1 v hv, hw9 v⟩))) rfl rfl (Nat.le_of_ble_eq_true rfl) (Nat.le_of_ble_eq_true rfl) ?_
              rintro S2 BS2 ⟨hS2, hBS2⟩
              obtain rfl : J = BS2 := hBS2.symm
              have gy2 : GyF B S2 := by rw [hS2]; exact gy1.trans (gyf.trans GyF_112)
              have rs2 : RsI S2 lw (I 82) (I 83) (I 84) (I 85) n m0 m1 (k + 1) := by
                rw [hS2]
                exact RsI_b h2.2 (by omega) (fun a ha v hv => rs1 a ha v hv) (fun v hv => rw1 v hv) (fun v hv => by rw [hwy1 v])
              refine rz_iinc (z := 2) dX12_goYears_107 (by decide) rfl rfl rfl ?_
              refine rz_goto (t := 25) dX12_goYears_110 rfl ?_
              refine rz_iload_n dX12_goYears_25 rfl ?_
              refine rz_iconst dX12_goYears_26 ?_
              refine rz_icmp_ge (t := 113) dX12_goYears_27 rfl (by omega) (by omega) (fun _ => ?_) (fun q => absurd q (by decide))
              refine rz_iinc dX12_goYears_113 (by decide) rfl rfl rfl ?_
              refine rz_goto (t := 18) dX12_goYears_116 rfl ?_
              exact rz_bk (ihk (S2) (⟨gy2, rs2⟩)) ⟨Or.inr rfl, Or.inr rfl, Or.inr rfl, Or.inl rfl, Or.inl rfl, Or.inl rfl, trivial⟩ (rfl) (rfl)
            · exfalso; omega
        · exfalso; omega
  · intro sk qk
    refine rz_iload_n dX12_goYears_18 rfl ?_
    refine rz_iload_n dX12_goYears_19 rfl ?_
    refine rz_icmp_gt (t := 119) dX12_goYears_20 rfl (by omega) (by omega) (fun c20 => ?_) (fun c20 => ?_)
    · refine rz_vret dX12_goYears_119 rfl ?_
      exact ⟨rfl, ⟨FrR.trans (FrR_fh hB) (GyF_Fr qk.1), qk.2, HasR_of (qk.1.1 102 (by decide) (by decide) (by decide) (by decide) (by decide)) (qk.1.1 82 (by decide) (by decide) (by decide) (by decide) (by decide)) (qk.1.1 83 (by decide) (by decide) (by decide) (by decide) (by decide)) (qk.1.1 84 (by decide) (by decide) (by decide) (by decide) (by decide)) hH, by rw [qk.1.2.1 1 (by decide) (by decide) (by decide)]; exact hnB.1⟩, rfl⟩
    · exfalso; omega
set_option maxRecDepth 20000 in
set_option maxHeartbeats 400000 in
theorem year_r0 {X : pX} {I J : IM} {h : Nat} {lw : Lw} {n : Nat} {m0 m1 : Mx} (hq : RqI I lw n m0 m1) (y : Nat) (hy : y ≤ 30) : KIq X (h + 8) mX12_year [.ref 81, zi 0, zi (y : Int)] I J (fun z A B => z = yeaZ lw (I 82) (I 83) (I 84) (I 85) n m0 m1 0 (y : Int) ∧ FrR I A ∧ J = B) := by
  show Rz X (h + 8) mX12_year 0 [some (.ref 81), some (zi 0), some (zi (y : Int))] [] I J _
  refine rz_iload_n dX12_year_0 rfl ?_
  refine rz_cSIq dX12_year_1 kl_RX12_158 (c_X12_isBaker X _ I J 0 (by omega)) rfl rfl (Nat.le_of_ble_eq_true rfl) (Nat.le_of_ble_eq_true rfl) ?_
  rintro z1 A1 B1 ⟨⟨rfl, b1⟩ | ⟨rfl, b1⟩, rfl, rfl⟩
  · refine rz_if_eq (t := 17) dX12_year_4 rfl (by omega) (fun q => absurd q (by decide)) (fun _ => ?_)
    refine rz_iload_n dX12_year_7 rfl ?_
    refine rz_iconst dX12_year_8 ?_
    refine rz_bipush dX12_year_9 (by decide) ?_
    refine rz_cSIq dX12_year_11 kl_RX12_140 (c_X12_in X _ I J (y : Int) 0 30 (by omega) (by decide) (by decide)) rfl rfl (Nat.le_of_ble_eq_true rfl) (Nat.le_of_ble_eq_true rfl) ?_
    rintro z11 A11 B11 ⟨⟨rfl, b11⟩ | ⟨rfl, b11⟩, rfl, rfl⟩
    · refine rz_if_ne (t := 19) dX12_year_14 rfl (by omega) (fun _ => ?_) (fun q => absurd q (by decide))
      refine rz_aload_n dX12_year_19 rfl ?_
      refine rz_iload_n dX12_year_20 rfl ?_
      refine rz_cVVq dX12_year_21 kl_RX12_368 hd_81 ⟨_, _, rfl⟩ (c_X12_goYears hq y hy) rfl rfl (Nat.le_of_ble_eq_true rfl) (Nat.le_of_ble_eq_true rfl) ?_
      rintro A21 _ ⟨⟨fr21, rs21, hh21, n21⟩, rfl⟩
      refine rz_aload_n dX12_year_24 rfl ?_
      refine rz_getR dX12_year_25 kf_RX12_102 hd_81 rfl rr_81_46 ?_
      refine rz_bipush dX12_year_28 (by decide) ?_
      refine rz_iload_n dX12_year_30 rfl ?_
      refine rz_imul dX12_year_31 ?_
      refine rz_iload_n dX12_year_32 rfl ?_
      refine rz_iadd dX12_year_33 ?_
      refine rz_ieq (y := ((31 * 0 + y : Nat) : Int)) (by omega) ?_
      refine rz_aload_n dX12_year_34 rfl ?_
      refine rz_getI (z := (n : Int)) dX12_year_35 kf_RX12_137 hd_81 rfl (n21) ?_
      refine rz_cSI dX12_year_38 kl_RX12_342 (c_X12_numberIn X _ A21 J n (31 * 0 + y) 112 310 hq.2.1.2 hd_112 (by decide) (by have := hq.2.1.2; omega)) rfl rfl (Nat.le_of_ble_eq_true rfl) (Nat.le_of_ble_eq_true rfl) ?_
      refine rz_iret dX12_year_41 rfl ?_
      exact ⟨_, rfl, (numP_congr (fun v hv => (rs21 y (Nat.le_refl y) v hv).1)).trans (if_pos ⟨by omega, by omega⟩).symm, fr21, rfl⟩
    · exfalso; omega
  · exfalso; omega
set_option maxRecDepth 20000 in
set_option maxHeartbeats 400000 in
theorem year_r1 {X : pX} {I J : IM} {h : Nat} {lw : Lw} {n : Nat} {m0 m1 : Mx} (hq : RqI I lw n m0 m1) (y : Nat) (hy : y ≤ 30) : KIq X (h + 8) mX12_year [.ref 81, zi 1, zi (y : Int)] I J (fun z A B => z = yeaZ lw (I 82) (I 83) (I 84) (I 85) n m0 m1 1 (y : Int) ∧ FrR I A ∧ J = B) := by
  show Rz X (h + 8) mX12_year 0 [some (.ref 81), some (zi 1), some (zi (y : Int))] [] I J _
  refine rz_iload_n dX12_year_0 rfl ?_
  refine rz_cSIq dX12_year_1 kl_RX12_158 (c_X12_isBaker X _ I J 1 (by omega)) rfl rfl (Nat.le_of_ble_eq_true rfl) (Nat.le_of_ble_eq_true rfl) ?_
  rintro z1 A1 B1 ⟨⟨rfl, b1⟩ | ⟨rfl, b1⟩, rfl, rfl⟩
  · refine rz_if_eq (t := 17) dX12_year_4 rfl (by omega) (fun q => absurd q (by decide)) (fun _ => ?_)
    refine rz_iload_n dX12_year_7 rfl ?_
    refine rz_iconst dX12_year_8 ?_
    refine rz_bipush dX12_year_9 (by decide) ?_
    refine rz_cSIq dX12_year_11 kl_RX12_140 (c_X12_in X _ I J (y : Int) 0 30 (by omega) (by decide) (by decide)) rfl rfl (Nat.le_of_ble_eq_true rfl) (Nat.le_of_ble_eq_true rfl) ?_
    rintro z11 A11 B11 ⟨⟨rfl, b11⟩ | ⟨rfl, b11⟩, rfl, rfl⟩
    · refine rz_if_ne (t := 19) dX12_year_14 rfl (by omega) (fun _ => ?_) (fun q => absurd q (by decide))
      refine rz_aload_n dX12_year_19 rfl ?_
      refine rz_iload_n dX12_year_20 rfl ?_
      refine rz_cVVq dX12_year_21 kl_RX12_368 hd_81 ⟨_, _, rfl⟩ (c_X12_goYears hq y hy) rfl rfl (Nat.le_of_ble_eq_true rfl) (Nat.le_of_ble_eq_true rfl) ?_
      rintro A21 _ ⟨⟨fr21, rs21, hh21, n21⟩, rfl⟩
      refine rz_aload_n dX12_year_24 rfl ?_
      refine rz_getR dX12_year_25 kf_RX12_102 hd_81 rfl rr_81_46 ?_
      refine rz_bipush dX12_year_28 (by decide) ?_
      refine rz_iload_n dX12_year_30 rfl ?_
      refine rz_imul dX12_year_31 ?_
      refine rz_iload_n dX12_year_32 rfl ?_
      refine rz_iadd dX12_year_33 ?_
      refine rz_ieq (y := ((31 * 1 + y : Nat) : Int)) (by omega) ?_
      refine rz_aload_n dX12_year_34 rfl ?_
      refine rz_getI (z := (n : Int)) dX12_year_35 kf_RX12_137 hd_81 rfl (n21) ?_
      refine rz_cSI dX12_year_38 kl_RX12_342 (c_X12_numberIn X _ A21 J n (31 * 1 + y) 112 310 hq.2.1.2 hd_112 (by decide) (by have := hq.2.1.2; omega)) rfl rfl (Nat.le_of_ble_eq_true rfl) (Nat.le_of_ble_eq_true rfl) ?_
      refine rz_iret dX12_year_41 rfl ?_
      exact ⟨_, rfl, (numP_congr (fun v hv => (rs21 y (Nat.le_refl y) v hv).2)).trans (if_pos ⟨by omega, by omega⟩).symm, fr21, rfl⟩
    · exfalso; omega
  · exfalso; omega
set_option maxRecDepth 20000 in
set_option maxHeartbeats 400000 in
theorem year_rn {X : pX} {I J : IM} {h : Nat} {lw : Lw} {n : Nat} {m0 m1 : Mx} (b y : Int) (hb : rg b) (hy : rg y) (hn : ¬ ((b = 0 ∨ b = 1) ∧ 0 ≤ y ∧ y ≤ 30)) : KIq X (h + 8) mX12_year [.ref 81, zi b, zi y] I J (fun z A B => z = yeaZ lw (I 82) (I 83) (I 84) (I 85) n m0 m1 b y ∧ FrR I A ∧ J = B) := by
  show Rz X (h + 8) mX12_year 0 [some (.ref 81), some (zi b), some (zi y)] [] I J _
  refine rz_iload_n dX12_year_0 rfl ?_
  refine rz_cSIq dX12_year_1 kl_RX12_158 (c_X12_isBaker X _ I J b (by omega)) rfl rfl (Nat.le_of_ble_eq_true rfl) (Nat.le_of_ble_eq_true rfl) ?_
  rintro z1 A1 B1 ⟨⟨rfl, b1⟩ | ⟨rfl, b1⟩, rfl, rfl⟩
  · refine rz_if_eq (t := 17) dX12_year_4 rfl (by omega) (fun q => absurd q (by decide)) (fun _ => ?_)
    refine rz_iload_n dX12_year_7 rfl ?_
    refine rz_iconst dX12_year_8 ?_
    refine rz_bipush dX12_year_9 (by decide) ?_
    refine rz_cSIq dX12_year_11 kl_RX12_140 (c_X12_in X _ I J y 0 30 (by omega) (by decide) (by decide)) rfl rfl (Nat.le_of_ble_eq_true rfl) (Nat.le_of_ble_eq_true rfl) ?_
    rintro z11 A11 B11 ⟨⟨rfl, b11⟩ | ⟨rfl, b11⟩, rfl, rfl⟩
    · exfalso; omega
    · refine rz_if_ne (t := 19) dX12_year_14 rfl (by omega) (fun q => absurd q (by decide)) (fun _ => ?_)
      refine rz_iconst dX12_year_17 ?_
      refine rz_iret dX12_year_18 rfl ?_
      exact ⟨_, rfl, (if_neg (by omega)).symm, FrR_refl, rfl⟩
  · refine rz_if_eq (t := 17) dX12_year_4 rfl (by omega) (fun _ => ?_) (fun q => absurd q (by decide))
    refine rz_iconst dX12_year_17 ?_
    refine rz_iret dX12_year_18 rfl ?_
    exact ⟨_, rfl, (if_neg (by omega)).symm, FrR_refl, rfl⟩
theorem c_X12_year {X : pX} {I J : IM} {h : Nat} {lw : Lw} {n : Nat} {m0 m1 : Mx} (hq : RqI I lw n m0 m1) (b y : Int) (hb : rg b) (hy : rg y) : KIq X (h + 8) mX12_year [.ref 81, zi b, zi y] I J (fun z A B => z = yeaZ lw (I 82) (I 83) (I 84) (I 85) n m0 m1 b y ∧ FrR I A ∧ J = B) := by
  by_cases e : (b = 0 ∨ b = 1) ∧ 0 ≤ y ∧ y ≤ 30
  · obtain ⟨e1, e2⟩ := e
    obtain ⟨k, rfl⟩ : ∃ k : Nat, y = (k : Int) := ⟨y.toNat, by omega⟩
    rcases e1 with rfl | rfl
    · exact year_r0 hq k (by omega)
    · exact year_r1 hq k (by omega)
  · exact year_rn b y hb hy e
set_option maxRecDepth 20000 in
set_option maxHeartbeats 400000 in
theorem years_r {X : pX} {I J : IM} {h : Nat} {lw : Lw} {n : Nat} {m0 m1 : Mx} (hq : RqI I lw n m0 m1) (y : Nat) (hy : y ≤ 30) : KIq X (h + 8) mX12_years [.ref 81, zi (y : Int)] I J (fun z A B => z = yesZ lw (I 82) (I 83) (I 84) (I 85) n m0 m1 (y : Int) ∧ FrR I A ∧ J = B) := by
  show Rz X (h + 8) mX12_years 0 [some (.ref 81), some (zi (y : Int)), none, none, none] [] I J _
  refine rz_iload_n dX12_years_0 rfl ?_
  refine rz_iconst dX12_years_1 ?_
  refine rz_bipush dX12_years_2 (by decide) ?_
  refine rz_cSIq dX12_years_4 kl_RX12_140 (c_X12_in X _ I J (y : Int) 0 30 (by omega) (by decide) (by decide)) rfl rfl (Nat.le_of_ble_eq_true rfl) (Nat.le_of_ble_eq_true rfl) ?_
  rintro z4 A4 B4 ⟨⟨rfl, b4⟩ | ⟨rfl, b4⟩, rfl, rfl⟩
  · refine rz_if_ne (t := 14) dX12_years_7 rfl (by omega) (fun _ => ?_) (fun q => absurd q (by decide))
    refine rz_aload_n dX12_years_14 rfl ?_
    refine rz_iload_n dX12_years_15 rfl ?_
    refine rz_cVVq dX12_years_16 kl_RX12_368 hd_81 ⟨_, _, rfl⟩ (c_X12_goYears hq y hy) rfl rfl (Nat.le_of_ble_eq_true rfl) (Nat.le_of_ble_eq_true rfl) ?_
    rintro A16 _ ⟨⟨fr16, rs16, hh16, n16⟩, rfl⟩
    have e82 : A16 82 = I 82 := fr16.1 82 (by decide)
    have e83 : A16 83 = I 83 := fr16.1 83 (by decide)
    have e84 : A16 84 = I 84 := fr16.1 84 (by decide)
    have hn5 := hq.2.1.2
    have hW : ∀ v, v < n → 0 ≤ I 82 v ∧ I 82 v ≤ 9 := fun v hv => (hq.2.2.1 v hv).1
    refine rz_iconst dX12_years_19 ?_
    refine rz_istore_n dX12_years_20 (by decide) rfl ?_
    refine rz_iconst dX12_years_21 ?_
    refine rz_istore_n dX12_years_22 (by decide) rfl ?_
    refine rz_up (ls := fun k : Nat => [some (.ref 81), some (zi (y : Int)), some (zi (sumP (ysc lw (I 82) (I 83) (I 84) (I 85) n m0 m1) k)), some (zi (k : Int)), none]) (IV := fun k : Nat => A16) (JV := fun k : Nat => J) ((y + 1)) ⟨Or.inr rfl, Or.inr rfl, Or.inr rfl, Or.inr rfl, Or.inl rfl, trivial⟩ (rfl) (rfl) ?_ ?_
    · intro k hk ihk
      refine rz_iload_n dX12_years_23 rfl ?_
      refine rz_iload_n dX12_years_24 rfl ?_
      refine rz_icmp_gt (t := 77) dX12_years_25 rfl (by omega) (by omega) (fun c25 => ?_) (fun c25 => ?_)
      · exfalso; omega
      · refine rz_iconst dX12_years_28 ?_
        refine rz_istore dX12_years_29 (by decide) rfl ?_
        refine rz_up (ls := fun v : Nat => [some (.ref 81), some (zi (y : Int)), some (zi (sumP (ysc lw (I 82) (I 83) (I 84) (I 85) n m0 m1) k + sumP (fun v => ptsV lw (I 82) (I 83) (I 84) v (yS lw (I 82) (I 83) (I 84) (I 85) n m0 m1 k 0 v) (yS lw (I 82) (I 83) (I 84) (I 85) n m0 m1 k 1 v)) v)), some (zi (k : Int)), some (zi (v : Int))]) (IV := fun v : Nat => A16) (JV := fun v : Nat => J) (n) ⟨Or.inr rfl, Or.inr rfl, Or.inr (congrArg (fun z => some (zi z)) (by show _ + 0 = _; omega)), Or.inr rfl, Or.inr rfl, trivial⟩ (rfl) (rfl) ?_ ?_
        · intro v hv ihv
          have h90 : yS lw (I 82) (I 83) (I 84) (I 85) n m0 m1 k 0 v ≤ 9 := yS_le hn5 hq.2.2.2.2.2 (MixR_ok hq.2.2.2.1) (MixR_ok hq.2.2.2.2.1) hW (by omega) (by omega) (by omega)
          have h91 : yS lw (I 82) (I 83) (I 84) (I 85) n m0 m1 k 1 v ≤ 9 := yS_le hn5 hq.2.2.2.2.2 (MixR_ok hq.2.2.2.1) (MixR_ok hq.2.2.2.2.1) hW (by omega) (by omega) (by omega)
          refine rz_iload dX12_years_31 rfl ?_
          refine rz_aload_n dX12_years_33 rfl ?_
          refine rz_getI (z := (n : Int)) dX12_years_34 kf_RX12_137 hd_81 rfl (n16) ?_
          refine rz_icmp_ge (t := 71) dX12_years_37 rfl (by omega) (by omega) (fun c37 => ?_) (fun c37 => ?_)
          · exfalso; omega
          · refine rz_iload_n dX12_years_40 rfl ?_
            refine rz_aload_n dX12_years_41 rfl ?_
            refine rz_iload dX12_years_42 rfl ?_
            refine rz_aload_n dX12_years_44 rfl ?_
            refine rz_iconst dX12_years_45 ?_
            refine rz_iload_n dX12_years_46 rfl ?_
            refine rz_iload dX12_years_47 rfl ?_
            refine rz_cVI dX12_years_49 kl_RX12_365 hd_81 ⟨_, _, rfl⟩ (c_X12_sentAt (I := A16) 0 k v (by decide) (by omega) (by omega)) rfl rfl (Nat.le_of_ble_eq_true rfl) (Nat.le_of_ble_eq_true rfl) ?_
            refine rz_ieq (y := ((yS lw (I 82) (I 83) (I 84) (I 85) n m0 m1 k 0 v : Nat) : Int)) (rs16 k (by omega) v hv).1.symm ?_
            refine rz_aload_n dX12_years_52 rfl ?_
            refine rz_iconst dX12_years_53 ?_
            refine rz_iload_n dX12_years_54 rfl ?_
            refine rz_iload dX12_years_55 rfl ?_
            refine rz_cVI dX12_years_57 kl_RX12_365 hd_81 ⟨_, _, rfl⟩ (c_X12_sentAt (I := A16) 1 k v (by decide) (by omega) (by omega)) rfl rfl (Nat.le_of_ble_eq_true rfl) (Nat.le_of_ble_eq_true rfl) ?_
            refine rz_ieq (y := ((yS lw (I 82) (I 83) (I 84) (I 85) n m0 m1 k 1 v : Nat) : Int)) (rs16 k (by omega) v hv).2.symm ?_
            refine rz_cVI dX12_years_60 kl_RX12_260 hd_81 ⟨_, _, rfl⟩ (c_X12_valueOf X _ A16 J v (yS lw (I 82) (I 83) (I 84) (I 85) n m0 m1 k 0 v) (yS lw (I 82) (I 83) (I 84) (I 85) n m0 m1 k 1 v) (by omega) h90 h91) rfl rfl (Nat.le_of_ble_eq_true rfl) (Nat.le_of_ble_eq_true rfl) ?_
            refine rz_ieq (y := (ptsV lw (I 82) (I 83) (I 84) v (yS lw (I 82) (I 83) (I 84) (I 85) n m0 m1 k 0 v) (yS lw (I 82) (I 83) (I 84) (I 85) n m0 m1 k 1 v))) (by rw [hh16 v hv _ _ h90 h91, e82, e83, e84]) ?_
            refine rz_iadd dX12_years_63 ?_
            refine rz_istore_n dX12_years_64 (by decide) rfl ?_
            refine rz_iinc dX12_years_65 (by decide) rfl rfl rfl ?_
            refine rz_goto (t := 31) dX12_years_68 rfl ?_
            exact rz_bk ihv ⟨Or.inr rfl, Or.inr rfl, Or.inr (congrArg (fun z => some (zi z)) (by exact (Int.add_assoc _ _ _).symm)), Or.inr rfl, Or.inr rfl, trivial⟩ (rfl) (rfl)
        · skip
          refine rz_iload dX12_years_31 rfl ?_
          refine rz_aload_n dX12_years_33 rfl ?_
          refine rz_getI (z := (n : Int)) dX12_years_34 kf_RX12_137 hd_81 rfl (n16) ?_
          refine rz_icmp_ge (t := 71) dX12_years_37 rfl (by omega) (by omega) (fun c37 => ?_) (fun c37 => ?_)
          · refine rz_iinc dX12_years_71 (by decide) rfl rfl rfl ?_
            refine rz_goto (t := 23) dX12_years_74 rfl ?_
            exact rz_bk ihk ⟨Or.inr rfl, Or.inr rfl, Or.inr rfl, Or.inr rfl, Or.inl rfl, trivial⟩ (rfl) (rfl)
          · exfalso; omega
    · skip
      refine rz_iload_n dX12_years_23 rfl ?_
      refine rz_iload_n dX12_years_24 rfl ?_
      refine rz_icmp_gt (t := 77) dX12_years_25 rfl (by omega) (by omega) (fun c25 => ?_) (fun c25 => ?_)
      · refine rz_iload_n dX12_years_77 rfl ?_
        refine rz_iret dX12_years_78 rfl ?_
        exact ⟨_, rfl, (if_pos ⟨by omega, by omega⟩).symm, fr16, rfl⟩
      · exfalso; omega
  · exfalso; omega
set_option maxRecDepth 20000 in
set_option maxHeartbeats 400000 in
theorem years_rn {X : pX} {I J : IM} {h : Nat} {lw : Lw} {n : Nat} {m0 m1 : Mx} (y : Int) (hy : rg y) (hn : ¬ (0 ≤ y ∧ y ≤ 30)) : KIq X (h + 8) mX12_years [.ref 81, zi y] I J (fun z A B => z = yesZ lw (I 82) (I 83) (I 84) (I 85) n m0 m1 y ∧ FrR I A ∧ J = B) := by
  show Rz X (h + 8) mX12_years 0 [some (.ref 81), some (zi y), none, none, none] [] I J _
  refine rz_iload_n dX12_years_0 rfl ?_
  refine rz_iconst dX12_years_1 ?_
  refine rz_bipush dX12_years_2 (by decide) ?_
  refine rz_cSIq dX12_years_4 kl_RX12_140 (c_X12_in X _ I J y 0 30 (by omega) (by decide) (by decide)) rfl rfl (Nat.le_of_ble_eq_true rfl) (Nat.le_of_ble_eq_true rfl) ?_
  rintro z4 A4 B4 ⟨⟨rfl, b4⟩ | ⟨rfl, b4⟩, rfl, rfl⟩
  · exfalso; omega
  · refine rz_if_ne (t := 14) dX12_years_7 rfl (by omega) (fun q => absurd q (by decide)) (fun _ => ?_)
    refine rz_ldcw (x := (-2000000000)) dX12_years_10 kk_RX12_256 (by decide) ?_
    refine rz_iret dX12_years_13 rfl ?_
    exact ⟨_, rfl, (if_neg (by omega)).symm, FrR_refl, rfl⟩
theorem c_X12_years {X : pX} {I J : IM} {h : Nat} {lw : Lw} {n : Nat} {m0 m1 : Mx} (hq : RqI I lw n m0 m1) (y : Int) (hy : rg y) : KIq X (h + 8) mX12_years [.ref 81, zi y] I J (fun z A B => z = yesZ lw (I 82) (I 83) (I 84) (I 85) n m0 m1 y ∧ FrR I A ∧ J = B) := by
  by_cases e : 0 ≤ y ∧ y ≤ 30
  · obtain ⟨k, rfl⟩ : ∃ k : Nat, y = (k : Int) := ⟨y.toNat, by omega⟩
    exact years_r hq k (by omega)
  · exact years_rn y hy e
