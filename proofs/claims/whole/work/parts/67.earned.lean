/-! what so many loaves are worth: the class -/
theorem SetQ_pts {I A : IM} {lw : Lw} {n : Nat} (h : SetQ I lw n A) : PtsOK A lw n := by
  obtain ⟨m, F, G, S, rfl, h1, h2, h3⟩ := h
  exact h1
/-- what settling leaves alone -/
theorem SetQ_fr {I A : IM} {lw : Lw} {n : Nat} (h : SetQ I lw n A) : (∀ a, a ≠ 1 → a ≠ 5 → a ≠ 11 → a ≠ 12 → A a = I a) ∧ ∀ k, k ≠ 9 → A 1 k = I 1 k := by
  obtain ⟨m, F, G, S, rfl, h1, h2, h3⟩ := h
  refine ⟨fun a g1 g2 g3 g4 => by simp [setM, scr, upA, g1, g2, g3, g4], fun k hk => ?_⟩
  show up1 (I 1) 9 m k = _
  exact up1_ne hk
theorem MixC_of {I A : IM} {o : Nat} {m : Mx} (h0 : A o = I o) (h1 : A (o + 1) = I (o + 1)) (h2 : A (o + 2) = I (o + 2)) (h : MixC I o m) : MixC A o m := by
  unfold MixC
  rw [h0, h1, h2]; exact h
theorem LawI_set {I A : IM} {lw : Lw} {n : Nat} (h : SetQ I lw n A) (hl : LawI I lw) : LawI A lw := by
  obtain ⟨h1, h2⟩ := SetQ_fr h
  exact LawI_congr (h2 7 (by decide)) (h1 4 (by decide) (by decide) (by decide) (by decide)) (by rw [h1 81 (by decide) (by decide) (by decide) (by decide)]) (h1 95 (by decide) (by decide) (by decide) (by decide)) (h1 96 (by decide) (by decide) (by decide) (by decide)) (by rw [h1 97 (by decide) (by decide) (by decide) (by decide)]) (h1 98 (by decide) (by decide) (by decide) (by decide)) (h1 99 (by decide) (by decide) (by decide) (by decide)) hl
/-- the plan of b with N loaves, over what is settled -/
def ErnQ (I : IM) (lw : Lw) (n b N : Nat) (m : Mx) (A : IM) : Prop := ∃ B g M, SetQ I lw n B ∧ A = upA (upA B 29 g) 30 M ∧ (∀ v x, v < n → x ≤ 9 → g (10 * v + x) = gS lw (I 7) (I 8) (I 9) b m v x) ∧ PlI (upA B 29 g) 29 false n N 0 M
theorem er_eq {B : IM} {n q : Nat} {F : Nat → Nat → Int} {M : Nat → Int} : upA (acM (fillM B 29 50 0) 29 n q F) 30 M = upA (upA B 29 (acM (fillM B 29 50 0) 29 n q F 29)) 30 M := by
  unfold acM fillM
  simp only [upA_upA, upA_self]
theorem er_pl {B : IM} {n q N : Nat} {F : Nat → Nat → Int} {M : Nat → Int} (h : PlI (acM (fillM B 29 50 0) 29 n q F) 29 false n N 0 M) : PlI (upA B 29 (acM (fillM B 29 50 0) 29 n q F 29)) 29 false n N 0 M := by
  have e : upA B 29 (acM (fillM B 29 50 0) 29 n q F 29) = acM (fillM B 29 50 0) 29 n q F := by
    unfold acM fillM
    simp only [upA_upA, upA_self]
  rw [e]; exact h
set_option maxRecDepth 20000 in
set_option maxHeartbeats 400000 in
theorem c_X9_earned0 {X : pX} {I J : IM} {h : Nat} (lw : Lw) (hlw : LawI I lw) (n : Nat) (hn : I 6 0 = n ∧ n ≤ 5) (hr : RgT I n) (hc : CchI I lw n) (m : Mx) (hm : MixC I 17 m) (N : Nat) (hN : N ≤ 9) : KIq X (h + 5) mX9_earned [.ref 27, zi 0, zi (N : Int)] I J (fun z A B => z = mx (gS lw (I 7) (I 8) (I 9) 0 m) false n 0 N ∧ ErnQ I lw n 0 N m A ∧ J = B) := by
  show Rz X (h + 5) mX9_earned 0 [some (.ref 27), some (zi 0), some (zi (N : Int)), none, none] [] I J _
  refine rz_aload_n dX9_earned_0 rfl ?_
  refine rz_getR dX9_earned_1 kf_RX9_9 hd_27 rfl rr_27_0 ?_
  refine rz_cVVq dX9_earned_4 kl_RX9_51 hd_6 ⟨_, _, rfl⟩ (c_X8_settle lw hlw n hn hr hc) rfl rfl (Nat.le_of_ble_eq_true rfl) (Nat.le_of_ble_eq_true rfl) ?_
  rintro B _ ⟨hB, rfl⟩
  obtain ⟨hf1, hf2⟩ := SetQ_fr hB
  have hmB : MixC B 17 m := MixC_of (hf1 17 (by decide) (by decide) (by decide) (by decide)) (hf1 18 (by decide) (by decide) (by decide) (by decide)) (hf1 19 (by decide) (by decide) (by decide) (by decide)) hm
  have hnB : B 6 0 = n ∧ n ≤ 5 := ⟨by rw [hf1 6 (by decide) (by decide) (by decide) (by decide)]; exact hn.1, hn.2⟩
  have hPB := SetQ_pts hB
  have e7 := hf1 7 (by decide) (by decide) (by decide) (by decide)
  have e8 := hf1 8 (by decide) (by decide) (by decide) (by decide)
  have e9 := hf1 9 (by decide) (by decide) (by decide) (by decide)
  have hmo := MixC_ok hm
  have hl8 := lnN_le hmo.1
  refine rz_aload_n dX9_earned_7 rfl ?_
  refine rz_getR dX9_earned_8 kf_RX9_15 hd_27 rfl rr_27_1 ?_
  refine rz_iconst dX9_earned_11 ?_
  refine rz_iload_n dX9_earned_12 rfl ?_
  refine rz_isub dX9_earned_13 ?_
  refine rz_aald (by decide) dX9_earned_14 hd_13 (by decide) (by decide) rr_13_1 ?_
  refine rz_astore_n dX9_earned_15 (by decide) rfl ?_
  refine rz_aload_n dX9_earned_16 rfl ?_
  refine rz_getR dX9_earned_17 kf_RX9_22 hd_27 rfl rr_27_2 ?_
  refine rz_getR dX9_earned_20 kf_RX9_54 hd_28 rfl rr_28_0 ?_
  refine rz_iconst dX9_earned_23 ?_
  refine rz_cSV dX9_earned_24 kl_RX9_57 (c_fill X _ B J 29 50 0 hd_29 (by decide)) rfl rfl (Nat.le_of_ble_eq_true rfl) (Nat.le_of_ble_eq_true rfl) ?_
  refine rz_iconst dX9_earned_27 ?_
  refine rz_istore dX9_earned_28 (by decide) rfl ?_
  refine rz_up (ls := fun q : Nat => [some (.ref 27), some (zi 0), some (zi (N : Int)), some (.ref 17), some (zi (q : Int))]) (IV := fun q : Nat => (acM (fillM B 29 50 0) 29 n q (fun i j => gF lw (B 7) (B 8) (B 9) 0 m i j))) (JV := fun q : Nat => J) ((lnN m)) ⟨Or.inr rfl, Or.inr rfl, Or.inr rfl, Or.inr rfl, Or.inr rfl, trivial⟩ ((acM_0 (fun j hj => by show (fillM B 29 50 0) 29 j = 0; unfold fillM; rw [upA_self, if_pos (by omega)]))) (rfl) ?_ ?_
  · intro q hq ihq
    refine rz_iload dX9_earned_30 rfl ?_
    refine rz_aload_n dX9_earned_32 rfl ?_
    refine rz_cVI dX9_earned_33 kl_RX9_63 hd_17 ⟨_, _, rfl⟩ (c_lines17 X _ (acM (fillM B 29 50 0) 29 n q (fun i j => gF lw (B 7) (B 8) (B 9) 0 m i j)) J (MixC_ln hmB).1) rfl rfl (Nat.le_of_ble_eq_true rfl) (Nat.le_of_ble_eq_true rfl) ?_
    refine rz_ieq (y := (lnN m : Int)) (MixC_ln hmB).2.symm ?_
    refine rz_icmp_ge (t := 53) dX9_earned_36 rfl (by omega) (by omega) (fun c36 => ?_) (fun c36 => ?_)
    · exfalso; omega
    · refine rz_aload_n dX9_earned_39 rfl ?_
      refine rz_iload_n dX9_earned_40 rfl ?_
      refine rz_aload_n dX9_earned_41 rfl ?_
      refine rz_iload dX9_earned_42 rfl ?_
      refine rz_cVV dX9_earned_44 kl_RX9_69 hd_27 ⟨_, _, rfl⟩ (c_X9_addGains0 (I := (acM (fillM B 29 50 0) 29 n q (fun i j => gF lw (B 7) (B 8) (B 9) 0 m i j))) lw n hnB m q hmB (by omega) hPB) rfl rfl (Nat.le_of_ble_eq_true rfl) (Nat.le_of_ble_eq_true rfl) ?_
      refine rz_iinc dX9_earned_47 (by decide) rfl rfl rfl ?_
      refine rz_goto (t := 30) dX9_earned_50 rfl ?_
      exact rz_bk ihq ⟨Or.inr rfl, Or.inr rfl, Or.inr rfl, Or.inr rfl, Or.inr rfl, trivial⟩ (acM_s.symm) (rfl)
  · skip
    refine rz_iload dX9_earned_30 rfl ?_
    refine rz_aload_n dX9_earned_32 rfl ?_
    refine rz_cVI dX9_earned_33 kl_RX9_63 hd_17 ⟨_, _, rfl⟩ (c_lines17 X _ (acM (fillM B 29 50 0) 29 n ((lnN m)) (fun i j => gF lw (B 7) (B 8) (B 9) 0 m i j)) J (MixC_ln hmB).1) rfl rfl (Nat.le_of_ble_eq_true rfl) (Nat.le_of_ble_eq_true rfl) ?_
    refine rz_ieq (y := (lnN m : Int)) (MixC_ln hmB).2.symm ?_
    refine rz_icmp_ge (t := 53) dX9_earned_36 rfl (by omega) (by omega) (fun c36 => ?_) (fun c36 => ?_)
    · have hgs : ∀ v x, v < n → x ≤ 9 → acM (fillM B 29 50 0) 29 n (lnN m) (fun i j => gF lw (B 7) (B 8) (B 9) 0 m i j) 29 (10 * v + x) = gS lw (I 7) (I 8) (I 9) 0 m v x := fun v x hv hx => by rw [acM_at hv hx, e7, e8, e9]
      have hGA : GRg (acM (fillM B 29 50 0) 29 n (lnN m) (fun i j => gF lw (B 7) (B 8) (B 9) 0 m i j)) 29 n := fun v x hv hx => by
        rw [hgs v x hv hx]
        have := gS_rg (lw := lw) (W := I 7) (T := I 8) (U := I 9) (b := 0) (v := v) (x := x) hmo (hr v hv).1
        omega
      refine rz_aload_n dX9_earned_53 rfl ?_
      refine rz_getR dX9_earned_54 kf_RX9_22 hd_27 rfl rr_27_2 ?_
      refine rz_aload_n dX9_earned_57 rfl ?_
      refine rz_getR dX9_earned_58 kf_RX9_9 hd_27 rfl rr_27_0 ?_
      refine rz_getI (z := (n : Int)) dX9_earned_61 kf_RX9_39 hd_6 rfl (hnB.1) ?_
      refine rz_iload_n dX9_earned_64 rfl ?_
      refine rz_iconst dX9_earned_65 ?_
      refine rz_cVIq dX9_earned_66 kl_RX9_73 hd_28 ⟨_, _, rfl⟩ (c_solve28 (I := acM (fillM B 29 50 0) 29 n (lnN m) (fun i j => gF lw (B 7) (B 8) (B 9) 0 m i j)) n N false hn.2 hN hGA) rfl rfl (Nat.le_of_ble_eq_true rfl) (Nat.le_of_ble_eq_true rfl) ?_
      rintro _ _ _ ⟨rfl, ⟨M, rfl, hM⟩, rfl⟩
      refine rz_iret dX9_earned_69 rfl ?_
      exact ⟨_, rfl, mx_congr hgs n 0 N (by omega) hN, ⟨B, _, M, hB, er_eq, hgs, er_pl hM⟩, rfl⟩
    · exfalso; omega
set_option maxRecDepth 20000 in
set_option maxHeartbeats 400000 in
theorem c_X9_earned1 {X : pX} {I J : IM} {h : Nat} (lw : Lw) (hlw : LawI I lw) (n : Nat) (hn : I 6 0 = n ∧ n ≤ 5) (hr : RgT I n) (hc : CchI I lw n) (m : Mx) (hm : MixC I 14 m) (N : Nat) (hN : N ≤ 9) : KIq X (h + 5) mX9_earned [.ref 27, zi 1, zi (N : Int)] I J (fun z A B => z = mx (gS lw (I 7) (I 8) (I 9) 1 m) false n 0 N ∧ ErnQ I lw n 1 N m A ∧ J = B) := by
  show Rz X (h + 5) mX9_earned 0 [some (.ref 27), some (zi 1), some (zi (N : Int)), none, none] [] I J _
  refine rz_aload_n dX9_earned_0 rfl ?_
  refine rz_getR dX9_earned_1 kf_RX9_9 hd_27 rfl rr_27_0 ?_
  refine rz_cVVq dX9_earned_4 kl_RX9_51 hd_6 ⟨_, _, rfl⟩ (c_X8_settle lw hlw n hn hr hc) rfl rfl (Nat.le_of_ble_eq_true rfl) (Nat.le_of_ble_eq_true rfl) ?_
  rintro B _ ⟨hB, rfl⟩
  obtain ⟨hf1, hf2⟩ := SetQ_fr hB
  have hmB : MixC B 14 m := MixC_of (hf1 14 (by decide) (by decide) (by decide) (by decide)) (hf1 15 (by decide) (by decide) (by decide) (by decide)) (hf1 16 (by decide) (by decide) (by decide) (by decide)) hm
  have hnB : B 6 0 = n ∧ n ≤ 5 := ⟨by rw [hf1 6 (by decide) (by decide) (by decide) (by decide)]; exact hn.1, hn.2⟩
  have hPB := SetQ_pts hB
  have e7 := hf1 7 (by decide) (by decide) (by decide) (by decide)
  have e8 := hf1 8 (by decide) (by decide) (by decide) (by decide)
  have e9 := hf1 9 (by decide) (by decide) (by decide) (by decide)
  have hmo := MixC_ok hm
  have hl8 := lnN_le hmo.1
  refine rz_aload_n dX9_earned_7 rfl ?_
  refine rz_getR dX9_earned_8 kf_RX9_15 hd_27 rfl rr_27_1 ?_
  refine rz_iconst dX9_earned_11 ?_
  refine rz_iload_n dX9_earned_12 rfl ?_
  refine rz_isub dX9_earned_13 ?_
  refine rz_aald (by decide) dX9_earned_14 hd_13 (by decide) (by decide) rr_13_0 ?_
  refine rz_astore_n dX9_earned_15 (by decide) rfl ?_
  refine rz_aload_n dX9_earned_16 rfl ?_
  refine rz_getR dX9_earned_17 kf_RX9_22 hd_27 rfl rr_27_2 ?_
  refine rz_getR dX9_earned_20 kf_RX9_54 hd_28 rfl rr_28_0 ?_
  refine rz_iconst dX9_earned_23 ?_
  refine rz_cSV dX9_earned_24 kl_RX9_57 (c_fill X _ B J 29 50 0 hd_29 (by decide)) rfl rfl (Nat.le_of_ble_eq_true rfl) (Nat.le_of_ble_eq_true rfl) ?_
  refine rz_iconst dX9_earned_27 ?_
  refine rz_istore dX9_earned_28 (by decide) rfl ?_
  refine rz_up (ls := fun q : Nat => [some (.ref 27), some (zi 1), some (zi (N : Int)), some (.ref 14), some (zi (q : Int))]) (IV := fun q : Nat => (acM (fillM B 29 50 0) 29 n q (fun i j => gF lw (B 7) (B 8) (B 9) 1 m i j))) (JV := fun q : Nat => J) ((lnN m)) ⟨Or.inr rfl, Or.inr rfl, Or.inr rfl, Or.inr rfl, Or.inr rfl, trivial⟩ ((acM_0 (fun j hj => by show (fillM B 29 50 0) 29 j = 0; unfold fillM; rw [upA_self, if_pos (by omega)]))) (rfl) ?_ ?_
  · intro q hq ihq
    refine rz_iload dX9_earned_30 rfl ?_
    refine rz_aload_n dX9_earned_32 rfl ?_
    refine rz_cVI dX9_earned_33 kl_RX9_63 hd_14 ⟨_, _, rfl⟩ (c_lines14 X _ (acM (fillM B 29 50 0) 29 n q (fun i j => gF lw (B 7) (B 8) (B 9) 1 m i j)) J (MixC_ln hmB).1) rfl rfl (Nat.le_of_ble_eq_true rfl) (Nat.le_of_ble_eq_true rfl) ?_
    refine rz_ieq (y := (lnN m : Int)) (MixC_ln hmB).2.symm ?_
    refine rz_icmp_ge (t := 53) dX9_earned_36 rfl (by omega) (by omega) (fun c36 => ?_) (fun c36 => ?_)
    · exfalso; omega
    · refine rz_aload_n dX9_earned_39 rfl ?_
      refine rz_iload_n dX9_earned_40 rfl ?_
      refine rz_aload_n dX9_earned_41 rfl ?_
      refine rz_iload dX9_earned_42 rfl ?_
      refine rz_cVV dX9_earned_44 kl_RX9_69 hd_27 ⟨_, _, rfl⟩ (c_X9_addGains1 (I := (acM (fillM B 29 50 0) 29 n q (fun i j => gF lw (B 7) (B 8) (B 9) 1 m i j))) lw n hnB m q hmB (by omega) hPB) rfl rfl (Nat.le_of_ble_eq_true rfl) (Nat.le_of_ble_eq_true rfl) ?_
      refine rz_iinc dX9_earned_47 (by decide) rfl rfl rfl ?_
      refine rz_goto (t := 30) dX9_earned_50 rfl ?_
      exact rz_bk ihq ⟨Or.inr rfl, Or.inr rfl, Or.inr rfl, Or.inr rfl, Or.inr rfl, trivial⟩ (acM_s.symm) (rfl)
  · skip
    refine rz_iload dX9_earned_30 rfl ?_
    refine rz_aload_n dX9_earned_32 rfl ?_
    refine rz_cVI dX9_earned_33 kl_RX9_63 hd_14 ⟨_, _, rfl⟩ (c_lines14 X _ (acM (fillM B 29 50 0) 29 n ((lnN m)) (fun i j => gF lw (B 7) (B 8) (B 9) 1 m i j)) J (MixC_ln hmB).1) rfl rfl (Nat.le_of_ble_eq_true rfl) (Nat.le_of_ble_eq_true rfl) ?_
    refine rz_ieq (y := (lnN m : Int)) (MixC_ln hmB).2.symm ?_
    refine rz_icmp_ge (t := 53) dX9_earned_36 rfl (by omega) (by omega) (fun c36 => ?_) (fun c36 => ?_)
    · have hgs : ∀ v x, v < n → x ≤ 9 → acM (fillM B 29 50 0) 29 n (lnN m) (fun i j => gF lw (B 7) (B 8) (B 9) 1 m i j) 29 (10 * v + x) = gS lw (I 7) (I 8) (I 9) 1 m v x := fun v x hv hx => by rw [acM_at hv hx, e7, e8, e9]
      have hGA : GRg (acM (fillM B 29 50 0) 29 n (lnN m) (fun i j => gF lw (B 7) (B 8) (B 9) 1 m i j)) 29 n := fun v x hv hx => by
        rw [hgs v x hv hx]
        have := gS_rg (lw := lw) (W := I 7) (T := I 8) (U := I 9) (b := 1) (v := v) (x := x) hmo (hr v hv).1
        omega
      refine rz_aload_n dX9_earned_53 rfl ?_
      refine rz_getR dX9_earned_54 kf_RX9_22 hd_27 rfl rr_27_2 ?_
      refine rz_aload_n dX9_earned_57 rfl ?_
      refine rz_getR dX9_earned_58 kf_RX9_9 hd_27 rfl rr_27_0 ?_
      refine rz_getI (z := (n : Int)) dX9_earned_61 kf_RX9_39 hd_6 rfl (hnB.1) ?_
      refine rz_iload_n dX9_earned_64 rfl ?_
      refine rz_iconst dX9_earned_65 ?_
      refine rz_cVIq dX9_earned_66 kl_RX9_73 hd_28 ⟨_, _, rfl⟩ (c_solve28 (I := acM (fillM B 29 50 0) 29 n (lnN m) (fun i j => gF lw (B 7) (B 8) (B 9) 1 m i j)) n N false hn.2 hN hGA) rfl rfl (Nat.le_of_ble_eq_true rfl) (Nat.le_of_ble_eq_true rfl) ?_
      rintro _ _ _ ⟨rfl, ⟨M, rfl, hM⟩, rfl⟩
      refine rz_iret dX9_earned_69 rfl ?_
      exact ⟨_, rfl, mx_congr hgs n 0 N (by omega) hN, ⟨B, _, M, hB, er_eq, hgs, er_pl hM⟩, rfl⟩
    · exfalso; omega
theorem Ern_g {I : IM} {lw : Lw} {n b : Nat} {m : Mx} {B : IM} {g M : Nat → Int} (h1 : ∀ v x, v < n → x ≤ 9 → g (10 * v + x) = gS lw (I 7) (I 8) (I 9) b m v x) (hm : MxOK m) (hr : RgT I n) : GRg (upA (upA B 29 g) 30 M) 29 n := fun v x hv hx => by
  have e : upA (upA B 29 g) 30 M 29 (10 * v + x) = g (10 * v + x) := rfl
  rw [e, h1 v x hv hx]
  have := gS_rg (lw := lw) (W := I 7) (T := I 8) (U := I 9) (b := b) (v := v) (x := x) hm (hr v hv).1
  omega
set_option maxRecDepth 20000 in
set_option maxHeartbeats 400000 in
theorem c_X9_bestOf0 {X : pX} {I J : IM} {h : Nat} (lw : Lw) (hlw : LawI I lw) (n : Nat) (hn : I 6 0 = n ∧ n ≤ 5) (hr : RgT I n) (hc : CchI I lw n) (m : Mx) (hm : MixC I 17 m) (N : Nat) (hl : I 10 0 = N ∧ N ≤ 9) : KIq X (h + 6) mX9_bestOf [.ref 27, zi 0] I J (fun z A Bj => z = numP (fun v => (((chsR (gS lw (I 7) (I 8) (I 9) 0 m) n 0 N).getD v 0 : Nat) : Int)) n ∧ (∃ B g M W, SetQ I lw n B ∧ A = upA (upA (upA B 29 g) 30 M) 31 W) ∧ J = Bj) := by
  show Rz X (h + 6) mX9_bestOf 0 [some (.ref 27), some (zi 0), none] [] I J _
  refine rz_aload_n dX9_bestOf_0 rfl ?_
  refine rz_getR dX9_bestOf_1 kf_RX9_9 hd_27 rfl rr_27_0 ?_
  refine rz_getR dX9_bestOf_4 kf_RX9_32 hd_6 rfl rr_6_4 ?_
  refine rz_iload_n dX9_bestOf_7 rfl ?_
  refine rz_iald (z := (N : Int)) dX9_bestOf_8 hd_10 (by decide) (by omega) hl.1 ?_
  refine rz_istore_n dX9_bestOf_9 (by decide) rfl ?_
  refine rz_aload_n dX9_bestOf_10 rfl ?_
  refine rz_iload_n dX9_bestOf_11 rfl ?_
  refine rz_iload_n dX9_bestOf_12 rfl ?_
  refine rz_cVIq dX9_bestOf_13 kl_RX9_35 hd_27 ⟨_, _, rfl⟩ (c_X9_earned0 lw hlw n hn hr hc m hm N hl.2) rfl rfl (Nat.le_of_ble_eq_true rfl) (Nat.le_of_ble_eq_true rfl) ?_
  rintro _ _ _ ⟨rfl, ⟨B, g, M, hB, rfl, hg, hp⟩, rfl⟩
  refine rz_pop dX9_bestOf_16 rfl ?_
  obtain ⟨hf1, hf2⟩ := SetQ_fr hB
  have hnB : B 6 0 = n ∧ n ≤ 5 := ⟨by rw [hf1 6 (by decide) (by decide) (by decide) (by decide)]; exact hn.1, hn.2⟩
  refine rz_aload_n dX9_bestOf_17 rfl ?_
  refine rz_getR dX9_bestOf_18 kf_RX9_22 hd_27 rfl rr_27_2 ?_
  refine rz_aload_n dX9_bestOf_21 rfl ?_
  refine rz_getR dX9_bestOf_22 kf_RX9_9 hd_27 rfl rr_27_0 ?_
  refine rz_getI (z := (n : Int)) dX9_bestOf_25 kf_RX9_39 hd_6 rfl (hnB.1) ?_
  refine rz_iload_n dX9_bestOf_28 rfl ?_
  refine rz_aload_n dX9_bestOf_29 rfl ?_
  refine rz_getR dX9_bestOf_30 kf_RX9_28 hd_27 rfl rr_27_3 ?_
  refine rz_cVVq dX9_bestOf_33 kl_RX9_43 hd_28 ⟨_, _, rfl⟩ (c_choose28 (I := upA (upA B 29 g) 30 M) n N hn.2 hl.2 (Ern_g hg (MixC_ok hm) hr) hp) rfl rfl (Nat.le_of_ble_eq_true rfl) (Nat.le_of_ble_eq_true rfl) ?_
  rintro _ _ ⟨⟨W, rfl, hW⟩, rfl⟩
  refine rz_aload_n dX9_bestOf_36 rfl ?_
  refine rz_getR dX9_bestOf_37 kf_RX9_9 hd_27 rfl rr_27_0 ?_
  refine rz_aload_n dX9_bestOf_40 rfl ?_
  refine rz_getR dX9_bestOf_41 kf_RX9_28 hd_27 rfl rr_27_3 ?_
  refine rz_iconst dX9_bestOf_44 ?_
  refine rz_cVI dX9_bestOf_45 kl_RX9_47 hd_6 ⟨_, _, rfl⟩ (c_numberOf X _ (upA (upA (upA B 29 g) 30 M) 31 W) J n 31 5 0 hnB hd_31 (by decide) (by omega)) rfl rfl (Nat.le_of_ble_eq_true rfl) (Nat.le_of_ble_eq_true rfl) ?_
  refine rz_iret dX9_bestOf_48 rfl ?_
  refine ⟨_, rfl, ?_, ⟨B, g, M, W, hB, rfl⟩, rfl⟩
  have hch : chsR (gI (upA (upA B 29 g) 30 M) 29) n 0 N = (chsR (gS lw (I 7) (I 8) (I 9) 0 m) n 0 N) := chsR_congr (n := n) (fun v x hv hx => hg v x hv hx) n 0 N (by omega) hl.2
  rw [hch] at hW
  refine numP_congr (fun v hv => ?_)
  show W (0 + v) = _
  rw [Nat.zero_add]
  exact hW v hv
set_option maxRecDepth 20000 in
set_option maxHeartbeats 400000 in
theorem c_X9_bestOf1 {X : pX} {I J : IM} {h : Nat} (lw : Lw) (hlw : LawI I lw) (n : Nat) (hn : I 6 0 = n ∧ n ≤ 5) (hr : RgT I n) (hc : CchI I lw n) (m : Mx) (hm : MixC I 14 m) (N : Nat) (hl : I 10 1 = N ∧ N ≤ 9) : KIq X (h + 6) mX9_bestOf [.ref 27, zi 1] I J (fun z A Bj => z = numP (fun v => (((chsR (gS lw (I 7) (I 8) (I 9) 1 m) n 0 N).getD v 0 : Nat) : Int)) n ∧ (∃ B g M W, SetQ I lw n B ∧ A = upA (upA (upA B 29 g) 30 M) 31 W) ∧ J = Bj) := by
  show Rz X (h + 6) mX9_bestOf 0 [some (.ref 27), some (zi 1), none] [] I J _
  refine rz_aload_n dX9_bestOf_0 rfl ?_
  refine rz_getR dX9_bestOf_1 kf_RX9_9 hd_27 rfl rr_27_0 ?_
  refine rz_getR dX9_bestOf_4 kf_RX9_32 hd_6 rfl rr_6_4 ?_
  refine rz_iload_n dX9_bestOf_7 rfl ?_
  refine rz_iald (z := (N : Int)) dX9_bestOf_8 hd_10 (by decide) (by omega) hl.1 ?_
  refine rz_istore_n dX9_bestOf_9 (by decide) rfl ?_
  refine rz_aload_n dX9_bestOf_10 rfl ?_
  refine rz_iload_n dX9_bestOf_11 rfl ?_
  refine rz_iload_n dX9_bestOf_12 rfl ?_
  refine rz_cVIq dX9_bestOf_13 kl_RX9_35 hd_27 ⟨_, _, rfl⟩ (c_X9_earned1 lw hlw n hn hr hc m hm N hl.2) rfl rfl (Nat.le_of_ble_eq_true rfl) (Nat.le_of_ble_eq_true rfl) ?_
  rintro _ _ _ ⟨rfl, ⟨B, g, M, hB, rfl, hg, hp⟩, rfl⟩
  refine rz_pop dX9_bestOf_16 rfl ?_
  obtain ⟨hf1, hf2⟩ := SetQ_fr hB
  have hnB : B 6 0 = n ∧ n ≤ 5 := ⟨by rw [hf1 6 (by decide) (by decide) (by decide) (by decide)]; exact hn.1, hn.2⟩
  refine rz_aload_n dX9_bestOf_17 rfl ?_
  refine rz_getR dX9_bestOf_18 kf_RX9_22 hd_27 rfl rr_27_2 ?_
  refine rz_aload_n dX9_bestOf_21 rfl ?_
  refine rz_getR dX9_bestOf_22 kf_RX9_9 hd_27 rfl rr_27_0 ?_
  refine rz_getI (z := (n : Int)) dX9_bestOf_25 kf_RX9_39 hd_6 rfl (hnB.1) ?_
  refine rz_iload_n dX9_bestOf_28 rfl ?_
  refine rz_aload_n dX9_bestOf_29 rfl ?_
  refine rz_getR dX9_bestOf_30 kf_RX9_28 hd_27 rfl rr_27_3 ?_
  refine rz_cVVq dX9_bestOf_33 kl_RX9_43 hd_28 ⟨_, _, rfl⟩ (c_choose28 (I := upA (upA B 29 g) 30 M) n N hn.2 hl.2 (Ern_g hg (MixC_ok hm) hr) hp) rfl rfl (Nat.le_of_ble_eq_true rfl) (Nat.le_of_ble_eq_true rfl) ?_
  rintro _ _ ⟨⟨W, rfl, hW⟩, rfl⟩
  refine rz_aload_n dX9_bestOf_36 rfl ?_
  refine rz_getR dX9_bestOf_37 kf_RX9_9 hd_27 rfl rr_27_0 ?_
  refine rz_aload_n dX9_bestOf_40 rfl ?_
  refine rz_getR dX9_bestOf_41 kf_RX9_28 hd_27 rfl rr_27_3 ?_
  refine rz_iconst dX9_bestOf_44 ?_
  refine rz_cVI dX9_bestOf_45 kl_RX9_47 hd_6 ⟨_, _, rfl⟩ (c_numberOf X _ (upA (upA (upA B 29 g) 30 M) 31 W) J n 31 5 0 hnB hd_31 (by decide) (by omega)) rfl rfl (Nat.le_of_ble_eq_true rfl) (Nat.le_of_ble_eq_true rfl) ?_
  refine rz_iret dX9_bestOf_48 rfl ?_
  refine ⟨_, rfl, ?_, ⟨B, g, M, W, hB, rfl⟩, rfl⟩
  have hch : chsR (gI (upA (upA B 29 g) 30 M) 29) n 0 N = (chsR (gS lw (I 7) (I 8) (I 9) 1 m) n 0 N) := chsR_congr (n := n) (fun v x hv hx => hg v x hv hx) n 0 N (by omega) hl.2
  rw [hch] at hW
  refine numP_congr (fun v hv => ?_)
  show W (0 + v) = _
  rw [Nat.zero_add]
  exact hW v hv
