/-! best and line, both sides -/
abbrev scCC (a : Nat) : Prop := a = 1 ∨ a = 3 ∨ a = 5 ∨ a = 11 ∨ a = 12 ∨ (28 ≤ a ∧ a ≤ 57) ∨ a = 79 ∨ a = 80
def FrC (I A : IM) : Prop := (∀ a, ¬ scCC a → A a = I a) ∧ ∀ k, k = 0 ∨ k = 7 → A 1 k = I 1 k
def QC (I : IM) (lw : Lw) (n : Nat) (A : IM) : Prop := FrC I A ∧ CchI A lw n
theorem QC_refl {I : IM} {lw : Lw} {n : Nat} (hc : CchI I lw n) : QC I lw n I := ⟨⟨fun _ _ => rfl, fun _ _ => rfl⟩, hc⟩
theorem QC_set {I A : IM} {lw : Lw} {n : Nat} (hc : CchI I lw n) (h : SetQ I lw n A) : QC I lw n A := by
  obtain ⟨h1, h2⟩ := SetQ_fr h
  exact ⟨⟨fun a ha => h1 a (by omega) (by omega) (by omega) (by omega), fun k hk => h2 k (by omega)⟩, SetQ_c hc h⟩
theorem CchI_of {I A : IM} {lw : Lw} {n : Nat} (h7 : A 7 = I 7) (h8 : A 8 = I 8) (h9 : A 9 = I 9) (h11 : A 11 = I 11) (h12 : A 12 = I 12) (h : CchI I lw n) : CchI A lw n := by
  unfold CchI
  rw [h7, h8, h9, h11, h12]; exact h
theorem QC_up {I A : IM} {lw : Lw} {n a : Nat} {g : Nat → Int} (ha : (28 ≤ a ∧ a ≤ 57) ∨ a = 79 ∨ a = 80 ∨ a = 3 ∨ a = 5) (h : QC I lw n A) : QC I lw n (upA A a g) := by
  have e : ∀ b, b ≠ a → upA A a g b = A b := fun b hb => by unfold upA; rw [if_neg hb]
  refine ⟨⟨fun b hb => ?_, fun k hk => ?_⟩, CchI_of (e 7 (by omega)) (e 8 (by omega)) (e 9 (by omega)) (e 11 (by omega)) (e 12 (by omega)) h.2⟩
  · rw [e b (by omega)]; exact h.1.1 b hb
  · rw [e 1 (by omega)]; exact h.1.2 k hk
theorem QC_scr {I : IM} {lw : Lw} {n : Nat} {z : Int} {F : Nat → Int} (hc : CchI I lw n) : QC I lw n (scr I z F) := by
  refine ⟨⟨fun b hb => ?_, fun k hk => ?_⟩, CchI_of rfl rfl rfl rfl rfl hc⟩
  · unfold scr upA; rw [if_neg (by omega), if_neg (by omega)]
  · show up1 (I 1) 9 z k = _
    exact up1_ne (by omega)
/-- what a question needs -/
def CqI (I : IM) (lw : Lw) (n : Nat) (m0 m1 : Mx) : Prop := LawI I lw ∧ (I 6 0 = n ∧ n ≤ 5) ∧ RgT I n ∧ CchI I lw n ∧ MixC I 14 m0 ∧ MixC I 17 m1 ∧ ∀ b : Nat, b < 2 → 0 ≤ I 10 b ∧ I 10 b ≤ 9
def RqI (I : IM) (lw : Lw) (n : Nat) (m0 m1 : Mx) : Prop := LawI I lw ∧ (I 81 1 = n ∧ n ≤ 5) ∧ RgTR I n ∧ MixR I 0 m0 ∧ MixR I 1 m1 ∧ ∀ b : Nat, b < 2 → 0 ≤ I 85 b ∧ I 85 b ≤ 9
def besZ (lw : Lw) (W T U Q : Nat → Int) (n : Nat) (m0 m1 : Mx) (b : Int) : Int := if b = 0 then numP (fun v => (((chsR (gS lw W T U 0 m1) n 0 (Q 0).toNat).getD v 0 : Nat) : Int)) n else if b = 1 then numP (fun v => (((chsR (gS lw W T U 1 m0) n 0 (Q 1).toNat).getD v 0 : Nat) : Int)) n else -1
def whS (m : Mx) : Int := if m.1 = 0 then 1 else sumP m.2.1 m.1
theorem whS_rg {m : Mx} (h : MxOK m) : 1 ≤ whS m ∧ whS m ≤ 72 := by
  unfold whS
  by_cases e : m.1 = 0
  · rw [if_pos e]; omega
  · rw [if_neg e]
    have key : ∀ k, k ≤ m.1 → (k : Int) ≤ sumP m.2.1 k ∧ sumP m.2.1 k ≤ 9 * k := by
      intro k
      induction k with
      | zero => intro _; simp [sumP]
      | succ k ih =>
        intro hk
        have h1 := ih (by omega)
        have h2 := (h.2 k (by omega)).1
        simp only [sumP]
        omega
    have := key m.1 (Nat.le_refl _)
    have := h.1
    omega
theorem MixC_wh {I : IM} {o : Nat} {m : Mx} (h : MixC I o m) : (if m.1 = 0 then 1 else sumP (I (o + 1)) m.1) = whS m := by
  unfold whS
  by_cases e : m.1 = 0
  · rw [if_pos e, if_pos e]
  · rw [if_neg e, if_neg e]; exact sumP_congr (fun i hi => (h.2 i hi).1.1)
theorem MixR_wh {I : IM} {b : Nat} {m : Mx} (h : MixR I b m) : (if (1 : Int) = 1 ∧ m.1 = 0 then 1 else sumP (fun k => I 87 (8 * b + k)) m.1) = whS m := by
  unfold whS
  by_cases e : m.1 = 0
  · rw [if_pos ⟨rfl, e⟩, if_pos e]
  · rw [if_neg (fun q => e q.2), if_neg e]; exact sumP_congr (fun i hi => (h.2 i hi).1.1)
/-- what so many loaves are worth, k of them below 0 being all -/
def linZ2 (lw : Lw) (W T U Q : Nat → Int) (n : Nat) (m0 m1 : Mx) (b k p : Int) : Int := if (b = 0 ∨ b = 1) ∧ (-1 ≤ k ∧ k ≤ 9) ∧ (p = 0 ∨ p = 1) then (if b = 0 then lowQ (mx (gS lw W T U 0 m1) false n 0 (if k < 0 then Q 0 else k).toNat) (whS m1) p else lowQ (mx (gS lw W T U 1 m0) false n 0 (if k < 0 then Q 1 else k).toNat) (whS m0) p) else -9223372036854775808
theorem mx_bd {lw : Lw} {W T U : Nat → Int} {b n N : Nat} {m : Mx} (hn : n ≤ 5) (hN : N ≤ 9) (hm : MxOK m) (hW : ∀ v, v < n → 0 ≤ W v ∧ W v ≤ 9) : -1000000 ≤ mx (gS lw W T U b m) false n 0 N ∧ mx (gS lw W T U b m) false n 0 N ≤ 5000 := by
  have h := mx_rg (g := gS lw W T U b m) (all := false) (G := 1000) (n := n) (by omega) (fun v x hv hx => (gS_rg hm (hW v hv)).2) n 0 N (by omega) hN
  omega
set_option maxRecDepth 20000 in
set_option maxHeartbeats 400000 in
theorem best_c0 {X : pX} {I J : IM} {h : Nat} {lw : Lw} {n : Nat} {m0 m1 : Mx} (hq : CqI I lw n m0 m1) : KIq X (h + 7) mX11_best [.ref 0, zi 0] I J (fun z A B => z = besZ lw (I 7) (I 8) (I 9) (I 10) n m0 m1 0 ∧ QC I lw n A ∧ J = B) := by
  obtain ⟨h1, h2, h3, h4, h5, h6, h7⟩ := hq
  have h8 := h7 0 (by decide)
  show Rz X (h + 7) mX11_best 0 [some (.ref 0), some (zi 0)] [] I J _
  refine rz_iload_n dX11_best_0 rfl ?_
  refine rz_cSIq dX11_best_1 kl_RX11_112 (c_X11_isBaker X _ I J 0 (by omega)) rfl rfl (Nat.le_of_ble_eq_true rfl) (Nat.le_of_ble_eq_true rfl) ?_
  rintro z1 A1 B1 ⟨⟨rfl, b1⟩ | ⟨rfl, b1⟩, rfl, rfl⟩
  · refine rz_if_eq (t := 18) dX11_best_4 rfl (by omega) (fun q => absurd q (by decide)) (fun _ => ?_)
    refine rz_aload_n dX11_best_7 rfl ?_
    refine rz_getR dX11_best_8 kf_RX11_40 hd_0 rfl rr_0_5 ?_
    refine rz_iload_n dX11_best_11 rfl ?_
    refine rz_cVIq dX11_best_12 kl_RX11_199 hd_27 ⟨_, _, rfl⟩ (c_X9_bestOf0 lw h1 n h2 h3 h4 m1 h6 (I 10 0).toNat ⟨by omega, by omega⟩) rfl rfl (Nat.le_of_ble_eq_true rfl) (Nat.le_of_ble_eq_true rfl) ?_
    rintro _ _ _ ⟨rfl, ⟨B, g, M, W, hB, rfl⟩, rfl⟩
    refine rz_goto (t := 19) dX11_best_15 rfl ?_
    refine rz_iret dX11_best_19 rfl ?_
    exact ⟨_, rfl, (if_pos rfl).symm, QC_up (by decide) (QC_up (by decide) (QC_up (by decide) (QC_set h4 hB))), rfl⟩
  · exfalso; omega
set_option maxRecDepth 20000 in
set_option maxHeartbeats 400000 in
theorem best_c1 {X : pX} {I J : IM} {h : Nat} {lw : Lw} {n : Nat} {m0 m1 : Mx} (hq : CqI I lw n m0 m1) : KIq X (h + 7) mX11_best [.ref 0, zi 1] I J (fun z A B => z = besZ lw (I 7) (I 8) (I 9) (I 10) n m0 m1 1 ∧ QC I lw n A ∧ J = B) := by
  obtain ⟨h1, h2, h3, h4, h5, h6, h7⟩ := hq
  have h8 := h7 1 (by decide)
  show Rz X (h + 7) mX11_best 0 [some (.ref 0), some (zi 1)] [] I J _
  refine rz_iload_n dX11_best_0 rfl ?_
  refine rz_cSIq dX11_best_1 kl_RX11_112 (c_X11_isBaker X _ I J 1 (by omega)) rfl rfl (Nat.le_of_ble_eq_true rfl) (Nat.le_of_ble_eq_true rfl) ?_
  rintro z1 A1 B1 ⟨⟨rfl, b1⟩ | ⟨rfl, b1⟩, rfl, rfl⟩
  · refine rz_if_eq (t := 18) dX11_best_4 rfl (by omega) (fun q => absurd q (by decide)) (fun _ => ?_)
    refine rz_aload_n dX11_best_7 rfl ?_
    refine rz_getR dX11_best_8 kf_RX11_40 hd_0 rfl rr_0_5 ?_
    refine rz_iload_n dX11_best_11 rfl ?_
    refine rz_cVIq dX11_best_12 kl_RX11_199 hd_27 ⟨_, _, rfl⟩ (c_X9_bestOf1 lw h1 n h2 h3 h4 m0 h5 (I 10 1).toNat ⟨by omega, by omega⟩) rfl rfl (Nat.le_of_ble_eq_true rfl) (Nat.le_of_ble_eq_true rfl) ?_
    rintro _ _ _ ⟨rfl, ⟨B, g, M, W, hB, rfl⟩, rfl⟩
    refine rz_goto (t := 19) dX11_best_15 rfl ?_
    refine rz_iret dX11_best_19 rfl ?_
    exact ⟨_, rfl, ((if_neg (by decide)).trans (if_pos rfl)).symm, QC_up (by decide) (QC_up (by decide) (QC_up (by decide) (QC_set h4 hB))), rfl⟩
  · exfalso; omega
set_option maxRecDepth 20000 in
set_option maxHeartbeats 400000 in
theorem best_cn {X : pX} {I J : IM} {h : Nat} {lw : Lw} {n : Nat} {m0 m1 : Mx} (hq : CqI I lw n m0 m1) (b : Int) (hb : rg b) (h01 : b ≠ 0 ∧ b ≠ 1) : KIq X (h + 7) mX11_best [.ref 0, zi b] I J (fun z A B => z = besZ lw (I 7) (I 8) (I 9) (I 10) n m0 m1 b ∧ QC I lw n A ∧ J = B) := by
  show Rz X (h + 7) mX11_best 0 [some (.ref 0), some (zi b)] [] I J _
  refine rz_iload_n dX11_best_0 rfl ?_
  refine rz_cSIq dX11_best_1 kl_RX11_112 (c_X11_isBaker X _ I J b (by omega)) rfl rfl (Nat.le_of_ble_eq_true rfl) (Nat.le_of_ble_eq_true rfl) ?_
  rintro z1 A1 B1 ⟨⟨rfl, b1⟩ | ⟨rfl, b1⟩, rfl, rfl⟩
  · exfalso; omega
  · refine rz_if_eq (t := 18) dX11_best_4 rfl (by omega) (fun _ => ?_) (fun q => absurd q (by decide))
    refine rz_iconst dX11_best_18 ?_
    refine rz_iret dX11_best_19 rfl ?_
    exact ⟨_, rfl, ((if_neg (by omega)).trans (if_neg (by omega))).symm, QC_refl hq.2.2.2.1, rfl⟩
theorem c_X11_best {X : pX} {I J : IM} {h : Nat} {lw : Lw} {n : Nat} {m0 m1 : Mx} (hq : CqI I lw n m0 m1) (b : Int) (hb : rg b) : KIq X (h + 7) mX11_best [.ref 0, zi b] I J (fun z A B => z = besZ lw (I 7) (I 8) (I 9) (I 10) n m0 m1 b ∧ QC I lw n A ∧ J = B) := by
  by_cases e0 : b = 0
  · subst e0; exact best_c0 hq
  · by_cases e1 : b = 1
    · subst e1; exact best_c1 hq
    · exact best_cn hq b hb ⟨e0, e1⟩
set_option maxRecDepth 20000 in
set_option maxHeartbeats 400000 in
theorem best_r0 {X : pX} {I J : IM} {h : Nat} {lw : Lw} {n : Nat} {m0 m1 : Mx} (hq : RqI I lw n m0 m1) : KIq X (h + 7) mX12_best [.ref 81, zi 0] I J (fun z A B => z = besZ lw (I 82) (I 83) (I 84) (I 85) n m0 m1 0 ∧ FrR I A ∧ J = B) := by
  obtain ⟨h1, h2, h3, h5, h6, h7⟩ := hq
  have h8 := h7 0 (by decide)
  show Rz X (h + 7) mX12_best 0 [some (.ref 81), some (zi 0)] [] I J _
  refine rz_iload_n dX12_best_0 rfl ?_
  refine rz_cSIq dX12_best_1 kl_RX12_158 (c_X12_isBaker X _ I J 0 (by omega)) rfl rfl (Nat.le_of_ble_eq_true rfl) (Nat.le_of_ble_eq_true rfl) ?_
  rintro z1 A1 B1 ⟨⟨rfl, b1⟩ | ⟨rfl, b1⟩, rfl, rfl⟩
  · refine rz_if_ne (t := 9) dX12_best_4 rfl (by omega) (fun _ => ?_) (fun q => absurd q (by decide))
    refine rz_aload_n dX12_best_9 rfl ?_
    refine rz_cVVq dX12_best_10 kl_RX12_257 hd_81 ⟨_, _, rfl⟩ (c_X12_findHas lw h1 n h2 h3) rfl rfl (Nat.le_of_ble_eq_true rfl) (Nat.le_of_ble_eq_true rfl) ?_
    rintro B _ ⟨hB, rfl⟩
    have hf := FhQ_fr hB
    have hH := FhQ_has hB
    have hnB : B 81 1 = n ∧ n ≤ 5 := ⟨by rw [hf 81 (by decide) (by decide) (by decide)]; exact h2.1, h2.2⟩
    have hmB : MixR B 1 m1 := MixR_of (hf 86 (by decide) (by decide) (by decide)) (hf 87 (by decide) (by decide) (by decide)) (hf 88 (by decide) (by decide) (by decide)) h6
    have e82 := hf 82 (by decide) (by decide) (by decide)
    have e83 := hf 83 (by decide) (by decide) (by decide)
    have e84 := hf 84 (by decide) (by decide) (by decide)
    have e85 := hf 85 (by decide) (by decide) (by decide)
    have hmo := MixR_ok hmB
    refine rz_aload_n dX12_best_13 rfl ?_
    refine rz_iload_n dX12_best_14 rfl ?_
    refine rz_cVV dX12_best_15 kl_RX12_319 hd_81 ⟨_, _, rfl⟩ (c_X12_findGains0 lw n hnB m1 hmB hH) rfl rfl (Nat.le_of_ble_eq_true rfl) (Nat.le_of_ble_eq_true rfl) ?_
    refine rz_aload_n dX12_best_18 rfl ?_
    refine rz_aload_n dX12_best_19 rfl ?_
    refine rz_getR dX12_best_20 kf_RX12_19 hd_81 rfl rr_81_5 ?_
    refine rz_iload_n dX12_best_23 rfl ?_
    refine rz_iald (z := ((I 85 0).toNat : Int)) dX12_best_24 hd_85 (by decide) (by omega) (by show B 85 0 = _; rw [e85]; omega) ?_
    refine rz_iconst dX12_best_25 ?_
    refine rz_cVVq dX12_best_26 kl_RX12_270 hd_81 ⟨_, _, rfl⟩ (c_X12_findRows (I := (acM (fillM B 106 50 0) 106 n (lnN m1) (fun i j => gF lw (B 82) (B 83) (B 84) 0 m1 i j))) n hnB (I 85 0).toNat false (by omega) (rows_cnt n h2.2 (I 85 0).toNat (by omega)).1) rfl rfl (Nat.le_of_ble_eq_true rfl) (Nat.le_of_ble_eq_true rfl) ?_
    rintro _ _ ⟨⟨R, W, rfl, hR, hRb⟩, rfl⟩
    have hgs : ∀ v x, v < n → x ≤ 9 → (acM (fillM B 106 50 0) 106 n (lnN m1) (fun i j => gF lw (B 82) (B 83) (B 84) 0 m1 i j)) 106 (10 * v + x) = gS lw (I 82) (I 83) (I 84) 0 m1 v x := fun v x hv hx => by rw [acM_at hv hx, e82, e83, e84]
    have hGA : GRg (layM (acM (fillM B 106 50 0) 106 n (lnN m1) (fun i j => gF lw (B 82) (B 83) (B 84) 0 m1 i j)) (rowsL n (I 85 0).toNat false).length R W) 106 n := fun v x hv hx => by
      have e : (layM (acM (fillM B 106 50 0) 106 n (lnN m1) (fun i j => gF lw (B 82) (B 83) (B 84) 0 m1 i j)) (rowsL n (I 85 0).toNat false).length R W) 106 (10 * v + x) = gS lw (I 82) (I 83) (I 84) 0 m1 v x := hgs v x hv hx
      rw [e]
      have := gS_rg (lw := lw) (W := I 82) (T := I 83) (U := I 84) (b := 0) (v := v) (x := x) hmo (h3 v hv).1
      omega
    refine rz_aload_n dX12_best_29 rfl ?_
    refine rz_cVVq dX12_best_30 kl_RX12_323 hd_81 ⟨_, _, rfl⟩ (c_X12_findBest (I := (layM (acM (fillM B 106 50 0) 106 n (lnN m1) (fun i j => gF lw (B 82) (B 83) (B 84) 0 m1 i j)) (rowsL n (I 85 0).toNat false).length R W)) n hnB (rowsL n (I 85 0).toNat false) rfl (rows_cnt n h2.2 (I 85 0).toNat (by omega)).1 (rowsL_ok (by omega)) hR hGA) rfl rfl (Nat.le_of_ble_eq_true rfl) (Nat.le_of_ble_eq_true rfl) ?_
    rintro _ _ ⟨⟨bb, g, rfl, hFb⟩, rfl⟩
    obtain ⟨hg1, j, rfl, hj⟩ := fb_done h2.2 (by omega) hGA hFb
    have hg2 : g = mx (gS lw (I 82) (I 83) (I 84) 0 m1) false n 0 (I 85 0).toNat := hg1.trans (mx_congr (n := n) (fun v x hv hx => hgs v x hv hx) n 0 (I 85 0).toNat (by omega) (by omega))
    have hch : chsR (gI (layM (acM (fillM B 106 50 0) 106 n (lnN m1) (fun i j => gF lw (B 82) (B 83) (B 84) 0 m1 i j)) (rowsL n (I 85 0).toNat false).length R W) 106) n 0 (I 85 0).toNat = chsR (gS lw (I 82) (I 83) (I 84) 0 m1) n 0 (I 85 0).toNat := chsR_congr (n := n) (fun v x hv hx => hgs v x hv hx) n 0 (I 85 0).toNat (by omega) (by omega)
    have hFr : FrR I (fbM (layM (acM (fillM B 106 50 0) 106 n (lnN m1) (fun i j => gF lw (B 82) (B 83) (B 84) 0 m1 i j)) (rowsL n (I 85 0).toNat false).length R W) (j : Int) g) := FrR.trans (FrR_fh hB) (FrR.trans FrR_ac (FrR.trans (FrR_lay hRb) FrR_fb))
    refine rz_aload_n dX12_best_33 rfl ?_
    refine rz_aload_n dX12_best_34 rfl ?_
    refine rz_getI (z := (j : Int)) dX12_best_35 kf_RX12_297 hd_81 rfl (rfl) ?_
    refine rz_cVI dX12_best_38 kl_RX12_326 hd_81 ⟨_, _, rfl⟩ (c_X12_numberOf X _ (fbM (layM (acM (fillM B 106 50 0) 106 n (lnN m1) (fun i j => gF lw (B 82) (B 83) (B 84) 0 m1 i j)) (rowsL n (I 85 0).toNat false).length R W) (j : Int) g) J n j hnB (by have := (List.getElem?_eq_some_iff.mp hj).1; have := (rows_cnt n h2.2 (I 85 0).toNat (by omega)).1; omega)) rfl rfl (Nat.le_of_ble_eq_true rfl) (Nat.le_of_ble_eq_true rfl) ?_
    refine rz_iret dX12_best_41 rfl ?_
    refine ⟨_, rfl, ?_, hFr, rfl⟩
    refine Eq.trans (numP_congr (fun v hv => ?_)) (if_pos rfl).symm
    show R (5 * j + v) = _
    rw [hR j _ hj v hv, hch]
  · exfalso; omega
set_option maxRecDepth 20000 in
set_option maxHeartbeats 400000 in
theorem best_r1 {X : pX} {I J : IM} {h : Nat} {lw : Lw} {n : Nat} {m0 m1 : Mx} (hq : RqI I lw n m0 m1) : KIq X (h + 7) mX12_best [.ref 81, zi 1] I J (fun z A B => z = besZ lw (I 82) (I 83) (I 84) (I 85) n m0 m1 1 ∧ FrR I A ∧ J = B) := by
  obtain ⟨h1, h2, h3, h5, h6, h7⟩ := hq
  have h8 := h7 1 (by decide)
  show Rz X (h + 7) mX12_best 0 [some (.ref 81), some (zi 1)] [] I J _
  refine rz_iload_n dX12_best_0 rfl ?_
  refine rz_cSIq dX12_best_1 kl_RX12_158 (c_X12_isBaker X _ I J 1 (by omega)) rfl rfl (Nat.le_of_ble_eq_true rfl) (Nat.le_of_ble_eq_true rfl) ?_
  rintro z1 A1 B1 ⟨⟨rfl, b1⟩ | ⟨rfl, b1⟩, rfl, rfl⟩
  · refine rz_if_ne (t := 9) dX12_best_4 rfl (by omega) (fun _ => ?_) (fun q => absurd q (by decide))
    refine rz_aload_n dX12_best_9 rfl ?_
    refine rz_cVVq dX12_best_10 kl_RX12_257 hd_81 ⟨_, _, rfl⟩ (c_X12_findHas lw h1 n h2 h3) rfl rfl (Nat.le_of_ble_eq_true rfl) (Nat.le_of_ble_eq_true rfl) ?_
    rintro B _ ⟨hB, rfl⟩
    have hf := FhQ_fr hB
    have hH := FhQ_has hB
    have hnB : B 81 1 = n ∧ n ≤ 5 := ⟨by rw [hf 81 (by decide) (by decide) (by decide)]; exact h2.1, h2.2⟩
    have hmB : MixR B 0 m0 := MixR_of (hf 86 (by decide) (by decide) (by decide)) (hf 87 (by decide) (by decide) (by decide)) (hf 88 (by decide) (by decide) (by decide)) h5
    have e82 := hf 82 (by decide) (by decide) (by decide)
    have e83 := hf 83 (by decide) (by decide) (by decide)
    have e84 := hf 84 (by decide) (by decide) (by decide)
    have e85 := hf 85 (by decide) (by decide) (by decide)
    have hmo := MixR_ok hmB
    refine rz_aload_n dX12_best_13 rfl ?_
    refine rz_iload_n dX12_best_14 rfl ?_
    refine rz_cVV dX12_best_15 kl_RX12_319 hd_81 ⟨_, _, rfl⟩ (c_X12_findGains1 lw n hnB m0 hmB hH) rfl rfl (Nat.le_of_ble_eq_true rfl) (Nat.le_of_ble_eq_true rfl) ?_
    refine rz_aload_n dX12_best_18 rfl ?_
    refine rz_aload_n dX12_best_19 rfl ?_
    refine rz_getR dX12_best_20 kf_RX12_19 hd_81 rfl rr_81_5 ?_
    refine rz_iload_n dX12_best_23 rfl ?_
    refine rz_iald (z := ((I 85 1).toNat : Int)) dX12_best_24 hd_85 (by decide) (by omega) (by show B 85 1 = _; rw [e85]; omega) ?_
    refine rz_iconst dX12_best_25 ?_
    refine rz_cVVq dX12_best_26 kl_RX12_270 hd_81 ⟨_, _, rfl⟩ (c_X12_findRows (I := (acM (fillM B 106 50 0) 106 n (lnN m0) (fun i j => gF lw (B 82) (B 83) (B 84) 1 m0 i j))) n hnB (I 85 1).toNat false (by omega) (rows_cnt n h2.2 (I 85 1).toNat (by omega)).1) rfl rfl (Nat.le_of_ble_eq_true rfl) (Nat.le_of_ble_eq_true rfl) ?_
    rintro _ _ ⟨⟨R, W, rfl, hR, hRb⟩, rfl⟩
    have hgs : ∀ v x, v < n → x ≤ 9 → (acM (fillM B 106 50 0) 106 n (lnN m0) (fun i j => gF lw (B 82) (B 83) (B 84) 1 m0 i j)) 106 (10 * v + x) = gS lw (I 82) (I 83) (I 84) 1 m0 v x := fun v x hv hx => by rw [acM_at hv hx, e82, e83, e84]
    have hGA : GRg (layM (acM (fillM B 106 50 0) 106 n (lnN m0) (fun i j => gF lw (B 82) (B 83) (B 84) 1 m0 i j)) (rowsL n (I 85 1).toNat false).length R W) 106 n := fun v x hv hx => by
      have e : (layM (acM (fillM B 106 50 0) 106 n (lnN m0) (fun i j => gF lw (B 82) (B 83) (B 84) 1 m0 i j)) (rowsL n (I 85 1).toNat false).length R W) 106 (10 * v + x) = gS lw (I 82) (I 83) (I 84) 1 m0 v x := hgs v x hv hx
      rw [e]
      have := gS_rg (lw := lw) (W := I 82) (T := I 83) (U := I 84) (b := 1) (v := v) (x := x) hmo (h3 v hv).1
      omega
    refine rz_aload_n dX12_best_29 rfl ?_
    refine rz_cVVq dX12_best_30 kl_RX12_323 hd_81 ⟨_, _, rfl⟩ (c_X12_findBest (I := (layM (acM (fillM B 106 50 0) 106 n (lnN m0) (fun i j => gF lw (B 82) (B 83) (B 84) 1 m0 i j)) (rowsL n (I 85 1).toNat false).length R W)) n hnB (rowsL n (I 85 1).toNat false) rfl (rows_cnt n h2.2 (I 85 1).toNat (by omega)).1 (rowsL_ok (by omega)) hR hGA) rfl rfl (Nat.le_of_ble_eq_true rfl) (Nat.le_of_ble_eq_true rfl) ?_
    rintro _ _ ⟨⟨bb, g, rfl, hFb⟩, rfl⟩
    obtain ⟨hg1, j, rfl, hj⟩ := fb_done h2.2 (by omega) hGA hFb
    have hg2 : g = mx (gS lw (I 82) (I 83) (I 84) 1 m0) false n 0 (I 85 1).toNat := hg1.trans (mx_congr (n := n) (fun v x hv hx => hgs v x hv hx) n 0 (I 85 1).toNat (by omega) (by omega))
    have hch : chsR (gI (layM (acM (fillM B 106 50 0) 106 n (lnN m0) (fun i j => gF lw (B 82) (B 83) (B 84) 1 m0 i j)) (rowsL n (I 85 1).toNat false).length R W) 106) n 0 (I 85 1).toNat = chsR (gS lw (I 82) (I 83) (I 84) 1 m0) n 0 (I 85 1).toNat := chsR_congr (n := n) (fun v x hv hx => hgs v x hv hx) n 0 (I 85 1).toNat (by omega) (by omega)
    have hFr : FrR I (fbM (layM (acM (fillM B 106 50 0) 106 n (lnN m0) (fun i j => gF lw (B 82) (B 83) (B 84) 1 m0 i j)) (rowsL n (I 85 1).toNat false).length R W) (j : Int) g) := FrR.trans (FrR_fh hB) (FrR.trans FrR_ac (FrR.trans (FrR_lay hRb) FrR_fb))
    refine rz_aload_n dX12_best_33 rfl ?_
    refine rz_aload_n dX12_best_34 rfl ?_
    refine rz_getI (z := (j : Int)) dX12_best_35 kf_RX12_297 hd_81 rfl (rfl) ?_
    refine rz_cVI dX12_best_38 kl_RX12_326 hd_81 ⟨_, _, rfl⟩ (c_X12_numberOf X _ (fbM (layM (acM (fillM B 106 50 0) 106 n (lnN m0) (fun i j => gF lw (B 82) (B 83) (B 84) 1 m0 i j)) (rowsL n (I 85 1).toNat false).length R W) (j : Int) g) J n j hnB (by have := (List.getElem?_eq_some_iff.mp hj).1; have := (rows_cnt n h2.2 (I 85 1).toNat (by omega)).1; omega)) rfl rfl (Nat.le_of_ble_eq_true rfl) (Nat.le_of_ble_eq_true rfl) ?_
    refine rz_iret dX12_best_41 rfl ?_
    refine ⟨_, rfl, ?_, hFr, rfl⟩
    refine Eq.trans (numP_congr (fun v hv => ?_)) ((if_neg (by decide)).trans (if_pos rfl)).symm
    show R (5 * j + v) = _
    rw [hR j _ hj v hv, hch]
  · exfalso; omega
set_option maxRecDepth 20000 in
set_option maxHeartbeats 400000 in
theorem best_rn {X : pX} {I J : IM} {h : Nat} {lw : Lw} {n : Nat} {m0 m1 : Mx} (b : Int) (hb : rg b) (h01 : b ≠ 0 ∧ b ≠ 1) : KIq X (h + 7) mX12_best [.ref 81, zi b] I J (fun z A B => z = besZ lw (I 82) (I 83) (I 84) (I 85) n m0 m1 b ∧ FrR I A ∧ J = B) := by
  show Rz X (h + 7) mX12_best 0 [some (.ref 81), some (zi b)] [] I J _
  refine rz_iload_n dX12_best_0 rfl ?_
  refine rz_cSIq dX12_best_1 kl_RX12_158 (c_X12_isBaker X _ I J b (by omega)) rfl rfl (Nat.le_of_ble_eq_true rfl) (Nat.le_of_ble_eq_true rfl) ?_
  rintro z1 A1 B1 ⟨⟨rfl, b1⟩ | ⟨rfl, b1⟩, rfl, rfl⟩
  · exfalso; omega
  · refine rz_if_ne (t := 9) dX12_best_4 rfl (by omega) (fun q => absurd q (by decide)) (fun _ => ?_)
    refine rz_iconst dX12_best_7 ?_
    refine rz_iret dX12_best_8 rfl ?_
    exact ⟨_, rfl, ((if_neg (by omega)).trans (if_neg (by omega))).symm, FrR_refl, rfl⟩
theorem c_X12_best {X : pX} {I J : IM} {h : Nat} {lw : Lw} {n : Nat} {m0 m1 : Mx} (hq : RqI I lw n m0 m1) (b : Int) (hb : rg b) : KIq X (h + 7) mX12_best [.ref 81, zi b] I J (fun z A B => z = besZ lw (I 82) (I 83) (I 84) (I 85) n m0 m1 b ∧ FrR I A ∧ J = B) := by
  by_cases e0 : b = 0
  · subst e0; exact best_r0 hq
  · by_cases e1 : b = 1
    · subst e1; exact best_r1 hq
    · exact best_rn b hb ⟨e0, e1⟩
