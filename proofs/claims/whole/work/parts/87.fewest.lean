/-! most and fewest: the class -/
def mosZ (lw : Lw) (W T U Q : Nat → Int) (n : Nat) (what : Int) : Int := if what = 0 ∨ what = 1 then (if lstB n (Q 0).toNat (Q 1).toNat = true then (if what = 0 then mosV lw W T U n (Q 1).toNat (Q 0).toNat else (mosN lw W T U n (Q 1).toNat (Q 0).toNat).1) else -5) else -1
def fewP (lw : Lw) (W T U : Nat → Int) (n Lb : Nat) (k : Int) : Nat → Bool := fun m => decide (¬ (1 ≤ (rowsL n m true).length ∧ k ≤ (mosN lw W T U n Lb m).1))
def fewZ (lw : Lw) (W T U Q : Nat → Int) (n : Nat) (k : Int) : Int := if 0 ≤ k ∧ k ≤ 5 then (if cF (fewP lw W T U n (Q 1).toNat k) 10 0 = 99 then -2 else ((cF (fewP lw W T U n (Q 1).toNat k) 10 0 : Nat) : Int)) else -1
theorem cF_at {p : Nat → Bool} {b : Nat} (hb : b < 10) (h : ∀ x, x < b → p x = true) (hp : p b = false) : cF p 10 0 = b := by
  rcases cF_prop (p := p) 10 0 rfl with ⟨-, q⟩ | ⟨q1, q2, q3, q4⟩
  · have := q b (Nat.zero_le _) hb; rw [hp] at this; exact absurd this (by decide)
  · by_cases e : cF p 10 0 < b
    · have := h _ e; rw [q3] at this; exact absurd this (by decide)
    · by_cases e2 : b < cF p 10 0
      · have := q4 b (Nat.zero_le _) e2; rw [hp] at this; exact absurd this (by decide)
      · omega
theorem cF_no {p : Nat → Bool} (h : ∀ x, x < 10 → p x = true) : cF p 10 0 = 99 := by
  rcases cF_prop (p := p) 10 0 rfl with ⟨q, -⟩ | ⟨q1, q2, q3, -⟩
  · exact q
  · have := h _ q2; rw [q3] at this; exact absurd this (by decide)
theorem mosN_rg {lw : Lw} {W T U : Nat → Int} {n Lb N : Nat} : (-1 ≤ (mosN lw W T U n Lb N).1 ∧ (mosN lw W T U n Lb N).1 ≤ 6) ∧ (1 ≤ (rowsL n N true).length → 0 ≤ (mosN lw W T U n Lb N).1 ∧ (mosN lw W T U n Lb N).2 < (rowsL n N true).length) := frM_rg (fun j => surN_rg j) _
def FmF (A B : IM) : Prop := ∀ a, a ≠ 32 → a ≠ 33 → a ≠ 34 → B a = A a
theorem FmF_s {A B : IM} {n : Nat} {w : List Nat} {G : Nat → Int} (h : FmF A B) : FmF A (wkM (upA B 32 G) n w) := fun a h1 h2 h3 => by
  rw [wk_ne ⟨h2, h3⟩]; unfold upA; rw [if_neg h1]; exact h a h1 h2 h3
theorem CoOK_fm {A B : IM} {lw : Lw} {n : Nat} (h : FmF A B) (hC : CoOK A lw n) : CoOK B lw n := by
  unfold CoOK
  rw [h 46 (by decide) (by decide) (by decide), h 7 (by decide) (by decide) (by decide), h 8 (by decide) (by decide) (by decide), h 9 (by decide) (by decide) (by decide)]
  exact hC
theorem QC_fm {I A B : IM} {lw : Lw} {n : Nat} (h : FmF A B) (hq : QC I lw n A) : QC I lw n B := by
  refine ⟨⟨fun a ha => ?_, fun k hk => ?_⟩, ?_⟩
  · rw [h a (fun e => ha (by subst e; decide)) (fun e => ha (by subst e; decide)) (fun e => ha (by subst e; decide))]; exact hq.1.1 a ha
  · rw [h 1 (by decide) (by decide) (by decide)]; exact hq.1.2 k hk
  · exact CchI_of (h 7 (by decide) (by decide) (by decide)) (h 8 (by decide) (by decide) (by decide)) (h 9 (by decide) (by decide) (by decide)) (h 11 (by decide) (by decide) (by decide)) (h 12 (by decide) (by decide) (by decide)) hq.2
set_option maxRecDepth 20000 in
set_option maxHeartbeats 400000 in
theorem c_X11_most {X : pX} {I J : IM} {h : Nat} {lw : Lw} {n : Nat} {m0 m1 : Mx} (hq : CqI I lw n m0 m1) (hW : ∀ v, v < n → 1 ≤ I 7 v ∧ I 7 v ≤ 9) (what : Int) (hw : rg what) : KIq X (h + 6) mX11_most [.ref 0, zi what] I J (fun z A B => z = mosZ lw (I 7) (I 8) (I 9) (I 10) n what ∧ QC I lw n A ∧ J = B) := by
  have hq0 := hq
  obtain ⟨h1, h2, h3, h4, h5, h6, h7⟩ := hq0
  have h80 := h7 0 (by decide)
  have h81 := h7 1 (by decide)
  show Rz X (h + 6) mX11_most 0 [some (.ref 0), some (zi what)] [] I J _
  refine rz_iload_n dX11_most_0 rfl ?_
  refine rz_if_lt (t := 9) dX11_most_1 rfl (by omega) (fun c1 => ?_) (fun c1 => ?_)
  · refine rz_iconst dX11_most_9 ?_
    refine rz_iret dX11_most_10 rfl ?_
    exact ⟨_, rfl, by rw [mosZ, if_neg (by omega)], QC_refl h4, rfl⟩
  · refine rz_iload_n dX11_most_4 rfl ?_
    refine rz_iconst dX11_most_5 ?_
    refine rz_icmp_le (t := 11) dX11_most_6 rfl (by omega) (by omega) (fun c6 => ?_) (fun c6 => ?_)
    · refine rz_aload_n dX11_most_11 rfl ?_
      refine rz_getR dX11_most_12 kf_RX11_49 hd_0 rfl rr_0_6 ?_
      refine rz_cVIq dX11_most_15 kl_RX11_270 hd_32 ⟨_, _, rfl⟩ (c_X3_mayList n h2 (I 10 0).toNat (I 10 1).toNat ⟨by omega, by omega⟩ ⟨by omega, by omega⟩) rfl rfl (Nat.le_of_ble_eq_true rfl) (Nat.le_of_ble_eq_true rfl) ?_
      rintro z15 A15 B15 ⟨⟨rfl, b15⟩ | ⟨rfl, b15⟩, rfl, rfl⟩
      · refine rz_if_ne (t := 24) dX11_most_18 rfl (by omega) (fun _ => ?_) (fun q => absurd q (by decide))
        refine rz_aload_n dX11_most_24 rfl ?_
        refine rz_getR dX11_most_25 kf_RX11_49 hd_0 rfl rr_0_6 ?_
        refine rz_cVVq dX11_most_28 kl_RX11_263 hd_32 ⟨_, _, rfl⟩ (c_X3_costs (lw := lw) (n := n) (m0 := m0) (m1 := m1) hq hW) rfl rfl (Nat.le_of_ble_eq_true rfl) (Nat.le_of_ble_eq_true rfl) ?_
        rintro A28 _ ⟨⟨qc28, co28, n28, e79⟩, rfl⟩
        have e7 : A28 7 = I 7 := qc28.1.1 7 (by decide)
        have e8 : A28 8 = I 8 := qc28.1.1 8 (by decide)
        have e9 : A28 9 = I 9 := qc28.1.1 9 (by decide)
        have e10 : A28 10 = I 10 := qc28.1.1 10 (by decide)
        refine rz_aload_n dX11_most_31 rfl ?_
        refine rz_getR dX11_most_32 kf_RX11_49 hd_0 rfl rr_0_6 ?_
        refine rz_aload_n dX11_most_35 rfl ?_
        refine rz_getR dX11_most_36 kf_RX11_21 hd_0 rfl rr_0_1 ?_
        refine rz_getR dX11_most_39 kf_RX11_131 hd_6 rfl rr_6_4 ?_
        refine rz_iconst dX11_most_42 ?_
        refine rz_iald (z := (((I 10 0).toNat : Nat) : Int)) dX11_most_43 hd_10 (by decide) (by omega) (by rw [e10]; show I 10 0 = _; omega) ?_
        refine rz_cVIq dX11_most_44 kl_RX11_273 hd_32 ⟨_, _, rfl⟩ (c_X3_findMost (I := A28) lw n ⟨n28, h2.2⟩ (I 10 0).toNat (I 10 1).toNat (by omega) ⟨by rw [e10]; omega, by omega⟩ co28) rfl rfl (Nat.le_of_ble_eq_true rfl) (Nat.le_of_ble_eq_true rfl) ?_
        rintro z44 _ _ ⟨⟨w44, G44, rfl, hz44⟩, rfl⟩
        have hge := b15.1.1
        obtain ⟨rfl, l44, g1, g0⟩ := hz44.resolve_right (fun e => by omega)
        rw [e7, e8, e9] at g1 g0
        refine rz_pop dX11_most_47 rfl ?_
        refine rz_iload_n dX11_most_48 rfl ?_
        refine rz_if_ne (t := 62) dX11_most_49 rfl (by omega) (fun c49 => ?_) (fun c49 => ?_)
        · refine rz_aload_n dX11_most_62 rfl ?_
          refine rz_getR dX11_most_63 kf_RX11_49 hd_0 rfl rr_0_6 ?_
          refine rz_getI (z := ((mosN lw (I 7) (I 8) (I 9) n (I 10 1).toNat (I 10 0).toNat).1)) dX11_most_66 kf_RX11_279 hd_32 rfl (g1) ?_
          refine rz_iret dX11_most_69 rfl ?_
          exact ⟨_, rfl, by rw [mosZ, if_pos (by omega), if_pos (lstB_t b15), if_neg (by omega)], QC_fm (FmF_s (fun _ _ _ _ => rfl)) qc28, rfl⟩
        · refine rz_aload_n dX11_most_52 rfl ?_
          refine rz_getR dX11_most_53 kf_RX11_49 hd_0 rfl rr_0_6 ?_
          refine rz_getI (z := (mosV lw (I 7) (I 8) (I 9) n (I 10 1).toNat (I 10 0).toNat)) dX11_most_56 kf_RX11_276 hd_32 rfl (g0) ?_
          refine rz_goto (t := 69) dX11_most_59 rfl ?_
          refine rz_iret dX11_most_69 rfl ?_
          exact ⟨_, rfl, by rw [mosZ, if_pos (by omega), if_pos (lstB_t b15), if_pos (by omega)], QC_fm (FmF_s (fun _ _ _ _ => rfl)) qc28, rfl⟩
      · refine rz_if_ne (t := 24) dX11_most_18 rfl (by omega) (fun q => absurd q (by decide)) (fun _ => ?_)
        refine rz_bipush dX11_most_21 (by decide) ?_
        refine rz_iret dX11_most_23 rfl ?_
        exact ⟨_, rfl, by rw [mosZ, if_pos (by omega), if_neg (lstB_f b15)], QC_refl h4, rfl⟩
    · refine rz_iconst dX11_most_9 ?_
      refine rz_iret dX11_most_10 rfl ?_
      exact ⟨_, rfl, by rw [mosZ, if_neg (by omega)], QC_refl h4, rfl⟩
set_option maxRecDepth 20000 in
set_option maxHeartbeats 400000 in
theorem c_X11_fewest {X : pX} {I J : IM} {h : Nat} {lw : Lw} {n : Nat} {m0 m1 : Mx} (hq : CqI I lw n m0 m1) (hW : ∀ v, v < n → 1 ≤ I 7 v ∧ I 7 v ≤ 9) (k : Int) (hk : rg k) : KIq X (h + 6) mX11_fewest [.ref 0, zi k] I J (fun z A B => z = fewZ lw (I 7) (I 8) (I 9) (I 10) n k ∧ QC I lw n A ∧ J = B) := by
  have hq0 := hq
  obtain ⟨h1, h2, h3, h4, h5, h6, h7⟩ := hq0
  have h80 := h7 0 (by decide)
  have h81 := h7 1 (by decide)
  show Rz X (h + 6) mX11_fewest 0 [some (.ref 0), some (zi k), none] [] I J _
  refine rz_iload_n dX11_fewest_0 rfl ?_
  refine rz_if_lt (t := 9) dX11_fewest_1 rfl (by omega) (fun c1 => ?_) (fun c1 => ?_)
  · refine rz_iconst dX11_fewest_9 ?_
    refine rz_iret dX11_fewest_10 rfl ?_
    exact ⟨_, rfl, by rw [fewZ, if_neg (by omega)], QC_refl h4, rfl⟩
  · refine rz_iload_n dX11_fewest_4 rfl ?_
    refine rz_iconst dX11_fewest_5 ?_
    refine rz_icmp_le (t := 11) dX11_fewest_6 rfl (by omega) (by omega) (fun c6 => ?_) (fun c6 => ?_)
    · refine rz_aload_n dX11_fewest_11 rfl ?_
      refine rz_getR dX11_fewest_12 kf_RX11_49 hd_0 rfl rr_0_6 ?_
      refine rz_cVVq dX11_fewest_15 kl_RX11_263 hd_32 ⟨_, _, rfl⟩ (c_X3_costs (lw := lw) (n := n) (m0 := m0) (m1 := m1) hq hW) rfl rfl (Nat.le_of_ble_eq_true rfl) (Nat.le_of_ble_eq_true rfl) ?_
      rintro A15 _ ⟨⟨qc15, co15, n15, e79⟩, rfl⟩
      have e7 : A15 7 = I 7 := qc15.1.1 7 (by decide)
      have e8 : A15 8 = I 8 := qc15.1.1 8 (by decide)
      have e9 : A15 9 = I 9 := qc15.1.1 9 (by decide)
      have e10 : A15 10 = I 10 := qc15.1.1 10 (by decide)
      refine rz_iconst dX11_fewest_18 ?_
      refine rz_istore_n dX11_fewest_19 (by decide) rfl ?_
      refine rz_upx (σ := IM) (Inv := fun m sm => FmF A15 sm ∧ ∀ x, x < m → (fewP lw (I 7) (I 8) (I 9) n (I 10 1).toNat k) x = true) (ls := fun (m : Nat) sm => [some (.ref 0), some (zi k), some (zi (m : Int))]) (IV := fun (m : Nat) sm => sm) (JV := fun (m : Nat) sm => J) (10) (A15) ⟨fun _ _ _ _ => rfl, fun x hx => absurd hx (by omega)⟩ ⟨Or.inr rfl, Or.inr rfl, Or.inr rfl, trivial⟩ (rfl) (rfl) ?_ ?_
      · intro m sm hm qm ihm
        have hmb := mosN_rg (lw := lw) (W := I 7) (T := I 8) (U := I 9) (n := n) (Lb := (I 10 1).toNat) (N := m)
        have m7 : sm 7 = I 7 := (qm.1 7 (by decide) (by decide) (by decide)).trans e7
        have m8 : sm 8 = I 8 := (qm.1 8 (by decide) (by decide) (by decide)).trans e8
        have m9 : sm 9 = I 9 := (qm.1 9 (by decide) (by decide) (by decide)).trans e9
        have m10 : sm 10 = I 10 := (qm.1 10 (by decide) (by decide) (by decide)).trans e10
        have nm : sm 6 0 = n := by rw [qm.1 6 (by decide) (by decide) (by decide)]; exact n15
        refine rz_iload_n dX11_fewest_20 rfl ?_
        refine rz_bipush dX11_fewest_21 (by decide) ?_
        refine rz_icmp_gt (t := 56) dX11_fewest_23 rfl (by omega) (by omega) (fun c23 => ?_) (fun c23 => ?_)
        · exfalso; omega
        · refine rz_aload_n dX11_fewest_26 rfl ?_
          refine rz_getR dX11_fewest_27 kf_RX11_49 hd_0 rfl rr_0_6 ?_
          refine rz_iload_n dX11_fewest_30 rfl ?_
          refine rz_cVIq dX11_fewest_31 kl_RX11_273 hd_32 ⟨_, _, rfl⟩ (c_X3_findMost (I := sm) lw n ⟨nm, h2.2⟩ m (I 10 1).toNat (by omega) ⟨by rw [m10]; omega, by omega⟩ (CoOK_fm qm.1 co15)) rfl rfl (Nat.le_of_ble_eq_true rfl) (Nat.le_of_ble_eq_true rfl) ?_
          rintro z31 _ _ ⟨⟨w31, G31, rfl, ⟨rfl, l31, g1, g0⟩ | ⟨rfl, l31⟩⟩, rfl⟩
          · refine rz_if_eq (t := 50) dX11_fewest_34 rfl (by omega) (fun q => absurd q (by decide)) (fun _ => ?_)
            rw [m7, m8, m9] at g1
            refine rz_aload_n dX11_fewest_37 rfl ?_
            refine rz_getR dX11_fewest_38 kf_RX11_49 hd_0 rfl rr_0_6 ?_
            refine rz_getI (z := ((mosN lw (I 7) (I 8) (I 9) n (I 10 1).toNat m).1)) dX11_fewest_41 kf_RX11_279 hd_32 rfl (g1) ?_
            refine rz_iload_n dX11_fewest_44 rfl ?_
            refine rz_icmp_lt (t := 50) dX11_fewest_45 rfl (by omega) (by omega) (fun c45 => ?_) (fun c45 => ?_)
            · refine rz_iinc dX11_fewest_50 (by decide) rfl rfl rfl ?_
              refine rz_goto (t := 20) dX11_fewest_53 rfl ?_
              exact rz_bk (ihm ((wkM (upA sm 32 G31) n w31)) (⟨FmF_s qm.1, fun x hx => by by_cases e : x = m; (subst e; exact decide_eq_true (by omega)); exact qm.2 x (by omega)⟩)) ⟨Or.inr rfl, Or.inr rfl, Or.inr rfl, trivial⟩ (rfl) (rfl)
            · refine rz_iload_n dX11_fewest_48 rfl ?_
              refine rz_iret dX11_fewest_49 rfl ?_
              have hcf := cF_at (p := (fewP lw (I 7) (I 8) (I 9) n (I 10 1).toNat k)) (b := m) (by omega) qm.2 (decide_eq_false (by omega))
              exact ⟨_, rfl, by rw [fewZ, if_pos (by omega), hcf, if_neg (by omega)], QC_fm (FmF_s qm.1) qc15, rfl⟩
          · refine rz_if_eq (t := 50) dX11_fewest_34 rfl (by omega) (fun _ => ?_) (fun q => absurd q (by decide))
            refine rz_iinc dX11_fewest_50 (by decide) rfl rfl rfl ?_
            refine rz_goto (t := 20) dX11_fewest_53 rfl ?_
            exact rz_bk (ihm ((wkM (upA sm 32 G31) n w31)) (⟨FmF_s qm.1, fun x hx => by by_cases e : x = m; (subst e; exact decide_eq_true (by omega)); exact qm.2 x (by omega)⟩)) ⟨Or.inr rfl, Or.inr rfl, Or.inr rfl, trivial⟩ (rfl) (rfl)
      · intro sm qm
        refine rz_iload_n dX11_fewest_20 rfl ?_
        refine rz_bipush dX11_fewest_21 (by decide) ?_
        refine rz_icmp_gt (t := 56) dX11_fewest_23 rfl (by omega) (by omega) (fun c23 => ?_) (fun c23 => ?_)
        · refine rz_bipush dX11_fewest_56 (by decide) ?_
          refine rz_iret dX11_fewest_58 rfl ?_
          exact ⟨_, rfl, by rw [fewZ, if_pos (by omega), cF_no qm.2, if_pos rfl], QC_fm qm.1 qc15, rfl⟩
        · exfalso; omega
    · refine rz_iconst dX11_fewest_9 ?_
      refine rz_iret dX11_fewest_10 rfl ?_
      exact ⟨_, rfl, by rw [fewZ, if_neg (by omega)], QC_refl h4, rfl⟩
