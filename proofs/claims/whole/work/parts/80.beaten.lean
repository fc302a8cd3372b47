/-! beaten, both sides -/
def lstB (n N0 N1 : Nat) : Bool := decide ((1 ≤ (rowsL n N0 true).length ∧ (rowsL n N0 true).length ≤ 300) ∧ (1 ≤ (rowsL n N1 true).length ∧ (rowsL n N1 true).length ≤ 300))
theorem lstB_t {n N0 N1 : Nat} (h : mayL n N0 N1) : lstB n N0 N1 = true := by
  unfold lstB; exact decide_eq_true h
theorem lstB_f {n N0 N1 : Nat} (h : ¬ mayL n N0 N1) : ¬ lstB n N0 N1 = true := fun q => h (by unfold lstB at q; have q2 := of_decide_eq_true q; exact q2)
def rdL (n : Nat) (p : Int) : List Nat := (List.range n).map (fun v => (dgt n p v).toNat)
theorem rdL_at {n v : Nat} {p : Int} (hv : v < n) : (((rdL n p).getD v 0 : Nat) : Int) = dgt n p v ∧ (rdL n p).getD v 0 ≤ 9 := by
  have e : (rdL n p).getD v 0 = (dgt n p v).toNat := by
    unfold rdL
    rw [List.getD_eq_getElem?_getD, List.getElem?_map, List.getElem?_range hv]; rfl
  have := dgt_bd n p v
  rw [e]; omega
def beaZ (lw : Lw) (W T U Q : Nat → Int) (n : Nat) (b p : Int) : Int := if b = 0 then (if okP n p (Q 0) then (if lstB n (Q 0).toNat (Q 1).toNat = true then cntP (lsB 0 lw W T U n (rdL n p) (rowsL n (Q 1).toNat true)) (rowsL n (Q 1).toNat true).length else -5) else -1) else if b = 1 then (if okP n p (Q 1) then (if lstB n (Q 0).toNat (Q 1).toNat = true then cntP (lsB 1 lw W T U n (rdL n p) (rowsL n (Q 0).toNat true)) (rowsL n (Q 0).toNat true).length else -5) else -1) else -1
theorem QC_tr {I A B : IM} {lw : Lw} {n : Nat} (h : QC I lw n A) (h2 : QC A lw n B) : QC I lw n B := ⟨⟨fun a ha => (h2.1.1 a ha).trans (h.1.1 a ha), fun k hk => (h2.1.2 k hk).trans (h.1.2 k hk)⟩, h2.2⟩
set_option maxRecDepth 20000 in
set_option maxHeartbeats 400000 in
theorem beaten_c0 {X : pX} {I J : IM} {h : Nat} {lw : Lw} {n : Nat} {m0 m1 : Mx} (hq : CqI I lw n m0 m1) (p : Int) (hp : rg p) : KIq X (h + 6) mX11_beaten [.ref 0, zi 0, zi p] I J (fun z A B => z = beaZ lw (I 7) (I 8) (I 9) (I 10) n 0 p ∧ QC I lw n A ∧ J = B) := by
  obtain ⟨h1, h2, h3, h4, h5, h6, h7⟩ := hq
  have h8 := h7 0 (by decide)
  have h80 := h7 0 (by decide)
  have h81 := h7 1 (by decide)
  show Rz X (h + 6) mX11_beaten 0 [some (.ref 0), some (zi 0), some (zi p)] [] I J _
  refine rz_iload_n dX11_beaten_0 rfl ?_
  refine rz_cSIq dX11_beaten_1 kl_RX11_112 (c_X11_isBaker X _ I J 0 (by omega)) rfl rfl (Nat.le_of_ble_eq_true rfl) (Nat.le_of_ble_eq_true rfl) ?_
  rintro z1 A1 B1 ⟨⟨rfl, b1⟩ | ⟨rfl, b1⟩, rfl, rfl⟩
  · refine rz_if_eq (t := 23) dX11_beaten_4 rfl (by omega) (fun q => absurd q (by decide)) (fun _ => ?_)
    refine rz_aload_n dX11_beaten_7 rfl ?_
    refine rz_getR dX11_beaten_8 kf_RX11_21 hd_0 rfl rr_0_1 ?_
    refine rz_iload_n dX11_beaten_11 rfl ?_
    refine rz_iload_n dX11_beaten_12 rfl ?_
    refine rz_aload_n dX11_beaten_13 rfl ?_
    refine rz_getR dX11_beaten_14 kf_RX11_81 hd_0 rfl rr_0_11 ?_
    refine rz_cVIq dX11_beaten_17 kl_RX11_145 hd_6 ⟨_, _, rfl⟩ (c_X8_read79 X _ I J n h2 p 0 hp (by omega) h8) rfl rfl (Nat.le_of_ble_eq_true rfl) (Nat.le_of_ble_eq_true rfl) ?_
    rintro z17 _ _ ⟨g17, rfl, rfl, ⟨rfl, b17, k17⟩ | ⟨rfl, b17⟩⟩
    · refine rz_if_ne (t := 25) dX11_beaten_20 rfl (by omega) (fun _ => ?_) (fun q => absurd q (by decide))
      refine rz_aload_n dX11_beaten_25 rfl ?_
      refine rz_getR dX11_beaten_26 kf_RX11_49 hd_0 rfl rr_0_6 ?_
      refine rz_cVIq dX11_beaten_29 kl_RX11_234 hd_32 ⟨_, _, rfl⟩ (c_X3_open (I := (upA I 79 g17)) lw (LawI_congr rfl rfl rfl rfl rfl rfl rfl rfl h1) n h2 h3 (CchI_of rfl rfl rfl rfl rfl h4) (I 10 0).toNat (I 10 1).toNat ⟨by show I 10 0 = _; omega, by omega⟩ ⟨by show I 10 1 = _; omega, by omega⟩) rfl rfl (Nat.le_of_ble_eq_true rfl) (Nat.le_of_ble_eq_true rfl) ?_
      rintro z29 A29 _ ⟨⟨rfl, m29, ⟨du29, e79⟩, qc29⟩ | ⟨rfl, m29, rfl⟩, rfl⟩
      · refine rz_if_eq (t := 54) dX11_beaten_32 rfl (by omega) (fun q => absurd q (by decide)) (fun _ => ?_)
        obtain ⟨d1, d2, d3, d4, d5, d6⟩ := du29
        have e7 : A29 7 = I 7 := qc29.1.1 7 (by decide)
        have e8 : A29 8 = I 8 := qc29.1.1 8 (by decide)
        have e9 : A29 9 = I 9 := qc29.1.1 9 (by decide)
        have hl3 : (rowsL n (I 10 1).toNat true).length ≤ 300 := m29.2.2
        refine rz_aload_n dX11_beaten_35 rfl ?_
        refine rz_getR dX11_beaten_36 kf_RX11_49 hd_0 rfl rr_0_6 ?_
        refine rz_iload_n dX11_beaten_39 rfl ?_
        refine rz_aload_n dX11_beaten_40 rfl ?_
        refine rz_getR dX11_beaten_41 kf_RX11_81 hd_0 rfl rr_0_11 ?_
        refine rz_iconst dX11_beaten_44 ?_
        refine rz_sipush dX11_beaten_45 (by decide) ?_
        refine rz_cVI dX11_beaten_48 kl_RX11_238 hd_32 ⟨_, _, rfl⟩ ((show KI X _ mX3_losses [.ref 32, zi 0, .ref 79, zi 0, zi 301] A29 J _ A29 J from c_losses0 (I := A29) lw n ⟨d6, h2.2⟩ (fun v hv => by rw [e7]; exact (h3 v hv).1) (I 10 1).toNat (by omega) 79 0 5 (rdL n p) rfl ⟨by omega, by omega⟩ (fun v hv => by rw [e79, Nat.zero_add]; have q := rdL_at (n := n) (p := p) hv; exact ⟨(k17 v (by omega)).trans q.1.symm, q.2⟩) d5 d2 hl3 d4 301 (by omega) (by omega))) rfl rfl (Nat.le_of_ble_eq_true rfl) (Nat.le_of_ble_eq_true rfl) ?_
        refine rz_goto (t := 56) dX11_beaten_51 rfl ?_
        refine rz_iret dX11_beaten_56 rfl ?_
        refine ⟨_, rfl, ?_, QC_tr (QC_up (by decide) (QC_refl h4)) qc29, rfl⟩
        have hcb := cntP_bd (p := lsB 0 lw (A29 7) (A29 8) (A29 9) n (rdL n p) (rowsL n (I 10 1).toNat true)) (rowsL n (I 10 1).toNat true).length
        rw [beaZ, if_pos rfl, if_pos (show okP n p (I 10 0) from b17), if_pos (lstB_t m29), Int.min_eq_left (by omega), e7, e8, e9]
      · refine rz_if_eq (t := 54) dX11_beaten_32 rfl (by omega) (fun _ => ?_) (fun q => absurd q (by decide))
        refine rz_bipush dX11_beaten_54 (by decide) ?_
        refine rz_iret dX11_beaten_56 rfl ?_
        exact ⟨_, rfl, by rw [beaZ, if_pos rfl, if_pos (show okP n p (I 10 0) from b17), if_neg (lstB_f m29)], QC_up (by decide) (QC_refl h4), rfl⟩
    · refine rz_if_ne (t := 25) dX11_beaten_20 rfl (by omega) (fun q => absurd q (by decide)) (fun _ => ?_)
      refine rz_iconst dX11_beaten_23 ?_
      refine rz_iret dX11_beaten_24 rfl ?_
      exact ⟨_, rfl, by rw [beaZ, if_pos rfl, if_neg (show ¬ okP n p (I 10 0) from b17)], QC_up (by decide) (QC_refl h4), rfl⟩
  · exfalso; omega
set_option maxRecDepth 20000 in
set_option maxHeartbeats 400000 in
theorem beaten_r0 {X : pX} {I J : IM} {h : Nat} {lw : Lw} {n : Nat} {m0 m1 : Mx} (hq : RqI I lw n m0 m1) (hbk : BOK I) (p : Int) (hp : rg p) : KIq X (h + 9) mX12_beaten [.ref 81, zi 0, zi p] I J (fun z A B => z = beaZ lw (I 82) (I 83) (I 84) (I 85) n 0 p ∧ FrR I A ∧ J = B) := by
  obtain ⟨h1, h2, h3, h5, h6, h7⟩ := hq
  have h8 := h7 0 (by decide)
  have h80 := h7 0 (by decide)
  have h81 := h7 1 (by decide)
  show Rz X (h + 9) mX12_beaten 0 [some (.ref 81), some (zi 0), some (zi p), none] [] I J _
  refine rz_iload_n dX12_beaten_0 rfl ?_
  refine rz_cSIq dX12_beaten_1 kl_RX12_158 (c_X12_isBaker X _ I J 0 (by omega)) rfl rfl (Nat.le_of_ble_eq_true rfl) (Nat.le_of_ble_eq_true rfl) ?_
  rintro z1 A1 B1 ⟨⟨rfl, b1⟩ | ⟨rfl, b1⟩, rfl, rfl⟩
  · refine rz_if_eq (t := 16) dX12_beaten_4 rfl (by omega) (fun q => absurd q (by decide)) (fun _ => ?_)
    refine rz_aload_n dX12_beaten_7 rfl ?_
    refine rz_iload_n dX12_beaten_8 rfl ?_
    refine rz_iload_n dX12_beaten_9 rfl ?_
    refine rz_cVIq dX12_beaten_10 kl_RX12_169 hd_81 ⟨_, _, rfl⟩ (c_X12_reads X _ I J n h2 p 0 hp (by omega) h8) rfl rfl (Nat.le_of_ble_eq_true rfl) (Nat.le_of_ble_eq_true rfl) ?_
    rintro z10 _ _ ⟨g10, rfl, rfl, ⟨rfl, b10, k10⟩ | ⟨rfl, b10⟩⟩
    · refine rz_if_ne (t := 18) dX12_beaten_13 rfl (by omega) (fun _ => ?_) (fun q => absurd q (by decide))
      refine rz_iconst dX12_beaten_18 ?_
      refine rz_istore_n dX12_beaten_19 (by decide) rfl ?_
      refine rz_up (ls := fun v : Nat => [some (.ref 81), some (zi 0), some (zi p), some (zi (v : Int))]) (IV := fun v : Nat => (copF (upA I 93 g10) 109 0 v g10)) (JV := fun v : Nat => J) (n) ⟨Or.inr rfl, Or.inr rfl, Or.inr rfl, Or.inr rfl, trivial⟩ (copF_0) (rfl) ?_ ?_
      · intro v hv ihv
        have hd9 := dgt_bd n p v
        have hk9 := k10 v hv
        refine rz_iload_n dX12_beaten_20 rfl ?_
        refine rz_aload_n dX12_beaten_21 rfl ?_
        refine rz_getI (z := (n : Int)) dX12_beaten_22 kf_RX12_137 hd_81 rfl (h2.1) ?_
        refine rz_icmp_ge (t := 47) dX12_beaten_25 rfl (by omega) (by omega) (fun c25 => ?_) (fun c25 => ?_)
        · exfalso; omega
        · refine rz_aload_n dX12_beaten_28 rfl ?_
          refine rz_getR dX12_beaten_29 kf_RX12_93 hd_81 rfl rr_81_42 ?_
          refine rz_iload_n dX12_beaten_32 rfl ?_
          refine rz_aload_n dX12_beaten_33 rfl ?_
          refine rz_getR dX12_beaten_34 kf_RX12_44 hd_81 rfl rr_81_15 ?_
          refine rz_iload_n dX12_beaten_37 rfl ?_
          refine rz_ialdN (k := v) (z := (g10 v)) dX12_beaten_38 hd_93 (by decide) (by omega) (by omega) rfl ?_
          refine rz_i2b dX12_beaten_39 (by omega) ?_
          refine rz_bastN (k := v) dX12_beaten_40 hd_109 (by decide) (by omega) (by omega) (by omega) ?_
          refine rz_iinc dX12_beaten_41 (by decide) rfl rfl rfl ?_
          refine rz_goto (t := 20) dX12_beaten_44 rfl ?_
          exact rz_bk ihv ⟨Or.inr rfl, Or.inr rfl, Or.inr rfl, Or.inr rfl, trivial⟩ ((by rw [copF_step rfl, Nat.zero_add])) (rfl)
      · skip
        refine rz_iload_n dX12_beaten_20 rfl ?_
        refine rz_aload_n dX12_beaten_21 rfl ?_
        refine rz_getI (z := (n : Int)) dX12_beaten_22 kf_RX12_137 hd_81 rfl (h2.1) ?_
        refine rz_icmp_ge (t := 47) dX12_beaten_25 rfl (by omega) (by omega) (fun c25 => ?_) (fun c25 => ?_)
        · refine rz_aload_n dX12_beaten_47 rfl ?_
          refine rz_cVIq dX12_beaten_48 kl_RX12_335 hd_81 ⟨_, _, rfl⟩ (c_X12_findBoth (I := (copF (upA I 93 g10) 109 0 n g10)) lw (LawI_congr rfl rfl rfl rfl rfl rfl rfl rfl h1) n h2 h3 (I 85 0).toNat (I 85 1).toNat ⟨by show I 85 0 = _; omega, by omega⟩ ⟨by show I 85 1 = _; omega, by omega⟩ hbk) rfl rfl (Nat.le_of_ble_eq_true rfl) (Nat.le_of_ble_eq_true rfl) ?_
          rintro z48 A48 _ ⟨⟨rfl, m48, ⟨du48, e109⟩, fr48⟩ | ⟨rfl, m48, fr48⟩, rfl⟩
          · refine rz_if_eq (t := 67) dX12_beaten_51 rfl (by omega) (fun q => absurd q (by decide)) (fun _ => ?_)
            obtain ⟨d1, d2, d3, d4, d5, d6⟩ := du48
            have e82 : A48 82 = I 82 := fr48.1 82 (by decide)
            have e83 : A48 83 = I 83 := fr48.1 83 (by decide)
            have e84 : A48 84 = I 84 := fr48.1 84 (by decide)
            have hl3 : (rowsL n (I 85 1).toNat true).length ≤ 300 := m48.2.2
            refine rz_aload_n dX12_beaten_54 rfl ?_
            refine rz_iload_n dX12_beaten_55 rfl ?_
            refine rz_aload_n dX12_beaten_56 rfl ?_
            refine rz_getR dX12_beaten_57 kf_RX12_93 hd_81 rfl rr_81_42 ?_
            refine rz_iconst dX12_beaten_60 ?_
            refine rz_cVI dX12_beaten_61 kl_RX12_338 hd_81 ⟨_, _, rfl⟩ ((show KI X _ mX12_beatenBy [.ref 81, zi 0, .ref 109, zi 0] A48 J _ A48 J from c_beatenBy0 (I := A48) lw n ⟨d6, h2.2⟩ (fun v hv => by rw [e82]; exact (h3 v hv).1) (I 85 1).toNat (by omega) 109 0 5 (rdL n p) rfl ⟨by omega, by omega⟩ (fun v hv => by rw [e109, Nat.mul_zero, Nat.zero_add]; have q := rdL_at (n := n) (p := p) hv; exact ⟨(show (if 0 ≤ v ∧ v < 0 + n then g10 (v - 0) else _) = _ by rw [if_pos (by omega), Nat.sub_zero, k10 v hv]; exact q.1.symm), q.2⟩) d5 d2 hl3 d4)) rfl rfl (Nat.le_of_ble_eq_true rfl) (Nat.le_of_ble_eq_true rfl) ?_
            refine rz_goto (t := 69) dX12_beaten_64 rfl ?_
            refine rz_iret dX12_beaten_69 rfl ?_
            refine ⟨_, rfl, ?_, FrR.trans (FrR_up (a := 93) (by decide) (by decide)) (FrR.trans (FrR_up (a := 109) (by decide) (by decide)) fr48), rfl⟩
            rw [beaZ, if_pos rfl, if_pos (show okP n p (I 85 0) from b10), if_pos (lstB_t m48), e82, e83, e84]
          · refine rz_if_eq (t := 67) dX12_beaten_51 rfl (by omega) (fun _ => ?_) (fun q => absurd q (by decide))
            refine rz_bipush dX12_beaten_67 (by decide) ?_
            refine rz_iret dX12_beaten_69 rfl ?_
            exact ⟨_, rfl, by rw [beaZ, if_pos rfl, if_pos (show okP n p (I 85 0) from b10), if_neg (lstB_f m48)], FrR.trans (FrR_up (a := 93) (by decide) (by decide)) (FrR.trans (FrR_up (a := 109) (by decide) (by decide)) fr48), rfl⟩
        · exfalso; omega
    · refine rz_if_ne (t := 18) dX12_beaten_13 rfl (by omega) (fun q => absurd q (by decide)) (fun _ => ?_)
      refine rz_iconst dX12_beaten_16 ?_
      refine rz_iret dX12_beaten_17 rfl ?_
      exact ⟨_, rfl, by rw [beaZ, if_pos rfl, if_neg (show ¬ okP n p (I 85 0) from b10)], FrR_up (a := 93) (by decide) (by decide), rfl⟩
  · exfalso; omega
set_option maxRecDepth 20000 in
set_option maxHeartbeats 400000 in
theorem beaten_c1 {X : pX} {I J : IM} {h : Nat} {lw : Lw} {n : Nat} {m0 m1 : Mx} (hq : CqI I lw n m0 m1) (p : Int) (hp : rg p) : KIq X (h + 6) mX11_beaten [.ref 0, zi 1, zi p] I J (fun z A B => z = beaZ lw (I 7) (I 8) (I 9) (I 10) n 1 p ∧ QC I lw n A ∧ J = B) := by
  obtain ⟨h1, h2, h3, h4, h5, h6, h7⟩ := hq
  have h8 := h7 1 (by decide)
  have h80 := h7 0 (by decide)
  have h81 := h7 1 (by decide)
  show Rz X (h + 6) mX11_beaten 0 [some (.ref 0), some (zi 1), some (zi p)] [] I J _
  refine rz_iload_n dX11_beaten_0 rfl ?_
  refine rz_cSIq dX11_beaten_1 kl_RX11_112 (c_X11_isBaker X _ I J 1 (by omega)) rfl rfl (Nat.le_of_ble_eq_true rfl) (Nat.le_of_ble_eq_true rfl) ?_
  rintro z1 A1 B1 ⟨⟨rfl, b1⟩ | ⟨rfl, b1⟩, rfl, rfl⟩
  · refine rz_if_eq (t := 23) dX11_beaten_4 rfl (by omega) (fun q => absurd q (by decide)) (fun _ => ?_)
    refine rz_aload_n dX11_beaten_7 rfl ?_
    refine rz_getR dX11_beaten_8 kf_RX11_21 hd_0 rfl rr_0_1 ?_
    refine rz_iload_n dX11_beaten_11 rfl ?_
    refine rz_iload_n dX11_beaten_12 rfl ?_
    refine rz_aload_n dX11_beaten_13 rfl ?_
    refine rz_getR dX11_beaten_14 kf_RX11_81 hd_0 rfl rr_0_11 ?_
    refine rz_cVIq dX11_beaten_17 kl_RX11_145 hd_6 ⟨_, _, rfl⟩ (c_X8_read79 X _ I J n h2 p 1 hp (by omega) h8) rfl rfl (Nat.le_of_ble_eq_true rfl) (Nat.le_of_ble_eq_true rfl) ?_
    rintro z17 _ _ ⟨g17, rfl, rfl, ⟨rfl, b17, k17⟩ | ⟨rfl, b17⟩⟩
    · refine rz_if_ne (t := 25) dX11_beaten_20 rfl (by omega) (fun _ => ?_) (fun q => absurd q (by decide))
      refine rz_aload_n dX11_beaten_25 rfl ?_
      refine rz_getR dX11_beaten_26 kf_RX11_49 hd_0 rfl rr_0_6 ?_
      refine rz_cVIq dX11_beaten_29 kl_RX11_234 hd_32 ⟨_, _, rfl⟩ (c_X3_open (I := (upA I 79 g17)) lw (LawI_congr rfl rfl rfl rfl rfl rfl rfl rfl h1) n h2 h3 (CchI_of rfl rfl rfl rfl rfl h4) (I 10 0).toNat (I 10 1).toNat ⟨by show I 10 0 = _; omega, by omega⟩ ⟨by show I 10 1 = _; omega, by omega⟩) rfl rfl (Nat.le_of_ble_eq_true rfl) (Nat.le_of_ble_eq_true rfl) ?_
      rintro z29 A29 _ ⟨⟨rfl, m29, ⟨du29, e79⟩, qc29⟩ | ⟨rfl, m29, rfl⟩, rfl⟩
      · refine rz_if_eq (t := 54) dX11_beaten_32 rfl (by omega) (fun q => absurd q (by decide)) (fun _ => ?_)
        obtain ⟨d1, d2, d3, d4, d5, d6⟩ := du29
        have e7 : A29 7 = I 7 := qc29.1.1 7 (by decide)
        have e8 : A29 8 = I 8 := qc29.1.1 8 (by decide)
        have e9 : A29 9 = I 9 := qc29.1.1 9 (by decide)
        have hl3 : (rowsL n (I 10 0).toNat true).length ≤ 300 := m29.1.2
        refine rz_aload_n dX11_beaten_35 rfl ?_
        refine rz_getR dX11_beaten_36 kf_RX11_49 hd_0 rfl rr_0_6 ?_
        refine rz_iload_n dX11_beaten_39 rfl ?_
        refine rz_aload_n dX11_beaten_40 rfl ?_
        refine rz_getR dX11_beaten_41 kf_RX11_81 hd_0 rfl rr_0_11 ?_
        refine rz_iconst dX11_beaten_44 ?_
        refine rz_sipush dX11_beaten_45 (by decide) ?_
        refine rz_cVI dX11_beaten_48 kl_RX11_238 hd_32 ⟨_, _, rfl⟩ ((show KI X _ mX3_losses [.ref 32, zi 1, .ref 79, zi 0, zi 301] A29 J _ A29 J from c_losses1 (I := A29) lw n ⟨d6, h2.2⟩ (fun v hv => by rw [e7]; exact (h3 v hv).1) (I 10 0).toNat (by omega) 79 0 5 (rdL n p) rfl ⟨by omega, by omega⟩ (fun v hv => by rw [e79, Nat.zero_add]; have q := rdL_at (n := n) (p := p) hv; exact ⟨(k17 v (by omega)).trans q.1.symm, q.2⟩) d5 d1 hl3 d3 301 (by omega) (by omega))) rfl rfl (Nat.le_of_ble_eq_true rfl) (Nat.le_of_ble_eq_true rfl) ?_
        refine rz_goto (t := 56) dX11_beaten_51 rfl ?_
        refine rz_iret dX11_beaten_56 rfl ?_
        refine ⟨_, rfl, ?_, QC_tr (QC_up (by decide) (QC_refl h4)) qc29, rfl⟩
        have hcb := cntP_bd (p := lsB 1 lw (A29 7) (A29 8) (A29 9) n (rdL n p) (rowsL n (I 10 0).toNat true)) (rowsL n (I 10 0).toNat true).length
        rw [beaZ, if_neg (by decide), if_pos rfl, if_pos (show okP n p (I 10 1) from b17), if_pos (lstB_t m29), Int.min_eq_left (by omega), e7, e8, e9]
      · refine rz_if_eq (t := 54) dX11_beaten_32 rfl (by omega) (fun _ => ?_) (fun q => absurd q (by decide))
        refine rz_bipush dX11_beaten_54 (by decide) ?_
        refine rz_iret dX11_beaten_56 rfl ?_
        exact ⟨_, rfl, by rw [beaZ, if_neg (by decide), if_pos rfl, if_pos (show okP n p (I 10 1) from b17), if_neg (lstB_f m29)], QC_up (by decide) (QC_refl h4), rfl⟩
    · refine rz_if_ne (t := 25) dX11_beaten_20 rfl (by omega) (fun q => absurd q (by decide)) (fun _ => ?_)
      refine rz_iconst dX11_beaten_23 ?_
      refine rz_iret dX11_beaten_24 rfl ?_
      exact ⟨_, rfl, by rw [beaZ, if_neg (by decide), if_pos rfl, if_neg (show ¬ okP n p (I 10 1) from b17)], QC_up (by decide) (QC_refl h4), rfl⟩
  · exfalso; omega
set_option maxRecDepth 20000 in
set_option maxHeartbeats 400000 in
theorem beaten_r1 {X : pX} {I J : IM} {h : Nat} {lw : Lw} {n : Nat} {m0 m1 : Mx} (hq : RqI I lw n m0 m1) (hbk : BOK I) (p : Int) (hp : rg p) : KIq X (h + 9) mX12_beaten [.ref 81, zi 1, zi p] I J (fun z A B => z = beaZ lw (I 82) (I 83) (I 84) (I 85) n 1 p ∧ FrR I A ∧ J = B) := by
  obtain ⟨h1, h2, h3, h5, h6, h7⟩ := hq
  have h8 := h7 1 (by decide)
  have h80 := h7 0 (by decide)
  have h81 := h7 1 (by decide)
  show Rz X (h + 9) mX12_beaten 0 [some (.ref 81), some (zi 1), some (zi p), none] [] I J _
  refine rz_iload_n dX12_beaten_0 rfl ?_
  refine rz_cSIq dX12_beaten_1 kl_RX12_158 (c_X12_isBaker X _ I J 1 (by omega)) rfl rfl (Nat.le_of_ble_eq_true rfl) (Nat.le_of_ble_eq_true rfl) ?_
  rintro z1 A1 B1 ⟨⟨rfl, b1⟩ | ⟨rfl, b1⟩, rfl, rfl⟩
  · refine rz_if_eq (t := 16) dX12_beaten_4 rfl (by omega) (fun q => absurd q (by decide)) (fun _ => ?_)
    refine rz_aload_n dX12_beaten_7 rfl ?_
    refine rz_iload_n dX12_beaten_8 rfl ?_
    refine rz_iload_n dX12_beaten_9 rfl ?_
    refine rz_cVIq dX12_beaten_10 kl_RX12_169 hd_81 ⟨_, _, rfl⟩ (c_X12_reads X _ I J n h2 p 1 hp (by omega) h8) rfl rfl (Nat.le_of_ble_eq_true rfl) (Nat.le_of_ble_eq_true rfl) ?_
    rintro z10 _ _ ⟨g10, rfl, rfl, ⟨rfl, b10, k10⟩ | ⟨rfl, b10⟩⟩
    · refine rz_if_ne (t := 18) dX12_beaten_13 rfl (by omega) (fun _ => ?_) (fun q => absurd q (by decide))
      refine rz_iconst dX12_beaten_18 ?_
      refine rz_istore_n dX12_beaten_19 (by decide) rfl ?_
      refine rz_up (ls := fun v : Nat => [some (.ref 81), some (zi 1), some (zi p), some (zi (v : Int))]) (IV := fun v : Nat => (copF (upA I 93 g10) 109 0 v g10)) (JV := fun v : Nat => J) (n) ⟨Or.inr rfl, Or.inr rfl, Or.inr rfl, Or.inr rfl, trivial⟩ (copF_0) (rfl) ?_ ?_
      · intro v hv ihv
        have hd9 := dgt_bd n p v
        have hk9 := k10 v hv
        refine rz_iload_n dX12_beaten_20 rfl ?_
        refine rz_aload_n dX12_beaten_21 rfl ?_
        refine rz_getI (z := (n : Int)) dX12_beaten_22 kf_RX12_137 hd_81 rfl (h2.1) ?_
        refine rz_icmp_ge (t := 47) dX12_beaten_25 rfl (by omega) (by omega) (fun c25 => ?_) (fun c25 => ?_)
        · exfalso; omega
        · refine rz_aload_n dX12_beaten_28 rfl ?_
          refine rz_getR dX12_beaten_29 kf_RX12_93 hd_81 rfl rr_81_42 ?_
          refine rz_iload_n dX12_beaten_32 rfl ?_
          refine rz_aload_n dX12_beaten_33 rfl ?_
          refine rz_getR dX12_beaten_34 kf_RX12_44 hd_81 rfl rr_81_15 ?_
          refine rz_iload_n dX12_beaten_37 rfl ?_
          refine rz_ialdN (k := v) (z := (g10 v)) dX12_beaten_38 hd_93 (by decide) (by omega) (by omega) rfl ?_
          refine rz_i2b dX12_beaten_39 (by omega) ?_
          refine rz_bastN (k := v) dX12_beaten_40 hd_109 (by decide) (by omega) (by omega) (by omega) ?_
          refine rz_iinc dX12_beaten_41 (by decide) rfl rfl rfl ?_
          refine rz_goto (t := 20) dX12_beaten_44 rfl ?_
          exact rz_bk ihv ⟨Or.inr rfl, Or.inr rfl, Or.inr rfl, Or.inr rfl, trivial⟩ ((by rw [copF_step rfl, Nat.zero_add])) (rfl)
      · skip
        refine rz_iload_n dX12_beaten_20 rfl ?_
        refine rz_aload_n dX12_beaten_21 rfl ?_
        refine rz_getI (z := (n : Int)) dX12_beaten_22 kf_RX12_137 hd_81 rfl (h2.1) ?_
        refine rz_icmp_ge (t := 47) dX12_beaten_25 rfl (by omega) (by omega) (fun c25 => ?_) (fun c25 => ?_)
        · refine rz_aload_n dX12_beaten_47 rfl ?_
          refine rz_cVIq dX12_beaten_48 kl_RX12_335 hd_81 ⟨_, _, rfl⟩ (c_X12_findBoth (I := (copF (upA I 93 g10) 109 0 n g10)) lw (LawI_congr rfl rfl rfl rfl rfl rfl rfl rfl h1) n h2 h3 (I 85 0).toNat (I 85 1).toNat ⟨by show I 85 0 = _; omega, by omega⟩ ⟨by show I 85 1 = _; omega, by omega⟩ hbk) rfl rfl (Nat.le_of_ble_eq_true rfl) (Nat.le_of_ble_eq_true rfl) ?_
          rintro z48 A48 _ ⟨⟨rfl, m48, ⟨du48, e109⟩, fr48⟩ | ⟨rfl, m48, fr48⟩, rfl⟩
          · refine rz_if_eq (t := 67) dX12_beaten_51 rfl (by omega) (fun q => absurd q (by decide)) (fun _ => ?_)
            obtain ⟨d1, d2, d3, d4, d5, d6⟩ := du48
            have e82 : A48 82 = I 82 := fr48.1 82 (by decide)
            have e83 : A48 83 = I 83 := fr48.1 83 (by decide)
            have e84 : A48 84 = I 84 := fr48.1 84 (by decide)
            have hl3 : (rowsL n (I 85 0).toNat true).length ≤ 300 := m48.1.2
            refine rz_aload_n dX12_beaten_54 rfl ?_
            refine rz_iload_n dX12_beaten_55 rfl ?_
            refine rz_aload_n dX12_beaten_56 rfl ?_
            refine rz_getR dX12_beaten_57 kf_RX12_93 hd_81 rfl rr_81_42 ?_
            refine rz_iconst dX12_beaten_60 ?_
            refine rz_cVI dX12_beaten_61 kl_RX12_338 hd_81 ⟨_, _, rfl⟩ ((show KI X _ mX12_beatenBy [.ref 81, zi 1, .ref 109, zi 0] A48 J _ A48 J from c_beatenBy1 (I := A48) lw n ⟨d6, h2.2⟩ (fun v hv => by rw [e82]; exact (h3 v hv).1) (I 85 0).toNat (by omega) 109 0 5 (rdL n p) rfl ⟨by omega, by omega⟩ (fun v hv => by rw [e109, Nat.mul_zero, Nat.zero_add]; have q := rdL_at (n := n) (p := p) hv; exact ⟨(show (if 0 ≤ v ∧ v < 0 + n then g10 (v - 0) else _) = _ by rw [if_pos (by omega), Nat.sub_zero, k10 v hv]; exact q.1.symm), q.2⟩) d5 d1 hl3 d3)) rfl rfl (Nat.le_of_ble_eq_true rfl) (Nat.le_of_ble_eq_true rfl) ?_
            refine rz_goto (t := 69) dX12_beaten_64 rfl ?_
            refine rz_iret dX12_beaten_69 rfl ?_
            refine ⟨_, rfl, ?_, FrR.trans (FrR_up (a := 93) (by decide) (by decide)) (FrR.trans (FrR_up (a := 109) (by decide) (by decide)) fr48), rfl⟩
            rw [beaZ, if_neg (by decide), if_pos rfl, if_pos (show okP n p (I 85 1) from b10), if_pos (lstB_t m48), e82, e83, e84]
          · refine rz_if_eq (t := 67) dX12_beaten_51 rfl (by omega) (fun _ => ?_) (fun q => absurd q (by decide))
            refine rz_bipush dX12_beaten_67 (by decide) ?_
            refine rz_iret dX12_beaten_69 rfl ?_
            exact ⟨_, rfl, by rw [beaZ, if_neg (by decide), if_pos rfl, if_pos (show okP n p (I 85 1) from b10), if_neg (lstB_f m48)], FrR.trans (FrR_up (a := 93) (by decide) (by decide)) (FrR.trans (FrR_up (a := 109) (by decide) (by decide)) fr48), rfl⟩
        · exfalso; omega
    · refine rz_if_ne (t := 18) dX12_beaten_13 rfl (by omega) (fun q => absurd q (by decide)) (fun _ => ?_)
      refine rz_iconst dX12_beaten_16 ?_
      refine rz_iret dX12_beaten_17 rfl ?_
      exact ⟨_, rfl, by rw [beaZ, if_neg (by decide), if_pos rfl, if_neg (show ¬ okP n p (I 85 1) from b10)], FrR_up (a := 93) (by decide) (by decide), rfl⟩
  · exfalso; omega
set_option maxRecDepth 20000 in
set_option maxHeartbeats 400000 in
theorem beaten_cn {X : pX} {I J : IM} {h : Nat} {lw : Lw} {n : Nat} (hc : CchI I lw n) (b p : Int) (hb : rg b) (h01 : b ≠ 0 ∧ b ≠ 1) : KIq X (h + 6) mX11_beaten [.ref 0, zi b, zi p] I J (fun z A B => z = beaZ lw (I 7) (I 8) (I 9) (I 10) n b p ∧ QC I lw n A ∧ J = B) := by
  show Rz X (h + 6) mX11_beaten 0 [some (.ref 0), some (zi b), some (zi p)] [] I J _
  refine rz_iload_n dX11_beaten_0 rfl ?_
  refine rz_cSIq dX11_beaten_1 kl_RX11_112 (c_X11_isBaker X _ I J b (by omega)) rfl rfl (Nat.le_of_ble_eq_true rfl) (Nat.le_of_ble_eq_true rfl) ?_
  rintro z1 A1 B1 ⟨⟨rfl, b1⟩ | ⟨rfl, b1⟩, rfl, rfl⟩
  · exfalso; omega
  · refine rz_if_eq (t := 23) dX11_beaten_4 rfl (by omega) (fun _ => ?_) (fun q => absurd q (by decide))
    refine rz_iconst dX11_beaten_23 ?_
    refine rz_iret dX11_beaten_24 rfl ?_
    exact ⟨_, rfl, by rw [beaZ, if_neg (by omega), if_neg (by omega)], QC_refl hc, rfl⟩
theorem c_X11_beaten {X : pX} {I J : IM} {h : Nat} {lw : Lw} {n : Nat} {m0 m1 : Mx} (hq : CqI I lw n m0 m1) (b p : Int) (hb : rg b) (hp : rg p) : KIq X (h + 6) mX11_beaten [.ref 0, zi b, zi p] I J (fun z A B => z = beaZ lw (I 7) (I 8) (I 9) (I 10) n b p ∧ QC I lw n A ∧ J = B) := by
  by_cases e0 : b = 0
  · subst e0; exact beaten_c0 hq p hp
  · by_cases e1 : b = 1
    · subst e1; exact beaten_c1 hq p hp
    · exact beaten_cn hq.2.2.2.1 b p hb ⟨e0, e1⟩
set_option maxRecDepth 20000 in
set_option maxHeartbeats 400000 in
theorem beaten_rn {X : pX} {I J : IM} {h : Nat} {lw : Lw} {n : Nat} (b p : Int) (hb : rg b) (h01 : b ≠ 0 ∧ b ≠ 1) : KIq X (h + 9) mX12_beaten [.ref 81, zi b, zi p] I J (fun z A B => z = beaZ lw (I 82) (I 83) (I 84) (I 85) n b p ∧ FrR I A ∧ J = B) := by
  show Rz X (h + 9) mX12_beaten 0 [some (.ref 81), some (zi b), some (zi p), none] [] I J _
  refine rz_iload_n dX12_beaten_0 rfl ?_
  refine rz_cSIq dX12_beaten_1 kl_RX12_158 (c_X12_isBaker X _ I J b (by omega)) rfl rfl (Nat.le_of_ble_eq_true rfl) (Nat.le_of_ble_eq_true rfl) ?_
  rintro z1 A1 B1 ⟨⟨rfl, b1⟩ | ⟨rfl, b1⟩, rfl, rfl⟩
  · exfalso; omega
  · refine rz_if_eq (t := 16) dX12_beaten_4 rfl (by omega) (fun _ => ?_) (fun q => absurd q (by decide))
    refine rz_iconst dX12_beaten_16 ?_
    refine rz_iret dX12_beaten_17 rfl ?_
    exact ⟨_, rfl, by rw [beaZ, if_neg (by omega), if_neg (by omega)], FrR_refl, rfl⟩
theorem c_X12_beaten {X : pX} {I J : IM} {h : Nat} {lw : Lw} {n : Nat} {m0 m1 : Mx} (hq : RqI I lw n m0 m1) (hbk : BOK I) (b p : Int) (hb : rg b) (hp : rg p) : KIq X (h + 9) mX12_beaten [.ref 81, zi b, zi p] I J (fun z A B => z = beaZ lw (I 82) (I 83) (I 84) (I 85) n b p ∧ FrR I A ∧ J = B) := by
  by_cases e0 : b = 0
  · subst e0; exact beaten_r0 hq hbk p hp
  · by_cases e1 : b = 1
    · subst e1; exact beaten_r1 hq hbk p hp
    · exact beaten_rn b p hb ⟨e0, e1⟩
