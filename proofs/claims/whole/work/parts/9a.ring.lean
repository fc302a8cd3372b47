/-! ring, both -/
theorem QC_g42 {I A : IM} {lw : Lw} {n : Nat} {G : Nat → Int} (hq : QC I lw n A) : QC I lw n (upA A 42 G) := QC_up (by decide) hq
set_option maxRecDepth 20000 in
set_option maxHeartbeats 400000 in
theorem c_X3_ringPart {X : pX} {I J : IM} {h : Nat} (n : Nat) (hn : I 6 0 = n ∧ n ≤ 5) (k : Nat) (hk : k < 3) (m : Nat) (hm : I 42 k = (m : Int)) (hm3 : m < 300) : KI X (h + 2) mX3_ringPart [.ref 32, zi (k : Int)] I J (numP (fun v => I 40 (m * 5 + v)) n) I J := by
  show Rz X (h + 2) mX3_ringPart 0 [some (.ref 32), some (zi (k : Int))] [] I J _
  refine rz_aload_n dX3_ringPart_0 rfl ?_
  refine rz_iconst dX3_ringPart_1 ?_
  refine rz_aload_n dX3_ringPart_2 rfl ?_
  refine rz_getR dX3_ringPart_3 kf_RX3_38 hd_32 rfl rr_32_9 ?_
  refine rz_iload_n dX3_ringPart_6 rfl ?_
  refine rz_ialdN (k := k) (z := (m : Int)) dX3_ringPart_7 hd_42 (by decide) (by omega) (by omega) hm ?_
  refine rz_cVI dX3_ringPart_8 kl_RX3_105 hd_32 ⟨_, _, rfl⟩ (c_numberAt0 n hn m hm3) rfl rfl (Nat.le_of_ble_eq_true rfl) (Nat.le_of_ble_eq_true rfl) ?_
  refine rz_iret dX3_ringPart_11 rfl ?_
  exact ⟨_, rfl, rfl, rfl, rfl⟩
set_option maxRecDepth 20000 in
set_option maxHeartbeats 400000 in
theorem ring_c {X : pX} {I J : IM} {h : Nat} {lw : Lw} {n : Nat} {m0 m1 : Mx} (hq : CqI I lw n m0 m1) (k : Nat) (hk : k < 3) : KIq X (h + 6) mX11_ring [.ref 0, zi (k : Int)] I J (fun z A B => z = rinZ lw (I 7) (I 8) (I 9) (I 10) n (k : Int) ∧ QC I lw n A ∧ ∀ a, a ≠ 44 → a ≠ 45 → B a = J a) := by
  obtain ⟨h1, h2, h3, h4, h5, h6, h7⟩ := hq
  have h80 := h7 0 (by decide)
  have h81 := h7 1 (by decide)
  show Rz X (h + 6) mX11_ring 0 [some (.ref 0), some (zi (k : Int))] [] I J _
  refine rz_iload_n dX11_ring_0 rfl ?_
  refine rz_if_lt (t := 9) dX11_ring_1 rfl (by omega) (fun c1 => ?_) (fun c1 => ?_)
  · exfalso; omega
  · refine rz_iload_n dX11_ring_4 rfl ?_
    refine rz_iconst dX11_ring_5 ?_
    refine rz_icmp_le (t := 11) dX11_ring_6 rfl (by omega) (by omega) (fun c6 => ?_) (fun c6 => ?_)
    · refine rz_aload_n dX11_ring_11 rfl ?_
      refine rz_getR dX11_ring_12 kf_RX11_49 hd_0 rfl rr_0_6 ?_
      refine rz_cVIq dX11_ring_15 kl_RX11_234 hd_32 ⟨_, _, rfl⟩ (c_X3_open lw h1 n h2 h3 h4 (I 10 0).toNat (I 10 1).toNat ⟨by omega, by omega⟩ ⟨by omega, by omega⟩) rfl rfl (Nat.le_of_ble_eq_true rfl) (Nat.le_of_ble_eq_true rfl) ?_
      rintro z15 A15 _ ⟨⟨rfl, m15, ⟨du15, e79⟩, qc15⟩ | ⟨rfl, m15, rfl⟩, rfl⟩
      · refine rz_if_ne (t := 24) dX11_ring_18 rfl (by omega) (fun _ => ?_) (fun q => absurd q (by decide))
        have e7 : A15 7 = I 7 := qc15.1.1 7 (by decide)
        have e8 : A15 8 = I 8 := qc15.1.1 8 (by decide)
        have e9 : A15 9 = I 9 := qc15.1.1 9 (by decide)
        refine rz_aload_n dX11_ring_24 rfl ?_
        refine rz_getR dX11_ring_25 kf_RX11_49 hd_0 rfl rr_0_6 ?_
        refine rz_cVIq dX11_ring_28 kl_RX11_245 hd_32 ⟨_, _, rfl⟩ (c_X3_findRing (I := A15) lw n h2.2 (fun v hv => by rw [e7]; exact (h3 v hv).1) (I 10 0).toNat (I 10 1).toNat (by omega) du15 m15) rfl rfl (Nat.le_of_ble_eq_true rfl) (Nat.le_of_ble_eq_true rfl) ?_
        rintro z28 A28 B28 ⟨⟨rfl, hlt, G, rfl, hG⟩ | ⟨rfl, hlt, rfl⟩, hJ⟩
        · refine rz_if_eq (t := 45) dX11_ring_31 rfl (by omega) (fun q => absurd q (by decide)) (fun _ => ?_)
          rw [e7, e8, e9] at hlt hG
          obtain ⟨d1, d2, d3, d4, d5, d6⟩ := du15
          have hGk := hG k hk
          have hl0 := m15.1.2
          refine rz_aload_n dX11_ring_34 rfl ?_
          refine rz_getR dX11_ring_35 kf_RX11_49 hd_0 rfl rr_0_6 ?_
          refine rz_iload_n dX11_ring_38 rfl ?_
          refine rz_cVI dX11_ring_39 kl_RX11_248 hd_32 ⟨_, _, rfl⟩ (c_X3_ringPart (I := upA A15 42 G) n ⟨d6, h2.2⟩ k hk (rgAt (btB lw (I 7) (I 8) (I 9) n (rowsL n (I 10 0).toNat true)) (rowsL n (I 10 0).toNat true).length k) hGk.1 (by omega)) rfl rfl (Nat.le_of_ble_eq_true rfl) (Nat.le_of_ble_eq_true rfl) ?_
          refine rz_ieq (y := (numP (fun v => ((((rowsL n (I 10 0).toNat true).getD (rgAt (btB lw (I 7) (I 8) (I 9) n (rowsL n (I 10 0).toNat true)) (rowsL n (I 10 0).toNat true).length k) []).getD v 0 : Nat) : Int)) n)) (numP_congr (fun v hv => by rw [Nat.mul_comm]; exact (d3 _ _ (getD_get hGk.2) v (by omega)).symm)) ?_
          refine rz_goto (t := 47) dX11_ring_42 rfl ?_
          refine rz_iret dX11_ring_47 rfl ?_
          exact ⟨_, rfl, by rw [rinZ, if_pos (by omega), if_pos (lstB_t m15), rinV, if_pos hlt]; rfl, QC_g42 qc15, hJ⟩
        · refine rz_if_eq (t := 45) dX11_ring_31 rfl (by omega) (fun _ => ?_) (fun q => absurd q (by decide))
          rw [e7, e8, e9] at hlt
          refine rz_bipush dX11_ring_45 (by decide) ?_
          refine rz_iret dX11_ring_47 rfl ?_
          exact ⟨_, rfl, by rw [rinZ, if_pos (by omega), if_pos (lstB_t m15), rinV, if_neg hlt], qc15, hJ⟩
      · refine rz_if_ne (t := 24) dX11_ring_18 rfl (by omega) (fun q => absurd q (by decide)) (fun _ => ?_)
        refine rz_bipush dX11_ring_21 (by decide) ?_
        refine rz_iret dX11_ring_23 rfl ?_
        exact ⟨_, rfl, by rw [rinZ, if_pos (by omega), if_neg (lstB_f m15)], QC_refl h4, fun _ _ _ => rfl⟩
    · exfalso; omega
set_option maxRecDepth 20000 in
set_option maxHeartbeats 400000 in
theorem ring_cn {X : pX} {I J : IM} {h : Nat} {lw : Lw} {n : Nat} (hc : CchI I lw n) (k : Int) (hw : rg k) (h012 : ¬ (0 ≤ k ∧ k ≤ 2)) : KIq X (h + 6) mX11_ring [.ref 0, zi k] I J (fun z A B => z = rinZ lw (I 7) (I 8) (I 9) (I 10) n k ∧ QC I lw n A ∧ ∀ a, a ≠ 44 → a ≠ 45 → B a = J a) := by
  show Rz X (h + 6) mX11_ring 0 [some (.ref 0), some (zi k)] [] I J _
  refine rz_iload_n dX11_ring_0 rfl ?_
  refine rz_if_lt (t := 9) dX11_ring_1 rfl (by omega) (fun c1 => ?_) (fun c1 => ?_)
  · refine rz_iconst dX11_ring_9 ?_
    refine rz_iret dX11_ring_10 rfl ?_
    exact ⟨_, rfl, by rw [rinZ, if_neg (by omega)], QC_refl hc, fun _ _ _ => rfl⟩
  · refine rz_iload_n dX11_ring_4 rfl ?_
    refine rz_iconst dX11_ring_5 ?_
    refine rz_icmp_le (t := 11) dX11_ring_6 rfl (by omega) (by omega) (fun c6 => ?_) (fun c6 => ?_)
    · exfalso; omega
    · refine rz_iconst dX11_ring_9 ?_
      refine rz_iret dX11_ring_10 rfl ?_
      exact ⟨_, rfl, by rw [rinZ, if_neg (by omega)], QC_refl hc, fun _ _ _ => rfl⟩
theorem c_X11_ring {X : pX} {I J : IM} {h : Nat} {lw : Lw} {n : Nat} {m0 m1 : Mx} (hq : CqI I lw n m0 m1) (k : Int) (hk : rg k) : KIq X (h + 6) mX11_ring [.ref 0, zi k] I J (fun z A B => z = rinZ lw (I 7) (I 8) (I 9) (I 10) n k ∧ QC I lw n A ∧ ∀ a, a ≠ 44 → a ≠ 45 → B a = J a) := by
  by_cases e : 0 ≤ k ∧ k ≤ 2
  · obtain ⟨j, rfl⟩ : ∃ j : Nat, k = (j : Int) := ⟨k.toNat, by omega⟩
    exact ring_c hq j (by omega)
  · exact ring_cn hq.2.2.2.1 k hk e
set_option maxRecDepth 20000 in
set_option maxHeartbeats 400000 in
theorem ring_r {X : pX} {I J : IM} {h : Nat} {lw : Lw} {n : Nat} {m0 m1 : Mx} (hq : RqI I lw n m0 m1) (hbk : BOK I) (k0 : Nat) (hk : k0 < 3) : KIq X (h + 9) mX12_ring [.ref 81, zi (k0 : Int)] I J (fun z A B => z = rinZ lw (I 82) (I 83) (I 84) (I 85) n (k0 : Int) ∧ FrR I A ∧ J = B) := by
  obtain ⟨h1, h2, h3, h5, h6, h7⟩ := hq
  have h80 := h7 0 (by decide)
  have h81 := h7 1 (by decide)
  show Rz X (h + 9) mX12_ring 0 [some (.ref 81), some (zi (k0 : Int)), none, none, none] [] I J _
  refine rz_iload_n dX12_ring_0 rfl ?_
  refine rz_iconst dX12_ring_1 ?_
  refine rz_iconst dX12_ring_2 ?_
  refine rz_cSIq dX12_ring_3 kl_RX12_140 (c_X12_in X _ I J (k0 : Int) 0 2 (by omega) (by decide) (by decide)) rfl rfl (Nat.le_of_ble_eq_true rfl) (Nat.le_of_ble_eq_true rfl) ?_
  rintro z3 A3 B3 ⟨⟨rfl, b3⟩ | ⟨rfl, b3⟩, rfl, rfl⟩
  · refine rz_if_ne (t := 11) dX12_ring_6 rfl (by omega) (fun _ => ?_) (fun q => absurd q (by decide))
    refine rz_aload_n dX12_ring_11 rfl ?_
    refine rz_cVIq dX12_ring_12 kl_RX12_335 hd_81 ⟨_, _, rfl⟩ (c_X12_findBoth lw h1 n h2 h3 (I 85 0).toNat (I 85 1).toNat ⟨by omega, by omega⟩ ⟨by omega, by omega⟩ hbk) rfl rfl (Nat.le_of_ble_eq_true rfl) (Nat.le_of_ble_eq_true rfl) ?_
    rintro z12 A12 _ ⟨⟨rfl, m12, ⟨du12, e109⟩, fr12⟩ | ⟨rfl, m12, fr12⟩, rfl⟩
    · refine rz_if_ne (t := 21) dX12_ring_15 rfl (by omega) (fun _ => ?_) (fun q => absurd q (by decide))
      obtain ⟨d1, d2, d3, d4, d5, d6⟩ := du12
      have e82 : A12 82 = I 82 := fr12.1 82 (by decide)
      have e83 : A12 83 = I 83 := fr12.1 83 (by decide)
      have e84 : A12 84 = I 84 := fr12.1 84 (by decide)
      have hl0 := m12.1.2
      have hW9 : ∀ v, v < n → 0 ≤ A12 82 v ∧ A12 82 v ≤ 9 := fun v hv => by rw [e82]; exact (h3 v hv).1
      have hRA : ∀ j, j < (rowsL n (I 85 0).toNat true).length → ∀ v, v < n → A12 107 (5 * j + v) = ((((rowsL n (I 85 0).toNat true).getD j []).getD v 0 : Nat) : Int) ∧ ((rowsL n (I 85 0).toNat true).getD j []).getD v 0 ≤ 9 := fun j hj v hv => ⟨d3 j _ (getD_get hj) v hv, getD_le (rowsL_ok (n := n) (left := (I 85 0).toNat) (all := true) (by omega) _ (List.mem_of_getElem? (getD_get hj))).2 v⟩
      have hBB : ∀ r q, scP lw (A12 82) (A12 83) (A12 84) n r q = scP lw (I 82) (I 83) (I 84) n r q := fun r q => by rw [e82, e83, e84]
      refine rz_iconst dX12_ring_21 ?_
      refine rz_istore_n dX12_ring_22 (by decide) rfl ?_
      refine rz_upx (σ := Unit) (Inv := fun p sp => ∀ y, y < p → rgE (btB lw (I 82) (I 83) (I 84) n (rowsL n (I 85 0).toNat true)) (rowsL n (I 85 0).toNat true).length y = false) (ls := fun (p : Nat) sp => [some (.ref 81), some (zi (k0 : Int)), some (zi (p : Int)), none, none]) (IV := fun (p : Nat) sp => A12) (JV := fun (p : Nat) sp => J) ((rowsL n (I 85 0).toNat true).length) (()) (fun y h => absurd h (by omega)) ⟨Or.inr rfl, Or.inr rfl, Or.inr rfl, Or.inl rfl, Or.inl rfl, trivial⟩ (rfl) (rfl) ?_ ?_
      · intro p sp hp qp ihp
        refine rz_iload_n dX12_ring_23 rfl ?_
        refine rz_aload_n dX12_ring_24 rfl ?_
        refine rz_getI (z := ((rowsL n (I 85 0).toNat true).length : Int)) dX12_ring_25 kf_RX12_329 hd_81 rfl (d1) ?_
        refine rz_icmp_ge (t := 144) dX12_ring_28 rfl (by omega) (by omega) (fun c28 => ?_) (fun c28 => ?_)
        · exfalso; omega
        · refine rz_iload_n dX12_ring_31 rfl ?_
          refine rz_iconst dX12_ring_32 ?_
          refine rz_iadd dX12_ring_33 ?_
          refine rz_istore_n dX12_ring_34 (by decide) rfl ?_
          refine rz_upx (σ := Unit) (Inv := fun q sq => ∀ y, p < y → y < p + 1 + q → rgD (btB lw (I 82) (I 83) (I 84) n (rowsL n (I 85 0).toNat true)) (rowsL n (I 85 0).toNat true).length p y = false) (ls := fun (q : Nat) sq => [some (.ref 81), some (zi (k0 : Int)), some (zi (p : Int)), some (zi ((p + 1 + q : Nat) : Int)), none]) (IV := fun (q : Nat) sq => A12) (JV := fun (q : Nat) sq => J) (((rowsL n (I 85 0).toNat true).length - (p + 1))) (()) (fun y a b => absurd b (by omega)) ⟨Or.inr rfl, Or.inr rfl, Or.inr rfl, Or.inr (congrArg (fun z => some (zi z)) (by omega)), Or.inl rfl, trivial⟩ (rfl) (rfl) ?_ ?_
          · intro q sq hq qq ihq
            refine rz_iload_n dX12_ring_35 rfl ?_
            refine rz_aload_n dX12_ring_36 rfl ?_
            refine rz_getI (z := ((rowsL n (I 85 0).toNat true).length : Int)) dX12_ring_37 kf_RX12_329 hd_81 rfl (d1) ?_
            refine rz_icmp_ge (t := 138) dX12_ring_40 rfl (by omega) (by omega) (fun c40 => ?_) (fun c40 => ?_)
            · exfalso; omega
            · refine rz_aload_n dX12_ring_43 rfl ?_
              refine rz_iload_n dX12_ring_44 rfl ?_
              refine rz_iload_n dX12_ring_45 rfl ?_
              refine rz_cVIq dX12_ring_46 kl_RX12_346 hd_81 ⟨_, _, rfl⟩ (c_X12_beats (I := A12) lw n ⟨d6, h2.2⟩ hW9 p (p + 1 + q) (by omega) (by omega) ((rowsL n (I 85 0).toNat true).getD p []) ((rowsL n (I 85 0).toNat true).getD (p + 1 + q) []) (hRA p (by omega)) (hRA (p + 1 + q) (by omega)) d5) rfl rfl (Nat.le_of_ble_eq_true rfl) (Nat.le_of_ble_eq_true rfl) ?_
              rintro z46 A46 B46 ⟨⟨rfl, b46⟩ | ⟨rfl, b46⟩, rfl, rfl⟩
              · refine rz_if_ne (t := 55) dX12_ring_49 rfl (by omega) (fun _ => ?_) (fun q => absurd q (by decide))
                refine rz_iload_n dX12_ring_55 rfl ?_
                refine rz_iconst dX12_ring_56 ?_
                refine rz_iadd dX12_ring_57 ?_
                refine rz_istore dX12_ring_58 (by decide) rfl ?_
                refine rz_upx (σ := Unit) (Inv := fun k sk => ∀ y, p < y → y < p + 1 + k → rgC (btB lw (I 82) (I 83) (I 84) n (rowsL n (I 85 0).toNat true)) p (p + 1 + q) y = false) (ls := fun (k : Nat) sk => [some (.ref 81), some (zi (k0 : Int)), some (zi (p : Int)), some (zi ((p + 1 + q : Nat) : Int)), some (zi ((p + 1 + k : Nat) : Int))]) (IV := fun (k : Nat) sk => A12) (JV := fun (k : Nat) sk => J) (((rowsL n (I 85 0).toNat true).length - (p + 1))) (()) (fun y a b => absurd b (by omega)) ⟨Or.inr rfl, Or.inr rfl, Or.inr rfl, Or.inr rfl, Or.inr (congrArg (fun z => some (zi z)) (by omega)), trivial⟩ (rfl) (rfl) ?_ ?_
                · intro k sk hk qk ihk
                  refine rz_iload dX12_ring_60 rfl ?_
                  refine rz_aload_n dX12_ring_62 rfl ?_
                  refine rz_getI (z := ((rowsL n (I 85 0).toNat true).length : Int)) dX12_ring_63 kf_RX12_329 hd_81 rfl (d1) ?_
                  refine rz_icmp_ge (t := 132) dX12_ring_66 rfl (by omega) (by omega) (fun c66 => ?_) (fun c66 => ?_)
                  · exfalso; omega
                  · refine rz_iload dX12_ring_69 rfl ?_
                    refine rz_iload_n dX12_ring_71 rfl ?_
                    refine rz_icmp_eq (t := 126) dX12_ring_72 rfl (by omega) (by omega) (fun c72 => ?_) (fun c72 => ?_)
                    · refine rz_iinc dX12_ring_126 (by decide) rfl rfl rfl ?_
                      refine rz_goto (t := 60) dX12_ring_129 rfl ?_
                      exact rz_bk (ihk (()) ((fun y a b => by by_cases e : y = (p + 1 + k); (subst e; first | exact rgC_n1 (by omega) | exact rgC_n2 (btB_f (by rw [← hBB]; exact b79)) | exact rgC_n3 (btB_f (by rw [← hBB]; exact b89))); exact qk y a (by omega)))) ⟨Or.inr rfl, Or.inr rfl, Or.inr rfl, Or.inr rfl, Or.inr (congrArg (fun z => some (zi z)) (by omega)), trivial⟩ (rfl) (rfl)
                    · refine rz_aload_n dX12_ring_75 rfl ?_
                      refine rz_iload_n dX12_ring_76 rfl ?_
                      refine rz_iload dX12_ring_77 rfl ?_
                      refine rz_cVIq dX12_ring_79 kl_RX12_346 hd_81 ⟨_, _, rfl⟩ (c_X12_beats (I := A12) lw n ⟨d6, h2.2⟩ hW9 (p + 1 + q) (p + 1 + k) (by omega) (by omega) ((rowsL n (I 85 0).toNat true).getD (p + 1 + q) []) ((rowsL n (I 85 0).toNat true).getD (p + 1 + k) []) (hRA (p + 1 + q) (by omega)) (hRA (p + 1 + k) (by omega)) d5) rfl rfl (Nat.le_of_ble_eq_true rfl) (Nat.le_of_ble_eq_true rfl) ?_
                      rintro z79 A79 B79 ⟨⟨rfl, b79⟩ | ⟨rfl, b79⟩, rfl, rfl⟩
                      · refine rz_if_eq (t := 126) dX12_ring_82 rfl (by omega) (fun q => absurd q (by decide)) (fun _ => ?_)
                        refine rz_aload_n dX12_ring_85 rfl ?_
                        refine rz_iload dX12_ring_86 rfl ?_
                        refine rz_iload_n dX12_ring_88 rfl ?_
                        refine rz_cVIq dX12_ring_89 kl_RX12_346 hd_81 ⟨_, _, rfl⟩ (c_X12_beats (I := A12) lw n ⟨d6, h2.2⟩ hW9 (p + 1 + k) p (by omega) (by omega) ((rowsL n (I 85 0).toNat true).getD (p + 1 + k) []) ((rowsL n (I 85 0).toNat true).getD p []) (hRA (p + 1 + k) (by omega)) (hRA p (by omega)) d5) rfl rfl (Nat.le_of_ble_eq_true rfl) (Nat.le_of_ble_eq_true rfl) ?_
                        rintro z89 A89 B89 ⟨⟨rfl, b89⟩ | ⟨rfl, b89⟩, rfl, rfl⟩
                        · refine rz_if_eq (t := 126) dX12_ring_92 rfl (by omega) (fun q => absurd q (by decide)) (fun _ => ?_)
                          refine rz_aload_n dX12_ring_95 rfl ?_
                          refine rz_getR dX12_ring_96 kf_RX12_87 hd_81 rfl rr_81_38 ?_
                          refine rz_iload_n dX12_ring_99 rfl ?_
                          refine rz_if_ne (t := 107) dX12_ring_100 rfl (by omega) (fun c100 => ?_) (fun c100 => ?_)
                          · refine rz_iload_n dX12_ring_107 rfl ?_
                            refine rz_iconst dX12_ring_108 ?_
                            refine rz_icmp_ne (t := 116) dX12_ring_109 rfl (by omega) (by omega) (fun c109 => ?_) (fun c109 => ?_)
                            · refine rz_iload dX12_ring_116 rfl ?_
                              refine rz_aload_n dX12_ring_118 rfl ?_
                              refine rz_getI (z := (n : Int)) dX12_ring_119 kf_RX12_137 hd_81 rfl (d6) ?_
                              refine rz_cSI dX12_ring_122 kl_RX12_342 (c_X12_numberIn X _ A12 J n (p + 1 + k) 107 1500 h2.2 hd_107 (by decide) (by omega)) rfl rfl (Nat.le_of_ble_eq_true rfl) (Nat.le_of_ble_eq_true rfl) ?_
                              refine rz_ieq (y := (numP (fun v => ((((rowsL n (I 85 0).toNat true).getD (p + 1 + k) []).getD v 0 : Nat) : Int)) n)) (numP_congr (fun v hv => (hRA (p + 1 + k) (by omega) v hv).1.symm)) ?_
                              refine rz_iret dX12_ring_125 rfl ?_
                              have hR : rgR (btB lw (I 82) (I 83) (I 84) n (rowsL n (I 85 0).toNat true)) (rowsL n (I 85 0).toNat true).length p (p + 1 + q) = (p + 1 + k) := rgR_at (by omega) (by omega) (fun y a b => qk y a (by omega)) (rgC_y (by omega) (btB_t (by rw [← hBB]; exact b79)) (btB_t (by rw [← hBB]; exact b89)))
                              have hQ : rgQ (btB lw (I 82) (I 83) (I 84) n (rowsL n (I 85 0).toNat true)) (rowsL n (I 85 0).toNat true).length p = (p + 1 + q) := rgQ_at (by omega) (by omega) (fun y a b => qq y a (by omega)) (rgD_y (btB_t (by rw [← hBB]; exact b46)) hR (by omega))
                              have hP : rgP (btB lw (I 82) (I 83) (I 84) n (rowsL n (I 85 0).toNat true)) (rowsL n (I 85 0).toNat true).length = p := rgP_at hp (fun y a => qp y a) (rgE_y hQ (by omega))
                              have hA : rgAt (btB lw (I 82) (I 83) (I 84) n (rowsL n (I 85 0).toNat true)) (rowsL n (I 85 0).toNat true).length k0 = (p + 1 + k) := by rw [rgAt, if_neg (by omega), if_neg (by omega), hP, hQ, hR]
                              exact ⟨_, rfl, by rw [rinZ, if_pos (by omega), if_pos (lstB_t m12), rinV, if_pos (by rw [hP]; exact hp), show ((k0 : Int)).toNat = k0 from rfl, hA], fr12, rfl⟩
                            · refine rz_iload_n dX12_ring_112 rfl ?_
                              refine rz_goto (t := 118) dX12_ring_113 rfl ?_
                              refine rz_aload_n dX12_ring_118 rfl ?_
                              refine rz_getI (z := (n : Int)) dX12_ring_119 kf_RX12_137 hd_81 rfl (d6) ?_
                              refine rz_cSI dX12_ring_122 kl_RX12_342 (c_X12_numberIn X _ A12 J n (p + 1 + q) 107 1500 h2.2 hd_107 (by decide) (by omega)) rfl rfl (Nat.le_of_ble_eq_true rfl) (Nat.le_of_ble_eq_true rfl) ?_
                              refine rz_ieq (y := (numP (fun v => ((((rowsL n (I 85 0).toNat true).getD (p + 1 + q) []).getD v 0 : Nat) : Int)) n)) (numP_congr (fun v hv => (hRA (p + 1 + q) (by omega) v hv).1.symm)) ?_
                              refine rz_iret dX12_ring_125 rfl ?_
                              have hR : rgR (btB lw (I 82) (I 83) (I 84) n (rowsL n (I 85 0).toNat true)) (rowsL n (I 85 0).toNat true).length p (p + 1 + q) = (p + 1 + k) := rgR_at (by omega) (by omega) (fun y a b => qk y a (by omega)) (rgC_y (by omega) (btB_t (by rw [← hBB]; exact b79)) (btB_t (by rw [← hBB]; exact b89)))
                              have hQ : rgQ (btB lw (I 82) (I 83) (I 84) n (rowsL n (I 85 0).toNat true)) (rowsL n (I 85 0).toNat true).length p = (p + 1 + q) := rgQ_at (by omega) (by omega) (fun y a b => qq y a (by omega)) (rgD_y (btB_t (by rw [← hBB]; exact b46)) hR (by omega))
                              have hP : rgP (btB lw (I 82) (I 83) (I 84) n (rowsL n (I 85 0).toNat true)) (rowsL n (I 85 0).toNat true).length = p := rgP_at hp (fun y a => qp y a) (rgE_y hQ (by omega))
                              have hA : rgAt (btB lw (I 82) (I 83) (I 84) n (rowsL n (I 85 0).toNat true)) (rowsL n (I 85 0).toNat true).length k0 = (p + 1 + q) := by rw [rgAt, if_neg (by omega), if_pos (by omega), hP, hQ]
                              exact ⟨_, rfl, by rw [rinZ, if_pos (by omega), if_pos (lstB_t m12), rinV, if_pos (by rw [hP]; exact hp), show ((k0 : Int)).toNat = k0 from rfl, hA], fr12, rfl⟩
                          · refine rz_iload_n dX12_ring_103 rfl ?_
                            refine rz_goto (t := 118) dX12_ring_104 rfl ?_
                            refine rz_aload_n dX12_ring_118 rfl ?_
                            refine rz_getI (z := (n : Int)) dX12_ring_119 kf_RX12_137 hd_81 rfl (d6) ?_
                            refine rz_cSI dX12_ring_122 kl_RX12_342 (c_X12_numberIn X _ A12 J n p 107 1500 h2.2 hd_107 (by decide) (by omega)) rfl rfl (Nat.le_of_ble_eq_true rfl) (Nat.le_of_ble_eq_true rfl) ?_
                            refine rz_ieq (y := (numP (fun v => ((((rowsL n (I 85 0).toNat true).getD p []).getD v 0 : Nat) : Int)) n)) (numP_congr (fun v hv => (hRA p (by omega) v hv).1.symm)) ?_
                            refine rz_iret dX12_ring_125 rfl ?_
                            have hR : rgR (btB lw (I 82) (I 83) (I 84) n (rowsL n (I 85 0).toNat true)) (rowsL n (I 85 0).toNat true).length p (p + 1 + q) = (p + 1 + k) := rgR_at (by omega) (by omega) (fun y a b => qk y a (by omega)) (rgC_y (by omega) (btB_t (by rw [← hBB]; exact b79)) (btB_t (by rw [← hBB]; exact b89)))
                            have hQ : rgQ (btB lw (I 82) (I 83) (I 84) n (rowsL n (I 85 0).toNat true)) (rowsL n (I 85 0).toNat true).length p = (p + 1 + q) := rgQ_at (by omega) (by omega) (fun y a b => qq y a (by omega)) (rgD_y (btB_t (by rw [← hBB]; exact b46)) hR (by omega))
                            have hP : rgP (btB lw (I 82) (I 83) (I 84) n (rowsL n (I 85 0).toNat true)) (rowsL n (I 85 0).toNat true).length = p := rgP_at hp (fun y a => qp y a) (rgE_y hQ (by omega))
                            have hA : rgAt (btB lw (I 82) (I 83) (I 84) n (rowsL n (I 85 0).toNat true)) (rowsL n (I 85 0).toNat true).length k0 = p := by rw [rgAt, if_pos (by omega), hP]
                            exact ⟨_, rfl, by rw [rinZ, if_pos (by omega), if_pos (lstB_t m12), rinV, if_pos (by rw [hP]; exact hp), show ((k0 : Int)).toNat = k0 from rfl, hA], fr12, rfl⟩
                        · refine rz_if_eq (t := 126) dX12_ring_92 rfl (by omega) (fun _ => ?_) (fun q => absurd q (by decide))
                          refine rz_iinc dX12_ring_126 (by decide) rfl rfl rfl ?_
                          refine rz_goto (t := 60) dX12_ring_129 rfl ?_
                          exact rz_bk (ihk (()) ((fun y a b => by by_cases e : y = (p + 1 + k); (subst e; first | exact rgC_n1 (by omega) | exact rgC_n2 (btB_f (by rw [← hBB]; exact b79)) | exact rgC_n3 (btB_f (by rw [← hBB]; exact b89))); exact qk y a (by omega)))) ⟨Or.inr rfl, Or.inr rfl, Or.inr rfl, Or.inr rfl, Or.inr (congrArg (fun z => some (zi z)) (by omega)), trivial⟩ (rfl) (rfl)
                      · refine rz_if_eq (t := 126) dX12_ring_82 rfl (by omega) (fun _ => ?_) (fun q => absurd q (by decide))
                        refine rz_iinc dX12_ring_126 (by decide) rfl rfl rfl ?_
                        refine rz_goto (t := 60) dX12_ring_129 rfl ?_
                        exact rz_bk (ihk (()) ((fun y a b => by by_cases e : y = (p + 1 + k); (subst e; first | exact rgC_n1 (by omega) | exact rgC_n2 (btB_f (by rw [← hBB]; exact b79)) | exact rgC_n3 (btB_f (by rw [← hBB]; exact b89))); exact qk y a (by omega)))) ⟨Or.inr rfl, Or.inr rfl, Or.inr rfl, Or.inr rfl, Or.inr (congrArg (fun z => some (zi z)) (by omega)), trivial⟩ (rfl) (rfl)
                · intro sk qk
                  refine rz_iload dX12_ring_60 rfl ?_
                  refine rz_aload_n dX12_ring_62 rfl ?_
                  refine rz_getI (z := ((rowsL n (I 85 0).toNat true).length : Int)) dX12_ring_63 kf_RX12_329 hd_81 rfl (d1) ?_
                  refine rz_icmp_ge (t := 132) dX12_ring_66 rfl (by omega) (by omega) (fun c66 => ?_) (fun c66 => ?_)
                  · refine rz_iinc dX12_ring_132 (by decide) rfl rfl rfl ?_
                    refine rz_goto (t := 35) dX12_ring_135 rfl ?_
                    exact rz_bk (ihq (()) ((fun y a b => by by_cases e : y = (p + 1 + q); (subst e; first | exact rgD_n1 (btB_f (by rw [← hBB]; exact b46)) | exact rgD_n2 (rgR_no hp (fun x a b => qk x a (by omega)))); exact qq y a (by omega)))) ⟨Or.inr rfl, Or.inr rfl, Or.inr rfl, Or.inr (congrArg (fun z => some (zi z)) (by omega)), Or.inl rfl, trivial⟩ (rfl) (rfl)
                  · exfalso; omega
              · refine rz_if_ne (t := 55) dX12_ring_49 rfl (by omega) (fun q => absurd q (by decide)) (fun _ => ?_)
                refine rz_goto (t := 132) dX12_ring_52 rfl ?_
                refine rz_iinc dX12_ring_132 (by decide) rfl rfl rfl ?_
                refine rz_goto (t := 35) dX12_ring_135 rfl ?_
                exact rz_bk (ihq (()) ((fun y a b => by by_cases e : y = (p + 1 + q); (subst e; first | exact rgD_n1 (btB_f (by rw [← hBB]; exact b46)) | exact rgD_n2 (rgR_no hp (fun x a b => qk x a (by omega)))); exact qq y a (by omega)))) ⟨Or.inr rfl, Or.inr rfl, Or.inr rfl, Or.inr (congrArg (fun z => some (zi z)) (by omega)), Or.inl rfl, trivial⟩ (rfl) (rfl)
          · intro sq qq
            refine rz_iload_n dX12_ring_35 rfl ?_
            refine rz_aload_n dX12_ring_36 rfl ?_
            refine rz_getI (z := ((rowsL n (I 85 0).toNat true).length : Int)) dX12_ring_37 kf_RX12_329 hd_81 rfl (d1) ?_
            refine rz_icmp_ge (t := 138) dX12_ring_40 rfl (by omega) (by omega) (fun c40 => ?_) (fun c40 => ?_)
            · refine rz_iinc dX12_ring_138 (by decide) rfl rfl rfl ?_
              refine rz_goto (t := 23) dX12_ring_141 rfl ?_
              exact rz_bk (ihp (()) ((fun y h => by by_cases e : y = p; (subst e; exact rgE_n (rgQ_no hp (fun x a b => qq x a (by omega)))); exact qp y (by omega)))) ⟨Or.inr rfl, Or.inr rfl, Or.inr rfl, Or.inl rfl, Or.inl rfl, trivial⟩ (rfl) (rfl)
            · exfalso; omega
      · intro sp qp
        refine rz_iload_n dX12_ring_23 rfl ?_
        refine rz_aload_n dX12_ring_24 rfl ?_
        refine rz_getI (z := ((rowsL n (I 85 0).toNat true).length : Int)) dX12_ring_25 kf_RX12_329 hd_81 rfl (d1) ?_
        refine rz_icmp_ge (t := 144) dX12_ring_28 rfl (by omega) (by omega) (fun c28 => ?_) (fun c28 => ?_)
        · refine rz_bipush dX12_ring_144 (by decide) ?_
          refine rz_iret dX12_ring_146 rfl ?_
          exact ⟨_, rfl, by rw [rinZ, if_pos (by omega), if_pos (lstB_t m12), rinV, if_neg (by rw [rgP_no (fun y a => qp y a)]; omega)], fr12, rfl⟩
        · exfalso; omega
    · refine rz_if_ne (t := 21) dX12_ring_15 rfl (by omega) (fun q => absurd q (by decide)) (fun _ => ?_)
      refine rz_bipush dX12_ring_18 (by decide) ?_
      refine rz_iret dX12_ring_20 rfl ?_
      exact ⟨_, rfl, by rw [rinZ, if_pos (by omega), if_neg (lstB_f m12)], fr12, rfl⟩
  · exfalso; omega
set_option maxRecDepth 20000 in
set_option maxHeartbeats 400000 in
theorem ring_rn {X : pX} {I J : IM} {h : Nat} {lw : Lw} {n : Nat} (k : Int) (hw : rg k) (h012 : ¬ (0 ≤ k ∧ k ≤ 2)) : KIq X (h + 9) mX12_ring [.ref 81, zi k] I J (fun z A B => z = rinZ lw (I 82) (I 83) (I 84) (I 85) n k ∧ FrR I A ∧ J = B) := by
  show Rz X (h + 9) mX12_ring 0 [some (.ref 81), some (zi k), none, none, none] [] I J _
  refine rz_iload_n dX12_ring_0 rfl ?_
  refine rz_iconst dX12_ring_1 ?_
  refine rz_iconst dX12_ring_2 ?_
  refine rz_cSIq dX12_ring_3 kl_RX12_140 (c_X12_in X _ I J k 0 2 (by omega) (by decide) (by decide)) rfl rfl (Nat.le_of_ble_eq_true rfl) (Nat.le_of_ble_eq_true rfl) ?_
  rintro z3 _ _ hz3
  obtain ⟨rfl, rfl, rfl⟩ := BQ_no h012 hz3
  refine rz_if_ne (t := 11) dX12_ring_6 rfl (by omega) (fun q => absurd q (by decide)) (fun _ => ?_)
  refine rz_iconst dX12_ring_9 ?_
  refine rz_iret dX12_ring_10 rfl ?_
  exact ⟨_, rfl, by rw [rinZ, if_neg (by omega)], FrR_refl, rfl⟩
theorem c_X12_ring {X : pX} {I J : IM} {h : Nat} {lw : Lw} {n : Nat} {m0 m1 : Mx} (hq : RqI I lw n m0 m1) (hbk : BOK I) (k : Int) (hk : rg k) : KIq X (h + 9) mX12_ring [.ref 81, zi k] I J (fun z A B => z = rinZ lw (I 82) (I 83) (I 84) (I 85) n k ∧ FrR I A ∧ J = B) := by
  by_cases e : 0 ≤ k ∧ k ≤ 2
  · obtain ⟨j, rfl⟩ : ∃ j : Nat, k = (j : Int) := ⟨k.toNat, by omega⟩
    exact ring_r hq hbk j (by omega)
  · exact ring_rn k hk e
