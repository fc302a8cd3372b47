/-! safest, both sides -/
def fmN (t : Nat → Int) : Nat → Int × Nat
  | 0 => (301, 0)
  | k + 1 => if t k < (fmN t k).1 then (t k, k) else fmN t k
theorem fmN_y {t : Nat → Int} {k : Nat} (h : t k < (fmN t k).1) : fmN t (k + 1) = (t k, k) := if_pos h
theorem fmN_n {t : Nat → Int} {k : Nat} (h : ¬ t k < (fmN t k).1) : fmN t (k + 1) = fmN t k := if_neg h
theorem fmN_rg {t : Nat → Int} (ht : ∀ k, 0 ≤ t k ∧ t k ≤ 300) : ∀ k, (0 ≤ (fmN t k).1 ∧ (fmN t k).1 ≤ 301) ∧ (1 ≤ k → (fmN t k).1 ≤ 300 ∧ (fmN t k).2 < k)
  | 0 => ⟨by show 0 ≤ (301 : Int) ∧ (301 : Int) ≤ 301; omega, fun h => by omega⟩
  | k + 1 => by
    have ih := fmN_rg ht k
    have h := ht k
    by_cases e : t k < (fmN t k).1
    · rw [fmN_y e]; exact ⟨by show 0 ≤ t k ∧ t k ≤ 301; omega, fun _ => ⟨by show t k ≤ 300; omega, Nat.lt_succ_self k⟩⟩
    · rw [fmN_n e]
      refine ⟨ih.1, fun _ => ⟨by omega, ?_⟩⟩
      by_cases e2 : 1 ≤ k
      · have := (ih.2 e2).2; omega
      · obtain rfl : k = 0 := by omega
        exact absurd (show t 0 < (301 : Int) by omega) e
def lossN (b : Nat) (lw : Lw) (W T U : Nat → Int) (n : Nat) (L L2 : List (List Nat)) : Nat → Int := fun i => cntP (lsB b lw W T U n (L.getD i []) L2) L2.length
theorem lossN_rg {b : Nat} {lw : Lw} {W T U : Nat → Int} {n : Nat} {L L2 : List (List Nat)} (h : L2.length ≤ 300) (k : Nat) : 0 ≤ lossN b lw W T U n L L2 k ∧ lossN b lw W T U n L L2 k ≤ 300 := by
  have := cntP_bd (p := lsB b lw W T U n (L.getD k []) L2) L2.length
  unfold lossN
  omega
def safV (b : Nat) (lw : Lw) (W T U : Nat → Int) (n : Nat) (L L2 : List (List Nat)) (what : Int) : Int := if what = 0 then numP (fun v => (((L.getD (fmN (lossN b lw W T U n L L2) L.length).2 []).getD v 0 : Nat) : Int)) n else (fmN (lossN b lw W T U n L L2) L.length).1
def safZ (lw : Lw) (W T U Q : Nat → Int) (n : Nat) (b what : Int) : Int := if (b = 0 ∨ b = 1) ∧ (what = 0 ∨ what = 1) then (if lstB n (Q 0).toNat (Q 1).toNat = true then (if b = 0 then safV 0 lw W T U n (rowsL n (Q 0).toNat true) (rowsL n (Q 1).toNat true) what else safV 1 lw W T U n (rowsL n (Q 1).toNat true) (rowsL n (Q 0).toNat true) what) else -5) else -1
theorem getD_get {L : List (List Nat)} {j : Nat} (h : j < L.length) : L[j]? = some (L.getD j []) := by
  rw [List.getD_eq_getElem?_getD, List.getElem?_eq_getElem h]; rfl
set_option maxRecDepth 20000 in
set_option maxHeartbeats 400000 in
theorem c_numberAt0 {X : pX} {I J : IM} {h : Nat} (n : Nat) (hn : I 6 0 = n ∧ n ≤ 5) (k : Nat) (hk : k < 300) : KI X (h + 1) mX3_numberAt [.ref 32, zi 0, zi (k : Int)] I J (numP (fun v => I 40 (k * 5 + v)) n) I J := by
  show Rz X (h + 1) mX3_numberAt 0 [some (.ref 32), some (zi 0), some (zi (k : Int))] [] I J _
  refine rz_aload_n dX3_numberAt_0 rfl ?_
  refine rz_getR dX3_numberAt_1 kf_RX3_7 hd_32 rfl rr_32_4 ?_
  refine rz_aload_n dX3_numberAt_4 rfl ?_
  refine rz_getR dX3_numberAt_5 kf_RX3_35 hd_32 rfl rr_32_8 ?_
  refine rz_iload_n dX3_numberAt_8 rfl ?_
  refine rz_aald (by decide) dX3_numberAt_9 hd_39 (by decide) (by decide) rr_39_0 ?_
  refine rz_iload_n dX3_numberAt_10 rfl ?_
  refine rz_iconst dX3_numberAt_11 ?_
  refine rz_imul dX3_numberAt_12 ?_
  refine rz_cVI dX3_numberAt_13 kl_RX3_90 hd_6 ⟨_, _, rfl⟩ ((show KI X _ mX8_numberOf [.ref 6, .ref 40, zi ((k : Int) * 5)] I J _ I J from c_numberOf X _ I J n 40 1500 (k * 5) hn hd_40 (by decide) (by omega))) rfl rfl (Nat.le_of_ble_eq_true rfl) (Nat.le_of_ble_eq_true rfl) ?_
  refine rz_iret dX3_numberAt_16 rfl ?_
  exact ⟨_, rfl, rfl, rfl, rfl⟩
set_option maxRecDepth 20000 in
set_option maxHeartbeats 400000 in
theorem c_safe0 {X : pX} {I J : IM} {h : Nat} (lw : Lw) (n : Nat) (hn5 : n ≤ 5) (hW : ∀ v, v < n → 0 ≤ I 7 v ∧ I 7 v ≤ 9) (N0 N1 : Nat) (hN0 : N0 ≤ 9) (hN1 : N1 ≤ 9) (hd : DuC I lw n N0 N1) (hm : mayL n N0 N1) (what : Int) (hw : rg what) : KI X (h + 2) mX3_safe [.ref 32, zi 0, zi what] I J (safV 0 lw (I 7) (I 8) (I 9) n (rowsL n N0 true) (rowsL n N1 true) what) I J := by
  obtain ⟨d1, d2, d3, d4, d5, d6⟩ := hd
  have hge : 1 ≤ (rowsL n N0 true).length := hm.1.1
  have hL0 := hm.1.2
  have hL1 := hm.2.2
  show Rz X (h + 2) mX3_safe 0 [some (.ref 32), some (zi 0), some (zi what), none, none, none, none] [] I J _
  refine rz_sipush dX3_safe_0 (by decide) ?_
  refine rz_istore_n dX3_safe_3 (by decide) rfl ?_
  refine rz_iconst dX3_safe_4 ?_
  refine rz_istore dX3_safe_5 (by decide) rfl ?_
  refine rz_iconst dX3_safe_7 ?_
  refine rz_istore (ls' := [some (.ref 32), some (zi 0), some (zi what), some (zi 301), some (zi 0), some (zi 0), none]) dX3_safe_8 (by decide) rfl ?_
  refine rz_upx (σ := Unit) (Inv := fun k sk => True) (ls := fun (k : Nat) sk => [some (.ref 32), some (zi 0), some (zi what), some (zi ((fmN (lossN 0 lw (I 7) (I 8) (I 9) n (rowsL n N0 true) (rowsL n N1 true)) k).1)), some (zi (((fmN (lossN 0 lw (I 7) (I 8) (I 9) n (rowsL n N0 true) (rowsL n N1 true)) k).2 : Nat) : Int)), some (zi (k : Int)), none]) (IV := fun (k : Nat) sk => I) (JV := fun (k : Nat) sk => J) ((rowsL n N0 true).length) (()) trivial ⟨Or.inr rfl, Or.inr rfl, Or.inr rfl, Or.inr rfl, Or.inr rfl, Or.inr rfl, Or.inl rfl, trivial⟩ (rfl) (rfl) ?_ ?_
  · intro k sk hk qk ihk
    have hfr := fmN_rg (t := (lossN 0 lw (I 7) (I 8) (I 9) n (rowsL n N0 true) (rowsL n N1 true))) (lossN_rg hL1) k
    have htk := lossN_rg (b := 0) (lw := lw) (W := I 7) (T := I 8) (U := I 9) (n := n) (L := (rowsL n N0 true)) hL1 k
    have hwd := (rowsL_ok (n := n) (left := N0) (all := true) hN0 _ (List.mem_of_getElem? (getD_get hk))).2
    refine rz_iload dX3_safe_10 rfl ?_
    refine rz_aload_n dX3_safe_12 rfl ?_
    refine rz_getR dX3_safe_13 kf_RX3_27 hd_32 rfl rr_32_7 ?_
    refine rz_iload_n dX3_safe_16 rfl ?_
    refine rz_iald (z := ((rowsL n N0 true).length : Int)) dX3_safe_17 hd_38 (by decide) (by omega) d1 ?_
    refine rz_icmp_ge (t := 58) dX3_safe_18 rfl (by omega) (by omega) (fun c18 => ?_) (fun c18 => ?_)
    · exfalso; omega
    · refine rz_aload_n dX3_safe_21 rfl ?_
      refine rz_iload_n dX3_safe_22 rfl ?_
      refine rz_aload_n dX3_safe_23 rfl ?_
      refine rz_getR dX3_safe_24 kf_RX3_35 hd_32 rfl rr_32_8 ?_
      refine rz_iload_n dX3_safe_27 rfl ?_
      refine rz_aald (by decide) dX3_safe_28 hd_39 (by decide) (by decide) rr_39_0 ?_
      refine rz_iload dX3_safe_29 rfl ?_
      refine rz_iconst dX3_safe_31 ?_
      refine rz_imul dX3_safe_32 ?_
      refine rz_iload_n dX3_safe_33 rfl ?_
      refine rz_cVI dX3_safe_34 kl_RX3_101 hd_32 ⟨_, _, rfl⟩ ((show KI X _ mX3_losses [.ref 32, zi 0, .ref 40, zi ((k : Int) * 5), zi ((fmN (lossN 0 lw (I 7) (I 8) (I 9) n (rowsL n N0 true) (rowsL n N1 true)) k).1)] I J _ I J from c_losses0 lw n ⟨d6, hn5⟩ hW N1 hN1 40 (k * 5) 1500 ((rowsL n N0 true).getD k []) rfl ⟨by omega, by omega⟩ (fun v hv => ⟨by rw [show k * 5 + v = 5 * k + v by omega]; exact d3 k _ (getD_get hk) v (by omega), getD_le hwd v⟩) d5 d2 hL1 d4 (fmN (lossN 0 lw (I 7) (I 8) (I 9) n (rowsL n N0 true) (rowsL n N1 true)) k).1 hfr.1.1 hfr.1.2)) rfl rfl (Nat.le_of_ble_eq_true rfl) (Nat.le_of_ble_eq_true rfl) ?_
      refine rz_ieq (y := min ((lossN 0 lw (I 7) (I 8) (I 9) n (rowsL n N0 true) (rowsL n N1 true)) k) (fmN (lossN 0 lw (I 7) (I 8) (I 9) n (rowsL n N0 true) (rowsL n N1 true)) k).1) rfl ?_
      refine rz_istore dX3_safe_37 (by decide) rfl ?_
      refine rz_iload dX3_safe_39 rfl ?_
      refine rz_iload_n dX3_safe_41 rfl ?_
      refine rz_icmp_ge (t := 52) dX3_safe_42 rfl (by omega) (by omega) (fun c42 => ?_) (fun c42 => ?_)
      · refine rz_iinc dX3_safe_52 (by decide) rfl rfl rfl ?_
        refine rz_goto (t := 10) dX3_safe_55 rfl ?_
        exact rz_bk (ihk (()) (trivial)) ⟨Or.inr rfl, Or.inr rfl, Or.inr rfl, Or.inr (congrArg (fun z => some (zi z)) (by first | (rw [fmN_y (by omega)]; show (lossN 0 lw (I 7) (I 8) (I 9) n (rowsL n N0 true) (rowsL n N1 true)) k = _; omega) | (rw [fmN_n (by omega)]))), Or.inr (congrArg (fun z => some (zi z)) (by first | (rw [fmN_y (by omega)]) | (rw [fmN_n (by omega)]))), Or.inr rfl, Or.inl rfl, trivial⟩ (rfl) (rfl)
      · refine rz_iload dX3_safe_45 rfl ?_
        refine rz_istore_n dX3_safe_47 (by decide) rfl ?_
        refine rz_iload dX3_safe_48 rfl ?_
        refine rz_istore (ls' := [some (.ref 32), some (zi 0), some (zi what), some (zi (min ((lossN 0 lw (I 7) (I 8) (I 9) n (rowsL n N0 true) (rowsL n N1 true)) k) (fmN (lossN 0 lw (I 7) (I 8) (I 9) n (rowsL n N0 true) (rowsL n N1 true)) k).1)), some (zi (k : Int)), some (zi (k : Int)), some (zi (min ((lossN 0 lw (I 7) (I 8) (I 9) n (rowsL n N0 true) (rowsL n N1 true)) k) (fmN (lossN 0 lw (I 7) (I 8) (I 9) n (rowsL n N0 true) (rowsL n N1 true)) k).1))]) dX3_safe_50 (by decide) rfl ?_
        refine rz_iinc dX3_safe_52 (by decide) rfl rfl rfl ?_
        refine rz_goto (t := 10) dX3_safe_55 rfl ?_
        exact rz_bk (ihk (()) (trivial)) ⟨Or.inr rfl, Or.inr rfl, Or.inr rfl, Or.inr (congrArg (fun z => some (zi z)) (by first | (rw [fmN_y (by omega)]; show (lossN 0 lw (I 7) (I 8) (I 9) n (rowsL n N0 true) (rowsL n N1 true)) k = _; omega) | (rw [fmN_n (by omega)]))), Or.inr (congrArg (fun z => some (zi z)) (by first | (rw [fmN_y (by omega)]) | (rw [fmN_n (by omega)]))), Or.inr rfl, Or.inl rfl, trivial⟩ (rfl) (rfl)
  · intro sk qk
    have hfe := fmN_rg (t := (lossN 0 lw (I 7) (I 8) (I 9) n (rowsL n N0 true) (rowsL n N1 true))) (lossN_rg hL1) (rowsL n N0 true).length
    refine rz_iload dX3_safe_10 rfl ?_
    refine rz_aload_n dX3_safe_12 rfl ?_
    refine rz_getR dX3_safe_13 kf_RX3_27 hd_32 rfl rr_32_7 ?_
    refine rz_iload_n dX3_safe_16 rfl ?_
    refine rz_iald (z := ((rowsL n N0 true).length : Int)) dX3_safe_17 hd_38 (by decide) (by omega) d1 ?_
    refine rz_icmp_ge (t := 58) dX3_safe_18 rfl (by omega) (by omega) (fun c18 => ?_) (fun c18 => ?_)
    · refine rz_iload_n dX3_safe_58 rfl ?_
      refine rz_if_ne (t := 72) dX3_safe_59 rfl (by omega) (fun c59 => ?_) (fun c59 => ?_)
      · refine rz_iload_n dX3_safe_72 rfl ?_
        refine rz_iret dX3_safe_73 rfl ?_
        exact ⟨_, rfl, by rw [safV, if_neg (by assumption)], rfl, rfl⟩
      · refine rz_aload_n dX3_safe_62 rfl ?_
        refine rz_iload_n dX3_safe_63 rfl ?_
        refine rz_iload dX3_safe_64 rfl ?_
        refine rz_cVI dX3_safe_66 kl_RX3_105 hd_32 ⟨_, _, rfl⟩ (c_numberAt0 n ⟨d6, hn5⟩ (fmN (lossN 0 lw (I 7) (I 8) (I 9) n (rowsL n N0 true) (rowsL n N1 true)) (rowsL n N0 true).length).2 (by have := (hfe.2 hge).2; omega)) rfl rfl (Nat.le_of_ble_eq_true rfl) (Nat.le_of_ble_eq_true rfl) ?_
        refine rz_goto (t := 73) dX3_safe_69 rfl ?_
        refine rz_iret dX3_safe_73 rfl ?_
        refine ⟨_, rfl, ?_, rfl, rfl⟩
        rw [safV, if_pos (by assumption)]
        have hlt := (hfe.2 hge).2
        refine numP_congr (fun v hv => ?_)
        rw [Nat.mul_comm]
        exact d3 _ _ (getD_get hlt) v (by omega)
    · exfalso; omega
set_option maxRecDepth 20000 in
set_option maxHeartbeats 400000 in
theorem c_numberAt1 {X : pX} {I J : IM} {h : Nat} (n : Nat) (hn : I 6 0 = n ∧ n ≤ 5) (k : Nat) (hk : k < 300) : KI X (h + 1) mX3_numberAt [.ref 32, zi 1, zi (k : Int)] I J (numP (fun v => I 41 (k * 5 + v)) n) I J := by
  show Rz X (h + 1) mX3_numberAt 0 [some (.ref 32), some (zi 1), some (zi (k : Int))] [] I J _
  refine rz_aload_n dX3_numberAt_0 rfl ?_
  refine rz_getR dX3_numberAt_1 kf_RX3_7 hd_32 rfl rr_32_4 ?_
  refine rz_aload_n dX3_numberAt_4 rfl ?_
  refine rz_getR dX3_numberAt_5 kf_RX3_35 hd_32 rfl rr_32_8 ?_
  refine rz_iload_n dX3_numberAt_8 rfl ?_
  refine rz_aald (by decide) dX3_numberAt_9 hd_39 (by decide) (by decide) rr_39_1 ?_
  refine rz_iload_n dX3_numberAt_10 rfl ?_
  refine rz_iconst dX3_numberAt_11 ?_
  refine rz_imul dX3_numberAt_12 ?_
  refine rz_cVI dX3_numberAt_13 kl_RX3_90 hd_6 ⟨_, _, rfl⟩ ((show KI X _ mX8_numberOf [.ref 6, .ref 41, zi ((k : Int) * 5)] I J _ I J from c_numberOf X _ I J n 41 1500 (k * 5) hn hd_41 (by decide) (by omega))) rfl rfl (Nat.le_of_ble_eq_true rfl) (Nat.le_of_ble_eq_true rfl) ?_
  refine rz_iret dX3_numberAt_16 rfl ?_
  exact ⟨_, rfl, rfl, rfl, rfl⟩
set_option maxRecDepth 20000 in
set_option maxHeartbeats 400000 in
theorem c_safe1 {X : pX} {I J : IM} {h : Nat} (lw : Lw) (n : Nat) (hn5 : n ≤ 5) (hW : ∀ v, v < n → 0 ≤ I 7 v ∧ I 7 v ≤ 9) (N0 N1 : Nat) (hN0 : N0 ≤ 9) (hN1 : N1 ≤ 9) (hd : DuC I lw n N0 N1) (hm : mayL n N0 N1) (what : Int) (hw : rg what) : KI X (h + 2) mX3_safe [.ref 32, zi 1, zi what] I J (safV 1 lw (I 7) (I 8) (I 9) n (rowsL n N1 true) (rowsL n N0 true) what) I J := by
  obtain ⟨d1, d2, d3, d4, d5, d6⟩ := hd
  have hge : 1 ≤ (rowsL n N1 true).length := hm.2.1
  have hL0 := hm.1.2
  have hL1 := hm.2.2
  show Rz X (h + 2) mX3_safe 0 [some (.ref 32), some (zi 1), some (zi what), none, none, none, none] [] I J _
  refine rz_sipush dX3_safe_0 (by decide) ?_
  refine rz_istore_n dX3_safe_3 (by decide) rfl ?_
  refine rz_iconst dX3_safe_4 ?_
  refine rz_istore dX3_safe_5 (by decide) rfl ?_
  refine rz_iconst dX3_safe_7 ?_
  refine rz_istore (ls' := [some (.ref 32), some (zi 1), some (zi what), some (zi 301), some (zi 0), some (zi 0), none]) dX3_safe_8 (by decide) rfl ?_
  refine rz_upx (σ := Unit) (Inv := fun k sk => True) (ls := fun (k : Nat) sk => [some (.ref 32), some (zi 1), some (zi what), some (zi ((fmN (lossN 1 lw (I 7) (I 8) (I 9) n (rowsL n N1 true) (rowsL n N0 true)) k).1)), some (zi (((fmN (lossN 1 lw (I 7) (I 8) (I 9) n (rowsL n N1 true) (rowsL n N0 true)) k).2 : Nat) : Int)), some (zi (k : Int)), none]) (IV := fun (k : Nat) sk => I) (JV := fun (k : Nat) sk => J) ((rowsL n N1 true).length) (()) trivial ⟨Or.inr rfl, Or.inr rfl, Or.inr rfl, Or.inr rfl, Or.inr rfl, Or.inr rfl, Or.inl rfl, trivial⟩ (rfl) (rfl) ?_ ?_
  · intro k sk hk qk ihk
    have hfr := fmN_rg (t := (lossN 1 lw (I 7) (I 8) (I 9) n (rowsL n N1 true) (rowsL n N0 true))) (lossN_rg hL0) k
    have htk := lossN_rg (b := 1) (lw := lw) (W := I 7) (T := I 8) (U := I 9) (n := n) (L := (rowsL n N1 true)) hL0 k
    have hwd := (rowsL_ok (n := n) (left := N1) (all := true) hN1 _ (List.mem_of_getElem? (getD_get hk))).2
    refine rz_iload dX3_safe_10 rfl ?_
    refine rz_aload_n dX3_safe_12 rfl ?_
    refine rz_getR dX3_safe_13 kf_RX3_27 hd_32 rfl rr_32_7 ?_
    refine rz_iload_n dX3_safe_16 rfl ?_
    refine rz_iald (z := ((rowsL n N1 true).length : Int)) dX3_safe_17 hd_38 (by decide) (by omega) d2 ?_
    refine rz_icmp_ge (t := 58) dX3_safe_18 rfl (by omega) (by omega) (fun c18 => ?_) (fun c18 => ?_)
    · exfalso; omega
    · refine rz_aload_n dX3_safe_21 rfl ?_
      refine rz_iload_n dX3_safe_22 rfl ?_
      refine rz_aload_n dX3_safe_23 rfl ?_
      refine rz_getR dX3_safe_24 kf_RX3_35 hd_32 rfl rr_32_8 ?_
      refine rz_iload_n dX3_safe_27 rfl ?_
      refine rz_aald (by decide) dX3_safe_28 hd_39 (by decide) (by decide) rr_39_1 ?_
      refine rz_iload dX3_safe_29 rfl ?_
      refine rz_iconst dX3_safe_31 ?_
      refine rz_imul dX3_safe_32 ?_
      refine rz_iload_n dX3_safe_33 rfl ?_
      refine rz_cVI dX3_safe_34 kl_RX3_101 hd_32 ⟨_, _, rfl⟩ ((show KI X _ mX3_losses [.ref 32, zi 1, .ref 41, zi ((k : Int) * 5), zi ((fmN (lossN 1 lw (I 7) (I 8) (I 9) n (rowsL n N1 true) (rowsL n N0 true)) k).1)] I J _ I J from c_losses1 lw n ⟨d6, hn5⟩ hW N0 hN0 41 (k * 5) 1500 ((rowsL n N1 true).getD k []) rfl ⟨by omega, by omega⟩ (fun v hv => ⟨by rw [show k * 5 + v = 5 * k + v by omega]; exact d4 k _ (getD_get hk) v (by omega), getD_le hwd v⟩) d5 d1 hL0 d3 (fmN (lossN 1 lw (I 7) (I 8) (I 9) n (rowsL n N1 true) (rowsL n N0 true)) k).1 hfr.1.1 hfr.1.2)) rfl rfl (Nat.le_of_ble_eq_true rfl) (Nat.le_of_ble_eq_true rfl) ?_
      refine rz_ieq (y := min ((lossN 1 lw (I 7) (I 8) (I 9) n (rowsL n N1 true) (rowsL n N0 true)) k) (fmN (lossN 1 lw (I 7) (I 8) (I 9) n (rowsL n N1 true) (rowsL n N0 true)) k).1) rfl ?_
      refine rz_istore dX3_safe_37 (by decide) rfl ?_
      refine rz_iload dX3_safe_39 rfl ?_
      refine rz_iload_n dX3_safe_41 rfl ?_
      refine rz_icmp_ge (t := 52) dX3_safe_42 rfl (by omega) (by omega) (fun c42 => ?_) (fun c42 => ?_)
      · refine rz_iinc dX3_safe_52 (by decide) rfl rfl rfl ?_
        refine rz_goto (t := 10) dX3_safe_55 rfl ?_
        exact rz_bk (ihk (()) (trivial)) ⟨Or.inr rfl, Or.inr rfl, Or.inr rfl, Or.inr (congrArg (fun z => some (zi z)) (by first | (rw [fmN_y (by omega)]; show (lossN 1 lw (I 7) (I 8) (I 9) n (rowsL n N1 true) (rowsL n N0 true)) k = _; omega) | (rw [fmN_n (by omega)]))), Or.inr (congrArg (fun z => some (zi z)) (by first | (rw [fmN_y (by omega)]) | (rw [fmN_n (by omega)]))), Or.inr rfl, Or.inl rfl, trivial⟩ (rfl) (rfl)
      · refine rz_iload dX3_safe_45 rfl ?_
        refine rz_istore_n dX3_safe_47 (by decide) rfl ?_
        refine rz_iload dX3_safe_48 rfl ?_
        refine rz_istore (ls' := [some (.ref 32), some (zi 1), some (zi what), some (zi (min ((lossN 1 lw (I 7) (I 8) (I 9) n (rowsL n N1 true) (rowsL n N0 true)) k) (fmN (lossN 1 lw (I 7) (I 8) (I 9) n (rowsL n N1 true) (rowsL n N0 true)) k).1)), some (zi (k : Int)), some (zi (k : Int)), some (zi (min ((lossN 1 lw (I 7) (I 8) (I 9) n (rowsL n N1 true) (rowsL n N0 true)) k) (fmN (lossN 1 lw (I 7) (I 8) (I 9) n (rowsL n N1 true) (rowsL n N0 true)) k).1))]) dX3_safe_50 (by decide) rfl ?_
        refine rz_iinc dX3_safe_52 (by decide) rfl rfl rfl ?_
        refine rz_goto (t := 10) dX3_safe_55 rfl ?_
        exact rz_bk (ihk (()) (trivial)) ⟨Or.inr rfl, Or.inr rfl, Or.inr rfl, Or.inr (congrArg (fun z => some (zi z)) (by first | (rw [fmN_y (by omega)]; show (lossN 1 lw (I 7) (I 8) (I 9) n (rowsL n N1 true) (rowsL n N0 true)) k = _; omega) | (rw [fmN_n (by omega)]))), Or.inr (congrArg (fun z => some (zi z)) (by first | (rw [fmN_y (by omega)]) | (rw [fmN_n (by omega)]))), Or.inr rfl, Or.inl rfl, trivial⟩ (rfl) (rfl)
  · intro sk qk
    have hfe := fmN_rg (t := (lossN 1 lw (I 7) (I 8) (I 9) n (rowsL n N1 true) (rowsL n N0 true))) (lossN_rg hL0) (rowsL n N1 true).length
    refine rz_iload dX3_safe_10 rfl ?_
    refine rz_aload_n dX3_safe_12 rfl ?_
    refine rz_getR dX3_safe_13 kf_RX3_27 hd_32 rfl rr_32_7 ?_
    refine rz_iload_n dX3_safe_16 rfl ?_
    refine rz_iald (z := ((rowsL n N1 true).length : Int)) dX3_safe_17 hd_38 (by decide) (by omega) d2 ?_
    refine rz_icmp_ge (t := 58) dX3_safe_18 rfl (by omega) (by omega) (fun c18 => ?_) (fun c18 => ?_)
    · refine rz_iload_n dX3_safe_58 rfl ?_
      refine rz_if_ne (t := 72) dX3_safe_59 rfl (by omega) (fun c59 => ?_) (fun c59 => ?_)
      · refine rz_iload_n dX3_safe_72 rfl ?_
        refine rz_iret dX3_safe_73 rfl ?_
        exact ⟨_, rfl, by rw [safV, if_neg (by assumption)], rfl, rfl⟩
      · refine rz_aload_n dX3_safe_62 rfl ?_
        refine rz_iload_n dX3_safe_63 rfl ?_
        refine rz_iload dX3_safe_64 rfl ?_
        refine rz_cVI dX3_safe_66 kl_RX3_105 hd_32 ⟨_, _, rfl⟩ (c_numberAt1 n ⟨d6, hn5⟩ (fmN (lossN 1 lw (I 7) (I 8) (I 9) n (rowsL n N1 true) (rowsL n N0 true)) (rowsL n N1 true).length).2 (by have := (hfe.2 hge).2; omega)) rfl rfl (Nat.le_of_ble_eq_true rfl) (Nat.le_of_ble_eq_true rfl) ?_
        refine rz_goto (t := 73) dX3_safe_69 rfl ?_
        refine rz_iret dX3_safe_73 rfl ?_
        refine ⟨_, rfl, ?_, rfl, rfl⟩
        rw [safV, if_pos (by assumption)]
        have hlt := (hfe.2 hge).2
        refine numP_congr (fun v hv => ?_)
        rw [Nat.mul_comm]
        exact d4 _ _ (getD_get hlt) v (by omega)
    · exfalso; omega
set_option maxRecDepth 20000 in
set_option maxHeartbeats 400000 in
theorem safest_c0 {X : pX} {I J : IM} {h : Nat} {lw : Lw} {n : Nat} {m0 m1 : Mx} (hq : CqI I lw n m0 m1) (what : Int) (hw : rg what) : KIq X (h + 6) mX11_safest [.ref 0, zi 0, zi what] I J (fun z A B => z = safZ lw (I 7) (I 8) (I 9) (I 10) n 0 what ∧ QC I lw n A ∧ J = B) := by
  obtain ⟨h1, h2, h3, h4, h5, h6, h7⟩ := hq
  have h80 := h7 0 (by decide)
  have h81 := h7 1 (by decide)
  show Rz X (h + 6) mX11_safest 0 [some (.ref 0), some (zi 0), some (zi what)] [] I J _
  refine rz_iload_n dX11_safest_0 rfl ?_
  refine rz_cSIq dX11_safest_1 kl_RX11_112 (c_X11_isBaker X _ I J 0 (by omega)) rfl rfl (Nat.le_of_ble_eq_true rfl) (Nat.le_of_ble_eq_true rfl) ?_
  rintro z1 A1 B1 ⟨⟨rfl, b1⟩ | ⟨rfl, b1⟩, rfl, rfl⟩
  · refine rz_if_eq (t := 16) dX11_safest_4 rfl (by omega) (fun q => absurd q (by decide)) (fun _ => ?_)
    refine rz_iload_n dX11_safest_7 rfl ?_
    refine rz_if_lt (t := 16) dX11_safest_8 rfl (by omega) (fun c8 => ?_) (fun c8 => ?_)
    · refine rz_iconst dX11_safest_16 ?_
      refine rz_iret dX11_safest_17 rfl ?_
      exact ⟨_, rfl, by rw [safZ, if_neg (by omega)], QC_refl h4, rfl⟩
    · refine rz_iload_n dX11_safest_11 rfl ?_
      refine rz_iconst dX11_safest_12 ?_
      refine rz_icmp_le (t := 18) dX11_safest_13 rfl (by omega) (by omega) (fun c13 => ?_) (fun c13 => ?_)
      · refine rz_aload_n dX11_safest_18 rfl ?_
        refine rz_getR dX11_safest_19 kf_RX11_49 hd_0 rfl rr_0_6 ?_
        refine rz_cVIq dX11_safest_22 kl_RX11_234 hd_32 ⟨_, _, rfl⟩ (c_X3_open lw h1 n h2 h3 h4 (I 10 0).toNat (I 10 1).toNat ⟨by omega, by omega⟩ ⟨by omega, by omega⟩) rfl rfl (Nat.le_of_ble_eq_true rfl) (Nat.le_of_ble_eq_true rfl) ?_
        rintro z22 A22 _ ⟨⟨rfl, m22, ⟨du22, e79⟩, qc22⟩ | ⟨rfl, m22, rfl⟩, rfl⟩
        · refine rz_if_eq (t := 40) dX11_safest_25 rfl (by omega) (fun q => absurd q (by decide)) (fun _ => ?_)
          have e7 : A22 7 = I 7 := qc22.1.1 7 (by decide)
          have e8 : A22 8 = I 8 := qc22.1.1 8 (by decide)
          have e9 : A22 9 = I 9 := qc22.1.1 9 (by decide)
          refine rz_aload_n dX11_safest_28 rfl ?_
          refine rz_getR dX11_safest_29 kf_RX11_49 hd_0 rfl rr_0_6 ?_
          refine rz_iload_n dX11_safest_32 rfl ?_
          refine rz_iload_n dX11_safest_33 rfl ?_
          refine rz_cVI dX11_safest_34 kl_RX11_242 hd_32 ⟨_, _, rfl⟩ (c_safe0 (I := A22) lw n h2.2 (fun v hv => by rw [e7]; exact (h3 v hv).1) (I 10 0).toNat (I 10 1).toNat (by omega) (by omega) du22 m22 what hw) rfl rfl (Nat.le_of_ble_eq_true rfl) (Nat.le_of_ble_eq_true rfl) ?_
          refine rz_goto (t := 42) dX11_safest_37 rfl ?_
          refine rz_iret dX11_safest_42 rfl ?_
          exact ⟨_, rfl, by rw [safZ, if_pos ⟨by omega, by omega⟩, if_pos (lstB_t m22), if_pos rfl, e7, e8, e9], qc22, rfl⟩
        · refine rz_if_eq (t := 40) dX11_safest_25 rfl (by omega) (fun _ => ?_) (fun q => absurd q (by decide))
          refine rz_bipush dX11_safest_40 (by decide) ?_
          refine rz_iret dX11_safest_42 rfl ?_
          exact ⟨_, rfl, by rw [safZ, if_pos ⟨by omega, by omega⟩, if_neg (lstB_f m22)], QC_refl h4, rfl⟩
      · refine rz_iconst dX11_safest_16 ?_
        refine rz_iret dX11_safest_17 rfl ?_
        exact ⟨_, rfl, by rw [safZ, if_neg (by omega)], QC_refl h4, rfl⟩
  · exfalso; omega
set_option maxRecDepth 20000 in
set_option maxHeartbeats 400000 in
theorem safest_r0 {X : pX} {I J : IM} {h : Nat} {lw : Lw} {n : Nat} {m0 m1 : Mx} (hq : RqI I lw n m0 m1) (hbk : BOK I) (what : Int) (hw : rg what) : KIq X (h + 9) mX12_safest [.ref 81, zi 0, zi what] I J (fun z A B => z = safZ lw (I 82) (I 83) (I 84) (I 85) n 0 what ∧ FrR I A ∧ J = B) := by
  obtain ⟨h1, h2, h3, h5, h6, h7⟩ := hq
  have h80 := h7 0 (by decide)
  have h81 := h7 1 (by decide)
  show Rz X (h + 9) mX12_safest 0 [some (.ref 81), some (zi 0), some (zi what), none, none, none, none, none] [] I J _
  refine rz_iload_n dX12_safest_0 rfl ?_
  refine rz_cSIq dX12_safest_1 kl_RX12_158 (c_X12_isBaker X _ I J 0 (by omega)) rfl rfl (Nat.le_of_ble_eq_true rfl) (Nat.le_of_ble_eq_true rfl) ?_
  rintro z1 A1 B1 ⟨⟨rfl, b1⟩ | ⟨rfl, b1⟩, rfl, rfl⟩
  · refine rz_if_eq (t := 16) dX12_safest_4 rfl (by omega) (fun q => absurd q (by decide)) (fun _ => ?_)
    refine rz_iload_n dX12_safest_7 rfl ?_
    refine rz_iconst dX12_safest_8 ?_
    refine rz_iconst dX12_safest_9 ?_
    refine rz_cSIq dX12_safest_10 kl_RX12_140 (c_X12_in X _ I J what 0 1 (by omega) (by omega) (by omega)) rfl rfl (Nat.le_of_ble_eq_true rfl) (Nat.le_of_ble_eq_true rfl) ?_
    rintro z10 A10 B10 ⟨⟨rfl, b10⟩ | ⟨rfl, b10⟩, rfl, rfl⟩
    · refine rz_if_ne (t := 18) dX12_safest_13 rfl (by omega) (fun _ => ?_) (fun q => absurd q (by decide))
      refine rz_aload_n dX12_safest_18 rfl ?_
      refine rz_cVIq dX12_safest_19 kl_RX12_335 hd_81 ⟨_, _, rfl⟩ (c_X12_findBoth lw h1 n h2 h3 (I 85 0).toNat (I 85 1).toNat ⟨by omega, by omega⟩ ⟨by omega, by omega⟩ hbk) rfl rfl (Nat.le_of_ble_eq_true rfl) (Nat.le_of_ble_eq_true rfl) ?_
      rintro z19 A19 _ ⟨⟨rfl, m19, ⟨du19, e109⟩, fr19⟩ | ⟨rfl, m19, fr19⟩, rfl⟩
      · refine rz_if_ne (t := 28) dX12_safest_22 rfl (by omega) (fun _ => ?_) (fun q => absurd q (by decide))
        obtain ⟨d1, d2, d3, d4, d5, d6⟩ := du19
        have e82 : A19 82 = I 82 := fr19.1 82 (by decide)
        have e83 : A19 83 = I 83 := fr19.1 83 (by decide)
        have e84 : A19 84 = I 84 := fr19.1 84 (by decide)
        have hL0 := m19.1.2
        have hL1 := m19.2.2
        have hge : 1 ≤ (rowsL n (I 85 0).toNat true).length := m19.1.1
        refine rz_iconst dX12_safest_28 ?_
        refine rz_istore_n dX12_safest_29 (by decide) rfl ?_
        refine rz_iconst dX12_safest_30 ?_
        refine rz_istore dX12_safest_31 (by decide) rfl ?_
        refine rz_iload_n dX12_safest_33 rfl ?_
        refine rz_if_ne (t := 44) dX12_safest_34 rfl (by omega) (fun q => absurd q (by decide)) (fun _ => ?_)
        refine rz_aload_n dX12_safest_37 rfl ?_
        refine rz_getI (z := ((rowsL n (I 85 0).toNat true).length : Int)) dX12_safest_38 kf_RX12_329 hd_81 rfl (d1) ?_
        refine rz_goto (t := 48) dX12_safest_41 rfl ?_
        refine rz_istore (ls' := [some (.ref 81), some (zi 0), some (zi what), some (zi (-1)), some (zi 0), some (zi ((rowsL n (I 85 0).toNat true).length : Int)), none, none]) dX12_safest_48 (by decide) rfl ?_
        refine rz_iconst dX12_safest_50 ?_
        refine rz_istore dX12_safest_51 (by decide) rfl ?_
        refine rz_upx (σ := Int × Int) (Inv := fun k sk => (k = 0 ∧ sk.1 = -1 ∧ sk.2 = 0) ∨ (1 ≤ k ∧ sk.1 = (((fmN (lossN 0 lw (A19 82) (A19 83) (A19 84) n (rowsL n (I 85 0).toNat true) (rowsL n (I 85 1).toNat true)) k).2 : Nat) : Int) ∧ sk.2 = (fmN (lossN 0 lw (A19 82) (A19 83) (A19 84) n (rowsL n (I 85 0).toNat true) (rowsL n (I 85 1).toNat true)) k).1)) (ls := fun (k : Nat) sk => [some (.ref 81), some (zi 0), some (zi what), some (zi sk.1), some (zi sk.2), some (zi ((rowsL n (I 85 0).toNat true).length : Int)), some (zi (k : Int)), none]) (IV := fun (k : Nat) sk => A19) (JV := fun (k : Nat) sk => J) ((rowsL n (I 85 0).toNat true).length) ((-1, 0)) (Or.inl ⟨rfl, rfl, rfl⟩) ⟨Or.inr rfl, Or.inr rfl, Or.inr rfl, Or.inr rfl, Or.inr rfl, Or.inr rfl, Or.inr rfl, Or.inl rfl, trivial⟩ (rfl) (rfl) ?_ ?_
        · intro k sk hk qk ihk
          obtain ⟨bb, ll⟩ := sk
          have qk : (k = 0 ∧ bb = -1 ∧ ll = 0) ∨ (1 ≤ k ∧ bb = (((fmN (lossN 0 lw (A19 82) (A19 83) (A19 84) n (rowsL n (I 85 0).toNat true) (rowsL n (I 85 1).toNat true)) k).2 : Nat) : Int) ∧ ll = (fmN (lossN 0 lw (A19 82) (A19 83) (A19 84) n (rowsL n (I 85 0).toNat true) (rowsL n (I 85 1).toNat true)) k).1) := qk
          have hfr := fmN_rg (t := (lossN 0 lw (A19 82) (A19 83) (A19 84) n (rowsL n (I 85 0).toNat true) (rowsL n (I 85 1).toNat true))) (lossN_rg hL1) k
          have htk := lossN_rg (b := 0) (lw := lw) (W := A19 82) (T := A19 83) (U := A19 84) (n := n) (L := (rowsL n (I 85 0).toNat true)) hL1 k
          have hwd := (rowsL_ok (n := n) (left := (I 85 0).toNat) (all := true) (by omega) _ (List.mem_of_getElem? (getD_get hk))).2
          have hbb : -1 ≤ bb ∧ bb ≤ 300 ∧ 0 ≤ ll ∧ ll ≤ 301 := by rcases qk with e | e; omega; have := hfr.2 e.1; omega
          have hf0 : k = 0 → fmN (lossN 0 lw (A19 82) (A19 83) (A19 84) n (rowsL n (I 85 0).toNat true) (rowsL n (I 85 1).toNat true)) k = (301, 0) := fun e => by subst e; rfl
          refine rz_to (ls' := [some (.ref 81), some (zi 0), some (zi what), some (zi bb), some (zi ll), some (zi ((rowsL n (I 85 0).toNat true).length : Int)), some (zi (k : Int)), none]) (I' := A19) (J' := J) ⟨Or.inr rfl, Or.inr rfl, Or.inr rfl, Or.inr rfl, Or.inr rfl, Or.inr rfl, Or.inr rfl, Or.inl rfl, trivial⟩ rfl rfl ?_
          refine rz_iload dX12_safest_53 rfl ?_
          refine rz_iload dX12_safest_55 rfl ?_
          refine rz_icmp_ge (t := 111) dX12_safest_57 rfl (by omega) (by omega) (fun c57 => ?_) (fun c57 => ?_)
          · exfalso; omega
          · refine rz_aload_n dX12_safest_60 rfl ?_
            refine rz_iload_n dX12_safest_61 rfl ?_
            refine rz_iload_n dX12_safest_62 rfl ?_
            refine rz_if_ne (t := 73) dX12_safest_63 rfl (by omega) (fun q => absurd q (by decide)) (fun _ => ?_)
            refine rz_aload_n dX12_safest_66 rfl ?_
            refine rz_getR dX12_safest_67 kf_RX12_87 hd_81 rfl rr_81_38 ?_
            refine rz_goto (t := 77) dX12_safest_70 rfl ?_
            refine rz_iload dX12_safest_77 rfl ?_
            refine rz_cVI dX12_safest_79 kl_RX12_338 hd_81 ⟨_, _, rfl⟩ (c_beatenBy0 (I := A19) lw n ⟨d6, h2.2⟩ (fun v hv => by rw [e82]; exact (h3 v hv).1) (I 85 1).toNat (by omega) 107 k 1500 ((rowsL n (I 85 0).toNat true).getD k []) rfl ⟨by omega, by omega⟩ (fun v hv => ⟨d3 k _ (getD_get hk) v hv, getD_le hwd v⟩) d5 d2 hL1 d4) rfl rfl (Nat.le_of_ble_eq_true rfl) (Nat.le_of_ble_eq_true rfl) ?_
            refine rz_ieq (y := (lossN 0 lw (A19 82) (A19 83) (A19 84) n (rowsL n (I 85 0).toNat true) (rowsL n (I 85 1).toNat true)) k) rfl ?_
            refine rz_istore dX12_safest_82 (by decide) rfl ?_
            refine rz_iload_n dX12_safest_84 rfl ?_
            refine rz_if_lt (t := 98) dX12_safest_85 rfl (by omega) (fun c85 => ?_) (fun c85 => ?_)
            · refine rz_iload dX12_safest_98 rfl ?_
              refine rz_istore_n dX12_safest_100 (by decide) rfl ?_
              refine rz_iload dX12_safest_101 rfl ?_
              refine rz_istore (ls' := [some (.ref 81), some (zi 0), some (zi what), some (zi (k : Int)), some (zi ((lossN 0 lw (A19 82) (A19 83) (A19 84) n (rowsL n (I 85 0).toNat true) (rowsL n (I 85 1).toNat true)) k)), some (zi ((rowsL n (I 85 0).toNat true).length : Int)), some (zi (k : Int)), some (zi ((lossN 0 lw (A19 82) (A19 83) (A19 84) n (rowsL n (I 85 0).toNat true) (rowsL n (I 85 1).toNat true)) k))]) dX12_safest_103 (by decide) rfl ?_
              refine rz_iinc dX12_safest_105 (by decide) rfl rfl rfl ?_
              refine rz_goto (t := 53) dX12_safest_108 rfl ?_
              exact rz_bk (ihk (((k : Int), (lossN 0 lw (A19 82) (A19 83) (A19 84) n (rowsL n (I 85 0).toNat true) (rowsL n (I 85 1).toNat true)) k)) ((Or.inr ⟨by omega, by rw [fmN_y (by rcases qk with e | e; (rw [hf0 e.1]; show (lossN 0 lw (A19 82) (A19 83) (A19 84) n (rowsL n (I 85 0).toNat true) (rowsL n (I 85 1).toNat true)) k < 301; omega); omega)], by rw [fmN_y (by rcases qk with e | e; (rw [hf0 e.1]; show (lossN 0 lw (A19 82) (A19 83) (A19 84) n (rowsL n (I 85 0).toNat true) (rowsL n (I 85 1).toNat true)) k < 301; omega); omega)]⟩))) ⟨Or.inr rfl, Or.inr rfl, Or.inr rfl, Or.inr rfl, Or.inr rfl, Or.inr rfl, Or.inr rfl, Or.inl rfl, trivial⟩ (rfl) (rfl)
            · refine rz_iload dX12_safest_88 rfl ?_
              refine rz_iload dX12_safest_90 rfl ?_
              refine rz_icmp_lt (t := 98) dX12_safest_92 rfl (by omega) (by omega) (fun c92 => ?_) (fun c92 => ?_)
              · refine rz_iload dX12_safest_98 rfl ?_
                refine rz_istore_n dX12_safest_100 (by decide) rfl ?_
                refine rz_iload dX12_safest_101 rfl ?_
                refine rz_istore (ls' := [some (.ref 81), some (zi 0), some (zi what), some (zi (k : Int)), some (zi ((lossN 0 lw (A19 82) (A19 83) (A19 84) n (rowsL n (I 85 0).toNat true) (rowsL n (I 85 1).toNat true)) k)), some (zi ((rowsL n (I 85 0).toNat true).length : Int)), some (zi (k : Int)), some (zi ((lossN 0 lw (A19 82) (A19 83) (A19 84) n (rowsL n (I 85 0).toNat true) (rowsL n (I 85 1).toNat true)) k))]) dX12_safest_103 (by decide) rfl ?_
                refine rz_iinc dX12_safest_105 (by decide) rfl rfl rfl ?_
                refine rz_goto (t := 53) dX12_safest_108 rfl ?_
                exact rz_bk (ihk (((k : Int), (lossN 0 lw (A19 82) (A19 83) (A19 84) n (rowsL n (I 85 0).toNat true) (rowsL n (I 85 1).toNat true)) k)) ((Or.inr ⟨by omega, by rw [fmN_y (by rcases qk with e | e; (rw [hf0 e.1]; show (lossN 0 lw (A19 82) (A19 83) (A19 84) n (rowsL n (I 85 0).toNat true) (rowsL n (I 85 1).toNat true)) k < 301; omega); omega)], by rw [fmN_y (by rcases qk with e | e; (rw [hf0 e.1]; show (lossN 0 lw (A19 82) (A19 83) (A19 84) n (rowsL n (I 85 0).toNat true) (rowsL n (I 85 1).toNat true)) k < 301; omega); omega)]⟩))) ⟨Or.inr rfl, Or.inr rfl, Or.inr rfl, Or.inr rfl, Or.inr rfl, Or.inr rfl, Or.inr rfl, Or.inl rfl, trivial⟩ (rfl) (rfl)
              · refine rz_goto (t := 105) dX12_safest_95 rfl ?_
                refine rz_iinc dX12_safest_105 (by decide) rfl rfl rfl ?_
                refine rz_goto (t := 53) dX12_safest_108 rfl ?_
                exact rz_bk (ihk ((bb, ll)) ((by rcases qk with e | e; omega; exact Or.inr ⟨by omega, by rw [fmN_n (by omega)]; exact e.2.1, by rw [fmN_n (by omega)]; exact e.2.2⟩))) ⟨Or.inr rfl, Or.inr rfl, Or.inr rfl, Or.inr rfl, Or.inr rfl, Or.inr rfl, Or.inr rfl, Or.inl rfl, trivial⟩ (rfl) (rfl)
        · intro sk qk
          have hfe := fmN_rg (t := (lossN 0 lw (A19 82) (A19 83) (A19 84) n (rowsL n (I 85 0).toNat true) (rowsL n (I 85 1).toNat true))) (lossN_rg hL1) (rowsL n (I 85 0).toNat true).length
          obtain ⟨e1, e2, e3⟩ := qk.resolve_left (fun e => by omega)
          have hfe2 := hfe.2 hge
          refine rz_iload dX12_safest_53 rfl ?_
          refine rz_iload dX12_safest_55 rfl ?_
          refine rz_icmp_ge (t := 111) dX12_safest_57 rfl (by omega) (by omega) (fun c57 => ?_) (fun c57 => ?_)
          · refine rz_iload_n dX12_safest_111 rfl ?_
            refine rz_if_ge (t := 118) dX12_safest_112 rfl (by omega) (fun c112 => ?_) (fun c112 => ?_)
            · refine rz_iload_n dX12_safest_118 rfl ?_
              refine rz_iconst dX12_safest_119 ?_
              refine rz_icmp_ne (t := 128) dX12_safest_120 rfl (by omega) (by omega) (fun c120 => ?_) (fun c120 => ?_)
              · refine rz_iload_n dX12_safest_128 rfl ?_
                refine rz_if_ne (t := 139) dX12_safest_129 rfl (by omega) (fun q => absurd q (by decide)) (fun _ => ?_)
                refine rz_aload_n dX12_safest_132 rfl ?_
                refine rz_getR dX12_safest_133 kf_RX12_87 hd_81 rfl rr_81_38 ?_
                refine rz_goto (t := 143) dX12_safest_136 rfl ?_
                refine rz_iload_n dX12_safest_143 rfl ?_
                refine rz_aload_n dX12_safest_144 rfl ?_
                refine rz_getI (z := (n : Int)) dX12_safest_145 kf_RX12_137 hd_81 rfl (d6) ?_
                refine rz_cSI dX12_safest_148 kl_RX12_342 ((by have q := c_X12_numberIn X (h + 8) A19 J n (fmN (lossN 0 lw (A19 82) (A19 83) (A19 84) n (rowsL n (I 85 0).toNat true) (rowsL n (I 85 1).toNat true)) (rowsL n (I 85 0).toNat true).length).2 107 1500 h2.2 hd_107 (by decide) (by have := (hfe.2 hge).2; omega); rw [← e2] at q; exact q)) rfl rfl (Nat.le_of_ble_eq_true rfl) (Nat.le_of_ble_eq_true rfl) ?_
                refine rz_iret dX12_safest_151 rfl ?_
                exact ⟨_, rfl, by
                  rw [safZ, if_pos ⟨by omega, by omega⟩, if_pos (lstB_t m19), if_pos rfl, safV, if_pos (by omega), ← e82, ← e83, ← e84]
                  exact numP_congr (fun v hv => d3 _ _ (getD_get hfe2.2) v hv), fr19, rfl⟩
              · refine rz_iload dX12_safest_123 rfl ?_
                refine rz_goto (t := 151) dX12_safest_125 rfl ?_
                refine rz_iret dX12_safest_151 rfl ?_
                exact ⟨_, rfl, by rw [safZ, if_pos ⟨by omega, by omega⟩, if_pos (lstB_t m19), if_pos rfl, safV, if_neg (by omega), ← e82, ← e83, ← e84]; exact e3, fr19, rfl⟩
            · refine rz_bipush dX12_safest_115 (by decide) ?_
              refine rz_iret dX12_safest_117 rfl ?_
              exfalso; omega
          · exfalso; omega
      · refine rz_if_ne (t := 28) dX12_safest_22 rfl (by omega) (fun q => absurd q (by decide)) (fun _ => ?_)
        refine rz_bipush dX12_safest_25 (by decide) ?_
        refine rz_iret dX12_safest_27 rfl ?_
        exact ⟨_, rfl, by rw [safZ, if_pos ⟨by omega, by omega⟩, if_neg (lstB_f m19)], fr19, rfl⟩
    · refine rz_if_ne (t := 18) dX12_safest_13 rfl (by omega) (fun q => absurd q (by decide)) (fun _ => ?_)
      refine rz_iconst dX12_safest_16 ?_
      refine rz_iret dX12_safest_17 rfl ?_
      exact ⟨_, rfl, by rw [safZ, if_neg (by omega)], FrR_refl, rfl⟩
  · exfalso; omega
set_option maxRecDepth 20000 in
set_option maxHeartbeats 400000 in
theorem safest_c1 {X : pX} {I J : IM} {h : Nat} {lw : Lw} {n : Nat} {m0 m1 : Mx} (hq : CqI I lw n m0 m1) (what : Int) (hw : rg what) : KIq X (h + 6) mX11_safest [.ref 0, zi 1, zi what] I J (fun z A B => z = safZ lw (I 7) (I 8) (I 9) (I 10) n 1 what ∧ QC I lw n A ∧ J = B) := by
  obtain ⟨h1, h2, h3, h4, h5, h6, h7⟩ := hq
  have h80 := h7 0 (by decide)
  have h81 := h7 1 (by decide)
  show Rz X (h + 6) mX11_safest 0 [some (.ref 0), some (zi 1), some (zi what)] [] I J _
  refine rz_iload_n dX11_safest_0 rfl ?_
  refine rz_cSIq dX11_safest_1 kl_RX11_112 (c_X11_isBaker X _ I J 1 (by omega)) rfl rfl (Nat.le_of_ble_eq_true rfl) (Nat.le_of_ble_eq_true rfl) ?_
  rintro z1 A1 B1 ⟨⟨rfl, b1⟩ | ⟨rfl, b1⟩, rfl, rfl⟩
  · refine rz_if_eq (t := 16) dX11_safest_4 rfl (by omega) (fun q => absurd q (by decide)) (fun _ => ?_)
    refine rz_iload_n dX11_safest_7 rfl ?_
    refine rz_if_lt (t := 16) dX11_safest_8 rfl (by omega) (fun c8 => ?_) (fun c8 => ?_)
    · refine rz_iconst dX11_safest_16 ?_
      refine rz_iret dX11_safest_17 rfl ?_
      exact ⟨_, rfl, by rw [safZ, if_neg (by omega)], QC_refl h4, rfl⟩
    · refine rz_iload_n dX11_safest_11 rfl ?_
      refine rz_iconst dX11_safest_12 ?_
      refine rz_icmp_le (t := 18) dX11_safest_13 rfl (by omega) (by omega) (fun c13 => ?_) (fun c13 => ?_)
      · refine rz_aload_n dX11_safest_18 rfl ?_
        refine rz_getR dX11_safest_19 kf_RX11_49 hd_0 rfl rr_0_6 ?_
        refine rz_cVIq dX11_safest_22 kl_RX11_234 hd_32 ⟨_, _, rfl⟩ (c_X3_open lw h1 n h2 h3 h4 (I 10 0).toNat (I 10 1).toNat ⟨by omega, by omega⟩ ⟨by omega, by omega⟩) rfl rfl (Nat.le_of_ble_eq_true rfl) (Nat.le_of_ble_eq_true rfl) ?_
        rintro z22 A22 _ ⟨⟨rfl, m22, ⟨du22, e79⟩, qc22⟩ | ⟨rfl, m22, rfl⟩, rfl⟩
        · refine rz_if_eq (t := 40) dX11_safest_25 rfl (by omega) (fun q => absurd q (by decide)) (fun _ => ?_)
          have e7 : A22 7 = I 7 := qc22.1.1 7 (by decide)
          have e8 : A22 8 = I 8 := qc22.1.1 8 (by decide)
          have e9 : A22 9 = I 9 := qc22.1.1 9 (by decide)
          refine rz_aload_n dX11_safest_28 rfl ?_
          refine rz_getR dX11_safest_29 kf_RX11_49 hd_0 rfl rr_0_6 ?_
          refine rz_iload_n dX11_safest_32 rfl ?_
          refine rz_iload_n dX11_safest_33 rfl ?_
          refine rz_cVI dX11_safest_34 kl_RX11_242 hd_32 ⟨_, _, rfl⟩ (c_safe1 (I := A22) lw n h2.2 (fun v hv => by rw [e7]; exact (h3 v hv).1) (I 10 0).toNat (I 10 1).toNat (by omega) (by omega) du22 m22 what hw) rfl rfl (Nat.le_of_ble_eq_true rfl) (Nat.le_of_ble_eq_true rfl) ?_
          refine rz_goto (t := 42) dX11_safest_37 rfl ?_
          refine rz_iret dX11_safest_42 rfl ?_
          exact ⟨_, rfl, by rw [safZ, if_pos ⟨by omega, by omega⟩, if_pos (lstB_t m22), if_neg (by decide), e7, e8, e9], qc22, rfl⟩
        · refine rz_if_eq (t := 40) dX11_safest_25 rfl (by omega) (fun _ => ?_) (fun q => absurd q (by decide))
          refine rz_bipush dX11_safest_40 (by decide) ?_
          refine rz_iret dX11_safest_42 rfl ?_
          exact ⟨_, rfl, by rw [safZ, if_pos ⟨by omega, by omega⟩, if_neg (lstB_f m22)], QC_refl h4, rfl⟩
      · refine rz_iconst dX11_safest_16 ?_
        refine rz_iret dX11_safest_17 rfl ?_
        exact ⟨_, rfl, by rw [safZ, if_neg (by omega)], QC_refl h4, rfl⟩
  · exfalso; omega
set_option maxRecDepth 20000 in
set_option maxHeartbeats 400000 in
theorem safest_r1 {X : pX} {I J : IM} {h : Nat} {lw : Lw} {n : Nat} {m0 m1 : Mx} (hq : RqI I lw n m0 m1) (hbk : BOK I) (what : Int) (hw : rg what) : KIq X (h + 9) mX12_safest [.ref 81, zi 1, zi what] I J (fun z A B => z = safZ lw (I 82) (I 83) (I 84) (I 85) n 1 what ∧ FrR I A ∧ J = B) := by
  obtain ⟨h1, h2, h3, h5, h6, h7⟩ := hq
  have h80 := h7 0 (by decide)
  have h81 := h7 1 (by decide)
  show Rz X (h + 9) mX12_safest 0 [some (.ref 81), some (zi 1), some (zi what), none, none, none, none, none] [] I J _
  refine rz_iload_n dX12_safest_0 rfl ?_
  refine rz_cSIq dX12_safest_1 kl_RX12_158 (c_X12_isBaker X _ I J 1 (by omega)) rfl rfl (Nat.le_of_ble_eq_true rfl) (Nat.le_of_ble_eq_true rfl) ?_
  rintro z1 A1 B1 ⟨⟨rfl, b1⟩ | ⟨rfl, b1⟩, rfl, rfl⟩
  · refine rz_if_eq (t := 16) dX12_safest_4 rfl (by omega) (fun q => absurd q (by decide)) (fun _ => ?_)
    refine rz_iload_n dX12_safest_7 rfl ?_
    refine rz_iconst dX12_safest_8 ?_
    refine rz_iconst dX12_safest_9 ?_
    refine rz_cSIq dX12_safest_10 kl_RX12_140 (c_X12_in X _ I J what 0 1 (by omega) (by omega) (by omega)) rfl rfl (Nat.le_of_ble_eq_true rfl) (Nat.le_of_ble_eq_true rfl) ?_
    rintro z10 A10 B10 ⟨⟨rfl, b10⟩ | ⟨rfl, b10⟩, rfl, rfl⟩
    · refine rz_if_ne (t := 18) dX12_safest_13 rfl (by omega) (fun _ => ?_) (fun q => absurd q (by decide))
      refine rz_aload_n dX12_safest_18 rfl ?_
      refine rz_cVIq dX12_safest_19 kl_RX12_335 hd_81 ⟨_, _, rfl⟩ (c_X12_findBoth lw h1 n h2 h3 (I 85 0).toNat (I 85 1).toNat ⟨by omega, by omega⟩ ⟨by omega, by omega⟩ hbk) rfl rfl (Nat.le_of_ble_eq_true rfl) (Nat.le_of_ble_eq_true rfl) ?_
      rintro z19 A19 _ ⟨⟨rfl, m19, ⟨du19, e109⟩, fr19⟩ | ⟨rfl, m19, fr19⟩, rfl⟩
      · refine rz_if_ne (t := 28) dX12_safest_22 rfl (by omega) (fun _ => ?_) (fun q => absurd q (by decide))
        obtain ⟨d1, d2, d3, d4, d5, d6⟩ := du19
        have e82 : A19 82 = I 82 := fr19.1 82 (by decide)
        have e83 : A19 83 = I 83 := fr19.1 83 (by decide)
        have e84 : A19 84 = I 84 := fr19.1 84 (by decide)
        have hL0 := m19.1.2
        have hL1 := m19.2.2
        have hge : 1 ≤ (rowsL n (I 85 1).toNat true).length := m19.2.1
        refine rz_iconst dX12_safest_28 ?_
        refine rz_istore_n dX12_safest_29 (by decide) rfl ?_
        refine rz_iconst dX12_safest_30 ?_
        refine rz_istore dX12_safest_31 (by decide) rfl ?_
        refine rz_iload_n dX12_safest_33 rfl ?_
        refine rz_if_ne (t := 44) dX12_safest_34 rfl (by omega) (fun _ => ?_) (fun q => absurd q (by decide))
        refine rz_aload_n dX12_safest_44 rfl ?_
        refine rz_getI (z := ((rowsL n (I 85 1).toNat true).length : Int)) dX12_safest_45 kf_RX12_332 hd_81 rfl (d2) ?_
        refine rz_istore (ls' := [some (.ref 81), some (zi 1), some (zi what), some (zi (-1)), some (zi 0), some (zi ((rowsL n (I 85 1).toNat true).length : Int)), none, none]) dX12_safest_48 (by decide) rfl ?_
        refine rz_iconst dX12_safest_50 ?_
        refine rz_istore dX12_safest_51 (by decide) rfl ?_
        refine rz_upx (σ := Int × Int) (Inv := fun k sk => (k = 0 ∧ sk.1 = -1 ∧ sk.2 = 0) ∨ (1 ≤ k ∧ sk.1 = (((fmN (lossN 1 lw (A19 82) (A19 83) (A19 84) n (rowsL n (I 85 1).toNat true) (rowsL n (I 85 0).toNat true)) k).2 : Nat) : Int) ∧ sk.2 = (fmN (lossN 1 lw (A19 82) (A19 83) (A19 84) n (rowsL n (I 85 1).toNat true) (rowsL n (I 85 0).toNat true)) k).1)) (ls := fun (k : Nat) sk => [some (.ref 81), some (zi 1), some (zi what), some (zi sk.1), some (zi sk.2), some (zi ((rowsL n (I 85 1).toNat true).length : Int)), some (zi (k : Int)), none]) (IV := fun (k : Nat) sk => A19) (JV := fun (k : Nat) sk => J) ((rowsL n (I 85 1).toNat true).length) ((-1, 0)) (Or.inl ⟨rfl, rfl, rfl⟩) ⟨Or.inr rfl, Or.inr rfl, Or.inr rfl, Or.inr rfl, Or.inr rfl, Or.inr rfl, Or.inr rfl, Or.inl rfl, trivial⟩ (rfl) (rfl) ?_ ?_
        · intro k sk hk qk ihk
          obtain ⟨bb, ll⟩ := sk
          have qk : (k = 0 ∧ bb = -1 ∧ ll = 0) ∨ (1 ≤ k ∧ bb = (((fmN (lossN 1 lw (A19 82) (A19 83) (A19 84) n (rowsL n (I 85 1).toNat true) (rowsL n (I 85 0).toNat true)) k).2 : Nat) : Int) ∧ ll = (fmN (lossN 1 lw (A19 82) (A19 83) (A19 84) n (rowsL n (I 85 1).toNat true) (rowsL n (I 85 0).toNat true)) k).1) := qk
          have hfr := fmN_rg (t := (lossN 1 lw (A19 82) (A19 83) (A19 84) n (rowsL n (I 85 1).toNat true) (rowsL n (I 85 0).toNat true))) (lossN_rg hL0) k
          have htk := lossN_rg (b := 1) (lw := lw) (W := A19 82) (T := A19 83) (U := A19 84) (n := n) (L := (rowsL n (I 85 1).toNat true)) hL0 k
          have hwd := (rowsL_ok (n := n) (left := (I 85 1).toNat) (all := true) (by omega) _ (List.mem_of_getElem? (getD_get hk))).2
          have hbb : -1 ≤ bb ∧ bb ≤ 300 ∧ 0 ≤ ll ∧ ll ≤ 301 := by rcases qk with e | e; omega; have := hfr.2 e.1; omega
          have hf0 : k = 0 → fmN (lossN 1 lw (A19 82) (A19 83) (A19 84) n (rowsL n (I 85 1).toNat true) (rowsL n (I 85 0).toNat true)) k = (301, 0) := fun e => by subst e; rfl
          refine rz_to (ls' := [some (.ref 81), some (zi 1), some (zi what), some (zi bb), some (zi ll), some (zi ((rowsL n (I 85 1).toNat true).length : Int)), some (zi (k : Int)), none]) (I' := A19) (J' := J) ⟨Or.inr rfl, Or.inr rfl, Or.inr rfl, Or.inr rfl, Or.inr rfl, Or.inr rfl, Or.inr rfl, Or.inl rfl, trivial⟩ rfl rfl ?_
          refine rz_iload dX12_safest_53 rfl ?_
          refine rz_iload dX12_safest_55 rfl ?_
          refine rz_icmp_ge (t := 111) dX12_safest_57 rfl (by omega) (by omega) (fun c57 => ?_) (fun c57 => ?_)
          · exfalso; omega
          · refine rz_aload_n dX12_safest_60 rfl ?_
            refine rz_iload_n dX12_safest_61 rfl ?_
            refine rz_iload_n dX12_safest_62 rfl ?_
            refine rz_if_ne (t := 73) dX12_safest_63 rfl (by omega) (fun _ => ?_) (fun q => absurd q (by decide))
            refine rz_aload_n dX12_safest_73 rfl ?_
            refine rz_getR dX12_safest_74 kf_RX12_90 hd_81 rfl rr_81_39 ?_
            refine rz_iload dX12_safest_77 rfl ?_
            refine rz_cVI dX12_safest_79 kl_RX12_338 hd_81 ⟨_, _, rfl⟩ (c_beatenBy1 (I := A19) lw n ⟨d6, h2.2⟩ (fun v hv => by rw [e82]; exact (h3 v hv).1) (I 85 0).toNat (by omega) 108 k 1500 ((rowsL n (I 85 1).toNat true).getD k []) rfl ⟨by omega, by omega⟩ (fun v hv => ⟨d4 k _ (getD_get hk) v hv, getD_le hwd v⟩) d5 d1 hL0 d3) rfl rfl (Nat.le_of_ble_eq_true rfl) (Nat.le_of_ble_eq_true rfl) ?_
            refine rz_ieq (y := (lossN 1 lw (A19 82) (A19 83) (A19 84) n (rowsL n (I 85 1).toNat true) (rowsL n (I 85 0).toNat true)) k) rfl ?_
            refine rz_istore dX12_safest_82 (by decide) rfl ?_
            refine rz_iload_n dX12_safest_84 rfl ?_
            refine rz_if_lt (t := 98) dX12_safest_85 rfl (by omega) (fun c85 => ?_) (fun c85 => ?_)
            · refine rz_iload dX12_safest_98 rfl ?_
              refine rz_istore_n dX12_safest_100 (by decide) rfl ?_
              refine rz_iload dX12_safest_101 rfl ?_
              refine rz_istore (ls' := [some (.ref 81), some (zi 1), some (zi what), some (zi (k : Int)), some (zi ((lossN 1 lw (A19 82) (A19 83) (A19 84) n (rowsL n (I 85 1).toNat true) (rowsL n (I 85 0).toNat true)) k)), some (zi ((rowsL n (I 85 1).toNat true).length : Int)), some (zi (k : Int)), some (zi ((lossN 1 lw (A19 82) (A19 83) (A19 84) n (rowsL n (I 85 1).toNat true) (rowsL n (I 85 0).toNat true)) k))]) dX12_safest_103 (by decide) rfl ?_
              refine rz_iinc dX12_safest_105 (by decide) rfl rfl rfl ?_
              refine rz_goto (t := 53) dX12_safest_108 rfl ?_
              exact rz_bk (ihk (((k : Int), (lossN 1 lw (A19 82) (A19 83) (A19 84) n (rowsL n (I 85 1).toNat true) (rowsL n (I 85 0).toNat true)) k)) ((Or.inr ⟨by omega, by rw [fmN_y (by rcases qk with e | e; (rw [hf0 e.1]; show (lossN 1 lw (A19 82) (A19 83) (A19 84) n (rowsL n (I 85 1).toNat true) (rowsL n (I 85 0).toNat true)) k < 301; omega); omega)], by rw [fmN_y (by rcases qk with e | e; (rw [hf0 e.1]; show (lossN 1 lw (A19 82) (A19 83) (A19 84) n (rowsL n (I 85 1).toNat true) (rowsL n (I 85 0).toNat true)) k < 301; omega); omega)]⟩))) ⟨Or.inr rfl, Or.inr rfl, Or.inr rfl, Or.inr rfl, Or.inr rfl, Or.inr rfl, Or.inr rfl, Or.inl rfl, trivial⟩ (rfl) (rfl)
            · refine rz_iload dX12_safest_88 rfl ?_
              refine rz_iload dX12_safest_90 rfl ?_
              refine rz_icmp_lt (t := 98) dX12_safest_92 rfl (by omega) (by omega) (fun c92 => ?_) (fun c92 => ?_)
              · refine rz_iload dX12_safest_98 rfl ?_
                refine rz_istore_n dX12_safest_100 (by decide) rfl ?_
                refine rz_iload dX12_safest_101 rfl ?_
                refine rz_istore (ls' := [some (.ref 81), some (zi 1), some (zi what), some (zi (k : Int)), some (zi ((lossN 1 lw (A19 82) (A19 83) (A19 84) n (rowsL n (I 85 1).toNat true) (rowsL n (I 85 0).toNat true)) k)), some (zi ((rowsL n (I 85 1).toNat true).length : Int)), some (zi (k : Int)), some (zi ((lossN 1 lw (A19 82) (A19 83) (A19 84) n (rowsL n (I 85 1).toNat true) (rowsL n (I 85 0).toNat true)) k))]) dX12_safest_103 (by decide) rfl ?_
                refine rz_iinc dX12_safest_105 (by decide) rfl rfl rfl ?_
                refine rz_goto (t := 53) dX12_safest_108 rfl ?_
                exact rz_bk (ihk (((k : Int), (lossN 1 lw (A19 82) (A19 83) (A19 84) n (rowsL n (I 85 1).toNat true) (rowsL n (I 85 0).toNat true)) k)) ((Or.inr ⟨by omega, by rw [fmN_y (by rcases qk with e | e; (rw [hf0 e.1]; show (lossN 1 lw (A19 82) (A19 83) (A19 84) n (rowsL n (I 85 1).toNat true) (rowsL n (I 85 0).toNat true)) k < 301; omega); omega)], by rw [fmN_y (by rcases qk with e | e; (rw [hf0 e.1]; show (lossN 1 lw (A19 82) (A19 83) (A19 84) n (rowsL n (I 85 1).toNat true) (rowsL n (I 85 0).toNat true)) k < 301; omega); omega)]⟩))) ⟨Or.inr rfl, Or.inr rfl, Or.inr rfl, Or.inr rfl, Or.inr rfl, Or.inr rfl, Or.inr rfl, Or.inl rfl, trivial⟩ (rfl) (rfl)
              · refine rz_goto (t := 105) dX12_safest_95 rfl ?_
                refine rz_iinc dX12_safest_105 (by decide) rfl rfl rfl ?_
                refine rz_goto (t := 53) dX12_safest_108 rfl ?_
                exact rz_bk (ihk ((bb, ll)) ((by rcases qk with e | e; omega; exact Or.inr ⟨by omega, by rw [fmN_n (by omega)]; exact e.2.1, by rw [fmN_n (by omega)]; exact e.2.2⟩))) ⟨Or.inr rfl, Or.inr rfl, Or.inr rfl, Or.inr rfl, Or.inr rfl, Or.inr rfl, Or.inr rfl, Or.inl rfl, trivial⟩ (rfl) (rfl)
        · intro sk qk
          have hfe := fmN_rg (t := (lossN 1 lw (A19 82) (A19 83) (A19 84) n (rowsL n (I 85 1).toNat true) (rowsL n (I 85 0).toNat true))) (lossN_rg hL0) (rowsL n (I 85 1).toNat true).length
          obtain ⟨e1, e2, e3⟩ := qk.resolve_left (fun e => by omega)
          have hfe2 := hfe.2 hge
          refine rz_iload dX12_safest_53 rfl ?_
          refine rz_iload dX12_safest_55 rfl ?_
          refine rz_icmp_ge (t := 111) dX12_safest_57 rfl (by omega) (by omega) (fun c57 => ?_) (fun c57 => ?_)
          · refine rz_iload_n dX12_safest_111 rfl ?_
            refine rz_if_ge (t := 118) dX12_safest_112 rfl (by omega) (fun c112 => ?_) (fun c112 => ?_)
            · refine rz_iload_n dX12_safest_118 rfl ?_
              refine rz_iconst dX12_safest_119 ?_
              refine rz_icmp_ne (t := 128) dX12_safest_120 rfl (by omega) (by omega) (fun c120 => ?_) (fun c120 => ?_)
              · refine rz_iload_n dX12_safest_128 rfl ?_
                refine rz_if_ne (t := 139) dX12_safest_129 rfl (by omega) (fun _ => ?_) (fun q => absurd q (by decide))
                refine rz_aload_n dX12_safest_139 rfl ?_
                refine rz_getR dX12_safest_140 kf_RX12_90 hd_81 rfl rr_81_39 ?_
                refine rz_iload_n dX12_safest_143 rfl ?_
                refine rz_aload_n dX12_safest_144 rfl ?_
                refine rz_getI (z := (n : Int)) dX12_safest_145 kf_RX12_137 hd_81 rfl (d6) ?_
                refine rz_cSI dX12_safest_148 kl_RX12_342 ((by have q := c_X12_numberIn X (h + 8) A19 J n (fmN (lossN 1 lw (A19 82) (A19 83) (A19 84) n (rowsL n (I 85 1).toNat true) (rowsL n (I 85 0).toNat true)) (rowsL n (I 85 1).toNat true).length).2 108 1500 h2.2 hd_108 (by decide) (by have := (hfe.2 hge).2; omega); rw [← e2] at q; exact q)) rfl rfl (Nat.le_of_ble_eq_true rfl) (Nat.le_of_ble_eq_true rfl) ?_
                refine rz_iret dX12_safest_151 rfl ?_
                exact ⟨_, rfl, by
                  rw [safZ, if_pos ⟨by omega, by omega⟩, if_pos (lstB_t m19), if_neg (by decide), safV, if_pos (by omega), ← e82, ← e83, ← e84]
                  exact numP_congr (fun v hv => d4 _ _ (getD_get hfe2.2) v hv), fr19, rfl⟩
              · refine rz_iload dX12_safest_123 rfl ?_
                refine rz_goto (t := 151) dX12_safest_125 rfl ?_
                refine rz_iret dX12_safest_151 rfl ?_
                exact ⟨_, rfl, by rw [safZ, if_pos ⟨by omega, by omega⟩, if_pos (lstB_t m19), if_neg (by decide), safV, if_neg (by omega), ← e82, ← e83, ← e84]; exact e3, fr19, rfl⟩
            · refine rz_bipush dX12_safest_115 (by decide) ?_
              refine rz_iret dX12_safest_117 rfl ?_
              exfalso; omega
          · exfalso; omega
      · refine rz_if_ne (t := 28) dX12_safest_22 rfl (by omega) (fun q => absurd q (by decide)) (fun _ => ?_)
        refine rz_bipush dX12_safest_25 (by decide) ?_
        refine rz_iret dX12_safest_27 rfl ?_
        exact ⟨_, rfl, by rw [safZ, if_pos ⟨by omega, by omega⟩, if_neg (lstB_f m19)], fr19, rfl⟩
    · refine rz_if_ne (t := 18) dX12_safest_13 rfl (by omega) (fun q => absurd q (by decide)) (fun _ => ?_)
      refine rz_iconst dX12_safest_16 ?_
      refine rz_iret dX12_safest_17 rfl ?_
      exact ⟨_, rfl, by rw [safZ, if_neg (by omega)], FrR_refl, rfl⟩
  · exfalso; omega
set_option maxRecDepth 20000 in
set_option maxHeartbeats 400000 in
theorem safest_cn {X : pX} {I J : IM} {h : Nat} {lw : Lw} {n : Nat} (hc : CchI I lw n) (b p : Int) (hb : rg b) (h01 : b ≠ 0 ∧ b ≠ 1) : KIq X (h + 6) mX11_safest [.ref 0, zi b, zi p] I J (fun z A B => z = safZ lw (I 7) (I 8) (I 9) (I 10) n b p ∧ QC I lw n A ∧ J = B) := by
  show Rz X (h + 6) mX11_safest 0 [some (.ref 0), some (zi b), some (zi p)] [] I J _
  refine rz_iload_n dX11_safest_0 rfl ?_
  refine rz_cSIq dX11_safest_1 kl_RX11_112 (c_X11_isBaker X _ I J b (by omega)) rfl rfl (Nat.le_of_ble_eq_true rfl) (Nat.le_of_ble_eq_true rfl) ?_
  rintro z1 A1 B1 ⟨⟨rfl, b1⟩ | ⟨rfl, b1⟩, rfl, rfl⟩
  · exfalso; omega
  · refine rz_if_eq (t := 16) dX11_safest_4 rfl (by omega) (fun _ => ?_) (fun q => absurd q (by decide))
    refine rz_iconst dX11_safest_16 ?_
    refine rz_iret dX11_safest_17 rfl ?_
    exact ⟨_, rfl, by rw [safZ, if_neg (by omega)], QC_refl hc, rfl⟩
theorem c_X11_safest {X : pX} {I J : IM} {h : Nat} {lw : Lw} {n : Nat} {m0 m1 : Mx} (hq : CqI I lw n m0 m1) (b p : Int) (hb : rg b) (hp : rg p) : KIq X (h + 6) mX11_safest [.ref 0, zi b, zi p] I J (fun z A B => z = safZ lw (I 7) (I 8) (I 9) (I 10) n b p ∧ QC I lw n A ∧ J = B) := by
  by_cases e0 : b = 0
  · subst e0; exact safest_c0 hq p hp
  · by_cases e1 : b = 1
    · subst e1; exact safest_c1 hq p hp
    · exact safest_cn hq.2.2.2.1 b p hb ⟨e0, e1⟩
set_option maxRecDepth 20000 in
set_option maxHeartbeats 400000 in
theorem safest_rn {X : pX} {I J : IM} {h : Nat} {lw : Lw} {n : Nat} (b p : Int) (hb : rg b) (h01 : b ≠ 0 ∧ b ≠ 1) : KIq X (h + 9) mX12_safest [.ref 81, zi b, zi p] I J (fun z A B => z = safZ lw (I 82) (I 83) (I 84) (I 85) n b p ∧ FrR I A ∧ J = B) := by
  show Rz X (h + 9) mX12_safest 0 [some (.ref 81), some (zi b), some (zi p), none, none, none, none, none] [] I J _
  refine rz_iload_n dX12_safest_0 rfl ?_
  refine rz_cSIq dX12_safest_1 kl_RX12_158 (c_X12_isBaker X _ I J b (by omega)) rfl rfl (Nat.le_of_ble_eq_true rfl) (Nat.le_of_ble_eq_true rfl) ?_
  rintro z1 A1 B1 ⟨⟨rfl, b1⟩ | ⟨rfl, b1⟩, rfl, rfl⟩
  · exfalso; omega
  · refine rz_if_eq (t := 16) dX12_safest_4 rfl (by omega) (fun _ => ?_) (fun q => absurd q (by decide))
    refine rz_iconst dX12_safest_16 ?_
    refine rz_iret dX12_safest_17 rfl ?_
    exact ⟨_, rfl, by rw [safZ, if_neg (by omega)], FrR_refl, rfl⟩
theorem c_X12_safest {X : pX} {I J : IM} {h : Nat} {lw : Lw} {n : Nat} {m0 m1 : Mx} (hq : RqI I lw n m0 m1) (hbk : BOK I) (b p : Int) (hb : rg b) (hp : rg p) : KIq X (h + 9) mX12_safest [.ref 81, zi b, zi p] I J (fun z A B => z = safZ lw (I 82) (I 83) (I 84) (I 85) n b p ∧ FrR I A ∧ J = B) := by
  by_cases e0 : b = 0
  · subst e0; exact safest_r0 hq hbk p hp
  · by_cases e1 : b = 1
    · subst e1; exact safest_r1 hq hbk p hp
    · exact safest_rn b p hb ⟨e0, e1⟩
