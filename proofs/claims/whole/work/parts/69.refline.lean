/-! what so many loaves are worth: the reference -/
theorem FhQ_has {I A : IM} {lw : Lw} {n : Nat} (h : FhQ I lw n A) : HasR A lw n := by
  obtain ⟨F, G, H, rfl, h1⟩ := h
  exact h1
theorem FhQ_fr {I A : IM} {lw : Lw} {n : Nat} (h : FhQ I lw n A) : ∀ a, a ≠ 100 → a ≠ 101 → a ≠ 102 → A a = I a := by
  obtain ⟨F, G, H, rfl, h1⟩ := h
  exact fun a g1 g2 g3 => by simp [fhM, scrR, upA, g1, g2, g3]
theorem MixR_of {I A : IM} {b : Nat} {m : Mx} (h0 : A 86 = I 86) (h1 : A 87 = I 87) (h2 : A 88 = I 88) (h : MixR I b m) : MixR A b m := by
  unfold MixR
  rw [h0, h1, h2]; exact h
set_option maxRecDepth 20000 in
set_option maxHeartbeats 400000 in
theorem c_X12_findGains0 {X : pX} {I J : IM} {h : Nat} (lw : Lw) (n : Nat) (hn : I 81 1 = n ∧ n ≤ 5) (m : Mx) (hm : MixR I 1 m) (hH : HasR I lw n) : KV X (h + 2) mX12_findGains [.ref 81, zi 0] I J (acM (fillM I 106 50 0) 106 n (lnN m) (fun i j => gF lw (I 82) (I 83) (I 84) 0 m i j)) J := by
  have hmo := MixR_ok hm
  have hl8 := lnN_le hmo.1
  show Rz X (h + 2) mX12_findGains 0 [some (.ref 81), some (zi 0), none, none] [] I J _
  refine rz_aload_n dX12_findGains_0 rfl ?_
  refine rz_cVV dX12_findGains_1 kl_RX12_281 hd_81 ⟨_, _, rfl⟩ (c_X12_noGains) rfl rfl (Nat.le_of_ble_eq_true rfl) (Nat.le_of_ble_eq_true rfl) ?_
  refine rz_iconst dX12_findGains_4 ?_
  refine rz_istore_n dX12_findGains_5 (by decide) rfl ?_
  refine rz_up (ls := fun k : Nat => [some (.ref 81), some (zi 0), some (zi (k : Int)), none]) (IV := fun k : Nat => (acM (fillM I 106 50 0) 106 n k (fun i j => gF lw (I 82) (I 83) (I 84) 0 m i j))) (JV := fun k : Nat => J) ((lnN m)) ⟨Or.inr rfl, Or.inr rfl, Or.inr rfl, Or.inl rfl, trivial⟩ ((acM_0 (fun j hj => by show (fillM I 106 50 0) 106 j = 0; unfold fillM; rw [upA_self, if_pos (by omega)]))) (rfl) ?_ ?_
  · intro k hk ihk
    refine rz_iload_n dX12_findGains_6 rfl ?_
    refine rz_aload_n dX12_findGains_7 rfl ?_
    refine rz_iconst dX12_findGains_8 ?_
    refine rz_iload_n dX12_findGains_9 rfl ?_
    refine rz_isub dX12_findGains_10 ?_
    refine rz_cVI dX12_findGains_11 kl_RX12_284 hd_81 ⟨_, _, rfl⟩ (c_X12_mixMany X _ (acM (fillM I 106 50 0) 106 n k (fun i j => gF lw (I 82) (I 83) (I 84) 0 m i j)) J 1 (by omega) (MixR_ln hm).1) rfl rfl (Nat.le_of_ble_eq_true rfl) (Nat.le_of_ble_eq_true rfl) ?_
    refine rz_ieq (y := (lnN m : Int)) (MixR_ln hm).2.symm ?_
    refine rz_icmp_ge (t := 62) dX12_findGains_14 rfl (by omega) (by omega) (fun c14 => ?_) (fun c14 => ?_)
    · exfalso; omega
    · refine rz_iconst dX12_findGains_17 ?_
      refine rz_istore_n dX12_findGains_18 (by decide) rfl ?_
      refine rz_up (ls := fun v : Nat => [some (.ref 81), some (zi 0), some (zi (k : Int)), some (zi (v : Int))]) (IV := fun v : Nat => (adN (acM (fillM I 106 50 0) 106 n k (fun i j => gF lw (I 82) (I 83) (I 84) 0 m i j)) 106 (10 * v) ((fun i j => gF lw (I 82) (I 83) (I 84) 0 m i j) k))) (JV := fun v : Nat => J) (n) ⟨Or.inr rfl, Or.inr rfl, Or.inr rfl, Or.inr rfl, trivial⟩ (adN_0) (rfl) ?_ ?_
      · intro v hv ihv
        refine rz_iload_n dX12_findGains_19 rfl ?_
        refine rz_aload_n dX12_findGains_20 rfl ?_
        refine rz_getI (z := (n : Int)) dX12_findGains_21 kf_RX12_137 hd_81 rfl (hn.1) ?_
        refine rz_icmp_ge (t := 56) dX12_findGains_24 rfl (by omega) (by omega) (fun c24 => ?_) (fun c24 => ?_)
        · exfalso; omega
        · refine rz_aload_n dX12_findGains_27 rfl ?_
          refine rz_iload_n dX12_findGains_28 rfl ?_
          refine rz_iload_n dX12_findGains_29 rfl ?_
          refine rz_aload_n dX12_findGains_30 rfl ?_
          refine rz_iconst dX12_findGains_31 ?_
          refine rz_iload_n dX12_findGains_32 rfl ?_
          refine rz_isub dX12_findGains_33 ?_
          refine rz_iload_n dX12_findGains_34 rfl ?_
          refine rz_iload_n dX12_findGains_35 rfl ?_
          refine rz_cVI dX12_findGains_36 kl_RX12_287 hd_81 ⟨_, _, rfl⟩ (c_X12_mixAt X _ (adN (acM (fillM I 106 50 0) 106 n k (fun i j => gF lw (I 82) (I 83) (I 84) 0 m i j)) 106 (10 * v) ((fun i j => gF lw (I 82) (I 83) (I 84) 0 m i j) k)) J 1 k v (by omega) (MixR_ln hm).1 (by omega) (by omega)) rfl rfl (Nat.le_of_ble_eq_true rfl) (Nat.le_of_ble_eq_true rfl) ?_
          refine rz_ieq (y := ((loS m k v : Nat) : Int)) (MixR_lo hm (by omega) (by omega)).symm ?_
          refine rz_aload_n dX12_findGains_39 rfl ?_
          refine rz_iconst dX12_findGains_40 ?_
          refine rz_iload_n dX12_findGains_41 rfl ?_
          refine rz_isub dX12_findGains_42 ?_
          refine rz_iload_n dX12_findGains_43 rfl ?_
          refine rz_cVI dX12_findGains_44 kl_RX12_290 hd_81 ⟨_, _, rfl⟩ (c_X12_weightAt X _ (adN (acM (fillM I 106 50 0) 106 n k (fun i j => gF lw (I 82) (I 83) (I 84) 0 m i j)) 106 (10 * v) ((fun i j => gF lw (I 82) (I 83) (I 84) 0 m i j) k)) J 1 k (by omega) (MixR_ln hm).1 (by omega)) rfl rfl (Nat.le_of_ble_eq_true rfl) (Nat.le_of_ble_eq_true rfl) ?_
          refine rz_ieq (y := wtS m k) (MixR_wt hm (by omega)).symm ?_
          refine rz_cVV dX12_findGains_47 kl_RX12_293 hd_81 ⟨_, _, rfl⟩ (c_X12_addGains (I := (adN (acM (fillM I 106 50 0) 106 n k (fun i j => gF lw (I 82) (I 83) (I 84) 0 m i j)) 106 (10 * v) ((fun i j => gF lw (I 82) (I 83) (I 84) 0 m i j) k))) lw n 0 v (loS m k v) (wtS m k) hn.2 (by omega) hv (loS_rg hmo (by omega) (by omega)) hH) rfl rfl (Nat.le_of_ble_eq_true rfl) (Nat.le_of_ble_eq_true rfl) ?_
          refine rz_iinc dX12_findGains_50 (by decide) rfl rfl rfl ?_
          refine rz_goto (t := 19) dX12_findGains_53 rfl ?_
          exact rz_bk ihv ⟨Or.inr rfl, Or.inr rfl, Or.inr rfl, Or.inr rfl, trivial⟩ ((adM_adN (F := (fun i j => gF lw (I 82) (I 83) (I 84) 0 m i j) k) (fun x hx => (gF_at (by omega)).symm)).symm) (rfl)
      · skip
        refine rz_iload_n dX12_findGains_19 rfl ?_
        refine rz_aload_n dX12_findGains_20 rfl ?_
        refine rz_getI (z := (n : Int)) dX12_findGains_21 kf_RX12_137 hd_81 rfl (hn.1) ?_
        refine rz_icmp_ge (t := 56) dX12_findGains_24 rfl (by omega) (by omega) (fun c24 => ?_) (fun c24 => ?_)
        · refine rz_iinc dX12_findGains_56 (by decide) rfl rfl rfl ?_
          refine rz_goto (t := 6) dX12_findGains_59 rfl ?_
          exact rz_bk ihk ⟨Or.inr rfl, Or.inr rfl, Or.inr rfl, Or.inl rfl, trivial⟩ (acM_s.symm) (rfl)
        · exfalso; omega
  · skip
    refine rz_iload_n dX12_findGains_6 rfl ?_
    refine rz_aload_n dX12_findGains_7 rfl ?_
    refine rz_iconst dX12_findGains_8 ?_
    refine rz_iload_n dX12_findGains_9 rfl ?_
    refine rz_isub dX12_findGains_10 ?_
    refine rz_cVI dX12_findGains_11 kl_RX12_284 hd_81 ⟨_, _, rfl⟩ (c_X12_mixMany X _ (acM (fillM I 106 50 0) 106 n ((lnN m)) (fun i j => gF lw (I 82) (I 83) (I 84) 0 m i j)) J 1 (by omega) (MixR_ln hm).1) rfl rfl (Nat.le_of_ble_eq_true rfl) (Nat.le_of_ble_eq_true rfl) ?_
    refine rz_ieq (y := (lnN m : Int)) (MixR_ln hm).2.symm ?_
    refine rz_icmp_ge (t := 62) dX12_findGains_14 rfl (by omega) (by omega) (fun c14 => ?_) (fun c14 => ?_)
    · refine rz_vret dX12_findGains_62 rfl ?_
      exact ⟨rfl, rfl, rfl⟩
    · exfalso; omega
set_option maxRecDepth 20000 in
set_option maxHeartbeats 400000 in
theorem c_X12_findGains1 {X : pX} {I J : IM} {h : Nat} (lw : Lw) (n : Nat) (hn : I 81 1 = n ∧ n ≤ 5) (m : Mx) (hm : MixR I 0 m) (hH : HasR I lw n) : KV X (h + 2) mX12_findGains [.ref 81, zi 1] I J (acM (fillM I 106 50 0) 106 n (lnN m) (fun i j => gF lw (I 82) (I 83) (I 84) 1 m i j)) J := by
  have hmo := MixR_ok hm
  have hl8 := lnN_le hmo.1
  show Rz X (h + 2) mX12_findGains 0 [some (.ref 81), some (zi 1), none, none] [] I J _
  refine rz_aload_n dX12_findGains_0 rfl ?_
  refine rz_cVV dX12_findGains_1 kl_RX12_281 hd_81 ⟨_, _, rfl⟩ (c_X12_noGains) rfl rfl (Nat.le_of_ble_eq_true rfl) (Nat.le_of_ble_eq_true rfl) ?_
  refine rz_iconst dX12_findGains_4 ?_
  refine rz_istore_n dX12_findGains_5 (by decide) rfl ?_
  refine rz_up (ls := fun k : Nat => [some (.ref 81), some (zi 1), some (zi (k : Int)), none]) (IV := fun k : Nat => (acM (fillM I 106 50 0) 106 n k (fun i j => gF lw (I 82) (I 83) (I 84) 1 m i j))) (JV := fun k : Nat => J) ((lnN m)) ⟨Or.inr rfl, Or.inr rfl, Or.inr rfl, Or.inl rfl, trivial⟩ ((acM_0 (fun j hj => by show (fillM I 106 50 0) 106 j = 0; unfold fillM; rw [upA_self, if_pos (by omega)]))) (rfl) ?_ ?_
  · intro k hk ihk
    refine rz_iload_n dX12_findGains_6 rfl ?_
    refine rz_aload_n dX12_findGains_7 rfl ?_
    refine rz_iconst dX12_findGains_8 ?_
    refine rz_iload_n dX12_findGains_9 rfl ?_
    refine rz_isub dX12_findGains_10 ?_
    refine rz_cVI dX12_findGains_11 kl_RX12_284 hd_81 ⟨_, _, rfl⟩ (c_X12_mixMany X _ (acM (fillM I 106 50 0) 106 n k (fun i j => gF lw (I 82) (I 83) (I 84) 1 m i j)) J 0 (by omega) (MixR_ln hm).1) rfl rfl (Nat.le_of_ble_eq_true rfl) (Nat.le_of_ble_eq_true rfl) ?_
    refine rz_ieq (y := (lnN m : Int)) (MixR_ln hm).2.symm ?_
    refine rz_icmp_ge (t := 62) dX12_findGains_14 rfl (by omega) (by omega) (fun c14 => ?_) (fun c14 => ?_)
    · exfalso; omega
    · refine rz_iconst dX12_findGains_17 ?_
      refine rz_istore_n dX12_findGains_18 (by decide) rfl ?_
      refine rz_up (ls := fun v : Nat => [some (.ref 81), some (zi 1), some (zi (k : Int)), some (zi (v : Int))]) (IV := fun v : Nat => (adN (acM (fillM I 106 50 0) 106 n k (fun i j => gF lw (I 82) (I 83) (I 84) 1 m i j)) 106 (10 * v) ((fun i j => gF lw (I 82) (I 83) (I 84) 1 m i j) k))) (JV := fun v : Nat => J) (n) ⟨Or.inr rfl, Or.inr rfl, Or.inr rfl, Or.inr rfl, trivial⟩ (adN_0) (rfl) ?_ ?_
      · intro v hv ihv
        refine rz_iload_n dX12_findGains_19 rfl ?_
        refine rz_aload_n dX12_findGains_20 rfl ?_
        refine rz_getI (z := (n : Int)) dX12_findGains_21 kf_RX12_137 hd_81 rfl (hn.1) ?_
        refine rz_icmp_ge (t := 56) dX12_findGains_24 rfl (by omega) (by omega) (fun c24 => ?_) (fun c24 => ?_)
        · exfalso; omega
        · refine rz_aload_n dX12_findGains_27 rfl ?_
          refine rz_iload_n dX12_findGains_28 rfl ?_
          refine rz_iload_n dX12_findGains_29 rfl ?_
          refine rz_aload_n dX12_findGains_30 rfl ?_
          refine rz_iconst dX12_findGains_31 ?_
          refine rz_iload_n dX12_findGains_32 rfl ?_
          refine rz_isub dX12_findGains_33 ?_
          refine rz_iload_n dX12_findGains_34 rfl ?_
          refine rz_iload_n dX12_findGains_35 rfl ?_
          refine rz_cVI dX12_findGains_36 kl_RX12_287 hd_81 ⟨_, _, rfl⟩ (c_X12_mixAt X _ (adN (acM (fillM I 106 50 0) 106 n k (fun i j => gF lw (I 82) (I 83) (I 84) 1 m i j)) 106 (10 * v) ((fun i j => gF lw (I 82) (I 83) (I 84) 1 m i j) k)) J 0 k v (by omega) (MixR_ln hm).1 (by omega) (by omega)) rfl rfl (Nat.le_of_ble_eq_true rfl) (Nat.le_of_ble_eq_true rfl) ?_
          refine rz_ieq (y := ((loS m k v : Nat) : Int)) (MixR_lo hm (by omega) (by omega)).symm ?_
          refine rz_aload_n dX12_findGains_39 rfl ?_
          refine rz_iconst dX12_findGains_40 ?_
          refine rz_iload_n dX12_findGains_41 rfl ?_
          refine rz_isub dX12_findGains_42 ?_
          refine rz_iload_n dX12_findGains_43 rfl ?_
          refine rz_cVI dX12_findGains_44 kl_RX12_290 hd_81 ⟨_, _, rfl⟩ (c_X12_weightAt X _ (adN (acM (fillM I 106 50 0) 106 n k (fun i j => gF lw (I 82) (I 83) (I 84) 1 m i j)) 106 (10 * v) ((fun i j => gF lw (I 82) (I 83) (I 84) 1 m i j) k)) J 0 k (by omega) (MixR_ln hm).1 (by omega)) rfl rfl (Nat.le_of_ble_eq_true rfl) (Nat.le_of_ble_eq_true rfl) ?_
          refine rz_ieq (y := wtS m k) (MixR_wt hm (by omega)).symm ?_
          refine rz_cVV dX12_findGains_47 kl_RX12_293 hd_81 ⟨_, _, rfl⟩ (c_X12_addGains (I := (adN (acM (fillM I 106 50 0) 106 n k (fun i j => gF lw (I 82) (I 83) (I 84) 1 m i j)) 106 (10 * v) ((fun i j => gF lw (I 82) (I 83) (I 84) 1 m i j) k))) lw n 1 v (loS m k v) (wtS m k) hn.2 (by omega) hv (loS_rg hmo (by omega) (by omega)) hH) rfl rfl (Nat.le_of_ble_eq_true rfl) (Nat.le_of_ble_eq_true rfl) ?_
          refine rz_iinc dX12_findGains_50 (by decide) rfl rfl rfl ?_
          refine rz_goto (t := 19) dX12_findGains_53 rfl ?_
          exact rz_bk ihv ⟨Or.inr rfl, Or.inr rfl, Or.inr rfl, Or.inr rfl, trivial⟩ ((adM_adN (F := (fun i j => gF lw (I 82) (I 83) (I 84) 1 m i j) k) (fun x hx => (gF_at (by omega)).symm)).symm) (rfl)
      · skip
        refine rz_iload_n dX12_findGains_19 rfl ?_
        refine rz_aload_n dX12_findGains_20 rfl ?_
        refine rz_getI (z := (n : Int)) dX12_findGains_21 kf_RX12_137 hd_81 rfl (hn.1) ?_
        refine rz_icmp_ge (t := 56) dX12_findGains_24 rfl (by omega) (by omega) (fun c24 => ?_) (fun c24 => ?_)
        · refine rz_iinc dX12_findGains_56 (by decide) rfl rfl rfl ?_
          refine rz_goto (t := 6) dX12_findGains_59 rfl ?_
          exact rz_bk ihk ⟨Or.inr rfl, Or.inr rfl, Or.inr rfl, Or.inl rfl, trivial⟩ (acM_s.symm) (rfl)
        · exfalso; omega
  · skip
    refine rz_iload_n dX12_findGains_6 rfl ?_
    refine rz_aload_n dX12_findGains_7 rfl ?_
    refine rz_iconst dX12_findGains_8 ?_
    refine rz_iload_n dX12_findGains_9 rfl ?_
    refine rz_isub dX12_findGains_10 ?_
    refine rz_cVI dX12_findGains_11 kl_RX12_284 hd_81 ⟨_, _, rfl⟩ (c_X12_mixMany X _ (acM (fillM I 106 50 0) 106 n ((lnN m)) (fun i j => gF lw (I 82) (I 83) (I 84) 1 m i j)) J 0 (by omega) (MixR_ln hm).1) rfl rfl (Nat.le_of_ble_eq_true rfl) (Nat.le_of_ble_eq_true rfl) ?_
    refine rz_ieq (y := (lnN m : Int)) (MixR_ln hm).2.symm ?_
    refine rz_icmp_ge (t := 62) dX12_findGains_14 rfl (by omega) (by omega) (fun c14 => ?_) (fun c14 => ?_)
    · refine rz_vret dX12_findGains_62 rfl ?_
      exact ⟨rfl, rfl, rfl⟩
    · exfalso; omega
/-- the row found is the one chosen -/
theorem fb_done {A : IM} {n N : Nat} {b g : Int} (hn : n ≤ 5) (hN : N ≤ 9) (hG : GRg A 106 n) (h : FbI (gainL (gI A 106) 0) (rowsL n N false) (rowsL n N false).length b g) : g = mx (gI A 106) false n 0 N ∧ ∃ j : Nat, b = (j : Int) ∧ (rowsL n N false)[j]? = some (chsR (gI A 106) n 0 N) := by
  have hb := (best_rows (g := gI A 106) (n := n) (fun v x hv hx => (hG v x hv hx).1) n 0 N hn (by omega) hN).2
  rcases h with ⟨h1, h2, h3⟩ | ⟨s, j, h1, h2, h3, h4⟩
  · have e : rowsL n N false = [] := List.eq_nil_of_length_eq_zero h1
    rw [e] at hb
    exact absurd hb (by simp [bestL])
  · rw [List.take_length, hb] at h1
    injection h1 with h1
    injection h1 with e1 e2
    exact ⟨e1.symm, j, h2, by rw [h4, e2]⟩
/-- the scratch of the reference -/
abbrev scCR (a : Nat) : Prop := a = 81 ∨ a = 93 ∨ (100 ≤ a ∧ a ≤ 112)
abbrev scKR (k : Nat) : Prop := k = 33 ∨ k = 36 ∨ k = 37 ∨ k = 40 ∨ k = 41 ∨ k = 45
abbrev BOK (I : IM) : Prop := ∀ j, -128 ≤ I 104 j ∧ I 104 j ≤ 127
def FrR (I A : IM) : Prop := (∀ a, ¬ scCR a → A a = I a) ∧ (∀ k, ¬ scKR k → A 81 k = I 81 k) ∧ (BOK I → BOK A)
theorem FrR_refl {I : IM} : FrR I I := ⟨fun _ _ => rfl, fun _ _ => rfl, fun h => h⟩
theorem FrR.trans {I A B : IM} (h : FrR I A) (h2 : FrR A B) : FrR I B := ⟨fun a ha => (h2.1 a ha).trans (h.1 a ha), fun k hk => (h2.2.1 k hk).trans (h.2.1 k hk), fun q => h2.2.2 (h.2.2 q)⟩
theorem FrR_up {I : IM} {a : Nat} {g : Nat → Int} (h : scCR a) (h81 : a ≠ 81 ∧ a ≠ 104) : FrR I (upA I a g) := ⟨fun b hb => by unfold upA; rw [if_neg (fun e => hb (by rw [e]; exact h))], fun k _ => by unfold upA; rw [if_neg (fun e => h81.1 e.symm)], fun q => by
  have e : upA I a g 104 = I 104 := by unfold upA; rw [if_neg (fun e => h81.2 e.symm)]
  intro j; rw [e]; exact q j⟩
theorem FrR_k {I : IM} {k : Nat} {z : Int} (h : scKR k) : FrR I (upA I 81 (up1 (I 81) k z)) := ⟨fun b hb => by unfold upA; rw [if_neg (fun e => hb (Or.inl e))], fun j hj => by rw [upA_self, up1_ne (fun e => hj (by rw [e]; exact h))], fun q => q⟩
theorem FrR_fh {I A : IM} {lw : Lw} {n : Nat} (h : FhQ I lw n A) : FrR I A := by
  have h1 := FhQ_fr h
  exact ⟨fun a ha => h1 a (by omega) (by omega) (by omega), fun k _ => by rw [h1 81 (by decide) (by decide) (by decide)], fun q => by
    intro j; rw [h1 104 (by decide) (by decide) (by decide)]; exact q j⟩
theorem FrR_lay {I : IM} {k : Nat} {R W : Nat → Int} (hR : ∀ j, R j = I 104 j ∨ (0 ≤ R j ∧ R j ≤ 9)) : FrR I (layM I k R W) := by
  have h1 : FrR I (upA I 104 R) := ⟨fun b hb => by unfold upA; rw [if_neg (by omega)], fun k _ => rfl, fun q => by
    intro j
    show -128 ≤ R j ∧ R j ≤ 127
    rcases hR j with e | e
    · rw [e]; exact q j
    · omega⟩
  unfold layM
  refine FrR.trans h1 (FrR.trans (FrR_up (a := 105) (g := W) (by decide) (by decide)) ?_)
  exact FrR_k (I := upA (upA I 104 R) 105 W) (k := 33) (by decide)
theorem FrR_fb {I : IM} {b g : Int} : FrR I (fbM I b g) := by
  refine ⟨fun a ha => by unfold fbM upA; rw [if_neg (fun e => ha (Or.inl e))], fun k hk => ?_, fun q => q⟩
  unfold fbM
  rw [upA_self, up1_ne (by omega), up1_ne (by omega)]
theorem FrR_ac {I : IM} {n q : Nat} {F : Nat → Nat → Int} : FrR I (acM (fillM I 106 50 0) 106 n q F) := by
  unfold acM fillM
  rw [upA_upA]
  exact FrR_up (by decide) (by decide)
theorem HasR_of {I A : IM} {lw : Lw} {n : Nat} (h1 : A 102 = I 102) (h2 : A 82 = I 82) (h3 : A 83 = I 83) (h4 : A 84 = I 84) (h : HasR I lw n) : HasR A lw n := by
  unfold HasR
  rw [h1, h2, h3, h4]; exact h
