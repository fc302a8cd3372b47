/-! most and fewest: the reference -/
theorem up2_sw {I : IM} {K K2 F : Nat → Int} : upA (upA I 81 K2) 111 F = upA (upA (upA I 81 K) 111 F) 81 K2 := by
  funext d
  by_cases e1 : d = 81
  · subst e1; rfl
  · by_cases e2 : d = 111
    · subst e2; rfl
    · simp [upA, e1, e2]
theorem FrR_45 {I : IM} {K F : Nat → Int} (h : ∀ x, x ≠ 45 → K x = I 81 x) : FrR I (upA (upA I 81 K) 111 F) := by
  have e : K = up1 (I 81) 45 (K 45) := by
    funext x
    by_cases q : x = 45
    · subst q; rw [up1_self]
    · rw [up1_ne q]; exact h x q
  rw [e]
  exact FrR.trans (FrR_k (by decide)) (FrR_up (a := 111) (by decide) (by decide))
theorem frM_45 {t : Nat → Int} {k : Nat} {K : Nat → Int} (h : (frM t k).1 < t k) : up1 K 45 (t k) 45 = (frM t (k + 1)).1 := by
  rw [frM_y h, up1_self]
set_option maxRecDepth 20000 in
set_option maxHeartbeats 400000 in
theorem c_X12_findMost {X : pX} {I J : IM} {h : Nat} (lw : Lw) (n : Nat) (hn : I 81 1 = n ∧ n ≤ 5) (N L : Nat) (hN : N ≤ 9) (hL : I 85 1 = L ∧ L ≤ 9) (hH : HasR I lw n) (hsz : I 81 33 = ((rowsL n N true).length : Int)) (hRA : RowsAt (I 104) n (rowsL n N true)) : KIq X (h + 1) mX12_findMost [.ref 81] I J (fun z A B => ((z = -1 ∧ (rowsL n N true).length = 0) ∨ (z = (((mosN lw (I 82) (I 83) (I 84) n L N).2 : Nat) : Int) ∧ 1 ≤ (rowsL n N true).length)) ∧ (∃ K F, A = upA (upA I 81 K) 111 F ∧ (∀ x, x ≠ 45 → K x = I 81 x) ∧ (1 ≤ (rowsL n N true).length → K 45 = (mosN lw (I 82) (I 83) (I 84) n L N).1)) ∧ J = B) := by
  have h715 := rows_715 n hn.2 N hN
  show Rz X (h + 1) mX12_findMost 0 [some (.ref 81), none, none, none] [] I J _
  refine rz_iconst dX12_findMost_0 ?_
  refine rz_istore_n dX12_findMost_1 (by decide) rfl ?_
  refine rz_iconst dX12_findMost_2 ?_
  refine rz_istore_n dX12_findMost_3 (by decide) rfl ?_
  refine rz_upx (σ := Int × (Nat → Int) × (Nat → Int)) (Inv := fun j sj => ((j = 0 ∧ sj.1 = -1) ∨ (1 ≤ j ∧ sj.1 = (((frM (surN lw (I 82) (I 83) (I 84) n (rowsL n N true) L) j).2 : Nat) : Int) ∧ sj.2.1 45 = (frM (surN lw (I 82) (I 83) (I 84) n (rowsL n N true) L) j).1)) ∧ ∀ x, x ≠ 45 → sj.2.1 x = I 81 x) (ls := fun (j : Nat) sj => [some (.ref 81), some (zi sj.1), some (zi (j : Int)), none]) (IV := fun (j : Nat) sj => (upA (upA I 81 sj.2.1) 111 sj.2.2)) (JV := fun (j : Nat) sj => J) ((rowsL n N true).length) ((-1, I 81, I 111)) ⟨Or.inl ⟨rfl, rfl⟩, fun _ _ => rfl⟩ ⟨Or.inr rfl, Or.inr rfl, Or.inr rfl, Or.inl rfl, trivial⟩ ((by rw [upA_id, upA_id])) (rfl) ?_ ?_
  · intro j sj hj qj ihj
    obtain ⟨bb, K, Fa⟩ := sj
    obtain ⟨qk, hK⟩ : ((j = 0 ∧ bb = -1) ∨ (1 ≤ j ∧ bb = (((frM (surN lw (I 82) (I 83) (I 84) n (rowsL n N true) L) j).2 : Nat) : Int) ∧ K 45 = (frM (surN lw (I 82) (I 83) (I 84) n (rowsL n N true) L) j).1)) ∧ ∀ x, x ≠ 45 → K x = I 81 x := qj
    have KL : K 33 = (rowsL n N true).length := (hK 33 (by decide)).trans hsz
    have hfr := frM_rg (t := (surN lw (I 82) (I 83) (I 84) n (rowsL n N true) L)) (surN_rg (L := (rowsL n N true))) j
    have hsr := surN_rg (lw := lw) (W := I 82) (T := I 83) (U := I 84) (n := n) (Lb := L) (L := (rowsL n N true)) j
    have hwd := (rowsL_ok (n := n) (left := N) (all := true) hN _ (List.mem_of_getElem? (getD_get hj))).2
    have hf0 : j = 0 → (frM (surN lw (I 82) (I 83) (I 84) n (rowsL n N true) L) j).1 = -1 := fun e => by subst e; rfl
    have hbb : -1 ≤ bb ∧ bb ≤ 2002 := by rcases qk with e | e; omega; have := hfr.2 e.1; omega
    refine rz_to (ls' := [some (.ref 81), some (zi bb), some (zi (j : Int)), none]) (I' := (upA (upA I 81 K) 111 Fa)) (J' := J) ⟨Or.inr rfl, Or.inr rfl, Or.inr rfl, Or.inl rfl, trivial⟩ rfl rfl ?_
    refine rz_iload_n dX12_findMost_4 rfl ?_
    refine rz_aload_n dX12_findMost_5 rfl ?_
    refine rz_getI (z := ((rowsL n N true).length : Int)) dX12_findMost_6 kf_RX12_263 hd_81 rfl (KL) ?_
    refine rz_icmp_ge (t := 50) dX12_findMost_9 rfl (by omega) (by omega) (fun c9 => ?_) (fun c9 => ?_)
    · exfalso; omega
    · refine rz_aload_n dX12_findMost_12 rfl ?_
      refine rz_aload_n dX12_findMost_13 rfl ?_
      refine rz_getR dX12_findMost_14 kf_RX12_78 hd_81 rfl rr_81_32 ?_
      refine rz_iload_n dX12_findMost_17 rfl ?_
      refine rz_cVIq dX12_findMost_18 kl_RX12_352 hd_81 ⟨_, _, rfl⟩ ((show KIq X _ mX12_sureOf [.ref 81, .ref 104, zi (j : Int)] (upA (upA I 81 K) 111 Fa) J _ from c_X12_sureOf (I := (upA (upA I 81 K) 111 Fa)) lw n ⟨(hK 1 (by decide)).trans hn.1, hn.2⟩ 104 j 10010 L (fun v => ((rowsL n N true).getD j []).getD v 0) hd_104 ⟨by omega, by omega⟩ (fun v hv => ⟨hRA j _ (getD_get hj) v hv, getD_le hwd v⟩) (by decide) hL hH)) rfl rfl (Nat.le_of_ble_eq_true rfl) (Nat.le_of_ble_eq_true rfl) ?_
      rintro _ _ _ ⟨rfl, ⟨F18, rfl⟩, rfl⟩
      refine rz_ieq (y := (surN lw (I 82) (I 83) (I 84) n (rowsL n N true) L) j) rfl ?_
      refine rz_mem (I' := (upA (upA I 81 K) 111 F18)) (J' := J) (upA_upA.symm) (rfl) ?_
      refine rz_istore_n dX12_findMost_21 (by decide) rfl ?_
      refine rz_iload_n dX12_findMost_22 rfl ?_
      refine rz_if_lt (t := 37) dX12_findMost_23 rfl (by omega) (fun c23 => ?_) (fun c23 => ?_)
      · refine rz_iload_n dX12_findMost_37 rfl ?_
        refine rz_istore_n dX12_findMost_38 (by decide) rfl ?_
        refine rz_aload_n dX12_findMost_39 rfl ?_
        refine rz_iload_n dX12_findMost_40 rfl ?_
        refine rz_putI dX12_findMost_41 kp_RX12_356 hd_81 rfl ?_
        refine rz_mem (I' := (upA (upA I 81 (up1 K 45 ((surN lw (I 82) (I 83) (I 84) n (rowsL n N true) L) j))) 111 F18)) (J' := J) (up2_sw) (rfl) ?_
        refine rz_iinc (ls' := [some (.ref 81), some (zi (j : Int)), some (zi ((j : Int) + 1)), some (zi ((surN lw (I 82) (I 83) (I 84) n (rowsL n N true) L) j))]) dX12_findMost_44 (by decide) rfl rfl rfl ?_
        refine rz_goto (t := 4) dX12_findMost_47 rfl ?_
        exact rz_bk (ihj (((j : Int), up1 K 45 ((surN lw (I 82) (I 83) (I 84) n (rowsL n N true) L) j), F18)) (⟨Or.inr ⟨by omega, (by have e := frM_y (t := (surN lw (I 82) (I 83) (I 84) n (rowsL n N true) L)) (k := j) (by rcases qk with e | e; (have q := hf0 e.1; omega); omega); rw [e]), frM_45 (t := (surN lw (I 82) (I 83) (I 84) n (rowsL n N true) L)) (k := j) (K := K) (by rcases qk with e | e; (have q := hf0 e.1; omega); omega)⟩, fun x hx => (up1_ne hx).trans (hK x hx)⟩)) ⟨Or.inr rfl, Or.inr rfl, Or.inr rfl, Or.inl rfl, trivial⟩ (rfl) (rfl)
      · refine rz_iload_n dX12_findMost_26 rfl ?_
        refine rz_aload_n dX12_findMost_27 rfl ?_
        refine rz_getI (z := ((frM (surN lw (I 82) (I 83) (I 84) n (rowsL n N true) L) j).1)) dX12_findMost_28 kf_RX12_356 hd_81 rfl ((qk.resolve_left (fun e => by omega)).2.2) ?_
        refine rz_icmp_gt (t := 37) dX12_findMost_31 rfl (by omega) (by omega) (fun c31 => ?_) (fun c31 => ?_)
        · refine rz_iload_n dX12_findMost_37 rfl ?_
          refine rz_istore_n dX12_findMost_38 (by decide) rfl ?_
          refine rz_aload_n dX12_findMost_39 rfl ?_
          refine rz_iload_n dX12_findMost_40 rfl ?_
          refine rz_putI dX12_findMost_41 kp_RX12_356 hd_81 rfl ?_
          refine rz_mem (I' := (upA (upA I 81 (up1 K 45 ((surN lw (I 82) (I 83) (I 84) n (rowsL n N true) L) j))) 111 F18)) (J' := J) (up2_sw) (rfl) ?_
          refine rz_iinc (ls' := [some (.ref 81), some (zi (j : Int)), some (zi ((j : Int) + 1)), some (zi ((surN lw (I 82) (I 83) (I 84) n (rowsL n N true) L) j))]) dX12_findMost_44 (by decide) rfl rfl rfl ?_
          refine rz_goto (t := 4) dX12_findMost_47 rfl ?_
          exact rz_bk (ihj (((j : Int), up1 K 45 ((surN lw (I 82) (I 83) (I 84) n (rowsL n N true) L) j), F18)) (⟨Or.inr ⟨by omega, (by have e := frM_y (t := (surN lw (I 82) (I 83) (I 84) n (rowsL n N true) L)) (k := j) (by rcases qk with e | e; (have q := hf0 e.1; omega); omega); rw [e]), frM_45 (t := (surN lw (I 82) (I 83) (I 84) n (rowsL n N true) L)) (k := j) (K := K) (by rcases qk with e | e; (have q := hf0 e.1; omega); omega)⟩, fun x hx => (up1_ne hx).trans (hK x hx)⟩)) ⟨Or.inr rfl, Or.inr rfl, Or.inr rfl, Or.inl rfl, trivial⟩ (rfl) (rfl)
        · refine rz_goto (t := 44) dX12_findMost_34 rfl ?_
          refine rz_iinc dX12_findMost_44 (by decide) rfl rfl rfl ?_
          refine rz_goto (t := 4) dX12_findMost_47 rfl ?_
          exact rz_bk (ihj ((bb, K, F18)) ((by rcases qk with e | e; omega; exact ⟨Or.inr ⟨by omega, by rw [frM_n (by omega)]; exact e.2.1, by rw [frM_n (by omega)]; exact e.2.2⟩, hK⟩))) ⟨Or.inr rfl, Or.inr rfl, Or.inr rfl, Or.inl rfl, trivial⟩ (rfl) (rfl)
  · intro sj qj
    obtain ⟨bb, K, Fa⟩ := sj
    obtain ⟨qk, hK⟩ : (((rowsL n N true).length = 0 ∧ bb = -1) ∨ (1 ≤ (rowsL n N true).length ∧ bb = (((frM (surN lw (I 82) (I 83) (I 84) n (rowsL n N true) L) (rowsL n N true).length).2 : Nat) : Int) ∧ K 45 = (frM (surN lw (I 82) (I 83) (I 84) n (rowsL n N true) L) (rowsL n N true).length).1)) ∧ ∀ x, x ≠ 45 → K x = I 81 x := qj
    have KL : K 33 = (rowsL n N true).length := (hK 33 (by decide)).trans hsz
    refine rz_to (ls' := [some (.ref 81), some (zi bb), some (zi ((rowsL n N true).length : Int)), none]) (I' := (upA (upA I 81 K) 111 Fa)) (J' := J) ⟨Or.inr rfl, Or.inr rfl, Or.inr rfl, Or.inl rfl, trivial⟩ rfl rfl ?_
    refine rz_iload_n dX12_findMost_4 rfl ?_
    refine rz_aload_n dX12_findMost_5 rfl ?_
    refine rz_getI (z := ((rowsL n N true).length : Int)) dX12_findMost_6 kf_RX12_263 hd_81 rfl (KL) ?_
    refine rz_icmp_ge (t := 50) dX12_findMost_9 rfl (by omega) (by omega) (fun c9 => ?_) (fun c9 => ?_)
    · refine rz_iload_n dX12_findMost_50 rfl ?_
      refine rz_iret dX12_findMost_51 rfl ?_
      exact ⟨_, rfl, qk.imp (fun e => ⟨e.2, e.1⟩) (fun e => ⟨e.2.1, e.1⟩), ⟨K, Fa, rfl, hK, fun hge => (qk.resolve_left (fun e => by omega)).2.2⟩, rfl⟩
    · exfalso; omega
