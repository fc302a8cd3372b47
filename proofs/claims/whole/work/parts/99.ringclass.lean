/-! ring, the class -/
set_option maxRecDepth 20000 in
set_option maxHeartbeats 400000 in
theorem c_hasBit44 {X : pX} {I J : IM} {h : Nat} (i j : Nat) (hi : i < 300) (hj : j < 300) : KIq X h mX3_hasBit [.ref 44, zi (i : Int), zi (j : Int)] I J (BQ I J (lb (J 44 (5 * i + j / 64)) (j % 64) = true)) := by
  show Rz X h mX3_hasBit 0 [some (.ref 44), some (zi (i : Int)), some (zi (j : Int))] [] I J _
  refine rz_aload_n dX3_hasBit_0 rfl ?_
  refine rz_iload_n dX3_hasBit_1 rfl ?_
  refine rz_iconst dX3_hasBit_2 ?_
  refine rz_imul dX3_hasBit_3 ?_
  refine rz_iload_n dX3_hasBit_4 rfl ?_
  refine rz_bipush dX3_hasBit_5 (by decide) ?_
  refine rz_idiv dX3_hasBit_7 (by omega) (by omega) ?_
  refine rz_iadd dX3_hasBit_8 ?_
  refine rz_laldN (k := (5 * i + j / 64)) (z := (J 44 (5 * i + j / 64))) dX3_hasBit_9 hd_44 (by decide) (by omega) (by omega) rfl ?_
  refine rz_iload_n dX3_hasBit_10 rfl ?_
  refine rz_bipush dX3_hasBit_11 (by decide) ?_
  refine rz_irem dX3_hasBit_13 (by omega) (by omega) ?_
  refine rz_ieq (y := ((j % 64 : Nat) : Int)) rfl ?_
  refine rz_lushr dX3_hasBit_14 ?_
  refine rz_lconst (x := 1) dX3_hasBit_15 rfl ?_
  refine rz_land dX3_hasBit_16 ?_
  refine rz_lconst (x := 0) dX3_hasBit_17 rfl ?_
  refine rz_lcmp dX3_hasBit_18 (lz_rg _) (by decide) ?_
  refine rz_if_eq (t := 26) dX3_hasBit_19 rfl (lcZ_rg _ _) (fun c19 => ?_) (fun c19 => ?_)
  · refine rz_iconst dX3_hasBit_26 ?_
    refine rz_zret dX3_hasBit_27 rfl (by decide) ?_
    exact ⟨_, rfl, Or.inr ⟨rfl, lb_f (by omega) c19⟩, rfl, rfl⟩
  · refine rz_iconst dX3_hasBit_22 ?_
    refine rz_goto (t := 27) dX3_hasBit_23 rfl ?_
    refine rz_zret dX3_hasBit_27 rfl (by decide) ?_
    exact ⟨_, rfl, Or.inl ⟨rfl, lb_t (by omega) c19⟩, rfl, rfl⟩
set_option maxRecDepth 20000 in
set_option maxHeartbeats 400000 in
theorem c_hasBit45 {X : pX} {I J : IM} {h : Nat} (i j : Nat) (hi : i < 300) (hj : j < 300) : KIq X h mX3_hasBit [.ref 45, zi (i : Int), zi (j : Int)] I J (BQ I J (lb (J 45 (5 * i + j / 64)) (j % 64) = true)) := by
  show Rz X h mX3_hasBit 0 [some (.ref 45), some (zi (i : Int)), some (zi (j : Int))] [] I J _
  refine rz_aload_n dX3_hasBit_0 rfl ?_
  refine rz_iload_n dX3_hasBit_1 rfl ?_
  refine rz_iconst dX3_hasBit_2 ?_
  refine rz_imul dX3_hasBit_3 ?_
  refine rz_iload_n dX3_hasBit_4 rfl ?_
  refine rz_bipush dX3_hasBit_5 (by decide) ?_
  refine rz_idiv dX3_hasBit_7 (by omega) (by omega) ?_
  refine rz_iadd dX3_hasBit_8 ?_
  refine rz_laldN (k := (5 * i + j / 64)) (z := (J 45 (5 * i + j / 64))) dX3_hasBit_9 hd_45 (by decide) (by omega) (by omega) rfl ?_
  refine rz_iload_n dX3_hasBit_10 rfl ?_
  refine rz_bipush dX3_hasBit_11 (by decide) ?_
  refine rz_irem dX3_hasBit_13 (by omega) (by omega) ?_
  refine rz_ieq (y := ((j % 64 : Nat) : Int)) rfl ?_
  refine rz_lushr dX3_hasBit_14 ?_
  refine rz_lconst (x := 1) dX3_hasBit_15 rfl ?_
  refine rz_land dX3_hasBit_16 ?_
  refine rz_lconst (x := 0) dX3_hasBit_17 rfl ?_
  refine rz_lcmp dX3_hasBit_18 (lz_rg _) (by decide) ?_
  refine rz_if_eq (t := 26) dX3_hasBit_19 rfl (lcZ_rg _ _) (fun c19 => ?_) (fun c19 => ?_)
  · refine rz_iconst dX3_hasBit_26 ?_
    refine rz_zret dX3_hasBit_27 rfl (by decide) ?_
    exact ⟨_, rfl, Or.inr ⟨rfl, lb_f (by omega) c19⟩, rfl, rfl⟩
  · refine rz_iconst dX3_hasBit_22 ?_
    refine rz_goto (t := 27) dX3_hasBit_23 rfl ?_
    refine rz_zret dX3_hasBit_27 rfl (by decide) ?_
    exact ⟨_, rfl, Or.inl ⟨rfl, lb_t (by omega) c19⟩, rfl, rfl⟩
set_option maxRecDepth 20000 in
set_option maxHeartbeats 400000 in
theorem c_X3_matchOwn {X : pX} {I J : IM} {h : Nat} (lw : Lw) (n : Nat) (hn : I 6 0 = n ∧ n ≤ 5) (hW : ∀ v, v < n → 0 ≤ I 7 v ∧ I 7 v ≤ 9) (N0 : Nat) (hN9 : N0 ≤ 9) (hP : PtsOK I lw n) (hsz : I 38 0 = ((rowsL n N0 true).length : Int)) (hLL : (rowsL n N0 true).length ≤ 300) (hLA : ListAt (I 40) (rowsL n N0 true)) : KVq X (h + 1) mX3_matchOwn [.ref 32] I J (fun A Bj => (∃ s : (Nat → Int) × (Nat → Int), Bj = upA (upA J 44 s.1) 45 s.2 ∧ RbE (btB lw (I 7) (I 8) (I 9) n (rowsL n N0 true)) (rowsL n N0 true).length s.1 s.2) ∧ I = A) := by
  show Rz X (h + 1) mX3_matchOwn 0 [some (.ref 32), none, none] [] I J _
  refine rz_aload_n dX3_matchOwn_0 rfl ?_
  refine rz_getR dX3_matchOwn_1 kf_RX3_44 hd_32 rfl rr_32_10 ?_
  refine rz_lconst (x := 0) dX3_matchOwn_4 rfl ?_
  refine rz_cSV dX3_matchOwn_5 kl_RX3_119 (c_fillJ X _ I J 44 1500 0 hd_44 (by decide)) rfl rfl (Nat.le_of_ble_eq_true rfl) (Nat.le_of_ble_eq_true rfl) ?_
  refine rz_aload_n dX3_matchOwn_8 rfl ?_
  refine rz_getR dX3_matchOwn_9 kf_RX3_48 hd_32 rfl rr_32_11 ?_
  refine rz_lconst (x := 0) dX3_matchOwn_12 rfl ?_
  refine rz_cSV dX3_matchOwn_13 kl_RX3_119 (c_fillJ X _ I (fillM J 44 1500 0) 45 1500 0 hd_45 (by decide)) rfl rfl (Nat.le_of_ble_eq_true rfl) (Nat.le_of_ble_eq_true rfl) ?_
  refine rz_iconst dX3_matchOwn_16 ?_
  refine rz_istore_n dX3_matchOwn_17 (by decide) rfl ?_
  refine rz_upx (σ := (Nat → Int) × (Nat → Int)) (Inv := fun p sp => RbI (btB lw (I 7) (I 8) (I 9) n (rowsL n N0 true)) (rowsL n N0 true).length (rbD p 0) sp) (ls := fun (p : Nat) sp => [some (.ref 32), some (zi (p : Int)), none]) (IV := fun (p : Nat) sp => I) (JV := fun (p : Nat) sp => (upA (upA J 44 sp.1) 45 sp.2)) ((rowsL n N0 true).length) ((fun j => if j < 1500 then 0 else J 44 j, fun j => if j < 1500 then 0 else J 45 j)) (RbI_0 hLL) ⟨Or.inr rfl, Or.inr rfl, Or.inl rfl, trivial⟩ (rfl) (rfl) ?_ ?_
  · intro p sp hp qp ihp
    have hAp : RowA I 40 (p * 5) n ((rowsL n N0 true).getD p []) := fun v hv => ⟨by rw [show p * 5 + v = 5 * p + v by omega]; exact hLA p _ (getD_get hp) v (by omega), getD_le (rowsL_ok (n := n) (left := N0) (all := true) hN9 _ (List.mem_of_getElem? (getD_get hp))).2 v⟩
    refine rz_iload_n dX3_matchOwn_18 rfl ?_
    refine rz_aload_n dX3_matchOwn_19 rfl ?_
    refine rz_getR dX3_matchOwn_20 kf_RX3_27 hd_32 rfl rr_32_7 ?_
    refine rz_iconst dX3_matchOwn_23 ?_
    refine rz_iald (z := ((rowsL n N0 true).length : Int)) dX3_matchOwn_24 hd_38 (by decide) (by omega) hsz ?_
    refine rz_icmp_ge (t := 124) dX3_matchOwn_25 rfl (by omega) (by omega) (fun c25 => ?_) (fun c25 => ?_)
    · exfalso; omega
    · refine rz_iconst dX3_matchOwn_28 ?_
      refine rz_istore_n dX3_matchOwn_29 (by decide) rfl ?_
      refine rz_upx (σ := (Nat → Int) × (Nat → Int)) (Inv := fun q sq => RbI (btB lw (I 7) (I 8) (I 9) n (rowsL n N0 true)) (rowsL n N0 true).length (rbD p q) sq) (ls := fun (q : Nat) sq => [some (.ref 32), some (zi (p : Int)), some (zi (q : Int))]) (IV := fun (q : Nat) sq => I) (JV := fun (q : Nat) sq => (upA (upA J 44 sq.1) 45 sq.2)) ((rowsL n N0 true).length) (sp) qp ⟨Or.inr rfl, Or.inr rfl, Or.inr rfl, trivial⟩ (rfl) (rfl) ?_ ?_
      · intro q sq hq qq ihq
        have hAq : RowA I 40 (q * 5) n ((rowsL n N0 true).getD q []) := fun v hv => ⟨by rw [show q * 5 + v = 5 * q + v by omega]; exact hLA q _ (getD_get hq) v (by omega), getD_le (rowsL_ok (n := n) (left := N0) (all := true) hN9 _ (List.mem_of_getElem? (getD_get hq))).2 v⟩
        refine rz_iload_n dX3_matchOwn_30 rfl ?_
        refine rz_aload_n dX3_matchOwn_31 rfl ?_
        refine rz_getR dX3_matchOwn_32 kf_RX3_27 hd_32 rfl rr_32_7 ?_
        refine rz_iconst dX3_matchOwn_35 ?_
        refine rz_iald (z := ((rowsL n N0 true).length : Int)) dX3_matchOwn_36 hd_38 (by decide) (by omega) hsz ?_
        refine rz_icmp_ge (t := 118) dX3_matchOwn_37 rfl (by omega) (by omega) (fun c37 => ?_) (fun c37 => ?_)
        · exfalso; omega
        · refine rz_aload_n dX3_matchOwn_40 rfl ?_
          refine rz_aload_n dX3_matchOwn_41 rfl ?_
          refine rz_getR dX3_matchOwn_42 kf_RX3_35 hd_32 rfl rr_32_8 ?_
          refine rz_iconst dX3_matchOwn_45 ?_
          refine rz_aald (by decide) dX3_matchOwn_46 hd_39 (by decide) (by decide) rr_39_0 ?_
          refine rz_iload_n dX3_matchOwn_47 rfl ?_
          refine rz_iconst dX3_matchOwn_48 ?_
          refine rz_imul dX3_matchOwn_49 ?_
          refine rz_aload_n dX3_matchOwn_50 rfl ?_
          refine rz_getR dX3_matchOwn_51 kf_RX3_35 hd_32 rfl rr_32_8 ?_
          refine rz_iconst dX3_matchOwn_54 ?_
          refine rz_aald (by decide) dX3_matchOwn_55 hd_39 (by decide) (by decide) rr_39_0 ?_
          refine rz_iload_n dX3_matchOwn_56 rfl ?_
          refine rz_iconst dX3_matchOwn_57 ?_
          refine rz_imul dX3_matchOwn_58 ?_
          refine rz_cVI dX3_matchOwn_59 kl_RX3_94 hd_32 ⟨_, _, rfl⟩ ((show KI X _ mX3_duel [.ref 32, .ref 40, zi ((p : Int) * 5), .ref 40, zi ((q : Int) * 5)] I (upA (upA J 44 sq.1) 45 sq.2) _ I (upA (upA J 44 sq.1) 45 sq.2) from c_X3_duel lw n hn 40 40 (p * 5) (q * 5) 1500 1500 _ _ rfl rfl ⟨by omega, by omega⟩ ⟨by omega, by omega⟩ hAp hAq hP)) rfl rfl (Nat.le_of_ble_eq_true rfl) (Nat.le_of_ble_eq_true rfl) ?_
          have hsb : -45 ≤ (scP lw (I 7) (I 8) (I 9) n ((rowsL n N0 true).getD p []) ((rowsL n N0 true).getD q [])) ∧ (scP lw (I 7) (I 8) (I 9) n ((rowsL n N0 true).getD p []) ((rowsL n N0 true).getD q [])) ≤ 45 := scP_bd (lw := lw) (T := I 8) (U := I 9) (k := n) hn.2 (Nat.le_refl n) hW
          refine rz_if_gt (t := 68) dX3_matchOwn_62 rfl (by omega) (fun c62 => ?_) (fun c62 => ?_)
          · refine rz_aload_n dX3_matchOwn_68 rfl ?_
            refine rz_getR dX3_matchOwn_69 kf_RX3_44 hd_32 rfl rr_32_10 ?_
            refine rz_iload_n dX3_matchOwn_72 rfl ?_
            refine rz_iconst dX3_matchOwn_73 ?_
            refine rz_imul dX3_matchOwn_74 ?_
            refine rz_iload_n dX3_matchOwn_75 rfl ?_
            refine rz_bipush dX3_matchOwn_76 (by decide) ?_
            refine rz_idiv dX3_matchOwn_78 (by omega) (by omega) ?_
            refine rz_iadd dX3_matchOwn_79 ?_
            refine rz_dup2 dX3_matchOwn_80 rfl rfl ?_
            refine rz_laldN (k := (5 * p + q / 64)) (z := (sq.1 (5 * p + q / 64))) dX3_matchOwn_81 hd_44 (by decide) (by omega) (by omega) rfl ?_
            refine rz_lconst (x := 1) dX3_matchOwn_82 rfl ?_
            refine rz_iload_n dX3_matchOwn_83 rfl ?_
            refine rz_bipush dX3_matchOwn_84 (by decide) ?_
            refine rz_irem dX3_matchOwn_86 (by omega) (by omega) ?_
            refine rz_ieq (y := ((q % 64 : Nat) : Int)) rfl ?_
            refine rz_lshl dX3_matchOwn_87 ?_
            refine rz_lor dX3_matchOwn_88 ?_
            refine rz_lastN (k := (5 * p + q / 64)) dX3_matchOwn_89 hd_44 (by decide) (by omega) (by omega) ?_
            refine rz_aload_n dX3_matchOwn_90 rfl ?_
            refine rz_getR dX3_matchOwn_91 kf_RX3_48 hd_32 rfl rr_32_11 ?_
            refine rz_iload_n dX3_matchOwn_94 rfl ?_
            refine rz_iconst dX3_matchOwn_95 ?_
            refine rz_imul dX3_matchOwn_96 ?_
            refine rz_iload_n dX3_matchOwn_97 rfl ?_
            refine rz_bipush dX3_matchOwn_98 (by decide) ?_
            refine rz_idiv dX3_matchOwn_100 (by omega) (by omega) ?_
            refine rz_iadd dX3_matchOwn_101 ?_
            refine rz_dup2 dX3_matchOwn_102 rfl rfl ?_
            refine rz_laldN (k := (5 * q + p / 64)) (z := (sq.2 (5 * q + p / 64))) dX3_matchOwn_103 hd_45 (by decide) (by omega) (by omega) rfl ?_
            refine rz_lconst (x := 1) dX3_matchOwn_104 rfl ?_
            refine rz_iload_n dX3_matchOwn_105 rfl ?_
            refine rz_bipush dX3_matchOwn_106 (by decide) ?_
            refine rz_irem dX3_matchOwn_108 (by omega) (by omega) ?_
            refine rz_ieq (y := ((p % 64 : Nat) : Int)) rfl ?_
            refine rz_lshl dX3_matchOwn_109 ?_
            refine rz_lor dX3_matchOwn_110 ?_
            refine rz_lastN (k := (5 * q + p / 64)) dX3_matchOwn_111 hd_45 (by decide) (by omega) (by omega) ?_
            refine rz_iinc dX3_matchOwn_112 (by decide) rfl rfl rfl ?_
            refine rz_goto (t := 30) dX3_matchOwn_115 rfl ?_
            exact rz_bk (ihq ((up1 sq.1 (5 * p + q / 64) ((lz (sq.1 (5 * p + q / 64)) ||| lz (lz 1 <<< ((iz ((q % 64 : Nat) : Int)).toInt64 &&& 63)).toInt).toInt), up1 sq.2 (5 * q + p / 64) ((lz (sq.2 (5 * q + p / 64)) ||| lz (lz 1 <<< ((iz ((p % 64 : Nat) : Int)).toInt64 &&& 63)).toInt).toInt))) ((RbI_y hLL hp hq (btB_t (by omega)) qq))) ⟨Or.inr rfl, Or.inr rfl, Or.inr rfl, trivial⟩ (rfl) (rb_mem)
          · refine rz_goto (t := 112) dX3_matchOwn_65 rfl ?_
            refine rz_iinc dX3_matchOwn_112 (by decide) rfl rfl rfl ?_
            refine rz_goto (t := 30) dX3_matchOwn_115 rfl ?_
            exact rz_bk (ihq (sq) ((RbI_n (btB_f (by omega)) qq))) ⟨Or.inr rfl, Or.inr rfl, Or.inr rfl, trivial⟩ (rfl) (rfl)
      · intro sq qq
        refine rz_iload_n dX3_matchOwn_30 rfl ?_
        refine rz_aload_n dX3_matchOwn_31 rfl ?_
        refine rz_getR dX3_matchOwn_32 kf_RX3_27 hd_32 rfl rr_32_7 ?_
        refine rz_iconst dX3_matchOwn_35 ?_
        refine rz_iald (z := ((rowsL n N0 true).length : Int)) dX3_matchOwn_36 hd_38 (by decide) (by omega) hsz ?_
        refine rz_icmp_ge (t := 118) dX3_matchOwn_37 rfl (by omega) (by omega) (fun c37 => ?_) (fun c37 => ?_)
        · refine rz_iinc dX3_matchOwn_118 (by decide) rfl rfl rfl ?_
          refine rz_goto (t := 18) dX3_matchOwn_121 rfl ?_
          exact rz_bk (ihp (sq) ((RbI_e qq))) ⟨Or.inr rfl, Or.inr rfl, Or.inl rfl, trivial⟩ (rfl) (rfl)
        · exfalso; omega
  · intro sp qp
    refine rz_iload_n dX3_matchOwn_18 rfl ?_
    refine rz_aload_n dX3_matchOwn_19 rfl ?_
    refine rz_getR dX3_matchOwn_20 kf_RX3_27 hd_32 rfl rr_32_7 ?_
    refine rz_iconst dX3_matchOwn_23 ?_
    refine rz_iald (z := ((rowsL n N0 true).length : Int)) dX3_matchOwn_24 hd_38 (by decide) (by omega) hsz ?_
    refine rz_icmp_ge (t := 124) dX3_matchOwn_25 rfl (by omega) (by omega) (fun c25 => ?_) (fun c25 => ?_)
    · refine rz_vret dX3_matchOwn_124 rfl ?_
      exact ⟨rfl, ⟨sp, rfl, RbI_end qp⟩, rfl⟩
    · exfalso; omega
set_option maxRecDepth 20000 in
set_option maxHeartbeats 400000 in
theorem c_X3_third {X : pX} {I J : IM} {h : Nat} (B : Nat → Nat → Bool) (M : Nat) (hM : M ≤ 300) (hsz : I 38 0 = (M : Int)) (hb : RbE B M (J 44) (J 45)) (p q : Nat) (hp : p < M) (hq : q < M) : KIq X (h + 1) mX3_third [.ref 32, zi (p : Int), zi (q : Int)] I J (fun z A Bj => ((z = ((rgR B M p q : Nat) : Int) ∧ rgR B M p q < M) ∨ (z = -1 ∧ rgR B M p q = M)) ∧ I = A ∧ J = Bj) := by
  show Rz X (h + 1) mX3_third 0 [some (.ref 32), some (zi (p : Int)), some (zi (q : Int)), none, none, none] [] I J _
  refine rz_iconst dX3_third_0 ?_
  refine rz_istore_n dX3_third_1 (by decide) rfl ?_
  refine rz_upx (σ := Unit) (Inv := fun w sw => ∀ y, p < y → y < M → y < 64 * w → rgC B p q y = false) (ls := fun (w : Nat) sw => [some (.ref 32), some (zi (p : Int)), some (zi (q : Int)), some (zi (w : Int)), none, none]) (IV := fun (w : Nat) sw => I) (JV := fun (w : Nat) sw => J) (5) (()) (fun y _ _ h => absurd h (by omega)) ⟨Or.inr rfl, Or.inr rfl, Or.inr rfl, Or.inr rfl, Or.inl rfl, Or.inl rfl, trivial⟩ (rfl) (rfl) ?_ ?_
  · intro w sw hw qw ihw
    refine rz_iload_n dX3_third_2 rfl ?_
    refine rz_iconst dX3_third_3 ?_
    refine rz_icmp_ge (t := 120) dX3_third_4 rfl (by omega) (by omega) (fun c4 => ?_) (fun c4 => ?_)
    · exfalso; omega
    · refine rz_aload_n dX3_third_7 rfl ?_
      refine rz_getR dX3_third_8 kf_RX3_44 hd_32 rfl rr_32_10 ?_
      refine rz_iload_n dX3_third_11 rfl ?_
      refine rz_iconst dX3_third_12 ?_
      refine rz_imul dX3_third_13 ?_
      refine rz_iload_n dX3_third_14 rfl ?_
      refine rz_iadd dX3_third_15 ?_
      refine rz_laldN (k := (5 * q + w)) (z := (J 44 (5 * q + w))) dX3_third_16 hd_44 (by decide) (by omega) (by omega) rfl ?_
      refine rz_aload_n dX3_third_17 rfl ?_
      refine rz_getR dX3_third_18 kf_RX3_48 hd_32 rfl rr_32_11 ?_
      refine rz_iload_n dX3_third_21 rfl ?_
      refine rz_iconst dX3_third_22 ?_
      refine rz_imul dX3_third_23 ?_
      refine rz_iload_n dX3_third_24 rfl ?_
      refine rz_iadd dX3_third_25 ?_
      refine rz_laldN (k := (5 * p + w)) (z := (J 45 (5 * p + w))) dX3_third_26 hd_45 (by decide) (by omega) (by omega) rfl ?_
      refine rz_land dX3_third_27 ?_
      refine rz_lconst (x := 0) dX3_third_28 rfl ?_
      refine rz_lcmp dX3_third_29 (lz_rg _) (by decide) ?_
      refine rz_if_ne (t := 36) dX3_third_30 rfl (lcZ_rg _ _) (fun c30 => ?_) (fun c30 => ?_)
      · refine rz_aload_n dX3_third_36 rfl ?_
        refine rz_getR dX3_third_37 kf_RX3_27 hd_32 rfl rr_32_7 ?_
        refine rz_iconst dX3_third_40 ?_
        refine rz_iald (z := (M : Int)) dX3_third_41 hd_38 (by decide) (by omega) hsz ?_
        refine rz_iload_n dX3_third_42 rfl ?_
        refine rz_bipush dX3_third_43 (by decide) ?_
        refine rz_imul dX3_third_45 ?_
        refine rz_bipush dX3_third_46 (by decide) ?_
        refine rz_iadd dX3_third_48 ?_
        refine rz_mmin dX3_third_49 kl_RX3_125 (Nat.le_of_ble_eq_true rfl) (by omega) (by omega) ?_
        refine rz_istore dX3_third_52 (by decide) rfl ?_
        refine rz_iload_n dX3_third_54 rfl ?_
        refine rz_iconst dX3_third_55 ?_
        refine rz_iadd dX3_third_56 ?_
        refine rz_iload_n dX3_third_57 rfl ?_
        refine rz_bipush dX3_third_58 (by decide) ?_
        refine rz_imul dX3_third_60 ?_
        refine rz_mmax dX3_third_61 kl_RX3_130 (Nat.le_of_ble_eq_true rfl) (by omega) (by omega) ?_
        refine rz_istore dX3_third_64 (by decide) rfl ?_
        refine rz_upx (σ := Unit) (Inv := fun k sk => ∀ y, p < y → y < M → y < max (p + 1) (64 * w) + k → rgC B p q y = false) (ls := fun (k : Nat) sk => [some (.ref 32), some (zi (p : Int)), some (zi (q : Int)), some (zi (w : Int)), some (zi (min (M : Int) (((w : Int) * 64) + 64))), some (zi ((max (p + 1) (64 * w) + k : Nat) : Int))]) (IV := fun (k : Nat) sk => I) (JV := fun (k : Nat) sk => J) ((min M (64 * w + 64) - max (p + 1) (64 * w))) (()) (fun y a b c => qw y a b (by omega)) ⟨Or.inr rfl, Or.inr rfl, Or.inr rfl, Or.inr rfl, Or.inr rfl, Or.inr (congrArg (fun z => some (zi z)) (by omega)), trivial⟩ (rfl) (rfl) ?_ ?_
        · intro k sk hk qk ihk
          refine rz_iload dX3_third_66 rfl ?_
          refine rz_iload dX3_third_68 rfl ?_
          refine rz_icmp_ge (t := 114) dX3_third_70 rfl (by omega) (by omega) (fun c70 => ?_) (fun c70 => ?_)
          · exfalso; omega
          · refine rz_iload dX3_third_73 rfl ?_
            refine rz_iload_n dX3_third_75 rfl ?_
            refine rz_icmp_eq (t := 108) dX3_third_76 rfl (by omega) (by omega) (fun c76 => ?_) (fun c76 => ?_)
            · refine rz_iinc dX3_third_108 (by decide) rfl rfl rfl ?_
              refine rz_goto (t := 66) dX3_third_111 rfl ?_
              exact rz_bk (ihk (()) ((fun y a b c => by by_cases e : y = (max (p + 1) (64 * w) + k); (subst e; first | exact rgC_n1 (by omega) | exact rgC_n2 ((hb q _ hq b).1.symm.trans (bool_nf b86)) | exact rgC_n3 ((hb _ p b hp).2.symm.trans (bool_nf b99))); exact qk y a b (by omega)))) ⟨Or.inr rfl, Or.inr rfl, Or.inr rfl, Or.inr rfl, Or.inr rfl, Or.inr (congrArg (fun z => some (zi z)) (by omega)), trivial⟩ (rfl) (rfl)
            · refine rz_aload_n dX3_third_79 rfl ?_
              refine rz_getR dX3_third_80 kf_RX3_44 hd_32 rfl rr_32_10 ?_
              refine rz_iload_n dX3_third_83 rfl ?_
              refine rz_iload dX3_third_84 rfl ?_
              refine rz_cSIq dX3_third_86 kl_RX3_112 (c_hasBit44 q (max (p + 1) (64 * w) + k) (by omega) (by omega)) rfl rfl (Nat.le_of_ble_eq_true rfl) (Nat.le_of_ble_eq_true rfl) ?_
              rintro z86 A86 B86 ⟨⟨rfl, b86⟩ | ⟨rfl, b86⟩, rfl, rfl⟩
              · refine rz_if_eq (t := 108) dX3_third_89 rfl (by omega) (fun q => absurd q (by decide)) (fun _ => ?_)
                refine rz_aload_n dX3_third_92 rfl ?_
                refine rz_getR dX3_third_93 kf_RX3_48 hd_32 rfl rr_32_11 ?_
                refine rz_iload_n dX3_third_96 rfl ?_
                refine rz_iload dX3_third_97 rfl ?_
                refine rz_cSIq dX3_third_99 kl_RX3_112 (c_hasBit45 p (max (p + 1) (64 * w) + k) (by omega) (by omega)) rfl rfl (Nat.le_of_ble_eq_true rfl) (Nat.le_of_ble_eq_true rfl) ?_
                rintro z99 A99 B99 ⟨⟨rfl, b99⟩ | ⟨rfl, b99⟩, rfl, rfl⟩
                · refine rz_if_eq (t := 108) dX3_third_102 rfl (by omega) (fun q => absurd q (by decide)) (fun _ => ?_)
                  refine rz_iload dX3_third_105 rfl ?_
                  refine rz_iret dX3_third_107 rfl ?_
                  have er : rgR B M p q = (max (p + 1) (64 * w) + k) := rgR_at (by omega) (by omega) (fun y a b => qk y a (by omega) b) (rgC_y (by omega) ((hb q _ hq (by omega)).1.symm.trans b86) ((hb _ p (by omega) hp).2.symm.trans b99))
                  exact ⟨_, rfl, Or.inl ⟨by rw [er], by rw [er]; omega⟩, rfl, rfl⟩
                · refine rz_if_eq (t := 108) dX3_third_102 rfl (by omega) (fun _ => ?_) (fun q => absurd q (by decide))
                  refine rz_iinc dX3_third_108 (by decide) rfl rfl rfl ?_
                  refine rz_goto (t := 66) dX3_third_111 rfl ?_
                  exact rz_bk (ihk (()) ((fun y a b c => by by_cases e : y = (max (p + 1) (64 * w) + k); (subst e; first | exact rgC_n1 (by omega) | exact rgC_n2 ((hb q _ hq b).1.symm.trans (bool_nf b86)) | exact rgC_n3 ((hb _ p b hp).2.symm.trans (bool_nf b99))); exact qk y a b (by omega)))) ⟨Or.inr rfl, Or.inr rfl, Or.inr rfl, Or.inr rfl, Or.inr rfl, Or.inr (congrArg (fun z => some (zi z)) (by omega)), trivial⟩ (rfl) (rfl)
              · refine rz_if_eq (t := 108) dX3_third_89 rfl (by omega) (fun _ => ?_) (fun q => absurd q (by decide))
                refine rz_iinc dX3_third_108 (by decide) rfl rfl rfl ?_
                refine rz_goto (t := 66) dX3_third_111 rfl ?_
                exact rz_bk (ihk (()) ((fun y a b c => by by_cases e : y = (max (p + 1) (64 * w) + k); (subst e; first | exact rgC_n1 (by omega) | exact rgC_n2 ((hb q _ hq b).1.symm.trans (bool_nf b86)) | exact rgC_n3 ((hb _ p b hp).2.symm.trans (bool_nf b99))); exact qk y a b (by omega)))) ⟨Or.inr rfl, Or.inr rfl, Or.inr rfl, Or.inr rfl, Or.inr rfl, Or.inr (congrArg (fun z => some (zi z)) (by omega)), trivial⟩ (rfl) (rfl)
        · intro sk qk
          refine rz_iload dX3_third_66 rfl ?_
          refine rz_iload dX3_third_68 rfl ?_
          refine rz_icmp_ge (t := 114) dX3_third_70 rfl (by omega) (by omega) (fun c70 => ?_) (fun c70 => ?_)
          · refine rz_iinc dX3_third_114 (by decide) rfl rfl rfl ?_
            refine rz_goto (t := 2) dX3_third_117 rfl ?_
            exact rz_bk (ihw (()) ((fun y a b c => qk y a b (by omega)))) ⟨Or.inr rfl, Or.inr rfl, Or.inr rfl, Or.inr rfl, Or.inl rfl, Or.inl rfl, trivial⟩ (rfl) (rfl)
          · exfalso; omega
      · refine rz_goto (t := 114) dX3_third_33 rfl ?_
        refine rz_iinc dX3_third_114 (by decide) rfl rfl rfl ?_
        refine rz_goto (t := 2) dX3_third_117 rfl ?_
        exact rz_bk (ihw (()) ((third_skip hb hp hq qw (lcZ_0.mp c30)))) ⟨Or.inr rfl, Or.inr rfl, Or.inr rfl, Or.inr rfl, Or.inl rfl, Or.inl rfl, trivial⟩ (rfl) (rfl)
  · intro sw qw
    refine rz_iload_n dX3_third_2 rfl ?_
    refine rz_iconst dX3_third_3 ?_
    refine rz_icmp_ge (t := 120) dX3_third_4 rfl (by omega) (by omega) (fun c4 => ?_) (fun c4 => ?_)
    · refine rz_iconst dX3_third_120 ?_
      refine rz_iret dX3_third_121 rfl ?_
      exact ⟨_, rfl, Or.inr ⟨rfl, rgR_no hp (fun y a b => qw y a b (by omega))⟩, rfl, rfl⟩
    · exfalso; omega
set_option maxRecDepth 20000 in
set_option maxHeartbeats 400000 in
theorem c_X3_findRing {X : pX} {I J : IM} {h : Nat} (lw : Lw) (n : Nat) (hn5 : n ≤ 5) (hW : ∀ v, v < n → 0 ≤ I 7 v ∧ I 7 v ≤ 9) (N0 N1 : Nat) (hN0 : N0 ≤ 9) (hd : DuC I lw n N0 N1) (hm : mayL n N0 N1) : KIq X (h + 2) mX3_findRing [.ref 32] I J (fun z A Bj => ((z = 1 ∧ rgP (btB lw (I 7) (I 8) (I 9) n (rowsL n N0 true)) (rowsL n N0 true).length < (rowsL n N0 true).length ∧ ∃ G : Nat → Int, A = upA I 42 G ∧ ∀ x, x < 3 → G x = ((rgAt (btB lw (I 7) (I 8) (I 9) n (rowsL n N0 true)) (rowsL n N0 true).length x : Nat) : Int) ∧ rgAt (btB lw (I 7) (I 8) (I 9) n (rowsL n N0 true)) (rowsL n N0 true).length x < (rowsL n N0 true).length) ∨ (z = 0 ∧ ¬ rgP (btB lw (I 7) (I 8) (I 9) n (rowsL n N0 true)) (rowsL n N0 true).length < (rowsL n N0 true).length ∧ A = I)) ∧ ∀ a, a ≠ 44 → a ≠ 45 → Bj a = J a) := by
  have hl0 := hm.1.2
  show Rz X (h + 2) mX3_findRing 0 [some (.ref 32), none, none, none] [] I J _
  refine rz_aload_n dX3_findRing_0 rfl ?_
  refine rz_cVVq dX3_findRing_1 kl_RX3_109 hd_32 ⟨_, _, rfl⟩ (c_X3_matchOwn lw n ⟨hd.2.2.2.2.2, hn5⟩ hW N0 hN0 hd.2.2.2.2.1 hd.1 hm.1.2 hd.2.2.1) rfl rfl (Nat.le_of_ble_eq_true rfl) (Nat.le_of_ble_eq_true rfl) ?_
  rintro _ _ ⟨⟨s1, rfl, hb⟩, rfl⟩
  refine rz_iconst dX3_findRing_4 ?_
  refine rz_istore_n dX3_findRing_5 (by decide) rfl ?_
  refine rz_upx (σ := Unit) (Inv := fun p sp => ∀ y, y < p → rgE (btB lw (I 7) (I 8) (I 9) n (rowsL n N0 true)) (rowsL n N0 true).length y = false) (ls := fun (p : Nat) sp => [some (.ref 32), some (zi (p : Int)), none, none]) (IV := fun (p : Nat) sp => I) (JV := fun (p : Nat) sp => (upA (upA J 44 s1.1) 45 s1.2)) ((rowsL n N0 true).length) (()) (fun y h => absurd h (by omega)) ⟨Or.inr rfl, Or.inr rfl, Or.inl rfl, Or.inl rfl, trivial⟩ (rfl) (rfl) ?_ ?_
  · intro p sp hp qp ihp
    refine rz_iload_n dX3_findRing_6 rfl ?_
    refine rz_aload_n dX3_findRing_7 rfl ?_
    refine rz_getR dX3_findRing_8 kf_RX3_27 hd_32 rfl rr_32_7 ?_
    refine rz_iconst dX3_findRing_11 ?_
    refine rz_iald (z := ((rowsL n N0 true).length : Int)) dX3_findRing_12 hd_38 (by decide) (by omega) hd.1 ?_
    refine rz_icmp_ge (t := 94) dX3_findRing_13 rfl (by omega) (by omega) (fun c13 => ?_) (fun c13 => ?_)
    · exfalso; omega
    · refine rz_iload_n dX3_findRing_16 rfl ?_
      refine rz_iconst dX3_findRing_17 ?_
      refine rz_iadd dX3_findRing_18 ?_
      refine rz_istore_n dX3_findRing_19 (by decide) rfl ?_
      refine rz_upx (σ := Unit) (Inv := fun k sk => ∀ y, p < y → y < p + 1 + k → rgD (btB lw (I 7) (I 8) (I 9) n (rowsL n N0 true)) (rowsL n N0 true).length p y = false) (ls := fun (k : Nat) sk => [some (.ref 32), some (zi (p : Int)), some (zi ((p + 1 + k : Nat) : Int)), none]) (IV := fun (k : Nat) sk => I) (JV := fun (k : Nat) sk => (upA (upA J 44 s1.1) 45 s1.2)) (((rowsL n N0 true).length - (p + 1))) (()) (fun y a b => absurd b (by omega)) ⟨Or.inr rfl, Or.inr rfl, Or.inr (congrArg (fun z => some (zi z)) (by omega)), Or.inl rfl, trivial⟩ (rfl) (rfl) ?_ ?_
      · intro k sk hk qk ihk
        refine rz_iload_n dX3_findRing_20 rfl ?_
        refine rz_aload_n dX3_findRing_21 rfl ?_
        refine rz_getR dX3_findRing_22 kf_RX3_27 hd_32 rfl rr_32_7 ?_
        refine rz_iconst dX3_findRing_25 ?_
        refine rz_iald (z := ((rowsL n N0 true).length : Int)) dX3_findRing_26 hd_38 (by decide) (by omega) hd.1 ?_
        refine rz_icmp_ge (t := 88) dX3_findRing_27 rfl (by omega) (by omega) (fun c27 => ?_) (fun c27 => ?_)
        · exfalso; omega
        · refine rz_aload_n dX3_findRing_30 rfl ?_
          refine rz_getR dX3_findRing_31 kf_RX3_44 hd_32 rfl rr_32_10 ?_
          refine rz_iload_n dX3_findRing_34 rfl ?_
          refine rz_iload_n dX3_findRing_35 rfl ?_
          refine rz_cSIq dX3_findRing_36 kl_RX3_112 (c_hasBit44 (J := (upA (upA J 44 s1.1) 45 s1.2)) p (p + 1 + k) (by omega) (by omega)) rfl rfl (Nat.le_of_ble_eq_true rfl) (Nat.le_of_ble_eq_true rfl) ?_
          rintro z36 A36 B36 ⟨⟨rfl, b36⟩ | ⟨rfl, b36⟩, rfl, rfl⟩
          · refine rz_if_ne (t := 45) dX3_findRing_39 rfl (by omega) (fun _ => ?_) (fun q => absurd q (by decide))
            refine rz_aload_n dX3_findRing_45 rfl ?_
            refine rz_iload_n dX3_findRing_46 rfl ?_
            refine rz_iload_n dX3_findRing_47 rfl ?_
            refine rz_cVIq dX3_findRing_48 kl_RX3_116 hd_32 ⟨_, _, rfl⟩ (c_X3_third (J := (upA (upA J 44 s1.1) 45 s1.2)) (btB lw (I 7) (I 8) (I 9) n (rowsL n N0 true)) (rowsL n N0 true).length hl0 hd.1 hb p (p + 1 + k) hp (by omega)) rfl rfl (Nat.le_of_ble_eq_true rfl) (Nat.le_of_ble_eq_true rfl) ?_
            rintro z48 _ _ ⟨h48, rfl, rfl⟩
            refine rz_istore_n dX3_findRing_51 (by decide) rfl ?_
            refine rz_iload_n dX3_findRing_52 rfl ?_
            refine rz_if_ge (t := 59) dX3_findRing_53 rfl (by omega) (fun c53 => ?_) (fun c53 => ?_)
            · refine rz_aload_n dX3_findRing_59 rfl ?_
              refine rz_getR dX3_findRing_60 kf_RX3_38 hd_32 rfl rr_32_9 ?_
              refine rz_iconst dX3_findRing_63 ?_
              refine rz_iload_n dX3_findRing_64 rfl ?_
              refine rz_iast dX3_findRing_65 hd_42 (by decide) (by omega) ?_
              refine rz_aload_n dX3_findRing_66 rfl ?_
              refine rz_getR dX3_findRing_67 kf_RX3_38 hd_32 rfl rr_32_9 ?_
              refine rz_iconst dX3_findRing_70 ?_
              refine rz_iload_n dX3_findRing_71 rfl ?_
              refine rz_iast dX3_findRing_72 hd_42 (by decide) (by omega) ?_
              refine rz_aload_n dX3_findRing_73 rfl ?_
              refine rz_getR dX3_findRing_74 kf_RX3_38 hd_32 rfl rr_32_9 ?_
              refine rz_iconst dX3_findRing_77 ?_
              refine rz_iload_n dX3_findRing_78 rfl ?_
              refine rz_iast dX3_findRing_79 hd_42 (by decide) (by omega) ?_
              refine rz_mem (I' := (upA I 42 (up1 (up1 (up1 (I 42) 0 (p : Int)) 1 ((p + 1 + k : Nat) : Int)) 2 z48))) (J' := (upA (upA J 44 s1.1) 45 s1.2)) (by first | (rw [upA_upA, upA_upA]; done) | (rw [upA_upA, upA_upA]; rfl)) (rfl) ?_
              refine rz_iconst dX3_findRing_80 ?_
              refine rz_zret dX3_findRing_81 rfl (by decide) ?_
              have hB : (btB lw (I 7) (I 8) (I 9) n (rowsL n N0 true)) p (p + 1 + k) = true := (hb p _ hp (by omega)).1.symm.trans b36
              have hQ : rgQ (btB lw (I 7) (I 8) (I 9) n (rowsL n N0 true)) (rowsL n N0 true).length p = (p + 1 + k) := rgQ_at (by omega) (by omega) (fun y a b => qk y a (by omega)) (rgD_y hB rfl (by omega))
              have hP : rgP (btB lw (I 7) (I 8) (I 9) n (rowsL n N0 true)) (rowsL n N0 true).length = p := rgP_at hp (fun y a => qp y a) (rgE_y hQ (by omega))
              refine ⟨_, rfl, Or.inl ⟨rfl, by rw [hP]; exact hp, _, rfl, fun x hx => ?_⟩, fun a h1 h2 => by unfold upA; rw [if_neg h2, if_neg h1]⟩
              have hx3 : x = 0 ∨ x = 1 ∨ x = 2 := by omega
              rcases hx3 with rfl | rfl | rfl
              · exact ⟨by show (p : Int) = ((rgP _ _ : Nat) : Int); rw [hP], by show rgP _ _ < _; rw [hP]; exact hp⟩
              · exact ⟨by show ((p + 1 + k : Nat) : Int) = ((rgQ _ _ (rgP _ _) : Nat) : Int); rw [hP, hQ], by show rgQ _ _ (rgP _ _) < _; rw [hP, hQ]; omega⟩
              · exact ⟨by show z48 = ((rgR _ _ (rgP _ _) (rgQ _ _ (rgP _ _)) : Nat) : Int); rw [hP, hQ]; omega, by show rgR _ _ (rgP _ _) (rgQ _ _ (rgP _ _)) < _; rw [hP, hQ]; omega⟩
            · refine rz_goto (t := 82) dX3_findRing_56 rfl ?_
              refine rz_iinc dX3_findRing_82 (by decide) rfl rfl rfl ?_
              refine rz_goto (t := 20) dX3_findRing_85 rfl ?_
              exact rz_bk (ihk (()) ((fun y a b => by by_cases e : y = (p + 1 + k); (subst e; first | exact rgD_n1 ((hb p _ hp (by omega)).1.symm.trans (bool_nf b36)) | exact rgD_n2 (by omega)); exact qk y a (by omega)))) ⟨Or.inr rfl, Or.inr rfl, Or.inr (congrArg (fun z => some (zi z)) (by omega)), Or.inl rfl, trivial⟩ (rfl) (rfl)
          · refine rz_if_ne (t := 45) dX3_findRing_39 rfl (by omega) (fun q => absurd q (by decide)) (fun _ => ?_)
            refine rz_goto (t := 82) dX3_findRing_42 rfl ?_
            refine rz_iinc dX3_findRing_82 (by decide) rfl rfl rfl ?_
            refine rz_goto (t := 20) dX3_findRing_85 rfl ?_
            exact rz_bk (ihk (()) ((fun y a b => by by_cases e : y = (p + 1 + k); (subst e; first | exact rgD_n1 ((hb p _ hp (by omega)).1.symm.trans (bool_nf b36)) | exact rgD_n2 (by omega)); exact qk y a (by omega)))) ⟨Or.inr rfl, Or.inr rfl, Or.inr (congrArg (fun z => some (zi z)) (by omega)), Or.inl rfl, trivial⟩ (rfl) (rfl)
      · intro sk qk
        refine rz_iload_n dX3_findRing_20 rfl ?_
        refine rz_aload_n dX3_findRing_21 rfl ?_
        refine rz_getR dX3_findRing_22 kf_RX3_27 hd_32 rfl rr_32_7 ?_
        refine rz_iconst dX3_findRing_25 ?_
        refine rz_iald (z := ((rowsL n N0 true).length : Int)) dX3_findRing_26 hd_38 (by decide) (by omega) hd.1 ?_
        refine rz_icmp_ge (t := 88) dX3_findRing_27 rfl (by omega) (by omega) (fun c27 => ?_) (fun c27 => ?_)
        · refine rz_iinc dX3_findRing_88 (by decide) rfl rfl rfl ?_
          refine rz_goto (t := 6) dX3_findRing_91 rfl ?_
          exact rz_bk (ihp (()) ((fun y h => by by_cases e : y = p; (subst e; exact rgE_n (rgQ_no hp (fun x a b => qk x a (by omega)))); exact qp y (by omega)))) ⟨Or.inr rfl, Or.inr rfl, Or.inl rfl, Or.inl rfl, trivial⟩ (rfl) (rfl)
        · exfalso; omega
  · intro sp qp
    refine rz_iload_n dX3_findRing_6 rfl ?_
    refine rz_aload_n dX3_findRing_7 rfl ?_
    refine rz_getR dX3_findRing_8 kf_RX3_27 hd_32 rfl rr_32_7 ?_
    refine rz_iconst dX3_findRing_11 ?_
    refine rz_iald (z := ((rowsL n N0 true).length : Int)) dX3_findRing_12 hd_38 (by decide) (by omega) hd.1 ?_
    refine rz_icmp_ge (t := 94) dX3_findRing_13 rfl (by omega) (by omega) (fun c13 => ?_) (fun c13 => ?_)
    · refine rz_iconst dX3_findRing_94 ?_
      refine rz_zret dX3_findRing_95 rfl (by decide) ?_
      exact ⟨_, rfl, Or.inr ⟨rfl, by rw [rgP_no (fun y a => qp y a)]; omega, rfl⟩, fun a h1 h2 => by unfold upA; rw [if_neg h2, if_neg h1]⟩
    · exfalso; omega
