/-! years, the class -/
set_option maxRecDepth 20000 in
set_option maxHeartbeats 400000 in
theorem c_X2_learnSent {X : pX} {I J : IM} {h : Nat} (lw : Lw) (n : Nat) (hn : I 6 0 = n ∧ n ≤ 5) (a b : Nat → Nat) (ha : ∀ v, v < n → I 56 v = ((a v : Nat) : Int) ∧ a v ≤ 9) (hb : ∀ v, v < n → I 57 v = ((b v : Nat) : Int) ∧ b v ≤ 9) (hP : PtsOK I lw n) : KVq X h mX2_learnSent [.ref 47] I J (fun A B => (∃ G H, A = upA (upA I 50 G) 53 H ∧ ∀ v x : Nat, v < n → x ≤ 9 → G (10 * v + x) = I 50 (10 * v + x) + gnV lw (I 7) (I 8) (I 9) 0 v x (b v) ∧ H (10 * v + x) = I 53 (10 * v + x) + gnV lw (I 7) (I 8) (I 9) 1 v x (a v)) ∧ J = B) := by
  show Rz X h mX2_learnSent 0 [some (.ref 47), none, none] [] I J _
  refine rz_iconst dX2_learnSent_0 ?_
  refine rz_istore_n dX2_learnSent_1 (by decide) rfl ?_
  refine rz_upx (σ := (Nat → Int) × (Nat → Int)) (Inv := fun v sv => LnI lw (I 7) (I 8) (I 9) (I 50) (I 53) a b (10 * v) sv) (ls := fun (v : Nat) sv => [some (.ref 47), some (zi (v : Int)), none]) (IV := fun (v : Nat) sv => (upA (upA I 50 sv.1) 53 sv.2)) (JV := fun (v : Nat) sv => J) (n) ((I 50, I 53)) LnI_0 ⟨Or.inr rfl, Or.inr rfl, Or.inl rfl, trivial⟩ (up_id2) (rfl) ?_ ?_
  · intro v sv hv qv ihv
    have ha9 := (ha v hv).2
    have hb9 := (hb v hv).2
    refine rz_iload_n dX2_learnSent_2 rfl ?_
    refine rz_aload_n dX2_learnSent_3 rfl ?_
    refine rz_getR dX2_learnSent_4 kf_RX2_7 hd_47 rfl rr_47_1 ?_
    refine rz_getI (z := (n : Int)) dX2_learnSent_7 kf_RX2_61 hd_6 rfl (hn.1) ?_
    refine rz_icmp_ge (t := 123) dX2_learnSent_10 rfl (by omega) (by omega) (fun c10 => ?_) (fun c10 => ?_)
    · exfalso; omega
    · refine rz_iconst dX2_learnSent_13 ?_
      refine rz_istore_n dX2_learnSent_14 (by decide) rfl ?_
      refine rz_upx (σ := (Nat → Int) × (Nat → Int)) (Inv := fun x sx => LnI lw (I 7) (I 8) (I 9) (I 50) (I 53) a b (10 * v + x) sx) (ls := fun (x : Nat) sx => [some (.ref 47), some (zi (v : Int)), some (zi (x : Int))]) (IV := fun (x : Nat) sx => (upA (upA I 50 sx.1) 53 sx.2)) (JV := fun (x : Nat) sx => J) (10) (sv) (by simpa using qv) ⟨Or.inr rfl, Or.inr rfl, Or.inr rfl, trivial⟩ (rfl) (rfl) ?_ ?_
      · intro x sx hx qx ihx
        refine rz_iload_n dX2_learnSent_15 rfl ?_
        refine rz_bipush dX2_learnSent_16 (by decide) ?_
        refine rz_icmp_gt (t := 117) dX2_learnSent_18 rfl (by omega) (by omega) (fun c18 => ?_) (fun c18 => ?_)
        · exfalso; omega
        · refine rz_aload_n dX2_learnSent_21 rfl ?_
          refine rz_getR dX2_learnSent_22 kf_RX2_20 hd_47 rfl rr_47_3 ?_
          refine rz_iconst dX2_learnSent_25 ?_
          refine rz_aald (by decide) dX2_learnSent_26 hd_48 (by decide) (by decide) rr_48_0 ?_
          refine rz_getR dX2_learnSent_27 kf_RX2_34 hd_49 rfl rr_49_0 ?_
          refine rz_iload_n dX2_learnSent_30 rfl ?_
          refine rz_bipush dX2_learnSent_31 (by decide) ?_
          refine rz_imul dX2_learnSent_33 ?_
          refine rz_iload_n dX2_learnSent_34 rfl ?_
          refine rz_iadd dX2_learnSent_35 ?_
          refine rz_dup2 dX2_learnSent_36 rfl rfl ?_
          refine rz_ialdN (k := (10 * v + x)) (z := (sx.1 (10 * v + x))) dX2_learnSent_37 hd_50 (by decide) (by omega) (by omega) rfl ?_
          refine rz_aload_n dX2_learnSent_38 rfl ?_
          refine rz_getR dX2_learnSent_39 kf_RX2_7 hd_47 rfl rr_47_1 ?_
          refine rz_getR dX2_learnSent_42 kf_RX2_65 hd_6 rfl rr_6_5 ?_
          refine rz_iload_n dX2_learnSent_45 rfl ?_
          refine rz_bipush dX2_learnSent_46 (by decide) ?_
          refine rz_imul dX2_learnSent_48 ?_
          refine rz_iload_n dX2_learnSent_49 rfl ?_
          refine rz_bipush dX2_learnSent_50 (by decide) ?_
          refine rz_imul dX2_learnSent_52 ?_
          refine rz_iadd dX2_learnSent_53 ?_
          refine rz_aload_n dX2_learnSent_54 rfl ?_
          refine rz_getR dX2_learnSent_55 kf_RX2_28 hd_47 rfl rr_47_0 ?_
          refine rz_iconst dX2_learnSent_58 ?_
          refine rz_aald (by decide) dX2_learnSent_59 hd_55 (by decide) (by decide) rr_55_1 ?_
          refine rz_iload_n dX2_learnSent_60 rfl ?_
          refine rz_ialdN (k := v) (z := ((b v : Nat) : Int)) dX2_learnSent_61 hd_57 (by decide) (by omega) (by omega) (hb v hv).1 ?_
          refine rz_iadd dX2_learnSent_62 ?_
          refine rz_ialdN (k := (100 * v + 10 * x + b v)) (z := (ptsV lw (I 7) (I 8) (I 9) v x (b v))) dX2_learnSent_63 hd_11 (by decide) (by omega) (by omega) (hP v hv x (b v) (by omega) (hb v hv).2) ?_
          refine rz_iadd dX2_learnSent_64 ?_
          refine rz_iastN (k := (10 * v + x)) dX2_learnSent_65 hd_50 (by decide) (by omega) (by omega) ?_
          refine rz_aload_n dX2_learnSent_66 rfl ?_
          refine rz_getR dX2_learnSent_67 kf_RX2_20 hd_47 rfl rr_47_3 ?_
          refine rz_iconst dX2_learnSent_70 ?_
          refine rz_aald (by decide) dX2_learnSent_71 hd_48 (by decide) (by decide) rr_48_1 ?_
          refine rz_getR dX2_learnSent_72 kf_RX2_34 hd_52 rfl rr_52_0 ?_
          refine rz_iload_n dX2_learnSent_75 rfl ?_
          refine rz_bipush dX2_learnSent_76 (by decide) ?_
          refine rz_imul dX2_learnSent_78 ?_
          refine rz_iload_n dX2_learnSent_79 rfl ?_
          refine rz_iadd dX2_learnSent_80 ?_
          refine rz_dup2 dX2_learnSent_81 rfl rfl ?_
          refine rz_ialdN (k := (10 * v + x)) (z := (sx.2 (10 * v + x))) dX2_learnSent_82 hd_53 (by decide) (by omega) (by omega) rfl ?_
          refine rz_aload_n dX2_learnSent_83 rfl ?_
          refine rz_getR dX2_learnSent_84 kf_RX2_7 hd_47 rfl rr_47_1 ?_
          refine rz_getR dX2_learnSent_87 kf_RX2_65 hd_6 rfl rr_6_5 ?_
          refine rz_iload_n dX2_learnSent_90 rfl ?_
          refine rz_bipush dX2_learnSent_91 (by decide) ?_
          refine rz_imul dX2_learnSent_93 ?_
          refine rz_aload_n dX2_learnSent_94 rfl ?_
          refine rz_getR dX2_learnSent_95 kf_RX2_28 hd_47 rfl rr_47_0 ?_
          refine rz_iconst dX2_learnSent_98 ?_
          refine rz_aald (by decide) dX2_learnSent_99 hd_55 (by decide) (by decide) rr_55_0 ?_
          refine rz_iload_n dX2_learnSent_100 rfl ?_
          refine rz_ialdN (k := v) (z := ((a v : Nat) : Int)) dX2_learnSent_101 hd_56 (by decide) (by omega) (by omega) (ha v hv).1 ?_
          refine rz_bipush dX2_learnSent_102 (by decide) ?_
          refine rz_imul dX2_learnSent_104 ?_
          refine rz_iadd dX2_learnSent_105 ?_
          refine rz_iload_n dX2_learnSent_106 rfl ?_
          refine rz_iadd dX2_learnSent_107 ?_
          refine rz_ialdN (k := (100 * v + 10 * a v + x)) (z := (ptsV lw (I 7) (I 8) (I 9) v (a v) x)) dX2_learnSent_108 hd_11 (by decide) (by omega) (by omega) (hP v hv (a v) x (ha v hv).2 (by omega)) ?_
          refine rz_isub dX2_learnSent_109 ?_
          refine rz_iastN (k := (10 * v + x)) dX2_learnSent_110 hd_53 (by decide) (by omega) (by omega) ?_
          refine rz_iinc dX2_learnSent_111 (by decide) rfl rfl rfl ?_
          refine rz_goto (t := 15) dX2_learnSent_114 rfl ?_
          exact rz_bk (ihx ((up1 sx.1 (10 * v + x) ((sx.1 (10 * v + x)) + ptsV lw (I 7) (I 8) (I 9) v x (b v)), up1 sx.2 (10 * v + x) ((sx.2 (10 * v + x)) - ptsV lw (I 7) (I 8) (I 9) v (a v) x))) ((LnI_s (by omega) qx rfl rfl))) ⟨Or.inr rfl, Or.inr rfl, Or.inr rfl, trivial⟩ ((up_sw4 (by decide))) (rfl)
      · intro sx qx
        refine rz_iload_n dX2_learnSent_15 rfl ?_
        refine rz_bipush dX2_learnSent_16 (by decide) ?_
        refine rz_icmp_gt (t := 117) dX2_learnSent_18 rfl (by omega) (by omega) (fun c18 => ?_) (fun c18 => ?_)
        · refine rz_iinc dX2_learnSent_117 (by decide) rfl rfl rfl ?_
          refine rz_goto (t := 2) dX2_learnSent_120 rfl ?_
          exact rz_bk (ihv (sx) ((by rw [show 10 * (v + 1) = 10 * v + 10 by omega]; exact qx))) ⟨Or.inr rfl, Or.inr rfl, Or.inl rfl, trivial⟩ (rfl) (rfl)
        · exfalso; omega
  · intro sv qv
    refine rz_iload_n dX2_learnSent_2 rfl ?_
    refine rz_aload_n dX2_learnSent_3 rfl ?_
    refine rz_getR dX2_learnSent_4 kf_RX2_7 hd_47 rfl rr_47_1 ?_
    refine rz_getI (z := (n : Int)) dX2_learnSent_7 kf_RX2_61 hd_6 rfl (hn.1) ?_
    refine rz_icmp_ge (t := 123) dX2_learnSent_10 rfl (by omega) (by omega) (fun c10 => ?_) (fun c10 => ?_)
    · refine rz_vret dX2_learnSent_123 rfl ?_
      exact ⟨rfl, ⟨sv.1, sv.2, rfl, fun v x hv hx => LnI_at qv hv hx⟩, rfl⟩
    · exfalso; omega
set_option maxRecDepth 20000 in
set_option maxHeartbeats 400000 in
theorem c_sendBest0 {X : pX} {I J : IM} {h : Nat} (n : Nat) (hn : I 6 0 = n ∧ n ≤ 5) (N : Nat) (hN : I 10 0 = N ∧ N ≤ 9) (hG : GRg I 50 n) : KVq X (h + 3) mX2_sendBest [.ref 47, zi 0] I J (fun A B => (∃ M W, A = upA (upA I 51 M) 56 W ∧ ∀ j, j < n → W j = (((chsR (gI I 50) n 0 N).getD j 0 : Nat) : Int)) ∧ J = B) := by
  show Rz X (h + 3) mX2_sendBest 0 [some (.ref 47), some (zi 0)] [] I J _
  refine rz_aload_n dX2_sendBest_0 rfl ?_
  refine rz_getR dX2_sendBest_1 kf_RX2_20 hd_47 rfl rr_47_3 ?_
  refine rz_iload_n dX2_sendBest_4 rfl ?_
  refine rz_aald (by decide) dX2_sendBest_5 hd_48 (by decide) (by decide) rr_48_0 ?_
  refine rz_aload_n dX2_sendBest_6 rfl ?_
  refine rz_getR dX2_sendBest_7 kf_RX2_7 hd_47 rfl rr_47_1 ?_
  refine rz_getI (z := (n : Int)) dX2_sendBest_10 kf_RX2_61 hd_6 rfl (hn.1) ?_
  refine rz_aload_n dX2_sendBest_13 rfl ?_
  refine rz_getR dX2_sendBest_14 kf_RX2_7 hd_47 rfl rr_47_1 ?_
  refine rz_getR dX2_sendBest_17 kf_RX2_68 hd_6 rfl rr_6_4 ?_
  refine rz_iload_n dX2_sendBest_20 rfl ?_
  refine rz_iald (z := (N : Int)) dX2_sendBest_21 hd_10 (by decide) (by omega) hN.1 ?_
  refine rz_iconst dX2_sendBest_22 ?_
  refine rz_cVIq dX2_sendBest_23 kl_RX2_71 hd_49 ⟨_, _, rfl⟩ (c_solve49 n N false hn.2 hN.2 hG) rfl rfl (Nat.le_of_ble_eq_true rfl) (Nat.le_of_ble_eq_true rfl) ?_
  rintro _ _ _ ⟨rfl, ⟨M, rfl, hM⟩, rfl⟩
  refine rz_pop dX2_sendBest_26 rfl ?_
  refine rz_aload_n dX2_sendBest_27 rfl ?_
  refine rz_getR dX2_sendBest_28 kf_RX2_20 hd_47 rfl rr_47_3 ?_
  refine rz_iload_n dX2_sendBest_31 rfl ?_
  refine rz_aald (by decide) dX2_sendBest_32 hd_48 (by decide) (by decide) rr_48_0 ?_
  refine rz_aload_n dX2_sendBest_33 rfl ?_
  refine rz_getR dX2_sendBest_34 kf_RX2_7 hd_47 rfl rr_47_1 ?_
  refine rz_getI (z := (n : Int)) dX2_sendBest_37 kf_RX2_61 hd_6 rfl (hn.1) ?_
  refine rz_aload_n dX2_sendBest_40 rfl ?_
  refine rz_getR dX2_sendBest_41 kf_RX2_7 hd_47 rfl rr_47_1 ?_
  refine rz_getR dX2_sendBest_44 kf_RX2_68 hd_6 rfl rr_6_4 ?_
  refine rz_iload_n dX2_sendBest_47 rfl ?_
  refine rz_iald (z := (N : Int)) dX2_sendBest_48 hd_10 (by decide) (by omega) hN.1 ?_
  refine rz_aload_n dX2_sendBest_49 rfl ?_
  refine rz_getR dX2_sendBest_50 kf_RX2_28 hd_47 rfl rr_47_0 ?_
  refine rz_iload_n dX2_sendBest_53 rfl ?_
  refine rz_aald (by decide) dX2_sendBest_54 hd_55 (by decide) (by decide) rr_55_0 ?_
  refine rz_cVVq dX2_sendBest_55 kl_RX2_75 hd_49 ⟨_, _, rfl⟩ (c_choose49 (I := upA I 51 M) n N hn.2 hN.2 hG hM) rfl rfl (Nat.le_of_ble_eq_true rfl) (Nat.le_of_ble_eq_true rfl) ?_
  rintro _ _ ⟨⟨W, rfl, hW⟩, rfl⟩
  refine rz_vret dX2_sendBest_58 rfl ?_
  exact ⟨rfl, ⟨M, W, rfl, hW⟩, rfl⟩
set_option maxRecDepth 20000 in
set_option maxHeartbeats 400000 in
theorem c_sendBest1 {X : pX} {I J : IM} {h : Nat} (n : Nat) (hn : I 6 0 = n ∧ n ≤ 5) (N : Nat) (hN : I 10 1 = N ∧ N ≤ 9) (hG : GRg I 53 n) : KVq X (h + 3) mX2_sendBest [.ref 47, zi 1] I J (fun A B => (∃ M W, A = upA (upA I 54 M) 57 W ∧ ∀ j, j < n → W j = (((chsR (gI I 53) n 0 N).getD j 0 : Nat) : Int)) ∧ J = B) := by
  show Rz X (h + 3) mX2_sendBest 0 [some (.ref 47), some (zi 1)] [] I J _
  refine rz_aload_n dX2_sendBest_0 rfl ?_
  refine rz_getR dX2_sendBest_1 kf_RX2_20 hd_47 rfl rr_47_3 ?_
  refine rz_iload_n dX2_sendBest_4 rfl ?_
  refine rz_aald (by decide) dX2_sendBest_5 hd_48 (by decide) (by decide) rr_48_1 ?_
  refine rz_aload_n dX2_sendBest_6 rfl ?_
  refine rz_getR dX2_sendBest_7 kf_RX2_7 hd_47 rfl rr_47_1 ?_
  refine rz_getI (z := (n : Int)) dX2_sendBest_10 kf_RX2_61 hd_6 rfl (hn.1) ?_
  refine rz_aload_n dX2_sendBest_13 rfl ?_
  refine rz_getR dX2_sendBest_14 kf_RX2_7 hd_47 rfl rr_47_1 ?_
  refine rz_getR dX2_sendBest_17 kf_RX2_68 hd_6 rfl rr_6_4 ?_
  refine rz_iload_n dX2_sendBest_20 rfl ?_
  refine rz_iald (z := (N : Int)) dX2_sendBest_21 hd_10 (by decide) (by omega) hN.1 ?_
  refine rz_iconst dX2_sendBest_22 ?_
  refine rz_cVIq dX2_sendBest_23 kl_RX2_71 hd_52 ⟨_, _, rfl⟩ (c_solve52 n N false hn.2 hN.2 hG) rfl rfl (Nat.le_of_ble_eq_true rfl) (Nat.le_of_ble_eq_true rfl) ?_
  rintro _ _ _ ⟨rfl, ⟨M, rfl, hM⟩, rfl⟩
  refine rz_pop dX2_sendBest_26 rfl ?_
  refine rz_aload_n dX2_sendBest_27 rfl ?_
  refine rz_getR dX2_sendBest_28 kf_RX2_20 hd_47 rfl rr_47_3 ?_
  refine rz_iload_n dX2_sendBest_31 rfl ?_
  refine rz_aald (by decide) dX2_sendBest_32 hd_48 (by decide) (by decide) rr_48_1 ?_
  refine rz_aload_n dX2_sendBest_33 rfl ?_
  refine rz_getR dX2_sendBest_34 kf_RX2_7 hd_47 rfl rr_47_1 ?_
  refine rz_getI (z := (n : Int)) dX2_sendBest_37 kf_RX2_61 hd_6 rfl (hn.1) ?_
  refine rz_aload_n dX2_sendBest_40 rfl ?_
  refine rz_getR dX2_sendBest_41 kf_RX2_7 hd_47 rfl rr_47_1 ?_
  refine rz_getR dX2_sendBest_44 kf_RX2_68 hd_6 rfl rr_6_4 ?_
  refine rz_iload_n dX2_sendBest_47 rfl ?_
  refine rz_iald (z := (N : Int)) dX2_sendBest_48 hd_10 (by decide) (by omega) hN.1 ?_
  refine rz_aload_n dX2_sendBest_49 rfl ?_
  refine rz_getR dX2_sendBest_50 kf_RX2_28 hd_47 rfl rr_47_0 ?_
  refine rz_iload_n dX2_sendBest_53 rfl ?_
  refine rz_aald (by decide) dX2_sendBest_54 hd_55 (by decide) (by decide) rr_55_1 ?_
  refine rz_cVVq dX2_sendBest_55 kl_RX2_75 hd_52 ⟨_, _, rfl⟩ (c_choose52 (I := upA I 54 M) n N hn.2 hN.2 hG hM) rfl rfl (Nat.le_of_ble_eq_true rfl) (Nat.le_of_ble_eq_true rfl) ?_
  rintro _ _ ⟨⟨W, rfl, hW⟩, rfl⟩
  refine rz_vret dX2_sendBest_58 rfl ?_
  exact ⟨rfl, ⟨M, W, rfl, hW⟩, rfl⟩
set_option maxRecDepth 20000 in
set_option maxHeartbeats 400000 in
theorem c_X2_go {X : pX} {I J : IM} {h : Nat} {lw : Lw} {n : Nat} {m0 m1 : Mx} (hq : CqI I lw n m0 m1) (y : Nat) (hy : y ≤ 30) : KIq X (h + 5) mX2_go [.ref 47, zi (y : Int)] I J (fun z A Bj => z = sumP (ysc lw (I 7) (I 8) (I 9) (I 10) n m0 m1) (y + 1) ∧ QC I lw n A ∧ (∀ v : Nat, v < n → A 56 v = ((yS lw (I 7) (I 8) (I 9) (I 10) n m0 m1 y 0 v : Nat) : Int) ∧ A 57 v = ((yS lw (I 7) (I 8) (I 9) (I 10) n m0 m1 y 1 v : Nat) : Int)) ∧ J = Bj) := by
  obtain ⟨h1, h2, h3, h4, h5, h6, h7⟩ := hq
  have h80 := h7 0 (by decide)
  have h81 := h7 1 (by decide)
  have hW : ∀ v, v < n → 0 ≤ I 7 v ∧ I 7 v ≤ 9 := fun v hv => (h3 v hv).1
  show Rz X (h + 5) mX2_go 0 [some (.ref 47), some (zi (y : Int)), none, none] [] I J _
  refine rz_aload_n dX2_go_0 rfl ?_
  refine rz_getR dX2_go_1 kf_RX2_7 hd_47 rfl rr_47_1 ?_
  refine rz_cVVq dX2_go_4 kl_RX2_31 hd_6 ⟨_, _, rfl⟩ (c_X8_settle lw h1 n h2 h3 h4) rfl rfl (Nat.le_of_ble_eq_true rfl) (Nat.le_of_ble_eq_true rfl) ?_
  rintro B _ ⟨hB, rfl⟩
  obtain ⟨hf1, hf2⟩ := SetQ_fr hB
  have hP := SetQ_pts hB
  have f6 := hf1 6 (by decide) (by decide) (by decide) (by decide)
  have f7 := hf1 7 (by decide) (by decide) (by decide) (by decide)
  have f8 := hf1 8 (by decide) (by decide) (by decide) (by decide)
  have f9 := hf1 9 (by decide) (by decide) (by decide) (by decide)
  have f10 := hf1 10 (by decide) (by decide) (by decide) (by decide)
  have hmB0 : MixC B 14 m0 := MixC_of (hf1 14 (by decide) (by decide) (by decide) (by decide)) (hf1 15 (by decide) (by decide) (by decide) (by decide)) (hf1 16 (by decide) (by decide) (by decide) (by decide)) h5
  have hmB1 : MixC B 17 m1 := MixC_of (hf1 17 (by decide) (by decide) (by decide) (by decide)) (hf1 18 (by decide) (by decide) (by decide) (by decide)) (hf1 19 (by decide) (by decide) (by decide) (by decide)) h6
  have ho0 := MixC_ok h5
  have ho1 := MixC_ok h6
  have hl0 := lnN_le ho0.1
  have hl1 := lnN_le ho1.1
  have hnB : B 6 0 = n ∧ n ≤ 5 := ⟨by rw [f6]; exact h2.1, h2.2⟩
  refine rz_iconst dX2_go_7 ?_
  refine rz_istore_n dX2_go_8 (by decide) rfl ?_
  refine rz_iload_n dX2_go_9 rfl ?_
  refine rz_iconst dX2_go_10 ?_
  refine rz_icmp_ge (t := 65) dX2_go_11 rfl (by omega) (by omega) (fun q => absurd q (by decide)) (fun _ => ?_)
  refine rz_aload_n dX2_go_14 rfl ?_
  refine rz_getR dX2_go_15 kf_RX2_20 hd_47 rfl rr_47_3 ?_
  refine rz_iload_n dX2_go_18 rfl ?_
  refine rz_aald (by decide) dX2_go_19 hd_48 (by decide) (by decide) rr_48_0 ?_
  refine rz_getR dX2_go_20 kf_RX2_34 hd_49 rfl rr_49_0 ?_
  refine rz_iconst dX2_go_23 ?_
  refine rz_cSV dX2_go_24 kl_RX2_38 (c_fill X _ B J 50 50 0 hd_50 (by decide)) rfl rfl (Nat.le_of_ble_eq_true rfl) (Nat.le_of_ble_eq_true rfl) ?_
  refine rz_iconst dX2_go_27 ?_
  refine rz_istore_n dX2_go_28 (by decide) rfl ?_
  refine rz_upx (σ := Nat → Int) (Inv := fun v sv => ∀ j, j < v → sv j = ((loS m0 0 j : Nat) : Int)) (ls := fun (v : Nat) sv => [some (.ref 47), some (zi (y : Int)), some (zi 0), some (zi (v : Int))]) (IV := fun (v : Nat) sv => (upA (fillM B 50 50 0) 56 sv)) (JV := fun (v : Nat) sv => J) (5) (((fillM B 50 50 0) 56)) (fun j hj => absurd hj (by omega)) ⟨Or.inr rfl, Or.inr rfl, Or.inr rfl, Or.inr rfl, trivial⟩ (upA_id) (rfl) ?_ ?_
  · intro v sv hv qv ihv
    refine rz_iload_n dX2_go_29 rfl ?_
    refine rz_iconst dX2_go_30 ?_
    refine rz_icmp_ge (t := 59) dX2_go_31 rfl (by omega) (by omega) (fun c31 => ?_) (fun c31 => ?_)
    · exfalso; omega
    · refine rz_aload_n dX2_go_34 rfl ?_
      refine rz_getR dX2_go_35 kf_RX2_28 hd_47 rfl rr_47_0 ?_
      refine rz_iload_n dX2_go_38 rfl ?_
      refine rz_aald (by decide) dX2_go_39 hd_55 (by decide) (by decide) rr_55_0 ?_
      refine rz_iload_n dX2_go_40 rfl ?_
      refine rz_aload_n dX2_go_41 rfl ?_
      refine rz_getR dX2_go_42 kf_RX2_13 hd_47 rfl rr_47_2 ?_
      refine rz_iload_n dX2_go_45 rfl ?_
      refine rz_aald (by decide) dX2_go_46 hd_13 (by decide) (by decide) rr_13_0 ?_
      refine rz_iconst dX2_go_47 ?_
      refine rz_iload_n dX2_go_48 rfl ?_
      refine rz_cVI dX2_go_49 kl_RX2_44 hd_14 ⟨_, _, rfl⟩ (c_loavesAt14 X _ (upA (fillM B 50 50 0) 56 sv) J 0 v (MixC_ln (show MixC (upA (fillM B 50 50 0) 56 sv) 14 m0 from hmB0)).1 (by omega) (by omega)) rfl rfl (Nat.le_of_ble_eq_true rfl) (Nat.le_of_ble_eq_true rfl) ?_
      refine rz_ieq (y := ((loS m0 0 v : Nat) : Int)) (MixC_lo (show MixC (upA (fillM B 50 50 0) 56 sv) 14 m0 from hmB0) (by omega) (by omega)).symm ?_
      refine rz_iast dX2_go_52 hd_56 (by decide) (by omega) ?_
      refine rz_iinc dX2_go_53 (by decide) rfl rfl rfl ?_
      refine rz_goto (t := 29) dX2_go_56 rfl ?_
      exact rz_bk (ihv ((up1 sv v ((loS m0 0 v : Nat) : Int))) ((fun j hj => by by_cases e : j = v; (subst e; exact up1_self); exact (up1_ne e).trans (qv j (by omega))))) ⟨Or.inr rfl, Or.inr rfl, Or.inr rfl, Or.inr rfl, trivial⟩ (upA_upA.symm) (rfl)
  · intro sv qv
    refine rz_iload_n dX2_go_29 rfl ?_
    refine rz_iconst dX2_go_30 ?_
    refine rz_icmp_ge (t := 59) dX2_go_31 rfl (by omega) (by omega) (fun c31 => ?_) (fun c31 => ?_)
    · refine rz_iinc (z := 1) dX2_go_59 (by decide) rfl rfl rfl ?_
      refine rz_goto (t := 9) dX2_go_62 rfl ?_
      refine rz_iload_n dX2_go_9 rfl ?_
      refine rz_iconst dX2_go_10 ?_
      refine rz_icmp_ge (t := 65) dX2_go_11 rfl (by omega) (by omega) (fun q => absurd q (by decide)) (fun _ => ?_)
      refine rz_aload_n dX2_go_14 rfl ?_
      refine rz_getR dX2_go_15 kf_RX2_20 hd_47 rfl rr_47_3 ?_
      refine rz_iload_n dX2_go_18 rfl ?_
      refine rz_aald (by decide) dX2_go_19 hd_48 (by decide) (by decide) rr_48_1 ?_
      refine rz_getR dX2_go_20 kf_RX2_34 hd_52 rfl rr_52_0 ?_
      refine rz_iconst dX2_go_23 ?_
      refine rz_cSV dX2_go_24 kl_RX2_38 (c_fill X _ (upA (fillM B 50 50 0) 56 sv) J 53 50 0 hd_53 (by decide)) rfl rfl (Nat.le_of_ble_eq_true rfl) (Nat.le_of_ble_eq_true rfl) ?_
      refine rz_iconst dX2_go_27 ?_
      refine rz_istore_n dX2_go_28 (by decide) rfl ?_
      refine rz_upx (σ := Nat → Int) (Inv := fun u su => ∀ j, j < u → su j = ((loS m1 0 j : Nat) : Int)) (ls := fun (u : Nat) su => [some (.ref 47), some (zi (y : Int)), some (zi 1), some (zi (u : Int))]) (IV := fun (u : Nat) su => (upA (fillM (upA (fillM B 50 50 0) 56 sv) 53 50 0) 57 su)) (JV := fun (u : Nat) su => J) (5) (((fillM (upA (fillM B 50 50 0) 56 sv) 53 50 0) 57)) (fun j hj => absurd hj (by omega)) ⟨Or.inr rfl, Or.inr rfl, Or.inr rfl, Or.inr rfl, trivial⟩ (upA_id) (rfl) ?_ ?_
      · intro u su hu qu ihu
        refine rz_iload_n dX2_go_29 rfl ?_
        refine rz_iconst dX2_go_30 ?_
        refine rz_icmp_ge (t := 59) dX2_go_31 rfl (by omega) (by omega) (fun c31 => ?_) (fun c31 => ?_)
        · exfalso; omega
        · refine rz_aload_n dX2_go_34 rfl ?_
          refine rz_getR dX2_go_35 kf_RX2_28 hd_47 rfl rr_47_0 ?_
          refine rz_iload_n dX2_go_38 rfl ?_
          refine rz_aald (by decide) dX2_go_39 hd_55 (by decide) (by decide) rr_55_1 ?_
          refine rz_iload_n dX2_go_40 rfl ?_
          refine rz_aload_n dX2_go_41 rfl ?_
          refine rz_getR dX2_go_42 kf_RX2_13 hd_47 rfl rr_47_2 ?_
          refine rz_iload_n dX2_go_45 rfl ?_
          refine rz_aald (by decide) dX2_go_46 hd_13 (by decide) (by decide) rr_13_1 ?_
          refine rz_iconst dX2_go_47 ?_
          refine rz_iload_n dX2_go_48 rfl ?_
          refine rz_cVI dX2_go_49 kl_RX2_44 hd_17 ⟨_, _, rfl⟩ (c_loavesAt17 X _ (upA (fillM (upA (fillM B 50 50 0) 56 sv) 53 50 0) 57 su) J 0 u (MixC_ln (show MixC (upA (fillM (upA (fillM B 50 50 0) 56 sv) 53 50 0) 57 su) 17 m1 from hmB1)).1 (by omega) (by omega)) rfl rfl (Nat.le_of_ble_eq_true rfl) (Nat.le_of_ble_eq_true rfl) ?_
          refine rz_ieq (y := ((loS m1 0 u : Nat) : Int)) (MixC_lo (show MixC (upA (fillM (upA (fillM B 50 50 0) 56 sv) 53 50 0) 57 su) 17 m1 from hmB1) (by omega) (by omega)).symm ?_
          refine rz_iast dX2_go_52 hd_57 (by decide) (by omega) ?_
          refine rz_iinc dX2_go_53 (by decide) rfl rfl rfl ?_
          refine rz_goto (t := 29) dX2_go_56 rfl ?_
          exact rz_bk (ihu ((up1 su u ((loS m1 0 u : Nat) : Int))) ((fun j hj => by by_cases e : j = u; (subst e; exact up1_self); exact (up1_ne e).trans (qu j (by omega))))) ⟨Or.inr rfl, Or.inr rfl, Or.inr rfl, Or.inr rfl, trivial⟩ (upA_upA.symm) (rfl)
      · intro su qu
        refine rz_iload_n dX2_go_29 rfl ?_
        refine rz_iconst dX2_go_30 ?_
        refine rz_icmp_ge (t := 59) dX2_go_31 rfl (by omega) (by omega) (fun c31 => ?_) (fun c31 => ?_)
        · refine rz_iinc (z := 2) dX2_go_59 (by decide) rfl rfl rfl ?_
          refine rz_goto (t := 9) dX2_go_62 rfl ?_
          refine rz_iload_n dX2_go_9 rfl ?_
          refine rz_iconst dX2_go_10 ?_
          refine rz_icmp_ge (t := 65) dX2_go_11 rfl (by omega) (by omega) (fun _ => ?_) (fun q => absurd q (by decide))
          refine rz_aload_n dX2_go_65 rfl ?_
          refine rz_getR dX2_go_66 kf_RX2_7 hd_47 rfl rr_47_1 ?_
          refine rz_aload_n dX2_go_69 rfl ?_
          refine rz_getR dX2_go_70 kf_RX2_28 hd_47 rfl rr_47_0 ?_
          refine rz_iconst dX2_go_73 ?_
          refine rz_aald (by decide) dX2_go_74 hd_55 (by decide) (by decide) rr_55_0 ?_
          refine rz_aload_n dX2_go_75 rfl ?_
          refine rz_getR dX2_go_76 kf_RX2_28 hd_47 rfl rr_47_0 ?_
          refine rz_iconst dX2_go_79 ?_
          refine rz_aald (by decide) dX2_go_80 hd_55 (by decide) (by decide) rr_55_1 ?_
          refine rz_cVI dX2_go_81 kl_RX2_50 hd_6 ⟨_, _, rfl⟩ (c_scoreOf X _ (upA (fillM (upA (fillM B 50 50 0) 56 sv) 53 50 0) 57 su) J n 56 57 hnB hd_56 hd_57 (fun v hv => by show (0 ≤ sv v ∧ sv v ≤ 9) ∧ 0 ≤ su v ∧ su v ≤ 9; rw [qv v (by omega), qu v (by omega)]; have := loS_rg ho0 (i := 0) (v := v) (by omega) (by omega); have := loS_rg ho1 (i := 0) (v := v) (by omega) (by omega); omega)) rfl rfl (Nat.le_of_ble_eq_true rfl) (Nat.le_of_ble_eq_true rfl) ?_
          refine rz_ieq (y := sumP (ysc lw (I 7) (I 8) (I 9) (I 10) n m0 m1) (0 + 1)) ?_ ?_
          · show 0 + ysc _ _ _ _ _ _ _ _ 0 = _
            rw [Int.zero_add]
            refine sumP_congr (fun v hv => ?_)
            have hs := hP v hv (loS m0 0 v) (loS m1 0 v) (loS_rg ho0 (by omega) (by omega)) (loS_rg ho1 (by omega) (by omega))
            show ptsV lw (I 7) (I 8) (I 9) v (loS m0 0 v) (loS m1 0 v) = B 11 (100 * v + 10 * (sv v).toNat + (su v).toNat)
            rw [qv v (by omega), qu v (by omega), Int.toNat_natCast, Int.toNat_natCast, hs, f7, f8, f9]
          refine rz_istore_n dX2_go_84 (by decide) rfl ?_
          refine rz_iconst dX2_go_85 ?_
          refine rz_istore_n (ls' := [some (.ref 47), some (zi (y : Int)), some (zi (sumP (ysc lw (I 7) (I 8) (I 9) (I 10) n m0 m1) (0 + 1))), some (zi 1)]) dX2_go_86 (by decide) rfl ?_
          refine rz_upx (σ := IM) (Inv := fun k sk => YuF B sk ∧ YcI sk lw (I 7) (I 8) (I 9) (I 10) n m0 m1 k) (ls := fun (k : Nat) sk => [some (.ref 47), some (zi (y : Int)), some (zi (sumP (ysc lw (I 7) (I 8) (I 9) (I 10) n m0 m1) (k + 1))), some (zi ((k + 1 : Nat) : Int))]) (IV := fun (k : Nat) sk => sk) (JV := fun (k : Nat) sk => J) (y) ((upA (fillM (upA (fillM B 50 50 0) 56 sv) 53 50 0) 57 su)) ⟨fun a g1 g2 g3 g4 g5 g6 => by simp [fillM, upA, g1, g3, g5, g6], fun v x hv hx => ⟨by show (if 10 * v + x < 50 then 0 else B 50 (10 * v + x)) = _; rw [if_pos (by omega)]; rfl, by show (if 10 * v + x < 50 then 0 else B 53 (10 * v + x)) = _; rw [if_pos (by omega)]; rfl⟩, fun v hv => ⟨qv v (by omega), qu v (by omega)⟩⟩ ⟨Or.inr rfl, Or.inr rfl, Or.inr rfl, Or.inr rfl, trivial⟩ (rfl) (rfl) ?_ ?_
          · intro k sk hk qk ihk
            have k6 := qk.1 6 (by decide) (by decide) (by decide) (by decide) (by decide) (by decide)
            have k7 := qk.1 7 (by decide) (by decide) (by decide) (by decide) (by decide) (by decide)
            have k8 := qk.1 8 (by decide) (by decide) (by decide) (by decide) (by decide) (by decide)
            have k9 := qk.1 9 (by decide) (by decide) (by decide) (by decide) (by decide) (by decide)
            have k10 := qk.1 10 (by decide) (by decide) (by decide) (by decide) (by decide) (by decide)
            have k11 := qk.1 11 (by decide) (by decide) (by decide) (by decide) (by decide) (by decide)
            have hPk : PtsOK sk lw n := by unfold PtsOK; rw [k7, k8, k9, k11]; exact hP
            have hS0 : ∀ v, v < n → yS lw (I 7) (I 8) (I 9) (I 10) n m0 m1 k 0 v ≤ 9 := fun v hv => yS_le h2.2 h7 ho0 ho1 hW (by omega) (by omega) (by omega)
            have hS1 : ∀ v, v < n → yS lw (I 7) (I 8) (I 9) (I 10) n m0 m1 k 1 v ≤ 9 := fun v hv => yS_le h2.2 h7 ho0 ho1 hW (by omega) (by omega) (by omega)
            refine rz_iload_n dX2_go_87 rfl ?_
            refine rz_iload_n dX2_go_88 rfl ?_
            refine rz_icmp_gt (t := 134) dX2_go_89 rfl (by omega) (by omega) (fun c89 => ?_) (fun c89 => ?_)
            · exfalso; omega
            · refine rz_aload_n dX2_go_92 rfl ?_
              refine rz_cVVq dX2_go_93 kl_RX2_54 hd_47 ⟨_, _, rfl⟩ (c_X2_learnSent (I := sk) lw n ⟨by rw [k6]; exact hnB.1, h2.2⟩ (yS lw (I 7) (I 8) (I 9) (I 10) n m0 m1 k 0) (yS lw (I 7) (I 8) (I 9) (I 10) n m0 m1 k 1) (fun v hv => ⟨(qk.2.2 v hv).1, hS0 v hv⟩) (fun v hv => ⟨(qk.2.2 v hv).2, hS1 v hv⟩) hPk) rfl rfl (Nat.le_of_ble_eq_true rfl) (Nat.le_of_ble_eq_true rfl) ?_
              rintro _ _ ⟨⟨G, H, rfl, hG⟩, rfl⟩
              rw [k7, k8, k9, f7, f8, f9] at hG
              have hgG : GRg (upA (upA sk 50 G) 53 H) 50 n := fun v x hv hx => by
                have e1 := (hG v x hv hx).1
                have e2 := (qk.2.1 v x hv hx).1
                have e3 := yG_rg (lw := lw) (T := I 8) (U := I 9) (Q := I 10) (m0 := m0) (m1 := m1) hW k 0 v x hv
                have e4 := gn_rg (lw := lw) (T := I 8) (U := I 9) (b := 0) (x := x) (o := yS lw (I 7) (I 8) (I 9) (I 10) n m0 m1 k 1 v) (hW v hv)
                show -100000 ≤ G (10 * v + x) ∧ G (10 * v + x) ≤ 100000
                omega
              have hgH : GRg (upA (upA sk 50 G) 53 H) 53 n := fun v x hv hx => by
                have e1 := (hG v x hv hx).2
                have e2 := (qk.2.1 v x hv hx).2
                have e3 := yG_rg (lw := lw) (T := I 8) (U := I 9) (Q := I 10) (m0 := m0) (m1 := m1) hW k 1 v x hv
                have e4 := gn_rg (lw := lw) (T := I 8) (U := I 9) (b := 1) (x := x) (o := yS lw (I 7) (I 8) (I 9) (I 10) n m0 m1 k 0 v) (hW v hv)
                show -100000 ≤ H (10 * v + x) ∧ H (10 * v + x) ≤ 100000
                omega
              refine rz_aload_n dX2_go_96 rfl ?_
              refine rz_iconst dX2_go_97 ?_
              refine rz_cVVq dX2_go_98 kl_RX2_57 hd_47 ⟨_, _, rfl⟩ (c_sendBest0 (I := (upA (upA sk 50 G) 53 H)) n ⟨show sk 6 0 = n by rw [k6]; exact hnB.1, h2.2⟩ (I 10 0).toNat ⟨show sk 10 0 = _ by rw [k10, f10]; omega, by omega⟩ hgG) rfl rfl (Nat.le_of_ble_eq_true rfl) (Nat.le_of_ble_eq_true rfl) ?_
              rintro _ _ ⟨⟨M0, W0, rfl, hW0⟩, rfl⟩
              refine rz_aload_n dX2_go_101 rfl ?_
              refine rz_iconst dX2_go_102 ?_
              refine rz_cVVq dX2_go_103 kl_RX2_57 hd_47 ⟨_, _, rfl⟩ (c_sendBest1 (I := (upA (upA (upA (upA sk 50 G) 53 H) 51 M0) 56 W0)) n ⟨show sk 6 0 = n by rw [k6]; exact hnB.1, h2.2⟩ (I 10 1).toNat ⟨show sk 10 1 = _ by rw [k10, f10]; omega, by omega⟩ hgH) rfl rfl (Nat.le_of_ble_eq_true rfl) (Nat.le_of_ble_eq_true rfl) ?_
              rintro _ _ ⟨⟨M1, W1, rfl, hW1⟩, rfl⟩
              have hYc : YcI (upA (upA (upA (upA (upA (upA sk 50 G) 53 H) 51 M0) 56 W0) 54 M1) 57 W1) lw (I 7) (I 8) (I 9) (I 10) n m0 m1 (k + 1) := YcI_s h2.2 ⟨rfl, by omega⟩ ⟨rfl, by omega⟩ qk.2 hG hW0 hW1
              have hT0 : ∀ v, v < n → yS lw (I 7) (I 8) (I 9) (I 10) n m0 m1 (k + 1) 0 v ≤ 9 := fun v hv => yS_le h2.2 h7 ho0 ho1 hW (by omega) (by omega) (by omega)
              have hT1 : ∀ v, v < n → yS lw (I 7) (I 8) (I 9) (I 10) n m0 m1 (k + 1) 1 v ≤ 9 := fun v hv => yS_le h2.2 h7 ho0 ho1 hW (by omega) (by omega) (by omega)
              refine rz_iload_n dX2_go_106 rfl ?_
              refine rz_aload_n dX2_go_107 rfl ?_
              refine rz_getR dX2_go_108 kf_RX2_7 hd_47 rfl rr_47_1 ?_
              refine rz_aload_n dX2_go_111 rfl ?_
              refine rz_getR dX2_go_112 kf_RX2_28 hd_47 rfl rr_47_0 ?_
              refine rz_iconst dX2_go_115 ?_
              refine rz_aald (by decide) dX2_go_116 hd_55 (by decide) (by decide) rr_55_0 ?_
              refine rz_aload_n dX2_go_117 rfl ?_
              refine rz_getR dX2_go_118 kf_RX2_28 hd_47 rfl rr_47_0 ?_
              refine rz_iconst dX2_go_121 ?_
              refine rz_aald (by decide) dX2_go_122 hd_55 (by decide) (by decide) rr_55_1 ?_
              refine rz_cVI dX2_go_123 kl_RX2_50 hd_6 ⟨_, _, rfl⟩ (c_scoreOf X _ (upA (upA (upA (upA (upA (upA sk 50 G) 53 H) 51 M0) 56 W0) 54 M1) 57 W1) J n 56 57 ⟨show sk 6 0 = n by rw [k6]; exact hnB.1, h2.2⟩ hd_56 hd_57 (fun v hv => by rw [(hYc.2 v hv).1, (hYc.2 v hv).2]; have := hT0 v hv; have := hT1 v hv; omega)) rfl rfl (Nat.le_of_ble_eq_true rfl) (Nat.le_of_ble_eq_true rfl) ?_
              refine rz_ieq (y := (ysc lw (I 7) (I 8) (I 9) (I 10) n m0 m1) (k + 1)) ?_ ?_
              · refine sumP_congr (fun v hv => ?_)
                have hs := hPk v hv _ _ (hT0 v hv) (hT1 v hv)
                rw [k7, k8, k9, f7, f8, f9] at hs
                show _ = sk 11 (100 * v + 10 * ((upA (upA (upA (upA (upA (upA sk 50 G) 53 H) 51 M0) 56 W0) 54 M1) 57 W1) 56 v).toNat + ((upA (upA (upA (upA (upA (upA sk 50 G) 53 H) 51 M0) 56 W0) 54 M1) 57 W1) 57 v).toNat)
                rw [(hYc.2 v hv).1, (hYc.2 v hv).2, Int.toNat_natCast, Int.toNat_natCast]
                exact hs.symm
              refine rz_iadd dX2_go_126 ?_
              refine rz_istore_n dX2_go_127 (by decide) rfl ?_
              refine rz_iinc dX2_go_128 (by decide) rfl rfl rfl ?_
              refine rz_goto (t := 87) dX2_go_131 rfl ?_
              exact rz_bk (ihk ((upA (upA (upA (upA (upA (upA sk 50 G) 53 H) 51 M0) 56 W0) 54 M1) 57 W1)) (⟨fun a g1 g2 g3 g4 g5 g6 => by simp [upA, g1, g2, g3, g4, g5, g6]; exact qk.1 a g1 g2 g3 g4 g5 g6, hYc⟩)) ⟨Or.inr rfl, Or.inr rfl, Or.inr rfl, Or.inr rfl, trivial⟩ (rfl) (rfl)
          · intro sk qk
            refine rz_iload_n dX2_go_87 rfl ?_
            refine rz_iload_n dX2_go_88 rfl ?_
            refine rz_icmp_gt (t := 134) dX2_go_89 rfl (by omega) (by omega) (fun c89 => ?_) (fun c89 => ?_)
            · refine rz_iload_n dX2_go_134 rfl ?_
              refine rz_iret dX2_go_135 rfl ?_
              exact ⟨_, rfl, rfl, QC_yu qk.1 (QC_set h4 hB), qk.2.2, rfl⟩
            · exfalso; omega
        · exfalso; omega
    · exfalso; omega
set_option maxRecDepth 20000 in
set_option maxHeartbeats 400000 in
theorem year_c0 {X : pX} {I J : IM} {h : Nat} {lw : Lw} {n : Nat} {m0 m1 : Mx} (hq : CqI I lw n m0 m1) (y : Nat) (hy : y ≤ 30) : KIq X (h + 6) mX11_year [.ref 0, zi 0, zi (y : Int)] I J (fun z A B => z = yeaZ lw (I 7) (I 8) (I 9) (I 10) n m0 m1 0 (y : Int) ∧ QC I lw n A ∧ J = B) := by
  show Rz X (h + 6) mX11_year 0 [some (.ref 0), some (zi 0), some (zi (y : Int))] [] I J _
  refine rz_iload_n dX11_year_0 rfl ?_
  refine rz_cSIq dX11_year_1 kl_RX11_112 (c_X11_isBaker X _ I J 0 (by omega)) rfl rfl (Nat.le_of_ble_eq_true rfl) (Nat.le_of_ble_eq_true rfl) ?_
  rintro z1 A1 B1 ⟨⟨rfl, b1⟩ | ⟨rfl, b1⟩, rfl, rfl⟩
  · refine rz_if_eq (t := 17) dX11_year_4 rfl (by omega) (fun q => absurd q (by decide)) (fun _ => ?_)
    refine rz_iload_n dX11_year_7 rfl ?_
    refine rz_if_lt (t := 17) dX11_year_8 rfl (by omega) (fun c8 => ?_) (fun c8 => ?_)
    · refine rz_iconst dX11_year_17 ?_
      refine rz_iret dX11_year_18 rfl ?_
      exfalso; omega
    · refine rz_iload_n dX11_year_11 rfl ?_
      refine rz_bipush dX11_year_12 (by decide) ?_
      refine rz_icmp_le (t := 19) dX11_year_14 rfl (by omega) (by omega) (fun c14 => ?_) (fun c14 => ?_)
      · refine rz_aload_n dX11_year_19 rfl ?_
        refine rz_getR dX11_year_20 kf_RX11_56 hd_0 rfl rr_0_7 ?_
        refine rz_iload_n dX11_year_23 rfl ?_
        refine rz_cVIq dX11_year_24 kl_RX11_282 hd_47 ⟨_, _, rfl⟩ (c_X2_go hq y hy) rfl rfl (Nat.le_of_ble_eq_true rfl) (Nat.le_of_ble_eq_true rfl) ?_
        rintro z24 A24 _ ⟨hz24, qc24, hs24, rfl⟩
        refine rz_pop dX11_year_27 rfl ?_
        refine rz_aload_n dX11_year_28 rfl ?_
        refine rz_getR dX11_year_29 kf_RX11_21 hd_0 rfl rr_0_1 ?_
        refine rz_aload_n dX11_year_32 rfl ?_
        refine rz_getR dX11_year_33 kf_RX11_56 hd_0 rfl rr_0_7 ?_
        refine rz_getR dX11_year_36 kf_RX11_285 hd_47 rfl rr_47_0 ?_
        refine rz_iload_n dX11_year_39 rfl ?_
        refine rz_aald (by decide) dX11_year_40 hd_55 (by decide) (by decide) rr_55_0 ?_
        refine rz_iconst dX11_year_41 ?_
        refine rz_cVI dX11_year_42 kl_RX11_289 hd_6 ⟨_, _, rfl⟩ (c_numberOf X _ A24 J n 56 5 0 ⟨by rw [qc24.1.1 6 (by decide)]; exact hq.2.1.1, hq.2.1.2⟩ hd_56 (by decide) (by have := hq.2.1.2; omega)) rfl rfl (Nat.le_of_ble_eq_true rfl) (Nat.le_of_ble_eq_true rfl) ?_
        refine rz_iret dX11_year_45 rfl ?_
        exact ⟨_, rfl, (numP_congr (fun v hv => by rw [Nat.zero_add]; exact (hs24 v hv).1)).trans (if_pos ⟨by omega, by omega⟩).symm, qc24, rfl⟩
      · refine rz_iconst dX11_year_17 ?_
        refine rz_iret dX11_year_18 rfl ?_
        exfalso; omega
  · exfalso; omega
set_option maxRecDepth 20000 in
set_option maxHeartbeats 400000 in
theorem year_c1 {X : pX} {I J : IM} {h : Nat} {lw : Lw} {n : Nat} {m0 m1 : Mx} (hq : CqI I lw n m0 m1) (y : Nat) (hy : y ≤ 30) : KIq X (h + 6) mX11_year [.ref 0, zi 1, zi (y : Int)] I J (fun z A B => z = yeaZ lw (I 7) (I 8) (I 9) (I 10) n m0 m1 1 (y : Int) ∧ QC I lw n A ∧ J = B) := by
  show Rz X (h + 6) mX11_year 0 [some (.ref 0), some (zi 1), some (zi (y : Int))] [] I J _
  refine rz_iload_n dX11_year_0 rfl ?_
  refine rz_cSIq dX11_year_1 kl_RX11_112 (c_X11_isBaker X _ I J 1 (by omega)) rfl rfl (Nat.le_of_ble_eq_true rfl) (Nat.le_of_ble_eq_true rfl) ?_
  rintro z1 A1 B1 ⟨⟨rfl, b1⟩ | ⟨rfl, b1⟩, rfl, rfl⟩
  · refine rz_if_eq (t := 17) dX11_year_4 rfl (by omega) (fun q => absurd q (by decide)) (fun _ => ?_)
    refine rz_iload_n dX11_year_7 rfl ?_
    refine rz_if_lt (t := 17) dX11_year_8 rfl (by omega) (fun c8 => ?_) (fun c8 => ?_)
    · refine rz_iconst dX11_year_17 ?_
      refine rz_iret dX11_year_18 rfl ?_
      exfalso; omega
    · refine rz_iload_n dX11_year_11 rfl ?_
      refine rz_bipush dX11_year_12 (by decide) ?_
      refine rz_icmp_le (t := 19) dX11_year_14 rfl (by omega) (by omega) (fun c14 => ?_) (fun c14 => ?_)
      · refine rz_aload_n dX11_year_19 rfl ?_
        refine rz_getR dX11_year_20 kf_RX11_56 hd_0 rfl rr_0_7 ?_
        refine rz_iload_n dX11_year_23 rfl ?_
        refine rz_cVIq dX11_year_24 kl_RX11_282 hd_47 ⟨_, _, rfl⟩ (c_X2_go hq y hy) rfl rfl (Nat.le_of_ble_eq_true rfl) (Nat.le_of_ble_eq_true rfl) ?_
        rintro z24 A24 _ ⟨hz24, qc24, hs24, rfl⟩
        refine rz_pop dX11_year_27 rfl ?_
        refine rz_aload_n dX11_year_28 rfl ?_
        refine rz_getR dX11_year_29 kf_RX11_21 hd_0 rfl rr_0_1 ?_
        refine rz_aload_n dX11_year_32 rfl ?_
        refine rz_getR dX11_year_33 kf_RX11_56 hd_0 rfl rr_0_7 ?_
        refine rz_getR dX11_year_36 kf_RX11_285 hd_47 rfl rr_47_0 ?_
        refine rz_iload_n dX11_year_39 rfl ?_
        refine rz_aald (by decide) dX11_year_40 hd_55 (by decide) (by decide) rr_55_1 ?_
        refine rz_iconst dX11_year_41 ?_
        refine rz_cVI dX11_year_42 kl_RX11_289 hd_6 ⟨_, _, rfl⟩ (c_numberOf X _ A24 J n 57 5 0 ⟨by rw [qc24.1.1 6 (by decide)]; exact hq.2.1.1, hq.2.1.2⟩ hd_57 (by decide) (by have := hq.2.1.2; omega)) rfl rfl (Nat.le_of_ble_eq_true rfl) (Nat.le_of_ble_eq_true rfl) ?_
        refine rz_iret dX11_year_45 rfl ?_
        exact ⟨_, rfl, (numP_congr (fun v hv => by rw [Nat.zero_add]; exact (hs24 v hv).2)).trans (if_pos ⟨by omega, by omega⟩).symm, qc24, rfl⟩
      · refine rz_iconst dX11_year_17 ?_
        refine rz_iret dX11_year_18 rfl ?_
        exfalso; omega
  · exfalso; omega
set_option maxRecDepth 20000 in
set_option maxHeartbeats 400000 in
theorem year_cn {X : pX} {I J : IM} {h : Nat} {lw : Lw} {n : Nat} {m0 m1 : Mx} (hc : CchI I lw n) (b y : Int) (hb : rg b) (hy : rg y) (hn : ¬ ((b = 0 ∨ b = 1) ∧ 0 ≤ y ∧ y ≤ 30)) : KIq X (h + 6) mX11_year [.ref 0, zi b, zi y] I J (fun z A B => z = yeaZ lw (I 7) (I 8) (I 9) (I 10) n m0 m1 b y ∧ QC I lw n A ∧ J = B) := by
  show Rz X (h + 6) mX11_year 0 [some (.ref 0), some (zi b), some (zi y)] [] I J _
  refine rz_iload_n dX11_year_0 rfl ?_
  refine rz_cSIq dX11_year_1 kl_RX11_112 (c_X11_isBaker X _ I J b (by omega)) rfl rfl (Nat.le_of_ble_eq_true rfl) (Nat.le_of_ble_eq_true rfl) ?_
  rintro z1 A1 B1 ⟨⟨rfl, b1⟩ | ⟨rfl, b1⟩, rfl, rfl⟩
  · refine rz_if_eq (t := 17) dX11_year_4 rfl (by omega) (fun q => absurd q (by decide)) (fun _ => ?_)
    refine rz_iload_n dX11_year_7 rfl ?_
    refine rz_if_lt (t := 17) dX11_year_8 rfl (by omega) (fun c8 => ?_) (fun c8 => ?_)
    · refine rz_iconst dX11_year_17 ?_
      refine rz_iret dX11_year_18 rfl ?_
      exact ⟨_, rfl, (if_neg (by omega)).symm, QC_refl hc, rfl⟩
    · refine rz_iload_n dX11_year_11 rfl ?_
      refine rz_bipush dX11_year_12 (by decide) ?_
      refine rz_icmp_le (t := 19) dX11_year_14 rfl (by omega) (by omega) (fun c14 => ?_) (fun c14 => ?_)
      · exfalso; omega
      · refine rz_iconst dX11_year_17 ?_
        refine rz_iret dX11_year_18 rfl ?_
        exact ⟨_, rfl, (if_neg (by omega)).symm, QC_refl hc, rfl⟩
  · refine rz_if_eq (t := 17) dX11_year_4 rfl (by omega) (fun _ => ?_) (fun q => absurd q (by decide))
    refine rz_iconst dX11_year_17 ?_
    refine rz_iret dX11_year_18 rfl ?_
    exact ⟨_, rfl, (if_neg (by omega)).symm, QC_refl hc, rfl⟩
theorem c_X11_year {X : pX} {I J : IM} {h : Nat} {lw : Lw} {n : Nat} {m0 m1 : Mx} (hq : CqI I lw n m0 m1) (b y : Int) (hb : rg b) (hy : rg y) : KIq X (h + 6) mX11_year [.ref 0, zi b, zi y] I J (fun z A B => z = yeaZ lw (I 7) (I 8) (I 9) (I 10) n m0 m1 b y ∧ QC I lw n A ∧ J = B) := by
  by_cases e : (b = 0 ∨ b = 1) ∧ 0 ≤ y ∧ y ≤ 30
  · obtain ⟨e1, e2⟩ := e
    obtain ⟨k, rfl⟩ : ∃ k : Nat, y = (k : Int) := ⟨y.toNat, by omega⟩
    rcases e1 with rfl | rfl
    · exact year_c0 hq k (by omega)
    · exact year_c1 hq k (by omega)
  · exact year_cn hq.2.2.2.1 b y hb hy e
set_option maxRecDepth 20000 in
set_option maxHeartbeats 400000 in
theorem years_c {X : pX} {I J : IM} {h : Nat} {lw : Lw} {n : Nat} {m0 m1 : Mx} (hq : CqI I lw n m0 m1) (y : Nat) (hy : y ≤ 30) : KIq X (h + 6) mX11_years [.ref 0, zi (y : Int)] I J (fun z A B => z = yesZ lw (I 7) (I 8) (I 9) (I 10) n m0 m1 (y : Int) ∧ QC I lw n A ∧ J = B) := by
  show Rz X (h + 6) mX11_years 0 [some (.ref 0), some (zi (y : Int))] [] I J _
  refine rz_iload_n dX11_years_0 rfl ?_
  refine rz_if_lt (t := 10) dX11_years_1 rfl (by omega) (fun c1 => ?_) (fun c1 => ?_)
  · refine rz_ldc (x := (-2000000000)) dX11_years_10 kk_RX11_187 (by decide) ?_
    refine rz_iret dX11_years_12 rfl ?_
    exfalso; omega
  · refine rz_iload_n dX11_years_4 rfl ?_
    refine rz_bipush dX11_years_5 (by decide) ?_
    refine rz_icmp_le (t := 13) dX11_years_7 rfl (by omega) (by omega) (fun c7 => ?_) (fun c7 => ?_)
    · refine rz_aload_n dX11_years_13 rfl ?_
      refine rz_getR dX11_years_14 kf_RX11_56 hd_0 rfl rr_0_7 ?_
      refine rz_iload_n dX11_years_17 rfl ?_
      refine rz_cVIq dX11_years_18 kl_RX11_282 hd_47 ⟨_, _, rfl⟩ (c_X2_go hq y hy) rfl rfl (Nat.le_of_ble_eq_true rfl) (Nat.le_of_ble_eq_true rfl) ?_
      rintro _ A18 _ ⟨rfl, qc18, hs18, rfl⟩
      refine rz_iret dX11_years_21 rfl ?_
      exact ⟨_, rfl, (if_pos ⟨by omega, by omega⟩).symm, qc18, rfl⟩
    · refine rz_ldc (x := (-2000000000)) dX11_years_10 kk_RX11_187 (by decide) ?_
      refine rz_iret dX11_years_12 rfl ?_
      exfalso; omega
set_option maxRecDepth 20000 in
set_option maxHeartbeats 400000 in
theorem years_cn {X : pX} {I J : IM} {h : Nat} {lw : Lw} {n : Nat} {m0 m1 : Mx} (hc : CchI I lw n) (y : Int) (hy : rg y) (hn : ¬ (0 ≤ y ∧ y ≤ 30)) : KIq X (h + 6) mX11_years [.ref 0, zi y] I J (fun z A B => z = yesZ lw (I 7) (I 8) (I 9) (I 10) n m0 m1 y ∧ QC I lw n A ∧ J = B) := by
  show Rz X (h + 6) mX11_years 0 [some (.ref 0), some (zi y)] [] I J _
  refine rz_iload_n dX11_years_0 rfl ?_
  refine rz_if_lt (t := 10) dX11_years_1 rfl (by omega) (fun c1 => ?_) (fun c1 => ?_)
  · refine rz_ldc (x := (-2000000000)) dX11_years_10 kk_RX11_187 (by decide) ?_
    refine rz_iret dX11_years_12 rfl ?_
    exact ⟨_, rfl, (if_neg (by omega)).symm, QC_refl hc, rfl⟩
  · refine rz_iload_n dX11_years_4 rfl ?_
    refine rz_bipush dX11_years_5 (by decide) ?_
    refine rz_icmp_le (t := 13) dX11_years_7 rfl (by omega) (by omega) (fun c7 => ?_) (fun c7 => ?_)
    · exfalso; omega
    · refine rz_ldc (x := (-2000000000)) dX11_years_10 kk_RX11_187 (by decide) ?_
      refine rz_iret dX11_years_12 rfl ?_
      exact ⟨_, rfl, (if_neg (by omega)).symm, QC_refl hc, rfl⟩
theorem c_X11_years {X : pX} {I J : IM} {h : Nat} {lw : Lw} {n : Nat} {m0 m1 : Mx} (hq : CqI I lw n m0 m1) (y : Int) (hy : rg y) : KIq X (h + 6) mX11_years [.ref 0, zi y] I J (fun z A B => z = yesZ lw (I 7) (I 8) (I 9) (I 10) n m0 m1 y ∧ QC I lw n A ∧ J = B) := by
  by_cases e : 0 ≤ y ∧ y ≤ 30
  · obtain ⟨k, rfl⟩ : ∃ k : Nat, y = (k : Int) := ⟨y.toNat, by omega⟩
    exact years_c hq k (by omega)
  · exact years_cn hq.2.2.2.1 y hy e
