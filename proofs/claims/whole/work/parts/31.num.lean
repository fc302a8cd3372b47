/-! numbers, scores of rows -/
set_option maxRecDepth 20000 in
set_option maxHeartbeats 400000 in
theorem c_X12_numberOf (X : pX) (h : Nat) (I J : IM) (n k : Nat) (hn : I 81 1 = n ∧ n ≤ 5) (hk : 5 * k + n ≤ 10010) : KI X h mX12_numberOf [.ref 81, zi (k : Int)] I J (numP (fun v => I 104 (5 * k + v)) n) I J := by
  show Rz X h mX12_numberOf 0 [some (.ref 81), some (zi (k : Int)), none, none] [] I J _
  refine rz_iconst dX12_numberOf_0 ?_
  refine rz_istore_n dX12_numberOf_1 (by decide) rfl ?_
  refine rz_iconst dX12_numberOf_2 ?_
  refine rz_istore_n dX12_numberOf_3 (by decide) rfl ?_
  refine rz_up (ls := fun q : Nat => [some (.ref 81), some (zi (k : Int)), some (zi (numP (fun v => I 104 (5 * k + v)) q)), some (zi (q : Int))]) (IV := fun q : Nat => I) (JV := fun q : Nat => J) (n) ⟨Or.inr rfl, Or.inr rfl, Or.inr rfl, Or.inr rfl, trivial⟩ (rfl) (rfl) ?_ ?_
  · intro q hq ihq
    refine rz_iload_n dX12_numberOf_4 rfl ?_
    refine rz_aload_n dX12_numberOf_5 rfl ?_
    refine rz_getI (z := (I 81 1)) dX12_numberOf_6 kf_RX12_137 hd_81 rfl rfl ?_
    refine rz_icmp_ge (t := 34) dX12_numberOf_9 rfl (by omega) (by omega) (fun c9 => ?_) (fun c9 => ?_)
    · exfalso; omega
    · refine rz_bipush dX12_numberOf_12 (by decide) ?_
      refine rz_iload_n dX12_numberOf_14 rfl ?_
      refine rz_imul dX12_numberOf_15 ?_
      refine rz_aload_n dX12_numberOf_16 rfl ?_
      refine rz_getR dX12_numberOf_17 kf_RX12_78 hd_81 rfl rr_81_32 ?_
      refine rz_iconst dX12_numberOf_20 ?_
      refine rz_iload_n dX12_numberOf_21 rfl ?_
      refine rz_imul dX12_numberOf_22 ?_
      refine rz_iload_n dX12_numberOf_23 rfl ?_
      refine rz_iadd dX12_numberOf_24 ?_
      refine rz_baldN (k := (5 * k + q)) (z := (I 104 (5 * k + q))) dX12_numberOf_25 hd_104 (by decide) (by omega) (by omega) rfl ?_
      refine rz_iadd dX12_numberOf_26 ?_
      refine rz_istore_n dX12_numberOf_27 (by decide) rfl ?_
      refine rz_iinc dX12_numberOf_28 (by decide) rfl rfl rfl ?_
      refine rz_goto (t := 4) dX12_numberOf_31 rfl ?_
      exact rz_bk ihq ⟨Or.inr rfl, Or.inr rfl, Or.inr rfl, Or.inr rfl, trivial⟩ (rfl) (rfl)
  · skip
    refine rz_iload_n dX12_numberOf_4 rfl ?_
    refine rz_aload_n dX12_numberOf_5 rfl ?_
    refine rz_getI (z := (I 81 1)) dX12_numberOf_6 kf_RX12_137 hd_81 rfl rfl ?_
    refine rz_icmp_ge (t := 34) dX12_numberOf_9 rfl (by omega) (by omega) (fun c9 => ?_) (fun c9 => ?_)
    · refine rz_iload_n dX12_numberOf_34 rfl ?_
      refine rz_iret dX12_numberOf_35 rfl ?_
      exact ⟨_, rfl, rfl, rfl, rfl⟩
    · exfalso; omega
set_option maxRecDepth 20000 in
set_option maxHeartbeats 400000 in
theorem c_X12_numberIn (X : pX) (h : Nat) (I J : IM) (n k a N : Nat) (hn : n ≤ 5) (hh : HD0[a]? = some (1, 1, N)) (hN : N ≤ 100000) (hk : 5 * k + n ≤ N) : KI X h mX12_numberIn [.ref a, zi (k : Int), zi (n : Int)] I J (numP (fun v => I a (5 * k + v)) n) I J := by
  show Rz X h mX12_numberIn 0 [some (.ref a), some (zi (k : Int)), some (zi (n : Int)), none, none] [] I J _
  refine rz_iconst dX12_numberIn_0 ?_
  refine rz_istore_n dX12_numberIn_1 (by decide) rfl ?_
  refine rz_iconst dX12_numberIn_2 ?_
  refine rz_istore dX12_numberIn_3 (by decide) rfl ?_
  refine rz_up (ls := fun q : Nat => [some (.ref a), some (zi (k : Int)), some (zi (n : Int)), some (zi (numP (fun v => I a (5 * k + v)) q)), some (zi (q : Int))]) (IV := fun q : Nat => I) (JV := fun q : Nat => J) (n) ⟨Or.inr rfl, Or.inr rfl, Or.inr rfl, Or.inr rfl, Or.inr rfl, trivial⟩ (rfl) (rfl) ?_ ?_
  · intro q hq ihq
    refine rz_iload dX12_numberIn_5 rfl ?_
    refine rz_iload_n dX12_numberIn_7 rfl ?_
    refine rz_icmp_ge (t := 31) dX12_numberIn_8 rfl (by omega) (by omega) (fun c8 => ?_) (fun c8 => ?_)
    · exfalso; omega
    · refine rz_bipush dX12_numberIn_11 (by decide) ?_
      refine rz_iload_n dX12_numberIn_13 rfl ?_
      refine rz_imul dX12_numberIn_14 ?_
      refine rz_aload_n dX12_numberIn_15 rfl ?_
      refine rz_iconst dX12_numberIn_16 ?_
      refine rz_iload_n dX12_numberIn_17 rfl ?_
      refine rz_imul dX12_numberIn_18 ?_
      refine rz_iload dX12_numberIn_19 rfl ?_
      refine rz_iadd dX12_numberIn_21 ?_
      refine rz_baldN (k := (5 * k + q)) (z := (I a (5 * k + q))) dX12_numberIn_22 hh hN (by omega) (by omega) rfl ?_
      refine rz_iadd dX12_numberIn_23 ?_
      refine rz_istore_n dX12_numberIn_24 (by decide) rfl ?_
      refine rz_iinc dX12_numberIn_25 (by decide) rfl rfl rfl ?_
      refine rz_goto (t := 5) dX12_numberIn_28 rfl ?_
      exact rz_bk ihq ⟨Or.inr rfl, Or.inr rfl, Or.inr rfl, Or.inr rfl, Or.inr rfl, trivial⟩ (rfl) (rfl)
  · skip
    refine rz_iload dX12_numberIn_5 rfl ?_
    refine rz_iload_n dX12_numberIn_7 rfl ?_
    refine rz_icmp_ge (t := 31) dX12_numberIn_8 rfl (by omega) (by omega) (fun c8 => ?_) (fun c8 => ?_)
    · refine rz_iload_n dX12_numberIn_31 rfl ?_
      refine rz_iret dX12_numberIn_32 rfl ?_
      exact ⟨_, rfl, rfl, rfl, rfl⟩
    · exfalso; omega
def cusZ (t u a b : Int) : Int := if a < t ∧ b < t then 0 else if a ≠ b then (if b < a then 1 else -1) else if u = 0 then 1 else if u = 1 then -1 else 0
set_option maxRecDepth 20000 in
set_option maxHeartbeats 400000 in
theorem c_X8_custom (X : pX) (h : Nat) (I J : IM) (v : Nat) (a b : Int) (hv : v < 5) (ha : rg a) (hb : rg b) (ht : rg (I 8 v)) (hu : rg (I 9 v)) : KI X (h + 1) mX8_custom [.ref 6, zi (v : Int), zi a, zi b] I J (cusZ (I 8 v) (I 9 v) a b) I J := by
  show Rz X (h + 1) mX8_custom 0 [some (.ref 6), some (zi (v : Int)), some (zi a), some (zi b)] [] I J _
  refine rz_iload_n dX8_custom_0 rfl ?_
  refine rz_iload_n dX8_custom_1 rfl ?_
  refine rz_mmax dX8_custom_2 kl_RX8_67 (Nat.le_of_ble_eq_true rfl) (by omega) (by omega) ?_
  refine rz_aload_n dX8_custom_5 rfl ?_
  refine rz_getR dX8_custom_6 kf_RX8_15 hd_6 rfl rr_6_2 ?_
  refine rz_iload_n dX8_custom_9 rfl ?_
  refine rz_ialdN (k := v) (z := (I 8 v)) dX8_custom_10 hd_8 (by decide) (by omega) (by omega) rfl ?_
  refine rz_icmp_ge (t := 16) dX8_custom_11 rfl (by omega) (by omega) (fun c11 => ?_) (fun c11 => ?_)
  · refine rz_iload_n dX8_custom_16 rfl ?_
    refine rz_iload_n dX8_custom_17 rfl ?_
    refine rz_icmp_eq (t := 32) dX8_custom_18 rfl (by omega) (by omega) (fun c18 => ?_) (fun c18 => ?_)
    · refine rz_aload_n dX8_custom_32 rfl ?_
      refine rz_getR dX8_custom_33 kf_RX8_18 hd_6 rfl rr_6_3 ?_
      refine rz_iload_n dX8_custom_36 rfl ?_
      refine rz_ialdN (k := v) (z := (I 9 v)) dX8_custom_37 hd_9 (by decide) (by omega) (by omega) rfl ?_
      refine rz_if_ne (t := 45) dX8_custom_38 rfl (by omega) (fun c38 => ?_) (fun c38 => ?_)
      · refine rz_aload_n dX8_custom_45 rfl ?_
        refine rz_getR dX8_custom_46 kf_RX8_18 hd_6 rfl rr_6_3 ?_
        refine rz_iload_n dX8_custom_49 rfl ?_
        refine rz_ialdN (k := v) (z := (I 9 v)) dX8_custom_50 hd_9 (by decide) (by omega) (by omega) rfl ?_
        refine rz_iconst dX8_custom_51 ?_
        refine rz_icmp_ne (t := 59) dX8_custom_52 rfl (by omega) (by omega) (fun c52 => ?_) (fun c52 => ?_)
        · refine rz_iconst dX8_custom_59 ?_
          refine rz_iret dX8_custom_60 rfl ?_
          exact ⟨_, rfl, by unfold cusZ; (repeat' split) <;> first | rfl | omega, rfl, rfl⟩
        · refine rz_iconst dX8_custom_55 ?_
          refine rz_goto (t := 60) dX8_custom_56 rfl ?_
          refine rz_iret dX8_custom_60 rfl ?_
          exact ⟨_, rfl, by unfold cusZ; (repeat' split) <;> first | rfl | omega, rfl, rfl⟩
      · refine rz_iconst dX8_custom_41 ?_
        refine rz_goto (t := 60) dX8_custom_42 rfl ?_
        refine rz_iret dX8_custom_60 rfl ?_
        exact ⟨_, rfl, by unfold cusZ; (repeat' split) <;> first | rfl | omega, rfl, rfl⟩
    · refine rz_iload_n dX8_custom_21 rfl ?_
      refine rz_iload_n dX8_custom_22 rfl ?_
      refine rz_icmp_le (t := 30) dX8_custom_23 rfl (by omega) (by omega) (fun c23 => ?_) (fun c23 => ?_)
      · refine rz_iconst dX8_custom_30 ?_
        refine rz_iret dX8_custom_31 rfl ?_
        exact ⟨_, rfl, by unfold cusZ; (repeat' split) <;> first | rfl | omega, rfl, rfl⟩
      · refine rz_iconst dX8_custom_26 ?_
        refine rz_goto (t := 31) dX8_custom_27 rfl ?_
        refine rz_iret dX8_custom_31 rfl ?_
        exact ⟨_, rfl, by unfold cusZ; (repeat' split) <;> first | rfl | omega, rfl, rfl⟩
  · refine rz_iconst dX8_custom_14 ?_
    refine rz_iret dX8_custom_15 rfl ?_
    exact ⟨_, rfl, by unfold cusZ; (repeat' split) <;> first | rfl | omega, rfl, rfl⟩
abbrev scoF (I : IM) (a b : Nat) : Nat → Int := fun v => I 11 (100 * v + 10 * (I a v).toNat + (I b v).toNat)
set_option maxRecDepth 20000 in
set_option maxHeartbeats 400000 in
theorem c_scoreOf (X : pX) (h : Nat) (I J : IM) (n a b : Nat) (hn : I 6 0 = n ∧ n ≤ 5) (hha : HD0[a]? = some (1, 0, 5)) (hhb : HD0[b]? = some (1, 0, 5)) (hd : ∀ v, v < n → (0 ≤ I a v ∧ I a v ≤ 9) ∧ 0 ≤ I b v ∧ I b v ≤ 9) : KI X h mX8_scoreOf [.ref 6, .ref a, .ref b] I J (sumP (scoF I a b) n) I J := by
  show Rz X h mX8_scoreOf 0 [some (.ref 6), some (.ref a), some (.ref b), none, none] [] I J _
  refine rz_iconst dX8_scoreOf_0 ?_
  refine rz_istore_n dX8_scoreOf_1 (by decide) rfl ?_
  refine rz_iconst dX8_scoreOf_2 ?_
  refine rz_istore dX8_scoreOf_3 (by decide) rfl ?_
  refine rz_up (ls := fun q : Nat => [some (.ref 6), some (.ref a), some (.ref b), some (zi (sumP (scoF I a b) q)), some (zi (q : Int))]) (IV := fun q : Nat => I) (JV := fun q : Nat => J) (n) ⟨Or.inr rfl, Or.inr rfl, Or.inr rfl, Or.inr rfl, Or.inr rfl, trivial⟩ (rfl) (rfl) ?_ ?_
  · intro q hq ihq
    have h9 := hd q hq
    refine rz_iload dX8_scoreOf_5 rfl ?_
    refine rz_aload_n dX8_scoreOf_7 rfl ?_
    refine rz_getI (z := (I 6 0)) dX8_scoreOf_8 kf_RX8_35 hd_6 rfl rfl ?_
    refine rz_icmp_ge (t := 46) dX8_scoreOf_11 rfl (by omega) (by omega) (fun c11 => ?_) (fun c11 => ?_)
    · exfalso; omega
    · refine rz_iload_n dX8_scoreOf_14 rfl ?_
      refine rz_aload_n dX8_scoreOf_15 rfl ?_
      refine rz_getR dX8_scoreOf_16 kf_RX8_24 hd_6 rfl rr_6_5 ?_
      refine rz_iload dX8_scoreOf_19 rfl ?_
      refine rz_bipush dX8_scoreOf_21 (by decide) ?_
      refine rz_imul dX8_scoreOf_23 ?_
      refine rz_aload_n dX8_scoreOf_24 rfl ?_
      refine rz_iload dX8_scoreOf_25 rfl ?_
      refine rz_ialdN (k := q) (z := (I a q)) dX8_scoreOf_27 hha (by decide) (by omega) (by omega) rfl ?_
      refine rz_bipush dX8_scoreOf_28 (by decide) ?_
      refine rz_imul dX8_scoreOf_30 ?_
      refine rz_iadd dX8_scoreOf_31 ?_
      refine rz_aload_n dX8_scoreOf_32 rfl ?_
      refine rz_iload dX8_scoreOf_33 rfl ?_
      refine rz_ialdN (k := q) (z := (I b q)) dX8_scoreOf_35 hhb (by decide) (by omega) (by omega) rfl ?_
      refine rz_iadd dX8_scoreOf_36 ?_
      refine rz_ialdN (k := (100 * q + 10 * (I a q).toNat + (I b q).toNat)) (z := (I 11 (100 * q + 10 * (I a q).toNat + (I b q).toNat))) dX8_scoreOf_37 hd_11 (by decide) (by omega) (by omega) rfl ?_
      refine rz_iadd dX8_scoreOf_38 ?_
      refine rz_istore_n dX8_scoreOf_39 (by decide) rfl ?_
      refine rz_iinc dX8_scoreOf_40 (by decide) rfl rfl rfl ?_
      refine rz_goto (t := 5) dX8_scoreOf_43 rfl ?_
      exact rz_bk ihq ⟨Or.inr rfl, Or.inr rfl, Or.inr rfl, Or.inr rfl, Or.inr rfl, trivial⟩ (rfl) (rfl)
  · skip
    refine rz_iload dX8_scoreOf_5 rfl ?_
    refine rz_aload_n dX8_scoreOf_7 rfl ?_
    refine rz_getI (z := (I 6 0)) dX8_scoreOf_8 kf_RX8_35 hd_6 rfl rfl ?_
    refine rz_icmp_ge (t := 46) dX8_scoreOf_11 rfl (by omega) (by omega) (fun c11 => ?_) (fun c11 => ?_)
    · refine rz_iload_n dX8_scoreOf_46 rfl ?_
      refine rz_iret dX8_scoreOf_47 rfl ?_
      exact ⟨_, rfl, rfl, rfl, rfl⟩
    · exfalso; omega
set_option maxRecDepth 20000 in
set_option maxHeartbeats 400000 in
theorem c_X12_valueOf (X : pX) (h : Nat) (I J : IM) (v a b : Nat) (hv : v < 5) (ha : a ≤ 9) (hb : b ≤ 9) : KI X h mX12_valueOf [.ref 81, zi (v : Int), zi (a : Int), zi (b : Int)] I J (I 82 v * I 102 (100 * v + 10 * a + b)) I J := by
  show Rz X h mX12_valueOf 0 [some (.ref 81), some (zi (v : Int)), some (zi (a : Int)), some (zi (b : Int))] [] I J _
  refine rz_aload_n dX12_valueOf_0 rfl ?_
  refine rz_getR dX12_valueOf_1 kf_RX12_7 hd_81 rfl rr_81_2 ?_
  refine rz_iload_n dX12_valueOf_4 rfl ?_
  refine rz_ialdN (k := v) (z := (I 82 v)) dX12_valueOf_5 hd_82 (by decide) (by omega) (by omega) rfl ?_
  refine rz_aload_n dX12_valueOf_6 rfl ?_
  refine rz_getR dX12_valueOf_7 kf_RX12_72 hd_81 rfl rr_81_30 ?_
  refine rz_bipush dX12_valueOf_10 (by decide) ?_
  refine rz_iload_n dX12_valueOf_12 rfl ?_
  refine rz_imul dX12_valueOf_13 ?_
  refine rz_bipush dX12_valueOf_14 (by decide) ?_
  refine rz_iload_n dX12_valueOf_16 rfl ?_
  refine rz_imul dX12_valueOf_17 ?_
  refine rz_iadd dX12_valueOf_18 ?_
  refine rz_iload_n dX12_valueOf_19 rfl ?_
  refine rz_iadd dX12_valueOf_20 ?_
  refine rz_bald (z := (I 102 ((((100 * (v : Int)) + (10 * (a : Int))) + (b : Int))).toNat)) dX12_valueOf_21 hd_102 (by decide) (by omega) rfl ?_
  refine rz_imul dX12_valueOf_22 ?_
  refine rz_iret dX12_valueOf_23 rfl ?_
  exact ⟨_, rfl, rfl, rfl, rfl⟩
set_option maxRecDepth 20000 in
set_option maxHeartbeats 400000 in
theorem c_X8_forget (X : pX) (h : Nat) (I J : IM)  : KV X h mX8_forget [.ref 6] I J (fillM I 12 5 0) J := by
  show Rz X h mX8_forget 0 [some (.ref 6), none] [] I J _
  refine rz_iconst dX8_forget_0 ?_
  refine rz_istore_n dX8_forget_1 (by decide) rfl ?_
  refine rz_up (ls := fun q : Nat => [some (.ref 6), some (zi (q : Int))]) (IV := fun q : Nat => (fillM I 12 q 0)) (JV := fun q : Nat => J) (5) ⟨Or.inr rfl, Or.inr rfl, trivial⟩ (fillM_0) (rfl) ?_ ?_
  · intro q hq ihq
    refine rz_iload_n dX8_forget_2 rfl ?_
    refine rz_iconst dX8_forget_3 ?_
    refine rz_icmp_ge (t := 20) dX8_forget_4 rfl (by omega) (by omega) (fun c4 => ?_) (fun c4 => ?_)
    · exfalso; omega
    · refine rz_aload_n dX8_forget_7 rfl ?_
      refine rz_getR dX8_forget_8 kf_RX8_27 hd_6 rfl rr_6_6 ?_
      refine rz_iload_n dX8_forget_11 rfl ?_
      refine rz_iconst dX8_forget_12 ?_
      refine rz_zastN (k := q) dX8_forget_13 hd_12 (by decide) (by omega) (by omega) (by omega) ?_
      refine rz_iinc dX8_forget_14 (by decide) rfl rfl rfl ?_
      refine rz_goto (t := 2) dX8_forget_17 rfl ?_
      exact rz_bk ihq ⟨Or.inr rfl, Or.inr rfl, trivial⟩ (fillM_step.symm) (rfl)
  · skip
    refine rz_iload_n dX8_forget_2 rfl ?_
    refine rz_iconst dX8_forget_3 ?_
    refine rz_icmp_ge (t := 20) dX8_forget_4 rfl (by omega) (by omega) (fun c4 => ?_) (fun c4 => ?_)
    · refine rz_vret dX8_forget_20 rfl ?_
      exact ⟨rfl, rfl, rfl⟩
    · exfalso; omega
