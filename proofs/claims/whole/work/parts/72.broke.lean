/-! means with broken carts -/
theorem mulN {a b : Int} {A B : Nat} (ha : a.natAbs ≤ A) (hb : b.natAbs ≤ B) : (a * b).natAbs ≤ A * B := by
  rw [Int.natAbs_mul]; exact Nat.mul_le_mul ha hb
abbrev tdF (lw : Lw) (W T U : Nat → Int) (m0 m1 : Mx) (c : Int) (i j : Nat) : Nat → Int := fun v => (12 - c) * ptsV lw W T U v (loS m0 i v) (loS m1 j v) + c * ptsV lw W T U v 0 (loS m1 j v)
abbrev wwF (lw : Lw) (W T U : Nat → Int) (n : Nat) (m0 m1 : Mx) (c : Int) (i : Nat) : Nat → Int := fun j => wtS m0 i * wtS m1 j * sumP (tdF lw W T U m0 m1 c i j) n
abbrev brF (lw : Lw) (W T U : Nat → Int) (n : Nat) (m0 m1 : Mx) (c : Int) : Nat → Int := fun i => sumP (wwF lw W T U n m0 m1 c i) (lnN m1)
def broS (lw : Lw) (W T U : Nat → Int) (n : Nat) (m0 m1 : Mx) (c : Int) : Int := sumP (brF lw W T U n m0 m1 c) (lnN m0)
def broZ (lw : Lw) (W T U : Nat → Int) (n : Nat) (m0 m1 : Mx) (c p : Int) : Int := if (0 ≤ c ∧ c ≤ 12) ∧ (p = 0 ∨ p = 1) then lowQ (broS lw W T U n m0 m1 c) (12 * whS m0 * whS m1) p else -9223372036854775808
theorem sumP_mul {w : Int} {f : Nat → Int} : ∀ n, sumP (fun v => w * f v) n = w * sumP f n
  | 0 => by simp [sumP]
  | n + 1 => by simp only [sumP]; rw [sumP_mul n, Int.mul_add]
theorem td_bd {lw : Lw} {W T U : Nat → Int} {m0 m1 : Mx} {c : Int} {i j v : Nat} (hc : 0 ≤ c ∧ c ≤ 12) (hW : 0 ≤ W v ∧ W v ≤ 9) : -216 ≤ tdF lw W T U m0 m1 c i j v ∧ tdF lw W T U m0 m1 c i j v ≤ 216 := by
  have h1 := pts_rg (lw := lw) (T := T) (U := U) (a := loS m0 i v) (b := loS m1 j v) hW
  have h2 := pts_rg (lw := lw) (T := T) (U := U) (a := 0) (b := loS m1 j v) hW
  have h3 := mulN (a := 12 - c) (b := ptsV lw W T U v (loS m0 i v) (loS m1 j v)) (A := 12) (B := 9) (by omega) (by omega)
  have h4 := mulN (a := c) (b := ptsV lw W T U v 0 (loS m1 j v)) (A := 12) (B := 9) (by omega) (by omega)
  show -216 ≤ (12 - c) * ptsV lw W T U v (loS m0 i v) (loS m1 j v) + c * ptsV lw W T U v 0 (loS m1 j v) ∧ (12 - c) * ptsV lw W T U v (loS m0 i v) (loS m1 j v) + c * ptsV lw W T U v 0 (loS m1 j v) ≤ 216
  omega
theorem tds_bd {lw : Lw} {W T U : Nat → Int} {n k : Nat} {m0 m1 : Mx} {c : Int} {i j : Nat} (hn : n ≤ 5) (hk : k ≤ n) (hc : 0 ≤ c ∧ c ≤ 12) (hW : ∀ v, v < n → 0 ≤ W v ∧ W v ≤ 9) : -1080 ≤ sumP (tdF lw W T U m0 m1 c i j) k ∧ sumP (tdF lw W T U m0 m1 c i j) k ≤ 1080 := by
  have := sumP_bd (f := tdF lw W T U m0 m1 c i j) (n := k) (b := 216) (fun v hv => td_bd hc (hW v (by omega)))
  omega
theorem ww_rg {m0 m1 : Mx} {i j : Nat} (h0 : MxOK m0) (h1 : MxOK m1) (hi : i < lnN m0) (hj : j < lnN m1) : 0 ≤ wtS m0 i * wtS m1 j ∧ wtS m0 i * wtS m1 j ≤ 81 := by
  have a := wtS_rg h0 hi
  have b := wtS_rg h1 hj
  have h := mulN (a := wtS m0 i) (b := wtS m1 j) (A := 9) (B := 9) (by omega) (by omega)
  have p : 0 ≤ wtS m0 i * wtS m1 j := Int.mul_nonneg (by omega) (by omega)
  omega
theorem bro_bd {lw : Lw} {W T U : Nat → Int} {n : Nat} {m0 m1 : Mx} {c : Int} (hn : n ≤ 5) (hc : 0 ≤ c ∧ c ≤ 12) (hW : ∀ v, v < n → 0 ≤ W v ∧ W v ≤ 9) (h0 : MxOK m0) (h1 : MxOK m1) : -1000000000 ≤ broS lw W T U n m0 m1 c ∧ broS lw W T U n m0 m1 c ≤ 1000000000 := by
  have l0 := lnN_le h0.1
  have l1 := lnN_le h1.1
  have key : ∀ i, i < lnN m0 → -699840 ≤ brF lw W T U n m0 m1 c i ∧ brF lw W T U n m0 m1 c i ≤ 699840 := fun i hi => by
    have := sumP_bd (f := wwF lw W T U n m0 m1 c i) (n := lnN m1) (b := 87480) (fun j hj => by
      have a := ww_rg h0 h1 hi hj
      have b := tds_bd (lw := lw) (T := T) (U := U) (m0 := m0) (m1 := m1) (i := i) (j := j) hn (Nat.le_refl n) hc hW
      have h := mulN (a := wtS m0 i * wtS m1 j) (b := sumP (tdF lw W T U m0 m1 c i j) n) (A := 81) (B := 1080) (by omega) (by omega)
      show -87480 ≤ wtS m0 i * wtS m1 j * sumP (tdF lw W T U m0 m1 c i j) n ∧ wtS m0 i * wtS m1 j * sumP (tdF lw W T U m0 m1 c i j) n ≤ 87480
      omega)
    show -699840 ≤ sumP (wwF lw W T U n m0 m1 c i) (lnN m1) ∧ sumP (wwF lw W T U n m0 m1 c i) (lnN m1) ≤ 699840
    omega
  have := sumP_bd (f := brF lw W T U n m0 m1 c) (n := lnN m0) (b := 699840) key
  unfold broS
  omega
theorem wh12 {m0 m1 : Mx} (h0 : MxOK m0) (h1 : MxOK m1) : (0 < 12 * whS m0 * whS m1 ∧ 12 * whS m0 * whS m1 ≤ 1000000000) := by
  have a := whS_rg h0
  have b := whS_rg h1
  have h := mulN (a := 12 * whS m0) (b := whS m1) (A := 864) (B := 72) (by omega) (by omega)
  have p : 0 < 12 * whS m0 * whS m1 := Int.mul_pos (by omega) (by omega)
  omega
set_option maxRecDepth 20000 in
set_option maxHeartbeats 400000 in
theorem c_X9_twelveDays {X : pX} {I J : IM} {h : Nat} {lw : Lw} (n : Nat) (hn : I 6 0 = n ∧ n ≤ 5) {m0 m1 : Mx} (hm0 : MixC I 14 m0) (hm1 : MixC I 17 m1) (hP : PtsOK I lw n) (i j : Nat) (c : Int) (hi : i < lnN m0) (hj : j < lnN m1) : KI X (h + 1) mX9_twelveDays [.ref 27, zi (i : Int), zi (j : Int), zi c] I J (sumP (tdF lw (I 7) (I 8) (I 9) m0 m1 c i j) n) I J := by
  have hmo0 := MixC_ok hm0
  have hmo1 := MixC_ok hm1
  have hi8 := lnN_le hmo0.1
  have hj8 := lnN_le hmo1.1
  show Rz X (h + 1) mX9_twelveDays 0 [some (.ref 27), some (zi (i : Int)), some (zi (j : Int)), some (zi c), none, none, none] [] I J _
  refine rz_iconst dX9_twelveDays_0 ?_
  refine rz_istore dX9_twelveDays_1 (by decide) rfl ?_
  refine rz_iconst dX9_twelveDays_3 ?_
  refine rz_istore dX9_twelveDays_4 (by decide) rfl ?_
  refine rz_up (ls := fun v : Nat => [some (.ref 27), some (zi (i : Int)), some (zi (j : Int)), some (zi c), some (zi (sumP (tdF lw (I 7) (I 8) (I 9) m0 m1 c i j) v)), some (zi (v : Int)), none]) (IV := fun v : Nat => I) (JV := fun v : Nat => J) (n) ⟨Or.inr rfl, Or.inr rfl, Or.inr rfl, Or.inr rfl, Or.inr rfl, Or.inr rfl, Or.inl rfl, trivial⟩ (rfl) (rfl) ?_ ?_
  · intro v hv ihv
    have ha9 := loS_rg hmo0 hi (show v < 5 by omega)
    have hb9 := loS_rg hmo1 hj (show v < 5 by omega)
    refine rz_iload dX9_twelveDays_6 rfl ?_
    refine rz_aload_n dX9_twelveDays_8 rfl ?_
    refine rz_getR dX9_twelveDays_9 kf_RX9_9 hd_27 rfl rr_27_0 ?_
    refine rz_getI (z := (n : Int)) dX9_twelveDays_12 kf_RX9_39 hd_6 rfl (hn.1) ?_
    refine rz_icmp_ge (t := 97) dX9_twelveDays_15 rfl (by omega) (by omega) (fun c15 => ?_) (fun c15 => ?_)
    · exfalso; omega
    · refine rz_iload dX9_twelveDays_18 rfl ?_
      refine rz_bipush dX9_twelveDays_20 (by decide) ?_
      refine rz_imul dX9_twelveDays_22 ?_
      refine rz_aload_n dX9_twelveDays_23 rfl ?_
      refine rz_getR dX9_twelveDays_24 kf_RX9_15 hd_27 rfl rr_27_1 ?_
      refine rz_iconst dX9_twelveDays_27 ?_
      refine rz_aald (by decide) dX9_twelveDays_28 hd_13 (by decide) (by decide) rr_13_1 ?_
      refine rz_iload_n dX9_twelveDays_29 rfl ?_
      refine rz_iload dX9_twelveDays_30 rfl ?_
      refine rz_cVI dX9_twelveDays_32 kl_RX9_77 hd_17 ⟨_, _, rfl⟩ (c_loavesAt17 X _ I J j v (MixC_ln hm1).1 (by omega) (by omega)) rfl rfl (Nat.le_of_ble_eq_true rfl) (Nat.le_of_ble_eq_true rfl) ?_
      refine rz_ieq (y := ((loS m1 j v : Nat) : Int)) (MixC_lo hm1 hj (by omega)).symm ?_
      refine rz_iadd dX9_twelveDays_35 ?_
      refine rz_istore dX9_twelveDays_36 (by decide) rfl ?_
      refine rz_iload dX9_twelveDays_38 rfl ?_
      refine rz_bipush dX9_twelveDays_40 (by decide) ?_
      refine rz_iload_n dX9_twelveDays_42 rfl ?_
      refine rz_isub dX9_twelveDays_43 ?_
      refine rz_aload_n dX9_twelveDays_44 rfl ?_
      refine rz_getR dX9_twelveDays_45 kf_RX9_9 hd_27 rfl rr_27_0 ?_
      refine rz_getR dX9_twelveDays_48 kf_RX9_80 hd_6 rfl rr_6_5 ?_
      refine rz_iload dX9_twelveDays_51 rfl ?_
      refine rz_bipush dX9_twelveDays_53 (by decide) ?_
      refine rz_aload_n dX9_twelveDays_55 rfl ?_
      refine rz_getR dX9_twelveDays_56 kf_RX9_15 hd_27 rfl rr_27_1 ?_
      refine rz_iconst dX9_twelveDays_59 ?_
      refine rz_aald (by decide) dX9_twelveDays_60 hd_13 (by decide) (by decide) rr_13_0 ?_
      refine rz_iload_n dX9_twelveDays_61 rfl ?_
      refine rz_iload dX9_twelveDays_62 rfl ?_
      refine rz_cVI dX9_twelveDays_64 kl_RX9_77 hd_14 ⟨_, _, rfl⟩ (c_loavesAt14 X _ I J i v (MixC_ln hm0).1 (by omega) (by omega)) rfl rfl (Nat.le_of_ble_eq_true rfl) (Nat.le_of_ble_eq_true rfl) ?_
      refine rz_ieq (y := ((loS m0 i v : Nat) : Int)) (MixC_lo hm0 hi (by omega)).symm ?_
      refine rz_imul dX9_twelveDays_67 ?_
      refine rz_iadd dX9_twelveDays_68 ?_
      refine rz_ialdN (k := (100 * v + 10 * loS m0 i v + loS m1 j v)) (z := (ptsV lw (I 7) (I 8) (I 9) v (loS m0 i v) (loS m1 j v))) dX9_twelveDays_69 hd_11 (by decide) (by omega) (by omega) (hP v hv _ _ ha9 hb9) ?_
      refine rz_imul dX9_twelveDays_70 ?_
      refine rz_iadd dX9_twelveDays_71 ?_
      refine rz_istore dX9_twelveDays_72 (by decide) rfl ?_
      refine rz_iload dX9_twelveDays_74 rfl ?_
      refine rz_iload_n dX9_twelveDays_76 rfl ?_
      refine rz_aload_n dX9_twelveDays_77 rfl ?_
      refine rz_getR dX9_twelveDays_78 kf_RX9_9 hd_27 rfl rr_27_0 ?_
      refine rz_getR dX9_twelveDays_81 kf_RX9_80 hd_6 rfl rr_6_5 ?_
      refine rz_iload dX9_twelveDays_84 rfl ?_
      refine rz_ialdN (k := (100 * v + loS m1 j v)) (z := (ptsV lw (I 7) (I 8) (I 9) v 0 (loS m1 j v))) dX9_twelveDays_86 hd_11 (by decide) (by omega) (by omega) (by have := hP v hv 0 _ (by omega) hb9; rw [Nat.mul_zero, Nat.add_zero] at this; exact this) ?_
      refine rz_imul dX9_twelveDays_87 ?_
      refine rz_iadd dX9_twelveDays_88 ?_
      refine rz_istore (ls' := [some (.ref 27), some (zi (i : Int)), some (zi (j : Int)), some (zi c), some (zi (((sumP (tdF lw (I 7) (I 8) (I 9) m0 m1 c i j) v) + ((12 - c) * (ptsV lw (I 7) (I 8) (I 9) v (loS m0 i v) (loS m1 j v)))) + (c * (ptsV lw (I 7) (I 8) (I 9) v 0 (loS m1 j v))))), some (zi (v : Int)), some (zi (((v : Int) * 100) + ((loS m1 j v : Nat) : Int)))]) dX9_twelveDays_89 (by decide) rfl ?_
      refine rz_iinc dX9_twelveDays_91 (by decide) rfl rfl rfl ?_
      refine rz_goto (t := 6) dX9_twelveDays_94 rfl ?_
      exact rz_bk ihv ⟨Or.inr rfl, Or.inr rfl, Or.inr rfl, Or.inr rfl, Or.inr (congrArg (fun z => some (zi z)) (by exact (Int.add_assoc _ _ _).symm)), Or.inr rfl, Or.inl rfl, trivial⟩ (rfl) (rfl)
  · skip
    refine rz_iload dX9_twelveDays_6 rfl ?_
    refine rz_aload_n dX9_twelveDays_8 rfl ?_
    refine rz_getR dX9_twelveDays_9 kf_RX9_9 hd_27 rfl rr_27_0 ?_
    refine rz_getI (z := (n : Int)) dX9_twelveDays_12 kf_RX9_39 hd_6 rfl (hn.1) ?_
    refine rz_icmp_ge (t := 97) dX9_twelveDays_15 rfl (by omega) (by omega) (fun c15 => ?_) (fun c15 => ?_)
    · refine rz_iload dX9_twelveDays_97 rfl ?_
      refine rz_iret dX9_twelveDays_99 rfl ?_
      exact ⟨_, rfl, rfl, rfl, rfl⟩
    · exfalso; omega
set_option maxRecDepth 20000 in
set_option maxHeartbeats 400000 in
theorem c_X9_weighted {X : pX} {I J : IM} {h : Nat} {lw : Lw} {n : Nat} {m0 m1 : Mx} (hq : CqI I lw n m0 m1) (c : Int) (hc : 0 ≤ c ∧ c ≤ 12) : KLq X (h + 5) mX9_weighted [.ref 27, zi c] I J (fun z A Bj => z = broS lw (I 7) (I 8) (I 9) n m0 m1 c ∧ QC I lw n A ∧ J = Bj) := by
  obtain ⟨h1, h2, h3, h4, h5, h6, h7⟩ := hq
  show Rz X (h + 5) mX9_weighted 0 [some (.ref 27), some (zi c), none, none, none, none] [] I J _
  refine rz_aload_n dX9_weighted_0 rfl ?_
  refine rz_getR dX9_weighted_1 kf_RX9_9 hd_27 rfl rr_27_0 ?_
  refine rz_cVVq dX9_weighted_4 kl_RX9_51 hd_6 ⟨_, _, rfl⟩ (c_X8_settle lw h1 n h2 h3 h4) rfl rfl (Nat.le_of_ble_eq_true rfl) (Nat.le_of_ble_eq_true rfl) ?_
  rintro B _ ⟨hB, rfl⟩
  obtain ⟨hf1, hf2⟩ := SetQ_fr hB
  have hm0 : MixC B 14 m0 := MixC_of (hf1 14 (by decide) (by decide) (by decide) (by decide)) (hf1 15 (by decide) (by decide) (by decide) (by decide)) (hf1 16 (by decide) (by decide) (by decide) (by decide)) h5
  have hm1 : MixC B 17 m1 := MixC_of (hf1 17 (by decide) (by decide) (by decide) (by decide)) (hf1 18 (by decide) (by decide) (by decide) (by decide)) (hf1 19 (by decide) (by decide) (by decide) (by decide)) h6
  have hnB : B 6 0 = n ∧ n ≤ 5 := ⟨by rw [hf1 6 (by decide) (by decide) (by decide) (by decide)]; exact h2.1, h2.2⟩
  have hPB := SetQ_pts hB
  have e7 := hf1 7 (by decide) (by decide) (by decide) (by decide)
  have e8 := hf1 8 (by decide) (by decide) (by decide) (by decide)
  have e9 := hf1 9 (by decide) (by decide) (by decide) (by decide)
  have hmo0 := MixC_ok hm0
  have hmo1 := MixC_ok hm1
  have hi8 := lnN_le hmo0.1
  have hj8 := lnN_le hmo1.1
  rw [← e7, ← e8, ← e9]
  refine rz_lconst (x := 0) dX9_weighted_7 rfl ?_
  refine rz_lstore_n dX9_weighted_8 (by decide) rfl ?_
  refine rz_iconst dX9_weighted_9 ?_
  refine rz_istore dX9_weighted_10 (by decide) rfl ?_
  refine rz_up (ls := fun i : Nat => [some (.ref 27), some (zi c), some (zl (sumP (brF lw (B 7) (B 8) (B 9) n m0 m1 c) i)), none, some (zi (i : Int)), none]) (IV := fun i : Nat => B) (JV := fun i : Nat => J) ((lnN m0)) ⟨Or.inr rfl, Or.inr rfl, Or.inr rfl, Or.inl rfl, Or.inr rfl, Or.inl rfl, trivial⟩ (rfl) (rfl) ?_ ?_
  · intro i hi ihi
    refine rz_iload dX9_weighted_12 rfl ?_
    refine rz_aload_n dX9_weighted_14 rfl ?_
    refine rz_getR dX9_weighted_15 kf_RX9_15 hd_27 rfl rr_27_1 ?_
    refine rz_iconst dX9_weighted_18 ?_
    refine rz_aald (by decide) dX9_weighted_19 hd_13 (by decide) (by decide) rr_13_0 ?_
    refine rz_cVI dX9_weighted_20 kl_RX9_63 hd_14 ⟨_, _, rfl⟩ (c_lines14 X _ B J (MixC_ln hm0).1) rfl rfl (Nat.le_of_ble_eq_true rfl) (Nat.le_of_ble_eq_true rfl) ?_
    refine rz_ieq (y := (lnN m0 : Int)) (MixC_ln hm0).2.symm ?_
    refine rz_icmp_ge (t := 94) dX9_weighted_23 rfl (by omega) (by omega) (fun c23 => ?_) (fun c23 => ?_)
    · exfalso; omega
    · refine rz_iconst dX9_weighted_26 ?_
      refine rz_istore dX9_weighted_27 (by decide) rfl ?_
      refine rz_up (ls := fun j : Nat => [some (.ref 27), some (zi c), some (zl (sumP (brF lw (B 7) (B 8) (B 9) n m0 m1 c) i + sumP (wwF lw (B 7) (B 8) (B 9) n m0 m1 c i) j)), none, some (zi (i : Int)), some (zi (j : Int))]) (IV := fun j : Nat => B) (JV := fun j : Nat => J) ((lnN m1)) ⟨Or.inr rfl, Or.inr rfl, Or.inr (congrArg (fun z => some (zl z)) (Int.add_zero _)), Or.inl rfl, Or.inr rfl, Or.inr rfl, trivial⟩ (rfl) (rfl) ?_ ?_
      · intro j hj ihj
        have hwi := wtS_rg hmo0 hi
        have hwj := wtS_rg hmo1 hj
        have htd := tds_bd (lw := lw) (W := B 7) (T := B 8) (U := B 9) (m0 := m0) (m1 := m1) (i := i) (j := j) h2.2 (Nat.le_refl n) hc (fun v hv => by rw [e7]; exact (h3 v hv).1)
        refine rz_iload dX9_weighted_29 rfl ?_
        refine rz_aload_n dX9_weighted_31 rfl ?_
        refine rz_getR dX9_weighted_32 kf_RX9_15 hd_27 rfl rr_27_1 ?_
        refine rz_iconst dX9_weighted_35 ?_
        refine rz_aald (by decide) dX9_weighted_36 hd_13 (by decide) (by decide) rr_13_1 ?_
        refine rz_cVI dX9_weighted_37 kl_RX9_63 hd_17 ⟨_, _, rfl⟩ (c_lines17 X _ B J (MixC_ln hm1).1) rfl rfl (Nat.le_of_ble_eq_true rfl) (Nat.le_of_ble_eq_true rfl) ?_
        refine rz_ieq (y := (lnN m1 : Int)) (MixC_ln hm1).2.symm ?_
        refine rz_icmp_ge (t := 88) dX9_weighted_40 rfl (by omega) (by omega) (fun c40 => ?_) (fun c40 => ?_)
        · exfalso; omega
        · refine rz_lload_n dX9_weighted_43 rfl ?_
          refine rz_aload_n dX9_weighted_44 rfl ?_
          refine rz_getR dX9_weighted_45 kf_RX9_15 hd_27 rfl rr_27_1 ?_
          refine rz_iconst dX9_weighted_48 ?_
          refine rz_aald (by decide) dX9_weighted_49 hd_13 (by decide) (by decide) rr_13_0 ?_
          refine rz_iload dX9_weighted_50 rfl ?_
          refine rz_cVI dX9_weighted_52 kl_RX9_83 hd_14 ⟨_, _, rfl⟩ (c_weightAt14 X _ B J i (MixC_ln hm0).1 (by omega)) rfl rfl (Nat.le_of_ble_eq_true rfl) (Nat.le_of_ble_eq_true rfl) ?_
          refine rz_ieq (y := wtS m0 i) (MixC_wt hm0 hi).symm ?_
          refine rz_i2l dX9_weighted_55 (by omega) ?_
          refine rz_aload_n dX9_weighted_56 rfl ?_
          refine rz_getR dX9_weighted_57 kf_RX9_15 hd_27 rfl rr_27_1 ?_
          refine rz_iconst dX9_weighted_60 ?_
          refine rz_aald (by decide) dX9_weighted_61 hd_13 (by decide) (by decide) rr_13_1 ?_
          refine rz_iload dX9_weighted_62 rfl ?_
          refine rz_cVI dX9_weighted_64 kl_RX9_83 hd_17 ⟨_, _, rfl⟩ (c_weightAt17 X _ B J j (MixC_ln hm1).1 (by omega)) rfl rfl (Nat.le_of_ble_eq_true rfl) (Nat.le_of_ble_eq_true rfl) ?_
          refine rz_ieq (y := wtS m1 j) (MixC_wt hm1 hj).symm ?_
          refine rz_i2l dX9_weighted_67 (by omega) ?_
          refine rz_lmul dX9_weighted_68 ?_
          refine rz_aload_n dX9_weighted_69 rfl ?_
          refine rz_iload dX9_weighted_70 rfl ?_
          refine rz_iload dX9_weighted_72 rfl ?_
          refine rz_iload_n dX9_weighted_74 rfl ?_
          refine rz_cVI dX9_weighted_75 kl_RX9_87 hd_27 ⟨_, _, rfl⟩ (c_X9_twelveDays n hnB hm0 hm1 hPB i j c hi hj) rfl rfl (Nat.le_of_ble_eq_true rfl) (Nat.le_of_ble_eq_true rfl) ?_
          refine rz_i2l dX9_weighted_78 (by omega) ?_
          refine rz_lmul dX9_weighted_79 ?_
          refine rz_ladd dX9_weighted_80 ?_
          refine rz_lstore_n dX9_weighted_81 (by decide) rfl ?_
          refine rz_iinc dX9_weighted_82 (by decide) rfl rfl rfl ?_
          refine rz_goto (t := 29) dX9_weighted_85 rfl ?_
          exact rz_bk ihj ⟨Or.inr rfl, Or.inr rfl, Or.inr (congrArg (fun z => some (zl z)) (by exact (Int.add_assoc _ _ _).symm)), Or.inl rfl, Or.inr rfl, Or.inr rfl, trivial⟩ (rfl) (rfl)
      · skip
        refine rz_iload dX9_weighted_29 rfl ?_
        refine rz_aload_n dX9_weighted_31 rfl ?_
        refine rz_getR dX9_weighted_32 kf_RX9_15 hd_27 rfl rr_27_1 ?_
        refine rz_iconst dX9_weighted_35 ?_
        refine rz_aald (by decide) dX9_weighted_36 hd_13 (by decide) (by decide) rr_13_1 ?_
        refine rz_cVI dX9_weighted_37 kl_RX9_63 hd_17 ⟨_, _, rfl⟩ (c_lines17 X _ B J (MixC_ln hm1).1) rfl rfl (Nat.le_of_ble_eq_true rfl) (Nat.le_of_ble_eq_true rfl) ?_
        refine rz_ieq (y := (lnN m1 : Int)) (MixC_ln hm1).2.symm ?_
        refine rz_icmp_ge (t := 88) dX9_weighted_40 rfl (by omega) (by omega) (fun c40 => ?_) (fun c40 => ?_)
        · refine rz_iinc dX9_weighted_88 (by decide) rfl rfl rfl ?_
          refine rz_goto (t := 12) dX9_weighted_91 rfl ?_
          exact rz_bk ihi ⟨Or.inr rfl, Or.inr rfl, Or.inr rfl, Or.inl rfl, Or.inr rfl, Or.inl rfl, trivial⟩ (rfl) (rfl)
        · exfalso; omega
  · skip
    refine rz_iload dX9_weighted_12 rfl ?_
    refine rz_aload_n dX9_weighted_14 rfl ?_
    refine rz_getR dX9_weighted_15 kf_RX9_15 hd_27 rfl rr_27_1 ?_
    refine rz_iconst dX9_weighted_18 ?_
    refine rz_aald (by decide) dX9_weighted_19 hd_13 (by decide) (by decide) rr_13_0 ?_
    refine rz_cVI dX9_weighted_20 kl_RX9_63 hd_14 ⟨_, _, rfl⟩ (c_lines14 X _ B J (MixC_ln hm0).1) rfl rfl (Nat.le_of_ble_eq_true rfl) (Nat.le_of_ble_eq_true rfl) ?_
    refine rz_ieq (y := (lnN m0 : Int)) (MixC_ln hm0).2.symm ?_
    refine rz_icmp_ge (t := 94) dX9_weighted_23 rfl (by omega) (by omega) (fun c23 => ?_) (fun c23 => ?_)
    · refine rz_lload_n dX9_weighted_94 rfl ?_
      refine rz_lret dX9_weighted_95 rfl ?_
      exact ⟨_, rfl, rfl, QC_set h4 hB, rfl⟩
    · exfalso; omega
set_option maxRecDepth 20000 in
set_option maxHeartbeats 400000 in
theorem c_X11_broke {X : pX} {I J : IM} {h : Nat} {lw : Lw} {n : Nat} {m0 m1 : Mx} (hq : CqI I lw n m0 m1) (c p : Int) (hc : rg c) (hp : rg p) : KLq X (h + 6) mX11_broke [.ref 0, zi c, zi p] I J (fun z A B => z = broZ lw (I 7) (I 8) (I 9) n m0 m1 c p ∧ QC I lw n A ∧ J = B) := by
  obtain ⟨h1, h2, h3, h4, h5, h6, h7⟩ := id hq
  show Rz X (h + 6) mX11_broke 0 [some (.ref 0), some (zi c), some (zi p)] [] I J _
  refine rz_iload_n dX11_broke_0 rfl ?_
  refine rz_if_lt (t := 17) dX11_broke_1 rfl (by omega) (fun c1 => ?_) (fun c1 => ?_)
  · refine rz_ldc2 (x := (-9223372036854775808)) dX11_broke_17 kk_RX11_207 (by decide) ?_
    refine rz_lret dX11_broke_20 rfl ?_
    exact ⟨_, rfl, (if_neg (by omega)).symm, QC_refl h4, rfl⟩
  · refine rz_iload_n dX11_broke_4 rfl ?_
    refine rz_bipush dX11_broke_5 (by decide) ?_
    refine rz_icmp_gt (t := 17) dX11_broke_7 rfl (by omega) (by omega) (fun c7 => ?_) (fun c7 => ?_)
    · refine rz_ldc2 (x := (-9223372036854775808)) dX11_broke_17 kk_RX11_207 (by decide) ?_
      refine rz_lret dX11_broke_20 rfl ?_
      exact ⟨_, rfl, (if_neg (by omega)).symm, QC_refl h4, rfl⟩
    · refine rz_iload_n dX11_broke_10 rfl ?_
      refine rz_cSIq dX11_broke_11 kl_RX11_202 (c_X11_isPart X _ I J p (by omega)) rfl rfl (Nat.le_of_ble_eq_true rfl) (Nat.le_of_ble_eq_true rfl) ?_
      rintro z11 A11 B11 ⟨⟨rfl, b11⟩ | ⟨rfl, b11⟩, rfl, rfl⟩
      · refine rz_if_ne (t := 21) dX11_broke_14 rfl (by omega) (fun _ => ?_) (fun q => absurd q (by decide))
        refine rz_aload_n dX11_broke_21 rfl ?_
        refine rz_getR dX11_broke_22 kf_RX11_40 hd_0 rfl rr_0_5 ?_
        refine rz_iload_n dX11_broke_25 rfl ?_
        refine rz_cVLq dX11_broke_26 kl_RX11_222 hd_27 ⟨_, _, rfl⟩ (c_X9_weighted hq c (by omega)) rfl rfl (Nat.le_of_ble_eq_true rfl) (Nat.le_of_ble_eq_true rfl) ?_
        rintro _ A _ ⟨rfl, hA, rfl⟩
        have hm0 : MixC A 14 m0 := MixC_of (hA.1.1 14 (by decide)) (hA.1.1 15 (by decide)) (hA.1.1 16 (by decide)) h5
        have hm1 : MixC A 17 m1 := MixC_of (hA.1.1 17 (by decide)) (hA.1.1 18 (by decide)) (hA.1.1 19 (by decide)) h6
        have hz := bro_bd (lw := lw) (W := I 7) (T := I 8) (U := I 9) (n := n) (c := c) h2.2 (by omega) (fun v hv => (h3 v hv).1) (MixC_ok h5) (MixC_ok h6)
        have hw12 := wh12 (MixC_ok h5) (MixC_ok h6)
        have hwa := whS_rg (MixC_ok h5)
        have hwb := whS_rg (MixC_ok h6)
        refine rz_ldc2 (x := 12) dX11_broke_29 kk_RX11_226 (by decide) ?_
        refine rz_aload_n dX11_broke_32 rfl ?_
        refine rz_getR dX11_broke_33 kf_RX11_28 hd_0 rfl rr_0_2 ?_
        refine rz_iconst dX11_broke_36 ?_
        refine rz_aald (by decide) dX11_broke_37 hd_13 (by decide) (by decide) rr_13_0 ?_
        refine rz_cVI dX11_broke_38 kl_RX11_212 hd_14 ⟨_, _, rfl⟩ (c_whole14 X _ A J m0.1 hm0.1) rfl rfl (Nat.le_of_ble_eq_true rfl) (Nat.le_of_ble_eq_true rfl) ?_
        refine rz_ieq (y := whS m0) (MixC_wh hm0).symm ?_
        refine rz_i2l dX11_broke_41 (by omega) ?_
        refine rz_lmul dX11_broke_42 ?_
        refine rz_aload_n dX11_broke_43 rfl ?_
        refine rz_getR dX11_broke_44 kf_RX11_28 hd_0 rfl rr_0_2 ?_
        refine rz_iconst dX11_broke_47 ?_
        refine rz_aald (by decide) dX11_broke_48 hd_13 (by decide) (by decide) rr_13_1 ?_
        refine rz_cVI dX11_broke_49 kl_RX11_212 hd_17 ⟨_, _, rfl⟩ (c_whole17 X _ A J m1.1 hm1.1) rfl rfl (Nat.le_of_ble_eq_true rfl) (Nat.le_of_ble_eq_true rfl) ?_
        refine rz_ieq (y := whS m1) (MixC_wh hm1).symm ?_
        refine rz_i2l dX11_broke_52 (by omega) ?_
        refine rz_lmul dX11_broke_53 ?_
        refine rz_iload_n dX11_broke_54 rfl ?_
        refine rz_cSL dX11_broke_55 kl_RX11_215 (c_X11_inLowest (broS lw (I 7) (I 8) (I 9) n m0 m1 c) (12 * whS m0 * whS m1) p hz hw12 (by omega)) rfl rfl (Nat.le_of_ble_eq_true rfl) (Nat.le_of_ble_eq_true rfl) ?_
        refine rz_lret dX11_broke_58 rfl ?_
        exact ⟨_, rfl, (if_pos ⟨by omega, by omega⟩).symm, hA, rfl⟩
      · refine rz_if_ne (t := 21) dX11_broke_14 rfl (by omega) (fun q => absurd q (by decide)) (fun _ => ?_)
        refine rz_ldc2 (x := (-9223372036854775808)) dX11_broke_17 kk_RX11_207 (by decide) ?_
        refine rz_lret dX11_broke_20 rfl ?_
        exact ⟨_, rfl, (if_neg (by omega)).symm, QC_refl h4, rfl⟩
set_option maxRecDepth 20000 in
set_option maxHeartbeats 400000 in
theorem c_X11_mean {X : pX} {I J : IM} {h : Nat} {lw : Lw} {n : Nat} {m0 m1 : Mx} (hq : CqI I lw n m0 m1) (p : Int) (hp : rg p) : KLq X (h + 7) mX11_mean [.ref 0, zi p] I J (fun z A B => z = broZ lw (I 7) (I 8) (I 9) n m0 m1 0 p ∧ QC I lw n A ∧ J = B) := by
  show Rz X (h + 7) mX11_mean 0 [some (.ref 0), some (zi p)] [] I J _
  refine rz_aload_n dX11_mean_0 rfl ?_
  refine rz_iconst dX11_mean_1 ?_
  refine rz_iload_n dX11_mean_2 rfl ?_
  refine rz_cVLq dX11_mean_3 kl_RX11_195 hd_0 ⟨_, _, rfl⟩ (c_X11_broke hq 0 p (by omega) hp) rfl rfl (Nat.le_of_ble_eq_true rfl) (Nat.le_of_ble_eq_true rfl) ?_
  rintro _ A _ ⟨rfl, hA, rfl⟩
  refine rz_lret dX11_mean_6 rfl ?_
  exact ⟨_, rfl, rfl, hA, rfl⟩
set_option maxRecDepth 20000 in
set_option maxHeartbeats 400000 in
theorem c_X12_meanBroken {X : pX} {I J : IM} {h : Nat} {lw : Lw} {n : Nat} {m0 m1 : Mx} (hq : RqI I lw n m0 m1) (c p : Int) (hc : 0 ≤ c ∧ c ≤ 12) (hp : p = 0 ∨ p = 1) : KLq X (h + 5) mX12_meanBroken [.ref 81, zi c, zi p] I J (fun z A Bj => z = broZ lw (I 82) (I 83) (I 84) n m0 m1 c p ∧ FrR I A ∧ J = Bj) := by
  obtain ⟨h1, h2, h3, h5, h6, h7⟩ := hq
  show Rz X (h + 5) mX12_meanBroken 0 [some (.ref 81), some (zi c), some (zi p), none, none, none, none, none, none] [] I J _
  refine rz_aload_n dX12_meanBroken_0 rfl ?_
  refine rz_cVVq dX12_meanBroken_1 kl_RX12_257 hd_81 ⟨_, _, rfl⟩ (c_X12_findHas lw h1 n h2 h3) rfl rfl (Nat.le_of_ble_eq_true rfl) (Nat.le_of_ble_eq_true rfl) ?_
  rintro B _ ⟨hB, rfl⟩
  have hf := FhQ_fr hB
  have hH := FhQ_has hB
  have hnB : B 81 1 = n ∧ n ≤ 5 := ⟨by rw [hf 81 (by decide) (by decide) (by decide)]; exact h2.1, h2.2⟩
  have hm0 : MixR B 0 m0 := MixR_of (hf 86 (by decide) (by decide) (by decide)) (hf 87 (by decide) (by decide) (by decide)) (hf 88 (by decide) (by decide) (by decide)) h5
  have hm1 : MixR B 1 m1 := MixR_of (hf 86 (by decide) (by decide) (by decide)) (hf 87 (by decide) (by decide) (by decide)) (hf 88 (by decide) (by decide) (by decide)) h6
  have e82 := hf 82 (by decide) (by decide) (by decide)
  have e83 := hf 83 (by decide) (by decide) (by decide)
  have e84 := hf 84 (by decide) (by decide) (by decide)
  have hmo0 := MixR_ok hm0
  have hmo1 := MixR_ok hm1
  have hi8 := lnN_le hmo0.1
  have hj8 := lnN_le hmo1.1
  have hW : ∀ v, v < n → 0 ≤ B 82 v ∧ B 82 v ≤ 9 := fun v hv => by rw [e82]; exact (h3 v hv).1
  rw [← e82, ← e83, ← e84]
  have hz := bro_bd (lw := lw) (W := B 82) (T := B 83) (U := B 84) (n := n) (c := c) h2.2 hc hW hmo0 hmo1
  have hw12 := wh12 hmo0 hmo1
  refine rz_lconst (x := 0) dX12_meanBroken_4 rfl ?_
  refine rz_lstore_n dX12_meanBroken_5 (by decide) rfl ?_
  refine rz_iconst dX12_meanBroken_6 ?_
  refine rz_istore dX12_meanBroken_7 (by decide) rfl ?_
  refine rz_up (ls := fun i : Nat => [some (.ref 81), some (zi c), some (zi p), some (zl (sumP (brF lw (B 82) (B 83) (B 84) n m0 m1 c) i)), none, some (zi (i : Int)), none, none, none]) (IV := fun i : Nat => B) (JV := fun i : Nat => J) ((lnN m0)) ⟨Or.inr rfl, Or.inr rfl, Or.inr rfl, Or.inr rfl, Or.inl rfl, Or.inr rfl, Or.inl rfl, Or.inl rfl, Or.inl rfl, trivial⟩ (rfl) (rfl) ?_ ?_
  · intro i hi ihi
    refine rz_iload dX12_meanBroken_9 rfl ?_
    refine rz_aload_n dX12_meanBroken_11 rfl ?_
    refine rz_iconst dX12_meanBroken_12 ?_
    refine rz_cVI dX12_meanBroken_13 kl_RX12_284 hd_81 ⟨_, _, rfl⟩ (c_X12_mixMany X _ B J 0 (by omega) (MixR_ln hm0).1) rfl rfl (Nat.le_of_ble_eq_true rfl) (Nat.le_of_ble_eq_true rfl) ?_
    refine rz_ieq (y := (lnN m0 : Int)) (MixR_ln hm0).2.symm ?_
    refine rz_icmp_ge (t := 134) dX12_meanBroken_16 rfl (by omega) (by omega) (fun c16 => ?_) (fun c16 => ?_)
    · exfalso; omega
    · refine rz_iconst dX12_meanBroken_19 ?_
      refine rz_istore dX12_meanBroken_20 (by decide) rfl ?_
      refine rz_up (ls := fun j : Nat => [some (.ref 81), some (zi c), some (zi p), some (zl (sumP (brF lw (B 82) (B 83) (B 84) n m0 m1 c) i + sumP (wwF lw (B 82) (B 83) (B 84) n m0 m1 c i) j)), none, some (zi (i : Int)), some (zi (j : Int)), none, none]) (IV := fun j : Nat => B) (JV := fun j : Nat => J) ((lnN m1)) ⟨Or.inr rfl, Or.inr rfl, Or.inr rfl, Or.inr (congrArg (fun z => some (zl z)) (Int.add_zero _)), Or.inl rfl, Or.inr rfl, Or.inr rfl, Or.inl rfl, Or.inl rfl, trivial⟩ (rfl) (rfl) ?_ ?_
      · intro j hj ihj
        have hww := ww_rg hmo0 hmo1 hi hj
        refine rz_iload dX12_meanBroken_22 rfl ?_
        refine rz_aload_n dX12_meanBroken_24 rfl ?_
        refine rz_iconst dX12_meanBroken_25 ?_
        refine rz_cVI dX12_meanBroken_26 kl_RX12_284 hd_81 ⟨_, _, rfl⟩ (c_X12_mixMany X _ B J 1 (by omega) (MixR_ln hm1).1) rfl rfl (Nat.le_of_ble_eq_true rfl) (Nat.le_of_ble_eq_true rfl) ?_
        refine rz_ieq (y := (lnN m1 : Int)) (MixR_ln hm1).2.symm ?_
        refine rz_icmp_ge (t := 128) dX12_meanBroken_29 rfl (by omega) (by omega) (fun c29 => ?_) (fun c29 => ?_)
        · exfalso; omega
        · refine rz_aload_n dX12_meanBroken_32 rfl ?_
          refine rz_iconst dX12_meanBroken_33 ?_
          refine rz_iload dX12_meanBroken_34 rfl ?_
          refine rz_cVI dX12_meanBroken_36 kl_RX12_290 hd_81 ⟨_, _, rfl⟩ (c_X12_weightAt X _ B J 0 i (by omega) (MixR_ln hm0).1 (by omega)) rfl rfl (Nat.le_of_ble_eq_true rfl) (Nat.le_of_ble_eq_true rfl) ?_
          refine rz_ieq (y := wtS m0 i) (MixR_wt hm0 hi).symm ?_
          refine rz_aload_n dX12_meanBroken_39 rfl ?_
          refine rz_iconst dX12_meanBroken_40 ?_
          refine rz_iload dX12_meanBroken_41 rfl ?_
          refine rz_cVI dX12_meanBroken_43 kl_RX12_290 hd_81 ⟨_, _, rfl⟩ (c_X12_weightAt X _ B J 1 j (by omega) (MixR_ln hm1).1 (by omega)) rfl rfl (Nat.le_of_ble_eq_true rfl) (Nat.le_of_ble_eq_true rfl) ?_
          refine rz_ieq (y := wtS m1 j) (MixR_wt hm1 hj).symm ?_
          refine rz_imul dX12_meanBroken_46 ?_
          refine rz_istore dX12_meanBroken_47 (by decide) rfl ?_
          refine rz_iconst dX12_meanBroken_49 ?_
          refine rz_istore dX12_meanBroken_50 (by decide) rfl ?_
          refine rz_up (ls := fun v : Nat => [some (.ref 81), some (zi c), some (zi p), some (zl (sumP (brF lw (B 82) (B 83) (B 84) n m0 m1 c) i + sumP (wwF lw (B 82) (B 83) (B 84) n m0 m1 c i) j + sumP (fun v => (wtS m0 i * wtS m1 j) * tdF lw (B 82) (B 83) (B 84) m0 m1 c i j v) v)), none, some (zi (i : Int)), some (zi (j : Int)), some (zi ((wtS m0 i) * (wtS m1 j))), some (zi (v : Int))]) (IV := fun v : Nat => B) (JV := fun v : Nat => J) (n) ⟨Or.inr rfl, Or.inr rfl, Or.inr rfl, Or.inr (congrArg (fun z => some (zl z)) (Int.add_zero _)), Or.inl rfl, Or.inr rfl, Or.inr rfl, Or.inr rfl, Or.inr rfl, trivial⟩ (rfl) (rfl) ?_ ?_
          · intro v hv ihv
            have ha9 := loS_rg hmo0 hi (show v < 5 by omega)
            have hb9 := loS_rg hmo1 hj (show v < 5 by omega)
            have ht9 := td_bd (lw := lw) (T := B 83) (U := B 84) (m0 := m0) (m1 := m1) (i := i) (j := j) hc (hW v hv)
            have ht8 : ((wtS m0 i * wtS m1 j) * tdF lw (B 82) (B 83) (B 84) m0 m1 c i j v).natAbs ≤ 81 * 216 := mulN (by omega) (by omega)
            refine rz_iload dX12_meanBroken_52 rfl ?_
            refine rz_aload_n dX12_meanBroken_54 rfl ?_
            refine rz_getI (z := (n : Int)) dX12_meanBroken_55 kf_RX12_137 hd_81 rfl (hnB.1) ?_
            refine rz_icmp_ge (t := 122) dX12_meanBroken_58 rfl (by omega) (by omega) (fun c58 => ?_) (fun c58 => ?_)
            · exfalso; omega
            · refine rz_lload_n dX12_meanBroken_61 rfl ?_
              refine rz_iload dX12_meanBroken_62 rfl ?_
              refine rz_bipush dX12_meanBroken_64 (by decide) ?_
              refine rz_iload_n dX12_meanBroken_66 rfl ?_
              refine rz_isub dX12_meanBroken_67 ?_
              refine rz_aload_n dX12_meanBroken_68 rfl ?_
              refine rz_iload dX12_meanBroken_69 rfl ?_
              refine rz_aload_n dX12_meanBroken_71 rfl ?_
              refine rz_iconst dX12_meanBroken_72 ?_
              refine rz_iload dX12_meanBroken_73 rfl ?_
              refine rz_iload dX12_meanBroken_75 rfl ?_
              refine rz_cVI dX12_meanBroken_77 kl_RX12_287 hd_81 ⟨_, _, rfl⟩ (c_X12_mixAt X _ B J 0 i v (by omega) (MixR_ln hm0).1 (by omega) (by omega)) rfl rfl (Nat.le_of_ble_eq_true rfl) (Nat.le_of_ble_eq_true rfl) ?_
              refine rz_ieq (y := ((loS m0 i v : Nat) : Int)) (MixR_lo hm0 hi (by omega)).symm ?_
              refine rz_aload_n dX12_meanBroken_80 rfl ?_
              refine rz_iconst dX12_meanBroken_81 ?_
              refine rz_iload dX12_meanBroken_82 rfl ?_
              refine rz_iload dX12_meanBroken_84 rfl ?_
              refine rz_cVI dX12_meanBroken_86 kl_RX12_287 hd_81 ⟨_, _, rfl⟩ (c_X12_mixAt X _ B J 1 j v (by omega) (MixR_ln hm1).1 (by omega) (by omega)) rfl rfl (Nat.le_of_ble_eq_true rfl) (Nat.le_of_ble_eq_true rfl) ?_
              refine rz_ieq (y := ((loS m1 j v : Nat) : Int)) (MixR_lo hm1 hj (by omega)).symm ?_
              refine rz_cVI dX12_meanBroken_89 kl_RX12_260 hd_81 ⟨_, _, rfl⟩ (c_X12_valueOf X _ B J v (loS m0 i v) (loS m1 j v) (by omega) ha9 hb9) rfl rfl (Nat.le_of_ble_eq_true rfl) (Nat.le_of_ble_eq_true rfl) ?_
              refine rz_ieq (y := ptsV lw (B 82) (B 83) (B 84) v (loS m0 i v) (loS m1 j v)) (congrArg (fun z => B 82 v * z) (hH v hv _ _ ha9 hb9)).symm ?_
              refine rz_imul dX12_meanBroken_92 ?_
              refine rz_iload_n dX12_meanBroken_93 rfl ?_
              refine rz_aload_n dX12_meanBroken_94 rfl ?_
              refine rz_iload dX12_meanBroken_95 rfl ?_
              refine rz_iconst dX12_meanBroken_97 ?_
              refine rz_aload_n dX12_meanBroken_98 rfl ?_
              refine rz_iconst dX12_meanBroken_99 ?_
              refine rz_iload dX12_meanBroken_100 rfl ?_
              refine rz_iload dX12_meanBroken_102 rfl ?_
              refine rz_cVI dX12_meanBroken_104 kl_RX12_287 hd_81 ⟨_, _, rfl⟩ (c_X12_mixAt X _ B J 1 j v (by omega) (MixR_ln hm1).1 (by omega) (by omega)) rfl rfl (Nat.le_of_ble_eq_true rfl) (Nat.le_of_ble_eq_true rfl) ?_
              refine rz_ieq (y := ((loS m1 j v : Nat) : Int)) (MixR_lo hm1 hj (by omega)).symm ?_
              refine rz_cVI dX12_meanBroken_107 kl_RX12_260 hd_81 ⟨_, _, rfl⟩ (c_X12_valueOf X _ B J v 0 (loS m1 j v) (by omega) (by omega) hb9) rfl rfl (Nat.le_of_ble_eq_true rfl) (Nat.le_of_ble_eq_true rfl) ?_
              refine rz_ieq (y := ptsV lw (B 82) (B 83) (B 84) v 0 (loS m1 j v)) (congrArg (fun z => B 82 v * z) (hH v hv _ _ (by omega) hb9)).symm ?_
              refine rz_imul dX12_meanBroken_110 ?_
              refine rz_iadd dX12_meanBroken_111 ?_
              refine rz_imul dX12_meanBroken_112 ?_
              refine rz_i2l dX12_meanBroken_113 (by show rg ((wtS m0 i * wtS m1 j) * tdF lw (B 82) (B 83) (B 84) m0 m1 c i j v); omega) ?_
              refine rz_ladd dX12_meanBroken_114 ?_
              refine rz_lstore_n dX12_meanBroken_115 (by decide) rfl ?_
              refine rz_iinc dX12_meanBroken_116 (by decide) rfl rfl rfl ?_
              refine rz_goto (t := 52) dX12_meanBroken_119 rfl ?_
              exact rz_bk ihv ⟨Or.inr rfl, Or.inr rfl, Or.inr rfl, Or.inr (congrArg (fun z => some (zl z)) (by exact (Int.add_assoc _ _ _).symm)), Or.inl rfl, Or.inr rfl, Or.inr rfl, Or.inr rfl, Or.inr rfl, trivial⟩ (rfl) (rfl)
          · skip
            refine rz_iload dX12_meanBroken_52 rfl ?_
            refine rz_aload_n dX12_meanBroken_54 rfl ?_
            refine rz_getI (z := (n : Int)) dX12_meanBroken_55 kf_RX12_137 hd_81 rfl (hnB.1) ?_
            refine rz_icmp_ge (t := 122) dX12_meanBroken_58 rfl (by omega) (by omega) (fun c58 => ?_) (fun c58 => ?_)
            · refine rz_iinc dX12_meanBroken_122 (by decide) rfl rfl rfl ?_
              refine rz_goto (t := 22) dX12_meanBroken_125 rfl ?_
              exact rz_bk ihj ⟨Or.inr rfl, Or.inr rfl, Or.inr rfl, Or.inr (congrArg (fun z => some (zl z)) (by rw [sumP_mul]; exact (Int.add_assoc _ _ _).symm)), Or.inl rfl, Or.inr rfl, Or.inr rfl, Or.inl rfl, Or.inl rfl, trivial⟩ (rfl) (rfl)
            · exfalso; omega
      · skip
        refine rz_iload dX12_meanBroken_22 rfl ?_
        refine rz_aload_n dX12_meanBroken_24 rfl ?_
        refine rz_iconst dX12_meanBroken_25 ?_
        refine rz_cVI dX12_meanBroken_26 kl_RX12_284 hd_81 ⟨_, _, rfl⟩ (c_X12_mixMany X _ B J 1 (by omega) (MixR_ln hm1).1) rfl rfl (Nat.le_of_ble_eq_true rfl) (Nat.le_of_ble_eq_true rfl) ?_
        refine rz_ieq (y := (lnN m1 : Int)) (MixR_ln hm1).2.symm ?_
        refine rz_icmp_ge (t := 128) dX12_meanBroken_29 rfl (by omega) (by omega) (fun c29 => ?_) (fun c29 => ?_)
        · refine rz_iinc dX12_meanBroken_128 (by decide) rfl rfl rfl ?_
          refine rz_goto (t := 9) dX12_meanBroken_131 rfl ?_
          exact rz_bk ihi ⟨Or.inr rfl, Or.inr rfl, Or.inr rfl, Or.inr rfl, Or.inl rfl, Or.inr rfl, Or.inl rfl, Or.inl rfl, Or.inl rfl, trivial⟩ (rfl) (rfl)
        · exfalso; omega
  · skip
    refine rz_iload dX12_meanBroken_9 rfl ?_
    refine rz_aload_n dX12_meanBroken_11 rfl ?_
    refine rz_iconst dX12_meanBroken_12 ?_
    refine rz_cVI dX12_meanBroken_13 kl_RX12_284 hd_81 ⟨_, _, rfl⟩ (c_X12_mixMany X _ B J 0 (by omega) (MixR_ln hm0).1) rfl rfl (Nat.le_of_ble_eq_true rfl) (Nat.le_of_ble_eq_true rfl) ?_
    refine rz_ieq (y := (lnN m0 : Int)) (MixR_ln hm0).2.symm ?_
    refine rz_icmp_ge (t := 134) dX12_meanBroken_16 rfl (by omega) (by omega) (fun c16 => ?_) (fun c16 => ?_)
    · refine rz_lload_n dX12_meanBroken_134 rfl ?_
      refine rz_bipush dX12_meanBroken_135 (by decide) ?_
      refine rz_aload_n dX12_meanBroken_137 rfl ?_
      refine rz_iconst dX12_meanBroken_138 ?_
      refine rz_iconst dX12_meanBroken_139 ?_
      refine rz_cVI dX12_meanBroken_140 kl_RX12_274 hd_81 ⟨_, _, rfl⟩ (c_X12_weights X _ B J 0 1 m0.1 (by omega) (Or.inr rfl) hm0.1) rfl rfl (Nat.le_of_ble_eq_true rfl) (Nat.le_of_ble_eq_true rfl) ?_
      refine rz_ieq (y := whS m0) (MixR_wh hm0).symm ?_
      refine rz_imul dX12_meanBroken_143 ?_
      refine rz_aload_n dX12_meanBroken_144 rfl ?_
      refine rz_iconst dX12_meanBroken_145 ?_
      refine rz_iconst dX12_meanBroken_146 ?_
      refine rz_cVI dX12_meanBroken_147 kl_RX12_274 hd_81 ⟨_, _, rfl⟩ (c_X12_weights X _ B J 1 1 m1.1 (by omega) (Or.inr rfl) hm1.1) rfl rfl (Nat.le_of_ble_eq_true rfl) (Nat.le_of_ble_eq_true rfl) ?_
      refine rz_ieq (y := whS m1) (MixR_wh hm1).symm ?_
      refine rz_imul dX12_meanBroken_150 ?_
      refine rz_i2l dX12_meanBroken_151 (by omega) ?_
      refine rz_iload_n dX12_meanBroken_152 rfl ?_
      refine rz_cSL dX12_meanBroken_153 kl_RX12_315 (c_X12_part (broS lw (B 82) (B 83) (B 84) n m0 m1 c) (12 * whS m0 * whS m1) p hz hw12 hp) rfl rfl (Nat.le_of_ble_eq_true rfl) (Nat.le_of_ble_eq_true rfl) ?_
      refine rz_lret dX12_meanBroken_156 rfl ?_
      exact ⟨_, rfl, (if_pos ⟨by omega, by omega⟩).symm, FrR_fh hB, rfl⟩
    · exfalso; omega
set_option maxRecDepth 20000 in
set_option maxHeartbeats 400000 in
theorem c_X12_broke {X : pX} {I J : IM} {h : Nat} {lw : Lw} {n : Nat} {m0 m1 : Mx} (hq : RqI I lw n m0 m1) (c p : Int) (hc : rg c) (hp : rg p) : KLq X (h + 6) mX12_broke [.ref 81, zi c, zi p] I J (fun z A Bj => z = broZ lw (I 82) (I 83) (I 84) n m0 m1 c p ∧ FrR I A ∧ J = Bj) := by
  show Rz X (h + 6) mX12_broke 0 [some (.ref 81), some (zi c), some (zi p)] [] I J _
  refine rz_iload_n dX12_broke_0 rfl ?_
  refine rz_iconst dX12_broke_1 ?_
  refine rz_bipush dX12_broke_2 (by decide) ?_
  refine rz_cSIq dX12_broke_4 kl_RX12_140 (c_X12_in X _ I J c 0 12 (by omega) (by omega) (by omega)) rfl rfl (Nat.le_of_ble_eq_true rfl) (Nat.le_of_ble_eq_true rfl) ?_
  rintro z4 A4 B4 ⟨⟨rfl, b4⟩ | ⟨rfl, b4⟩, rfl, rfl⟩
  · refine rz_if_eq (t := 28) dX12_broke_7 rfl (by omega) (fun q => absurd q (by decide)) (fun _ => ?_)
    refine rz_iload_n dX12_broke_10 rfl ?_
    refine rz_iconst dX12_broke_11 ?_
    refine rz_iconst dX12_broke_12 ?_
    refine rz_cSIq dX12_broke_13 kl_RX12_140 (c_X12_in X _ I J p 0 1 (by omega) (by omega) (by omega)) rfl rfl (Nat.le_of_ble_eq_true rfl) (Nat.le_of_ble_eq_true rfl) ?_
    rintro z13 A13 B13 ⟨⟨rfl, b13⟩ | ⟨rfl, b13⟩, rfl, rfl⟩
    · refine rz_if_eq (t := 28) dX12_broke_16 rfl (by omega) (fun q => absurd q (by decide)) (fun _ => ?_)
      refine rz_aload_n dX12_broke_19 rfl ?_
      refine rz_iload_n dX12_broke_20 rfl ?_
      refine rz_iload_n dX12_broke_21 rfl ?_
      refine rz_cVLq dX12_broke_22 kl_RX12_307 hd_81 ⟨_, _, rfl⟩ (c_X12_meanBroken hq c p (by omega) (by omega)) rfl rfl (Nat.le_of_ble_eq_true rfl) (Nat.le_of_ble_eq_true rfl) ?_
      rintro _ A _ ⟨rfl, hA, rfl⟩
      refine rz_goto (t := 31) dX12_broke_25 rfl ?_
      refine rz_lret dX12_broke_31 rfl ?_
      exact ⟨_, rfl, rfl, hA, rfl⟩
    · refine rz_if_eq (t := 28) dX12_broke_16 rfl (by omega) (fun _ => ?_) (fun q => absurd q (by decide))
      refine rz_ldc2 (x := (-9223372036854775808)) dX12_broke_28 kk_RX12_313 (by decide) ?_
      refine rz_lret dX12_broke_31 rfl ?_
      exact ⟨_, rfl, (if_neg (by omega)).symm, FrR_refl, rfl⟩
  · refine rz_if_eq (t := 28) dX12_broke_7 rfl (by omega) (fun _ => ?_) (fun q => absurd q (by decide))
    refine rz_ldc2 (x := (-9223372036854775808)) dX12_broke_28 kk_RX12_313 (by decide) ?_
    refine rz_lret dX12_broke_31 rfl ?_
    exact ⟨_, rfl, (if_neg (by omega)).symm, FrR_refl, rfl⟩
set_option maxRecDepth 20000 in
set_option maxHeartbeats 400000 in
theorem c_X12_mean {X : pX} {I J : IM} {h : Nat} {lw : Lw} {n : Nat} {m0 m1 : Mx} (hq : RqI I lw n m0 m1) (p : Int) (hp : rg p) : KLq X (h + 6) mX12_mean [.ref 81, zi p] I J (fun z A Bj => z = broZ lw (I 82) (I 83) (I 84) n m0 m1 0 p ∧ FrR I A ∧ J = Bj) := by
  show Rz X (h + 6) mX12_mean 0 [some (.ref 81), some (zi p)] [] I J _
  refine rz_iload_n dX12_mean_0 rfl ?_
  refine rz_iconst dX12_mean_1 ?_
  refine rz_iconst dX12_mean_2 ?_
  refine rz_cSIq dX12_mean_3 kl_RX12_140 (c_X12_in X _ I J p 0 1 (by omega) (by omega) (by omega)) rfl rfl (Nat.le_of_ble_eq_true rfl) (Nat.le_of_ble_eq_true rfl) ?_
  rintro z3 A3 B3 ⟨⟨rfl, b3⟩ | ⟨rfl, b3⟩, rfl, rfl⟩
  · refine rz_if_eq (t := 18) dX12_mean_6 rfl (by omega) (fun q => absurd q (by decide)) (fun _ => ?_)
    refine rz_aload_n dX12_mean_9 rfl ?_
    refine rz_iconst dX12_mean_10 ?_
    refine rz_iload_n dX12_mean_11 rfl ?_
    refine rz_cVLq dX12_mean_12 kl_RX12_307 hd_81 ⟨_, _, rfl⟩ (c_X12_meanBroken hq 0 p (by omega) (by omega)) rfl rfl (Nat.le_of_ble_eq_true rfl) (Nat.le_of_ble_eq_true rfl) ?_
    rintro _ A _ ⟨rfl, hA, rfl⟩
    refine rz_goto (t := 21) dX12_mean_15 rfl ?_
    refine rz_lret dX12_mean_21 rfl ?_
    exact ⟨_, rfl, rfl, hA, rfl⟩
  · refine rz_if_eq (t := 18) dX12_mean_6 rfl (by omega) (fun _ => ?_) (fun q => absurd q (by decide))
    refine rz_ldc2 (x := (-9223372036854775808)) dX12_mean_18 kk_RX12_313 (by decide) ?_
    refine rz_lret dX12_mean_21 rfl ?_
    exact ⟨_, rfl, (if_neg (by omega)).symm, FrR_refl, rfl⟩
