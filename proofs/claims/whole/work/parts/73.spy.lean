/-! a spy, both sides -/
def gFs (lw : Lw) (W T U : Nat → Int) (m : Mx) (vil s i j : Nat) : Int := if loS m i vil = s then gF lw W T U 0 m i j else 0
def gSs (lw : Lw) (W T U : Nat → Int) (m : Mx) (vil s v x : Nat) : Int := sumP (fun i => if loS m i vil = s then wtS m i * gnV lw W T U 0 v x (loS m i v) else 0) (lnN m)
theorem acM_sy {I : IM} {a n q : Nat} {F : Nat → Nat → Int} {f : Nat → Int} (hF : F q = f) : acM I a n (q + 1) F = adN (acM I a n q F) a (10 * n) f := by
  rw [← hF]; exact acM_s.symm
theorem acM_sn {I : IM} {a n q : Nat} {F : Nat → Nat → Int} (hF : ∀ j, F q j = 0) : acM I a n (q + 1) F = acM I a n q F := by
  unfold acM
  congr 1
  funext j
  by_cases e : j < 10 * n
  · rw [if_pos e, if_pos e]
    simp only [sumP]
    rw [hF j, Int.add_zero]
  · rw [if_neg e, if_neg e]
theorem acM_as {I : IM} {lw : Lw} {W T U : Nat → Int} {a n v x vil s : Nat} {m : Mx} (hv : v < n) (hx : x ≤ 9) : acM I a n (lnN m) (fun i j => gFs lw W T U m vil s i j) a (10 * v + x) = gSs lw W T U m vil s v x := by
  show upA I a _ a _ = _
  rw [upA_self, if_pos (by omega)]
  unfold gSs
  refine sumP_congr (fun i hi => ?_)
  show (if loS m i vil = s then gF lw W T U 0 m i (10 * v + x) else 0) = _
  by_cases e : loS m i vil = s
  · rw [if_pos e]
    exact (gF_at hx).trans (if_pos e).symm
  · rw [if_neg e]
    exact (if_neg e).symm
theorem gSs_rg {lw : Lw} {W T U : Nat → Int} {vil s v x : Nat} {m : Mx} (hm : MxOK m) (h : 0 ≤ W v ∧ W v ≤ 9) : -1000 ≤ gSs lw W T U m vil s v x ∧ gSs lw W T U m vil s v x ≤ 1000 := by
  have h1 := sumP_bd (f := fun i => if loS m i vil = s then wtS m i * gnV lw W T U 0 v x (loS m i v) else 0) (n := lnN m) (b := 81) (fun i hi => by
    show -81 ≤ (if loS m i vil = s then wtS m i * gnV lw W T U 0 v x (loS m i v) else 0) ∧ (if loS m i vil = s then wtS m i * gnV lw W T U 0 v x (loS m i v) else 0) ≤ 81
    split
    · exact mul_rg (wtS_rg hm hi) (gn_rg h)
    · omega)
  have h2 := lnN_le hm.1
  unfold gSs
  omega
abbrev spF (lw : Lw) (W T U : Nat → Int) (n N : Nat) (m : Mx) (vil : Nat) : Nat → Int := fun s => mx (gSs lw W T U m vil s) false n 0 N
theorem spF_rg {lw : Lw} {W T U : Nat → Int} {n N vil s : Nat} {m : Mx} (hn : n ≤ 5) (hN : N ≤ 9) (hm : MxOK m) (hW : ∀ v, v < n → 0 ≤ W v ∧ W v ≤ 9) : -1000000 ≤ spF lw W T U n N m vil s ∧ spF lw W T U n N m vil s ≤ 1000000 := by
  have h := mx_rg (g := gSs lw W T U m vil s) (all := false) (G := 1000) (n := n) (by omega) (fun v x hv hx => (gSs_rg hm (hW v hv)).2) n 0 N (by omega) hN
  show -1000000 ≤ mx (gSs lw W T U m vil s) false n 0 N ∧ mx (gSs lw W T U m vil s) false n 0 N ≤ 1000000
  omega
theorem spF_0 {lw : Lw} {W T U : Nat → Int} {n N vil s : Nat} {m : Mx} (hn : n ≤ 5) (hN : N ≤ 9) (h : ∀ i, i < lnN m → loS m i vil ≠ s) : spF lw W T U n N m vil s = 0 := by
  have e : ∀ v x, v < n → x ≤ 9 → gSs lw W T U m vil s v x = (fun _ _ => (0 : Int)) v x := fun v x _ _ => by
    unfold gSs
    have e2 : sumP (fun i => if loS m i vil = s then wtS m i * gnV lw W T U 0 v x (loS m i v) else 0) (lnN m) = sumP (fun _ => 0) (lnN m) := sumP_congr (fun i hi => if_neg (h i hi))
    rw [e2]
    have : ∀ k, sumP (fun _ => (0 : Int)) k = 0 := fun k => by
      induction k with
      | zero => rfl
      | succ k ih => simp only [sumP]; omega
    exact this _
  show mx (gSs lw W T U m vil s) false n 0 N = 0
  rw [mx_congr e n 0 N (by omega) hN]
  have hz : ∀ m v left, mx (fun _ _ => (0 : Int)) false m v left = 0 := by
    intro m
    induction m with
    | zero => intro v left; unfold mx; rw [if_neg (by simp)]
    | succ m ih =>
      intro v left
      unfold mx
      have : ∀ k, mxF (fun x => (0 : Int) + mx (fun _ _ => (0 : Int)) false m (v + 1) (left - x)) (k + 1) = 0 := by
        intro k
        induction k with
        | zero => show max (-1000000) ((0 : Int) + mx (fun _ _ => (0 : Int)) false m (v + 1) (left - 0)) = 0
                  rw [ih]; decide
        | succ k ihk =>
          have q : mxF (fun x => (0 : Int) + mx (fun _ _ => (0 : Int)) false m (v + 1) (left - x)) (k + 1 + 1) = max (mxF (fun x => (0 : Int) + mx (fun _ _ => (0 : Int)) false m (v + 1) (left - x)) (k + 1)) ((0 : Int) + mx (fun _ _ => (0 : Int)) false m (v + 1) (left - (k + 1))) := rfl
          rw [q, ihk, ih]; decide
      exact this left
  exact hz n 0 N
def spyS (lw : Lw) (W T U : Nat → Int) (n N : Nat) (m : Mx) (vil : Nat) : Int := sumP (spF lw W T U n N m vil) 10 - mx (gS lw W T U 0 m) false n 0 N
def spyZ (lw : Lw) (W T U Q : Nat → Int) (n : Nat) (m1 : Mx) (vil p : Int) : Int := if (0 ≤ vil ∧ vil < n) ∧ (p = 0 ∨ p = 1) then lowQ (spyS lw W T U n (Q 0).toNat m1 vil.toNat) (whS m1) p else -9223372036854775808
theorem spy_bd {lw : Lw} {W T U : Nat → Int} {n N vil k : Nat} {m : Mx} (hn : n ≤ 5) (hN : N ≤ 9) (hm : MxOK m) (hW : ∀ v, v < n → 0 ≤ W v ∧ W v ≤ 9) (hk : k ≤ 10) : -10000000 ≤ sumP (spF lw W T U n N m vil) k ∧ sumP (spF lw W T U n N m vil) k ≤ 10000000 := by
  have := sumP_bd (f := spF lw W T U n N m vil) (n := k) (b := 1000000) (fun s _ => spF_rg hn hN hm hW)
  omega
theorem sp_mem {B : IM} {n q : Nat} {F : Nat → Nat → Int} {g M M2 : Nat → Int} : upA (upA B 29 (acM (fillM (upA (upA B 29 g) 30 M) 29 50 0) 29 n q F 29)) 30 M2 = upA (acM (fillM (upA (upA B 29 g) 30 M) 29 50 0) 29 n q F) 30 M2 := by
  funext d
  by_cases h1 : d = 30
  · subst h1; rfl
  · by_cases h2 : d = 29
    · subst h2; rfl
    · simp [acM, fillM, upA, h1, h2]
set_option maxRecDepth 20000 in
set_option maxHeartbeats 400000 in
theorem c_X9_heard {X : pX} {I J : IM} {h : Nat} {lw : Lw} {n : Nat} {m0 m1 : Mx} (hq : CqI I lw n m0 m1) (vil : Nat) (hv : vil < n) (N : Nat) (hN : I 10 0 = N) (hN9 : N ≤ 9) : KIq X (h + 6) mX9_heard [.ref 27, zi (vil : Int)] I J (fun z A Bj => z = spyS lw (I 7) (I 8) (I 9) n N m1 vil ∧ QC I lw n A ∧ J = Bj) := by
  obtain ⟨h1, h2, h3, h4, h5, h6, h7⟩ := hq
  show Rz X (h + 6) mX9_heard 0 [some (.ref 27), some (zi (vil : Int)), none, none, none, none, none] [] I J _
  refine rz_aload_n dX9_heard_0 rfl ?_
  refine rz_iconst dX9_heard_1 ?_
  refine rz_aload_n dX9_heard_2 rfl ?_
  refine rz_getR dX9_heard_3 kf_RX9_9 hd_27 rfl rr_27_0 ?_
  refine rz_getR dX9_heard_6 kf_RX9_32 hd_6 rfl rr_6_4 ?_
  refine rz_iconst dX9_heard_9 ?_
  refine rz_iald (z := (N : Int)) dX9_heard_10 hd_10 (by decide) (by omega) (by show I 10 0 = _; omega) ?_
  refine rz_cVIq dX9_heard_11 kl_RX9_35 hd_27 ⟨_, _, rfl⟩ (c_X9_earned0 lw h1 n h2 h3 h4 m1 h6 N hN9) rfl rfl (Nat.le_of_ble_eq_true rfl) (Nat.le_of_ble_eq_true rfl) ?_
  rintro _ _ _ ⟨rfl, ⟨B, g0, M0, hB, rfl, hg, hpl⟩, rfl⟩
  obtain ⟨hf1, hf2⟩ := SetQ_fr hB
  have hmB : MixC B 17 m1 := MixC_of (hf1 17 (by decide) (by decide) (by decide) (by decide)) (hf1 18 (by decide) (by decide) (by decide) (by decide)) (hf1 19 (by decide) (by decide) (by decide) (by decide)) h6
  have hnB : B 6 0 = n ∧ n ≤ 5 := ⟨by rw [hf1 6 (by decide) (by decide) (by decide) (by decide)]; exact h2.1, h2.2⟩
  have hPB := SetQ_pts hB
  have e7 := hf1 7 (by decide) (by decide) (by decide) (by decide)
  have e8 := hf1 8 (by decide) (by decide) (by decide) (by decide)
  have e9 := hf1 9 (by decide) (by decide) (by decide) (by decide)
  have e10 := hf1 10 (by decide) (by decide) (by decide) (by decide)
  have hmo := MixC_ok hmB
  have hl8 := lnN_le hmo.1
  refine rz_istore_n dX9_heard_14 (by decide) rfl ?_
  refine rz_aload_n dX9_heard_15 rfl ?_
  refine rz_getR dX9_heard_16 kf_RX9_15 hd_27 rfl rr_27_1 ?_
  refine rz_iconst dX9_heard_19 ?_
  refine rz_aald (by decide) dX9_heard_20 hd_13 (by decide) (by decide) rr_13_1 ?_
  refine rz_astore_n dX9_heard_21 (by decide) rfl ?_
  refine rz_iconst dX9_heard_22 ?_
  refine rz_istore (ls' := [some (.ref 27), some (zi (vil : Int)), some (zi (mx (gS lw (I 7) (I 8) (I 9) 0 m1) false n 0 N)), some (.ref 17), some (zi 0), none, none]) dX9_heard_23 (by decide) rfl ?_
  refine rz_iconst dX9_heard_25 ?_
  refine rz_istore dX9_heard_26 (by decide) rfl ?_
  refine rz_upx (σ := (Nat → Int) × (Nat → Int)) (Inv := fun s ss => True) (ls := fun (s : Nat) ss => [some (.ref 27), some (zi (vil : Int)), some (zi (mx (gS lw (I 7) (I 8) (I 9) 0 m1) false n 0 N)), some (.ref 17), some (zi (sumP (spF lw (I 7) (I 8) (I 9) n N m1 vil) s)), some (zi (s : Int)), none]) (IV := fun (s : Nat) ss => (upA (upA B 29 ss.1) 30 ss.2)) (JV := fun (s : Nat) ss => J) (10) ((g0, M0)) trivial ⟨Or.inr rfl, Or.inr rfl, Or.inr rfl, Or.inr rfl, Or.inr rfl, Or.inr rfl, Or.inl rfl, trivial⟩ (rfl) (rfl) ?_ ?_
  · intro s ss hs qs ihs
    obtain ⟨g, M⟩ := ss
    refine rz_to (ls' := [some (.ref 27), some (zi (vil : Int)), some (zi (mx (gS lw (I 7) (I 8) (I 9) 0 m1) false n 0 N)), some (.ref 17), some (zi (sumP (spF lw (I 7) (I 8) (I 9) n N m1 vil) s)), some (zi (s : Int)), none]) (I' := (upA (upA B 29 g) 30 M)) (J' := J) ⟨Or.inr rfl, Or.inr rfl, Or.inr rfl, Or.inr rfl, Or.inr rfl, Or.inr rfl, Or.inl rfl, trivial⟩ rfl rfl ?_
    refine rz_iload dX9_heard_28 rfl ?_
    refine rz_bipush dX9_heard_30 (by decide) ?_
    refine rz_icmp_gt (t := 119) dX9_heard_32 rfl (by omega) (by omega) (fun c32 => ?_) (fun c32 => ?_)
    · exfalso; omega
    · refine rz_aload_n dX9_heard_35 rfl ?_
      refine rz_getR dX9_heard_36 kf_RX9_22 hd_27 rfl rr_27_2 ?_
      refine rz_getR dX9_heard_39 kf_RX9_54 hd_28 rfl rr_28_0 ?_
      refine rz_iconst dX9_heard_42 ?_
      refine rz_cSV dX9_heard_43 kl_RX9_57 (c_fill X _ (upA (upA B 29 g) 30 M) J 29 50 0 hd_29 (by decide)) rfl rfl (Nat.le_of_ble_eq_true rfl) (Nat.le_of_ble_eq_true rfl) ?_
      refine rz_iconst dX9_heard_46 ?_
      refine rz_istore dX9_heard_47 (by decide) rfl ?_
      refine rz_up (ls := fun i : Nat => [some (.ref 27), some (zi (vil : Int)), some (zi (mx (gS lw (I 7) (I 8) (I 9) 0 m1) false n 0 N)), some (.ref 17), some (zi (sumP (spF lw (I 7) (I 8) (I 9) n N m1 vil) s)), some (zi (s : Int)), some (zi (i : Int))]) (IV := fun i : Nat => (acM (fillM (upA (upA B 29 g) 30 M) 29 50 0) 29 n i (fun i j => gFs lw (B 7) (B 8) (B 9) m1 vil s i j))) (JV := fun i : Nat => J) ((lnN m1)) ⟨Or.inr rfl, Or.inr rfl, Or.inr rfl, Or.inr rfl, Or.inr rfl, Or.inr rfl, Or.inr rfl, trivial⟩ ((acM_0 (fun j hj => by show (fillM (upA (upA B 29 g) 30 M) 29 50 0) 29 j = 0; unfold fillM; rw [upA_self, if_pos (by omega)]))) (rfl) ?_ ?_
      · intro i hi ihi
        have hl9 := loS_rg hmo hi (show vil < 5 by omega)
        refine rz_iload dX9_heard_49 rfl ?_
        refine rz_aload_n dX9_heard_51 rfl ?_
        refine rz_cVI dX9_heard_52 kl_RX9_63 hd_17 ⟨_, _, rfl⟩ (c_lines17 X _ (acM (fillM (upA (upA B 29 g) 30 M) 29 50 0) 29 n i (fun i j => gFs lw (B 7) (B 8) (B 9) m1 vil s i j)) J (MixC_ln hmB).1) rfl rfl (Nat.le_of_ble_eq_true rfl) (Nat.le_of_ble_eq_true rfl) ?_
        refine rz_ieq (y := (lnN m1 : Int)) (MixC_ln hmB).2.symm ?_
        refine rz_icmp_ge (t := 84) dX9_heard_55 rfl (by omega) (by omega) (fun c55 => ?_) (fun c55 => ?_)
        · exfalso; omega
        · refine rz_aload_n dX9_heard_58 rfl ?_
          refine rz_iload dX9_heard_59 rfl ?_
          refine rz_iload_n dX9_heard_61 rfl ?_
          refine rz_cVI dX9_heard_62 kl_RX9_77 hd_17 ⟨_, _, rfl⟩ (c_loavesAt17 X _ (acM (fillM (upA (upA B 29 g) 30 M) 29 50 0) 29 n i (fun i j => gFs lw (B 7) (B 8) (B 9) m1 vil s i j)) J i vil (MixC_ln hmB).1 (by omega) (by omega)) rfl rfl (Nat.le_of_ble_eq_true rfl) (Nat.le_of_ble_eq_true rfl) ?_
          refine rz_ieq (y := ((loS m1 i vil : Nat) : Int)) (MixC_lo hmB hi (by omega)).symm ?_
          refine rz_iload dX9_heard_65 rfl ?_
          refine rz_icmp_ne (t := 78) dX9_heard_67 rfl (by omega) (by omega) (fun c67 => ?_) (fun c67 => ?_)
          · refine rz_iinc dX9_heard_78 (by decide) rfl rfl rfl ?_
            refine rz_goto (t := 49) dX9_heard_81 rfl ?_
            exact rz_bk ihi ⟨Or.inr rfl, Or.inr rfl, Or.inr rfl, Or.inr rfl, Or.inr rfl, Or.inr rfl, Or.inr rfl, trivial⟩ ((acM_sn (fun j => if_neg (by omega)))) (rfl)
          · refine rz_aload_n dX9_heard_70 rfl ?_
            refine rz_iconst dX9_heard_71 ?_
            refine rz_aload_n dX9_heard_72 rfl ?_
            refine rz_iload dX9_heard_73 rfl ?_
            refine rz_cVV dX9_heard_75 kl_RX9_69 hd_27 ⟨_, _, rfl⟩ (c_X9_addGains0 (I := (acM (fillM (upA (upA B 29 g) 30 M) 29 50 0) 29 n i (fun i j => gFs lw (B 7) (B 8) (B 9) m1 vil s i j))) lw n hnB m1 i hmB hi hPB) rfl rfl (Nat.le_of_ble_eq_true rfl) (Nat.le_of_ble_eq_true rfl) ?_
            refine rz_iinc dX9_heard_78 (by decide) rfl rfl rfl ?_
            refine rz_goto (t := 49) dX9_heard_81 rfl ?_
            exact rz_bk ihi ⟨Or.inr rfl, Or.inr rfl, Or.inr rfl, Or.inr rfl, Or.inr rfl, Or.inr rfl, Or.inr rfl, trivial⟩ ((acM_sy (by funext j; exact if_pos (by omega)))) (rfl)
      · skip
        refine rz_iload dX9_heard_49 rfl ?_
        refine rz_aload_n dX9_heard_51 rfl ?_
        refine rz_cVI dX9_heard_52 kl_RX9_63 hd_17 ⟨_, _, rfl⟩ (c_lines17 X _ (acM (fillM (upA (upA B 29 g) 30 M) 29 50 0) 29 n ((lnN m1)) (fun i j => gFs lw (B 7) (B 8) (B 9) m1 vil s i j)) J (MixC_ln hmB).1) rfl rfl (Nat.le_of_ble_eq_true rfl) (Nat.le_of_ble_eq_true rfl) ?_
        refine rz_ieq (y := (lnN m1 : Int)) (MixC_ln hmB).2.symm ?_
        refine rz_icmp_ge (t := 84) dX9_heard_55 rfl (by omega) (by omega) (fun c55 => ?_) (fun c55 => ?_)
        · have hgs : ∀ v x, v < n → x ≤ 9 → (acM (fillM (upA (upA B 29 g) 30 M) 29 50 0) 29 n (lnN m1) (fun i j => gFs lw (B 7) (B 8) (B 9) m1 vil s i j)) 29 (10 * v + x) = gSs lw (I 7) (I 8) (I 9) m1 vil s v x := fun v x hv hx => by rw [acM_as hv hx, e7, e8, e9]
          have hGA : GRg (acM (fillM (upA (upA B 29 g) 30 M) 29 50 0) 29 n (lnN m1) (fun i j => gFs lw (B 7) (B 8) (B 9) m1 vil s i j)) 29 n := fun v x hv hx => by
            rw [hgs v x hv hx]
            have := gSs_rg (lw := lw) (W := I 7) (T := I 8) (U := I 9) (vil := vil) (s := s) (v := v) (x := x) hmo (h3 v hv).1
            omega
          refine rz_iload dX9_heard_84 rfl ?_
          refine rz_aload_n dX9_heard_86 rfl ?_
          refine rz_getR dX9_heard_87 kf_RX9_22 hd_27 rfl rr_27_2 ?_
          refine rz_aload_n dX9_heard_90 rfl ?_
          refine rz_getR dX9_heard_91 kf_RX9_9 hd_27 rfl rr_27_0 ?_
          refine rz_getI (z := (n : Int)) dX9_heard_94 kf_RX9_39 hd_6 rfl (hnB.1) ?_
          refine rz_aload_n dX9_heard_97 rfl ?_
          refine rz_getR dX9_heard_98 kf_RX9_9 hd_27 rfl rr_27_0 ?_
          refine rz_getR dX9_heard_101 kf_RX9_32 hd_6 rfl rr_6_4 ?_
          refine rz_iconst dX9_heard_104 ?_
          refine rz_iald (z := (N : Int)) dX9_heard_105 hd_10 (by decide) (by omega) (by show B 10 0 = _; rw [e10]; omega) ?_
          refine rz_iconst dX9_heard_106 ?_
          refine rz_cVIq dX9_heard_107 kl_RX9_73 hd_28 ⟨_, _, rfl⟩ ((show KIq X _ mX6_solve [.ref 28, zi (n : Int), zi (N : Int), zi 0] (acM (fillM (upA (upA B 29 g) 30 M) 29 50 0) 29 n (lnN m1) (fun i j => gFs lw (B 7) (B 8) (B 9) m1 vil s i j)) J _ from c_solve28 (I := (acM (fillM (upA (upA B 29 g) 30 M) 29 50 0) 29 n (lnN m1) (fun i j => gFs lw (B 7) (B 8) (B 9) m1 vil s i j))) n N false h2.2 hN9 hGA)) rfl rfl (Nat.le_of_ble_eq_true rfl) (Nat.le_of_ble_eq_true rfl) ?_
          rintro _ _ _ ⟨rfl, ⟨M2, rfl, hM2⟩, rfl⟩
          refine rz_ieq (y := spF lw (I 7) (I 8) (I 9) n N m1 vil s) (mx_congr hgs n 0 N (by omega) hN9).symm ?_
          refine rz_iadd dX9_heard_110 ?_
          refine rz_istore dX9_heard_111 (by decide) rfl ?_
          refine rz_iinc dX9_heard_113 (by decide) rfl rfl rfl ?_
          refine rz_goto (t := 28) dX9_heard_116 rfl ?_
          exact rz_bk (ihs (((acM (fillM (upA (upA B 29 g) 30 M) 29 50 0) 29 n (lnN m1) (fun i j => gFs lw (B 7) (B 8) (B 9) m1 vil s i j)) 29, M2)) (trivial)) ⟨Or.inr rfl, Or.inr rfl, Or.inr rfl, Or.inr rfl, Or.inr rfl, Or.inr rfl, Or.inl rfl, trivial⟩ (sp_mem) (rfl)
        · exfalso; omega
  · intro ss qs
    refine rz_iload dX9_heard_28 rfl ?_
    refine rz_bipush dX9_heard_30 (by decide) ?_
    refine rz_icmp_gt (t := 119) dX9_heard_32 rfl (by omega) (by omega) (fun c32 => ?_) (fun c32 => ?_)
    · refine rz_iload dX9_heard_119 rfl ?_
      refine rz_iload_n dX9_heard_121 rfl ?_
      refine rz_isub dX9_heard_122 ?_
      refine rz_iret dX9_heard_123 rfl ?_
      exact ⟨_, rfl, rfl, QC_up (by decide) (QC_up (by decide) (QC_set h4 hB)), rfl⟩
    · exfalso; omega
set_option maxRecDepth 20000 in
set_option maxHeartbeats 400000 in
theorem c_X11_spy {X : pX} {I J : IM} {h : Nat} {lw : Lw} {n : Nat} {m0 m1 : Mx} (hq : CqI I lw n m0 m1) (vil p : Int) (hv : rg vil) (hp : rg p) : KLq X (h + 7) mX11_spy [.ref 0, zi vil, zi p] I J (fun z A Bj => z = spyZ lw (I 7) (I 8) (I 9) (I 10) n m1 vil p ∧ QC I lw n A ∧ J = Bj) := by
  obtain ⟨h1, h2, h3, h4, h5, h6, h7⟩ := id hq
  have h8 := h7 0 (by decide)
  have h2n := h2.1
  have h25 := h2.2
  show Rz X (h + 7) mX11_spy 0 [some (.ref 0), some (zi vil), some (zi p)] [] I J _
  refine rz_aload_n dX11_spy_0 rfl ?_
  refine rz_getR dX11_spy_1 kf_RX11_21 hd_0 rfl rr_0_1 ?_
  refine rz_iload_n dX11_spy_4 rfl ?_
  refine rz_cVIq dX11_spy_5 kl_RX11_119 hd_6 ⟨_, _, rfl⟩ (c_X8_isVillage X _ I J vil (by omega) (by omega)) rfl rfl (Nat.le_of_ble_eq_true rfl) (Nat.le_of_ble_eq_true rfl) ?_
  rintro z5 A5 B5 ⟨⟨rfl, b5⟩ | ⟨rfl, b5⟩, rfl, rfl⟩
  · refine rz_if_eq (t := 18) dX11_spy_8 rfl (by omega) (fun q => absurd q (by decide)) (fun _ => ?_)
    refine rz_iload_n dX11_spy_11 rfl ?_
    refine rz_cSIq dX11_spy_12 kl_RX11_202 (c_X11_isPart X _ I J p (by omega)) rfl rfl (Nat.le_of_ble_eq_true rfl) (Nat.le_of_ble_eq_true rfl) ?_
    rintro z12 A12 B12 ⟨⟨rfl, b12⟩ | ⟨rfl, b12⟩, rfl, rfl⟩
    · refine rz_if_ne (t := 22) dX11_spy_15 rfl (by omega) (fun _ => ?_) (fun q => absurd q (by decide))
      refine rz_aload_n dX11_spy_22 rfl ?_
      refine rz_getR dX11_spy_23 kf_RX11_40 hd_0 rfl rr_0_5 ?_
      refine rz_iload_n dX11_spy_26 rfl ?_
      refine rz_cVIq dX11_spy_27 kl_RX11_219 hd_27 ⟨_, _, rfl⟩ ((by have q := c_X9_heard (X := X) (J := J) (h := h) hq vil.toNat (by omega) (I 10 0).toNat (by omega) (by omega); rw [show ((vil.toNat : Nat) : Int) = vil by omega] at q; exact q)) rfl rfl (Nat.le_of_ble_eq_true rfl) (Nat.le_of_ble_eq_true rfl) ?_
      rintro _ A _ ⟨rfl, hA, rfl⟩
      have hm1 : MixC A 17 m1 := MixC_of (hA.1.1 17 (by decide)) (hA.1.1 18 (by decide)) (hA.1.1 19 (by decide)) h6
      have hz := spy_bd (lw := lw) (W := I 7) (T := I 8) (U := I 9) (n := n) (N := (I 10 0).toNat) (vil := vil.toNat) (k := 10) h2.2 (by omega) (MixC_ok h6) (fun v hv => (h3 v hv).1) (Nat.le_refl _)
      have hz2 := mx_bd (lw := lw) (W := I 7) (T := I 8) (U := I 9) (b := 0) (N := (I 10 0).toNat) h2.2 (by omega) (MixC_ok h6) (fun v hv => (h3 v hv).1)
      have hz3 : -100000000 ≤ (spyS lw (I 7) (I 8) (I 9) n (I 10 0).toNat m1 vil.toNat) ∧ (spyS lw (I 7) (I 8) (I 9) n (I 10 0).toNat m1 vil.toNat) ≤ 100000000 := by unfold spyS; omega
      have hwb := whS_rg (MixC_ok h6)
      refine rz_i2l dX11_spy_30 (by omega) ?_
      refine rz_aload_n dX11_spy_31 rfl ?_
      refine rz_getR dX11_spy_32 kf_RX11_28 hd_0 rfl rr_0_2 ?_
      refine rz_iconst dX11_spy_35 ?_
      refine rz_aald (by decide) dX11_spy_36 hd_13 (by decide) (by decide) rr_13_1 ?_
      refine rz_cVI dX11_spy_37 kl_RX11_212 hd_17 ⟨_, _, rfl⟩ (c_whole17 X _ A J m1.1 hm1.1) rfl rfl (Nat.le_of_ble_eq_true rfl) (Nat.le_of_ble_eq_true rfl) ?_
      refine rz_ieq (y := whS m1) (MixC_wh hm1).symm ?_
      refine rz_i2l dX11_spy_40 (by omega) ?_
      refine rz_iload_n dX11_spy_41 rfl ?_
      refine rz_cSL dX11_spy_42 kl_RX11_215 (c_X11_inLowest (spyS lw (I 7) (I 8) (I 9) n (I 10 0).toNat m1 vil.toNat) (whS m1) p (by omega) (by omega) (by omega)) rfl rfl (Nat.le_of_ble_eq_true rfl) (Nat.le_of_ble_eq_true rfl) ?_
      refine rz_lret dX11_spy_45 rfl ?_
      exact ⟨_, rfl, (if_pos ⟨by omega, by omega⟩).symm, hA, rfl⟩
    · refine rz_if_ne (t := 22) dX11_spy_15 rfl (by omega) (fun q => absurd q (by decide)) (fun _ => ?_)
      refine rz_ldc2 (x := (-9223372036854775808)) dX11_spy_18 kk_RX11_207 (by decide) ?_
      refine rz_lret dX11_spy_21 rfl ?_
      exact ⟨_, rfl, (if_neg (by omega)).symm, QC_refl h4, rfl⟩
  · refine rz_if_eq (t := 18) dX11_spy_8 rfl (by omega) (fun _ => ?_) (fun q => absurd q (by decide))
    refine rz_ldc2 (x := (-9223372036854775808)) dX11_spy_18 kk_RX11_207 (by decide) ?_
    refine rz_lret dX11_spy_21 rfl ?_
    exact ⟨_, rfl, (if_neg (by omega)).symm, QC_refl h4, rfl⟩
