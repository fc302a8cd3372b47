/-! the acts -/
abbrev xorZ (a b : Int) : Int := (iz a ^^^ iz b).toInt
def stM (I : IM) (c : Int) : IM := upA (upA I 64 (up1 (I 64) (I 63 1).toNat c)) 63 (up1 (upA I 64 (up1 (I 64) (I 63 1).toNat c) 63) 1 (I 63 1 + 1))
def trM (I : IM) : List Int → IM
  | [] => I
  | c :: l => trM (stM I c) l
theorem stM_R {I : IM} {c : Int} : stM I c 63 1 = I 63 1 + 1 := rfl
theorem trM_R : ∀ {l : List Int} {I : IM}, trM I l 63 1 = I 63 1 + (l.length : Int)
  | [], I => by show I 63 1 = I 63 1 + 0; omega
  | c :: l, I => by
    show trM (stM I c) l 63 1 = _
    rw [trM_R, stM_R, List.length_cons]; omega
def stR (I : IM) (c : Int) : IM := upA (upA I 117 (up1 (I 117) (I 81 53).toNat c)) 81 (up1 (upA I 117 (up1 (I 117) (I 81 53).toNat c) 81) 53 (I 81 53 + 1))
def trR (I : IM) : List Int → IM
  | [] => I
  | c :: l => trR (stR I c) l
theorem stR_R {I : IM} {c : Int} : stR I c 81 53 = I 81 53 + 1 := rfl
theorem trR_R : ∀ {l : List Int} {I : IM}, trR I l 81 53 = I 81 53 + (l.length : Int)
  | [], I => by show I 81 53 = I 81 53 + 0; omega
  | c :: l, I => by
    show trR (stR I c) l 81 53 = _
    rw [trR_R, stR_R, List.length_cons]; omega
def pfM (I : IM) (n : Int) : IM := upA (upA I 63 (up1 (I 63) 1 0)) 63 (up1 (upA I 63 (up1 (I 63) 1 0) 63) 4 n)
set_option maxRecDepth 20000 in
set_option maxHeartbeats 400000 in
theorem c_X0_run_0_1_m1 (X : pX) (h : Nat) (I J : IM) (x d : Int) (hR : 0 ≤ I 63 1 ∧ I 63 1 ≤ 23) (hk : I 65 (I 63 4).toNat = 0) (ha : 0 ≤ I 63 4 ∧ I 63 4 < 50) (hd : 0 ≤ d ∧ d ≤ 100) : KI X h mX0_run [.ref 63, zi 1, zi (-1), zi x, zi d] I J ((x + (I 63 4))) (trM I [1]) J := by
  show Rz X h mX0_run 0 [some (.ref 63), some (zi 1), some (zi (-1)), some (zi x), some (zi d)] [] I J _
  refine rz_aload_n dX0_run_0 rfl ?_
  refine rz_getI (z := (I 63 1)) dX0_run_1 kf_RX0_20 hd_63 rfl rfl ?_
  refine rz_bipush dX0_run_4 (by decide) ?_
  refine rz_icmp_ge (t := 19) dX0_run_6 rfl (by omega) (by omega) (fun c6 => ?_) (fun c6 => ?_)
  · exfalso; omega
  · refine rz_aload_n dX0_run_9 rfl ?_
    refine rz_getR dX0_run_10 kf_RX0_9 hd_63 rfl rr_63_2 ?_
    refine rz_aload_n dX0_run_13 rfl ?_
    refine rz_getI (z := (I 63 1)) dX0_run_14 kf_RX0_20 hd_63 rfl rfl ?_
    refine rz_iload_n dX0_run_17 rfl ?_
    refine rz_iast dX0_run_18 hd_64 (by decide) (by omega) ?_
    refine rz_aload_n dX0_run_19 rfl ?_
    refine rz_dup dX0_run_20 rfl ?_
    refine rz_getI (z := (I 63 1)) dX0_run_21 kf_RX0_20 hd_63 rfl rfl ?_
    refine rz_iconst dX0_run_24 ?_
    refine rz_iadd dX0_run_25 ?_
    refine rz_putI dX0_run_26 kp_RX0_20 hd_63 rfl ?_
    refine rz_mem (I' := (stM I 1)) (J' := J) (rfl) (rfl) ?_
    refine rz_iload_n dX0_run_29 rfl ?_
    refine rz_lookup (t := 144) (off := 114) dX0_run_30 (by omega) (by decide) (by decide) rfl ?_
    refine rz_iload_n dX0_run_144 rfl ?_
    refine rz_aload_n dX0_run_145 rfl ?_
    refine rz_getI (z := (I 63 4)) dX0_run_146 kf_RX0_32 hd_63 rfl rfl ?_
    refine rz_iadd dX0_run_149 ?_
    refine rz_iret dX0_run_150 rfl ?_
    exact ⟨_, rfl, rfl, rfl, rfl⟩
set_option maxRecDepth 20000 in
set_option maxHeartbeats 400000 in
theorem c_X0_from_0_0_0 (X : pX) (h : Nat) (I J : IM) (x d : Int) (hR : 0 ≤ I 63 1 ∧ I 63 1 ≤ 23) (hk : I 65 (I 63 4).toNat = 0) (ha : 0 ≤ I 63 4 ∧ I 63 4 < 50) (hd : 0 ≤ d ∧ d ≤ 39) : KI X (h + 1) mX0_from [.ref 63, zi 0, zi 0, zi x, zi d] I J ((x + (I 63 4))) (trM I [1]) J := by
  show Rz X (h + 1) mX0_from 0 [some (.ref 63), some (zi 0), some (zi 0), some (zi x), some (zi d), none, none, none] [] I J _
  refine rz_iload_n dX0_from_0 rfl ?_
  refine rz_istore dX0_from_1 (by decide) rfl ?_
  refine rz_iconst dX0_from_3 ?_
  refine rz_istore dX0_from_4 (by decide) rfl ?_
  refine rz_iload dX0_from_6 rfl ?_
  refine rz_bipush dX0_from_8 (by decide) ?_
  refine rz_icmp_ge (t := 78) dX0_from_10 rfl (by omega) (by omega) (fun q => absurd q (by decide)) (fun _ => ?_)
  refine rz_iload dX0_from_13 rfl ?_
  refine rz_if_lt (t := 78) dX0_from_15 rfl (by omega) (fun q => absurd q (by decide)) (fun _ => ?_)
  refine rz_gets1 dX0_from_18 kf_RX0_43 ?_
  refine rz_iload dX0_from_21 rfl ?_
  refine rz_iconst dX0_from_23 ?_
  refine rz_imul dX0_from_24 ?_
  refine rz_iload_n dX0_from_25 rfl ?_
  refine rz_iadd dX0_from_26 ?_
  refine rz_tld1 (z := 1) dX0_from_27 (by decide) rfl ?_
  refine rz_istore (ls' := [some (.ref 63), some (zi 0), some (zi 0), some (zi x), some (zi d), some (zi 0), some (zi 0), some (zi 1)]) dX0_from_28 (by decide) rfl ?_
  refine rz_iload dX0_from_30 rfl ?_
  refine rz_if_eq (t := 64) dX0_from_32 rfl (by omega) (fun q => absurd q (by decide)) (fun _ => ?_)
  refine rz_iload dX0_from_35 rfl ?_
  refine rz_bipush dX0_from_37 (by decide) ?_
  refine rz_icmp_ge (t := 62) dX0_from_39 rfl (by omega) (by omega) (fun c39 => ?_) (fun c39 => ?_)
  · exfalso; omega
  · refine rz_aload_n dX0_from_42 rfl ?_
    refine rz_iload dX0_from_43 rfl ?_
    refine rz_gets0 dX0_from_45 kf_RX0_29 ?_
    refine rz_iload dX0_from_48 rfl ?_
    refine rz_tld0 (z := (-1)) dX0_from_50 (by decide) rfl ?_
    refine rz_iload_n dX0_from_51 rfl ?_
    refine rz_iload dX0_from_52 rfl ?_
    refine rz_iconst dX0_from_54 ?_
    refine rz_iadd dX0_from_55 ?_
    refine rz_cVI dX0_from_56 kl_RX0_46 hd_63 ⟨_, _, rfl⟩ (c_X0_run_0_1_m1 X _ I J x (d + 1) (by (try simp only [trM_R, stM_R, trR_R, stR_R, List.length_cons, List.length_nil]); omega) hk ha (by omega)) rfl rfl (Nat.le_of_ble_eq_true rfl) (Nat.le_of_ble_eq_true rfl) ?_
    refine rz_goto (t := 63) dX0_from_59 rfl ?_
    refine rz_iret dX0_from_63 rfl ?_
    exact ⟨_, rfl, rfl, rfl, rfl⟩
set_option maxRecDepth 20000 in
set_option maxHeartbeats 400000 in
theorem c_X0_own_0_0 (X : pX) (h : Nat) (I J : IM) (x d : Int) (hR : 0 ≤ I 63 1 ∧ I 63 1 ≤ 23) (hk : I 65 (I 63 4).toNat = 0) (ha : 0 ≤ I 63 4 ∧ I 63 4 < 50) (hd : 0 ≤ d ∧ d ≤ 39) : KI X (h + 2) mX0_own [.ref 63, zi 0, zi x, zi d] I J ((x + (I 63 4))) (trM I [1]) J := by
  show Rz X (h + 2) mX0_own 0 [some (.ref 63), some (zi 0), some (zi x), some (zi d)] [] I J _
  refine rz_aload_n dX0_own_0 rfl ?_
  refine rz_aload_n dX0_own_1 rfl ?_
  refine rz_getR dX0_own_2 kf_RX0_13 hd_63 rfl rr_63_3 ?_
  refine rz_aload_n dX0_own_5 rfl ?_
  refine rz_getI (z := (I 63 4)) dX0_own_6 kf_RX0_32 hd_63 rfl rfl ?_
  refine rz_iald (z := 0) dX0_own_9 hd_65 (by decide) (by omega) hk ?_
  refine rz_iload_n dX0_own_10 rfl ?_
  refine rz_iload_n dX0_own_11 rfl ?_
  refine rz_iload_n dX0_own_12 rfl ?_
  refine rz_cVI dX0_own_13 kl_RX0_39 hd_63 ⟨_, _, rfl⟩ (c_X0_from_0_0_0 X _ I J x d (by (try simp only [trM_R, stM_R, trR_R, stR_R, List.length_cons, List.length_nil]); omega) hk ha (by omega)) rfl rfl (Nat.le_of_ble_eq_true rfl) (Nat.le_of_ble_eq_true rfl) ?_
  refine rz_iret dX0_own_16 rfl ?_
  exact ⟨_, rfl, rfl, rfl, rfl⟩
set_option maxRecDepth 20000 in
set_option maxHeartbeats 400000 in
theorem c_perform_0_0 (X : pX) (h : Nat) (I J : IM) (n x : Int) (hn : 0 ≤ n ∧ n < I 63 0) (hb : I 63 0 ≤ 50) (hk : I 65 n.toNat = 0) : KI X (h + 3) mX0_perform [.ref 63, zi n, zi 0, zi x] I J ((x + n)) (trM (pfM I n) [1]) J := by
  show Rz X (h + 3) mX0_perform 0 [some (.ref 63), some (zi n), some (zi 0), some (zi x)] [] I J _
  refine rz_aload_n dX0_perform_0 rfl ?_
  refine rz_iconst dX0_perform_1 ?_
  refine rz_putI dX0_perform_2 kp_RX0_20 hd_63 rfl ?_
  refine rz_iload_n dX0_perform_5 rfl ?_
  refine rz_if_lt (t := 26) dX0_perform_6 rfl (by omega) (fun c6 => ?_) (fun c6 => ?_)
  · refine rz_iconst dX0_perform_26 ?_
    refine rz_iret dX0_perform_27 rfl ?_
    exfalso; omega
  · refine rz_iload_n dX0_perform_9 rfl ?_
    refine rz_aload_n dX0_perform_10 rfl ?_
    refine rz_getI (z := (I 63 0)) dX0_perform_11 kf_RX0_16 hd_63 rfl rfl ?_
    refine rz_icmp_ge (t := 26) dX0_perform_14 rfl (by omega) (by omega) (fun c14 => ?_) (fun c14 => ?_)
    · refine rz_iconst dX0_perform_26 ?_
      refine rz_iret dX0_perform_27 rfl ?_
      exfalso; omega
    · refine rz_iload_n dX0_perform_17 rfl ?_
      refine rz_if_lt (t := 26) dX0_perform_18 rfl (by omega) (fun q => absurd q (by decide)) (fun _ => ?_)
      refine rz_iload_n dX0_perform_21 rfl ?_
      refine rz_iconst dX0_perform_22 ?_
      refine rz_icmp_le (t := 28) dX0_perform_23 rfl (by omega) (by omega) (fun _ => ?_) (fun q => absurd q (by decide))
      refine rz_aload_n dX0_perform_28 rfl ?_
      refine rz_iload_n dX0_perform_29 rfl ?_
      refine rz_putI dX0_perform_30 kp_RX0_32 hd_63 rfl ?_
      refine rz_mem (I' := (pfM I n)) (J' := J) (rfl) (rfl) ?_
      refine rz_aload_n dX0_perform_33 rfl ?_
      refine rz_iload_n dX0_perform_34 rfl ?_
      refine rz_iload_n dX0_perform_35 rfl ?_
      refine rz_iconst dX0_perform_36 ?_
      refine rz_cVI dX0_perform_37 kl_RX0_35 hd_63 ⟨_, _, rfl⟩ (c_X0_own_0_0 X _ (pfM I n) J x 0 (by show (0 : Int) ≤ 0 ∧ (0 : Int) ≤ _; omega) hk (by show 0 ≤ n ∧ n < 50; omega) (by omega)) rfl rfl (Nat.le_of_ble_eq_true rfl) (Nat.le_of_ble_eq_true rfl) ?_
      refine rz_iret dX0_perform_40 rfl ?_
      exact ⟨_, rfl, rfl, rfl, rfl⟩
set_option maxRecDepth 20000 in
set_option maxHeartbeats 400000 in
theorem c_X0_run_0_10_m1 (X : pX) (h : Nat) (I J : IM) (x d : Int) (hR : 0 ≤ I 63 1 ∧ I 63 1 ≤ 22) (hk : I 65 (I 63 4).toNat = 0) (ha : 0 ≤ I 63 4 ∧ I 63 4 < 50) (hd : 0 ≤ d ∧ d ≤ 39) : KI X (h + 3) mX0_run [.ref 63, zi 10, zi (-1), zi x, zi d] I J (((x + (I 63 4)) * 2)) (trM I [10, 1]) J := by
  show Rz X (h + 3) mX0_run 0 [some (.ref 63), some (zi 10), some (zi (-1)), some (zi x), some (zi d)] [] I J _
  refine rz_aload_n dX0_run_0 rfl ?_
  refine rz_getI (z := (I 63 1)) dX0_run_1 kf_RX0_20 hd_63 rfl rfl ?_
  refine rz_bipush dX0_run_4 (by decide) ?_
  refine rz_icmp_ge (t := 19) dX0_run_6 rfl (by omega) (by omega) (fun c6 => ?_) (fun c6 => ?_)
  · exfalso; omega
  · refine rz_aload_n dX0_run_9 rfl ?_
    refine rz_getR dX0_run_10 kf_RX0_9 hd_63 rfl rr_63_2 ?_
    refine rz_aload_n dX0_run_13 rfl ?_
    refine rz_getI (z := (I 63 1)) dX0_run_14 kf_RX0_20 hd_63 rfl rfl ?_
    refine rz_iload_n dX0_run_17 rfl ?_
    refine rz_iast dX0_run_18 hd_64 (by decide) (by omega) ?_
    refine rz_aload_n dX0_run_19 rfl ?_
    refine rz_dup dX0_run_20 rfl ?_
    refine rz_getI (z := (I 63 1)) dX0_run_21 kf_RX0_20 hd_63 rfl rfl ?_
    refine rz_iconst dX0_run_24 ?_
    refine rz_iadd dX0_run_25 ?_
    refine rz_putI dX0_run_26 kp_RX0_20 hd_63 rfl ?_
    refine rz_mem (I' := (stM I 10)) (J' := J) (rfl) (rfl) ?_
    refine rz_iload_n dX0_run_29 rfl ?_
    refine rz_lookup (t := 169) (off := 139) dX0_run_30 (by omega) (by decide) (by decide) rfl ?_
    refine rz_aload_n dX0_run_169 rfl ?_
    refine rz_iconst dX0_run_170 ?_
    refine rz_iload_n dX0_run_171 rfl ?_
    refine rz_iload dX0_run_172 rfl ?_
    refine rz_cVI dX0_run_174 kl_RX0_35 hd_63 ⟨_, _, rfl⟩ (c_X0_own_0_0 X _ (stM I 10) J x d (by (try simp only [trM_R, stM_R, trR_R, stR_R, List.length_cons, List.length_nil]); omega) hk ha (by omega)) rfl rfl (Nat.le_of_ble_eq_true rfl) (Nat.le_of_ble_eq_true rfl) ?_
    refine rz_iconst dX0_run_177 ?_
    refine rz_imul dX0_run_178 ?_
    refine rz_iret dX0_run_179 rfl ?_
    exact ⟨_, rfl, rfl, rfl, rfl⟩
set_option maxRecDepth 20000 in
set_option maxHeartbeats 400000 in
theorem c_X0_from_0_0_1 (X : pX) (h : Nat) (I J : IM) (x d : Int) (hR : 0 ≤ I 63 1 ∧ I 63 1 ≤ 22) (hk : I 65 (I 63 4).toNat = 0) (ha : 0 ≤ I 63 4 ∧ I 63 4 < 50) (hd : 0 ≤ d ∧ d ≤ 38) : KI X (h + 4) mX0_from [.ref 63, zi 0, zi 1, zi x, zi d] I J (((x + (I 63 4)) * 2)) (trM I [10, 1]) J := by
  show Rz X (h + 4) mX0_from 0 [some (.ref 63), some (zi 0), some (zi 1), some (zi x), some (zi d), none, none, none] [] I J _
  refine rz_iload_n dX0_from_0 rfl ?_
  refine rz_istore dX0_from_1 (by decide) rfl ?_
  refine rz_iconst dX0_from_3 ?_
  refine rz_istore dX0_from_4 (by decide) rfl ?_
  refine rz_iload dX0_from_6 rfl ?_
  refine rz_bipush dX0_from_8 (by decide) ?_
  refine rz_icmp_ge (t := 78) dX0_from_10 rfl (by omega) (by omega) (fun q => absurd q (by decide)) (fun _ => ?_)
  refine rz_iload dX0_from_13 rfl ?_
  refine rz_if_lt (t := 78) dX0_from_15 rfl (by omega) (fun q => absurd q (by decide)) (fun _ => ?_)
  refine rz_gets1 dX0_from_18 kf_RX0_43 ?_
  refine rz_iload dX0_from_21 rfl ?_
  refine rz_iconst dX0_from_23 ?_
  refine rz_imul dX0_from_24 ?_
  refine rz_iload_n dX0_from_25 rfl ?_
  refine rz_iadd dX0_from_26 ?_
  refine rz_tld1 (z := 10) dX0_from_27 (by decide) rfl ?_
  refine rz_istore (ls' := [some (.ref 63), some (zi 0), some (zi 1), some (zi x), some (zi d), some (zi 0), some (zi 0), some (zi 10)]) dX0_from_28 (by decide) rfl ?_
  refine rz_iload dX0_from_30 rfl ?_
  refine rz_if_eq (t := 64) dX0_from_32 rfl (by omega) (fun q => absurd q (by decide)) (fun _ => ?_)
  refine rz_iload dX0_from_35 rfl ?_
  refine rz_bipush dX0_from_37 (by decide) ?_
  refine rz_icmp_ge (t := 62) dX0_from_39 rfl (by omega) (by omega) (fun c39 => ?_) (fun c39 => ?_)
  · exfalso; omega
  · refine rz_aload_n dX0_from_42 rfl ?_
    refine rz_iload dX0_from_43 rfl ?_
    refine rz_gets0 dX0_from_45 kf_RX0_29 ?_
    refine rz_iload dX0_from_48 rfl ?_
    refine rz_tld0 (z := (-1)) dX0_from_50 (by decide) rfl ?_
    refine rz_iload_n dX0_from_51 rfl ?_
    refine rz_iload dX0_from_52 rfl ?_
    refine rz_iconst dX0_from_54 ?_
    refine rz_iadd dX0_from_55 ?_
    refine rz_cVI dX0_from_56 kl_RX0_46 hd_63 ⟨_, _, rfl⟩ (c_X0_run_0_10_m1 X _ I J x (d + 1) (by (try simp only [trM_R, stM_R, trR_R, stR_R, List.length_cons, List.length_nil]); omega) hk ha (by omega)) rfl rfl (Nat.le_of_ble_eq_true rfl) (Nat.le_of_ble_eq_true rfl) ?_
    refine rz_goto (t := 63) dX0_from_59 rfl ?_
    refine rz_iret dX0_from_63 rfl ?_
    exact ⟨_, rfl, rfl, rfl, rfl⟩
set_option maxRecDepth 20000 in
set_option maxHeartbeats 400000 in
theorem c_X0_own_0_1 (X : pX) (h : Nat) (I J : IM) (x d : Int) (hR : 0 ≤ I 63 1 ∧ I 63 1 ≤ 22) (hk : I 65 (I 63 4).toNat = 0) (ha : 0 ≤ I 63 4 ∧ I 63 4 < 50) (hd : 0 ≤ d ∧ d ≤ 38) : KI X (h + 5) mX0_own [.ref 63, zi 1, zi x, zi d] I J (((x + (I 63 4)) * 2)) (trM I [10, 1]) J := by
  show Rz X (h + 5) mX0_own 0 [some (.ref 63), some (zi 1), some (zi x), some (zi d)] [] I J _
  refine rz_aload_n dX0_own_0 rfl ?_
  refine rz_aload_n dX0_own_1 rfl ?_
  refine rz_getR dX0_own_2 kf_RX0_13 hd_63 rfl rr_63_3 ?_
  refine rz_aload_n dX0_own_5 rfl ?_
  refine rz_getI (z := (I 63 4)) dX0_own_6 kf_RX0_32 hd_63 rfl rfl ?_
  refine rz_iald (z := 0) dX0_own_9 hd_65 (by decide) (by omega) hk ?_
  refine rz_iload_n dX0_own_10 rfl ?_
  refine rz_iload_n dX0_own_11 rfl ?_
  refine rz_iload_n dX0_own_12 rfl ?_
  refine rz_cVI dX0_own_13 kl_RX0_39 hd_63 ⟨_, _, rfl⟩ (c_X0_from_0_0_1 X _ I J x d (by (try simp only [trM_R, stM_R, trR_R, stR_R, List.length_cons, List.length_nil]); omega) hk ha (by omega)) rfl rfl (Nat.le_of_ble_eq_true rfl) (Nat.le_of_ble_eq_true rfl) ?_
  refine rz_iret dX0_own_16 rfl ?_
  exact ⟨_, rfl, rfl, rfl, rfl⟩
set_option maxRecDepth 20000 in
set_option maxHeartbeats 400000 in
theorem c_perform_0_1 (X : pX) (h : Nat) (I J : IM) (n x : Int) (hn : 0 ≤ n ∧ n < I 63 0) (hb : I 63 0 ≤ 50) (hk : I 65 n.toNat = 0) : KI X (h + 6) mX0_perform [.ref 63, zi n, zi 1, zi x] I J (((x + n) * 2)) (trM (pfM I n) [10, 1]) J := by
  show Rz X (h + 6) mX0_perform 0 [some (.ref 63), some (zi n), some (zi 1), some (zi x)] [] I J _
  refine rz_aload_n dX0_perform_0 rfl ?_
  refine rz_iconst dX0_perform_1 ?_
  refine rz_putI dX0_perform_2 kp_RX0_20 hd_63 rfl ?_
  refine rz_iload_n dX0_perform_5 rfl ?_
  refine rz_if_lt (t := 26) dX0_perform_6 rfl (by omega) (fun c6 => ?_) (fun c6 => ?_)
  · refine rz_iconst dX0_perform_26 ?_
    refine rz_iret dX0_perform_27 rfl ?_
    exfalso; omega
  · refine rz_iload_n dX0_perform_9 rfl ?_
    refine rz_aload_n dX0_perform_10 rfl ?_
    refine rz_getI (z := (I 63 0)) dX0_perform_11 kf_RX0_16 hd_63 rfl rfl ?_
    refine rz_icmp_ge (t := 26) dX0_perform_14 rfl (by omega) (by omega) (fun c14 => ?_) (fun c14 => ?_)
    · refine rz_iconst dX0_perform_26 ?_
      refine rz_iret dX0_perform_27 rfl ?_
      exfalso; omega
    · refine rz_iload_n dX0_perform_17 rfl ?_
      refine rz_if_lt (t := 26) dX0_perform_18 rfl (by omega) (fun q => absurd q (by decide)) (fun _ => ?_)
      refine rz_iload_n dX0_perform_21 rfl ?_
      refine rz_iconst dX0_perform_22 ?_
      refine rz_icmp_le (t := 28) dX0_perform_23 rfl (by omega) (by omega) (fun _ => ?_) (fun q => absurd q (by decide))
      refine rz_aload_n dX0_perform_28 rfl ?_
      refine rz_iload_n dX0_perform_29 rfl ?_
      refine rz_putI dX0_perform_30 kp_RX0_32 hd_63 rfl ?_
      refine rz_mem (I' := (pfM I n)) (J' := J) (rfl) (rfl) ?_
      refine rz_aload_n dX0_perform_33 rfl ?_
      refine rz_iload_n dX0_perform_34 rfl ?_
      refine rz_iload_n dX0_perform_35 rfl ?_
      refine rz_iconst dX0_perform_36 ?_
      refine rz_cVI dX0_perform_37 kl_RX0_35 hd_63 ⟨_, _, rfl⟩ (c_X0_own_0_1 X _ (pfM I n) J x 0 (by show (0 : Int) ≤ 0 ∧ (0 : Int) ≤ _; omega) hk (by show 0 ≤ n ∧ n < 50; omega) (by omega)) rfl rfl (Nat.le_of_ble_eq_true rfl) (Nat.le_of_ble_eq_true rfl) ?_
      refine rz_iret dX0_perform_40 rfl ?_
      exact ⟨_, rfl, rfl, rfl, rfl⟩
set_option maxRecDepth 20000 in
set_option maxHeartbeats 400000 in
theorem c_X0_run_0_11_m1 (X : pX) (h : Nat) (I J : IM) (x d : Int) (hR : 0 ≤ I 63 1 ∧ I 63 1 ≤ 23) (hk : I 65 (I 63 4).toNat = 0) (ha : 0 ≤ I 63 4 ∧ I 63 4 < 50) (hd : 0 ≤ d ∧ d ≤ 100) : KI X h mX0_run [.ref 63, zi 11, zi (-1), zi x, zi d] I J ((xorZ x (I 63 4))) (trM I [11]) J := by
  show Rz X h mX0_run 0 [some (.ref 63), some (zi 11), some (zi (-1)), some (zi x), some (zi d)] [] I J _
  refine rz_aload_n dX0_run_0 rfl ?_
  refine rz_getI (z := (I 63 1)) dX0_run_1 kf_RX0_20 hd_63 rfl rfl ?_
  refine rz_bipush dX0_run_4 (by decide) ?_
  refine rz_icmp_ge (t := 19) dX0_run_6 rfl (by omega) (by omega) (fun c6 => ?_) (fun c6 => ?_)
  · exfalso; omega
  · refine rz_aload_n dX0_run_9 rfl ?_
    refine rz_getR dX0_run_10 kf_RX0_9 hd_63 rfl rr_63_2 ?_
    refine rz_aload_n dX0_run_13 rfl ?_
    refine rz_getI (z := (I 63 1)) dX0_run_14 kf_RX0_20 hd_63 rfl rfl ?_
    refine rz_iload_n dX0_run_17 rfl ?_
    refine rz_iast dX0_run_18 hd_64 (by decide) (by omega) ?_
    refine rz_aload_n dX0_run_19 rfl ?_
    refine rz_dup dX0_run_20 rfl ?_
    refine rz_getI (z := (I 63 1)) dX0_run_21 kf_RX0_20 hd_63 rfl rfl ?_
    refine rz_iconst dX0_run_24 ?_
    refine rz_iadd dX0_run_25 ?_
    refine rz_putI dX0_run_26 kp_RX0_20 hd_63 rfl ?_
    refine rz_mem (I' := (stM I 11)) (J' := J) (rfl) (rfl) ?_
    refine rz_iload_n dX0_run_29 rfl ?_
    refine rz_lookup (t := 180) (off := 150) dX0_run_30 (by omega) (by decide) (by decide) rfl ?_
    refine rz_iload_n dX0_run_180 rfl ?_
    refine rz_aload_n dX0_run_181 rfl ?_
    refine rz_getI (z := (I 63 4)) dX0_run_182 kf_RX0_32 hd_63 rfl rfl ?_
    refine rz_ixor dX0_run_185 ?_
    refine rz_iret dX0_run_186 rfl ?_
    exact ⟨_, rfl, rfl, rfl, rfl⟩
set_option maxRecDepth 20000 in
set_option maxHeartbeats 400000 in
theorem c_X0_from_0_0_2 (X : pX) (h : Nat) (I J : IM) (x d : Int) (hR : 0 ≤ I 63 1 ∧ I 63 1 ≤ 23) (hk : I 65 (I 63 4).toNat = 0) (ha : 0 ≤ I 63 4 ∧ I 63 4 < 50) (hd : 0 ≤ d ∧ d ≤ 39) : KI X (h + 1) mX0_from [.ref 63, zi 0, zi 2, zi x, zi d] I J ((xorZ x (I 63 4))) (trM I [11]) J := by
  show Rz X (h + 1) mX0_from 0 [some (.ref 63), some (zi 0), some (zi 2), some (zi x), some (zi d), none, none, none] [] I J _
  refine rz_iload_n dX0_from_0 rfl ?_
  refine rz_istore dX0_from_1 (by decide) rfl ?_
  refine rz_iconst dX0_from_3 ?_
  refine rz_istore dX0_from_4 (by decide) rfl ?_
  refine rz_iload dX0_from_6 rfl ?_
  refine rz_bipush dX0_from_8 (by decide) ?_
  refine rz_icmp_ge (t := 78) dX0_from_10 rfl (by omega) (by omega) (fun q => absurd q (by decide)) (fun _ => ?_)
  refine rz_iload dX0_from_13 rfl ?_
  refine rz_if_lt (t := 78) dX0_from_15 rfl (by omega) (fun q => absurd q (by decide)) (fun _ => ?_)
  refine rz_gets1 dX0_from_18 kf_RX0_43 ?_
  refine rz_iload dX0_from_21 rfl ?_
  refine rz_iconst dX0_from_23 ?_
  refine rz_imul dX0_from_24 ?_
  refine rz_iload_n dX0_from_25 rfl ?_
  refine rz_iadd dX0_from_26 ?_
  refine rz_tld1 (z := 11) dX0_from_27 (by decide) rfl ?_
  refine rz_istore (ls' := [some (.ref 63), some (zi 0), some (zi 2), some (zi x), some (zi d), some (zi 0), some (zi 0), some (zi 11)]) dX0_from_28 (by decide) rfl ?_
  refine rz_iload dX0_from_30 rfl ?_
  refine rz_if_eq (t := 64) dX0_from_32 rfl (by omega) (fun q => absurd q (by decide)) (fun _ => ?_)
  refine rz_iload dX0_from_35 rfl ?_
  refine rz_bipush dX0_from_37 (by decide) ?_
  refine rz_icmp_ge (t := 62) dX0_from_39 rfl (by omega) (by omega) (fun c39 => ?_) (fun c39 => ?_)
  · exfalso; omega
  · refine rz_aload_n dX0_from_42 rfl ?_
    refine rz_iload dX0_from_43 rfl ?_
    refine rz_gets0 dX0_from_45 kf_RX0_29 ?_
    refine rz_iload dX0_from_48 rfl ?_
    refine rz_tld0 (z := (-1)) dX0_from_50 (by decide) rfl ?_
    refine rz_iload_n dX0_from_51 rfl ?_
    refine rz_iload dX0_from_52 rfl ?_
    refine rz_iconst dX0_from_54 ?_
    refine rz_iadd dX0_from_55 ?_
    refine rz_cVI dX0_from_56 kl_RX0_46 hd_63 ⟨_, _, rfl⟩ (c_X0_run_0_11_m1 X _ I J x (d + 1) (by (try simp only [trM_R, stM_R, trR_R, stR_R, List.length_cons, List.length_nil]); omega) hk ha (by omega)) rfl rfl (Nat.le_of_ble_eq_true rfl) (Nat.le_of_ble_eq_true rfl) ?_
    refine rz_goto (t := 63) dX0_from_59 rfl ?_
    refine rz_iret dX0_from_63 rfl ?_
    exact ⟨_, rfl, rfl, rfl, rfl⟩
set_option maxRecDepth 20000 in
set_option maxHeartbeats 400000 in
theorem c_X0_own_0_2 (X : pX) (h : Nat) (I J : IM) (x d : Int) (hR : 0 ≤ I 63 1 ∧ I 63 1 ≤ 23) (hk : I 65 (I 63 4).toNat = 0) (ha : 0 ≤ I 63 4 ∧ I 63 4 < 50) (hd : 0 ≤ d ∧ d ≤ 39) : KI X (h + 2) mX0_own [.ref 63, zi 2, zi x, zi d] I J ((xorZ x (I 63 4))) (trM I [11]) J := by
  show Rz X (h + 2) mX0_own 0 [some (.ref 63), some (zi 2), some (zi x), some (zi d)] [] I J _
  refine rz_aload_n dX0_own_0 rfl ?_
  refine rz_aload_n dX0_own_1 rfl ?_
  refine rz_getR dX0_own_2 kf_RX0_13 hd_63 rfl rr_63_3 ?_
  refine rz_aload_n dX0_own_5 rfl ?_
  refine rz_getI (z := (I 63 4)) dX0_own_6 kf_RX0_32 hd_63 rfl rfl ?_
  refine rz_iald (z := 0) dX0_own_9 hd_65 (by decide) (by omega) hk ?_
  refine rz_iload_n dX0_own_10 rfl ?_
  refine rz_iload_n dX0_own_11 rfl ?_
  refine rz_iload_n dX0_own_12 rfl ?_
  refine rz_cVI dX0_own_13 kl_RX0_39 hd_63 ⟨_, _, rfl⟩ (c_X0_from_0_0_2 X _ I J x d (by (try simp only [trM_R, stM_R, trR_R, stR_R, List.length_cons, List.length_nil]); omega) hk ha (by omega)) rfl rfl (Nat.le_of_ble_eq_true rfl) (Nat.le_of_ble_eq_true rfl) ?_
  refine rz_iret dX0_own_16 rfl ?_
  exact ⟨_, rfl, rfl, rfl, rfl⟩
set_option maxRecDepth 20000 in
set_option maxHeartbeats 400000 in
theorem c_perform_0_2 (X : pX) (h : Nat) (I J : IM) (n x : Int) (hn : 0 ≤ n ∧ n < I 63 0) (hb : I 63 0 ≤ 50) (hk : I 65 n.toNat = 0) : KI X (h + 3) mX0_perform [.ref 63, zi n, zi 2, zi x] I J ((xorZ x n)) (trM (pfM I n) [11]) J := by
  show Rz X (h + 3) mX0_perform 0 [some (.ref 63), some (zi n), some (zi 2), some (zi x)] [] I J _
  refine rz_aload_n dX0_perform_0 rfl ?_
  refine rz_iconst dX0_perform_1 ?_
  refine rz_putI dX0_perform_2 kp_RX0_20 hd_63 rfl ?_
  refine rz_iload_n dX0_perform_5 rfl ?_
  refine rz_if_lt (t := 26) dX0_perform_6 rfl (by omega) (fun c6 => ?_) (fun c6 => ?_)
  · refine rz_iconst dX0_perform_26 ?_
    refine rz_iret dX0_perform_27 rfl ?_
    exfalso; omega
  · refine rz_iload_n dX0_perform_9 rfl ?_
    refine rz_aload_n dX0_perform_10 rfl ?_
    refine rz_getI (z := (I 63 0)) dX0_perform_11 kf_RX0_16 hd_63 rfl rfl ?_
    refine rz_icmp_ge (t := 26) dX0_perform_14 rfl (by omega) (by omega) (fun c14 => ?_) (fun c14 => ?_)
    · refine rz_iconst dX0_perform_26 ?_
      refine rz_iret dX0_perform_27 rfl ?_
      exfalso; omega
    · refine rz_iload_n dX0_perform_17 rfl ?_
      refine rz_if_lt (t := 26) dX0_perform_18 rfl (by omega) (fun q => absurd q (by decide)) (fun _ => ?_)
      refine rz_iload_n dX0_perform_21 rfl ?_
      refine rz_iconst dX0_perform_22 ?_
      refine rz_icmp_le (t := 28) dX0_perform_23 rfl (by omega) (by omega) (fun _ => ?_) (fun q => absurd q (by decide))
      refine rz_aload_n dX0_perform_28 rfl ?_
      refine rz_iload_n dX0_perform_29 rfl ?_
      refine rz_putI dX0_perform_30 kp_RX0_32 hd_63 rfl ?_
      refine rz_mem (I' := (pfM I n)) (J' := J) (rfl) (rfl) ?_
      refine rz_aload_n dX0_perform_33 rfl ?_
      refine rz_iload_n dX0_perform_34 rfl ?_
      refine rz_iload_n dX0_perform_35 rfl ?_
      refine rz_iconst dX0_perform_36 ?_
      refine rz_cVI dX0_perform_37 kl_RX0_35 hd_63 ⟨_, _, rfl⟩ (c_X0_own_0_2 X _ (pfM I n) J x 0 (by show (0 : Int) ≤ 0 ∧ (0 : Int) ≤ _; omega) hk (by show 0 ≤ n ∧ n < 50; omega) (by omega)) rfl rfl (Nat.le_of_ble_eq_true rfl) (Nat.le_of_ble_eq_true rfl) ?_
      refine rz_iret dX0_perform_40 rfl ?_
      exact ⟨_, rfl, rfl, rfl, rfl⟩
set_option maxRecDepth 20000 in
set_option maxHeartbeats 400000 in
theorem c_X0_run_0_2_m1 (X : pX) (h : Nat) (I J : IM) (x d : Int) (hR : 0 ≤ I 63 1 ∧ I 63 1 ≤ 20) (hk : I 65 (I 63 4).toNat = 0) (ha : 0 ≤ I 63 4 ∧ I 63 4 < 50) (hd : 0 ≤ d ∧ d ≤ 38) : KI X (h + 6) mX0_run [.ref 63, zi 2, zi (-1), zi x, zi d] I J ((((x + (I 63 4)) * 2) - (xorZ 1 (I 63 4)))) (trM I [2, 10, 1, 11]) J := by
  show Rz X (h + 6) mX0_run 0 [some (.ref 63), some (zi 2), some (zi (-1)), some (zi x), some (zi d)] [] I J _
  refine rz_aload_n dX0_run_0 rfl ?_
  refine rz_getI (z := (I 63 1)) dX0_run_1 kf_RX0_20 hd_63 rfl rfl ?_
  refine rz_bipush dX0_run_4 (by decide) ?_
  refine rz_icmp_ge (t := 19) dX0_run_6 rfl (by omega) (by omega) (fun c6 => ?_) (fun c6 => ?_)
  · exfalso; omega
  · refine rz_aload_n dX0_run_9 rfl ?_
    refine rz_getR dX0_run_10 kf_RX0_9 hd_63 rfl rr_63_2 ?_
    refine rz_aload_n dX0_run_13 rfl ?_
    refine rz_getI (z := (I 63 1)) dX0_run_14 kf_RX0_20 hd_63 rfl rfl ?_
    refine rz_iload_n dX0_run_17 rfl ?_
    refine rz_iast dX0_run_18 hd_64 (by decide) (by omega) ?_
    refine rz_aload_n dX0_run_19 rfl ?_
    refine rz_dup dX0_run_20 rfl ?_
    refine rz_getI (z := (I 63 1)) dX0_run_21 kf_RX0_20 hd_63 rfl rfl ?_
    refine rz_iconst dX0_run_24 ?_
    refine rz_iadd dX0_run_25 ?_
    refine rz_putI dX0_run_26 kp_RX0_20 hd_63 rfl ?_
    refine rz_mem (I' := (stM I 2)) (J' := J) (rfl) (rfl) ?_
    refine rz_iload_n dX0_run_29 rfl ?_
    refine rz_lookup (t := 151) (off := 121) dX0_run_30 (by omega) (by decide) (by decide) rfl ?_
    refine rz_aload_n dX0_run_151 rfl ?_
    refine rz_iconst dX0_run_152 ?_
    refine rz_iload_n dX0_run_153 rfl ?_
    refine rz_iload dX0_run_154 rfl ?_
    refine rz_cVI dX0_run_156 kl_RX0_35 hd_63 ⟨_, _, rfl⟩ (c_X0_own_0_1 X _ (stM I 2) J x d (by (try simp only [trM_R, stM_R, trR_R, stR_R, List.length_cons, List.length_nil]); omega) hk ha (by omega)) rfl rfl (Nat.le_of_ble_eq_true rfl) (Nat.le_of_ble_eq_true rfl) ?_
    refine rz_aload_n dX0_run_159 rfl ?_
    refine rz_iconst dX0_run_160 ?_
    refine rz_iconst dX0_run_161 ?_
    refine rz_iload dX0_run_162 rfl ?_
    refine rz_cVI dX0_run_164 kl_RX0_35 hd_63 ⟨_, _, rfl⟩ (c_X0_own_0_2 X _ (trM (stM I 2) [10, 1]) J 1 d (by (try simp only [trM_R, stM_R, trR_R, stR_R, List.length_cons, List.length_nil]); omega) hk ha (by omega)) rfl rfl (Nat.le_of_ble_eq_true rfl) (Nat.le_of_ble_eq_true rfl) ?_
    refine rz_isub dX0_run_167 ?_
    refine rz_iret dX0_run_168 rfl ?_
    exact ⟨_, rfl, rfl, rfl, rfl⟩
set_option maxRecDepth 20000 in
set_option maxHeartbeats 400000 in
theorem c_X0_from_0_0_3 (X : pX) (h : Nat) (I J : IM) (x d : Int) (hR : 0 ≤ I 63 1 ∧ I 63 1 ≤ 20) (hk : I 65 (I 63 4).toNat = 0) (ha : 0 ≤ I 63 4 ∧ I 63 4 < 50) (hd : 0 ≤ d ∧ d ≤ 37) : KI X (h + 7) mX0_from [.ref 63, zi 0, zi 3, zi x, zi d] I J ((((x + (I 63 4)) * 2) - (xorZ 1 (I 63 4)))) (trM I [2, 10, 1, 11]) J := by
  show Rz X (h + 7) mX0_from 0 [some (.ref 63), some (zi 0), some (zi 3), some (zi x), some (zi d), none, none, none] [] I J _
  refine rz_iload_n dX0_from_0 rfl ?_
  refine rz_istore dX0_from_1 (by decide) rfl ?_
  refine rz_iconst dX0_from_3 ?_
  refine rz_istore dX0_from_4 (by decide) rfl ?_
  refine rz_iload dX0_from_6 rfl ?_
  refine rz_bipush dX0_from_8 (by decide) ?_
  refine rz_icmp_ge (t := 78) dX0_from_10 rfl (by omega) (by omega) (fun q => absurd q (by decide)) (fun _ => ?_)
  refine rz_iload dX0_from_13 rfl ?_
  refine rz_if_lt (t := 78) dX0_from_15 rfl (by omega) (fun q => absurd q (by decide)) (fun _ => ?_)
  refine rz_gets1 dX0_from_18 kf_RX0_43 ?_
  refine rz_iload dX0_from_21 rfl ?_
  refine rz_iconst dX0_from_23 ?_
  refine rz_imul dX0_from_24 ?_
  refine rz_iload_n dX0_from_25 rfl ?_
  refine rz_iadd dX0_from_26 ?_
  refine rz_tld1 (z := 2) dX0_from_27 (by decide) rfl ?_
  refine rz_istore (ls' := [some (.ref 63), some (zi 0), some (zi 3), some (zi x), some (zi d), some (zi 0), some (zi 0), some (zi 2)]) dX0_from_28 (by decide) rfl ?_
  refine rz_iload dX0_from_30 rfl ?_
  refine rz_if_eq (t := 64) dX0_from_32 rfl (by omega) (fun q => absurd q (by decide)) (fun _ => ?_)
  refine rz_iload dX0_from_35 rfl ?_
  refine rz_bipush dX0_from_37 (by decide) ?_
  refine rz_icmp_ge (t := 62) dX0_from_39 rfl (by omega) (by omega) (fun c39 => ?_) (fun c39 => ?_)
  · exfalso; omega
  · refine rz_aload_n dX0_from_42 rfl ?_
    refine rz_iload dX0_from_43 rfl ?_
    refine rz_gets0 dX0_from_45 kf_RX0_29 ?_
    refine rz_iload dX0_from_48 rfl ?_
    refine rz_tld0 (z := (-1)) dX0_from_50 (by decide) rfl ?_
    refine rz_iload_n dX0_from_51 rfl ?_
    refine rz_iload dX0_from_52 rfl ?_
    refine rz_iconst dX0_from_54 ?_
    refine rz_iadd dX0_from_55 ?_
    refine rz_cVI dX0_from_56 kl_RX0_46 hd_63 ⟨_, _, rfl⟩ (c_X0_run_0_2_m1 X _ I J x (d + 1) (by (try simp only [trM_R, stM_R, trR_R, stR_R, List.length_cons, List.length_nil]); omega) hk ha (by omega)) rfl rfl (Nat.le_of_ble_eq_true rfl) (Nat.le_of_ble_eq_true rfl) ?_
    refine rz_goto (t := 63) dX0_from_59 rfl ?_
    refine rz_iret dX0_from_63 rfl ?_
    exact ⟨_, rfl, rfl, rfl, rfl⟩
set_option maxRecDepth 20000 in
set_option maxHeartbeats 400000 in
theorem c_X0_own_0_3 (X : pX) (h : Nat) (I J : IM) (x d : Int) (hR : 0 ≤ I 63 1 ∧ I 63 1 ≤ 20) (hk : I 65 (I 63 4).toNat = 0) (ha : 0 ≤ I 63 4 ∧ I 63 4 < 50) (hd : 0 ≤ d ∧ d ≤ 37) : KI X (h + 8) mX0_own [.ref 63, zi 3, zi x, zi d] I J ((((x + (I 63 4)) * 2) - (xorZ 1 (I 63 4)))) (trM I [2, 10, 1, 11]) J := by
  show Rz X (h + 8) mX0_own 0 [some (.ref 63), some (zi 3), some (zi x), some (zi d)] [] I J _
  refine rz_aload_n dX0_own_0 rfl ?_
  refine rz_aload_n dX0_own_1 rfl ?_
  refine rz_getR dX0_own_2 kf_RX0_13 hd_63 rfl rr_63_3 ?_
  refine rz_aload_n dX0_own_5 rfl ?_
  refine rz_getI (z := (I 63 4)) dX0_own_6 kf_RX0_32 hd_63 rfl rfl ?_
  refine rz_iald (z := 0) dX0_own_9 hd_65 (by decide) (by omega) hk ?_
  refine rz_iload_n dX0_own_10 rfl ?_
  refine rz_iload_n dX0_own_11 rfl ?_
  refine rz_iload_n dX0_own_12 rfl ?_
  refine rz_cVI dX0_own_13 kl_RX0_39 hd_63 ⟨_, _, rfl⟩ (c_X0_from_0_0_3 X _ I J x d (by (try simp only [trM_R, stM_R, trR_R, stR_R, List.length_cons, List.length_nil]); omega) hk ha (by omega)) rfl rfl (Nat.le_of_ble_eq_true rfl) (Nat.le_of_ble_eq_true rfl) ?_
  refine rz_iret dX0_own_16 rfl ?_
  exact ⟨_, rfl, rfl, rfl, rfl⟩
set_option maxRecDepth 20000 in
set_option maxHeartbeats 400000 in
theorem c_perform_0_3 (X : pX) (h : Nat) (I J : IM) (n x : Int) (hn : 0 ≤ n ∧ n < I 63 0) (hb : I 63 0 ≤ 50) (hk : I 65 n.toNat = 0) : KI X (h + 9) mX0_perform [.ref 63, zi n, zi 3, zi x] I J ((((x + n) * 2) - (xorZ 1 n))) (trM (pfM I n) [2, 10, 1, 11]) J := by
  show Rz X (h + 9) mX0_perform 0 [some (.ref 63), some (zi n), some (zi 3), some (zi x)] [] I J _
  refine rz_aload_n dX0_perform_0 rfl ?_
  refine rz_iconst dX0_perform_1 ?_
  refine rz_putI dX0_perform_2 kp_RX0_20 hd_63 rfl ?_
  refine rz_iload_n dX0_perform_5 rfl ?_
  refine rz_if_lt (t := 26) dX0_perform_6 rfl (by omega) (fun c6 => ?_) (fun c6 => ?_)
  · refine rz_iconst dX0_perform_26 ?_
    refine rz_iret dX0_perform_27 rfl ?_
    exfalso; omega
  · refine rz_iload_n dX0_perform_9 rfl ?_
    refine rz_aload_n dX0_perform_10 rfl ?_
    refine rz_getI (z := (I 63 0)) dX0_perform_11 kf_RX0_16 hd_63 rfl rfl ?_
    refine rz_icmp_ge (t := 26) dX0_perform_14 rfl (by omega) (by omega) (fun c14 => ?_) (fun c14 => ?_)
    · refine rz_iconst dX0_perform_26 ?_
      refine rz_iret dX0_perform_27 rfl ?_
      exfalso; omega
    · refine rz_iload_n dX0_perform_17 rfl ?_
      refine rz_if_lt (t := 26) dX0_perform_18 rfl (by omega) (fun q => absurd q (by decide)) (fun _ => ?_)
      refine rz_iload_n dX0_perform_21 rfl ?_
      refine rz_iconst dX0_perform_22 ?_
      refine rz_icmp_le (t := 28) dX0_perform_23 rfl (by omega) (by omega) (fun _ => ?_) (fun q => absurd q (by decide))
      refine rz_aload_n dX0_perform_28 rfl ?_
      refine rz_iload_n dX0_perform_29 rfl ?_
      refine rz_putI dX0_perform_30 kp_RX0_32 hd_63 rfl ?_
      refine rz_mem (I' := (pfM I n)) (J' := J) (rfl) (rfl) ?_
      refine rz_aload_n dX0_perform_33 rfl ?_
      refine rz_iload_n dX0_perform_34 rfl ?_
      refine rz_iload_n dX0_perform_35 rfl ?_
      refine rz_iconst dX0_perform_36 ?_
      refine rz_cVI dX0_perform_37 kl_RX0_35 hd_63 ⟨_, _, rfl⟩ (c_X0_own_0_3 X _ (pfM I n) J x 0 (by show (0 : Int) ≤ 0 ∧ (0 : Int) ≤ _; omega) hk (by show 0 ≤ n ∧ n < 50; omega) (by omega)) rfl rfl (Nat.le_of_ble_eq_true rfl) (Nat.le_of_ble_eq_true rfl) ?_
      refine rz_iret dX0_perform_40 rfl ?_
      exact ⟨_, rfl, rfl, rfl, rfl⟩
set_option maxRecDepth 20000 in
set_option maxHeartbeats 400000 in
theorem c_X0_run_1_1_m1 (X : pX) (h : Nat) (I J : IM) (x d : Int) (hR : 0 ≤ I 63 1 ∧ I 63 1 ≤ 23) (hk : I 65 (I 63 4).toNat = 1) (ha : 0 ≤ I 63 4 ∧ I 63 4 < 50) (hd : 0 ≤ d ∧ d ≤ 100) : KI X h mX0_run [.ref 63, zi 1, zi (-1), zi x, zi d] I J ((x + (I 63 4))) (trM I [1]) J := by
  show Rz X h mX0_run 0 [some (.ref 63), some (zi 1), some (zi (-1)), some (zi x), some (zi d)] [] I J _
  refine rz_aload_n dX0_run_0 rfl ?_
  refine rz_getI (z := (I 63 1)) dX0_run_1 kf_RX0_20 hd_63 rfl rfl ?_
  refine rz_bipush dX0_run_4 (by decide) ?_
  refine rz_icmp_ge (t := 19) dX0_run_6 rfl (by omega) (by omega) (fun c6 => ?_) (fun c6 => ?_)
  · exfalso; omega
  · refine rz_aload_n dX0_run_9 rfl ?_
    refine rz_getR dX0_run_10 kf_RX0_9 hd_63 rfl rr_63_2 ?_
    refine rz_aload_n dX0_run_13 rfl ?_
    refine rz_getI (z := (I 63 1)) dX0_run_14 kf_RX0_20 hd_63 rfl rfl ?_
    refine rz_iload_n dX0_run_17 rfl ?_
    refine rz_iast dX0_run_18 hd_64 (by decide) (by omega) ?_
    refine rz_aload_n dX0_run_19 rfl ?_
    refine rz_dup dX0_run_20 rfl ?_
    refine rz_getI (z := (I 63 1)) dX0_run_21 kf_RX0_20 hd_63 rfl rfl ?_
    refine rz_iconst dX0_run_24 ?_
    refine rz_iadd dX0_run_25 ?_
    refine rz_putI dX0_run_26 kp_RX0_20 hd_63 rfl ?_
    refine rz_mem (I' := (stM I 1)) (J' := J) (rfl) (rfl) ?_
    refine rz_iload_n dX0_run_29 rfl ?_
    refine rz_lookup (t := 144) (off := 114) dX0_run_30 (by omega) (by decide) (by decide) rfl ?_
    refine rz_iload_n dX0_run_144 rfl ?_
    refine rz_aload_n dX0_run_145 rfl ?_
    refine rz_getI (z := (I 63 4)) dX0_run_146 kf_RX0_32 hd_63 rfl rfl ?_
    refine rz_iadd dX0_run_149 ?_
    refine rz_iret dX0_run_150 rfl ?_
    exact ⟨_, rfl, rfl, rfl, rfl⟩
set_option maxRecDepth 20000 in
set_option maxHeartbeats 400000 in
theorem c_X0_from_1_0_0 (X : pX) (h : Nat) (I J : IM) (x d : Int) (hR : 0 ≤ I 63 1 ∧ I 63 1 ≤ 23) (hk : I 65 (I 63 4).toNat = 1) (ha : 0 ≤ I 63 4 ∧ I 63 4 < 50) (hd : 0 ≤ d ∧ d ≤ 39) : KI X (h + 1) mX0_from [.ref 63, zi 0, zi 0, zi x, zi d] I J ((x + (I 63 4))) (trM I [1]) J := by
  show Rz X (h + 1) mX0_from 0 [some (.ref 63), some (zi 0), some (zi 0), some (zi x), some (zi d), none, none, none] [] I J _
  refine rz_iload_n dX0_from_0 rfl ?_
  refine rz_istore dX0_from_1 (by decide) rfl ?_
  refine rz_iconst dX0_from_3 ?_
  refine rz_istore dX0_from_4 (by decide) rfl ?_
  refine rz_iload dX0_from_6 rfl ?_
  refine rz_bipush dX0_from_8 (by decide) ?_
  refine rz_icmp_ge (t := 78) dX0_from_10 rfl (by omega) (by omega) (fun q => absurd q (by decide)) (fun _ => ?_)
  refine rz_iload dX0_from_13 rfl ?_
  refine rz_if_lt (t := 78) dX0_from_15 rfl (by omega) (fun q => absurd q (by decide)) (fun _ => ?_)
  refine rz_gets1 dX0_from_18 kf_RX0_43 ?_
  refine rz_iload dX0_from_21 rfl ?_
  refine rz_iconst dX0_from_23 ?_
  refine rz_imul dX0_from_24 ?_
  refine rz_iload_n dX0_from_25 rfl ?_
  refine rz_iadd dX0_from_26 ?_
  refine rz_tld1 (z := 1) dX0_from_27 (by decide) rfl ?_
  refine rz_istore (ls' := [some (.ref 63), some (zi 0), some (zi 0), some (zi x), some (zi d), some (zi 0), some (zi 0), some (zi 1)]) dX0_from_28 (by decide) rfl ?_
  refine rz_iload dX0_from_30 rfl ?_
  refine rz_if_eq (t := 64) dX0_from_32 rfl (by omega) (fun q => absurd q (by decide)) (fun _ => ?_)
  refine rz_iload dX0_from_35 rfl ?_
  refine rz_bipush dX0_from_37 (by decide) ?_
  refine rz_icmp_ge (t := 62) dX0_from_39 rfl (by omega) (by omega) (fun c39 => ?_) (fun c39 => ?_)
  · exfalso; omega
  · refine rz_aload_n dX0_from_42 rfl ?_
    refine rz_iload dX0_from_43 rfl ?_
    refine rz_gets0 dX0_from_45 kf_RX0_29 ?_
    refine rz_iload dX0_from_48 rfl ?_
    refine rz_tld0 (z := (-1)) dX0_from_50 (by decide) rfl ?_
    refine rz_iload_n dX0_from_51 rfl ?_
    refine rz_iload dX0_from_52 rfl ?_
    refine rz_iconst dX0_from_54 ?_
    refine rz_iadd dX0_from_55 ?_
    refine rz_cVI dX0_from_56 kl_RX0_46 hd_63 ⟨_, _, rfl⟩ (c_X0_run_1_1_m1 X _ I J x (d + 1) (by (try simp only [trM_R, stM_R, trR_R, stR_R, List.length_cons, List.length_nil]); omega) hk ha (by omega)) rfl rfl (Nat.le_of_ble_eq_true rfl) (Nat.le_of_ble_eq_true rfl) ?_
    refine rz_goto (t := 63) dX0_from_59 rfl ?_
    refine rz_iret dX0_from_63 rfl ?_
    exact ⟨_, rfl, rfl, rfl, rfl⟩
set_option maxRecDepth 20000 in
set_option maxHeartbeats 400000 in
theorem c_X0_run_1_20_0 (X : pX) (h : Nat) (I J : IM) (x d : Int) (hR : 0 ≤ I 63 1 ∧ I 63 1 ≤ 22) (hk : I 65 (I 63 4).toNat = 1) (ha : 0 ≤ I 63 4 ∧ I 63 4 < 50) (hd : 0 ≤ d ∧ d ≤ 39) : KI X (h + 2) mX0_run [.ref 63, zi 20, zi 0, zi x, zi d] I J (((x + (I 63 4)) + 3)) (trM I [20, 1]) J := by
  show Rz X (h + 2) mX0_run 0 [some (.ref 63), some (zi 20), some (zi 0), some (zi x), some (zi d)] [] I J _
  refine rz_aload_n dX0_run_0 rfl ?_
  refine rz_getI (z := (I 63 1)) dX0_run_1 kf_RX0_20 hd_63 rfl rfl ?_
  refine rz_bipush dX0_run_4 (by decide) ?_
  refine rz_icmp_ge (t := 19) dX0_run_6 rfl (by omega) (by omega) (fun c6 => ?_) (fun c6 => ?_)
  · exfalso; omega
  · refine rz_aload_n dX0_run_9 rfl ?_
    refine rz_getR dX0_run_10 kf_RX0_9 hd_63 rfl rr_63_2 ?_
    refine rz_aload_n dX0_run_13 rfl ?_
    refine rz_getI (z := (I 63 1)) dX0_run_14 kf_RX0_20 hd_63 rfl rfl ?_
    refine rz_iload_n dX0_run_17 rfl ?_
    refine rz_iast dX0_run_18 hd_64 (by decide) (by omega) ?_
    refine rz_aload_n dX0_run_19 rfl ?_
    refine rz_dup dX0_run_20 rfl ?_
    refine rz_getI (z := (I 63 1)) dX0_run_21 kf_RX0_20 hd_63 rfl rfl ?_
    refine rz_iconst dX0_run_24 ?_
    refine rz_iadd dX0_run_25 ?_
    refine rz_putI dX0_run_26 kp_RX0_20 hd_63 rfl ?_
    refine rz_mem (I' := (stM I 20)) (J' := J) (rfl) (rfl) ?_
    refine rz_iload_n dX0_run_29 rfl ?_
    refine rz_lookup (t := 187) (off := 157) dX0_run_30 (by omega) (by decide) (by decide) rfl ?_
    refine rz_aload_n dX0_run_187 rfl ?_
    refine rz_iload_n dX0_run_188 rfl ?_
    refine rz_iconst dX0_run_189 ?_
    refine rz_iload_n dX0_run_190 rfl ?_
    refine rz_iload dX0_run_191 rfl ?_
    refine rz_cVI dX0_run_193 kl_RX0_39 hd_63 ⟨_, _, rfl⟩ (c_X0_from_1_0_0 X _ (stM I 20) J x d (by (try simp only [trM_R, stM_R, trR_R, stR_R, List.length_cons, List.length_nil]); omega) hk ha (by omega)) rfl rfl (Nat.le_of_ble_eq_true rfl) (Nat.le_of_ble_eq_true rfl) ?_
    refine rz_iconst dX0_run_196 ?_
    refine rz_iadd dX0_run_197 ?_
    refine rz_iret dX0_run_198 rfl ?_
    exact ⟨_, rfl, rfl, rfl, rfl⟩
set_option maxRecDepth 20000 in
set_option maxHeartbeats 400000 in
theorem c_X0_from_1_1_0 (X : pX) (h : Nat) (I J : IM) (x d : Int) (hR : 0 ≤ I 63 1 ∧ I 63 1 ≤ 22) (hk : I 65 (I 63 4).toNat = 1) (ha : 0 ≤ I 63 4 ∧ I 63 4 < 50) (hd : 0 ≤ d ∧ d ≤ 38) : KI X (h + 3) mX0_from [.ref 63, zi 1, zi 0, zi x, zi d] I J (((x + (I 63 4)) + 3)) (trM I [20, 1]) J := by
  show Rz X (h + 3) mX0_from 0 [some (.ref 63), some (zi 1), some (zi 0), some (zi x), some (zi d), none, none, none] [] I J _
  refine rz_iload_n dX0_from_0 rfl ?_
  refine rz_istore dX0_from_1 (by decide) rfl ?_
  refine rz_iconst dX0_from_3 ?_
  refine rz_istore dX0_from_4 (by decide) rfl ?_
  refine rz_iload dX0_from_6 rfl ?_
  refine rz_bipush dX0_from_8 (by decide) ?_
  refine rz_icmp_ge (t := 78) dX0_from_10 rfl (by omega) (by omega) (fun q => absurd q (by decide)) (fun _ => ?_)
  refine rz_iload dX0_from_13 rfl ?_
  refine rz_if_lt (t := 78) dX0_from_15 rfl (by omega) (fun q => absurd q (by decide)) (fun _ => ?_)
  refine rz_gets1 dX0_from_18 kf_RX0_43 ?_
  refine rz_iload dX0_from_21 rfl ?_
  refine rz_iconst dX0_from_23 ?_
  refine rz_imul dX0_from_24 ?_
  refine rz_iload_n dX0_from_25 rfl ?_
  refine rz_iadd dX0_from_26 ?_
  refine rz_tld1 (z := 20) dX0_from_27 (by decide) rfl ?_
  refine rz_istore (ls' := [some (.ref 63), some (zi 1), some (zi 0), some (zi x), some (zi d), some (zi 1), some (zi 0), some (zi 20)]) dX0_from_28 (by decide) rfl ?_
  refine rz_iload dX0_from_30 rfl ?_
  refine rz_if_eq (t := 64) dX0_from_32 rfl (by omega) (fun q => absurd q (by decide)) (fun _ => ?_)
  refine rz_iload dX0_from_35 rfl ?_
  refine rz_bipush dX0_from_37 (by decide) ?_
  refine rz_icmp_ge (t := 62) dX0_from_39 rfl (by omega) (by omega) (fun c39 => ?_) (fun c39 => ?_)
  · exfalso; omega
  · refine rz_aload_n dX0_from_42 rfl ?_
    refine rz_iload dX0_from_43 rfl ?_
    refine rz_gets0 dX0_from_45 kf_RX0_29 ?_
    refine rz_iload dX0_from_48 rfl ?_
    refine rz_tld0 (z := 0) dX0_from_50 (by decide) rfl ?_
    refine rz_iload_n dX0_from_51 rfl ?_
    refine rz_iload dX0_from_52 rfl ?_
    refine rz_iconst dX0_from_54 ?_
    refine rz_iadd dX0_from_55 ?_
    refine rz_cVI dX0_from_56 kl_RX0_46 hd_63 ⟨_, _, rfl⟩ (c_X0_run_1_20_0 X _ I J x (d + 1) (by (try simp only [trM_R, stM_R, trR_R, stR_R, List.length_cons, List.length_nil]); omega) hk ha (by omega)) rfl rfl (Nat.le_of_ble_eq_true rfl) (Nat.le_of_ble_eq_true rfl) ?_
    refine rz_goto (t := 63) dX0_from_59 rfl ?_
    refine rz_iret dX0_from_63 rfl ?_
    exact ⟨_, rfl, rfl, rfl, rfl⟩
set_option maxRecDepth 20000 in
set_option maxHeartbeats 400000 in
theorem c_X0_own_1_0 (X : pX) (h : Nat) (I J : IM) (x d : Int) (hR : 0 ≤ I 63 1 ∧ I 63 1 ≤ 22) (hk : I 65 (I 63 4).toNat = 1) (ha : 0 ≤ I 63 4 ∧ I 63 4 < 50) (hd : 0 ≤ d ∧ d ≤ 38) : KI X (h + 4) mX0_own [.ref 63, zi 0, zi x, zi d] I J (((x + (I 63 4)) + 3)) (trM I [20, 1]) J := by
  show Rz X (h + 4) mX0_own 0 [some (.ref 63), some (zi 0), some (zi x), some (zi d)] [] I J _
  refine rz_aload_n dX0_own_0 rfl ?_
  refine rz_aload_n dX0_own_1 rfl ?_
  refine rz_getR dX0_own_2 kf_RX0_13 hd_63 rfl rr_63_3 ?_
  refine rz_aload_n dX0_own_5 rfl ?_
  refine rz_getI (z := (I 63 4)) dX0_own_6 kf_RX0_32 hd_63 rfl rfl ?_
  refine rz_iald (z := 1) dX0_own_9 hd_65 (by decide) (by omega) hk ?_
  refine rz_iload_n dX0_own_10 rfl ?_
  refine rz_iload_n dX0_own_11 rfl ?_
  refine rz_iload_n dX0_own_12 rfl ?_
  refine rz_cVI dX0_own_13 kl_RX0_39 hd_63 ⟨_, _, rfl⟩ (c_X0_from_1_1_0 X _ I J x d (by (try simp only [trM_R, stM_R, trR_R, stR_R, List.length_cons, List.length_nil]); omega) hk ha (by omega)) rfl rfl (Nat.le_of_ble_eq_true rfl) (Nat.le_of_ble_eq_true rfl) ?_
  refine rz_iret dX0_own_16 rfl ?_
  exact ⟨_, rfl, rfl, rfl, rfl⟩
set_option maxRecDepth 20000 in
set_option maxHeartbeats 400000 in
theorem c_perform_1_0 (X : pX) (h : Nat) (I J : IM) (n x : Int) (hn : 0 ≤ n ∧ n < I 63 0) (hb : I 63 0 ≤ 50) (hk : I 65 n.toNat = 1) : KI X (h + 5) mX0_perform [.ref 63, zi n, zi 0, zi x] I J (((x + n) + 3)) (trM (pfM I n) [20, 1]) J := by
  show Rz X (h + 5) mX0_perform 0 [some (.ref 63), some (zi n), some (zi 0), some (zi x)] [] I J _
  refine rz_aload_n dX0_perform_0 rfl ?_
  refine rz_iconst dX0_perform_1 ?_
  refine rz_putI dX0_perform_2 kp_RX0_20 hd_63 rfl ?_
  refine rz_iload_n dX0_perform_5 rfl ?_
  refine rz_if_lt (t := 26) dX0_perform_6 rfl (by omega) (fun c6 => ?_) (fun c6 => ?_)
  · refine rz_iconst dX0_perform_26 ?_
    refine rz_iret dX0_perform_27 rfl ?_
    exfalso; omega
  · refine rz_iload_n dX0_perform_9 rfl ?_
    refine rz_aload_n dX0_perform_10 rfl ?_
    refine rz_getI (z := (I 63 0)) dX0_perform_11 kf_RX0_16 hd_63 rfl rfl ?_
    refine rz_icmp_ge (t := 26) dX0_perform_14 rfl (by omega) (by omega) (fun c14 => ?_) (fun c14 => ?_)
    · refine rz_iconst dX0_perform_26 ?_
      refine rz_iret dX0_perform_27 rfl ?_
      exfalso; omega
    · refine rz_iload_n dX0_perform_17 rfl ?_
      refine rz_if_lt (t := 26) dX0_perform_18 rfl (by omega) (fun q => absurd q (by decide)) (fun _ => ?_)
      refine rz_iload_n dX0_perform_21 rfl ?_
      refine rz_iconst dX0_perform_22 ?_
      refine rz_icmp_le (t := 28) dX0_perform_23 rfl (by omega) (by omega) (fun _ => ?_) (fun q => absurd q (by decide))
      refine rz_aload_n dX0_perform_28 rfl ?_
      refine rz_iload_n dX0_perform_29 rfl ?_
      refine rz_putI dX0_perform_30 kp_RX0_32 hd_63 rfl ?_
      refine rz_mem (I' := (pfM I n)) (J' := J) (rfl) (rfl) ?_
      refine rz_aload_n dX0_perform_33 rfl ?_
      refine rz_iload_n dX0_perform_34 rfl ?_
      refine rz_iload_n dX0_perform_35 rfl ?_
      refine rz_iconst dX0_perform_36 ?_
      refine rz_cVI dX0_perform_37 kl_RX0_35 hd_63 ⟨_, _, rfl⟩ (c_X0_own_1_0 X _ (pfM I n) J x 0 (by show (0 : Int) ≤ 0 ∧ (0 : Int) ≤ _; omega) hk (by show 0 ≤ n ∧ n < 50; omega) (by omega)) rfl rfl (Nat.le_of_ble_eq_true rfl) (Nat.le_of_ble_eq_true rfl) ?_
      refine rz_iret dX0_perform_40 rfl ?_
      exact ⟨_, rfl, rfl, rfl, rfl⟩
set_option maxRecDepth 20000 in
set_option maxHeartbeats 400000 in
theorem c_X0_run_1_10_m1 (X : pX) (h : Nat) (I J : IM) (x d : Int) (hR : 0 ≤ I 63 1 ∧ I 63 1 ≤ 21) (hk : I 65 (I 63 4).toNat = 1) (ha : 0 ≤ I 63 4 ∧ I 63 4 < 50) (hd : 0 ≤ d ∧ d ≤ 38) : KI X (h + 5) mX0_run [.ref 63, zi 10, zi (-1), zi x, zi d] I J ((((x + (I 63 4)) + 3) * 2)) (trM I [10, 20, 1]) J := by
  show Rz X (h + 5) mX0_run 0 [some (.ref 63), some (zi 10), some (zi (-1)), some (zi x), some (zi d)] [] I J _
  refine rz_aload_n dX0_run_0 rfl ?_
  refine rz_getI (z := (I 63 1)) dX0_run_1 kf_RX0_20 hd_63 rfl rfl ?_
  refine rz_bipush dX0_run_4 (by decide) ?_
  refine rz_icmp_ge (t := 19) dX0_run_6 rfl (by omega) (by omega) (fun c6 => ?_) (fun c6 => ?_)
  · exfalso; omega
  · refine rz_aload_n dX0_run_9 rfl ?_
    refine rz_getR dX0_run_10 kf_RX0_9 hd_63 rfl rr_63_2 ?_
    refine rz_aload_n dX0_run_13 rfl ?_
    refine rz_getI (z := (I 63 1)) dX0_run_14 kf_RX0_20 hd_63 rfl rfl ?_
    refine rz_iload_n dX0_run_17 rfl ?_
    refine rz_iast dX0_run_18 hd_64 (by decide) (by omega) ?_
    refine rz_aload_n dX0_run_19 rfl ?_
    refine rz_dup dX0_run_20 rfl ?_
    refine rz_getI (z := (I 63 1)) dX0_run_21 kf_RX0_20 hd_63 rfl rfl ?_
    refine rz_iconst dX0_run_24 ?_
    refine rz_iadd dX0_run_25 ?_
    refine rz_putI dX0_run_26 kp_RX0_20 hd_63 rfl ?_
    refine rz_mem (I' := (stM I 10)) (J' := J) (rfl) (rfl) ?_
    refine rz_iload_n dX0_run_29 rfl ?_
    refine rz_lookup (t := 169) (off := 139) dX0_run_30 (by omega) (by decide) (by decide) rfl ?_
    refine rz_aload_n dX0_run_169 rfl ?_
    refine rz_iconst dX0_run_170 ?_
    refine rz_iload_n dX0_run_171 rfl ?_
    refine rz_iload dX0_run_172 rfl ?_
    refine rz_cVI dX0_run_174 kl_RX0_35 hd_63 ⟨_, _, rfl⟩ (c_X0_own_1_0 X _ (stM I 10) J x d (by (try simp only [trM_R, stM_R, trR_R, stR_R, List.length_cons, List.length_nil]); omega) hk ha (by omega)) rfl rfl (Nat.le_of_ble_eq_true rfl) (Nat.le_of_ble_eq_true rfl) ?_
    refine rz_iconst dX0_run_177 ?_
    refine rz_imul dX0_run_178 ?_
    refine rz_iret dX0_run_179 rfl ?_
    exact ⟨_, rfl, rfl, rfl, rfl⟩
set_option maxRecDepth 20000 in
set_option maxHeartbeats 400000 in
theorem c_X0_from_1_1_1 (X : pX) (h : Nat) (I J : IM) (x d : Int) (hR : 0 ≤ I 63 1 ∧ I 63 1 ≤ 21) (hk : I 65 (I 63 4).toNat = 1) (ha : 0 ≤ I 63 4 ∧ I 63 4 < 50) (hd : 0 ≤ d ∧ d ≤ 37) : KI X (h + 6) mX0_from [.ref 63, zi 1, zi 1, zi x, zi d] I J ((((x + (I 63 4)) + 3) * 2)) (trM I [10, 20, 1]) J := by
  show Rz X (h + 6) mX0_from 0 [some (.ref 63), some (zi 1), some (zi 1), some (zi x), some (zi d), none, none, none] [] I J _
  refine rz_iload_n dX0_from_0 rfl ?_
  refine rz_istore dX0_from_1 (by decide) rfl ?_
  refine rz_iconst dX0_from_3 ?_
  refine rz_istore dX0_from_4 (by decide) rfl ?_
  refine rz_iload dX0_from_6 rfl ?_
  refine rz_bipush dX0_from_8 (by decide) ?_
  refine rz_icmp_ge (t := 78) dX0_from_10 rfl (by omega) (by omega) (fun q => absurd q (by decide)) (fun _ => ?_)
  refine rz_iload dX0_from_13 rfl ?_
  refine rz_if_lt (t := 78) dX0_from_15 rfl (by omega) (fun q => absurd q (by decide)) (fun _ => ?_)
  refine rz_gets1 dX0_from_18 kf_RX0_43 ?_
  refine rz_iload dX0_from_21 rfl ?_
  refine rz_iconst dX0_from_23 ?_
  refine rz_imul dX0_from_24 ?_
  refine rz_iload_n dX0_from_25 rfl ?_
  refine rz_iadd dX0_from_26 ?_
  refine rz_tld1 (z := 0) dX0_from_27 (by decide) rfl ?_
  refine rz_istore (ls' := [some (.ref 63), some (zi 1), some (zi 1), some (zi x), some (zi d), some (zi 1), some (zi 0), some (zi 0)]) dX0_from_28 (by decide) rfl ?_
  refine rz_iload dX0_from_30 rfl ?_
  refine rz_if_eq (t := 64) dX0_from_32 rfl (by omega) (fun _ => ?_) (fun q => absurd q (by decide))
  refine rz_gets0 dX0_from_64 kf_RX0_29 ?_
  refine rz_iload dX0_from_67 rfl ?_
  refine rz_tld0 (z := 0) dX0_from_69 (by decide) rfl ?_
  refine rz_istore dX0_from_70 (by decide) rfl ?_
  refine rz_iinc (z := 1) dX0_from_72 (by decide) rfl rfl rfl ?_
  refine rz_goto (t := 6) dX0_from_75 rfl ?_
  refine rz_iload dX0_from_6 rfl ?_
  refine rz_bipush dX0_from_8 (by decide) ?_
  refine rz_icmp_ge (t := 78) dX0_from_10 rfl (by omega) (by omega) (fun q => absurd q (by decide)) (fun _ => ?_)
  refine rz_iload dX0_from_13 rfl ?_
  refine rz_if_lt (t := 78) dX0_from_15 rfl (by omega) (fun q => absurd q (by decide)) (fun _ => ?_)
  refine rz_gets1 dX0_from_18 kf_RX0_43 ?_
  refine rz_iload dX0_from_21 rfl ?_
  refine rz_iconst dX0_from_23 ?_
  refine rz_imul dX0_from_24 ?_
  refine rz_iload_n dX0_from_25 rfl ?_
  refine rz_iadd dX0_from_26 ?_
  refine rz_tld1 (z := 10) dX0_from_27 (by decide) rfl ?_
  refine rz_istore (ls' := [some (.ref 63), some (zi 1), some (zi 1), some (zi x), some (zi d), some (zi 0), some (zi 1), some (zi 10)]) dX0_from_28 (by decide) rfl ?_
  refine rz_iload dX0_from_30 rfl ?_
  refine rz_if_eq (t := 64) dX0_from_32 rfl (by omega) (fun q => absurd q (by decide)) (fun _ => ?_)
  refine rz_iload dX0_from_35 rfl ?_
  refine rz_bipush dX0_from_37 (by decide) ?_
  refine rz_icmp_ge (t := 62) dX0_from_39 rfl (by omega) (by omega) (fun c39 => ?_) (fun c39 => ?_)
  · exfalso; omega
  · refine rz_aload_n dX0_from_42 rfl ?_
    refine rz_iload dX0_from_43 rfl ?_
    refine rz_gets0 dX0_from_45 kf_RX0_29 ?_
    refine rz_iload dX0_from_48 rfl ?_
    refine rz_tld0 (z := (-1)) dX0_from_50 (by decide) rfl ?_
    refine rz_iload_n dX0_from_51 rfl ?_
    refine rz_iload dX0_from_52 rfl ?_
    refine rz_iconst dX0_from_54 ?_
    refine rz_iadd dX0_from_55 ?_
    refine rz_cVI dX0_from_56 kl_RX0_46 hd_63 ⟨_, _, rfl⟩ (c_X0_run_1_10_m1 X _ I J x (d + 1) (by (try simp only [trM_R, stM_R, trR_R, stR_R, List.length_cons, List.length_nil]); omega) hk ha (by omega)) rfl rfl (Nat.le_of_ble_eq_true rfl) (Nat.le_of_ble_eq_true rfl) ?_
    refine rz_goto (t := 63) dX0_from_59 rfl ?_
    refine rz_iret dX0_from_63 rfl ?_
    exact ⟨_, rfl, rfl, rfl, rfl⟩
set_option maxRecDepth 20000 in
set_option maxHeartbeats 400000 in
theorem c_X0_own_1_1 (X : pX) (h : Nat) (I J : IM) (x d : Int) (hR : 0 ≤ I 63 1 ∧ I 63 1 ≤ 21) (hk : I 65 (I 63 4).toNat = 1) (ha : 0 ≤ I 63 4 ∧ I 63 4 < 50) (hd : 0 ≤ d ∧ d ≤ 37) : KI X (h + 7) mX0_own [.ref 63, zi 1, zi x, zi d] I J ((((x + (I 63 4)) + 3) * 2)) (trM I [10, 20, 1]) J := by
  show Rz X (h + 7) mX0_own 0 [some (.ref 63), some (zi 1), some (zi x), some (zi d)] [] I J _
  refine rz_aload_n dX0_own_0 rfl ?_
  refine rz_aload_n dX0_own_1 rfl ?_
  refine rz_getR dX0_own_2 kf_RX0_13 hd_63 rfl rr_63_3 ?_
  refine rz_aload_n dX0_own_5 rfl ?_
  refine rz_getI (z := (I 63 4)) dX0_own_6 kf_RX0_32 hd_63 rfl rfl ?_
  refine rz_iald (z := 1) dX0_own_9 hd_65 (by decide) (by omega) hk ?_
  refine rz_iload_n dX0_own_10 rfl ?_
  refine rz_iload_n dX0_own_11 rfl ?_
  refine rz_iload_n dX0_own_12 rfl ?_
  refine rz_cVI dX0_own_13 kl_RX0_39 hd_63 ⟨_, _, rfl⟩ (c_X0_from_1_1_1 X _ I J x d (by (try simp only [trM_R, stM_R, trR_R, stR_R, List.length_cons, List.length_nil]); omega) hk ha (by omega)) rfl rfl (Nat.le_of_ble_eq_true rfl) (Nat.le_of_ble_eq_true rfl) ?_
  refine rz_iret dX0_own_16 rfl ?_
  exact ⟨_, rfl, rfl, rfl, rfl⟩
set_option maxRecDepth 20000 in
set_option maxHeartbeats 400000 in
theorem c_perform_1_1 (X : pX) (h : Nat) (I J : IM) (n x : Int) (hn : 0 ≤ n ∧ n < I 63 0) (hb : I 63 0 ≤ 50) (hk : I 65 n.toNat = 1) : KI X (h + 8) mX0_perform [.ref 63, zi n, zi 1, zi x] I J ((((x + n) + 3) * 2)) (trM (pfM I n) [10, 20, 1]) J := by
  show Rz X (h + 8) mX0_perform 0 [some (.ref 63), some (zi n), some (zi 1), some (zi x)] [] I J _
  refine rz_aload_n dX0_perform_0 rfl ?_
  refine rz_iconst dX0_perform_1 ?_
  refine rz_putI dX0_perform_2 kp_RX0_20 hd_63 rfl ?_
  refine rz_iload_n dX0_perform_5 rfl ?_
  refine rz_if_lt (t := 26) dX0_perform_6 rfl (by omega) (fun c6 => ?_) (fun c6 => ?_)
  · refine rz_iconst dX0_perform_26 ?_
    refine rz_iret dX0_perform_27 rfl ?_
    exfalso; omega
  · refine rz_iload_n dX0_perform_9 rfl ?_
    refine rz_aload_n dX0_perform_10 rfl ?_
    refine rz_getI (z := (I 63 0)) dX0_perform_11 kf_RX0_16 hd_63 rfl rfl ?_
    refine rz_icmp_ge (t := 26) dX0_perform_14 rfl (by omega) (by omega) (fun c14 => ?_) (fun c14 => ?_)
    · refine rz_iconst dX0_perform_26 ?_
      refine rz_iret dX0_perform_27 rfl ?_
      exfalso; omega
    · refine rz_iload_n dX0_perform_17 rfl ?_
      refine rz_if_lt (t := 26) dX0_perform_18 rfl (by omega) (fun q => absurd q (by decide)) (fun _ => ?_)
      refine rz_iload_n dX0_perform_21 rfl ?_
      refine rz_iconst dX0_perform_22 ?_
      refine rz_icmp_le (t := 28) dX0_perform_23 rfl (by omega) (by omega) (fun _ => ?_) (fun q => absurd q (by decide))
      refine rz_aload_n dX0_perform_28 rfl ?_
      refine rz_iload_n dX0_perform_29 rfl ?_
      refine rz_putI dX0_perform_30 kp_RX0_32 hd_63 rfl ?_
      refine rz_mem (I' := (pfM I n)) (J' := J) (rfl) (rfl) ?_
      refine rz_aload_n dX0_perform_33 rfl ?_
      refine rz_iload_n dX0_perform_34 rfl ?_
      refine rz_iload_n dX0_perform_35 rfl ?_
      refine rz_iconst dX0_perform_36 ?_
      refine rz_cVI dX0_perform_37 kl_RX0_35 hd_63 ⟨_, _, rfl⟩ (c_X0_own_1_1 X _ (pfM I n) J x 0 (by show (0 : Int) ≤ 0 ∧ (0 : Int) ≤ _; omega) hk (by show 0 ≤ n ∧ n < 50; omega) (by omega)) rfl rfl (Nat.le_of_ble_eq_true rfl) (Nat.le_of_ble_eq_true rfl) ?_
      refine rz_iret dX0_perform_40 rfl ?_
      exact ⟨_, rfl, rfl, rfl, rfl⟩
set_option maxRecDepth 20000 in
set_option maxHeartbeats 400000 in
theorem c_X0_run_1_11_m1 (X : pX) (h : Nat) (I J : IM) (x d : Int) (hR : 0 ≤ I 63 1 ∧ I 63 1 ≤ 23) (hk : I 65 (I 63 4).toNat = 1) (ha : 0 ≤ I 63 4 ∧ I 63 4 < 50) (hd : 0 ≤ d ∧ d ≤ 100) : KI X h mX0_run [.ref 63, zi 11, zi (-1), zi x, zi d] I J ((xorZ x (I 63 4))) (trM I [11]) J := by
  show Rz X h mX0_run 0 [some (.ref 63), some (zi 11), some (zi (-1)), some (zi x), some (zi d)] [] I J _
  refine rz_aload_n dX0_run_0 rfl ?_
  refine rz_getI (z := (I 63 1)) dX0_run_1 kf_RX0_20 hd_63 rfl rfl ?_
  refine rz_bipush dX0_run_4 (by decide) ?_
  refine rz_icmp_ge (t := 19) dX0_run_6 rfl (by omega) (by omega) (fun c6 => ?_) (fun c6 => ?_)
  · exfalso; omega
  · refine rz_aload_n dX0_run_9 rfl ?_
    refine rz_getR dX0_run_10 kf_RX0_9 hd_63 rfl rr_63_2 ?_
    refine rz_aload_n dX0_run_13 rfl ?_
    refine rz_getI (z := (I 63 1)) dX0_run_14 kf_RX0_20 hd_63 rfl rfl ?_
    refine rz_iload_n dX0_run_17 rfl ?_
    refine rz_iast dX0_run_18 hd_64 (by decide) (by omega) ?_
    refine rz_aload_n dX0_run_19 rfl ?_
    refine rz_dup dX0_run_20 rfl ?_
    refine rz_getI (z := (I 63 1)) dX0_run_21 kf_RX0_20 hd_63 rfl rfl ?_
    refine rz_iconst dX0_run_24 ?_
    refine rz_iadd dX0_run_25 ?_
    refine rz_putI dX0_run_26 kp_RX0_20 hd_63 rfl ?_
    refine rz_mem (I' := (stM I 11)) (J' := J) (rfl) (rfl) ?_
    refine rz_iload_n dX0_run_29 rfl ?_
    refine rz_lookup (t := 180) (off := 150) dX0_run_30 (by omega) (by decide) (by decide) rfl ?_
    refine rz_iload_n dX0_run_180 rfl ?_
    refine rz_aload_n dX0_run_181 rfl ?_
    refine rz_getI (z := (I 63 4)) dX0_run_182 kf_RX0_32 hd_63 rfl rfl ?_
    refine rz_ixor dX0_run_185 ?_
    refine rz_iret dX0_run_186 rfl ?_
    exact ⟨_, rfl, rfl, rfl, rfl⟩
set_option maxRecDepth 20000 in
set_option maxHeartbeats 400000 in
theorem c_X0_from_1_1_2 (X : pX) (h : Nat) (I J : IM) (x d : Int) (hR : 0 ≤ I 63 1 ∧ I 63 1 ≤ 23) (hk : I 65 (I 63 4).toNat = 1) (ha : 0 ≤ I 63 4 ∧ I 63 4 < 50) (hd : 0 ≤ d ∧ d ≤ 39) : KI X (h + 1) mX0_from [.ref 63, zi 1, zi 2, zi x, zi d] I J ((xorZ x (I 63 4))) (trM I [11]) J := by
  show Rz X (h + 1) mX0_from 0 [some (.ref 63), some (zi 1), some (zi 2), some (zi x), some (zi d), none, none, none] [] I J _
  refine rz_iload_n dX0_from_0 rfl ?_
  refine rz_istore dX0_from_1 (by decide) rfl ?_
  refine rz_iconst dX0_from_3 ?_
  refine rz_istore dX0_from_4 (by decide) rfl ?_
  refine rz_iload dX0_from_6 rfl ?_
  refine rz_bipush dX0_from_8 (by decide) ?_
  refine rz_icmp_ge (t := 78) dX0_from_10 rfl (by omega) (by omega) (fun q => absurd q (by decide)) (fun _ => ?_)
  refine rz_iload dX0_from_13 rfl ?_
  refine rz_if_lt (t := 78) dX0_from_15 rfl (by omega) (fun q => absurd q (by decide)) (fun _ => ?_)
  refine rz_gets1 dX0_from_18 kf_RX0_43 ?_
  refine rz_iload dX0_from_21 rfl ?_
  refine rz_iconst dX0_from_23 ?_
  refine rz_imul dX0_from_24 ?_
  refine rz_iload_n dX0_from_25 rfl ?_
  refine rz_iadd dX0_from_26 ?_
  refine rz_tld1 (z := 0) dX0_from_27 (by decide) rfl ?_
  refine rz_istore (ls' := [some (.ref 63), some (zi 1), some (zi 2), some (zi x), some (zi d), some (zi 1), some (zi 0), some (zi 0)]) dX0_from_28 (by decide) rfl ?_
  refine rz_iload dX0_from_30 rfl ?_
  refine rz_if_eq (t := 64) dX0_from_32 rfl (by omega) (fun _ => ?_) (fun q => absurd q (by decide))
  refine rz_gets0 dX0_from_64 kf_RX0_29 ?_
  refine rz_iload dX0_from_67 rfl ?_
  refine rz_tld0 (z := 0) dX0_from_69 (by decide) rfl ?_
  refine rz_istore dX0_from_70 (by decide) rfl ?_
  refine rz_iinc (z := 1) dX0_from_72 (by decide) rfl rfl rfl ?_
  refine rz_goto (t := 6) dX0_from_75 rfl ?_
  refine rz_iload dX0_from_6 rfl ?_
  refine rz_bipush dX0_from_8 (by decide) ?_
  refine rz_icmp_ge (t := 78) dX0_from_10 rfl (by omega) (by omega) (fun q => absurd q (by decide)) (fun _ => ?_)
  refine rz_iload dX0_from_13 rfl ?_
  refine rz_if_lt (t := 78) dX0_from_15 rfl (by omega) (fun q => absurd q (by decide)) (fun _ => ?_)
  refine rz_gets1 dX0_from_18 kf_RX0_43 ?_
  refine rz_iload dX0_from_21 rfl ?_
  refine rz_iconst dX0_from_23 ?_
  refine rz_imul dX0_from_24 ?_
  refine rz_iload_n dX0_from_25 rfl ?_
  refine rz_iadd dX0_from_26 ?_
  refine rz_tld1 (z := 11) dX0_from_27 (by decide) rfl ?_
  refine rz_istore (ls' := [some (.ref 63), some (zi 1), some (zi 2), some (zi x), some (zi d), some (zi 0), some (zi 1), some (zi 11)]) dX0_from_28 (by decide) rfl ?_
  refine rz_iload dX0_from_30 rfl ?_
  refine rz_if_eq (t := 64) dX0_from_32 rfl (by omega) (fun q => absurd q (by decide)) (fun _ => ?_)
  refine rz_iload dX0_from_35 rfl ?_
  refine rz_bipush dX0_from_37 (by decide) ?_
  refine rz_icmp_ge (t := 62) dX0_from_39 rfl (by omega) (by omega) (fun c39 => ?_) (fun c39 => ?_)
  · exfalso; omega
  · refine rz_aload_n dX0_from_42 rfl ?_
    refine rz_iload dX0_from_43 rfl ?_
    refine rz_gets0 dX0_from_45 kf_RX0_29 ?_
    refine rz_iload dX0_from_48 rfl ?_
    refine rz_tld0 (z := (-1)) dX0_from_50 (by decide) rfl ?_
    refine rz_iload_n dX0_from_51 rfl ?_
    refine rz_iload dX0_from_52 rfl ?_
    refine rz_iconst dX0_from_54 ?_
    refine rz_iadd dX0_from_55 ?_
    refine rz_cVI dX0_from_56 kl_RX0_46 hd_63 ⟨_, _, rfl⟩ (c_X0_run_1_11_m1 X _ I J x (d + 1) (by (try simp only [trM_R, stM_R, trR_R, stR_R, List.length_cons, List.length_nil]); omega) hk ha (by omega)) rfl rfl (Nat.le_of_ble_eq_true rfl) (Nat.le_of_ble_eq_true rfl) ?_
    refine rz_goto (t := 63) dX0_from_59 rfl ?_
    refine rz_iret dX0_from_63 rfl ?_
    exact ⟨_, rfl, rfl, rfl, rfl⟩
set_option maxRecDepth 20000 in
set_option maxHeartbeats 400000 in
theorem c_X0_own_1_2 (X : pX) (h : Nat) (I J : IM) (x d : Int) (hR : 0 ≤ I 63 1 ∧ I 63 1 ≤ 23) (hk : I 65 (I 63 4).toNat = 1) (ha : 0 ≤ I 63 4 ∧ I 63 4 < 50) (hd : 0 ≤ d ∧ d ≤ 39) : KI X (h + 2) mX0_own [.ref 63, zi 2, zi x, zi d] I J ((xorZ x (I 63 4))) (trM I [11]) J := by
  show Rz X (h + 2) mX0_own 0 [some (.ref 63), some (zi 2), some (zi x), some (zi d)] [] I J _
  refine rz_aload_n dX0_own_0 rfl ?_
  refine rz_aload_n dX0_own_1 rfl ?_
  refine rz_getR dX0_own_2 kf_RX0_13 hd_63 rfl rr_63_3 ?_
  refine rz_aload_n dX0_own_5 rfl ?_
  refine rz_getI (z := (I 63 4)) dX0_own_6 kf_RX0_32 hd_63 rfl rfl ?_
  refine rz_iald (z := 1) dX0_own_9 hd_65 (by decide) (by omega) hk ?_
  refine rz_iload_n dX0_own_10 rfl ?_
  refine rz_iload_n dX0_own_11 rfl ?_
  refine rz_iload_n dX0_own_12 rfl ?_
  refine rz_cVI dX0_own_13 kl_RX0_39 hd_63 ⟨_, _, rfl⟩ (c_X0_from_1_1_2 X _ I J x d (by (try simp only [trM_R, stM_R, trR_R, stR_R, List.length_cons, List.length_nil]); omega) hk ha (by omega)) rfl rfl (Nat.le_of_ble_eq_true rfl) (Nat.le_of_ble_eq_true rfl) ?_
  refine rz_iret dX0_own_16 rfl ?_
  exact ⟨_, rfl, rfl, rfl, rfl⟩
set_option maxRecDepth 20000 in
set_option maxHeartbeats 400000 in
theorem c_perform_1_2 (X : pX) (h : Nat) (I J : IM) (n x : Int) (hn : 0 ≤ n ∧ n < I 63 0) (hb : I 63 0 ≤ 50) (hk : I 65 n.toNat = 1) : KI X (h + 3) mX0_perform [.ref 63, zi n, zi 2, zi x] I J ((xorZ x n)) (trM (pfM I n) [11]) J := by
  show Rz X (h + 3) mX0_perform 0 [some (.ref 63), some (zi n), some (zi 2), some (zi x)] [] I J _
  refine rz_aload_n dX0_perform_0 rfl ?_
  refine rz_iconst dX0_perform_1 ?_
  refine rz_putI dX0_perform_2 kp_RX0_20 hd_63 rfl ?_
  refine rz_iload_n dX0_perform_5 rfl ?_
  refine rz_if_lt (t := 26) dX0_perform_6 rfl (by omega) (fun c6 => ?_) (fun c6 => ?_)
  · refine rz_iconst dX0_perform_26 ?_
    refine rz_iret dX0_perform_27 rfl ?_
    exfalso; omega
  · refine rz_iload_n dX0_perform_9 rfl ?_
    refine rz_aload_n dX0_perform_10 rfl ?_
    refine rz_getI (z := (I 63 0)) dX0_perform_11 kf_RX0_16 hd_63 rfl rfl ?_
    refine rz_icmp_ge (t := 26) dX0_perform_14 rfl (by omega) (by omega) (fun c14 => ?_) (fun c14 => ?_)
    · refine rz_iconst dX0_perform_26 ?_
      refine rz_iret dX0_perform_27 rfl ?_
      exfalso; omega
    · refine rz_iload_n dX0_perform_17 rfl ?_
      refine rz_if_lt (t := 26) dX0_perform_18 rfl (by omega) (fun q => absurd q (by decide)) (fun _ => ?_)
      refine rz_iload_n dX0_perform_21 rfl ?_
      refine rz_iconst dX0_perform_22 ?_
      refine rz_icmp_le (t := 28) dX0_perform_23 rfl (by omega) (by omega) (fun _ => ?_) (fun q => absurd q (by decide))
      refine rz_aload_n dX0_perform_28 rfl ?_
      refine rz_iload_n dX0_perform_29 rfl ?_
      refine rz_putI dX0_perform_30 kp_RX0_32 hd_63 rfl ?_
      refine rz_mem (I' := (pfM I n)) (J' := J) (rfl) (rfl) ?_
      refine rz_aload_n dX0_perform_33 rfl ?_
      refine rz_iload_n dX0_perform_34 rfl ?_
      refine rz_iload_n dX0_perform_35 rfl ?_
      refine rz_iconst dX0_perform_36 ?_
      refine rz_cVI dX0_perform_37 kl_RX0_35 hd_63 ⟨_, _, rfl⟩ (c_X0_own_1_2 X _ (pfM I n) J x 0 (by show (0 : Int) ≤ 0 ∧ (0 : Int) ≤ _; omega) hk (by show 0 ≤ n ∧ n < 50; omega) (by omega)) rfl rfl (Nat.le_of_ble_eq_true rfl) (Nat.le_of_ble_eq_true rfl) ?_
      refine rz_iret dX0_perform_40 rfl ?_
      exact ⟨_, rfl, rfl, rfl, rfl⟩
set_option maxRecDepth 20000 in
set_option maxHeartbeats 400000 in
theorem c_X0_run_1_2_m1 (X : pX) (h : Nat) (I J : IM) (x d : Int) (hR : 0 ≤ I 63 1 ∧ I 63 1 ≤ 19) (hk : I 65 (I 63 4).toNat = 1) (ha : 0 ≤ I 63 4 ∧ I 63 4 < 50) (hd : 0 ≤ d ∧ d ≤ 37) : KI X (h + 8) mX0_run [.ref 63, zi 2, zi (-1), zi x, zi d] I J (((((x + (I 63 4)) + 3) * 2) - (xorZ 1 (I 63 4)))) (trM I [2, 10, 20, 1, 11]) J := by
  show Rz X (h + 8) mX0_run 0 [some (.ref 63), some (zi 2), some (zi (-1)), some (zi x), some (zi d)] [] I J _
  refine rz_aload_n dX0_run_0 rfl ?_
  refine rz_getI (z := (I 63 1)) dX0_run_1 kf_RX0_20 hd_63 rfl rfl ?_
  refine rz_bipush dX0_run_4 (by decide) ?_
  refine rz_icmp_ge (t := 19) dX0_run_6 rfl (by omega) (by omega) (fun c6 => ?_) (fun c6 => ?_)
  · exfalso; omega
  · refine rz_aload_n dX0_run_9 rfl ?_
    refine rz_getR dX0_run_10 kf_RX0_9 hd_63 rfl rr_63_2 ?_
    refine rz_aload_n dX0_run_13 rfl ?_
    refine rz_getI (z := (I 63 1)) dX0_run_14 kf_RX0_20 hd_63 rfl rfl ?_
    refine rz_iload_n dX0_run_17 rfl ?_
    refine rz_iast dX0_run_18 hd_64 (by decide) (by omega) ?_
    refine rz_aload_n dX0_run_19 rfl ?_
    refine rz_dup dX0_run_20 rfl ?_
    refine rz_getI (z := (I 63 1)) dX0_run_21 kf_RX0_20 hd_63 rfl rfl ?_
    refine rz_iconst dX0_run_24 ?_
    refine rz_iadd dX0_run_25 ?_
    refine rz_putI dX0_run_26 kp_RX0_20 hd_63 rfl ?_
    refine rz_mem (I' := (stM I 2)) (J' := J) (rfl) (rfl) ?_
    refine rz_iload_n dX0_run_29 rfl ?_
    refine rz_lookup (t := 151) (off := 121) dX0_run_30 (by omega) (by decide) (by decide) rfl ?_
    refine rz_aload_n dX0_run_151 rfl ?_
    refine rz_iconst dX0_run_152 ?_
    refine rz_iload_n dX0_run_153 rfl ?_
    refine rz_iload dX0_run_154 rfl ?_
    refine rz_cVI dX0_run_156 kl_RX0_35 hd_63 ⟨_, _, rfl⟩ (c_X0_own_1_1 X _ (stM I 2) J x d (by (try simp only [trM_R, stM_R, trR_R, stR_R, List.length_cons, List.length_nil]); omega) hk ha (by omega)) rfl rfl (Nat.le_of_ble_eq_true rfl) (Nat.le_of_ble_eq_true rfl) ?_
    refine rz_aload_n dX0_run_159 rfl ?_
    refine rz_iconst dX0_run_160 ?_
    refine rz_iconst dX0_run_161 ?_
    refine rz_iload dX0_run_162 rfl ?_
    refine rz_cVI dX0_run_164 kl_RX0_35 hd_63 ⟨_, _, rfl⟩ (c_X0_own_1_2 X _ (trM (stM I 2) [10, 20, 1]) J 1 d (by (try simp only [trM_R, stM_R, trR_R, stR_R, List.length_cons, List.length_nil]); omega) hk ha (by omega)) rfl rfl (Nat.le_of_ble_eq_true rfl) (Nat.le_of_ble_eq_true rfl) ?_
    refine rz_isub dX0_run_167 ?_
    refine rz_iret dX0_run_168 rfl ?_
    exact ⟨_, rfl, rfl, rfl, rfl⟩
set_option maxRecDepth 20000 in
set_option maxHeartbeats 400000 in
theorem c_X0_from_1_1_3 (X : pX) (h : Nat) (I J : IM) (x d : Int) (hR : 0 ≤ I 63 1 ∧ I 63 1 ≤ 19) (hk : I 65 (I 63 4).toNat = 1) (ha : 0 ≤ I 63 4 ∧ I 63 4 < 50) (hd : 0 ≤ d ∧ d ≤ 36) : KI X (h + 9) mX0_from [.ref 63, zi 1, zi 3, zi x, zi d] I J (((((x + (I 63 4)) + 3) * 2) - (xorZ 1 (I 63 4)))) (trM I [2, 10, 20, 1, 11]) J := by
  show Rz X (h + 9) mX0_from 0 [some (.ref 63), some (zi 1), some (zi 3), some (zi x), some (zi d), none, none, none] [] I J _
  refine rz_iload_n dX0_from_0 rfl ?_
  refine rz_istore dX0_from_1 (by decide) rfl ?_
  refine rz_iconst dX0_from_3 ?_
  refine rz_istore dX0_from_4 (by decide) rfl ?_
  refine rz_iload dX0_from_6 rfl ?_
  refine rz_bipush dX0_from_8 (by decide) ?_
  refine rz_icmp_ge (t := 78) dX0_from_10 rfl (by omega) (by omega) (fun q => absurd q (by decide)) (fun _ => ?_)
  refine rz_iload dX0_from_13 rfl ?_
  refine rz_if_lt (t := 78) dX0_from_15 rfl (by omega) (fun q => absurd q (by decide)) (fun _ => ?_)
  refine rz_gets1 dX0_from_18 kf_RX0_43 ?_
  refine rz_iload dX0_from_21 rfl ?_
  refine rz_iconst dX0_from_23 ?_
  refine rz_imul dX0_from_24 ?_
  refine rz_iload_n dX0_from_25 rfl ?_
  refine rz_iadd dX0_from_26 ?_
  refine rz_tld1 (z := 0) dX0_from_27 (by decide) rfl ?_
  refine rz_istore (ls' := [some (.ref 63), some (zi 1), some (zi 3), some (zi x), some (zi d), some (zi 1), some (zi 0), some (zi 0)]) dX0_from_28 (by decide) rfl ?_
  refine rz_iload dX0_from_30 rfl ?_
  refine rz_if_eq (t := 64) dX0_from_32 rfl (by omega) (fun _ => ?_) (fun q => absurd q (by decide))
  refine rz_gets0 dX0_from_64 kf_RX0_29 ?_
  refine rz_iload dX0_from_67 rfl ?_
  refine rz_tld0 (z := 0) dX0_from_69 (by decide) rfl ?_
  refine rz_istore dX0_from_70 (by decide) rfl ?_
  refine rz_iinc (z := 1) dX0_from_72 (by decide) rfl rfl rfl ?_
  refine rz_goto (t := 6) dX0_from_75 rfl ?_
  refine rz_iload dX0_from_6 rfl ?_
  refine rz_bipush dX0_from_8 (by decide) ?_
  refine rz_icmp_ge (t := 78) dX0_from_10 rfl (by omega) (by omega) (fun q => absurd q (by decide)) (fun _ => ?_)
  refine rz_iload dX0_from_13 rfl ?_
  refine rz_if_lt (t := 78) dX0_from_15 rfl (by omega) (fun q => absurd q (by decide)) (fun _ => ?_)
  refine rz_gets1 dX0_from_18 kf_RX0_43 ?_
  refine rz_iload dX0_from_21 rfl ?_
  refine rz_iconst dX0_from_23 ?_
  refine rz_imul dX0_from_24 ?_
  refine rz_iload_n dX0_from_25 rfl ?_
  refine rz_iadd dX0_from_26 ?_
  refine rz_tld1 (z := 2) dX0_from_27 (by decide) rfl ?_
  refine rz_istore (ls' := [some (.ref 63), some (zi 1), some (zi 3), some (zi x), some (zi d), some (zi 0), some (zi 1), some (zi 2)]) dX0_from_28 (by decide) rfl ?_
  refine rz_iload dX0_from_30 rfl ?_
  refine rz_if_eq (t := 64) dX0_from_32 rfl (by omega) (fun q => absurd q (by decide)) (fun _ => ?_)
  refine rz_iload dX0_from_35 rfl ?_
  refine rz_bipush dX0_from_37 (by decide) ?_
  refine rz_icmp_ge (t := 62) dX0_from_39 rfl (by omega) (by omega) (fun c39 => ?_) (fun c39 => ?_)
  · exfalso; omega
  · refine rz_aload_n dX0_from_42 rfl ?_
    refine rz_iload dX0_from_43 rfl ?_
    refine rz_gets0 dX0_from_45 kf_RX0_29 ?_
    refine rz_iload dX0_from_48 rfl ?_
    refine rz_tld0 (z := (-1)) dX0_from_50 (by decide) rfl ?_
    refine rz_iload_n dX0_from_51 rfl ?_
    refine rz_iload dX0_from_52 rfl ?_
    refine rz_iconst dX0_from_54 ?_
    refine rz_iadd dX0_from_55 ?_
    refine rz_cVI dX0_from_56 kl_RX0_46 hd_63 ⟨_, _, rfl⟩ (c_X0_run_1_2_m1 X _ I J x (d + 1) (by (try simp only [trM_R, stM_R, trR_R, stR_R, List.length_cons, List.length_nil]); omega) hk ha (by omega)) rfl rfl (Nat.le_of_ble_eq_true rfl) (Nat.le_of_ble_eq_true rfl) ?_
    refine rz_goto (t := 63) dX0_from_59 rfl ?_
    refine rz_iret dX0_from_63 rfl ?_
    exact ⟨_, rfl, rfl, rfl, rfl⟩
set_option maxRecDepth 20000 in
set_option maxHeartbeats 400000 in
theorem c_X0_own_1_3 (X : pX) (h : Nat) (I J : IM) (x d : Int) (hR : 0 ≤ I 63 1 ∧ I 63 1 ≤ 19) (hk : I 65 (I 63 4).toNat = 1) (ha : 0 ≤ I 63 4 ∧ I 63 4 < 50) (hd : 0 ≤ d ∧ d ≤ 36) : KI X (h + 10) mX0_own [.ref 63, zi 3, zi x, zi d] I J (((((x + (I 63 4)) + 3) * 2) - (xorZ 1 (I 63 4)))) (trM I [2, 10, 20, 1, 11]) J := by
  show Rz X (h + 10) mX0_own 0 [some (.ref 63), some (zi 3), some (zi x), some (zi d)] [] I J _
  refine rz_aload_n dX0_own_0 rfl ?_
  refine rz_aload_n dX0_own_1 rfl ?_
  refine rz_getR dX0_own_2 kf_RX0_13 hd_63 rfl rr_63_3 ?_
  refine rz_aload_n dX0_own_5 rfl ?_
  refine rz_getI (z := (I 63 4)) dX0_own_6 kf_RX0_32 hd_63 rfl rfl ?_
  refine rz_iald (z := 1) dX0_own_9 hd_65 (by decide) (by omega) hk ?_
  refine rz_iload_n dX0_own_10 rfl ?_
  refine rz_iload_n dX0_own_11 rfl ?_
  refine rz_iload_n dX0_own_12 rfl ?_
  refine rz_cVI dX0_own_13 kl_RX0_39 hd_63 ⟨_, _, rfl⟩ (c_X0_from_1_1_3 X _ I J x d (by (try simp only [trM_R, stM_R, trR_R, stR_R, List.length_cons, List.length_nil]); omega) hk ha (by omega)) rfl rfl (Nat.le_of_ble_eq_true rfl) (Nat.le_of_ble_eq_true rfl) ?_
  refine rz_iret dX0_own_16 rfl ?_
  exact ⟨_, rfl, rfl, rfl, rfl⟩
set_option maxRecDepth 20000 in
set_option maxHeartbeats 400000 in
theorem c_perform_1_3 (X : pX) (h : Nat) (I J : IM) (n x : Int) (hn : 0 ≤ n ∧ n < I 63 0) (hb : I 63 0 ≤ 50) (hk : I 65 n.toNat = 1) : KI X (h + 11) mX0_perform [.ref 63, zi n, zi 3, zi x] I J (((((x + n) + 3) * 2) - (xorZ 1 n))) (trM (pfM I n) [2, 10, 20, 1, 11]) J := by
  show Rz X (h + 11) mX0_perform 0 [some (.ref 63), some (zi n), some (zi 3), some (zi x)] [] I J _
  refine rz_aload_n dX0_perform_0 rfl ?_
  refine rz_iconst dX0_perform_1 ?_
  refine rz_putI dX0_perform_2 kp_RX0_20 hd_63 rfl ?_
  refine rz_iload_n dX0_perform_5 rfl ?_
  refine rz_if_lt (t := 26) dX0_perform_6 rfl (by omega) (fun c6 => ?_) (fun c6 => ?_)
  · refine rz_iconst dX0_perform_26 ?_
    refine rz_iret dX0_perform_27 rfl ?_
    exfalso; omega
  · refine rz_iload_n dX0_perform_9 rfl ?_
    refine rz_aload_n dX0_perform_10 rfl ?_
    refine rz_getI (z := (I 63 0)) dX0_perform_11 kf_RX0_16 hd_63 rfl rfl ?_
    refine rz_icmp_ge (t := 26) dX0_perform_14 rfl (by omega) (by omega) (fun c14 => ?_) (fun c14 => ?_)
    · refine rz_iconst dX0_perform_26 ?_
      refine rz_iret dX0_perform_27 rfl ?_
      exfalso; omega
    · refine rz_iload_n dX0_perform_17 rfl ?_
      refine rz_if_lt (t := 26) dX0_perform_18 rfl (by omega) (fun q => absurd q (by decide)) (fun _ => ?_)
      refine rz_iload_n dX0_perform_21 rfl ?_
      refine rz_iconst dX0_perform_22 ?_
      refine rz_icmp_le (t := 28) dX0_perform_23 rfl (by omega) (by omega) (fun _ => ?_) (fun q => absurd q (by decide))
      refine rz_aload_n dX0_perform_28 rfl ?_
      refine rz_iload_n dX0_perform_29 rfl ?_
      refine rz_putI dX0_perform_30 kp_RX0_32 hd_63 rfl ?_
      refine rz_mem (I' := (pfM I n)) (J' := J) (rfl) (rfl) ?_
      refine rz_aload_n dX0_perform_33 rfl ?_
      refine rz_iload_n dX0_perform_34 rfl ?_
      refine rz_iload_n dX0_perform_35 rfl ?_
      refine rz_iconst dX0_perform_36 ?_
      refine rz_cVI dX0_perform_37 kl_RX0_35 hd_63 ⟨_, _, rfl⟩ (c_X0_own_1_3 X _ (pfM I n) J x 0 (by show (0 : Int) ≤ 0 ∧ (0 : Int) ≤ _; omega) hk (by show 0 ≤ n ∧ n < 50; omega) (by omega)) rfl rfl (Nat.le_of_ble_eq_true rfl) (Nat.le_of_ble_eq_true rfl) ?_
      refine rz_iret dX0_perform_40 rfl ?_
      exact ⟨_, rfl, rfl, rfl, rfl⟩
set_option maxRecDepth 20000 in
set_option maxHeartbeats 400000 in
theorem c_X0_run_2_1_m1 (X : pX) (h : Nat) (I J : IM) (x d : Int) (hR : 0 ≤ I 63 1 ∧ I 63 1 ≤ 23) (hk : I 65 (I 63 4).toNat = 2) (ha : 0 ≤ I 63 4 ∧ I 63 4 < 50) (hd : 0 ≤ d ∧ d ≤ 100) : KI X h mX0_run [.ref 63, zi 1, zi (-1), zi x, zi d] I J ((x + (I 63 4))) (trM I [1]) J := by
  show Rz X h mX0_run 0 [some (.ref 63), some (zi 1), some (zi (-1)), some (zi x), some (zi d)] [] I J _
  refine rz_aload_n dX0_run_0 rfl ?_
  refine rz_getI (z := (I 63 1)) dX0_run_1 kf_RX0_20 hd_63 rfl rfl ?_
  refine rz_bipush dX0_run_4 (by decide) ?_
  refine rz_icmp_ge (t := 19) dX0_run_6 rfl (by omega) (by omega) (fun c6 => ?_) (fun c6 => ?_)
  · exfalso; omega
  · refine rz_aload_n dX0_run_9 rfl ?_
    refine rz_getR dX0_run_10 kf_RX0_9 hd_63 rfl rr_63_2 ?_
    refine rz_aload_n dX0_run_13 rfl ?_
    refine rz_getI (z := (I 63 1)) dX0_run_14 kf_RX0_20 hd_63 rfl rfl ?_
    refine rz_iload_n dX0_run_17 rfl ?_
    refine rz_iast dX0_run_18 hd_64 (by decide) (by omega) ?_
    refine rz_aload_n dX0_run_19 rfl ?_
    refine rz_dup dX0_run_20 rfl ?_
    refine rz_getI (z := (I 63 1)) dX0_run_21 kf_RX0_20 hd_63 rfl rfl ?_
    refine rz_iconst dX0_run_24 ?_
    refine rz_iadd dX0_run_25 ?_
    refine rz_putI dX0_run_26 kp_RX0_20 hd_63 rfl ?_
    refine rz_mem (I' := (stM I 1)) (J' := J) (rfl) (rfl) ?_
    refine rz_iload_n dX0_run_29 rfl ?_
    refine rz_lookup (t := 144) (off := 114) dX0_run_30 (by omega) (by decide) (by decide) rfl ?_
    refine rz_iload_n dX0_run_144 rfl ?_
    refine rz_aload_n dX0_run_145 rfl ?_
    refine rz_getI (z := (I 63 4)) dX0_run_146 kf_RX0_32 hd_63 rfl rfl ?_
    refine rz_iadd dX0_run_149 ?_
    refine rz_iret dX0_run_150 rfl ?_
    exact ⟨_, rfl, rfl, rfl, rfl⟩
set_option maxRecDepth 20000 in
set_option maxHeartbeats 400000 in
theorem c_X0_from_2_2_0 (X : pX) (h : Nat) (I J : IM) (x d : Int) (hR : 0 ≤ I 63 1 ∧ I 63 1 ≤ 23) (hk : I 65 (I 63 4).toNat = 2) (ha : 0 ≤ I 63 4 ∧ I 63 4 < 50) (hd : 0 ≤ d ∧ d ≤ 39) : KI X (h + 1) mX0_from [.ref 63, zi 2, zi 0, zi x, zi d] I J ((x + (I 63 4))) (trM I [1]) J := by
  show Rz X (h + 1) mX0_from 0 [some (.ref 63), some (zi 2), some (zi 0), some (zi x), some (zi d), none, none, none] [] I J _
  refine rz_iload_n dX0_from_0 rfl ?_
  refine rz_istore dX0_from_1 (by decide) rfl ?_
  refine rz_iconst dX0_from_3 ?_
  refine rz_istore dX0_from_4 (by decide) rfl ?_
  refine rz_iload dX0_from_6 rfl ?_
  refine rz_bipush dX0_from_8 (by decide) ?_
  refine rz_icmp_ge (t := 78) dX0_from_10 rfl (by omega) (by omega) (fun q => absurd q (by decide)) (fun _ => ?_)
  refine rz_iload dX0_from_13 rfl ?_
  refine rz_if_lt (t := 78) dX0_from_15 rfl (by omega) (fun q => absurd q (by decide)) (fun _ => ?_)
  refine rz_gets1 dX0_from_18 kf_RX0_43 ?_
  refine rz_iload dX0_from_21 rfl ?_
  refine rz_iconst dX0_from_23 ?_
  refine rz_imul dX0_from_24 ?_
  refine rz_iload_n dX0_from_25 rfl ?_
  refine rz_iadd dX0_from_26 ?_
  refine rz_tld1 (z := 0) dX0_from_27 (by decide) rfl ?_
  refine rz_istore (ls' := [some (.ref 63), some (zi 2), some (zi 0), some (zi x), some (zi d), some (zi 2), some (zi 0), some (zi 0)]) dX0_from_28 (by decide) rfl ?_
  refine rz_iload dX0_from_30 rfl ?_
  refine rz_if_eq (t := 64) dX0_from_32 rfl (by omega) (fun _ => ?_) (fun q => absurd q (by decide))
  refine rz_gets0 dX0_from_64 kf_RX0_29 ?_
  refine rz_iload dX0_from_67 rfl ?_
  refine rz_tld0 (z := 0) dX0_from_69 (by decide) rfl ?_
  refine rz_istore dX0_from_70 (by decide) rfl ?_
  refine rz_iinc (z := 1) dX0_from_72 (by decide) rfl rfl rfl ?_
  refine rz_goto (t := 6) dX0_from_75 rfl ?_
  refine rz_iload dX0_from_6 rfl ?_
  refine rz_bipush dX0_from_8 (by decide) ?_
  refine rz_icmp_ge (t := 78) dX0_from_10 rfl (by omega) (by omega) (fun q => absurd q (by decide)) (fun _ => ?_)
  refine rz_iload dX0_from_13 rfl ?_
  refine rz_if_lt (t := 78) dX0_from_15 rfl (by omega) (fun q => absurd q (by decide)) (fun _ => ?_)
  refine rz_gets1 dX0_from_18 kf_RX0_43 ?_
  refine rz_iload dX0_from_21 rfl ?_
  refine rz_iconst dX0_from_23 ?_
  refine rz_imul dX0_from_24 ?_
  refine rz_iload_n dX0_from_25 rfl ?_
  refine rz_iadd dX0_from_26 ?_
  refine rz_tld1 (z := 1) dX0_from_27 (by decide) rfl ?_
  refine rz_istore (ls' := [some (.ref 63), some (zi 2), some (zi 0), some (zi x), some (zi d), some (zi 0), some (zi 1), some (zi 1)]) dX0_from_28 (by decide) rfl ?_
  refine rz_iload dX0_from_30 rfl ?_
  refine rz_if_eq (t := 64) dX0_from_32 rfl (by omega) (fun q => absurd q (by decide)) (fun _ => ?_)
  refine rz_iload dX0_from_35 rfl ?_
  refine rz_bipush dX0_from_37 (by decide) ?_
  refine rz_icmp_ge (t := 62) dX0_from_39 rfl (by omega) (by omega) (fun c39 => ?_) (fun c39 => ?_)
  · exfalso; omega
  · refine rz_aload_n dX0_from_42 rfl ?_
    refine rz_iload dX0_from_43 rfl ?_
    refine rz_gets0 dX0_from_45 kf_RX0_29 ?_
    refine rz_iload dX0_from_48 rfl ?_
    refine rz_tld0 (z := (-1)) dX0_from_50 (by decide) rfl ?_
    refine rz_iload_n dX0_from_51 rfl ?_
    refine rz_iload dX0_from_52 rfl ?_
    refine rz_iconst dX0_from_54 ?_
    refine rz_iadd dX0_from_55 ?_
    refine rz_cVI dX0_from_56 kl_RX0_46 hd_63 ⟨_, _, rfl⟩ (c_X0_run_2_1_m1 X _ I J x (d + 1) (by (try simp only [trM_R, stM_R, trR_R, stR_R, List.length_cons, List.length_nil]); omega) hk ha (by omega)) rfl rfl (Nat.le_of_ble_eq_true rfl) (Nat.le_of_ble_eq_true rfl) ?_
    refine rz_goto (t := 63) dX0_from_59 rfl ?_
    refine rz_iret dX0_from_63 rfl ?_
    exact ⟨_, rfl, rfl, rfl, rfl⟩
set_option maxRecDepth 20000 in
set_option maxHeartbeats 400000 in
theorem c_X0_own_2_0 (X : pX) (h : Nat) (I J : IM) (x d : Int) (hR : 0 ≤ I 63 1 ∧ I 63 1 ≤ 23) (hk : I 65 (I 63 4).toNat = 2) (ha : 0 ≤ I 63 4 ∧ I 63 4 < 50) (hd : 0 ≤ d ∧ d ≤ 39) : KI X (h + 2) mX0_own [.ref 63, zi 0, zi x, zi d] I J ((x + (I 63 4))) (trM I [1]) J := by
  show Rz X (h + 2) mX0_own 0 [some (.ref 63), some (zi 0), some (zi x), some (zi d)] [] I J _
  refine rz_aload_n dX0_own_0 rfl ?_
  refine rz_aload_n dX0_own_1 rfl ?_
  refine rz_getR dX0_own_2 kf_RX0_13 hd_63 rfl rr_63_3 ?_
  refine rz_aload_n dX0_own_5 rfl ?_
  refine rz_getI (z := (I 63 4)) dX0_own_6 kf_RX0_32 hd_63 rfl rfl ?_
  refine rz_iald (z := 2) dX0_own_9 hd_65 (by decide) (by omega) hk ?_
  refine rz_iload_n dX0_own_10 rfl ?_
  refine rz_iload_n dX0_own_11 rfl ?_
  refine rz_iload_n dX0_own_12 rfl ?_
  refine rz_cVI dX0_own_13 kl_RX0_39 hd_63 ⟨_, _, rfl⟩ (c_X0_from_2_2_0 X _ I J x d (by (try simp only [trM_R, stM_R, trR_R, stR_R, List.length_cons, List.length_nil]); omega) hk ha (by omega)) rfl rfl (Nat.le_of_ble_eq_true rfl) (Nat.le_of_ble_eq_true rfl) ?_
  refine rz_iret dX0_own_16 rfl ?_
  exact ⟨_, rfl, rfl, rfl, rfl⟩
set_option maxRecDepth 20000 in
set_option maxHeartbeats 400000 in
theorem c_perform_2_0 (X : pX) (h : Nat) (I J : IM) (n x : Int) (hn : 0 ≤ n ∧ n < I 63 0) (hb : I 63 0 ≤ 50) (hk : I 65 n.toNat = 2) : KI X (h + 3) mX0_perform [.ref 63, zi n, zi 0, zi x] I J ((x + n)) (trM (pfM I n) [1]) J := by
  show Rz X (h + 3) mX0_perform 0 [some (.ref 63), some (zi n), some (zi 0), some (zi x)] [] I J _
  refine rz_aload_n dX0_perform_0 rfl ?_
  refine rz_iconst dX0_perform_1 ?_
  refine rz_putI dX0_perform_2 kp_RX0_20 hd_63 rfl ?_
  refine rz_iload_n dX0_perform_5 rfl ?_
  refine rz_if_lt (t := 26) dX0_perform_6 rfl (by omega) (fun c6 => ?_) (fun c6 => ?_)
  · refine rz_iconst dX0_perform_26 ?_
    refine rz_iret dX0_perform_27 rfl ?_
    exfalso; omega
  · refine rz_iload_n dX0_perform_9 rfl ?_
    refine rz_aload_n dX0_perform_10 rfl ?_
    refine rz_getI (z := (I 63 0)) dX0_perform_11 kf_RX0_16 hd_63 rfl rfl ?_
    refine rz_icmp_ge (t := 26) dX0_perform_14 rfl (by omega) (by omega) (fun c14 => ?_) (fun c14 => ?_)
    · refine rz_iconst dX0_perform_26 ?_
      refine rz_iret dX0_perform_27 rfl ?_
      exfalso; omega
    · refine rz_iload_n dX0_perform_17 rfl ?_
      refine rz_if_lt (t := 26) dX0_perform_18 rfl (by omega) (fun q => absurd q (by decide)) (fun _ => ?_)
      refine rz_iload_n dX0_perform_21 rfl ?_
      refine rz_iconst dX0_perform_22 ?_
      refine rz_icmp_le (t := 28) dX0_perform_23 rfl (by omega) (by omega) (fun _ => ?_) (fun q => absurd q (by decide))
      refine rz_aload_n dX0_perform_28 rfl ?_
      refine rz_iload_n dX0_perform_29 rfl ?_
      refine rz_putI dX0_perform_30 kp_RX0_32 hd_63 rfl ?_
      refine rz_mem (I' := (pfM I n)) (J' := J) (rfl) (rfl) ?_
      refine rz_aload_n dX0_perform_33 rfl ?_
      refine rz_iload_n dX0_perform_34 rfl ?_
      refine rz_iload_n dX0_perform_35 rfl ?_
      refine rz_iconst dX0_perform_36 ?_
      refine rz_cVI dX0_perform_37 kl_RX0_35 hd_63 ⟨_, _, rfl⟩ (c_X0_own_2_0 X _ (pfM I n) J x 0 (by show (0 : Int) ≤ 0 ∧ (0 : Int) ≤ _; omega) hk (by show 0 ≤ n ∧ n < 50; omega) (by omega)) rfl rfl (Nat.le_of_ble_eq_true rfl) (Nat.le_of_ble_eq_true rfl) ?_
      refine rz_iret dX0_perform_40 rfl ?_
      exact ⟨_, rfl, rfl, rfl, rfl⟩
set_option maxRecDepth 20000 in
set_option maxHeartbeats 400000 in
theorem c_X0_run_2_10_m1 (X : pX) (h : Nat) (I J : IM) (x d : Int) (hR : 0 ≤ I 63 1 ∧ I 63 1 ≤ 22) (hk : I 65 (I 63 4).toNat = 2) (ha : 0 ≤ I 63 4 ∧ I 63 4 < 50) (hd : 0 ≤ d ∧ d ≤ 39) : KI X (h + 3) mX0_run [.ref 63, zi 10, zi (-1), zi x, zi d] I J (((x + (I 63 4)) * 2)) (trM I [10, 1]) J := by
  show Rz X (h + 3) mX0_run 0 [some (.ref 63), some (zi 10), some (zi (-1)), some (zi x), some (zi d)] [] I J _
  refine rz_aload_n dX0_run_0 rfl ?_
  refine rz_getI (z := (I 63 1)) dX0_run_1 kf_RX0_20 hd_63 rfl rfl ?_
  refine rz_bipush dX0_run_4 (by decide) ?_
  refine rz_icmp_ge (t := 19) dX0_run_6 rfl (by omega) (by omega) (fun c6 => ?_) (fun c6 => ?_)
  · exfalso; omega
  · refine rz_aload_n dX0_run_9 rfl ?_
    refine rz_getR dX0_run_10 kf_RX0_9 hd_63 rfl rr_63_2 ?_
    refine rz_aload_n dX0_run_13 rfl ?_
    refine rz_getI (z := (I 63 1)) dX0_run_14 kf_RX0_20 hd_63 rfl rfl ?_
    refine rz_iload_n dX0_run_17 rfl ?_
    refine rz_iast dX0_run_18 hd_64 (by decide) (by omega) ?_
    refine rz_aload_n dX0_run_19 rfl ?_
    refine rz_dup dX0_run_20 rfl ?_
    refine rz_getI (z := (I 63 1)) dX0_run_21 kf_RX0_20 hd_63 rfl rfl ?_
    refine rz_iconst dX0_run_24 ?_
    refine rz_iadd dX0_run_25 ?_
    refine rz_putI dX0_run_26 kp_RX0_20 hd_63 rfl ?_
    refine rz_mem (I' := (stM I 10)) (J' := J) (rfl) (rfl) ?_
    refine rz_iload_n dX0_run_29 rfl ?_
    refine rz_lookup (t := 169) (off := 139) dX0_run_30 (by omega) (by decide) (by decide) rfl ?_
    refine rz_aload_n dX0_run_169 rfl ?_
    refine rz_iconst dX0_run_170 ?_
    refine rz_iload_n dX0_run_171 rfl ?_
    refine rz_iload dX0_run_172 rfl ?_
    refine rz_cVI dX0_run_174 kl_RX0_35 hd_63 ⟨_, _, rfl⟩ (c_X0_own_2_0 X _ (stM I 10) J x d (by (try simp only [trM_R, stM_R, trR_R, stR_R, List.length_cons, List.length_nil]); omega) hk ha (by omega)) rfl rfl (Nat.le_of_ble_eq_true rfl) (Nat.le_of_ble_eq_true rfl) ?_
    refine rz_iconst dX0_run_177 ?_
    refine rz_imul dX0_run_178 ?_
    refine rz_iret dX0_run_179 rfl ?_
    exact ⟨_, rfl, rfl, rfl, rfl⟩
set_option maxRecDepth 20000 in
set_option maxHeartbeats 400000 in
theorem c_X0_from_2_0_1 (X : pX) (h : Nat) (I J : IM) (x d : Int) (hR : 0 ≤ I 63 1 ∧ I 63 1 ≤ 22) (hk : I 65 (I 63 4).toNat = 2) (ha : 0 ≤ I 63 4 ∧ I 63 4 < 50) (hd : 0 ≤ d ∧ d ≤ 38) : KI X (h + 4) mX0_from [.ref 63, zi 0, zi 1, zi x, zi d] I J (((x + (I 63 4)) * 2)) (trM I [10, 1]) J := by
  show Rz X (h + 4) mX0_from 0 [some (.ref 63), some (zi 0), some (zi 1), some (zi x), some (zi d), none, none, none] [] I J _
  refine rz_iload_n dX0_from_0 rfl ?_
  refine rz_istore dX0_from_1 (by decide) rfl ?_
  refine rz_iconst dX0_from_3 ?_
  refine rz_istore dX0_from_4 (by decide) rfl ?_
  refine rz_iload dX0_from_6 rfl ?_
  refine rz_bipush dX0_from_8 (by decide) ?_
  refine rz_icmp_ge (t := 78) dX0_from_10 rfl (by omega) (by omega) (fun q => absurd q (by decide)) (fun _ => ?_)
  refine rz_iload dX0_from_13 rfl ?_
  refine rz_if_lt (t := 78) dX0_from_15 rfl (by omega) (fun q => absurd q (by decide)) (fun _ => ?_)
  refine rz_gets1 dX0_from_18 kf_RX0_43 ?_
  refine rz_iload dX0_from_21 rfl ?_
  refine rz_iconst dX0_from_23 ?_
  refine rz_imul dX0_from_24 ?_
  refine rz_iload_n dX0_from_25 rfl ?_
  refine rz_iadd dX0_from_26 ?_
  refine rz_tld1 (z := 10) dX0_from_27 (by decide) rfl ?_
  refine rz_istore (ls' := [some (.ref 63), some (zi 0), some (zi 1), some (zi x), some (zi d), some (zi 0), some (zi 0), some (zi 10)]) dX0_from_28 (by decide) rfl ?_
  refine rz_iload dX0_from_30 rfl ?_
  refine rz_if_eq (t := 64) dX0_from_32 rfl (by omega) (fun q => absurd q (by decide)) (fun _ => ?_)
  refine rz_iload dX0_from_35 rfl ?_
  refine rz_bipush dX0_from_37 (by decide) ?_
  refine rz_icmp_ge (t := 62) dX0_from_39 rfl (by omega) (by omega) (fun c39 => ?_) (fun c39 => ?_)
  · exfalso; omega
  · refine rz_aload_n dX0_from_42 rfl ?_
    refine rz_iload dX0_from_43 rfl ?_
    refine rz_gets0 dX0_from_45 kf_RX0_29 ?_
    refine rz_iload dX0_from_48 rfl ?_
    refine rz_tld0 (z := (-1)) dX0_from_50 (by decide) rfl ?_
    refine rz_iload_n dX0_from_51 rfl ?_
    refine rz_iload dX0_from_52 rfl ?_
    refine rz_iconst dX0_from_54 ?_
    refine rz_iadd dX0_from_55 ?_
    refine rz_cVI dX0_from_56 kl_RX0_46 hd_63 ⟨_, _, rfl⟩ (c_X0_run_2_10_m1 X _ I J x (d + 1) (by (try simp only [trM_R, stM_R, trR_R, stR_R, List.length_cons, List.length_nil]); omega) hk ha (by omega)) rfl rfl (Nat.le_of_ble_eq_true rfl) (Nat.le_of_ble_eq_true rfl) ?_
    refine rz_goto (t := 63) dX0_from_59 rfl ?_
    refine rz_iret dX0_from_63 rfl ?_
    exact ⟨_, rfl, rfl, rfl, rfl⟩
set_option maxRecDepth 20000 in
set_option maxHeartbeats 400000 in
theorem c_X0_run_2_30_0 (X : pX) (h : Nat) (I J : IM) (x d : Int) (hR : 0 ≤ I 63 1 ∧ I 63 1 ≤ 21) (hk : I 65 (I 63 4).toNat = 2) (ha : 0 ≤ I 63 4 ∧ I 63 4 < 50) (hd : 0 ≤ d ∧ d ≤ 38) : KI X (h + 5) mX0_run [.ref 63, zi 30, zi 0, zi x, zi d] I J ((-((x + (I 63 4)) * 2))) (trM I [30, 10, 1]) J := by
  show Rz X (h + 5) mX0_run 0 [some (.ref 63), some (zi 30), some (zi 0), some (zi x), some (zi d)] [] I J _
  refine rz_aload_n dX0_run_0 rfl ?_
  refine rz_getI (z := (I 63 1)) dX0_run_1 kf_RX0_20 hd_63 rfl rfl ?_
  refine rz_bipush dX0_run_4 (by decide) ?_
  refine rz_icmp_ge (t := 19) dX0_run_6 rfl (by omega) (by omega) (fun c6 => ?_) (fun c6 => ?_)
  · exfalso; omega
  · refine rz_aload_n dX0_run_9 rfl ?_
    refine rz_getR dX0_run_10 kf_RX0_9 hd_63 rfl rr_63_2 ?_
    refine rz_aload_n dX0_run_13 rfl ?_
    refine rz_getI (z := (I 63 1)) dX0_run_14 kf_RX0_20 hd_63 rfl rfl ?_
    refine rz_iload_n dX0_run_17 rfl ?_
    refine rz_iast dX0_run_18 hd_64 (by decide) (by omega) ?_
    refine rz_aload_n dX0_run_19 rfl ?_
    refine rz_dup dX0_run_20 rfl ?_
    refine rz_getI (z := (I 63 1)) dX0_run_21 kf_RX0_20 hd_63 rfl rfl ?_
    refine rz_iconst dX0_run_24 ?_
    refine rz_iadd dX0_run_25 ?_
    refine rz_putI dX0_run_26 kp_RX0_20 hd_63 rfl ?_
    refine rz_mem (I' := (stM I 30)) (J' := J) (rfl) (rfl) ?_
    refine rz_iload_n dX0_run_29 rfl ?_
    refine rz_lookup (t := 199) (off := 169) dX0_run_30 (by omega) (by decide) (by decide) rfl ?_
    refine rz_aload_n dX0_run_199 rfl ?_
    refine rz_iload_n dX0_run_200 rfl ?_
    refine rz_iconst dX0_run_201 ?_
    refine rz_iload_n dX0_run_202 rfl ?_
    refine rz_iload dX0_run_203 rfl ?_
    refine rz_cVI dX0_run_205 kl_RX0_39 hd_63 ⟨_, _, rfl⟩ (c_X0_from_2_0_1 X _ (stM I 30) J x d (by (try simp only [trM_R, stM_R, trR_R, stR_R, List.length_cons, List.length_nil]); omega) hk ha (by omega)) rfl rfl (Nat.le_of_ble_eq_true rfl) (Nat.le_of_ble_eq_true rfl) ?_
    refine rz_ineg dX0_run_208 ?_
    refine rz_iret dX0_run_209 rfl ?_
    exact ⟨_, rfl, rfl, rfl, rfl⟩
set_option maxRecDepth 20000 in
set_option maxHeartbeats 400000 in
theorem c_X0_from_2_2_1 (X : pX) (h : Nat) (I J : IM) (x d : Int) (hR : 0 ≤ I 63 1 ∧ I 63 1 ≤ 21) (hk : I 65 (I 63 4).toNat = 2) (ha : 0 ≤ I 63 4 ∧ I 63 4 < 50) (hd : 0 ≤ d ∧ d ≤ 37) : KI X (h + 6) mX0_from [.ref 63, zi 2, zi 1, zi x, zi d] I J ((-((x + (I 63 4)) * 2))) (trM I [30, 10, 1]) J := by
  show Rz X (h + 6) mX0_from 0 [some (.ref 63), some (zi 2), some (zi 1), some (zi x), some (zi d), none, none, none] [] I J _
  refine rz_iload_n dX0_from_0 rfl ?_
  refine rz_istore dX0_from_1 (by decide) rfl ?_
  refine rz_iconst dX0_from_3 ?_
  refine rz_istore dX0_from_4 (by decide) rfl ?_
  refine rz_iload dX0_from_6 rfl ?_
  refine rz_bipush dX0_from_8 (by decide) ?_
  refine rz_icmp_ge (t := 78) dX0_from_10 rfl (by omega) (by omega) (fun q => absurd q (by decide)) (fun _ => ?_)
  refine rz_iload dX0_from_13 rfl ?_
  refine rz_if_lt (t := 78) dX0_from_15 rfl (by omega) (fun q => absurd q (by decide)) (fun _ => ?_)
  refine rz_gets1 dX0_from_18 kf_RX0_43 ?_
  refine rz_iload dX0_from_21 rfl ?_
  refine rz_iconst dX0_from_23 ?_
  refine rz_imul dX0_from_24 ?_
  refine rz_iload_n dX0_from_25 rfl ?_
  refine rz_iadd dX0_from_26 ?_
  refine rz_tld1 (z := 30) dX0_from_27 (by decide) rfl ?_
  refine rz_istore (ls' := [some (.ref 63), some (zi 2), some (zi 1), some (zi x), some (zi d), some (zi 2), some (zi 0), some (zi 30)]) dX0_from_28 (by decide) rfl ?_
  refine rz_iload dX0_from_30 rfl ?_
  refine rz_if_eq (t := 64) dX0_from_32 rfl (by omega) (fun q => absurd q (by decide)) (fun _ => ?_)
  refine rz_iload dX0_from_35 rfl ?_
  refine rz_bipush dX0_from_37 (by decide) ?_
  refine rz_icmp_ge (t := 62) dX0_from_39 rfl (by omega) (by omega) (fun c39 => ?_) (fun c39 => ?_)
  · exfalso; omega
  · refine rz_aload_n dX0_from_42 rfl ?_
    refine rz_iload dX0_from_43 rfl ?_
    refine rz_gets0 dX0_from_45 kf_RX0_29 ?_
    refine rz_iload dX0_from_48 rfl ?_
    refine rz_tld0 (z := 0) dX0_from_50 (by decide) rfl ?_
    refine rz_iload_n dX0_from_51 rfl ?_
    refine rz_iload dX0_from_52 rfl ?_
    refine rz_iconst dX0_from_54 ?_
    refine rz_iadd dX0_from_55 ?_
    refine rz_cVI dX0_from_56 kl_RX0_46 hd_63 ⟨_, _, rfl⟩ (c_X0_run_2_30_0 X _ I J x (d + 1) (by (try simp only [trM_R, stM_R, trR_R, stR_R, List.length_cons, List.length_nil]); omega) hk ha (by omega)) rfl rfl (Nat.le_of_ble_eq_true rfl) (Nat.le_of_ble_eq_true rfl) ?_
    refine rz_goto (t := 63) dX0_from_59 rfl ?_
    refine rz_iret dX0_from_63 rfl ?_
    exact ⟨_, rfl, rfl, rfl, rfl⟩
set_option maxRecDepth 20000 in
set_option maxHeartbeats 400000 in
theorem c_X0_own_2_1 (X : pX) (h : Nat) (I J : IM) (x d : Int) (hR : 0 ≤ I 63 1 ∧ I 63 1 ≤ 21) (hk : I 65 (I 63 4).toNat = 2) (ha : 0 ≤ I 63 4 ∧ I 63 4 < 50) (hd : 0 ≤ d ∧ d ≤ 37) : KI X (h + 7) mX0_own [.ref 63, zi 1, zi x, zi d] I J ((-((x + (I 63 4)) * 2))) (trM I [30, 10, 1]) J := by
  show Rz X (h + 7) mX0_own 0 [some (.ref 63), some (zi 1), some (zi x), some (zi d)] [] I J _
  refine rz_aload_n dX0_own_0 rfl ?_
  refine rz_aload_n dX0_own_1 rfl ?_
  refine rz_getR dX0_own_2 kf_RX0_13 hd_63 rfl rr_63_3 ?_
  refine rz_aload_n dX0_own_5 rfl ?_
  refine rz_getI (z := (I 63 4)) dX0_own_6 kf_RX0_32 hd_63 rfl rfl ?_
  refine rz_iald (z := 2) dX0_own_9 hd_65 (by decide) (by omega) hk ?_
  refine rz_iload_n dX0_own_10 rfl ?_
  refine rz_iload_n dX0_own_11 rfl ?_
  refine rz_iload_n dX0_own_12 rfl ?_
  refine rz_cVI dX0_own_13 kl_RX0_39 hd_63 ⟨_, _, rfl⟩ (c_X0_from_2_2_1 X _ I J x d (by (try simp only [trM_R, stM_R, trR_R, stR_R, List.length_cons, List.length_nil]); omega) hk ha (by omega)) rfl rfl (Nat.le_of_ble_eq_true rfl) (Nat.le_of_ble_eq_true rfl) ?_
  refine rz_iret dX0_own_16 rfl ?_
  exact ⟨_, rfl, rfl, rfl, rfl⟩
set_option maxRecDepth 20000 in
set_option maxHeartbeats 400000 in
theorem c_perform_2_1 (X : pX) (h : Nat) (I J : IM) (n x : Int) (hn : 0 ≤ n ∧ n < I 63 0) (hb : I 63 0 ≤ 50) (hk : I 65 n.toNat = 2) : KI X (h + 8) mX0_perform [.ref 63, zi n, zi 1, zi x] I J ((-((x + n) * 2))) (trM (pfM I n) [30, 10, 1]) J := by
  show Rz X (h + 8) mX0_perform 0 [some (.ref 63), some (zi n), some (zi 1), some (zi x)] [] I J _
  refine rz_aload_n dX0_perform_0 rfl ?_
  refine rz_iconst dX0_perform_1 ?_
  refine rz_putI dX0_perform_2 kp_RX0_20 hd_63 rfl ?_
  refine rz_iload_n dX0_perform_5 rfl ?_
  refine rz_if_lt (t := 26) dX0_perform_6 rfl (by omega) (fun c6 => ?_) (fun c6 => ?_)
  · refine rz_iconst dX0_perform_26 ?_
    refine rz_iret dX0_perform_27 rfl ?_
    exfalso; omega
  · refine rz_iload_n dX0_perform_9 rfl ?_
    refine rz_aload_n dX0_perform_10 rfl ?_
    refine rz_getI (z := (I 63 0)) dX0_perform_11 kf_RX0_16 hd_63 rfl rfl ?_
    refine rz_icmp_ge (t := 26) dX0_perform_14 rfl (by omega) (by omega) (fun c14 => ?_) (fun c14 => ?_)
    · refine rz_iconst dX0_perform_26 ?_
      refine rz_iret dX0_perform_27 rfl ?_
      exfalso; omega
    · refine rz_iload_n dX0_perform_17 rfl ?_
      refine rz_if_lt (t := 26) dX0_perform_18 rfl (by omega) (fun q => absurd q (by decide)) (fun _ => ?_)
      refine rz_iload_n dX0_perform_21 rfl ?_
      refine rz_iconst dX0_perform_22 ?_
      refine rz_icmp_le (t := 28) dX0_perform_23 rfl (by omega) (by omega) (fun _ => ?_) (fun q => absurd q (by decide))
      refine rz_aload_n dX0_perform_28 rfl ?_
      refine rz_iload_n dX0_perform_29 rfl ?_
      refine rz_putI dX0_perform_30 kp_RX0_32 hd_63 rfl ?_
      refine rz_mem (I' := (pfM I n)) (J' := J) (rfl) (rfl) ?_
      refine rz_aload_n dX0_perform_33 rfl ?_
      refine rz_iload_n dX0_perform_34 rfl ?_
      refine rz_iload_n dX0_perform_35 rfl ?_
      refine rz_iconst dX0_perform_36 ?_
      refine rz_cVI dX0_perform_37 kl_RX0_35 hd_63 ⟨_, _, rfl⟩ (c_X0_own_2_1 X _ (pfM I n) J x 0 (by show (0 : Int) ≤ 0 ∧ (0 : Int) ≤ _; omega) hk (by show 0 ≤ n ∧ n < 50; omega) (by omega)) rfl rfl (Nat.le_of_ble_eq_true rfl) (Nat.le_of_ble_eq_true rfl) ?_
      refine rz_iret dX0_perform_40 rfl ?_
      exact ⟨_, rfl, rfl, rfl, rfl⟩
set_option maxRecDepth 20000 in
set_option maxHeartbeats 400000 in
theorem c_X0_run_2_11_m1 (X : pX) (h : Nat) (I J : IM) (x d : Int) (hR : 0 ≤ I 63 1 ∧ I 63 1 ≤ 23) (hk : I 65 (I 63 4).toNat = 2) (ha : 0 ≤ I 63 4 ∧ I 63 4 < 50) (hd : 0 ≤ d ∧ d ≤ 100) : KI X h mX0_run [.ref 63, zi 11, zi (-1), zi x, zi d] I J ((xorZ x (I 63 4))) (trM I [11]) J := by
  show Rz X h mX0_run 0 [some (.ref 63), some (zi 11), some (zi (-1)), some (zi x), some (zi d)] [] I J _
  refine rz_aload_n dX0_run_0 rfl ?_
  refine rz_getI (z := (I 63 1)) dX0_run_1 kf_RX0_20 hd_63 rfl rfl ?_
  refine rz_bipush dX0_run_4 (by decide) ?_
  refine rz_icmp_ge (t := 19) dX0_run_6 rfl (by omega) (by omega) (fun c6 => ?_) (fun c6 => ?_)
  · exfalso; omega
  · refine rz_aload_n dX0_run_9 rfl ?_
    refine rz_getR dX0_run_10 kf_RX0_9 hd_63 rfl rr_63_2 ?_
    refine rz_aload_n dX0_run_13 rfl ?_
    refine rz_getI (z := (I 63 1)) dX0_run_14 kf_RX0_20 hd_63 rfl rfl ?_
    refine rz_iload_n dX0_run_17 rfl ?_
    refine rz_iast dX0_run_18 hd_64 (by decide) (by omega) ?_
    refine rz_aload_n dX0_run_19 rfl ?_
    refine rz_dup dX0_run_20 rfl ?_
    refine rz_getI (z := (I 63 1)) dX0_run_21 kf_RX0_20 hd_63 rfl rfl ?_
    refine rz_iconst dX0_run_24 ?_
    refine rz_iadd dX0_run_25 ?_
    refine rz_putI dX0_run_26 kp_RX0_20 hd_63 rfl ?_
    refine rz_mem (I' := (stM I 11)) (J' := J) (rfl) (rfl) ?_
    refine rz_iload_n dX0_run_29 rfl ?_
    refine rz_lookup (t := 180) (off := 150) dX0_run_30 (by omega) (by decide) (by decide) rfl ?_
    refine rz_iload_n dX0_run_180 rfl ?_
    refine rz_aload_n dX0_run_181 rfl ?_
    refine rz_getI (z := (I 63 4)) dX0_run_182 kf_RX0_32 hd_63 rfl rfl ?_
    refine rz_ixor dX0_run_185 ?_
    refine rz_iret dX0_run_186 rfl ?_
    exact ⟨_, rfl, rfl, rfl, rfl⟩
set_option maxRecDepth 20000 in
set_option maxHeartbeats 400000 in
theorem c_X0_from_2_2_2 (X : pX) (h : Nat) (I J : IM) (x d : Int) (hR : 0 ≤ I 63 1 ∧ I 63 1 ≤ 23) (hk : I 65 (I 63 4).toNat = 2) (ha : 0 ≤ I 63 4 ∧ I 63 4 < 50) (hd : 0 ≤ d ∧ d ≤ 39) : KI X (h + 1) mX0_from [.ref 63, zi 2, zi 2, zi x, zi d] I J ((xorZ x (I 63 4))) (trM I [11]) J := by
  show Rz X (h + 1) mX0_from 0 [some (.ref 63), some (zi 2), some (zi 2), some (zi x), some (zi d), none, none, none] [] I J _
  refine rz_iload_n dX0_from_0 rfl ?_
  refine rz_istore dX0_from_1 (by decide) rfl ?_
  refine rz_iconst dX0_from_3 ?_
  refine rz_istore dX0_from_4 (by decide) rfl ?_
  refine rz_iload dX0_from_6 rfl ?_
  refine rz_bipush dX0_from_8 (by decide) ?_
  refine rz_icmp_ge (t := 78) dX0_from_10 rfl (by omega) (by omega) (fun q => absurd q (by decide)) (fun _ => ?_)
  refine rz_iload dX0_from_13 rfl ?_
  refine rz_if_lt (t := 78) dX0_from_15 rfl (by omega) (fun q => absurd q (by decide)) (fun _ => ?_)
  refine rz_gets1 dX0_from_18 kf_RX0_43 ?_
  refine rz_iload dX0_from_21 rfl ?_
  refine rz_iconst dX0_from_23 ?_
  refine rz_imul dX0_from_24 ?_
  refine rz_iload_n dX0_from_25 rfl ?_
  refine rz_iadd dX0_from_26 ?_
  refine rz_tld1 (z := 0) dX0_from_27 (by decide) rfl ?_
  refine rz_istore (ls' := [some (.ref 63), some (zi 2), some (zi 2), some (zi x), some (zi d), some (zi 2), some (zi 0), some (zi 0)]) dX0_from_28 (by decide) rfl ?_
  refine rz_iload dX0_from_30 rfl ?_
  refine rz_if_eq (t := 64) dX0_from_32 rfl (by omega) (fun _ => ?_) (fun q => absurd q (by decide))
  refine rz_gets0 dX0_from_64 kf_RX0_29 ?_
  refine rz_iload dX0_from_67 rfl ?_
  refine rz_tld0 (z := 0) dX0_from_69 (by decide) rfl ?_
  refine rz_istore dX0_from_70 (by decide) rfl ?_
  refine rz_iinc (z := 1) dX0_from_72 (by decide) rfl rfl rfl ?_
  refine rz_goto (t := 6) dX0_from_75 rfl ?_
  refine rz_iload dX0_from_6 rfl ?_
  refine rz_bipush dX0_from_8 (by decide) ?_
  refine rz_icmp_ge (t := 78) dX0_from_10 rfl (by omega) (by omega) (fun q => absurd q (by decide)) (fun _ => ?_)
  refine rz_iload dX0_from_13 rfl ?_
  refine rz_if_lt (t := 78) dX0_from_15 rfl (by omega) (fun q => absurd q (by decide)) (fun _ => ?_)
  refine rz_gets1 dX0_from_18 kf_RX0_43 ?_
  refine rz_iload dX0_from_21 rfl ?_
  refine rz_iconst dX0_from_23 ?_
  refine rz_imul dX0_from_24 ?_
  refine rz_iload_n dX0_from_25 rfl ?_
  refine rz_iadd dX0_from_26 ?_
  refine rz_tld1 (z := 11) dX0_from_27 (by decide) rfl ?_
  refine rz_istore (ls' := [some (.ref 63), some (zi 2), some (zi 2), some (zi x), some (zi d), some (zi 0), some (zi 1), some (zi 11)]) dX0_from_28 (by decide) rfl ?_
  refine rz_iload dX0_from_30 rfl ?_
  refine rz_if_eq (t := 64) dX0_from_32 rfl (by omega) (fun q => absurd q (by decide)) (fun _ => ?_)
  refine rz_iload dX0_from_35 rfl ?_
  refine rz_bipush dX0_from_37 (by decide) ?_
  refine rz_icmp_ge (t := 62) dX0_from_39 rfl (by omega) (by omega) (fun c39 => ?_) (fun c39 => ?_)
  · exfalso; omega
  · refine rz_aload_n dX0_from_42 rfl ?_
    refine rz_iload dX0_from_43 rfl ?_
    refine rz_gets0 dX0_from_45 kf_RX0_29 ?_
    refine rz_iload dX0_from_48 rfl ?_
    refine rz_tld0 (z := (-1)) dX0_from_50 (by decide) rfl ?_
    refine rz_iload_n dX0_from_51 rfl ?_
    refine rz_iload dX0_from_52 rfl ?_
    refine rz_iconst dX0_from_54 ?_
    refine rz_iadd dX0_from_55 ?_
    refine rz_cVI dX0_from_56 kl_RX0_46 hd_63 ⟨_, _, rfl⟩ (c_X0_run_2_11_m1 X _ I J x (d + 1) (by (try simp only [trM_R, stM_R, trR_R, stR_R, List.length_cons, List.length_nil]); omega) hk ha (by omega)) rfl rfl (Nat.le_of_ble_eq_true rfl) (Nat.le_of_ble_eq_true rfl) ?_
    refine rz_goto (t := 63) dX0_from_59 rfl ?_
    refine rz_iret dX0_from_63 rfl ?_
    exact ⟨_, rfl, rfl, rfl, rfl⟩
set_option maxRecDepth 20000 in
set_option maxHeartbeats 400000 in
theorem c_X0_own_2_2 (X : pX) (h : Nat) (I J : IM) (x d : Int) (hR : 0 ≤ I 63 1 ∧ I 63 1 ≤ 23) (hk : I 65 (I 63 4).toNat = 2) (ha : 0 ≤ I 63 4 ∧ I 63 4 < 50) (hd : 0 ≤ d ∧ d ≤ 39) : KI X (h + 2) mX0_own [.ref 63, zi 2, zi x, zi d] I J ((xorZ x (I 63 4))) (trM I [11]) J := by
  show Rz X (h + 2) mX0_own 0 [some (.ref 63), some (zi 2), some (zi x), some (zi d)] [] I J _
  refine rz_aload_n dX0_own_0 rfl ?_
  refine rz_aload_n dX0_own_1 rfl ?_
  refine rz_getR dX0_own_2 kf_RX0_13 hd_63 rfl rr_63_3 ?_
  refine rz_aload_n dX0_own_5 rfl ?_
  refine rz_getI (z := (I 63 4)) dX0_own_6 kf_RX0_32 hd_63 rfl rfl ?_
  refine rz_iald (z := 2) dX0_own_9 hd_65 (by decide) (by omega) hk ?_
  refine rz_iload_n dX0_own_10 rfl ?_
  refine rz_iload_n dX0_own_11 rfl ?_
  refine rz_iload_n dX0_own_12 rfl ?_
  refine rz_cVI dX0_own_13 kl_RX0_39 hd_63 ⟨_, _, rfl⟩ (c_X0_from_2_2_2 X _ I J x d (by (try simp only [trM_R, stM_R, trR_R, stR_R, List.length_cons, List.length_nil]); omega) hk ha (by omega)) rfl rfl (Nat.le_of_ble_eq_true rfl) (Nat.le_of_ble_eq_true rfl) ?_
  refine rz_iret dX0_own_16 rfl ?_
  exact ⟨_, rfl, rfl, rfl, rfl⟩
set_option maxRecDepth 20000 in
set_option maxHeartbeats 400000 in
theorem c_perform_2_2 (X : pX) (h : Nat) (I J : IM) (n x : Int) (hn : 0 ≤ n ∧ n < I 63 0) (hb : I 63 0 ≤ 50) (hk : I 65 n.toNat = 2) : KI X (h + 3) mX0_perform [.ref 63, zi n, zi 2, zi x] I J ((xorZ x n)) (trM (pfM I n) [11]) J := by
  show Rz X (h + 3) mX0_perform 0 [some (.ref 63), some (zi n), some (zi 2), some (zi x)] [] I J _
  refine rz_aload_n dX0_perform_0 rfl ?_
  refine rz_iconst dX0_perform_1 ?_
  refine rz_putI dX0_perform_2 kp_RX0_20 hd_63 rfl ?_
  refine rz_iload_n dX0_perform_5 rfl ?_
  refine rz_if_lt (t := 26) dX0_perform_6 rfl (by omega) (fun c6 => ?_) (fun c6 => ?_)
  · refine rz_iconst dX0_perform_26 ?_
    refine rz_iret dX0_perform_27 rfl ?_
    exfalso; omega
  · refine rz_iload_n dX0_perform_9 rfl ?_
    refine rz_aload_n dX0_perform_10 rfl ?_
    refine rz_getI (z := (I 63 0)) dX0_perform_11 kf_RX0_16 hd_63 rfl rfl ?_
    refine rz_icmp_ge (t := 26) dX0_perform_14 rfl (by omega) (by omega) (fun c14 => ?_) (fun c14 => ?_)
    · refine rz_iconst dX0_perform_26 ?_
      refine rz_iret dX0_perform_27 rfl ?_
      exfalso; omega
    · refine rz_iload_n dX0_perform_17 rfl ?_
      refine rz_if_lt (t := 26) dX0_perform_18 rfl (by omega) (fun q => absurd q (by decide)) (fun _ => ?_)
      refine rz_iload_n dX0_perform_21 rfl ?_
      refine rz_iconst dX0_perform_22 ?_
      refine rz_icmp_le (t := 28) dX0_perform_23 rfl (by omega) (by omega) (fun _ => ?_) (fun q => absurd q (by decide))
      refine rz_aload_n dX0_perform_28 rfl ?_
      refine rz_iload_n dX0_perform_29 rfl ?_
      refine rz_putI dX0_perform_30 kp_RX0_32 hd_63 rfl ?_
      refine rz_mem (I' := (pfM I n)) (J' := J) (rfl) (rfl) ?_
      refine rz_aload_n dX0_perform_33 rfl ?_
      refine rz_iload_n dX0_perform_34 rfl ?_
      refine rz_iload_n dX0_perform_35 rfl ?_
      refine rz_iconst dX0_perform_36 ?_
      refine rz_cVI dX0_perform_37 kl_RX0_35 hd_63 ⟨_, _, rfl⟩ (c_X0_own_2_2 X _ (pfM I n) J x 0 (by show (0 : Int) ≤ 0 ∧ (0 : Int) ≤ _; omega) hk (by show 0 ≤ n ∧ n < 50; omega) (by omega)) rfl rfl (Nat.le_of_ble_eq_true rfl) (Nat.le_of_ble_eq_true rfl) ?_
      refine rz_iret dX0_perform_40 rfl ?_
      exact ⟨_, rfl, rfl, rfl, rfl⟩
set_option maxRecDepth 20000 in
set_option maxHeartbeats 400000 in
theorem c_X0_run_2_2_m1 (X : pX) (h : Nat) (I J : IM) (x d : Int) (hR : 0 ≤ I 63 1 ∧ I 63 1 ≤ 19) (hk : I 65 (I 63 4).toNat = 2) (ha : 0 ≤ I 63 4 ∧ I 63 4 < 50) (hd : 0 ≤ d ∧ d ≤ 37) : KI X (h + 8) mX0_run [.ref 63, zi 2, zi (-1), zi x, zi d] I J (((-((x + (I 63 4)) * 2)) - (xorZ 1 (I 63 4)))) (trM I [2, 30, 10, 1, 11]) J := by
  show Rz X (h + 8) mX0_run 0 [some (.ref 63), some (zi 2), some (zi (-1)), some (zi x), some (zi d)] [] I J _
  refine rz_aload_n dX0_run_0 rfl ?_
  refine rz_getI (z := (I 63 1)) dX0_run_1 kf_RX0_20 hd_63 rfl rfl ?_
  refine rz_bipush dX0_run_4 (by decide) ?_
  refine rz_icmp_ge (t := 19) dX0_run_6 rfl (by omega) (by omega) (fun c6 => ?_) (fun c6 => ?_)
  · exfalso; omega
  · refine rz_aload_n dX0_run_9 rfl ?_
    refine rz_getR dX0_run_10 kf_RX0_9 hd_63 rfl rr_63_2 ?_
    refine rz_aload_n dX0_run_13 rfl ?_
    refine rz_getI (z := (I 63 1)) dX0_run_14 kf_RX0_20 hd_63 rfl rfl ?_
    refine rz_iload_n dX0_run_17 rfl ?_
    refine rz_iast dX0_run_18 hd_64 (by decide) (by omega) ?_
    refine rz_aload_n dX0_run_19 rfl ?_
    refine rz_dup dX0_run_20 rfl ?_
    refine rz_getI (z := (I 63 1)) dX0_run_21 kf_RX0_20 hd_63 rfl rfl ?_
    refine rz_iconst dX0_run_24 ?_
    refine rz_iadd dX0_run_25 ?_
    refine rz_putI dX0_run_26 kp_RX0_20 hd_63 rfl ?_
    refine rz_mem (I' := (stM I 2)) (J' := J) (rfl) (rfl) ?_
    refine rz_iload_n dX0_run_29 rfl ?_
    refine rz_lookup (t := 151) (off := 121) dX0_run_30 (by omega) (by decide) (by decide) rfl ?_
    refine rz_aload_n dX0_run_151 rfl ?_
    refine rz_iconst dX0_run_152 ?_
    refine rz_iload_n dX0_run_153 rfl ?_
    refine rz_iload dX0_run_154 rfl ?_
    refine rz_cVI dX0_run_156 kl_RX0_35 hd_63 ⟨_, _, rfl⟩ (c_X0_own_2_1 X _ (stM I 2) J x d (by (try simp only [trM_R, stM_R, trR_R, stR_R, List.length_cons, List.length_nil]); omega) hk ha (by omega)) rfl rfl (Nat.le_of_ble_eq_true rfl) (Nat.le_of_ble_eq_true rfl) ?_
    refine rz_aload_n dX0_run_159 rfl ?_
    refine rz_iconst dX0_run_160 ?_
    refine rz_iconst dX0_run_161 ?_
    refine rz_iload dX0_run_162 rfl ?_
    refine rz_cVI dX0_run_164 kl_RX0_35 hd_63 ⟨_, _, rfl⟩ (c_X0_own_2_2 X _ (trM (stM I 2) [30, 10, 1]) J 1 d (by (try simp only [trM_R, stM_R, trR_R, stR_R, List.length_cons, List.length_nil]); omega) hk ha (by omega)) rfl rfl (Nat.le_of_ble_eq_true rfl) (Nat.le_of_ble_eq_true rfl) ?_
    refine rz_isub dX0_run_167 ?_
    refine rz_iret dX0_run_168 rfl ?_
    exact ⟨_, rfl, rfl, rfl, rfl⟩
set_option maxRecDepth 20000 in
set_option maxHeartbeats 400000 in
theorem c_X0_from_2_2_3 (X : pX) (h : Nat) (I J : IM) (x d : Int) (hR : 0 ≤ I 63 1 ∧ I 63 1 ≤ 19) (hk : I 65 (I 63 4).toNat = 2) (ha : 0 ≤ I 63 4 ∧ I 63 4 < 50) (hd : 0 ≤ d ∧ d ≤ 36) : KI X (h + 9) mX0_from [.ref 63, zi 2, zi 3, zi x, zi d] I J (((-((x + (I 63 4)) * 2)) - (xorZ 1 (I 63 4)))) (trM I [2, 30, 10, 1, 11]) J := by
  show Rz X (h + 9) mX0_from 0 [some (.ref 63), some (zi 2), some (zi 3), some (zi x), some (zi d), none, none, none] [] I J _
  refine rz_iload_n dX0_from_0 rfl ?_
  refine rz_istore dX0_from_1 (by decide) rfl ?_
  refine rz_iconst dX0_from_3 ?_
  refine rz_istore dX0_from_4 (by decide) rfl ?_
  refine rz_iload dX0_from_6 rfl ?_
  refine rz_bipush dX0_from_8 (by decide) ?_
  refine rz_icmp_ge (t := 78) dX0_from_10 rfl (by omega) (by omega) (fun q => absurd q (by decide)) (fun _ => ?_)
  refine rz_iload dX0_from_13 rfl ?_
  refine rz_if_lt (t := 78) dX0_from_15 rfl (by omega) (fun q => absurd q (by decide)) (fun _ => ?_)
  refine rz_gets1 dX0_from_18 kf_RX0_43 ?_
  refine rz_iload dX0_from_21 rfl ?_
  refine rz_iconst dX0_from_23 ?_
  refine rz_imul dX0_from_24 ?_
  refine rz_iload_n dX0_from_25 rfl ?_
  refine rz_iadd dX0_from_26 ?_
  refine rz_tld1 (z := 0) dX0_from_27 (by decide) rfl ?_
  refine rz_istore (ls' := [some (.ref 63), some (zi 2), some (zi 3), some (zi x), some (zi d), some (zi 2), some (zi 0), some (zi 0)]) dX0_from_28 (by decide) rfl ?_
  refine rz_iload dX0_from_30 rfl ?_
  refine rz_if_eq (t := 64) dX0_from_32 rfl (by omega) (fun _ => ?_) (fun q => absurd q (by decide))
  refine rz_gets0 dX0_from_64 kf_RX0_29 ?_
  refine rz_iload dX0_from_67 rfl ?_
  refine rz_tld0 (z := 0) dX0_from_69 (by decide) rfl ?_
  refine rz_istore dX0_from_70 (by decide) rfl ?_
  refine rz_iinc (z := 1) dX0_from_72 (by decide) rfl rfl rfl ?_
  refine rz_goto (t := 6) dX0_from_75 rfl ?_
  refine rz_iload dX0_from_6 rfl ?_
  refine rz_bipush dX0_from_8 (by decide) ?_
  refine rz_icmp_ge (t := 78) dX0_from_10 rfl (by omega) (by omega) (fun q => absurd q (by decide)) (fun _ => ?_)
  refine rz_iload dX0_from_13 rfl ?_
  refine rz_if_lt (t := 78) dX0_from_15 rfl (by omega) (fun q => absurd q (by decide)) (fun _ => ?_)
  refine rz_gets1 dX0_from_18 kf_RX0_43 ?_
  refine rz_iload dX0_from_21 rfl ?_
  refine rz_iconst dX0_from_23 ?_
  refine rz_imul dX0_from_24 ?_
  refine rz_iload_n dX0_from_25 rfl ?_
  refine rz_iadd dX0_from_26 ?_
  refine rz_tld1 (z := 2) dX0_from_27 (by decide) rfl ?_
  refine rz_istore (ls' := [some (.ref 63), some (zi 2), some (zi 3), some (zi x), some (zi d), some (zi 0), some (zi 1), some (zi 2)]) dX0_from_28 (by decide) rfl ?_
  refine rz_iload dX0_from_30 rfl ?_
  refine rz_if_eq (t := 64) dX0_from_32 rfl (by omega) (fun q => absurd q (by decide)) (fun _ => ?_)
  refine rz_iload dX0_from_35 rfl ?_
  refine rz_bipush dX0_from_37 (by decide) ?_
  refine rz_icmp_ge (t := 62) dX0_from_39 rfl (by omega) (by omega) (fun c39 => ?_) (fun c39 => ?_)
  · exfalso; omega
  · refine rz_aload_n dX0_from_42 rfl ?_
    refine rz_iload dX0_from_43 rfl ?_
    refine rz_gets0 dX0_from_45 kf_RX0_29 ?_
    refine rz_iload dX0_from_48 rfl ?_
    refine rz_tld0 (z := (-1)) dX0_from_50 (by decide) rfl ?_
    refine rz_iload_n dX0_from_51 rfl ?_
    refine rz_iload dX0_from_52 rfl ?_
    refine rz_iconst dX0_from_54 ?_
    refine rz_iadd dX0_from_55 ?_
    refine rz_cVI dX0_from_56 kl_RX0_46 hd_63 ⟨_, _, rfl⟩ (c_X0_run_2_2_m1 X _ I J x (d + 1) (by (try simp only [trM_R, stM_R, trR_R, stR_R, List.length_cons, List.length_nil]); omega) hk ha (by omega)) rfl rfl (Nat.le_of_ble_eq_true rfl) (Nat.le_of_ble_eq_true rfl) ?_
    refine rz_goto (t := 63) dX0_from_59 rfl ?_
    refine rz_iret dX0_from_63 rfl ?_
    exact ⟨_, rfl, rfl, rfl, rfl⟩
set_option maxRecDepth 20000 in
set_option maxHeartbeats 400000 in
theorem c_X0_own_2_3 (X : pX) (h : Nat) (I J : IM) (x d : Int) (hR : 0 ≤ I 63 1 ∧ I 63 1 ≤ 19) (hk : I 65 (I 63 4).toNat = 2) (ha : 0 ≤ I 63 4 ∧ I 63 4 < 50) (hd : 0 ≤ d ∧ d ≤ 36) : KI X (h + 10) mX0_own [.ref 63, zi 3, zi x, zi d] I J (((-((x + (I 63 4)) * 2)) - (xorZ 1 (I 63 4)))) (trM I [2, 30, 10, 1, 11]) J := by
  show Rz X (h + 10) mX0_own 0 [some (.ref 63), some (zi 3), some (zi x), some (zi d)] [] I J _
  refine rz_aload_n dX0_own_0 rfl ?_
  refine rz_aload_n dX0_own_1 rfl ?_
  refine rz_getR dX0_own_2 kf_RX0_13 hd_63 rfl rr_63_3 ?_
  refine rz_aload_n dX0_own_5 rfl ?_
  refine rz_getI (z := (I 63 4)) dX0_own_6 kf_RX0_32 hd_63 rfl rfl ?_
  refine rz_iald (z := 2) dX0_own_9 hd_65 (by decide) (by omega) hk ?_
  refine rz_iload_n dX0_own_10 rfl ?_
  refine rz_iload_n dX0_own_11 rfl ?_
  refine rz_iload_n dX0_own_12 rfl ?_
  refine rz_cVI dX0_own_13 kl_RX0_39 hd_63 ⟨_, _, rfl⟩ (c_X0_from_2_2_3 X _ I J x d (by (try simp only [trM_R, stM_R, trR_R, stR_R, List.length_cons, List.length_nil]); omega) hk ha (by omega)) rfl rfl (Nat.le_of_ble_eq_true rfl) (Nat.le_of_ble_eq_true rfl) ?_
  refine rz_iret dX0_own_16 rfl ?_
  exact ⟨_, rfl, rfl, rfl, rfl⟩
set_option maxRecDepth 20000 in
set_option maxHeartbeats 400000 in
theorem c_perform_2_3 (X : pX) (h : Nat) (I J : IM) (n x : Int) (hn : 0 ≤ n ∧ n < I 63 0) (hb : I 63 0 ≤ 50) (hk : I 65 n.toNat = 2) : KI X (h + 11) mX0_perform [.ref 63, zi n, zi 3, zi x] I J (((-((x + n) * 2)) - (xorZ 1 n))) (trM (pfM I n) [2, 30, 10, 1, 11]) J := by
  show Rz X (h + 11) mX0_perform 0 [some (.ref 63), some (zi n), some (zi 3), some (zi x)] [] I J _
  refine rz_aload_n dX0_perform_0 rfl ?_
  refine rz_iconst dX0_perform_1 ?_
  refine rz_putI dX0_perform_2 kp_RX0_20 hd_63 rfl ?_
  refine rz_iload_n dX0_perform_5 rfl ?_
  refine rz_if_lt (t := 26) dX0_perform_6 rfl (by omega) (fun c6 => ?_) (fun c6 => ?_)
  · refine rz_iconst dX0_perform_26 ?_
    refine rz_iret dX0_perform_27 rfl ?_
    exfalso; omega
  · refine rz_iload_n dX0_perform_9 rfl ?_
    refine rz_aload_n dX0_perform_10 rfl ?_
    refine rz_getI (z := (I 63 0)) dX0_perform_11 kf_RX0_16 hd_63 rfl rfl ?_
    refine rz_icmp_ge (t := 26) dX0_perform_14 rfl (by omega) (by omega) (fun c14 => ?_) (fun c14 => ?_)
    · refine rz_iconst dX0_perform_26 ?_
      refine rz_iret dX0_perform_27 rfl ?_
      exfalso; omega
    · refine rz_iload_n dX0_perform_17 rfl ?_
      refine rz_if_lt (t := 26) dX0_perform_18 rfl (by omega) (fun q => absurd q (by decide)) (fun _ => ?_)
      refine rz_iload_n dX0_perform_21 rfl ?_
      refine rz_iconst dX0_perform_22 ?_
      refine rz_icmp_le (t := 28) dX0_perform_23 rfl (by omega) (by omega) (fun _ => ?_) (fun q => absurd q (by decide))
      refine rz_aload_n dX0_perform_28 rfl ?_
      refine rz_iload_n dX0_perform_29 rfl ?_
      refine rz_putI dX0_perform_30 kp_RX0_32 hd_63 rfl ?_
      refine rz_mem (I' := (pfM I n)) (J' := J) (rfl) (rfl) ?_
      refine rz_aload_n dX0_perform_33 rfl ?_
      refine rz_iload_n dX0_perform_34 rfl ?_
      refine rz_iload_n dX0_perform_35 rfl ?_
      refine rz_iconst dX0_perform_36 ?_
      refine rz_cVI dX0_perform_37 kl_RX0_35 hd_63 ⟨_, _, rfl⟩ (c_X0_own_2_3 X _ (pfM I n) J x 0 (by show (0 : Int) ≤ 0 ∧ (0 : Int) ≤ _; omega) hk (by show 0 ≤ n ∧ n < 50; omega) (by omega)) rfl rfl (Nat.le_of_ble_eq_true rfl) (Nat.le_of_ble_eq_true rfl) ?_
      refine rz_iret dX0_perform_40 rfl ?_
      exact ⟨_, rfl, rfl, rfl, rfl⟩
set_option maxRecDepth 20000 in
set_option maxHeartbeats 400000 in
theorem c_X0_run_3_1_m1 (X : pX) (h : Nat) (I J : IM) (x d : Int) (hR : 0 ≤ I 63 1 ∧ I 63 1 ≤ 23) (hk : I 65 (I 63 4).toNat = 3) (ha : 0 ≤ I 63 4 ∧ I 63 4 < 50) (hd : 0 ≤ d ∧ d ≤ 100) : KI X h mX0_run [.ref 63, zi 1, zi (-1), zi x, zi d] I J ((x + (I 63 4))) (trM I [1]) J := by
  show Rz X h mX0_run 0 [some (.ref 63), some (zi 1), some (zi (-1)), some (zi x), some (zi d)] [] I J _
  refine rz_aload_n dX0_run_0 rfl ?_
  refine rz_getI (z := (I 63 1)) dX0_run_1 kf_RX0_20 hd_63 rfl rfl ?_
  refine rz_bipush dX0_run_4 (by decide) ?_
  refine rz_icmp_ge (t := 19) dX0_run_6 rfl (by omega) (by omega) (fun c6 => ?_) (fun c6 => ?_)
  · exfalso; omega
  · refine rz_aload_n dX0_run_9 rfl ?_
    refine rz_getR dX0_run_10 kf_RX0_9 hd_63 rfl rr_63_2 ?_
    refine rz_aload_n dX0_run_13 rfl ?_
    refine rz_getI (z := (I 63 1)) dX0_run_14 kf_RX0_20 hd_63 rfl rfl ?_
    refine rz_iload_n dX0_run_17 rfl ?_
    refine rz_iast dX0_run_18 hd_64 (by decide) (by omega) ?_
    refine rz_aload_n dX0_run_19 rfl ?_
    refine rz_dup dX0_run_20 rfl ?_
    refine rz_getI (z := (I 63 1)) dX0_run_21 kf_RX0_20 hd_63 rfl rfl ?_
    refine rz_iconst dX0_run_24 ?_
    refine rz_iadd dX0_run_25 ?_
    refine rz_putI dX0_run_26 kp_RX0_20 hd_63 rfl ?_
    refine rz_mem (I' := (stM I 1)) (J' := J) (rfl) (rfl) ?_
    refine rz_iload_n dX0_run_29 rfl ?_
    refine rz_lookup (t := 144) (off := 114) dX0_run_30 (by omega) (by decide) (by decide) rfl ?_
    refine rz_iload_n dX0_run_144 rfl ?_
    refine rz_aload_n dX0_run_145 rfl ?_
    refine rz_getI (z := (I 63 4)) dX0_run_146 kf_RX0_32 hd_63 rfl rfl ?_
    refine rz_iadd dX0_run_149 ?_
    refine rz_iret dX0_run_150 rfl ?_
    exact ⟨_, rfl, rfl, rfl, rfl⟩
set_option maxRecDepth 20000 in
set_option maxHeartbeats 400000 in
theorem c_X0_from_3_3_0 (X : pX) (h : Nat) (I J : IM) (x d : Int) (hR : 0 ≤ I 63 1 ∧ I 63 1 ≤ 23) (hk : I 65 (I 63 4).toNat = 3) (ha : 0 ≤ I 63 4 ∧ I 63 4 < 50) (hd : 0 ≤ d ∧ d ≤ 39) : KI X (h + 1) mX0_from [.ref 63, zi 3, zi 0, zi x, zi d] I J ((x + (I 63 4))) (trM I [1]) J := by
  show Rz X (h + 1) mX0_from 0 [some (.ref 63), some (zi 3), some (zi 0), some (zi x), some (zi d), none, none, none] [] I J _
  refine rz_iload_n dX0_from_0 rfl ?_
  refine rz_istore dX0_from_1 (by decide) rfl ?_
  refine rz_iconst dX0_from_3 ?_
  refine rz_istore dX0_from_4 (by decide) rfl ?_
  refine rz_iload dX0_from_6 rfl ?_
  refine rz_bipush dX0_from_8 (by decide) ?_
  refine rz_icmp_ge (t := 78) dX0_from_10 rfl (by omega) (by omega) (fun q => absurd q (by decide)) (fun _ => ?_)
  refine rz_iload dX0_from_13 rfl ?_
  refine rz_if_lt (t := 78) dX0_from_15 rfl (by omega) (fun q => absurd q (by decide)) (fun _ => ?_)
  refine rz_gets1 dX0_from_18 kf_RX0_43 ?_
  refine rz_iload dX0_from_21 rfl ?_
  refine rz_iconst dX0_from_23 ?_
  refine rz_imul dX0_from_24 ?_
  refine rz_iload_n dX0_from_25 rfl ?_
  refine rz_iadd dX0_from_26 ?_
  refine rz_tld1 (z := 0) dX0_from_27 (by decide) rfl ?_
  refine rz_istore (ls' := [some (.ref 63), some (zi 3), some (zi 0), some (zi x), some (zi d), some (zi 3), some (zi 0), some (zi 0)]) dX0_from_28 (by decide) rfl ?_
  refine rz_iload dX0_from_30 rfl ?_
  refine rz_if_eq (t := 64) dX0_from_32 rfl (by omega) (fun _ => ?_) (fun q => absurd q (by decide))
  refine rz_gets0 dX0_from_64 kf_RX0_29 ?_
  refine rz_iload dX0_from_67 rfl ?_
  refine rz_tld0 (z := 2) dX0_from_69 (by decide) rfl ?_
  refine rz_istore dX0_from_70 (by decide) rfl ?_
  refine rz_iinc (z := 1) dX0_from_72 (by decide) rfl rfl rfl ?_
  refine rz_goto (t := 6) dX0_from_75 rfl ?_
  refine rz_iload dX0_from_6 rfl ?_
  refine rz_bipush dX0_from_8 (by decide) ?_
  refine rz_icmp_ge (t := 78) dX0_from_10 rfl (by omega) (by omega) (fun q => absurd q (by decide)) (fun _ => ?_)
  refine rz_iload dX0_from_13 rfl ?_
  refine rz_if_lt (t := 78) dX0_from_15 rfl (by omega) (fun q => absurd q (by decide)) (fun _ => ?_)
  refine rz_gets1 dX0_from_18 kf_RX0_43 ?_
  refine rz_iload dX0_from_21 rfl ?_
  refine rz_iconst dX0_from_23 ?_
  refine rz_imul dX0_from_24 ?_
  refine rz_iload_n dX0_from_25 rfl ?_
  refine rz_iadd dX0_from_26 ?_
  refine rz_tld1 (z := 0) dX0_from_27 (by decide) rfl ?_
  refine rz_istore (ls' := [some (.ref 63), some (zi 3), some (zi 0), some (zi x), some (zi d), some (zi 2), some (zi 1), some (zi 0)]) dX0_from_28 (by decide) rfl ?_
  refine rz_iload dX0_from_30 rfl ?_
  refine rz_if_eq (t := 64) dX0_from_32 rfl (by omega) (fun _ => ?_) (fun q => absurd q (by decide))
  refine rz_gets0 dX0_from_64 kf_RX0_29 ?_
  refine rz_iload dX0_from_67 rfl ?_
  refine rz_tld0 (z := 0) dX0_from_69 (by decide) rfl ?_
  refine rz_istore dX0_from_70 (by decide) rfl ?_
  refine rz_iinc (z := 2) dX0_from_72 (by decide) rfl rfl rfl ?_
  refine rz_goto (t := 6) dX0_from_75 rfl ?_
  refine rz_iload dX0_from_6 rfl ?_
  refine rz_bipush dX0_from_8 (by decide) ?_
  refine rz_icmp_ge (t := 78) dX0_from_10 rfl (by omega) (by omega) (fun q => absurd q (by decide)) (fun _ => ?_)
  refine rz_iload dX0_from_13 rfl ?_
  refine rz_if_lt (t := 78) dX0_from_15 rfl (by omega) (fun q => absurd q (by decide)) (fun _ => ?_)
  refine rz_gets1 dX0_from_18 kf_RX0_43 ?_
  refine rz_iload dX0_from_21 rfl ?_
  refine rz_iconst dX0_from_23 ?_
  refine rz_imul dX0_from_24 ?_
  refine rz_iload_n dX0_from_25 rfl ?_
  refine rz_iadd dX0_from_26 ?_
  refine rz_tld1 (z := 1) dX0_from_27 (by decide) rfl ?_
  refine rz_istore (ls' := [some (.ref 63), some (zi 3), some (zi 0), some (zi x), some (zi d), some (zi 0), some (zi 2), some (zi 1)]) dX0_from_28 (by decide) rfl ?_
  refine rz_iload dX0_from_30 rfl ?_
  refine rz_if_eq (t := 64) dX0_from_32 rfl (by omega) (fun q => absurd q (by decide)) (fun _ => ?_)
  refine rz_iload dX0_from_35 rfl ?_
  refine rz_bipush dX0_from_37 (by decide) ?_
  refine rz_icmp_ge (t := 62) dX0_from_39 rfl (by omega) (by omega) (fun c39 => ?_) (fun c39 => ?_)
  · exfalso; omega
  · refine rz_aload_n dX0_from_42 rfl ?_
    refine rz_iload dX0_from_43 rfl ?_
    refine rz_gets0 dX0_from_45 kf_RX0_29 ?_
    refine rz_iload dX0_from_48 rfl ?_
    refine rz_tld0 (z := (-1)) dX0_from_50 (by decide) rfl ?_
    refine rz_iload_n dX0_from_51 rfl ?_
    refine rz_iload dX0_from_52 rfl ?_
    refine rz_iconst dX0_from_54 ?_
    refine rz_iadd dX0_from_55 ?_
    refine rz_cVI dX0_from_56 kl_RX0_46 hd_63 ⟨_, _, rfl⟩ (c_X0_run_3_1_m1 X _ I J x (d + 1) (by (try simp only [trM_R, stM_R, trR_R, stR_R, List.length_cons, List.length_nil]); omega) hk ha (by omega)) rfl rfl (Nat.le_of_ble_eq_true rfl) (Nat.le_of_ble_eq_true rfl) ?_
    refine rz_goto (t := 63) dX0_from_59 rfl ?_
    refine rz_iret dX0_from_63 rfl ?_
    exact ⟨_, rfl, rfl, rfl, rfl⟩
set_option maxRecDepth 20000 in
set_option maxHeartbeats 400000 in
theorem c_X0_own_3_0 (X : pX) (h : Nat) (I J : IM) (x d : Int) (hR : 0 ≤ I 63 1 ∧ I 63 1 ≤ 23) (hk : I 65 (I 63 4).toNat = 3) (ha : 0 ≤ I 63 4 ∧ I 63 4 < 50) (hd : 0 ≤ d ∧ d ≤ 39) : KI X (h + 2) mX0_own [.ref 63, zi 0, zi x, zi d] I J ((x + (I 63 4))) (trM I [1]) J := by
  show Rz X (h + 2) mX0_own 0 [some (.ref 63), some (zi 0), some (zi x), some (zi d)] [] I J _
  refine rz_aload_n dX0_own_0 rfl ?_
  refine rz_aload_n dX0_own_1 rfl ?_
  refine rz_getR dX0_own_2 kf_RX0_13 hd_63 rfl rr_63_3 ?_
  refine rz_aload_n dX0_own_5 rfl ?_
  refine rz_getI (z := (I 63 4)) dX0_own_6 kf_RX0_32 hd_63 rfl rfl ?_
  refine rz_iald (z := 3) dX0_own_9 hd_65 (by decide) (by omega) hk ?_
  refine rz_iload_n dX0_own_10 rfl ?_
  refine rz_iload_n dX0_own_11 rfl ?_
  refine rz_iload_n dX0_own_12 rfl ?_
  refine rz_cVI dX0_own_13 kl_RX0_39 hd_63 ⟨_, _, rfl⟩ (c_X0_from_3_3_0 X _ I J x d (by (try simp only [trM_R, stM_R, trR_R, stR_R, List.length_cons, List.length_nil]); omega) hk ha (by omega)) rfl rfl (Nat.le_of_ble_eq_true rfl) (Nat.le_of_ble_eq_true rfl) ?_
  refine rz_iret dX0_own_16 rfl ?_
  exact ⟨_, rfl, rfl, rfl, rfl⟩
set_option maxRecDepth 20000 in
set_option maxHeartbeats 400000 in
theorem c_perform_3_0 (X : pX) (h : Nat) (I J : IM) (n x : Int) (hn : 0 ≤ n ∧ n < I 63 0) (hb : I 63 0 ≤ 50) (hk : I 65 n.toNat = 3) : KI X (h + 3) mX0_perform [.ref 63, zi n, zi 0, zi x] I J ((x + n)) (trM (pfM I n) [1]) J := by
  show Rz X (h + 3) mX0_perform 0 [some (.ref 63), some (zi n), some (zi 0), some (zi x)] [] I J _
  refine rz_aload_n dX0_perform_0 rfl ?_
  refine rz_iconst dX0_perform_1 ?_
  refine rz_putI dX0_perform_2 kp_RX0_20 hd_63 rfl ?_
  refine rz_iload_n dX0_perform_5 rfl ?_
  refine rz_if_lt (t := 26) dX0_perform_6 rfl (by omega) (fun c6 => ?_) (fun c6 => ?_)
  · refine rz_iconst dX0_perform_26 ?_
    refine rz_iret dX0_perform_27 rfl ?_
    exfalso; omega
  · refine rz_iload_n dX0_perform_9 rfl ?_
    refine rz_aload_n dX0_perform_10 rfl ?_
    refine rz_getI (z := (I 63 0)) dX0_perform_11 kf_RX0_16 hd_63 rfl rfl ?_
    refine rz_icmp_ge (t := 26) dX0_perform_14 rfl (by omega) (by omega) (fun c14 => ?_) (fun c14 => ?_)
    · refine rz_iconst dX0_perform_26 ?_
      refine rz_iret dX0_perform_27 rfl ?_
      exfalso; omega
    · refine rz_iload_n dX0_perform_17 rfl ?_
      refine rz_if_lt (t := 26) dX0_perform_18 rfl (by omega) (fun q => absurd q (by decide)) (fun _ => ?_)
      refine rz_iload_n dX0_perform_21 rfl ?_
      refine rz_iconst dX0_perform_22 ?_
      refine rz_icmp_le (t := 28) dX0_perform_23 rfl (by omega) (by omega) (fun _ => ?_) (fun q => absurd q (by decide))
      refine rz_aload_n dX0_perform_28 rfl ?_
      refine rz_iload_n dX0_perform_29 rfl ?_
      refine rz_putI dX0_perform_30 kp_RX0_32 hd_63 rfl ?_
      refine rz_mem (I' := (pfM I n)) (J' := J) (rfl) (rfl) ?_
      refine rz_aload_n dX0_perform_33 rfl ?_
      refine rz_iload_n dX0_perform_34 rfl ?_
      refine rz_iload_n dX0_perform_35 rfl ?_
      refine rz_iconst dX0_perform_36 ?_
      refine rz_cVI dX0_perform_37 kl_RX0_35 hd_63 ⟨_, _, rfl⟩ (c_X0_own_3_0 X _ (pfM I n) J x 0 (by show (0 : Int) ≤ 0 ∧ (0 : Int) ≤ _; omega) hk (by show 0 ≤ n ∧ n < 50; omega) (by omega)) rfl rfl (Nat.le_of_ble_eq_true rfl) (Nat.le_of_ble_eq_true rfl) ?_
      refine rz_iret dX0_perform_40 rfl ?_
      exact ⟨_, rfl, rfl, rfl, rfl⟩
set_option maxRecDepth 20000 in
set_option maxHeartbeats 400000 in
theorem c_X0_run_3_10_m1 (X : pX) (h : Nat) (I J : IM) (x d : Int) (hR : 0 ≤ I 63 1 ∧ I 63 1 ≤ 22) (hk : I 65 (I 63 4).toNat = 3) (ha : 0 ≤ I 63 4 ∧ I 63 4 < 50) (hd : 0 ≤ d ∧ d ≤ 39) : KI X (h + 3) mX0_run [.ref 63, zi 10, zi (-1), zi x, zi d] I J (((x + (I 63 4)) * 2)) (trM I [10, 1]) J := by
  show Rz X (h + 3) mX0_run 0 [some (.ref 63), some (zi 10), some (zi (-1)), some (zi x), some (zi d)] [] I J _
  refine rz_aload_n dX0_run_0 rfl ?_
  refine rz_getI (z := (I 63 1)) dX0_run_1 kf_RX0_20 hd_63 rfl rfl ?_
  refine rz_bipush dX0_run_4 (by decide) ?_
  refine rz_icmp_ge (t := 19) dX0_run_6 rfl (by omega) (by omega) (fun c6 => ?_) (fun c6 => ?_)
  · exfalso; omega
  · refine rz_aload_n dX0_run_9 rfl ?_
    refine rz_getR dX0_run_10 kf_RX0_9 hd_63 rfl rr_63_2 ?_
    refine rz_aload_n dX0_run_13 rfl ?_
    refine rz_getI (z := (I 63 1)) dX0_run_14 kf_RX0_20 hd_63 rfl rfl ?_
    refine rz_iload_n dX0_run_17 rfl ?_
    refine rz_iast dX0_run_18 hd_64 (by decide) (by omega) ?_
    refine rz_aload_n dX0_run_19 rfl ?_
    refine rz_dup dX0_run_20 rfl ?_
    refine rz_getI (z := (I 63 1)) dX0_run_21 kf_RX0_20 hd_63 rfl rfl ?_
    refine rz_iconst dX0_run_24 ?_
    refine rz_iadd dX0_run_25 ?_
    refine rz_putI dX0_run_26 kp_RX0_20 hd_63 rfl ?_
    refine rz_mem (I' := (stM I 10)) (J' := J) (rfl) (rfl) ?_
    refine rz_iload_n dX0_run_29 rfl ?_
    refine rz_lookup (t := 169) (off := 139) dX0_run_30 (by omega) (by decide) (by decide) rfl ?_
    refine rz_aload_n dX0_run_169 rfl ?_
    refine rz_iconst dX0_run_170 ?_
    refine rz_iload_n dX0_run_171 rfl ?_
    refine rz_iload dX0_run_172 rfl ?_
    refine rz_cVI dX0_run_174 kl_RX0_35 hd_63 ⟨_, _, rfl⟩ (c_X0_own_3_0 X _ (stM I 10) J x d (by (try simp only [trM_R, stM_R, trR_R, stR_R, List.length_cons, List.length_nil]); omega) hk ha (by omega)) rfl rfl (Nat.le_of_ble_eq_true rfl) (Nat.le_of_ble_eq_true rfl) ?_
    refine rz_iconst dX0_run_177 ?_
    refine rz_imul dX0_run_178 ?_
    refine rz_iret dX0_run_179 rfl ?_
    exact ⟨_, rfl, rfl, rfl, rfl⟩
set_option maxRecDepth 20000 in
set_option maxHeartbeats 400000 in
theorem c_X0_from_3_0_1 (X : pX) (h : Nat) (I J : IM) (x d : Int) (hR : 0 ≤ I 63 1 ∧ I 63 1 ≤ 22) (hk : I 65 (I 63 4).toNat = 3) (ha : 0 ≤ I 63 4 ∧ I 63 4 < 50) (hd : 0 ≤ d ∧ d ≤ 38) : KI X (h + 4) mX0_from [.ref 63, zi 0, zi 1, zi x, zi d] I J (((x + (I 63 4)) * 2)) (trM I [10, 1]) J := by
  show Rz X (h + 4) mX0_from 0 [some (.ref 63), some (zi 0), some (zi 1), some (zi x), some (zi d), none, none, none] [] I J _
  refine rz_iload_n dX0_from_0 rfl ?_
  refine rz_istore dX0_from_1 (by decide) rfl ?_
  refine rz_iconst dX0_from_3 ?_
  refine rz_istore dX0_from_4 (by decide) rfl ?_
  refine rz_iload dX0_from_6 rfl ?_
  refine rz_bipush dX0_from_8 (by decide) ?_
  refine rz_icmp_ge (t := 78) dX0_from_10 rfl (by omega) (by omega) (fun q => absurd q (by decide)) (fun _ => ?_)
  refine rz_iload dX0_from_13 rfl ?_
  refine rz_if_lt (t := 78) dX0_from_15 rfl (by omega) (fun q => absurd q (by decide)) (fun _ => ?_)
  refine rz_gets1 dX0_from_18 kf_RX0_43 ?_
  refine rz_iload dX0_from_21 rfl ?_
  refine rz_iconst dX0_from_23 ?_
  refine rz_imul dX0_from_24 ?_
  refine rz_iload_n dX0_from_25 rfl ?_
  refine rz_iadd dX0_from_26 ?_
  refine rz_tld1 (z := 10) dX0_from_27 (by decide) rfl ?_
  refine rz_istore (ls' := [some (.ref 63), some (zi 0), some (zi 1), some (zi x), some (zi d), some (zi 0), some (zi 0), some (zi 10)]) dX0_from_28 (by decide) rfl ?_
  refine rz_iload dX0_from_30 rfl ?_
  refine rz_if_eq (t := 64) dX0_from_32 rfl (by omega) (fun q => absurd q (by decide)) (fun _ => ?_)
  refine rz_iload dX0_from_35 rfl ?_
  refine rz_bipush dX0_from_37 (by decide) ?_
  refine rz_icmp_ge (t := 62) dX0_from_39 rfl (by omega) (by omega) (fun c39 => ?_) (fun c39 => ?_)
  · exfalso; omega
  · refine rz_aload_n dX0_from_42 rfl ?_
    refine rz_iload dX0_from_43 rfl ?_
    refine rz_gets0 dX0_from_45 kf_RX0_29 ?_
    refine rz_iload dX0_from_48 rfl ?_
    refine rz_tld0 (z := (-1)) dX0_from_50 (by decide) rfl ?_
    refine rz_iload_n dX0_from_51 rfl ?_
    refine rz_iload dX0_from_52 rfl ?_
    refine rz_iconst dX0_from_54 ?_
    refine rz_iadd dX0_from_55 ?_
    refine rz_cVI dX0_from_56 kl_RX0_46 hd_63 ⟨_, _, rfl⟩ (c_X0_run_3_10_m1 X _ I J x (d + 1) (by (try simp only [trM_R, stM_R, trR_R, stR_R, List.length_cons, List.length_nil]); omega) hk ha (by omega)) rfl rfl (Nat.le_of_ble_eq_true rfl) (Nat.le_of_ble_eq_true rfl) ?_
    refine rz_goto (t := 63) dX0_from_59 rfl ?_
    refine rz_iret dX0_from_63 rfl ?_
    exact ⟨_, rfl, rfl, rfl, rfl⟩
set_option maxRecDepth 20000 in
set_option maxHeartbeats 400000 in
theorem c_X0_run_3_30_0 (X : pX) (h : Nat) (I J : IM) (x d : Int) (hR : 0 ≤ I 63 1 ∧ I 63 1 ≤ 21) (hk : I 65 (I 63 4).toNat = 3) (ha : 0 ≤ I 63 4 ∧ I 63 4 < 50) (hd : 0 ≤ d ∧ d ≤ 38) : KI X (h + 5) mX0_run [.ref 63, zi 30, zi 0, zi x, zi d] I J ((-((x + (I 63 4)) * 2))) (trM I [30, 10, 1]) J := by
  show Rz X (h + 5) mX0_run 0 [some (.ref 63), some (zi 30), some (zi 0), some (zi x), some (zi d)] [] I J _
  refine rz_aload_n dX0_run_0 rfl ?_
  refine rz_getI (z := (I 63 1)) dX0_run_1 kf_RX0_20 hd_63 rfl rfl ?_
  refine rz_bipush dX0_run_4 (by decide) ?_
  refine rz_icmp_ge (t := 19) dX0_run_6 rfl (by omega) (by omega) (fun c6 => ?_) (fun c6 => ?_)
  · exfalso; omega
  · refine rz_aload_n dX0_run_9 rfl ?_
    refine rz_getR dX0_run_10 kf_RX0_9 hd_63 rfl rr_63_2 ?_
    refine rz_aload_n dX0_run_13 rfl ?_
    refine rz_getI (z := (I 63 1)) dX0_run_14 kf_RX0_20 hd_63 rfl rfl ?_
    refine rz_iload_n dX0_run_17 rfl ?_
    refine rz_iast dX0_run_18 hd_64 (by decide) (by omega) ?_
    refine rz_aload_n dX0_run_19 rfl ?_
    refine rz_dup dX0_run_20 rfl ?_
    refine rz_getI (z := (I 63 1)) dX0_run_21 kf_RX0_20 hd_63 rfl rfl ?_
    refine rz_iconst dX0_run_24 ?_
    refine rz_iadd dX0_run_25 ?_
    refine rz_putI dX0_run_26 kp_RX0_20 hd_63 rfl ?_
    refine rz_mem (I' := (stM I 30)) (J' := J) (rfl) (rfl) ?_
    refine rz_iload_n dX0_run_29 rfl ?_
    refine rz_lookup (t := 199) (off := 169) dX0_run_30 (by omega) (by decide) (by decide) rfl ?_
    refine rz_aload_n dX0_run_199 rfl ?_
    refine rz_iload_n dX0_run_200 rfl ?_
    refine rz_iconst dX0_run_201 ?_
    refine rz_iload_n dX0_run_202 rfl ?_
    refine rz_iload dX0_run_203 rfl ?_
    refine rz_cVI dX0_run_205 kl_RX0_39 hd_63 ⟨_, _, rfl⟩ (c_X0_from_3_0_1 X _ (stM I 30) J x d (by (try simp only [trM_R, stM_R, trR_R, stR_R, List.length_cons, List.length_nil]); omega) hk ha (by omega)) rfl rfl (Nat.le_of_ble_eq_true rfl) (Nat.le_of_ble_eq_true rfl) ?_
    refine rz_ineg dX0_run_208 ?_
    refine rz_iret dX0_run_209 rfl ?_
    exact ⟨_, rfl, rfl, rfl, rfl⟩
set_option maxRecDepth 20000 in
set_option maxHeartbeats 400000 in
theorem c_X0_from_3_2_1 (X : pX) (h : Nat) (I J : IM) (x d : Int) (hR : 0 ≤ I 63 1 ∧ I 63 1 ≤ 21) (hk : I 65 (I 63 4).toNat = 3) (ha : 0 ≤ I 63 4 ∧ I 63 4 < 50) (hd : 0 ≤ d ∧ d ≤ 37) : KI X (h + 6) mX0_from [.ref 63, zi 2, zi 1, zi x, zi d] I J ((-((x + (I 63 4)) * 2))) (trM I [30, 10, 1]) J := by
  show Rz X (h + 6) mX0_from 0 [some (.ref 63), some (zi 2), some (zi 1), some (zi x), some (zi d), none, none, none] [] I J _
  refine rz_iload_n dX0_from_0 rfl ?_
  refine rz_istore dX0_from_1 (by decide) rfl ?_
  refine rz_iconst dX0_from_3 ?_
  refine rz_istore dX0_from_4 (by decide) rfl ?_
  refine rz_iload dX0_from_6 rfl ?_
  refine rz_bipush dX0_from_8 (by decide) ?_
  refine rz_icmp_ge (t := 78) dX0_from_10 rfl (by omega) (by omega) (fun q => absurd q (by decide)) (fun _ => ?_)
  refine rz_iload dX0_from_13 rfl ?_
  refine rz_if_lt (t := 78) dX0_from_15 rfl (by omega) (fun q => absurd q (by decide)) (fun _ => ?_)
  refine rz_gets1 dX0_from_18 kf_RX0_43 ?_
  refine rz_iload dX0_from_21 rfl ?_
  refine rz_iconst dX0_from_23 ?_
  refine rz_imul dX0_from_24 ?_
  refine rz_iload_n dX0_from_25 rfl ?_
  refine rz_iadd dX0_from_26 ?_
  refine rz_tld1 (z := 30) dX0_from_27 (by decide) rfl ?_
  refine rz_istore (ls' := [some (.ref 63), some (zi 2), some (zi 1), some (zi x), some (zi d), some (zi 2), some (zi 0), some (zi 30)]) dX0_from_28 (by decide) rfl ?_
  refine rz_iload dX0_from_30 rfl ?_
  refine rz_if_eq (t := 64) dX0_from_32 rfl (by omega) (fun q => absurd q (by decide)) (fun _ => ?_)
  refine rz_iload dX0_from_35 rfl ?_
  refine rz_bipush dX0_from_37 (by decide) ?_
  refine rz_icmp_ge (t := 62) dX0_from_39 rfl (by omega) (by omega) (fun c39 => ?_) (fun c39 => ?_)
  · exfalso; omega
  · refine rz_aload_n dX0_from_42 rfl ?_
    refine rz_iload dX0_from_43 rfl ?_
    refine rz_gets0 dX0_from_45 kf_RX0_29 ?_
    refine rz_iload dX0_from_48 rfl ?_
    refine rz_tld0 (z := 0) dX0_from_50 (by decide) rfl ?_
    refine rz_iload_n dX0_from_51 rfl ?_
    refine rz_iload dX0_from_52 rfl ?_
    refine rz_iconst dX0_from_54 ?_
    refine rz_iadd dX0_from_55 ?_
    refine rz_cVI dX0_from_56 kl_RX0_46 hd_63 ⟨_, _, rfl⟩ (c_X0_run_3_30_0 X _ I J x (d + 1) (by (try simp only [trM_R, stM_R, trR_R, stR_R, List.length_cons, List.length_nil]); omega) hk ha (by omega)) rfl rfl (Nat.le_of_ble_eq_true rfl) (Nat.le_of_ble_eq_true rfl) ?_
    refine rz_goto (t := 63) dX0_from_59 rfl ?_
    refine rz_iret dX0_from_63 rfl ?_
    exact ⟨_, rfl, rfl, rfl, rfl⟩
set_option maxRecDepth 20000 in
set_option maxHeartbeats 400000 in
theorem c_X0_run_3_41_2 (X : pX) (h : Nat) (I J : IM) (x d : Int) (hR : 0 ≤ I 63 1 ∧ I 63 1 ≤ 20) (hk : I 65 (I 63 4).toNat = 3) (ha : 0 ≤ I 63 4 ∧ I 63 4 < 50) (hd : 0 ≤ d ∧ d ≤ 37) : KI X (h + 7) mX0_run [.ref 63, zi 41, zi 2, zi x, zi d] I J ((-(((x + 1) + (I 63 4)) * 2))) (trM I [41, 30, 10, 1]) J := by
  show Rz X (h + 7) mX0_run 0 [some (.ref 63), some (zi 41), some (zi 2), some (zi x), some (zi d)] [] I J _
  refine rz_aload_n dX0_run_0 rfl ?_
  refine rz_getI (z := (I 63 1)) dX0_run_1 kf_RX0_20 hd_63 rfl rfl ?_
  refine rz_bipush dX0_run_4 (by decide) ?_
  refine rz_icmp_ge (t := 19) dX0_run_6 rfl (by omega) (by omega) (fun c6 => ?_) (fun c6 => ?_)
  · exfalso; omega
  · refine rz_aload_n dX0_run_9 rfl ?_
    refine rz_getR dX0_run_10 kf_RX0_9 hd_63 rfl rr_63_2 ?_
    refine rz_aload_n dX0_run_13 rfl ?_
    refine rz_getI (z := (I 63 1)) dX0_run_14 kf_RX0_20 hd_63 rfl rfl ?_
    refine rz_iload_n dX0_run_17 rfl ?_
    refine rz_iast dX0_run_18 hd_64 (by decide) (by omega) ?_
    refine rz_aload_n dX0_run_19 rfl ?_
    refine rz_dup dX0_run_20 rfl ?_
    refine rz_getI (z := (I 63 1)) dX0_run_21 kf_RX0_20 hd_63 rfl rfl ?_
    refine rz_iconst dX0_run_24 ?_
    refine rz_iadd dX0_run_25 ?_
    refine rz_putI dX0_run_26 kp_RX0_20 hd_63 rfl ?_
    refine rz_mem (I' := (stM I 41)) (J' := J) (rfl) (rfl) ?_
    refine rz_iload_n dX0_run_29 rfl ?_
    refine rz_lookup (t := 222) (off := 192) dX0_run_30 (by omega) (by decide) (by decide) rfl ?_
    refine rz_aload_n dX0_run_222 rfl ?_
    refine rz_iload_n dX0_run_223 rfl ?_
    refine rz_iconst dX0_run_224 ?_
    refine rz_iload_n dX0_run_225 rfl ?_
    refine rz_iconst dX0_run_226 ?_
    refine rz_iadd dX0_run_227 ?_
    refine rz_iload dX0_run_228 rfl ?_
    refine rz_cVI dX0_run_230 kl_RX0_39 hd_63 ⟨_, _, rfl⟩ (c_X0_from_3_2_1 X _ (stM I 41) J (x + 1) d (by (try simp only [trM_R, stM_R, trR_R, stR_R, List.length_cons, List.length_nil]); omega) hk ha (by omega)) rfl rfl (Nat.le_of_ble_eq_true rfl) (Nat.le_of_ble_eq_true rfl) ?_
    refine rz_iret dX0_run_233 rfl ?_
    exact ⟨_, rfl, rfl, rfl, rfl⟩
set_option maxRecDepth 20000 in
set_option maxHeartbeats 400000 in
theorem c_X0_from_3_3_1 (X : pX) (h : Nat) (I J : IM) (x d : Int) (hR : 0 ≤ I 63 1 ∧ I 63 1 ≤ 20) (hk : I 65 (I 63 4).toNat = 3) (ha : 0 ≤ I 63 4 ∧ I 63 4 < 50) (hd : 0 ≤ d ∧ d ≤ 36) : KI X (h + 8) mX0_from [.ref 63, zi 3, zi 1, zi x, zi d] I J ((-(((x + 1) + (I 63 4)) * 2))) (trM I [41, 30, 10, 1]) J := by
  show Rz X (h + 8) mX0_from 0 [some (.ref 63), some (zi 3), some (zi 1), some (zi x), some (zi d), none, none, none] [] I J _
  refine rz_iload_n dX0_from_0 rfl ?_
  refine rz_istore dX0_from_1 (by decide) rfl ?_
  refine rz_iconst dX0_from_3 ?_
  refine rz_istore dX0_from_4 (by decide) rfl ?_
  refine rz_iload dX0_from_6 rfl ?_
  refine rz_bipush dX0_from_8 (by decide) ?_
  refine rz_icmp_ge (t := 78) dX0_from_10 rfl (by omega) (by omega) (fun q => absurd q (by decide)) (fun _ => ?_)
  refine rz_iload dX0_from_13 rfl ?_
  refine rz_if_lt (t := 78) dX0_from_15 rfl (by omega) (fun q => absurd q (by decide)) (fun _ => ?_)
  refine rz_gets1 dX0_from_18 kf_RX0_43 ?_
  refine rz_iload dX0_from_21 rfl ?_
  refine rz_iconst dX0_from_23 ?_
  refine rz_imul dX0_from_24 ?_
  refine rz_iload_n dX0_from_25 rfl ?_
  refine rz_iadd dX0_from_26 ?_
  refine rz_tld1 (z := 41) dX0_from_27 (by decide) rfl ?_
  refine rz_istore (ls' := [some (.ref 63), some (zi 3), some (zi 1), some (zi x), some (zi d), some (zi 3), some (zi 0), some (zi 41)]) dX0_from_28 (by decide) rfl ?_
  refine rz_iload dX0_from_30 rfl ?_
  refine rz_if_eq (t := 64) dX0_from_32 rfl (by omega) (fun q => absurd q (by decide)) (fun _ => ?_)
  refine rz_iload dX0_from_35 rfl ?_
  refine rz_bipush dX0_from_37 (by decide) ?_
  refine rz_icmp_ge (t := 62) dX0_from_39 rfl (by omega) (by omega) (fun c39 => ?_) (fun c39 => ?_)
  · exfalso; omega
  · refine rz_aload_n dX0_from_42 rfl ?_
    refine rz_iload dX0_from_43 rfl ?_
    refine rz_gets0 dX0_from_45 kf_RX0_29 ?_
    refine rz_iload dX0_from_48 rfl ?_
    refine rz_tld0 (z := 2) dX0_from_50 (by decide) rfl ?_
    refine rz_iload_n dX0_from_51 rfl ?_
    refine rz_iload dX0_from_52 rfl ?_
    refine rz_iconst dX0_from_54 ?_
    refine rz_iadd dX0_from_55 ?_
    refine rz_cVI dX0_from_56 kl_RX0_46 hd_63 ⟨_, _, rfl⟩ (c_X0_run_3_41_2 X _ I J x (d + 1) (by (try simp only [trM_R, stM_R, trR_R, stR_R, List.length_cons, List.length_nil]); omega) hk ha (by omega)) rfl rfl (Nat.le_of_ble_eq_true rfl) (Nat.le_of_ble_eq_true rfl) ?_
    refine rz_goto (t := 63) dX0_from_59 rfl ?_
    refine rz_iret dX0_from_63 rfl ?_
    exact ⟨_, rfl, rfl, rfl, rfl⟩
set_option maxRecDepth 20000 in
set_option maxHeartbeats 400000 in
theorem c_X0_own_3_1 (X : pX) (h : Nat) (I J : IM) (x d : Int) (hR : 0 ≤ I 63 1 ∧ I 63 1 ≤ 20) (hk : I 65 (I 63 4).toNat = 3) (ha : 0 ≤ I 63 4 ∧ I 63 4 < 50) (hd : 0 ≤ d ∧ d ≤ 36) : KI X (h + 9) mX0_own [.ref 63, zi 1, zi x, zi d] I J ((-(((x + 1) + (I 63 4)) * 2))) (trM I [41, 30, 10, 1]) J := by
  show Rz X (h + 9) mX0_own 0 [some (.ref 63), some (zi 1), some (zi x), some (zi d)] [] I J _
  refine rz_aload_n dX0_own_0 rfl ?_
  refine rz_aload_n dX0_own_1 rfl ?_
  refine rz_getR dX0_own_2 kf_RX0_13 hd_63 rfl rr_63_3 ?_
  refine rz_aload_n dX0_own_5 rfl ?_
  refine rz_getI (z := (I 63 4)) dX0_own_6 kf_RX0_32 hd_63 rfl rfl ?_
  refine rz_iald (z := 3) dX0_own_9 hd_65 (by decide) (by omega) hk ?_
  refine rz_iload_n dX0_own_10 rfl ?_
  refine rz_iload_n dX0_own_11 rfl ?_
  refine rz_iload_n dX0_own_12 rfl ?_
  refine rz_cVI dX0_own_13 kl_RX0_39 hd_63 ⟨_, _, rfl⟩ (c_X0_from_3_3_1 X _ I J x d (by (try simp only [trM_R, stM_R, trR_R, stR_R, List.length_cons, List.length_nil]); omega) hk ha (by omega)) rfl rfl (Nat.le_of_ble_eq_true rfl) (Nat.le_of_ble_eq_true rfl) ?_
  refine rz_iret dX0_own_16 rfl ?_
  exact ⟨_, rfl, rfl, rfl, rfl⟩
set_option maxRecDepth 20000 in
set_option maxHeartbeats 400000 in
theorem c_perform_3_1 (X : pX) (h : Nat) (I J : IM) (n x : Int) (hn : 0 ≤ n ∧ n < I 63 0) (hb : I 63 0 ≤ 50) (hk : I 65 n.toNat = 3) : KI X (h + 10) mX0_perform [.ref 63, zi n, zi 1, zi x] I J ((-(((x + 1) + n) * 2))) (trM (pfM I n) [41, 30, 10, 1]) J := by
  show Rz X (h + 10) mX0_perform 0 [some (.ref 63), some (zi n), some (zi 1), some (zi x)] [] I J _
  refine rz_aload_n dX0_perform_0 rfl ?_
  refine rz_iconst dX0_perform_1 ?_
  refine rz_putI dX0_perform_2 kp_RX0_20 hd_63 rfl ?_
  refine rz_iload_n dX0_perform_5 rfl ?_
  refine rz_if_lt (t := 26) dX0_perform_6 rfl (by omega) (fun c6 => ?_) (fun c6 => ?_)
  · refine rz_iconst dX0_perform_26 ?_
    refine rz_iret dX0_perform_27 rfl ?_
    exfalso; omega
  · refine rz_iload_n dX0_perform_9 rfl ?_
    refine rz_aload_n dX0_perform_10 rfl ?_
    refine rz_getI (z := (I 63 0)) dX0_perform_11 kf_RX0_16 hd_63 rfl rfl ?_
    refine rz_icmp_ge (t := 26) dX0_perform_14 rfl (by omega) (by omega) (fun c14 => ?_) (fun c14 => ?_)
    · refine rz_iconst dX0_perform_26 ?_
      refine rz_iret dX0_perform_27 rfl ?_
      exfalso; omega
    · refine rz_iload_n dX0_perform_17 rfl ?_
      refine rz_if_lt (t := 26) dX0_perform_18 rfl (by omega) (fun q => absurd q (by decide)) (fun _ => ?_)
      refine rz_iload_n dX0_perform_21 rfl ?_
      refine rz_iconst dX0_perform_22 ?_
      refine rz_icmp_le (t := 28) dX0_perform_23 rfl (by omega) (by omega) (fun _ => ?_) (fun q => absurd q (by decide))
      refine rz_aload_n dX0_perform_28 rfl ?_
      refine rz_iload_n dX0_perform_29 rfl ?_
      refine rz_putI dX0_perform_30 kp_RX0_32 hd_63 rfl ?_
      refine rz_mem (I' := (pfM I n)) (J' := J) (rfl) (rfl) ?_
      refine rz_aload_n dX0_perform_33 rfl ?_
      refine rz_iload_n dX0_perform_34 rfl ?_
      refine rz_iload_n dX0_perform_35 rfl ?_
      refine rz_iconst dX0_perform_36 ?_
      refine rz_cVI dX0_perform_37 kl_RX0_35 hd_63 ⟨_, _, rfl⟩ (c_X0_own_3_1 X _ (pfM I n) J x 0 (by show (0 : Int) ≤ 0 ∧ (0 : Int) ≤ _; omega) hk (by show 0 ≤ n ∧ n < 50; omega) (by omega)) rfl rfl (Nat.le_of_ble_eq_true rfl) (Nat.le_of_ble_eq_true rfl) ?_
      refine rz_iret dX0_perform_40 rfl ?_
      exact ⟨_, rfl, rfl, rfl, rfl⟩
set_option maxRecDepth 20000 in
set_option maxHeartbeats 400000 in
theorem c_X0_run_3_11_m1 (X : pX) (h : Nat) (I J : IM) (x d : Int) (hR : 0 ≤ I 63 1 ∧ I 63 1 ≤ 23) (hk : I 65 (I 63 4).toNat = 3) (ha : 0 ≤ I 63 4 ∧ I 63 4 < 50) (hd : 0 ≤ d ∧ d ≤ 100) : KI X h mX0_run [.ref 63, zi 11, zi (-1), zi x, zi d] I J ((xorZ x (I 63 4))) (trM I [11]) J := by
  show Rz X h mX0_run 0 [some (.ref 63), some (zi 11), some (zi (-1)), some (zi x), some (zi d)] [] I J _
  refine rz_aload_n dX0_run_0 rfl ?_
  refine rz_getI (z := (I 63 1)) dX0_run_1 kf_RX0_20 hd_63 rfl rfl ?_
  refine rz_bipush dX0_run_4 (by decide) ?_
  refine rz_icmp_ge (t := 19) dX0_run_6 rfl (by omega) (by omega) (fun c6 => ?_) (fun c6 => ?_)
  · exfalso; omega
  · refine rz_aload_n dX0_run_9 rfl ?_
    refine rz_getR dX0_run_10 kf_RX0_9 hd_63 rfl rr_63_2 ?_
    refine rz_aload_n dX0_run_13 rfl ?_
    refine rz_getI (z := (I 63 1)) dX0_run_14 kf_RX0_20 hd_63 rfl rfl ?_
    refine rz_iload_n dX0_run_17 rfl ?_
    refine rz_iast dX0_run_18 hd_64 (by decide) (by omega) ?_
    refine rz_aload_n dX0_run_19 rfl ?_
    refine rz_dup dX0_run_20 rfl ?_
    refine rz_getI (z := (I 63 1)) dX0_run_21 kf_RX0_20 hd_63 rfl rfl ?_
    refine rz_iconst dX0_run_24 ?_
    refine rz_iadd dX0_run_25 ?_
    refine rz_putI dX0_run_26 kp_RX0_20 hd_63 rfl ?_
    refine rz_mem (I' := (stM I 11)) (J' := J) (rfl) (rfl) ?_
    refine rz_iload_n dX0_run_29 rfl ?_
    refine rz_lookup (t := 180) (off := 150) dX0_run_30 (by omega) (by decide) (by decide) rfl ?_
    refine rz_iload_n dX0_run_180 rfl ?_
    refine rz_aload_n dX0_run_181 rfl ?_
    refine rz_getI (z := (I 63 4)) dX0_run_182 kf_RX0_32 hd_63 rfl rfl ?_
    refine rz_ixor dX0_run_185 ?_
    refine rz_iret dX0_run_186 rfl ?_
    exact ⟨_, rfl, rfl, rfl, rfl⟩
set_option maxRecDepth 20000 in
set_option maxHeartbeats 400000 in
theorem c_X0_from_3_2_2 (X : pX) (h : Nat) (I J : IM) (x d : Int) (hR : 0 ≤ I 63 1 ∧ I 63 1 ≤ 23) (hk : I 65 (I 63 4).toNat = 3) (ha : 0 ≤ I 63 4 ∧ I 63 4 < 50) (hd : 0 ≤ d ∧ d ≤ 39) : KI X (h + 1) mX0_from [.ref 63, zi 2, zi 2, zi x, zi d] I J ((xorZ x (I 63 4))) (trM I [11]) J := by
  show Rz X (h + 1) mX0_from 0 [some (.ref 63), some (zi 2), some (zi 2), some (zi x), some (zi d), none, none, none] [] I J _
  refine rz_iload_n dX0_from_0 rfl ?_
  refine rz_istore dX0_from_1 (by decide) rfl ?_
  refine rz_iconst dX0_from_3 ?_
  refine rz_istore dX0_from_4 (by decide) rfl ?_
  refine rz_iload dX0_from_6 rfl ?_
  refine rz_bipush dX0_from_8 (by decide) ?_
  refine rz_icmp_ge (t := 78) dX0_from_10 rfl (by omega) (by omega) (fun q => absurd q (by decide)) (fun _ => ?_)
  refine rz_iload dX0_from_13 rfl ?_
  refine rz_if_lt (t := 78) dX0_from_15 rfl (by omega) (fun q => absurd q (by decide)) (fun _ => ?_)
  refine rz_gets1 dX0_from_18 kf_RX0_43 ?_
  refine rz_iload dX0_from_21 rfl ?_
  refine rz_iconst dX0_from_23 ?_
  refine rz_imul dX0_from_24 ?_
  refine rz_iload_n dX0_from_25 rfl ?_
  refine rz_iadd dX0_from_26 ?_
  refine rz_tld1 (z := 0) dX0_from_27 (by decide) rfl ?_
  refine rz_istore (ls' := [some (.ref 63), some (zi 2), some (zi 2), some (zi x), some (zi d), some (zi 2), some (zi 0), some (zi 0)]) dX0_from_28 (by decide) rfl ?_
  refine rz_iload dX0_from_30 rfl ?_
  refine rz_if_eq (t := 64) dX0_from_32 rfl (by omega) (fun _ => ?_) (fun q => absurd q (by decide))
  refine rz_gets0 dX0_from_64 kf_RX0_29 ?_
  refine rz_iload dX0_from_67 rfl ?_
  refine rz_tld0 (z := 0) dX0_from_69 (by decide) rfl ?_
  refine rz_istore dX0_from_70 (by decide) rfl ?_
  refine rz_iinc (z := 1) dX0_from_72 (by decide) rfl rfl rfl ?_
  refine rz_goto (t := 6) dX0_from_75 rfl ?_
  refine rz_iload dX0_from_6 rfl ?_
  refine rz_bipush dX0_from_8 (by decide) ?_
  refine rz_icmp_ge (t := 78) dX0_from_10 rfl (by omega) (by omega) (fun q => absurd q (by decide)) (fun _ => ?_)
  refine rz_iload dX0_from_13 rfl ?_
  refine rz_if_lt (t := 78) dX0_from_15 rfl (by omega) (fun q => absurd q (by decide)) (fun _ => ?_)
  refine rz_gets1 dX0_from_18 kf_RX0_43 ?_
  refine rz_iload dX0_from_21 rfl ?_
  refine rz_iconst dX0_from_23 ?_
  refine rz_imul dX0_from_24 ?_
  refine rz_iload_n dX0_from_25 rfl ?_
  refine rz_iadd dX0_from_26 ?_
  refine rz_tld1 (z := 11) dX0_from_27 (by decide) rfl ?_
  refine rz_istore (ls' := [some (.ref 63), some (zi 2), some (zi 2), some (zi x), some (zi d), some (zi 0), some (zi 1), some (zi 11)]) dX0_from_28 (by decide) rfl ?_
  refine rz_iload dX0_from_30 rfl ?_
  refine rz_if_eq (t := 64) dX0_from_32 rfl (by omega) (fun q => absurd q (by decide)) (fun _ => ?_)
  refine rz_iload dX0_from_35 rfl ?_
  refine rz_bipush dX0_from_37 (by decide) ?_
  refine rz_icmp_ge (t := 62) dX0_from_39 rfl (by omega) (by omega) (fun c39 => ?_) (fun c39 => ?_)
  · exfalso; omega
  · refine rz_aload_n dX0_from_42 rfl ?_
    refine rz_iload dX0_from_43 rfl ?_
    refine rz_gets0 dX0_from_45 kf_RX0_29 ?_
    refine rz_iload dX0_from_48 rfl ?_
    refine rz_tld0 (z := (-1)) dX0_from_50 (by decide) rfl ?_
    refine rz_iload_n dX0_from_51 rfl ?_
    refine rz_iload dX0_from_52 rfl ?_
    refine rz_iconst dX0_from_54 ?_
    refine rz_iadd dX0_from_55 ?_
    refine rz_cVI dX0_from_56 kl_RX0_46 hd_63 ⟨_, _, rfl⟩ (c_X0_run_3_11_m1 X _ I J x (d + 1) (by (try simp only [trM_R, stM_R, trR_R, stR_R, List.length_cons, List.length_nil]); omega) hk ha (by omega)) rfl rfl (Nat.le_of_ble_eq_true rfl) (Nat.le_of_ble_eq_true rfl) ?_
    refine rz_goto (t := 63) dX0_from_59 rfl ?_
    refine rz_iret dX0_from_63 rfl ?_
    exact ⟨_, rfl, rfl, rfl, rfl⟩
set_option maxRecDepth 20000 in
set_option maxHeartbeats 400000 in
theorem c_X0_run_3_40_2 (X : pX) (h : Nat) (I J : IM) (x d : Int) (hR : 0 ≤ I 63 1 ∧ I 63 1 ≤ 22) (hk : I 65 (I 63 4).toNat = 3) (ha : 0 ≤ I 63 4 ∧ I 63 4 < 50) (hd : 0 ≤ d ∧ d ≤ 39) : KI X (h + 2) mX0_run [.ref 63, zi 40, zi 2, zi x, zi d] I J (((xorZ x (I 63 4)) * 3)) (trM I [40, 11]) J := by
  show Rz X (h + 2) mX0_run 0 [some (.ref 63), some (zi 40), some (zi 2), some (zi x), some (zi d)] [] I J _
  refine rz_aload_n dX0_run_0 rfl ?_
  refine rz_getI (z := (I 63 1)) dX0_run_1 kf_RX0_20 hd_63 rfl rfl ?_
  refine rz_bipush dX0_run_4 (by decide) ?_
  refine rz_icmp_ge (t := 19) dX0_run_6 rfl (by omega) (by omega) (fun c6 => ?_) (fun c6 => ?_)
  · exfalso; omega
  · refine rz_aload_n dX0_run_9 rfl ?_
    refine rz_getR dX0_run_10 kf_RX0_9 hd_63 rfl rr_63_2 ?_
    refine rz_aload_n dX0_run_13 rfl ?_
    refine rz_getI (z := (I 63 1)) dX0_run_14 kf_RX0_20 hd_63 rfl rfl ?_
    refine rz_iload_n dX0_run_17 rfl ?_
    refine rz_iast dX0_run_18 hd_64 (by decide) (by omega) ?_
    refine rz_aload_n dX0_run_19 rfl ?_
    refine rz_dup dX0_run_20 rfl ?_
    refine rz_getI (z := (I 63 1)) dX0_run_21 kf_RX0_20 hd_63 rfl rfl ?_
    refine rz_iconst dX0_run_24 ?_
    refine rz_iadd dX0_run_25 ?_
    refine rz_putI dX0_run_26 kp_RX0_20 hd_63 rfl ?_
    refine rz_mem (I' := (stM I 40)) (J' := J) (rfl) (rfl) ?_
    refine rz_iload_n dX0_run_29 rfl ?_
    refine rz_lookup (t := 210) (off := 180) dX0_run_30 (by omega) (by decide) (by decide) rfl ?_
    refine rz_aload_n dX0_run_210 rfl ?_
    refine rz_iload_n dX0_run_211 rfl ?_
    refine rz_iconst dX0_run_212 ?_
    refine rz_iload_n dX0_run_213 rfl ?_
    refine rz_iload dX0_run_214 rfl ?_
    refine rz_cVI dX0_run_216 kl_RX0_39 hd_63 ⟨_, _, rfl⟩ (c_X0_from_3_2_2 X _ (stM I 40) J x d (by (try simp only [trM_R, stM_R, trR_R, stR_R, List.length_cons, List.length_nil]); omega) hk ha (by omega)) rfl rfl (Nat.le_of_ble_eq_true rfl) (Nat.le_of_ble_eq_true rfl) ?_
    refine rz_iconst dX0_run_219 ?_
    refine rz_imul dX0_run_220 ?_
    refine rz_iret dX0_run_221 rfl ?_
    exact ⟨_, rfl, rfl, rfl, rfl⟩
set_option maxRecDepth 20000 in
set_option maxHeartbeats 400000 in
theorem c_X0_from_3_3_2 (X : pX) (h : Nat) (I J : IM) (x d : Int) (hR : 0 ≤ I 63 1 ∧ I 63 1 ≤ 22) (hk : I 65 (I 63 4).toNat = 3) (ha : 0 ≤ I 63 4 ∧ I 63 4 < 50) (hd : 0 ≤ d ∧ d ≤ 38) : KI X (h + 3) mX0_from [.ref 63, zi 3, zi 2, zi x, zi d] I J (((xorZ x (I 63 4)) * 3)) (trM I [40, 11]) J := by
  show Rz X (h + 3) mX0_from 0 [some (.ref 63), some (zi 3), some (zi 2), some (zi x), some (zi d), none, none, none] [] I J _
  refine rz_iload_n dX0_from_0 rfl ?_
  refine rz_istore dX0_from_1 (by decide) rfl ?_
  refine rz_iconst dX0_from_3 ?_
  refine rz_istore dX0_from_4 (by decide) rfl ?_
  refine rz_iload dX0_from_6 rfl ?_
  refine rz_bipush dX0_from_8 (by decide) ?_
  refine rz_icmp_ge (t := 78) dX0_from_10 rfl (by omega) (by omega) (fun q => absurd q (by decide)) (fun _ => ?_)
  refine rz_iload dX0_from_13 rfl ?_
  refine rz_if_lt (t := 78) dX0_from_15 rfl (by omega) (fun q => absurd q (by decide)) (fun _ => ?_)
  refine rz_gets1 dX0_from_18 kf_RX0_43 ?_
  refine rz_iload dX0_from_21 rfl ?_
  refine rz_iconst dX0_from_23 ?_
  refine rz_imul dX0_from_24 ?_
  refine rz_iload_n dX0_from_25 rfl ?_
  refine rz_iadd dX0_from_26 ?_
  refine rz_tld1 (z := 40) dX0_from_27 (by decide) rfl ?_
  refine rz_istore (ls' := [some (.ref 63), some (zi 3), some (zi 2), some (zi x), some (zi d), some (zi 3), some (zi 0), some (zi 40)]) dX0_from_28 (by decide) rfl ?_
  refine rz_iload dX0_from_30 rfl ?_
  refine rz_if_eq (t := 64) dX0_from_32 rfl (by omega) (fun q => absurd q (by decide)) (fun _ => ?_)
  refine rz_iload dX0_from_35 rfl ?_
  refine rz_bipush dX0_from_37 (by decide) ?_
  refine rz_icmp_ge (t := 62) dX0_from_39 rfl (by omega) (by omega) (fun c39 => ?_) (fun c39 => ?_)
  · exfalso; omega
  · refine rz_aload_n dX0_from_42 rfl ?_
    refine rz_iload dX0_from_43 rfl ?_
    refine rz_gets0 dX0_from_45 kf_RX0_29 ?_
    refine rz_iload dX0_from_48 rfl ?_
    refine rz_tld0 (z := 2) dX0_from_50 (by decide) rfl ?_
    refine rz_iload_n dX0_from_51 rfl ?_
    refine rz_iload dX0_from_52 rfl ?_
    refine rz_iconst dX0_from_54 ?_
    refine rz_iadd dX0_from_55 ?_
    refine rz_cVI dX0_from_56 kl_RX0_46 hd_63 ⟨_, _, rfl⟩ (c_X0_run_3_40_2 X _ I J x (d + 1) (by (try simp only [trM_R, stM_R, trR_R, stR_R, List.length_cons, List.length_nil]); omega) hk ha (by omega)) rfl rfl (Nat.le_of_ble_eq_true rfl) (Nat.le_of_ble_eq_true rfl) ?_
    refine rz_goto (t := 63) dX0_from_59 rfl ?_
    refine rz_iret dX0_from_63 rfl ?_
    exact ⟨_, rfl, rfl, rfl, rfl⟩
set_option maxRecDepth 20000 in
set_option maxHeartbeats 400000 in
theorem c_X0_own_3_2 (X : pX) (h : Nat) (I J : IM) (x d : Int) (hR : 0 ≤ I 63 1 ∧ I 63 1 ≤ 22) (hk : I 65 (I 63 4).toNat = 3) (ha : 0 ≤ I 63 4 ∧ I 63 4 < 50) (hd : 0 ≤ d ∧ d ≤ 38) : KI X (h + 4) mX0_own [.ref 63, zi 2, zi x, zi d] I J (((xorZ x (I 63 4)) * 3)) (trM I [40, 11]) J := by
  show Rz X (h + 4) mX0_own 0 [some (.ref 63), some (zi 2), some (zi x), some (zi d)] [] I J _
  refine rz_aload_n dX0_own_0 rfl ?_
  refine rz_aload_n dX0_own_1 rfl ?_
  refine rz_getR dX0_own_2 kf_RX0_13 hd_63 rfl rr_63_3 ?_
  refine rz_aload_n dX0_own_5 rfl ?_
  refine rz_getI (z := (I 63 4)) dX0_own_6 kf_RX0_32 hd_63 rfl rfl ?_
  refine rz_iald (z := 3) dX0_own_9 hd_65 (by decide) (by omega) hk ?_
  refine rz_iload_n dX0_own_10 rfl ?_
  refine rz_iload_n dX0_own_11 rfl ?_
  refine rz_iload_n dX0_own_12 rfl ?_
  refine rz_cVI dX0_own_13 kl_RX0_39 hd_63 ⟨_, _, rfl⟩ (c_X0_from_3_3_2 X _ I J x d (by (try simp only [trM_R, stM_R, trR_R, stR_R, List.length_cons, List.length_nil]); omega) hk ha (by omega)) rfl rfl (Nat.le_of_ble_eq_true rfl) (Nat.le_of_ble_eq_true rfl) ?_
  refine rz_iret dX0_own_16 rfl ?_
  exact ⟨_, rfl, rfl, rfl, rfl⟩
set_option maxRecDepth 20000 in
set_option maxHeartbeats 400000 in
theorem c_perform_3_2 (X : pX) (h : Nat) (I J : IM) (n x : Int) (hn : 0 ≤ n ∧ n < I 63 0) (hb : I 63 0 ≤ 50) (hk : I 65 n.toNat = 3) : KI X (h + 5) mX0_perform [.ref 63, zi n, zi 2, zi x] I J (((xorZ x n) * 3)) (trM (pfM I n) [40, 11]) J := by
  show Rz X (h + 5) mX0_perform 0 [some (.ref 63), some (zi n), some (zi 2), some (zi x)] [] I J _
  refine rz_aload_n dX0_perform_0 rfl ?_
  refine rz_iconst dX0_perform_1 ?_
  refine rz_putI dX0_perform_2 kp_RX0_20 hd_63 rfl ?_
  refine rz_iload_n dX0_perform_5 rfl ?_
  refine rz_if_lt (t := 26) dX0_perform_6 rfl (by omega) (fun c6 => ?_) (fun c6 => ?_)
  · refine rz_iconst dX0_perform_26 ?_
    refine rz_iret dX0_perform_27 rfl ?_
    exfalso; omega
  · refine rz_iload_n dX0_perform_9 rfl ?_
    refine rz_aload_n dX0_perform_10 rfl ?_
    refine rz_getI (z := (I 63 0)) dX0_perform_11 kf_RX0_16 hd_63 rfl rfl ?_
    refine rz_icmp_ge (t := 26) dX0_perform_14 rfl (by omega) (by omega) (fun c14 => ?_) (fun c14 => ?_)
    · refine rz_iconst dX0_perform_26 ?_
      refine rz_iret dX0_perform_27 rfl ?_
      exfalso; omega
    · refine rz_iload_n dX0_perform_17 rfl ?_
      refine rz_if_lt (t := 26) dX0_perform_18 rfl (by omega) (fun q => absurd q (by decide)) (fun _ => ?_)
      refine rz_iload_n dX0_perform_21 rfl ?_
      refine rz_iconst dX0_perform_22 ?_
      refine rz_icmp_le (t := 28) dX0_perform_23 rfl (by omega) (by omega) (fun _ => ?_) (fun q => absurd q (by decide))
      refine rz_aload_n dX0_perform_28 rfl ?_
      refine rz_iload_n dX0_perform_29 rfl ?_
      refine rz_putI dX0_perform_30 kp_RX0_32 hd_63 rfl ?_
      refine rz_mem (I' := (pfM I n)) (J' := J) (rfl) (rfl) ?_
      refine rz_aload_n dX0_perform_33 rfl ?_
      refine rz_iload_n dX0_perform_34 rfl ?_
      refine rz_iload_n dX0_perform_35 rfl ?_
      refine rz_iconst dX0_perform_36 ?_
      refine rz_cVI dX0_perform_37 kl_RX0_35 hd_63 ⟨_, _, rfl⟩ (c_X0_own_3_2 X _ (pfM I n) J x 0 (by show (0 : Int) ≤ 0 ∧ (0 : Int) ≤ _; omega) hk (by show 0 ≤ n ∧ n < 50; omega) (by omega)) rfl rfl (Nat.le_of_ble_eq_true rfl) (Nat.le_of_ble_eq_true rfl) ?_
      refine rz_iret dX0_perform_40 rfl ?_
      exact ⟨_, rfl, rfl, rfl, rfl⟩
set_option maxRecDepth 20000 in
set_option maxHeartbeats 400000 in
theorem c_X0_run_3_2_m1 (X : pX) (h : Nat) (I J : IM) (x d : Int) (hR : 0 ≤ I 63 1 ∧ I 63 1 ≤ 17) (hk : I 65 (I 63 4).toNat = 3) (ha : 0 ≤ I 63 4 ∧ I 63 4 < 50) (hd : 0 ≤ d ∧ d ≤ 36) : KI X (h + 10) mX0_run [.ref 63, zi 2, zi (-1), zi x, zi d] I J (((-(((x + 1) + (I 63 4)) * 2)) - ((xorZ 1 (I 63 4)) * 3))) (trM I [2, 41, 30, 10, 1, 40, 11]) J := by
  show Rz X (h + 10) mX0_run 0 [some (.ref 63), some (zi 2), some (zi (-1)), some (zi x), some (zi d)] [] I J _
  refine rz_aload_n dX0_run_0 rfl ?_
  refine rz_getI (z := (I 63 1)) dX0_run_1 kf_RX0_20 hd_63 rfl rfl ?_
  refine rz_bipush dX0_run_4 (by decide) ?_
  refine rz_icmp_ge (t := 19) dX0_run_6 rfl (by omega) (by omega) (fun c6 => ?_) (fun c6 => ?_)
  · exfalso; omega
  · refine rz_aload_n dX0_run_9 rfl ?_
    refine rz_getR dX0_run_10 kf_RX0_9 hd_63 rfl rr_63_2 ?_
    refine rz_aload_n dX0_run_13 rfl ?_
    refine rz_getI (z := (I 63 1)) dX0_run_14 kf_RX0_20 hd_63 rfl rfl ?_
    refine rz_iload_n dX0_run_17 rfl ?_
    refine rz_iast dX0_run_18 hd_64 (by decide) (by omega) ?_
    refine rz_aload_n dX0_run_19 rfl ?_
    refine rz_dup dX0_run_20 rfl ?_
    refine rz_getI (z := (I 63 1)) dX0_run_21 kf_RX0_20 hd_63 rfl rfl ?_
    refine rz_iconst dX0_run_24 ?_
    refine rz_iadd dX0_run_25 ?_
    refine rz_putI dX0_run_26 kp_RX0_20 hd_63 rfl ?_
    refine rz_mem (I' := (stM I 2)) (J' := J) (rfl) (rfl) ?_
    refine rz_iload_n dX0_run_29 rfl ?_
    refine rz_lookup (t := 151) (off := 121) dX0_run_30 (by omega) (by decide) (by decide) rfl ?_
    refine rz_aload_n dX0_run_151 rfl ?_
    refine rz_iconst dX0_run_152 ?_
    refine rz_iload_n dX0_run_153 rfl ?_
    refine rz_iload dX0_run_154 rfl ?_
    refine rz_cVI dX0_run_156 kl_RX0_35 hd_63 ⟨_, _, rfl⟩ (c_X0_own_3_1 X _ (stM I 2) J x d (by (try simp only [trM_R, stM_R, trR_R, stR_R, List.length_cons, List.length_nil]); omega) hk ha (by omega)) rfl rfl (Nat.le_of_ble_eq_true rfl) (Nat.le_of_ble_eq_true rfl) ?_
    refine rz_aload_n dX0_run_159 rfl ?_
    refine rz_iconst dX0_run_160 ?_
    refine rz_iconst dX0_run_161 ?_
    refine rz_iload dX0_run_162 rfl ?_
    refine rz_cVI dX0_run_164 kl_RX0_35 hd_63 ⟨_, _, rfl⟩ (c_X0_own_3_2 X _ (trM (stM I 2) [41, 30, 10, 1]) J 1 d (by (try simp only [trM_R, stM_R, trR_R, stR_R, List.length_cons, List.length_nil]); omega) hk ha (by omega)) rfl rfl (Nat.le_of_ble_eq_true rfl) (Nat.le_of_ble_eq_true rfl) ?_
    refine rz_isub dX0_run_167 ?_
    refine rz_iret dX0_run_168 rfl ?_
    exact ⟨_, rfl, rfl, rfl, rfl⟩
set_option maxRecDepth 20000 in
set_option maxHeartbeats 400000 in
theorem c_X0_from_3_3_3 (X : pX) (h : Nat) (I J : IM) (x d : Int) (hR : 0 ≤ I 63 1 ∧ I 63 1 ≤ 17) (hk : I 65 (I 63 4).toNat = 3) (ha : 0 ≤ I 63 4 ∧ I 63 4 < 50) (hd : 0 ≤ d ∧ d ≤ 35) : KI X (h + 11) mX0_from [.ref 63, zi 3, zi 3, zi x, zi d] I J (((-(((x + 1) + (I 63 4)) * 2)) - ((xorZ 1 (I 63 4)) * 3))) (trM I [2, 41, 30, 10, 1, 40, 11]) J := by
  show Rz X (h + 11) mX0_from 0 [some (.ref 63), some (zi 3), some (zi 3), some (zi x), some (zi d), none, none, none] [] I J _
  refine rz_iload_n dX0_from_0 rfl ?_
  refine rz_istore dX0_from_1 (by decide) rfl ?_
  refine rz_iconst dX0_from_3 ?_
  refine rz_istore dX0_from_4 (by decide) rfl ?_
  refine rz_iload dX0_from_6 rfl ?_
  refine rz_bipush dX0_from_8 (by decide) ?_
  refine rz_icmp_ge (t := 78) dX0_from_10 rfl (by omega) (by omega) (fun q => absurd q (by decide)) (fun _ => ?_)
  refine rz_iload dX0_from_13 rfl ?_
  refine rz_if_lt (t := 78) dX0_from_15 rfl (by omega) (fun q => absurd q (by decide)) (fun _ => ?_)
  refine rz_gets1 dX0_from_18 kf_RX0_43 ?_
  refine rz_iload dX0_from_21 rfl ?_
  refine rz_iconst dX0_from_23 ?_
  refine rz_imul dX0_from_24 ?_
  refine rz_iload_n dX0_from_25 rfl ?_
  refine rz_iadd dX0_from_26 ?_
  refine rz_tld1 (z := 0) dX0_from_27 (by decide) rfl ?_
  refine rz_istore (ls' := [some (.ref 63), some (zi 3), some (zi 3), some (zi x), some (zi d), some (zi 3), some (zi 0), some (zi 0)]) dX0_from_28 (by decide) rfl ?_
  refine rz_iload dX0_from_30 rfl ?_
  refine rz_if_eq (t := 64) dX0_from_32 rfl (by omega) (fun _ => ?_) (fun q => absurd q (by decide))
  refine rz_gets0 dX0_from_64 kf_RX0_29 ?_
  refine rz_iload dX0_from_67 rfl ?_
  refine rz_tld0 (z := 2) dX0_from_69 (by decide) rfl ?_
  refine rz_istore dX0_from_70 (by decide) rfl ?_
  refine rz_iinc (z := 1) dX0_from_72 (by decide) rfl rfl rfl ?_
  refine rz_goto (t := 6) dX0_from_75 rfl ?_
  refine rz_iload dX0_from_6 rfl ?_
  refine rz_bipush dX0_from_8 (by decide) ?_
  refine rz_icmp_ge (t := 78) dX0_from_10 rfl (by omega) (by omega) (fun q => absurd q (by decide)) (fun _ => ?_)
  refine rz_iload dX0_from_13 rfl ?_
  refine rz_if_lt (t := 78) dX0_from_15 rfl (by omega) (fun q => absurd q (by decide)) (fun _ => ?_)
  refine rz_gets1 dX0_from_18 kf_RX0_43 ?_
  refine rz_iload dX0_from_21 rfl ?_
  refine rz_iconst dX0_from_23 ?_
  refine rz_imul dX0_from_24 ?_
  refine rz_iload_n dX0_from_25 rfl ?_
  refine rz_iadd dX0_from_26 ?_
  refine rz_tld1 (z := 0) dX0_from_27 (by decide) rfl ?_
  refine rz_istore (ls' := [some (.ref 63), some (zi 3), some (zi 3), some (zi x), some (zi d), some (zi 2), some (zi 1), some (zi 0)]) dX0_from_28 (by decide) rfl ?_
  refine rz_iload dX0_from_30 rfl ?_
  refine rz_if_eq (t := 64) dX0_from_32 rfl (by omega) (fun _ => ?_) (fun q => absurd q (by decide))
  refine rz_gets0 dX0_from_64 kf_RX0_29 ?_
  refine rz_iload dX0_from_67 rfl ?_
  refine rz_tld0 (z := 0) dX0_from_69 (by decide) rfl ?_
  refine rz_istore dX0_from_70 (by decide) rfl ?_
  refine rz_iinc (z := 2) dX0_from_72 (by decide) rfl rfl rfl ?_
  refine rz_goto (t := 6) dX0_from_75 rfl ?_
  refine rz_iload dX0_from_6 rfl ?_
  refine rz_bipush dX0_from_8 (by decide) ?_
  refine rz_icmp_ge (t := 78) dX0_from_10 rfl (by omega) (by omega) (fun q => absurd q (by decide)) (fun _ => ?_)
  refine rz_iload dX0_from_13 rfl ?_
  refine rz_if_lt (t := 78) dX0_from_15 rfl (by omega) (fun q => absurd q (by decide)) (fun _ => ?_)
  refine rz_gets1 dX0_from_18 kf_RX0_43 ?_
  refine rz_iload dX0_from_21 rfl ?_
  refine rz_iconst dX0_from_23 ?_
  refine rz_imul dX0_from_24 ?_
  refine rz_iload_n dX0_from_25 rfl ?_
  refine rz_iadd dX0_from_26 ?_
  refine rz_tld1 (z := 2) dX0_from_27 (by decide) rfl ?_
  refine rz_istore (ls' := [some (.ref 63), some (zi 3), some (zi 3), some (zi x), some (zi d), some (zi 0), some (zi 2), some (zi 2)]) dX0_from_28 (by decide) rfl ?_
  refine rz_iload dX0_from_30 rfl ?_
  refine rz_if_eq (t := 64) dX0_from_32 rfl (by omega) (fun q => absurd q (by decide)) (fun _ => ?_)
  refine rz_iload dX0_from_35 rfl ?_
  refine rz_bipush dX0_from_37 (by decide) ?_
  refine rz_icmp_ge (t := 62) dX0_from_39 rfl (by omega) (by omega) (fun c39 => ?_) (fun c39 => ?_)
  · exfalso; omega
  · refine rz_aload_n dX0_from_42 rfl ?_
    refine rz_iload dX0_from_43 rfl ?_
    refine rz_gets0 dX0_from_45 kf_RX0_29 ?_
    refine rz_iload dX0_from_48 rfl ?_
    refine rz_tld0 (z := (-1)) dX0_from_50 (by decide) rfl ?_
    refine rz_iload_n dX0_from_51 rfl ?_
    refine rz_iload dX0_from_52 rfl ?_
    refine rz_iconst dX0_from_54 ?_
    refine rz_iadd dX0_from_55 ?_
    refine rz_cVI dX0_from_56 kl_RX0_46 hd_63 ⟨_, _, rfl⟩ (c_X0_run_3_2_m1 X _ I J x (d + 1) (by (try simp only [trM_R, stM_R, trR_R, stR_R, List.length_cons, List.length_nil]); omega) hk ha (by omega)) rfl rfl (Nat.le_of_ble_eq_true rfl) (Nat.le_of_ble_eq_true rfl) ?_
    refine rz_goto (t := 63) dX0_from_59 rfl ?_
    refine rz_iret dX0_from_63 rfl ?_
    exact ⟨_, rfl, rfl, rfl, rfl⟩
set_option maxRecDepth 20000 in
set_option maxHeartbeats 400000 in
theorem c_X0_own_3_3 (X : pX) (h : Nat) (I J : IM) (x d : Int) (hR : 0 ≤ I 63 1 ∧ I 63 1 ≤ 17) (hk : I 65 (I 63 4).toNat = 3) (ha : 0 ≤ I 63 4 ∧ I 63 4 < 50) (hd : 0 ≤ d ∧ d ≤ 35) : KI X (h + 12) mX0_own [.ref 63, zi 3, zi x, zi d] I J (((-(((x + 1) + (I 63 4)) * 2)) - ((xorZ 1 (I 63 4)) * 3))) (trM I [2, 41, 30, 10, 1, 40, 11]) J := by
  show Rz X (h + 12) mX0_own 0 [some (.ref 63), some (zi 3), some (zi x), some (zi d)] [] I J _
  refine rz_aload_n dX0_own_0 rfl ?_
  refine rz_aload_n dX0_own_1 rfl ?_
  refine rz_getR dX0_own_2 kf_RX0_13 hd_63 rfl rr_63_3 ?_
  refine rz_aload_n dX0_own_5 rfl ?_
  refine rz_getI (z := (I 63 4)) dX0_own_6 kf_RX0_32 hd_63 rfl rfl ?_
  refine rz_iald (z := 3) dX0_own_9 hd_65 (by decide) (by omega) hk ?_
  refine rz_iload_n dX0_own_10 rfl ?_
  refine rz_iload_n dX0_own_11 rfl ?_
  refine rz_iload_n dX0_own_12 rfl ?_
  refine rz_cVI dX0_own_13 kl_RX0_39 hd_63 ⟨_, _, rfl⟩ (c_X0_from_3_3_3 X _ I J x d (by (try simp only [trM_R, stM_R, trR_R, stR_R, List.length_cons, List.length_nil]); omega) hk ha (by omega)) rfl rfl (Nat.le_of_ble_eq_true rfl) (Nat.le_of_ble_eq_true rfl) ?_
  refine rz_iret dX0_own_16 rfl ?_
  exact ⟨_, rfl, rfl, rfl, rfl⟩
set_option maxRecDepth 20000 in
set_option maxHeartbeats 400000 in
theorem c_perform_3_3 (X : pX) (h : Nat) (I J : IM) (n x : Int) (hn : 0 ≤ n ∧ n < I 63 0) (hb : I 63 0 ≤ 50) (hk : I 65 n.toNat = 3) : KI X (h + 13) mX0_perform [.ref 63, zi n, zi 3, zi x] I J (((-(((x + 1) + n) * 2)) - ((xorZ 1 n) * 3))) (trM (pfM I n) [2, 41, 30, 10, 1, 40, 11]) J := by
  show Rz X (h + 13) mX0_perform 0 [some (.ref 63), some (zi n), some (zi 3), some (zi x)] [] I J _
  refine rz_aload_n dX0_perform_0 rfl ?_
  refine rz_iconst dX0_perform_1 ?_
  refine rz_putI dX0_perform_2 kp_RX0_20 hd_63 rfl ?_
  refine rz_iload_n dX0_perform_5 rfl ?_
  refine rz_if_lt (t := 26) dX0_perform_6 rfl (by omega) (fun c6 => ?_) (fun c6 => ?_)
  · refine rz_iconst dX0_perform_26 ?_
    refine rz_iret dX0_perform_27 rfl ?_
    exfalso; omega
  · refine rz_iload_n dX0_perform_9 rfl ?_
    refine rz_aload_n dX0_perform_10 rfl ?_
    refine rz_getI (z := (I 63 0)) dX0_perform_11 kf_RX0_16 hd_63 rfl rfl ?_
    refine rz_icmp_ge (t := 26) dX0_perform_14 rfl (by omega) (by omega) (fun c14 => ?_) (fun c14 => ?_)
    · refine rz_iconst dX0_perform_26 ?_
      refine rz_iret dX0_perform_27 rfl ?_
      exfalso; omega
    · refine rz_iload_n dX0_perform_17 rfl ?_
      refine rz_if_lt (t := 26) dX0_perform_18 rfl (by omega) (fun q => absurd q (by decide)) (fun _ => ?_)
      refine rz_iload_n dX0_perform_21 rfl ?_
      refine rz_iconst dX0_perform_22 ?_
      refine rz_icmp_le (t := 28) dX0_perform_23 rfl (by omega) (by omega) (fun _ => ?_) (fun q => absurd q (by decide))
      refine rz_aload_n dX0_perform_28 rfl ?_
      refine rz_iload_n dX0_perform_29 rfl ?_
      refine rz_putI dX0_perform_30 kp_RX0_32 hd_63 rfl ?_
      refine rz_mem (I' := (pfM I n)) (J' := J) (rfl) (rfl) ?_
      refine rz_aload_n dX0_perform_33 rfl ?_
      refine rz_iload_n dX0_perform_34 rfl ?_
      refine rz_iload_n dX0_perform_35 rfl ?_
      refine rz_iconst dX0_perform_36 ?_
      refine rz_cVI dX0_perform_37 kl_RX0_35 hd_63 ⟨_, _, rfl⟩ (c_X0_own_3_3 X _ (pfM I n) J x 0 (by show (0 : Int) ≤ 0 ∧ (0 : Int) ≤ _; omega) hk (by show 0 ≤ n ∧ n < 50; omega) (by omega)) rfl rfl (Nat.le_of_ble_eq_true rfl) (Nat.le_of_ble_eq_true rfl) ?_
      refine rz_iret dX0_perform_40 rfl ?_
      exact ⟨_, rfl, rfl, rfl, rfl⟩
set_option maxRecDepth 20000 in
set_option maxHeartbeats 400000 in
theorem c_X0_run_4_1_m1 (X : pX) (h : Nat) (I J : IM) (x d : Int) (hR : 0 ≤ I 63 1 ∧ I 63 1 ≤ 23) (hk : I 65 (I 63 4).toNat = 4) (ha : 0 ≤ I 63 4 ∧ I 63 4 < 50) (hd : 0 ≤ d ∧ d ≤ 100) : KI X h mX0_run [.ref 63, zi 1, zi (-1), zi x, zi d] I J ((x + (I 63 4))) (trM I [1]) J := by
  show Rz X h mX0_run 0 [some (.ref 63), some (zi 1), some (zi (-1)), some (zi x), some (zi d)] [] I J _
  refine rz_aload_n dX0_run_0 rfl ?_
  refine rz_getI (z := (I 63 1)) dX0_run_1 kf_RX0_20 hd_63 rfl rfl ?_
  refine rz_bipush dX0_run_4 (by decide) ?_
  refine rz_icmp_ge (t := 19) dX0_run_6 rfl (by omega) (by omega) (fun c6 => ?_) (fun c6 => ?_)
  · exfalso; omega
  · refine rz_aload_n dX0_run_9 rfl ?_
    refine rz_getR dX0_run_10 kf_RX0_9 hd_63 rfl rr_63_2 ?_
    refine rz_aload_n dX0_run_13 rfl ?_
    refine rz_getI (z := (I 63 1)) dX0_run_14 kf_RX0_20 hd_63 rfl rfl ?_
    refine rz_iload_n dX0_run_17 rfl ?_
    refine rz_iast dX0_run_18 hd_64 (by decide) (by omega) ?_
    refine rz_aload_n dX0_run_19 rfl ?_
    refine rz_dup dX0_run_20 rfl ?_
    refine rz_getI (z := (I 63 1)) dX0_run_21 kf_RX0_20 hd_63 rfl rfl ?_
    refine rz_iconst dX0_run_24 ?_
    refine rz_iadd dX0_run_25 ?_
    refine rz_putI dX0_run_26 kp_RX0_20 hd_63 rfl ?_
    refine rz_mem (I' := (stM I 1)) (J' := J) (rfl) (rfl) ?_
    refine rz_iload_n dX0_run_29 rfl ?_
    refine rz_lookup (t := 144) (off := 114) dX0_run_30 (by omega) (by decide) (by decide) rfl ?_
    refine rz_iload_n dX0_run_144 rfl ?_
    refine rz_aload_n dX0_run_145 rfl ?_
    refine rz_getI (z := (I 63 4)) dX0_run_146 kf_RX0_32 hd_63 rfl rfl ?_
    refine rz_iadd dX0_run_149 ?_
    refine rz_iret dX0_run_150 rfl ?_
    exact ⟨_, rfl, rfl, rfl, rfl⟩
set_option maxRecDepth 20000 in
set_option maxHeartbeats 400000 in
theorem c_X0_from_4_0_0 (X : pX) (h : Nat) (I J : IM) (x d : Int) (hR : 0 ≤ I 63 1 ∧ I 63 1 ≤ 23) (hk : I 65 (I 63 4).toNat = 4) (ha : 0 ≤ I 63 4 ∧ I 63 4 < 50) (hd : 0 ≤ d ∧ d ≤ 39) : KI X (h + 1) mX0_from [.ref 63, zi 0, zi 0, zi x, zi d] I J ((x + (I 63 4))) (trM I [1]) J := by
  show Rz X (h + 1) mX0_from 0 [some (.ref 63), some (zi 0), some (zi 0), some (zi x), some (zi d), none, none, none] [] I J _
  refine rz_iload_n dX0_from_0 rfl ?_
  refine rz_istore dX0_from_1 (by decide) rfl ?_
  refine rz_iconst dX0_from_3 ?_
  refine rz_istore dX0_from_4 (by decide) rfl ?_
  refine rz_iload dX0_from_6 rfl ?_
  refine rz_bipush dX0_from_8 (by decide) ?_
  refine rz_icmp_ge (t := 78) dX0_from_10 rfl (by omega) (by omega) (fun q => absurd q (by decide)) (fun _ => ?_)
  refine rz_iload dX0_from_13 rfl ?_
  refine rz_if_lt (t := 78) dX0_from_15 rfl (by omega) (fun q => absurd q (by decide)) (fun _ => ?_)
  refine rz_gets1 dX0_from_18 kf_RX0_43 ?_
  refine rz_iload dX0_from_21 rfl ?_
  refine rz_iconst dX0_from_23 ?_
  refine rz_imul dX0_from_24 ?_
  refine rz_iload_n dX0_from_25 rfl ?_
  refine rz_iadd dX0_from_26 ?_
  refine rz_tld1 (z := 1) dX0_from_27 (by decide) rfl ?_
  refine rz_istore (ls' := [some (.ref 63), some (zi 0), some (zi 0), some (zi x), some (zi d), some (zi 0), some (zi 0), some (zi 1)]) dX0_from_28 (by decide) rfl ?_
  refine rz_iload dX0_from_30 rfl ?_
  refine rz_if_eq (t := 64) dX0_from_32 rfl (by omega) (fun q => absurd q (by decide)) (fun _ => ?_)
  refine rz_iload dX0_from_35 rfl ?_
  refine rz_bipush dX0_from_37 (by decide) ?_
  refine rz_icmp_ge (t := 62) dX0_from_39 rfl (by omega) (by omega) (fun c39 => ?_) (fun c39 => ?_)
  · exfalso; omega
  · refine rz_aload_n dX0_from_42 rfl ?_
    refine rz_iload dX0_from_43 rfl ?_
    refine rz_gets0 dX0_from_45 kf_RX0_29 ?_
    refine rz_iload dX0_from_48 rfl ?_
    refine rz_tld0 (z := (-1)) dX0_from_50 (by decide) rfl ?_
    refine rz_iload_n dX0_from_51 rfl ?_
    refine rz_iload dX0_from_52 rfl ?_
    refine rz_iconst dX0_from_54 ?_
    refine rz_iadd dX0_from_55 ?_
    refine rz_cVI dX0_from_56 kl_RX0_46 hd_63 ⟨_, _, rfl⟩ (c_X0_run_4_1_m1 X _ I J x (d + 1) (by (try simp only [trM_R, stM_R, trR_R, stR_R, List.length_cons, List.length_nil]); omega) hk ha (by omega)) rfl rfl (Nat.le_of_ble_eq_true rfl) (Nat.le_of_ble_eq_true rfl) ?_
    refine rz_goto (t := 63) dX0_from_59 rfl ?_
    refine rz_iret dX0_from_63 rfl ?_
    exact ⟨_, rfl, rfl, rfl, rfl⟩
set_option maxRecDepth 20000 in
set_option maxHeartbeats 400000 in
theorem c_X0_run_4_20_0 (X : pX) (h : Nat) (I J : IM) (x d : Int) (hR : 0 ≤ I 63 1 ∧ I 63 1 ≤ 22) (hk : I 65 (I 63 4).toNat = 4) (ha : 0 ≤ I 63 4 ∧ I 63 4 < 50) (hd : 0 ≤ d ∧ d ≤ 39) : KI X (h + 2) mX0_run [.ref 63, zi 20, zi 0, zi x, zi d] I J (((x + (I 63 4)) + 3)) (trM I [20, 1]) J := by
  show Rz X (h + 2) mX0_run 0 [some (.ref 63), some (zi 20), some (zi 0), some (zi x), some (zi d)] [] I J _
  refine rz_aload_n dX0_run_0 rfl ?_
  refine rz_getI (z := (I 63 1)) dX0_run_1 kf_RX0_20 hd_63 rfl rfl ?_
  refine rz_bipush dX0_run_4 (by decide) ?_
  refine rz_icmp_ge (t := 19) dX0_run_6 rfl (by omega) (by omega) (fun c6 => ?_) (fun c6 => ?_)
  · exfalso; omega
  · refine rz_aload_n dX0_run_9 rfl ?_
    refine rz_getR dX0_run_10 kf_RX0_9 hd_63 rfl rr_63_2 ?_
    refine rz_aload_n dX0_run_13 rfl ?_
    refine rz_getI (z := (I 63 1)) dX0_run_14 kf_RX0_20 hd_63 rfl rfl ?_
    refine rz_iload_n dX0_run_17 rfl ?_
    refine rz_iast dX0_run_18 hd_64 (by decide) (by omega) ?_
    refine rz_aload_n dX0_run_19 rfl ?_
    refine rz_dup dX0_run_20 rfl ?_
    refine rz_getI (z := (I 63 1)) dX0_run_21 kf_RX0_20 hd_63 rfl rfl ?_
    refine rz_iconst dX0_run_24 ?_
    refine rz_iadd dX0_run_25 ?_
    refine rz_putI dX0_run_26 kp_RX0_20 hd_63 rfl ?_
    refine rz_mem (I' := (stM I 20)) (J' := J) (rfl) (rfl) ?_
    refine rz_iload_n dX0_run_29 rfl ?_
    refine rz_lookup (t := 187) (off := 157) dX0_run_30 (by omega) (by decide) (by decide) rfl ?_
    refine rz_aload_n dX0_run_187 rfl ?_
    refine rz_iload_n dX0_run_188 rfl ?_
    refine rz_iconst dX0_run_189 ?_
    refine rz_iload_n dX0_run_190 rfl ?_
    refine rz_iload dX0_run_191 rfl ?_
    refine rz_cVI dX0_run_193 kl_RX0_39 hd_63 ⟨_, _, rfl⟩ (c_X0_from_4_0_0 X _ (stM I 20) J x d (by (try simp only [trM_R, stM_R, trR_R, stR_R, List.length_cons, List.length_nil]); omega) hk ha (by omega)) rfl rfl (Nat.le_of_ble_eq_true rfl) (Nat.le_of_ble_eq_true rfl) ?_
    refine rz_iconst dX0_run_196 ?_
    refine rz_iadd dX0_run_197 ?_
    refine rz_iret dX0_run_198 rfl ?_
    exact ⟨_, rfl, rfl, rfl, rfl⟩
set_option maxRecDepth 20000 in
set_option maxHeartbeats 400000 in
theorem c_X0_from_4_4_0 (X : pX) (h : Nat) (I J : IM) (x d : Int) (hR : 0 ≤ I 63 1 ∧ I 63 1 ≤ 22) (hk : I 65 (I 63 4).toNat = 4) (ha : 0 ≤ I 63 4 ∧ I 63 4 < 50) (hd : 0 ≤ d ∧ d ≤ 38) : KI X (h + 3) mX0_from [.ref 63, zi 4, zi 0, zi x, zi d] I J (((x + (I 63 4)) + 3)) (trM I [20, 1]) J := by
  show Rz X (h + 3) mX0_from 0 [some (.ref 63), some (zi 4), some (zi 0), some (zi x), some (zi d), none, none, none] [] I J _
  refine rz_iload_n dX0_from_0 rfl ?_
  refine rz_istore dX0_from_1 (by decide) rfl ?_
  refine rz_iconst dX0_from_3 ?_
  refine rz_istore dX0_from_4 (by decide) rfl ?_
  refine rz_iload dX0_from_6 rfl ?_
  refine rz_bipush dX0_from_8 (by decide) ?_
  refine rz_icmp_ge (t := 78) dX0_from_10 rfl (by omega) (by omega) (fun q => absurd q (by decide)) (fun _ => ?_)
  refine rz_iload dX0_from_13 rfl ?_
  refine rz_if_lt (t := 78) dX0_from_15 rfl (by omega) (fun q => absurd q (by decide)) (fun _ => ?_)
  refine rz_gets1 dX0_from_18 kf_RX0_43 ?_
  refine rz_iload dX0_from_21 rfl ?_
  refine rz_iconst dX0_from_23 ?_
  refine rz_imul dX0_from_24 ?_
  refine rz_iload_n dX0_from_25 rfl ?_
  refine rz_iadd dX0_from_26 ?_
  refine rz_tld1 (z := 0) dX0_from_27 (by decide) rfl ?_
  refine rz_istore (ls' := [some (.ref 63), some (zi 4), some (zi 0), some (zi x), some (zi d), some (zi 4), some (zi 0), some (zi 0)]) dX0_from_28 (by decide) rfl ?_
  refine rz_iload dX0_from_30 rfl ?_
  refine rz_if_eq (t := 64) dX0_from_32 rfl (by omega) (fun _ => ?_) (fun q => absurd q (by decide))
  refine rz_gets0 dX0_from_64 kf_RX0_29 ?_
  refine rz_iload dX0_from_67 rfl ?_
  refine rz_tld0 (z := 1) dX0_from_69 (by decide) rfl ?_
  refine rz_istore dX0_from_70 (by decide) rfl ?_
  refine rz_iinc (z := 1) dX0_from_72 (by decide) rfl rfl rfl ?_
  refine rz_goto (t := 6) dX0_from_75 rfl ?_
  refine rz_iload dX0_from_6 rfl ?_
  refine rz_bipush dX0_from_8 (by decide) ?_
  refine rz_icmp_ge (t := 78) dX0_from_10 rfl (by omega) (by omega) (fun q => absurd q (by decide)) (fun _ => ?_)
  refine rz_iload dX0_from_13 rfl ?_
  refine rz_if_lt (t := 78) dX0_from_15 rfl (by omega) (fun q => absurd q (by decide)) (fun _ => ?_)
  refine rz_gets1 dX0_from_18 kf_RX0_43 ?_
  refine rz_iload dX0_from_21 rfl ?_
  refine rz_iconst dX0_from_23 ?_
  refine rz_imul dX0_from_24 ?_
  refine rz_iload_n dX0_from_25 rfl ?_
  refine rz_iadd dX0_from_26 ?_
  refine rz_tld1 (z := 20) dX0_from_27 (by decide) rfl ?_
  refine rz_istore (ls' := [some (.ref 63), some (zi 4), some (zi 0), some (zi x), some (zi d), some (zi 1), some (zi 1), some (zi 20)]) dX0_from_28 (by decide) rfl ?_
  refine rz_iload dX0_from_30 rfl ?_
  refine rz_if_eq (t := 64) dX0_from_32 rfl (by omega) (fun q => absurd q (by decide)) (fun _ => ?_)
  refine rz_iload dX0_from_35 rfl ?_
  refine rz_bipush dX0_from_37 (by decide) ?_
  refine rz_icmp_ge (t := 62) dX0_from_39 rfl (by omega) (by omega) (fun c39 => ?_) (fun c39 => ?_)
  · exfalso; omega
  · refine rz_aload_n dX0_from_42 rfl ?_
    refine rz_iload dX0_from_43 rfl ?_
    refine rz_gets0 dX0_from_45 kf_RX0_29 ?_
    refine rz_iload dX0_from_48 rfl ?_
    refine rz_tld0 (z := 0) dX0_from_50 (by decide) rfl ?_
    refine rz_iload_n dX0_from_51 rfl ?_
    refine rz_iload dX0_from_52 rfl ?_
    refine rz_iconst dX0_from_54 ?_
    refine rz_iadd dX0_from_55 ?_
    refine rz_cVI dX0_from_56 kl_RX0_46 hd_63 ⟨_, _, rfl⟩ (c_X0_run_4_20_0 X _ I J x (d + 1) (by (try simp only [trM_R, stM_R, trR_R, stR_R, List.length_cons, List.length_nil]); omega) hk ha (by omega)) rfl rfl (Nat.le_of_ble_eq_true rfl) (Nat.le_of_ble_eq_true rfl) ?_
    refine rz_goto (t := 63) dX0_from_59 rfl ?_
    refine rz_iret dX0_from_63 rfl ?_
    exact ⟨_, rfl, rfl, rfl, rfl⟩
set_option maxRecDepth 20000 in
set_option maxHeartbeats 400000 in
theorem c_X0_own_4_0 (X : pX) (h : Nat) (I J : IM) (x d : Int) (hR : 0 ≤ I 63 1 ∧ I 63 1 ≤ 22) (hk : I 65 (I 63 4).toNat = 4) (ha : 0 ≤ I 63 4 ∧ I 63 4 < 50) (hd : 0 ≤ d ∧ d ≤ 38) : KI X (h + 4) mX0_own [.ref 63, zi 0, zi x, zi d] I J (((x + (I 63 4)) + 3)) (trM I [20, 1]) J := by
  show Rz X (h + 4) mX0_own 0 [some (.ref 63), some (zi 0), some (zi x), some (zi d)] [] I J _
  refine rz_aload_n dX0_own_0 rfl ?_
  refine rz_aload_n dX0_own_1 rfl ?_
  refine rz_getR dX0_own_2 kf_RX0_13 hd_63 rfl rr_63_3 ?_
  refine rz_aload_n dX0_own_5 rfl ?_
  refine rz_getI (z := (I 63 4)) dX0_own_6 kf_RX0_32 hd_63 rfl rfl ?_
  refine rz_iald (z := 4) dX0_own_9 hd_65 (by decide) (by omega) hk ?_
  refine rz_iload_n dX0_own_10 rfl ?_
  refine rz_iload_n dX0_own_11 rfl ?_
  refine rz_iload_n dX0_own_12 rfl ?_
  refine rz_cVI dX0_own_13 kl_RX0_39 hd_63 ⟨_, _, rfl⟩ (c_X0_from_4_4_0 X _ I J x d (by (try simp only [trM_R, stM_R, trR_R, stR_R, List.length_cons, List.length_nil]); omega) hk ha (by omega)) rfl rfl (Nat.le_of_ble_eq_true rfl) (Nat.le_of_ble_eq_true rfl) ?_
  refine rz_iret dX0_own_16 rfl ?_
  exact ⟨_, rfl, rfl, rfl, rfl⟩
set_option maxRecDepth 20000 in
set_option maxHeartbeats 400000 in
theorem c_perform_4_0 (X : pX) (h : Nat) (I J : IM) (n x : Int) (hn : 0 ≤ n ∧ n < I 63 0) (hb : I 63 0 ≤ 50) (hk : I 65 n.toNat = 4) : KI X (h + 5) mX0_perform [.ref 63, zi n, zi 0, zi x] I J (((x + n) + 3)) (trM (pfM I n) [20, 1]) J := by
  show Rz X (h + 5) mX0_perform 0 [some (.ref 63), some (zi n), some (zi 0), some (zi x)] [] I J _
  refine rz_aload_n dX0_perform_0 rfl ?_
  refine rz_iconst dX0_perform_1 ?_
  refine rz_putI dX0_perform_2 kp_RX0_20 hd_63 rfl ?_
  refine rz_iload_n dX0_perform_5 rfl ?_
  refine rz_if_lt (t := 26) dX0_perform_6 rfl (by omega) (fun c6 => ?_) (fun c6 => ?_)
  · refine rz_iconst dX0_perform_26 ?_
    refine rz_iret dX0_perform_27 rfl ?_
    exfalso; omega
  · refine rz_iload_n dX0_perform_9 rfl ?_
    refine rz_aload_n dX0_perform_10 rfl ?_
    refine rz_getI (z := (I 63 0)) dX0_perform_11 kf_RX0_16 hd_63 rfl rfl ?_
    refine rz_icmp_ge (t := 26) dX0_perform_14 rfl (by omega) (by omega) (fun c14 => ?_) (fun c14 => ?_)
    · refine rz_iconst dX0_perform_26 ?_
      refine rz_iret dX0_perform_27 rfl ?_
      exfalso; omega
    · refine rz_iload_n dX0_perform_17 rfl ?_
      refine rz_if_lt (t := 26) dX0_perform_18 rfl (by omega) (fun q => absurd q (by decide)) (fun _ => ?_)
      refine rz_iload_n dX0_perform_21 rfl ?_
      refine rz_iconst dX0_perform_22 ?_
      refine rz_icmp_le (t := 28) dX0_perform_23 rfl (by omega) (by omega) (fun _ => ?_) (fun q => absurd q (by decide))
      refine rz_aload_n dX0_perform_28 rfl ?_
      refine rz_iload_n dX0_perform_29 rfl ?_
      refine rz_putI dX0_perform_30 kp_RX0_32 hd_63 rfl ?_
      refine rz_mem (I' := (pfM I n)) (J' := J) (rfl) (rfl) ?_
      refine rz_aload_n dX0_perform_33 rfl ?_
      refine rz_iload_n dX0_perform_34 rfl ?_
      refine rz_iload_n dX0_perform_35 rfl ?_
      refine rz_iconst dX0_perform_36 ?_
      refine rz_cVI dX0_perform_37 kl_RX0_35 hd_63 ⟨_, _, rfl⟩ (c_X0_own_4_0 X _ (pfM I n) J x 0 (by show (0 : Int) ≤ 0 ∧ (0 : Int) ≤ _; omega) hk (by show 0 ≤ n ∧ n < 50; omega) (by omega)) rfl rfl (Nat.le_of_ble_eq_true rfl) (Nat.le_of_ble_eq_true rfl) ?_
      refine rz_iret dX0_perform_40 rfl ?_
      exact ⟨_, rfl, rfl, rfl, rfl⟩
set_option maxRecDepth 20000 in
set_option maxHeartbeats 400000 in
theorem c_X0_run_4_10_m1 (X : pX) (h : Nat) (I J : IM) (x d : Int) (hR : 0 ≤ I 63 1 ∧ I 63 1 ≤ 21) (hk : I 65 (I 63 4).toNat = 4) (ha : 0 ≤ I 63 4 ∧ I 63 4 < 50) (hd : 0 ≤ d ∧ d ≤ 38) : KI X (h + 5) mX0_run [.ref 63, zi 10, zi (-1), zi x, zi d] I J ((((x + (I 63 4)) + 3) * 2)) (trM I [10, 20, 1]) J := by
  show Rz X (h + 5) mX0_run 0 [some (.ref 63), some (zi 10), some (zi (-1)), some (zi x), some (zi d)] [] I J _
  refine rz_aload_n dX0_run_0 rfl ?_
  refine rz_getI (z := (I 63 1)) dX0_run_1 kf_RX0_20 hd_63 rfl rfl ?_
  refine rz_bipush dX0_run_4 (by decide) ?_
  refine rz_icmp_ge (t := 19) dX0_run_6 rfl (by omega) (by omega) (fun c6 => ?_) (fun c6 => ?_)
  · exfalso; omega
  · refine rz_aload_n dX0_run_9 rfl ?_
    refine rz_getR dX0_run_10 kf_RX0_9 hd_63 rfl rr_63_2 ?_
    refine rz_aload_n dX0_run_13 rfl ?_
    refine rz_getI (z := (I 63 1)) dX0_run_14 kf_RX0_20 hd_63 rfl rfl ?_
    refine rz_iload_n dX0_run_17 rfl ?_
    refine rz_iast dX0_run_18 hd_64 (by decide) (by omega) ?_
    refine rz_aload_n dX0_run_19 rfl ?_
    refine rz_dup dX0_run_20 rfl ?_
    refine rz_getI (z := (I 63 1)) dX0_run_21 kf_RX0_20 hd_63 rfl rfl ?_
    refine rz_iconst dX0_run_24 ?_
    refine rz_iadd dX0_run_25 ?_
    refine rz_putI dX0_run_26 kp_RX0_20 hd_63 rfl ?_
    refine rz_mem (I' := (stM I 10)) (J' := J) (rfl) (rfl) ?_
    refine rz_iload_n dX0_run_29 rfl ?_
    refine rz_lookup (t := 169) (off := 139) dX0_run_30 (by omega) (by decide) (by decide) rfl ?_
    refine rz_aload_n dX0_run_169 rfl ?_
    refine rz_iconst dX0_run_170 ?_
    refine rz_iload_n dX0_run_171 rfl ?_
    refine rz_iload dX0_run_172 rfl ?_
    refine rz_cVI dX0_run_174 kl_RX0_35 hd_63 ⟨_, _, rfl⟩ (c_X0_own_4_0 X _ (stM I 10) J x d (by (try simp only [trM_R, stM_R, trR_R, stR_R, List.length_cons, List.length_nil]); omega) hk ha (by omega)) rfl rfl (Nat.le_of_ble_eq_true rfl) (Nat.le_of_ble_eq_true rfl) ?_
    refine rz_iconst dX0_run_177 ?_
    refine rz_imul dX0_run_178 ?_
    refine rz_iret dX0_run_179 rfl ?_
    exact ⟨_, rfl, rfl, rfl, rfl⟩
set_option maxRecDepth 20000 in
set_option maxHeartbeats 400000 in
theorem c_X0_from_4_4_1 (X : pX) (h : Nat) (I J : IM) (x d : Int) (hR : 0 ≤ I 63 1 ∧ I 63 1 ≤ 21) (hk : I 65 (I 63 4).toNat = 4) (ha : 0 ≤ I 63 4 ∧ I 63 4 < 50) (hd : 0 ≤ d ∧ d ≤ 37) : KI X (h + 6) mX0_from [.ref 63, zi 4, zi 1, zi x, zi d] I J ((((x + (I 63 4)) + 3) * 2)) (trM I [10, 20, 1]) J := by
  show Rz X (h + 6) mX0_from 0 [some (.ref 63), some (zi 4), some (zi 1), some (zi x), some (zi d), none, none, none] [] I J _
  refine rz_iload_n dX0_from_0 rfl ?_
  refine rz_istore dX0_from_1 (by decide) rfl ?_
  refine rz_iconst dX0_from_3 ?_
  refine rz_istore dX0_from_4 (by decide) rfl ?_
  refine rz_iload dX0_from_6 rfl ?_
  refine rz_bipush dX0_from_8 (by decide) ?_
  refine rz_icmp_ge (t := 78) dX0_from_10 rfl (by omega) (by omega) (fun q => absurd q (by decide)) (fun _ => ?_)
  refine rz_iload dX0_from_13 rfl ?_
  refine rz_if_lt (t := 78) dX0_from_15 rfl (by omega) (fun q => absurd q (by decide)) (fun _ => ?_)
  refine rz_gets1 dX0_from_18 kf_RX0_43 ?_
  refine rz_iload dX0_from_21 rfl ?_
  refine rz_iconst dX0_from_23 ?_
  refine rz_imul dX0_from_24 ?_
  refine rz_iload_n dX0_from_25 rfl ?_
  refine rz_iadd dX0_from_26 ?_
  refine rz_tld1 (z := 0) dX0_from_27 (by decide) rfl ?_
  refine rz_istore (ls' := [some (.ref 63), some (zi 4), some (zi 1), some (zi x), some (zi d), some (zi 4), some (zi 0), some (zi 0)]) dX0_from_28 (by decide) rfl ?_
  refine rz_iload dX0_from_30 rfl ?_
  refine rz_if_eq (t := 64) dX0_from_32 rfl (by omega) (fun _ => ?_) (fun q => absurd q (by decide))
  refine rz_gets0 dX0_from_64 kf_RX0_29 ?_
  refine rz_iload dX0_from_67 rfl ?_
  refine rz_tld0 (z := 1) dX0_from_69 (by decide) rfl ?_
  refine rz_istore dX0_from_70 (by decide) rfl ?_
  refine rz_iinc (z := 1) dX0_from_72 (by decide) rfl rfl rfl ?_
  refine rz_goto (t := 6) dX0_from_75 rfl ?_
  refine rz_iload dX0_from_6 rfl ?_
  refine rz_bipush dX0_from_8 (by decide) ?_
  refine rz_icmp_ge (t := 78) dX0_from_10 rfl (by omega) (by omega) (fun q => absurd q (by decide)) (fun _ => ?_)
  refine rz_iload dX0_from_13 rfl ?_
  refine rz_if_lt (t := 78) dX0_from_15 rfl (by omega) (fun q => absurd q (by decide)) (fun _ => ?_)
  refine rz_gets1 dX0_from_18 kf_RX0_43 ?_
  refine rz_iload dX0_from_21 rfl ?_
  refine rz_iconst dX0_from_23 ?_
  refine rz_imul dX0_from_24 ?_
  refine rz_iload_n dX0_from_25 rfl ?_
  refine rz_iadd dX0_from_26 ?_
  refine rz_tld1 (z := 0) dX0_from_27 (by decide) rfl ?_
  refine rz_istore (ls' := [some (.ref 63), some (zi 4), some (zi 1), some (zi x), some (zi d), some (zi 1), some (zi 1), some (zi 0)]) dX0_from_28 (by decide) rfl ?_
  refine rz_iload dX0_from_30 rfl ?_
  refine rz_if_eq (t := 64) dX0_from_32 rfl (by omega) (fun _ => ?_) (fun q => absurd q (by decide))
  refine rz_gets0 dX0_from_64 kf_RX0_29 ?_
  refine rz_iload dX0_from_67 rfl ?_
  refine rz_tld0 (z := 0) dX0_from_69 (by decide) rfl ?_
  refine rz_istore dX0_from_70 (by decide) rfl ?_
  refine rz_iinc (z := 2) dX0_from_72 (by decide) rfl rfl rfl ?_
  refine rz_goto (t := 6) dX0_from_75 rfl ?_
  refine rz_iload dX0_from_6 rfl ?_
  refine rz_bipush dX0_from_8 (by decide) ?_
  refine rz_icmp_ge (t := 78) dX0_from_10 rfl (by omega) (by omega) (fun q => absurd q (by decide)) (fun _ => ?_)
  refine rz_iload dX0_from_13 rfl ?_
  refine rz_if_lt (t := 78) dX0_from_15 rfl (by omega) (fun q => absurd q (by decide)) (fun _ => ?_)
  refine rz_gets1 dX0_from_18 kf_RX0_43 ?_
  refine rz_iload dX0_from_21 rfl ?_
  refine rz_iconst dX0_from_23 ?_
  refine rz_imul dX0_from_24 ?_
  refine rz_iload_n dX0_from_25 rfl ?_
  refine rz_iadd dX0_from_26 ?_
  refine rz_tld1 (z := 10) dX0_from_27 (by decide) rfl ?_
  refine rz_istore (ls' := [some (.ref 63), some (zi 4), some (zi 1), some (zi x), some (zi d), some (zi 0), some (zi 2), some (zi 10)]) dX0_from_28 (by decide) rfl ?_
  refine rz_iload dX0_from_30 rfl ?_
  refine rz_if_eq (t := 64) dX0_from_32 rfl (by omega) (fun q => absurd q (by decide)) (fun _ => ?_)
  refine rz_iload dX0_from_35 rfl ?_
  refine rz_bipush dX0_from_37 (by decide) ?_
  refine rz_icmp_ge (t := 62) dX0_from_39 rfl (by omega) (by omega) (fun c39 => ?_) (fun c39 => ?_)
  · exfalso; omega
  · refine rz_aload_n dX0_from_42 rfl ?_
    refine rz_iload dX0_from_43 rfl ?_
    refine rz_gets0 dX0_from_45 kf_RX0_29 ?_
    refine rz_iload dX0_from_48 rfl ?_
    refine rz_tld0 (z := (-1)) dX0_from_50 (by decide) rfl ?_
    refine rz_iload_n dX0_from_51 rfl ?_
    refine rz_iload dX0_from_52 rfl ?_
    refine rz_iconst dX0_from_54 ?_
    refine rz_iadd dX0_from_55 ?_
    refine rz_cVI dX0_from_56 kl_RX0_46 hd_63 ⟨_, _, rfl⟩ (c_X0_run_4_10_m1 X _ I J x (d + 1) (by (try simp only [trM_R, stM_R, trR_R, stR_R, List.length_cons, List.length_nil]); omega) hk ha (by omega)) rfl rfl (Nat.le_of_ble_eq_true rfl) (Nat.le_of_ble_eq_true rfl) ?_
    refine rz_goto (t := 63) dX0_from_59 rfl ?_
    refine rz_iret dX0_from_63 rfl ?_
    exact ⟨_, rfl, rfl, rfl, rfl⟩
set_option maxRecDepth 20000 in
set_option maxHeartbeats 400000 in
theorem c_X0_own_4_1 (X : pX) (h : Nat) (I J : IM) (x d : Int) (hR : 0 ≤ I 63 1 ∧ I 63 1 ≤ 21) (hk : I 65 (I 63 4).toNat = 4) (ha : 0 ≤ I 63 4 ∧ I 63 4 < 50) (hd : 0 ≤ d ∧ d ≤ 37) : KI X (h + 7) mX0_own [.ref 63, zi 1, zi x, zi d] I J ((((x + (I 63 4)) + 3) * 2)) (trM I [10, 20, 1]) J := by
  show Rz X (h + 7) mX0_own 0 [some (.ref 63), some (zi 1), some (zi x), some (zi d)] [] I J _
  refine rz_aload_n dX0_own_0 rfl ?_
  refine rz_aload_n dX0_own_1 rfl ?_
  refine rz_getR dX0_own_2 kf_RX0_13 hd_63 rfl rr_63_3 ?_
  refine rz_aload_n dX0_own_5 rfl ?_
  refine rz_getI (z := (I 63 4)) dX0_own_6 kf_RX0_32 hd_63 rfl rfl ?_
  refine rz_iald (z := 4) dX0_own_9 hd_65 (by decide) (by omega) hk ?_
  refine rz_iload_n dX0_own_10 rfl ?_
  refine rz_iload_n dX0_own_11 rfl ?_
  refine rz_iload_n dX0_own_12 rfl ?_
  refine rz_cVI dX0_own_13 kl_RX0_39 hd_63 ⟨_, _, rfl⟩ (c_X0_from_4_4_1 X _ I J x d (by (try simp only [trM_R, stM_R, trR_R, stR_R, List.length_cons, List.length_nil]); omega) hk ha (by omega)) rfl rfl (Nat.le_of_ble_eq_true rfl) (Nat.le_of_ble_eq_true rfl) ?_
  refine rz_iret dX0_own_16 rfl ?_
  exact ⟨_, rfl, rfl, rfl, rfl⟩
set_option maxRecDepth 20000 in
set_option maxHeartbeats 400000 in
theorem c_perform_4_1 (X : pX) (h : Nat) (I J : IM) (n x : Int) (hn : 0 ≤ n ∧ n < I 63 0) (hb : I 63 0 ≤ 50) (hk : I 65 n.toNat = 4) : KI X (h + 8) mX0_perform [.ref 63, zi n, zi 1, zi x] I J ((((x + n) + 3) * 2)) (trM (pfM I n) [10, 20, 1]) J := by
  show Rz X (h + 8) mX0_perform 0 [some (.ref 63), some (zi n), some (zi 1), some (zi x)] [] I J _
  refine rz_aload_n dX0_perform_0 rfl ?_
  refine rz_iconst dX0_perform_1 ?_
  refine rz_putI dX0_perform_2 kp_RX0_20 hd_63 rfl ?_
  refine rz_iload_n dX0_perform_5 rfl ?_
  refine rz_if_lt (t := 26) dX0_perform_6 rfl (by omega) (fun c6 => ?_) (fun c6 => ?_)
  · refine rz_iconst dX0_perform_26 ?_
    refine rz_iret dX0_perform_27 rfl ?_
    exfalso; omega
  · refine rz_iload_n dX0_perform_9 rfl ?_
    refine rz_aload_n dX0_perform_10 rfl ?_
    refine rz_getI (z := (I 63 0)) dX0_perform_11 kf_RX0_16 hd_63 rfl rfl ?_
    refine rz_icmp_ge (t := 26) dX0_perform_14 rfl (by omega) (by omega) (fun c14 => ?_) (fun c14 => ?_)
    · refine rz_iconst dX0_perform_26 ?_
      refine rz_iret dX0_perform_27 rfl ?_
      exfalso; omega
    · refine rz_iload_n dX0_perform_17 rfl ?_
      refine rz_if_lt (t := 26) dX0_perform_18 rfl (by omega) (fun q => absurd q (by decide)) (fun _ => ?_)
      refine rz_iload_n dX0_perform_21 rfl ?_
      refine rz_iconst dX0_perform_22 ?_
      refine rz_icmp_le (t := 28) dX0_perform_23 rfl (by omega) (by omega) (fun _ => ?_) (fun q => absurd q (by decide))
      refine rz_aload_n dX0_perform_28 rfl ?_
      refine rz_iload_n dX0_perform_29 rfl ?_
      refine rz_putI dX0_perform_30 kp_RX0_32 hd_63 rfl ?_
      refine rz_mem (I' := (pfM I n)) (J' := J) (rfl) (rfl) ?_
      refine rz_aload_n dX0_perform_33 rfl ?_
      refine rz_iload_n dX0_perform_34 rfl ?_
      refine rz_iload_n dX0_perform_35 rfl ?_
      refine rz_iconst dX0_perform_36 ?_
      refine rz_cVI dX0_perform_37 kl_RX0_35 hd_63 ⟨_, _, rfl⟩ (c_X0_own_4_1 X _ (pfM I n) J x 0 (by show (0 : Int) ≤ 0 ∧ (0 : Int) ≤ _; omega) hk (by show 0 ≤ n ∧ n < 50; omega) (by omega)) rfl rfl (Nat.le_of_ble_eq_true rfl) (Nat.le_of_ble_eq_true rfl) ?_
      refine rz_iret dX0_perform_40 rfl ?_
      exact ⟨_, rfl, rfl, rfl, rfl⟩
set_option maxRecDepth 20000 in
set_option maxHeartbeats 400000 in
theorem c_X0_run_4_11_m1 (X : pX) (h : Nat) (I J : IM) (x d : Int) (hR : 0 ≤ I 63 1 ∧ I 63 1 ≤ 23) (hk : I 65 (I 63 4).toNat = 4) (ha : 0 ≤ I 63 4 ∧ I 63 4 < 50) (hd : 0 ≤ d ∧ d ≤ 100) : KI X h mX0_run [.ref 63, zi 11, zi (-1), zi x, zi d] I J ((xorZ x (I 63 4))) (trM I [11]) J := by
  show Rz X h mX0_run 0 [some (.ref 63), some (zi 11), some (zi (-1)), some (zi x), some (zi d)] [] I J _
  refine rz_aload_n dX0_run_0 rfl ?_
  refine rz_getI (z := (I 63 1)) dX0_run_1 kf_RX0_20 hd_63 rfl rfl ?_
  refine rz_bipush dX0_run_4 (by decide) ?_
  refine rz_icmp_ge (t := 19) dX0_run_6 rfl (by omega) (by omega) (fun c6 => ?_) (fun c6 => ?_)
  · exfalso; omega
  · refine rz_aload_n dX0_run_9 rfl ?_
    refine rz_getR dX0_run_10 kf_RX0_9 hd_63 rfl rr_63_2 ?_
    refine rz_aload_n dX0_run_13 rfl ?_
    refine rz_getI (z := (I 63 1)) dX0_run_14 kf_RX0_20 hd_63 rfl rfl ?_
    refine rz_iload_n dX0_run_17 rfl ?_
    refine rz_iast dX0_run_18 hd_64 (by decide) (by omega) ?_
    refine rz_aload_n dX0_run_19 rfl ?_
    refine rz_dup dX0_run_20 rfl ?_
    refine rz_getI (z := (I 63 1)) dX0_run_21 kf_RX0_20 hd_63 rfl rfl ?_
    refine rz_iconst dX0_run_24 ?_
    refine rz_iadd dX0_run_25 ?_
    refine rz_putI dX0_run_26 kp_RX0_20 hd_63 rfl ?_
    refine rz_mem (I' := (stM I 11)) (J' := J) (rfl) (rfl) ?_
    refine rz_iload_n dX0_run_29 rfl ?_
    refine rz_lookup (t := 180) (off := 150) dX0_run_30 (by omega) (by decide) (by decide) rfl ?_
    refine rz_iload_n dX0_run_180 rfl ?_
    refine rz_aload_n dX0_run_181 rfl ?_
    refine rz_getI (z := (I 63 4)) dX0_run_182 kf_RX0_32 hd_63 rfl rfl ?_
    refine rz_ixor dX0_run_185 ?_
    refine rz_iret dX0_run_186 rfl ?_
    exact ⟨_, rfl, rfl, rfl, rfl⟩
set_option maxRecDepth 20000 in
set_option maxHeartbeats 400000 in
theorem c_X0_from_4_4_2 (X : pX) (h : Nat) (I J : IM) (x d : Int) (hR : 0 ≤ I 63 1 ∧ I 63 1 ≤ 23) (hk : I 65 (I 63 4).toNat = 4) (ha : 0 ≤ I 63 4 ∧ I 63 4 < 50) (hd : 0 ≤ d ∧ d ≤ 39) : KI X (h + 1) mX0_from [.ref 63, zi 4, zi 2, zi x, zi d] I J ((xorZ x (I 63 4))) (trM I [11]) J := by
  show Rz X (h + 1) mX0_from 0 [some (.ref 63), some (zi 4), some (zi 2), some (zi x), some (zi d), none, none, none] [] I J _
  refine rz_iload_n dX0_from_0 rfl ?_
  refine rz_istore dX0_from_1 (by decide) rfl ?_
  refine rz_iconst dX0_from_3 ?_
  refine rz_istore dX0_from_4 (by decide) rfl ?_
  refine rz_iload dX0_from_6 rfl ?_
  refine rz_bipush dX0_from_8 (by decide) ?_
  refine rz_icmp_ge (t := 78) dX0_from_10 rfl (by omega) (by omega) (fun q => absurd q (by decide)) (fun _ => ?_)
  refine rz_iload dX0_from_13 rfl ?_
  refine rz_if_lt (t := 78) dX0_from_15 rfl (by omega) (fun q => absurd q (by decide)) (fun _ => ?_)
  refine rz_gets1 dX0_from_18 kf_RX0_43 ?_
  refine rz_iload dX0_from_21 rfl ?_
  refine rz_iconst dX0_from_23 ?_
  refine rz_imul dX0_from_24 ?_
  refine rz_iload_n dX0_from_25 rfl ?_
  refine rz_iadd dX0_from_26 ?_
  refine rz_tld1 (z := 0) dX0_from_27 (by decide) rfl ?_
  refine rz_istore (ls' := [some (.ref 63), some (zi 4), some (zi 2), some (zi x), some (zi d), some (zi 4), some (zi 0), some (zi 0)]) dX0_from_28 (by decide) rfl ?_
  refine rz_iload dX0_from_30 rfl ?_
  refine rz_if_eq (t := 64) dX0_from_32 rfl (by omega) (fun _ => ?_) (fun q => absurd q (by decide))
  refine rz_gets0 dX0_from_64 kf_RX0_29 ?_
  refine rz_iload dX0_from_67 rfl ?_
  refine rz_tld0 (z := 1) dX0_from_69 (by decide) rfl ?_
  refine rz_istore dX0_from_70 (by decide) rfl ?_
  refine rz_iinc (z := 1) dX0_from_72 (by decide) rfl rfl rfl ?_
  refine rz_goto (t := 6) dX0_from_75 rfl ?_
  refine rz_iload dX0_from_6 rfl ?_
  refine rz_bipush dX0_from_8 (by decide) ?_
  refine rz_icmp_ge (t := 78) dX0_from_10 rfl (by omega) (by omega) (fun q => absurd q (by decide)) (fun _ => ?_)
  refine rz_iload dX0_from_13 rfl ?_
  refine rz_if_lt (t := 78) dX0_from_15 rfl (by omega) (fun q => absurd q (by decide)) (fun _ => ?_)
  refine rz_gets1 dX0_from_18 kf_RX0_43 ?_
  refine rz_iload dX0_from_21 rfl ?_
  refine rz_iconst dX0_from_23 ?_
  refine rz_imul dX0_from_24 ?_
  refine rz_iload_n dX0_from_25 rfl ?_
  refine rz_iadd dX0_from_26 ?_
  refine rz_tld1 (z := 0) dX0_from_27 (by decide) rfl ?_
  refine rz_istore (ls' := [some (.ref 63), some (zi 4), some (zi 2), some (zi x), some (zi d), some (zi 1), some (zi 1), some (zi 0)]) dX0_from_28 (by decide) rfl ?_
  refine rz_iload dX0_from_30 rfl ?_
  refine rz_if_eq (t := 64) dX0_from_32 rfl (by omega) (fun _ => ?_) (fun q => absurd q (by decide))
  refine rz_gets0 dX0_from_64 kf_RX0_29 ?_
  refine rz_iload dX0_from_67 rfl ?_
  refine rz_tld0 (z := 0) dX0_from_69 (by decide) rfl ?_
  refine rz_istore dX0_from_70 (by decide) rfl ?_
  refine rz_iinc (z := 2) dX0_from_72 (by decide) rfl rfl rfl ?_
  refine rz_goto (t := 6) dX0_from_75 rfl ?_
  refine rz_iload dX0_from_6 rfl ?_
  refine rz_bipush dX0_from_8 (by decide) ?_
  refine rz_icmp_ge (t := 78) dX0_from_10 rfl (by omega) (by omega) (fun q => absurd q (by decide)) (fun _ => ?_)
  refine rz_iload dX0_from_13 rfl ?_
  refine rz_if_lt (t := 78) dX0_from_15 rfl (by omega) (fun q => absurd q (by decide)) (fun _ => ?_)
  refine rz_gets1 dX0_from_18 kf_RX0_43 ?_
  refine rz_iload dX0_from_21 rfl ?_
  refine rz_iconst dX0_from_23 ?_
  refine rz_imul dX0_from_24 ?_
  refine rz_iload_n dX0_from_25 rfl ?_
  refine rz_iadd dX0_from_26 ?_
  refine rz_tld1 (z := 11) dX0_from_27 (by decide) rfl ?_
  refine rz_istore (ls' := [some (.ref 63), some (zi 4), some (zi 2), some (zi x), some (zi d), some (zi 0), some (zi 2), some (zi 11)]) dX0_from_28 (by decide) rfl ?_
  refine rz_iload dX0_from_30 rfl ?_
  refine rz_if_eq (t := 64) dX0_from_32 rfl (by omega) (fun q => absurd q (by decide)) (fun _ => ?_)
  refine rz_iload dX0_from_35 rfl ?_
  refine rz_bipush dX0_from_37 (by decide) ?_
  refine rz_icmp_ge (t := 62) dX0_from_39 rfl (by omega) (by omega) (fun c39 => ?_) (fun c39 => ?_)
  · exfalso; omega
  · refine rz_aload_n dX0_from_42 rfl ?_
    refine rz_iload dX0_from_43 rfl ?_
    refine rz_gets0 dX0_from_45 kf_RX0_29 ?_
    refine rz_iload dX0_from_48 rfl ?_
    refine rz_tld0 (z := (-1)) dX0_from_50 (by decide) rfl ?_
    refine rz_iload_n dX0_from_51 rfl ?_
    refine rz_iload dX0_from_52 rfl ?_
    refine rz_iconst dX0_from_54 ?_
    refine rz_iadd dX0_from_55 ?_
    refine rz_cVI dX0_from_56 kl_RX0_46 hd_63 ⟨_, _, rfl⟩ (c_X0_run_4_11_m1 X _ I J x (d + 1) (by (try simp only [trM_R, stM_R, trR_R, stR_R, List.length_cons, List.length_nil]); omega) hk ha (by omega)) rfl rfl (Nat.le_of_ble_eq_true rfl) (Nat.le_of_ble_eq_true rfl) ?_
    refine rz_goto (t := 63) dX0_from_59 rfl ?_
    refine rz_iret dX0_from_63 rfl ?_
    exact ⟨_, rfl, rfl, rfl, rfl⟩
set_option maxRecDepth 20000 in
set_option maxHeartbeats 400000 in
theorem c_X0_own_4_2 (X : pX) (h : Nat) (I J : IM) (x d : Int) (hR : 0 ≤ I 63 1 ∧ I 63 1 ≤ 23) (hk : I 65 (I 63 4).toNat = 4) (ha : 0 ≤ I 63 4 ∧ I 63 4 < 50) (hd : 0 ≤ d ∧ d ≤ 39) : KI X (h + 2) mX0_own [.ref 63, zi 2, zi x, zi d] I J ((xorZ x (I 63 4))) (trM I [11]) J := by
  show Rz X (h + 2) mX0_own 0 [some (.ref 63), some (zi 2), some (zi x), some (zi d)] [] I J _
  refine rz_aload_n dX0_own_0 rfl ?_
  refine rz_aload_n dX0_own_1 rfl ?_
  refine rz_getR dX0_own_2 kf_RX0_13 hd_63 rfl rr_63_3 ?_
  refine rz_aload_n dX0_own_5 rfl ?_
  refine rz_getI (z := (I 63 4)) dX0_own_6 kf_RX0_32 hd_63 rfl rfl ?_
  refine rz_iald (z := 4) dX0_own_9 hd_65 (by decide) (by omega) hk ?_
  refine rz_iload_n dX0_own_10 rfl ?_
  refine rz_iload_n dX0_own_11 rfl ?_
  refine rz_iload_n dX0_own_12 rfl ?_
  refine rz_cVI dX0_own_13 kl_RX0_39 hd_63 ⟨_, _, rfl⟩ (c_X0_from_4_4_2 X _ I J x d (by (try simp only [trM_R, stM_R, trR_R, stR_R, List.length_cons, List.length_nil]); omega) hk ha (by omega)) rfl rfl (Nat.le_of_ble_eq_true rfl) (Nat.le_of_ble_eq_true rfl) ?_
  refine rz_iret dX0_own_16 rfl ?_
  exact ⟨_, rfl, rfl, rfl, rfl⟩
set_option maxRecDepth 20000 in
set_option maxHeartbeats 400000 in
theorem c_perform_4_2 (X : pX) (h : Nat) (I J : IM) (n x : Int) (hn : 0 ≤ n ∧ n < I 63 0) (hb : I 63 0 ≤ 50) (hk : I 65 n.toNat = 4) : KI X (h + 3) mX0_perform [.ref 63, zi n, zi 2, zi x] I J ((xorZ x n)) (trM (pfM I n) [11]) J := by
  show Rz X (h + 3) mX0_perform 0 [some (.ref 63), some (zi n), some (zi 2), some (zi x)] [] I J _
  refine rz_aload_n dX0_perform_0 rfl ?_
  refine rz_iconst dX0_perform_1 ?_
  refine rz_putI dX0_perform_2 kp_RX0_20 hd_63 rfl ?_
  refine rz_iload_n dX0_perform_5 rfl ?_
  refine rz_if_lt (t := 26) dX0_perform_6 rfl (by omega) (fun c6 => ?_) (fun c6 => ?_)
  · refine rz_iconst dX0_perform_26 ?_
    refine rz_iret dX0_perform_27 rfl ?_
    exfalso; omega
  · refine rz_iload_n dX0_perform_9 rfl ?_
    refine rz_aload_n dX0_perform_10 rfl ?_
    refine rz_getI (z := (I 63 0)) dX0_perform_11 kf_RX0_16 hd_63 rfl rfl ?_
    refine rz_icmp_ge (t := 26) dX0_perform_14 rfl (by omega) (by omega) (fun c14 => ?_) (fun c14 => ?_)
    · refine rz_iconst dX0_perform_26 ?_
      refine rz_iret dX0_perform_27 rfl ?_
      exfalso; omega
    · refine rz_iload_n dX0_perform_17 rfl ?_
      refine rz_if_lt (t := 26) dX0_perform_18 rfl (by omega) (fun q => absurd q (by decide)) (fun _ => ?_)
      refine rz_iload_n dX0_perform_21 rfl ?_
      refine rz_iconst dX0_perform_22 ?_
      refine rz_icmp_le (t := 28) dX0_perform_23 rfl (by omega) (by omega) (fun _ => ?_) (fun q => absurd q (by decide))
      refine rz_aload_n dX0_perform_28 rfl ?_
      refine rz_iload_n dX0_perform_29 rfl ?_
      refine rz_putI dX0_perform_30 kp_RX0_32 hd_63 rfl ?_
      refine rz_mem (I' := (pfM I n)) (J' := J) (rfl) (rfl) ?_
      refine rz_aload_n dX0_perform_33 rfl ?_
      refine rz_iload_n dX0_perform_34 rfl ?_
      refine rz_iload_n dX0_perform_35 rfl ?_
      refine rz_iconst dX0_perform_36 ?_
      refine rz_cVI dX0_perform_37 kl_RX0_35 hd_63 ⟨_, _, rfl⟩ (c_X0_own_4_2 X _ (pfM I n) J x 0 (by show (0 : Int) ≤ 0 ∧ (0 : Int) ≤ _; omega) hk (by show 0 ≤ n ∧ n < 50; omega) (by omega)) rfl rfl (Nat.le_of_ble_eq_true rfl) (Nat.le_of_ble_eq_true rfl) ?_
      refine rz_iret dX0_perform_40 rfl ?_
      exact ⟨_, rfl, rfl, rfl, rfl⟩
set_option maxRecDepth 20000 in
set_option maxHeartbeats 400000 in
theorem c_X0_run_4_2_m1 (X : pX) (h : Nat) (I J : IM) (x d : Int) (hR : 0 ≤ I 63 1 ∧ I 63 1 ≤ 19) (hk : I 65 (I 63 4).toNat = 4) (ha : 0 ≤ I 63 4 ∧ I 63 4 < 50) (hd : 0 ≤ d ∧ d ≤ 37) : KI X (h + 8) mX0_run [.ref 63, zi 2, zi (-1), zi x, zi d] I J (((((x + (I 63 4)) + 3) * 2) - (xorZ 1 (I 63 4)))) (trM I [2, 10, 20, 1, 11]) J := by
  show Rz X (h + 8) mX0_run 0 [some (.ref 63), some (zi 2), some (zi (-1)), some (zi x), some (zi d)] [] I J _
  refine rz_aload_n dX0_run_0 rfl ?_
  refine rz_getI (z := (I 63 1)) dX0_run_1 kf_RX0_20 hd_63 rfl rfl ?_
  refine rz_bipush dX0_run_4 (by decide) ?_
  refine rz_icmp_ge (t := 19) dX0_run_6 rfl (by omega) (by omega) (fun c6 => ?_) (fun c6 => ?_)
  · exfalso; omega
  · refine rz_aload_n dX0_run_9 rfl ?_
    refine rz_getR dX0_run_10 kf_RX0_9 hd_63 rfl rr_63_2 ?_
    refine rz_aload_n dX0_run_13 rfl ?_
    refine rz_getI (z := (I 63 1)) dX0_run_14 kf_RX0_20 hd_63 rfl rfl ?_
    refine rz_iload_n dX0_run_17 rfl ?_
    refine rz_iast dX0_run_18 hd_64 (by decide) (by omega) ?_
    refine rz_aload_n dX0_run_19 rfl ?_
    refine rz_dup dX0_run_20 rfl ?_
    refine rz_getI (z := (I 63 1)) dX0_run_21 kf_RX0_20 hd_63 rfl rfl ?_
    refine rz_iconst dX0_run_24 ?_
    refine rz_iadd dX0_run_25 ?_
    refine rz_putI dX0_run_26 kp_RX0_20 hd_63 rfl ?_
    refine rz_mem (I' := (stM I 2)) (J' := J) (rfl) (rfl) ?_
    refine rz_iload_n dX0_run_29 rfl ?_
    refine rz_lookup (t := 151) (off := 121) dX0_run_30 (by omega) (by decide) (by decide) rfl ?_
    refine rz_aload_n dX0_run_151 rfl ?_
    refine rz_iconst dX0_run_152 ?_
    refine rz_iload_n dX0_run_153 rfl ?_
    refine rz_iload dX0_run_154 rfl ?_
    refine rz_cVI dX0_run_156 kl_RX0_35 hd_63 ⟨_, _, rfl⟩ (c_X0_own_4_1 X _ (stM I 2) J x d (by (try simp only [trM_R, stM_R, trR_R, stR_R, List.length_cons, List.length_nil]); omega) hk ha (by omega)) rfl rfl (Nat.le_of_ble_eq_true rfl) (Nat.le_of_ble_eq_true rfl) ?_
    refine rz_aload_n dX0_run_159 rfl ?_
    refine rz_iconst dX0_run_160 ?_
    refine rz_iconst dX0_run_161 ?_
    refine rz_iload dX0_run_162 rfl ?_
    refine rz_cVI dX0_run_164 kl_RX0_35 hd_63 ⟨_, _, rfl⟩ (c_X0_own_4_2 X _ (trM (stM I 2) [10, 20, 1]) J 1 d (by (try simp only [trM_R, stM_R, trR_R, stR_R, List.length_cons, List.length_nil]); omega) hk ha (by omega)) rfl rfl (Nat.le_of_ble_eq_true rfl) (Nat.le_of_ble_eq_true rfl) ?_
    refine rz_isub dX0_run_167 ?_
    refine rz_iret dX0_run_168 rfl ?_
    exact ⟨_, rfl, rfl, rfl, rfl⟩
set_option maxRecDepth 20000 in
set_option maxHeartbeats 400000 in
theorem c_X0_from_4_1_3 (X : pX) (h : Nat) (I J : IM) (x d : Int) (hR : 0 ≤ I 63 1 ∧ I 63 1 ≤ 19) (hk : I 65 (I 63 4).toNat = 4) (ha : 0 ≤ I 63 4 ∧ I 63 4 < 50) (hd : 0 ≤ d ∧ d ≤ 36) : KI X (h + 9) mX0_from [.ref 63, zi 1, zi 3, zi x, zi d] I J (((((x + (I 63 4)) + 3) * 2) - (xorZ 1 (I 63 4)))) (trM I [2, 10, 20, 1, 11]) J := by
  show Rz X (h + 9) mX0_from 0 [some (.ref 63), some (zi 1), some (zi 3), some (zi x), some (zi d), none, none, none] [] I J _
  refine rz_iload_n dX0_from_0 rfl ?_
  refine rz_istore dX0_from_1 (by decide) rfl ?_
  refine rz_iconst dX0_from_3 ?_
  refine rz_istore dX0_from_4 (by decide) rfl ?_
  refine rz_iload dX0_from_6 rfl ?_
  refine rz_bipush dX0_from_8 (by decide) ?_
  refine rz_icmp_ge (t := 78) dX0_from_10 rfl (by omega) (by omega) (fun q => absurd q (by decide)) (fun _ => ?_)
  refine rz_iload dX0_from_13 rfl ?_
  refine rz_if_lt (t := 78) dX0_from_15 rfl (by omega) (fun q => absurd q (by decide)) (fun _ => ?_)
  refine rz_gets1 dX0_from_18 kf_RX0_43 ?_
  refine rz_iload dX0_from_21 rfl ?_
  refine rz_iconst dX0_from_23 ?_
  refine rz_imul dX0_from_24 ?_
  refine rz_iload_n dX0_from_25 rfl ?_
  refine rz_iadd dX0_from_26 ?_
  refine rz_tld1 (z := 0) dX0_from_27 (by decide) rfl ?_
  refine rz_istore (ls' := [some (.ref 63), some (zi 1), some (zi 3), some (zi x), some (zi d), some (zi 1), some (zi 0), some (zi 0)]) dX0_from_28 (by decide) rfl ?_
  refine rz_iload dX0_from_30 rfl ?_
  refine rz_if_eq (t := 64) dX0_from_32 rfl (by omega) (fun _ => ?_) (fun q => absurd q (by decide))
  refine rz_gets0 dX0_from_64 kf_RX0_29 ?_
  refine rz_iload dX0_from_67 rfl ?_
  refine rz_tld0 (z := 0) dX0_from_69 (by decide) rfl ?_
  refine rz_istore dX0_from_70 (by decide) rfl ?_
  refine rz_iinc (z := 1) dX0_from_72 (by decide) rfl rfl rfl ?_
  refine rz_goto (t := 6) dX0_from_75 rfl ?_
  refine rz_iload dX0_from_6 rfl ?_
  refine rz_bipush dX0_from_8 (by decide) ?_
  refine rz_icmp_ge (t := 78) dX0_from_10 rfl (by omega) (by omega) (fun q => absurd q (by decide)) (fun _ => ?_)
  refine rz_iload dX0_from_13 rfl ?_
  refine rz_if_lt (t := 78) dX0_from_15 rfl (by omega) (fun q => absurd q (by decide)) (fun _ => ?_)
  refine rz_gets1 dX0_from_18 kf_RX0_43 ?_
  refine rz_iload dX0_from_21 rfl ?_
  refine rz_iconst dX0_from_23 ?_
  refine rz_imul dX0_from_24 ?_
  refine rz_iload_n dX0_from_25 rfl ?_
  refine rz_iadd dX0_from_26 ?_
  refine rz_tld1 (z := 2) dX0_from_27 (by decide) rfl ?_
  refine rz_istore (ls' := [some (.ref 63), some (zi 1), some (zi 3), some (zi x), some (zi d), some (zi 0), some (zi 1), some (zi 2)]) dX0_from_28 (by decide) rfl ?_
  refine rz_iload dX0_from_30 rfl ?_
  refine rz_if_eq (t := 64) dX0_from_32 rfl (by omega) (fun q => absurd q (by decide)) (fun _ => ?_)
  refine rz_iload dX0_from_35 rfl ?_
  refine rz_bipush dX0_from_37 (by decide) ?_
  refine rz_icmp_ge (t := 62) dX0_from_39 rfl (by omega) (by omega) (fun c39 => ?_) (fun c39 => ?_)
  · exfalso; omega
  · refine rz_aload_n dX0_from_42 rfl ?_
    refine rz_iload dX0_from_43 rfl ?_
    refine rz_gets0 dX0_from_45 kf_RX0_29 ?_
    refine rz_iload dX0_from_48 rfl ?_
    refine rz_tld0 (z := (-1)) dX0_from_50 (by decide) rfl ?_
    refine rz_iload_n dX0_from_51 rfl ?_
    refine rz_iload dX0_from_52 rfl ?_
    refine rz_iconst dX0_from_54 ?_
    refine rz_iadd dX0_from_55 ?_
    refine rz_cVI dX0_from_56 kl_RX0_46 hd_63 ⟨_, _, rfl⟩ (c_X0_run_4_2_m1 X _ I J x (d + 1) (by (try simp only [trM_R, stM_R, trR_R, stR_R, List.length_cons, List.length_nil]); omega) hk ha (by omega)) rfl rfl (Nat.le_of_ble_eq_true rfl) (Nat.le_of_ble_eq_true rfl) ?_
    refine rz_goto (t := 63) dX0_from_59 rfl ?_
    refine rz_iret dX0_from_63 rfl ?_
    exact ⟨_, rfl, rfl, rfl, rfl⟩
set_option maxRecDepth 20000 in
set_option maxHeartbeats 400000 in
theorem c_X0_run_4_50_1 (X : pX) (h : Nat) (I J : IM) (x d : Int) (hR : 0 ≤ I 63 1 ∧ I 63 1 ≤ 18) (hk : I 65 (I 63 4).toNat = 4) (ha : 0 ≤ I 63 4 ∧ I 63 4 < 50) (hd : 0 ≤ d ∧ d ≤ 36) : KI X (h + 10) mX0_run [.ref 63, zi 50, zi 1, zi x, zi d] I J ((xorZ ((((x + (I 63 4)) + 3) * 2) - (xorZ 1 (I 63 4))) 5)) (trM I [50, 2, 10, 20, 1, 11]) J := by
  show Rz X (h + 10) mX0_run 0 [some (.ref 63), some (zi 50), some (zi 1), some (zi x), some (zi d)] [] I J _
  refine rz_aload_n dX0_run_0 rfl ?_
  refine rz_getI (z := (I 63 1)) dX0_run_1 kf_RX0_20 hd_63 rfl rfl ?_
  refine rz_bipush dX0_run_4 (by decide) ?_
  refine rz_icmp_ge (t := 19) dX0_run_6 rfl (by omega) (by omega) (fun c6 => ?_) (fun c6 => ?_)
  · exfalso; omega
  · refine rz_aload_n dX0_run_9 rfl ?_
    refine rz_getR dX0_run_10 kf_RX0_9 hd_63 rfl rr_63_2 ?_
    refine rz_aload_n dX0_run_13 rfl ?_
    refine rz_getI (z := (I 63 1)) dX0_run_14 kf_RX0_20 hd_63 rfl rfl ?_
    refine rz_iload_n dX0_run_17 rfl ?_
    refine rz_iast dX0_run_18 hd_64 (by decide) (by omega) ?_
    refine rz_aload_n dX0_run_19 rfl ?_
    refine rz_dup dX0_run_20 rfl ?_
    refine rz_getI (z := (I 63 1)) dX0_run_21 kf_RX0_20 hd_63 rfl rfl ?_
    refine rz_iconst dX0_run_24 ?_
    refine rz_iadd dX0_run_25 ?_
    refine rz_putI dX0_run_26 kp_RX0_20 hd_63 rfl ?_
    refine rz_mem (I' := (stM I 50)) (J' := J) (rfl) (rfl) ?_
    refine rz_iload_n dX0_run_29 rfl ?_
    refine rz_lookup (t := 234) (off := 204) dX0_run_30 (by omega) (by decide) (by decide) rfl ?_
    refine rz_aload_n dX0_run_234 rfl ?_
    refine rz_iload_n dX0_run_235 rfl ?_
    refine rz_iconst dX0_run_236 ?_
    refine rz_iload_n dX0_run_237 rfl ?_
    refine rz_iload dX0_run_238 rfl ?_
    refine rz_cVI dX0_run_240 kl_RX0_39 hd_63 ⟨_, _, rfl⟩ (c_X0_from_4_1_3 X _ (stM I 50) J x d (by (try simp only [trM_R, stM_R, trR_R, stR_R, List.length_cons, List.length_nil]); omega) hk ha (by omega)) rfl rfl (Nat.le_of_ble_eq_true rfl) (Nat.le_of_ble_eq_true rfl) ?_
    refine rz_iconst dX0_run_243 ?_
    refine rz_ixor dX0_run_244 ?_
    refine rz_iret dX0_run_245 rfl ?_
    exact ⟨_, rfl, rfl, rfl, rfl⟩
set_option maxRecDepth 20000 in
set_option maxHeartbeats 400000 in
theorem c_X0_from_4_4_3 (X : pX) (h : Nat) (I J : IM) (x d : Int) (hR : 0 ≤ I 63 1 ∧ I 63 1 ≤ 18) (hk : I 65 (I 63 4).toNat = 4) (ha : 0 ≤ I 63 4 ∧ I 63 4 < 50) (hd : 0 ≤ d ∧ d ≤ 35) : KI X (h + 11) mX0_from [.ref 63, zi 4, zi 3, zi x, zi d] I J ((xorZ ((((x + (I 63 4)) + 3) * 2) - (xorZ 1 (I 63 4))) 5)) (trM I [50, 2, 10, 20, 1, 11]) J := by
  show Rz X (h + 11) mX0_from 0 [some (.ref 63), some (zi 4), some (zi 3), some (zi x), some (zi d), none, none, none] [] I J _
  refine rz_iload_n dX0_from_0 rfl ?_
  refine rz_istore dX0_from_1 (by decide) rfl ?_
  refine rz_iconst dX0_from_3 ?_
  refine rz_istore dX0_from_4 (by decide) rfl ?_
  refine rz_iload dX0_from_6 rfl ?_
  refine rz_bipush dX0_from_8 (by decide) ?_
  refine rz_icmp_ge (t := 78) dX0_from_10 rfl (by omega) (by omega) (fun q => absurd q (by decide)) (fun _ => ?_)
  refine rz_iload dX0_from_13 rfl ?_
  refine rz_if_lt (t := 78) dX0_from_15 rfl (by omega) (fun q => absurd q (by decide)) (fun _ => ?_)
  refine rz_gets1 dX0_from_18 kf_RX0_43 ?_
  refine rz_iload dX0_from_21 rfl ?_
  refine rz_iconst dX0_from_23 ?_
  refine rz_imul dX0_from_24 ?_
  refine rz_iload_n dX0_from_25 rfl ?_
  refine rz_iadd dX0_from_26 ?_
  refine rz_tld1 (z := 50) dX0_from_27 (by decide) rfl ?_
  refine rz_istore (ls' := [some (.ref 63), some (zi 4), some (zi 3), some (zi x), some (zi d), some (zi 4), some (zi 0), some (zi 50)]) dX0_from_28 (by decide) rfl ?_
  refine rz_iload dX0_from_30 rfl ?_
  refine rz_if_eq (t := 64) dX0_from_32 rfl (by omega) (fun q => absurd q (by decide)) (fun _ => ?_)
  refine rz_iload dX0_from_35 rfl ?_
  refine rz_bipush dX0_from_37 (by decide) ?_
  refine rz_icmp_ge (t := 62) dX0_from_39 rfl (by omega) (by omega) (fun c39 => ?_) (fun c39 => ?_)
  · exfalso; omega
  · refine rz_aload_n dX0_from_42 rfl ?_
    refine rz_iload dX0_from_43 rfl ?_
    refine rz_gets0 dX0_from_45 kf_RX0_29 ?_
    refine rz_iload dX0_from_48 rfl ?_
    refine rz_tld0 (z := 1) dX0_from_50 (by decide) rfl ?_
    refine rz_iload_n dX0_from_51 rfl ?_
    refine rz_iload dX0_from_52 rfl ?_
    refine rz_iconst dX0_from_54 ?_
    refine rz_iadd dX0_from_55 ?_
    refine rz_cVI dX0_from_56 kl_RX0_46 hd_63 ⟨_, _, rfl⟩ (c_X0_run_4_50_1 X _ I J x (d + 1) (by (try simp only [trM_R, stM_R, trR_R, stR_R, List.length_cons, List.length_nil]); omega) hk ha (by omega)) rfl rfl (Nat.le_of_ble_eq_true rfl) (Nat.le_of_ble_eq_true rfl) ?_
    refine rz_goto (t := 63) dX0_from_59 rfl ?_
    refine rz_iret dX0_from_63 rfl ?_
    exact ⟨_, rfl, rfl, rfl, rfl⟩
set_option maxRecDepth 20000 in
set_option maxHeartbeats 400000 in
theorem c_X0_own_4_3 (X : pX) (h : Nat) (I J : IM) (x d : Int) (hR : 0 ≤ I 63 1 ∧ I 63 1 ≤ 18) (hk : I 65 (I 63 4).toNat = 4) (ha : 0 ≤ I 63 4 ∧ I 63 4 < 50) (hd : 0 ≤ d ∧ d ≤ 35) : KI X (h + 12) mX0_own [.ref 63, zi 3, zi x, zi d] I J ((xorZ ((((x + (I 63 4)) + 3) * 2) - (xorZ 1 (I 63 4))) 5)) (trM I [50, 2, 10, 20, 1, 11]) J := by
  show Rz X (h + 12) mX0_own 0 [some (.ref 63), some (zi 3), some (zi x), some (zi d)] [] I J _
  refine rz_aload_n dX0_own_0 rfl ?_
  refine rz_aload_n dX0_own_1 rfl ?_
  refine rz_getR dX0_own_2 kf_RX0_13 hd_63 rfl rr_63_3 ?_
  refine rz_aload_n dX0_own_5 rfl ?_
  refine rz_getI (z := (I 63 4)) dX0_own_6 kf_RX0_32 hd_63 rfl rfl ?_
  refine rz_iald (z := 4) dX0_own_9 hd_65 (by decide) (by omega) hk ?_
  refine rz_iload_n dX0_own_10 rfl ?_
  refine rz_iload_n dX0_own_11 rfl ?_
  refine rz_iload_n dX0_own_12 rfl ?_
  refine rz_cVI dX0_own_13 kl_RX0_39 hd_63 ⟨_, _, rfl⟩ (c_X0_from_4_4_3 X _ I J x d (by (try simp only [trM_R, stM_R, trR_R, stR_R, List.length_cons, List.length_nil]); omega) hk ha (by omega)) rfl rfl (Nat.le_of_ble_eq_true rfl) (Nat.le_of_ble_eq_true rfl) ?_
  refine rz_iret dX0_own_16 rfl ?_
  exact ⟨_, rfl, rfl, rfl, rfl⟩
set_option maxRecDepth 20000 in
set_option maxHeartbeats 400000 in
theorem c_perform_4_3 (X : pX) (h : Nat) (I J : IM) (n x : Int) (hn : 0 ≤ n ∧ n < I 63 0) (hb : I 63 0 ≤ 50) (hk : I 65 n.toNat = 4) : KI X (h + 13) mX0_perform [.ref 63, zi n, zi 3, zi x] I J ((xorZ ((((x + n) + 3) * 2) - (xorZ 1 n)) 5)) (trM (pfM I n) [50, 2, 10, 20, 1, 11]) J := by
  show Rz X (h + 13) mX0_perform 0 [some (.ref 63), some (zi n), some (zi 3), some (zi x)] [] I J _
  refine rz_aload_n dX0_perform_0 rfl ?_
  refine rz_iconst dX0_perform_1 ?_
  refine rz_putI dX0_perform_2 kp_RX0_20 hd_63 rfl ?_
  refine rz_iload_n dX0_perform_5 rfl ?_
  refine rz_if_lt (t := 26) dX0_perform_6 rfl (by omega) (fun c6 => ?_) (fun c6 => ?_)
  · refine rz_iconst dX0_perform_26 ?_
    refine rz_iret dX0_perform_27 rfl ?_
    exfalso; omega
  · refine rz_iload_n dX0_perform_9 rfl ?_
    refine rz_aload_n dX0_perform_10 rfl ?_
    refine rz_getI (z := (I 63 0)) dX0_perform_11 kf_RX0_16 hd_63 rfl rfl ?_
    refine rz_icmp_ge (t := 26) dX0_perform_14 rfl (by omega) (by omega) (fun c14 => ?_) (fun c14 => ?_)
    · refine rz_iconst dX0_perform_26 ?_
      refine rz_iret dX0_perform_27 rfl ?_
      exfalso; omega
    · refine rz_iload_n dX0_perform_17 rfl ?_
      refine rz_if_lt (t := 26) dX0_perform_18 rfl (by omega) (fun q => absurd q (by decide)) (fun _ => ?_)
      refine rz_iload_n dX0_perform_21 rfl ?_
      refine rz_iconst dX0_perform_22 ?_
      refine rz_icmp_le (t := 28) dX0_perform_23 rfl (by omega) (by omega) (fun _ => ?_) (fun q => absurd q (by decide))
      refine rz_aload_n dX0_perform_28 rfl ?_
      refine rz_iload_n dX0_perform_29 rfl ?_
      refine rz_putI dX0_perform_30 kp_RX0_32 hd_63 rfl ?_
      refine rz_mem (I' := (pfM I n)) (J' := J) (rfl) (rfl) ?_
      refine rz_aload_n dX0_perform_33 rfl ?_
      refine rz_iload_n dX0_perform_34 rfl ?_
      refine rz_iload_n dX0_perform_35 rfl ?_
      refine rz_iconst dX0_perform_36 ?_
      refine rz_cVI dX0_perform_37 kl_RX0_35 hd_63 ⟨_, _, rfl⟩ (c_X0_own_4_3 X _ (pfM I n) J x 0 (by show (0 : Int) ≤ 0 ∧ (0 : Int) ≤ _; omega) hk (by show 0 ≤ n ∧ n < 50; omega) (by omega)) rfl rfl (Nat.le_of_ble_eq_true rfl) (Nat.le_of_ble_eq_true rfl) ?_
      refine rz_iret dX0_perform_40 rfl ?_
      exact ⟨_, rfl, rfl, rfl, rfl⟩
set_option maxRecDepth 20000 in
set_option maxHeartbeats 400000 in
theorem c_X0_run_5_1_m1 (X : pX) (h : Nat) (I J : IM) (x d : Int) (hR : 0 ≤ I 63 1 ∧ I 63 1 ≤ 23) (hk : I 65 (I 63 4).toNat = 5) (ha : 0 ≤ I 63 4 ∧ I 63 4 < 50) (hd : 0 ≤ d ∧ d ≤ 100) : KI X h mX0_run [.ref 63, zi 1, zi (-1), zi x, zi d] I J ((x + (I 63 4))) (trM I [1]) J := by
  show Rz X h mX0_run 0 [some (.ref 63), some (zi 1), some (zi (-1)), some (zi x), some (zi d)] [] I J _
  refine rz_aload_n dX0_run_0 rfl ?_
  refine rz_getI (z := (I 63 1)) dX0_run_1 kf_RX0_20 hd_63 rfl rfl ?_
  refine rz_bipush dX0_run_4 (by decide) ?_
  refine rz_icmp_ge (t := 19) dX0_run_6 rfl (by omega) (by omega) (fun c6 => ?_) (fun c6 => ?_)
  · exfalso; omega
  · refine rz_aload_n dX0_run_9 rfl ?_
    refine rz_getR dX0_run_10 kf_RX0_9 hd_63 rfl rr_63_2 ?_
    refine rz_aload_n dX0_run_13 rfl ?_
    refine rz_getI (z := (I 63 1)) dX0_run_14 kf_RX0_20 hd_63 rfl rfl ?_
    refine rz_iload_n dX0_run_17 rfl ?_
    refine rz_iast dX0_run_18 hd_64 (by decide) (by omega) ?_
    refine rz_aload_n dX0_run_19 rfl ?_
    refine rz_dup dX0_run_20 rfl ?_
    refine rz_getI (z := (I 63 1)) dX0_run_21 kf_RX0_20 hd_63 rfl rfl ?_
    refine rz_iconst dX0_run_24 ?_
    refine rz_iadd dX0_run_25 ?_
    refine rz_putI dX0_run_26 kp_RX0_20 hd_63 rfl ?_
    refine rz_mem (I' := (stM I 1)) (J' := J) (rfl) (rfl) ?_
    refine rz_iload_n dX0_run_29 rfl ?_
    refine rz_lookup (t := 144) (off := 114) dX0_run_30 (by omega) (by decide) (by decide) rfl ?_
    refine rz_iload_n dX0_run_144 rfl ?_
    refine rz_aload_n dX0_run_145 rfl ?_
    refine rz_getI (z := (I 63 4)) dX0_run_146 kf_RX0_32 hd_63 rfl rfl ?_
    refine rz_iadd dX0_run_149 ?_
    refine rz_iret dX0_run_150 rfl ?_
    exact ⟨_, rfl, rfl, rfl, rfl⟩
set_option maxRecDepth 20000 in
set_option maxHeartbeats 400000 in
theorem c_X0_from_5_0_0 (X : pX) (h : Nat) (I J : IM) (x d : Int) (hR : 0 ≤ I 63 1 ∧ I 63 1 ≤ 23) (hk : I 65 (I 63 4).toNat = 5) (ha : 0 ≤ I 63 4 ∧ I 63 4 < 50) (hd : 0 ≤ d ∧ d ≤ 39) : KI X (h + 1) mX0_from [.ref 63, zi 0, zi 0, zi x, zi d] I J ((x + (I 63 4))) (trM I [1]) J := by
  show Rz X (h + 1) mX0_from 0 [some (.ref 63), some (zi 0), some (zi 0), some (zi x), some (zi d), none, none, none] [] I J _
  refine rz_iload_n dX0_from_0 rfl ?_
  refine rz_istore dX0_from_1 (by decide) rfl ?_
  refine rz_iconst dX0_from_3 ?_
  refine rz_istore dX0_from_4 (by decide) rfl ?_
  refine rz_iload dX0_from_6 rfl ?_
  refine rz_bipush dX0_from_8 (by decide) ?_
  refine rz_icmp_ge (t := 78) dX0_from_10 rfl (by omega) (by omega) (fun q => absurd q (by decide)) (fun _ => ?_)
  refine rz_iload dX0_from_13 rfl ?_
  refine rz_if_lt (t := 78) dX0_from_15 rfl (by omega) (fun q => absurd q (by decide)) (fun _ => ?_)
  refine rz_gets1 dX0_from_18 kf_RX0_43 ?_
  refine rz_iload dX0_from_21 rfl ?_
  refine rz_iconst dX0_from_23 ?_
  refine rz_imul dX0_from_24 ?_
  refine rz_iload_n dX0_from_25 rfl ?_
  refine rz_iadd dX0_from_26 ?_
  refine rz_tld1 (z := 1) dX0_from_27 (by decide) rfl ?_
  refine rz_istore (ls' := [some (.ref 63), some (zi 0), some (zi 0), some (zi x), some (zi d), some (zi 0), some (zi 0), some (zi 1)]) dX0_from_28 (by decide) rfl ?_
  refine rz_iload dX0_from_30 rfl ?_
  refine rz_if_eq (t := 64) dX0_from_32 rfl (by omega) (fun q => absurd q (by decide)) (fun _ => ?_)
  refine rz_iload dX0_from_35 rfl ?_
  refine rz_bipush dX0_from_37 (by decide) ?_
  refine rz_icmp_ge (t := 62) dX0_from_39 rfl (by omega) (by omega) (fun c39 => ?_) (fun c39 => ?_)
  · exfalso; omega
  · refine rz_aload_n dX0_from_42 rfl ?_
    refine rz_iload dX0_from_43 rfl ?_
    refine rz_gets0 dX0_from_45 kf_RX0_29 ?_
    refine rz_iload dX0_from_48 rfl ?_
    refine rz_tld0 (z := (-1)) dX0_from_50 (by decide) rfl ?_
    refine rz_iload_n dX0_from_51 rfl ?_
    refine rz_iload dX0_from_52 rfl ?_
    refine rz_iconst dX0_from_54 ?_
    refine rz_iadd dX0_from_55 ?_
    refine rz_cVI dX0_from_56 kl_RX0_46 hd_63 ⟨_, _, rfl⟩ (c_X0_run_5_1_m1 X _ I J x (d + 1) (by (try simp only [trM_R, stM_R, trR_R, stR_R, List.length_cons, List.length_nil]); omega) hk ha (by omega)) rfl rfl (Nat.le_of_ble_eq_true rfl) (Nat.le_of_ble_eq_true rfl) ?_
    refine rz_goto (t := 63) dX0_from_59 rfl ?_
    refine rz_iret dX0_from_63 rfl ?_
    exact ⟨_, rfl, rfl, rfl, rfl⟩
set_option maxRecDepth 20000 in
set_option maxHeartbeats 400000 in
theorem c_X0_run_5_20_0 (X : pX) (h : Nat) (I J : IM) (x d : Int) (hR : 0 ≤ I 63 1 ∧ I 63 1 ≤ 22) (hk : I 65 (I 63 4).toNat = 5) (ha : 0 ≤ I 63 4 ∧ I 63 4 < 50) (hd : 0 ≤ d ∧ d ≤ 39) : KI X (h + 2) mX0_run [.ref 63, zi 20, zi 0, zi x, zi d] I J (((x + (I 63 4)) + 3)) (trM I [20, 1]) J := by
  show Rz X (h + 2) mX0_run 0 [some (.ref 63), some (zi 20), some (zi 0), some (zi x), some (zi d)] [] I J _
  refine rz_aload_n dX0_run_0 rfl ?_
  refine rz_getI (z := (I 63 1)) dX0_run_1 kf_RX0_20 hd_63 rfl rfl ?_
  refine rz_bipush dX0_run_4 (by decide) ?_
  refine rz_icmp_ge (t := 19) dX0_run_6 rfl (by omega) (by omega) (fun c6 => ?_) (fun c6 => ?_)
  · exfalso; omega
  · refine rz_aload_n dX0_run_9 rfl ?_
    refine rz_getR dX0_run_10 kf_RX0_9 hd_63 rfl rr_63_2 ?_
    refine rz_aload_n dX0_run_13 rfl ?_
    refine rz_getI (z := (I 63 1)) dX0_run_14 kf_RX0_20 hd_63 rfl rfl ?_
    refine rz_iload_n dX0_run_17 rfl ?_
    refine rz_iast dX0_run_18 hd_64 (by decide) (by omega) ?_
    refine rz_aload_n dX0_run_19 rfl ?_
    refine rz_dup dX0_run_20 rfl ?_
    refine rz_getI (z := (I 63 1)) dX0_run_21 kf_RX0_20 hd_63 rfl rfl ?_
    refine rz_iconst dX0_run_24 ?_
    refine rz_iadd dX0_run_25 ?_
    refine rz_putI dX0_run_26 kp_RX0_20 hd_63 rfl ?_
    refine rz_mem (I' := (stM I 20)) (J' := J) (rfl) (rfl) ?_
    refine rz_iload_n dX0_run_29 rfl ?_
    refine rz_lookup (t := 187) (off := 157) dX0_run_30 (by omega) (by decide) (by decide) rfl ?_
    refine rz_aload_n dX0_run_187 rfl ?_
    refine rz_iload_n dX0_run_188 rfl ?_
    refine rz_iconst dX0_run_189 ?_
    refine rz_iload_n dX0_run_190 rfl ?_
    refine rz_iload dX0_run_191 rfl ?_
    refine rz_cVI dX0_run_193 kl_RX0_39 hd_63 ⟨_, _, rfl⟩ (c_X0_from_5_0_0 X _ (stM I 20) J x d (by (try simp only [trM_R, stM_R, trR_R, stR_R, List.length_cons, List.length_nil]); omega) hk ha (by omega)) rfl rfl (Nat.le_of_ble_eq_true rfl) (Nat.le_of_ble_eq_true rfl) ?_
    refine rz_iconst dX0_run_196 ?_
    refine rz_iadd dX0_run_197 ?_
    refine rz_iret dX0_run_198 rfl ?_
    exact ⟨_, rfl, rfl, rfl, rfl⟩
set_option maxRecDepth 20000 in
set_option maxHeartbeats 400000 in
theorem c_X0_from_5_5_0 (X : pX) (h : Nat) (I J : IM) (x d : Int) (hR : 0 ≤ I 63 1 ∧ I 63 1 ≤ 22) (hk : I 65 (I 63 4).toNat = 5) (ha : 0 ≤ I 63 4 ∧ I 63 4 < 50) (hd : 0 ≤ d ∧ d ≤ 38) : KI X (h + 3) mX0_from [.ref 63, zi 5, zi 0, zi x, zi d] I J (((x + (I 63 4)) + 3)) (trM I [20, 1]) J := by
  show Rz X (h + 3) mX0_from 0 [some (.ref 63), some (zi 5), some (zi 0), some (zi x), some (zi d), none, none, none] [] I J _
  refine rz_iload_n dX0_from_0 rfl ?_
  refine rz_istore dX0_from_1 (by decide) rfl ?_
  refine rz_iconst dX0_from_3 ?_
  refine rz_istore dX0_from_4 (by decide) rfl ?_
  refine rz_iload dX0_from_6 rfl ?_
  refine rz_bipush dX0_from_8 (by decide) ?_
  refine rz_icmp_ge (t := 78) dX0_from_10 rfl (by omega) (by omega) (fun q => absurd q (by decide)) (fun _ => ?_)
  refine rz_iload dX0_from_13 rfl ?_
  refine rz_if_lt (t := 78) dX0_from_15 rfl (by omega) (fun q => absurd q (by decide)) (fun _ => ?_)
  refine rz_gets1 dX0_from_18 kf_RX0_43 ?_
  refine rz_iload dX0_from_21 rfl ?_
  refine rz_iconst dX0_from_23 ?_
  refine rz_imul dX0_from_24 ?_
  refine rz_iload_n dX0_from_25 rfl ?_
  refine rz_iadd dX0_from_26 ?_
  refine rz_tld1 (z := 0) dX0_from_27 (by decide) rfl ?_
  refine rz_istore (ls' := [some (.ref 63), some (zi 5), some (zi 0), some (zi x), some (zi d), some (zi 5), some (zi 0), some (zi 0)]) dX0_from_28 (by decide) rfl ?_
  refine rz_iload dX0_from_30 rfl ?_
  refine rz_if_eq (t := 64) dX0_from_32 rfl (by omega) (fun _ => ?_) (fun q => absurd q (by decide))
  refine rz_gets0 dX0_from_64 kf_RX0_29 ?_
  refine rz_iload dX0_from_67 rfl ?_
  refine rz_tld0 (z := 4) dX0_from_69 (by decide) rfl ?_
  refine rz_istore dX0_from_70 (by decide) rfl ?_
  refine rz_iinc (z := 1) dX0_from_72 (by decide) rfl rfl rfl ?_
  refine rz_goto (t := 6) dX0_from_75 rfl ?_
  refine rz_iload dX0_from_6 rfl ?_
  refine rz_bipush dX0_from_8 (by decide) ?_
  refine rz_icmp_ge (t := 78) dX0_from_10 rfl (by omega) (by omega) (fun q => absurd q (by decide)) (fun _ => ?_)
  refine rz_iload dX0_from_13 rfl ?_
  refine rz_if_lt (t := 78) dX0_from_15 rfl (by omega) (fun q => absurd q (by decide)) (fun _ => ?_)
  refine rz_gets1 dX0_from_18 kf_RX0_43 ?_
  refine rz_iload dX0_from_21 rfl ?_
  refine rz_iconst dX0_from_23 ?_
  refine rz_imul dX0_from_24 ?_
  refine rz_iload_n dX0_from_25 rfl ?_
  refine rz_iadd dX0_from_26 ?_
  refine rz_tld1 (z := 0) dX0_from_27 (by decide) rfl ?_
  refine rz_istore (ls' := [some (.ref 63), some (zi 5), some (zi 0), some (zi x), some (zi d), some (zi 4), some (zi 1), some (zi 0)]) dX0_from_28 (by decide) rfl ?_
  refine rz_iload dX0_from_30 rfl ?_
  refine rz_if_eq (t := 64) dX0_from_32 rfl (by omega) (fun _ => ?_) (fun q => absurd q (by decide))
  refine rz_gets0 dX0_from_64 kf_RX0_29 ?_
  refine rz_iload dX0_from_67 rfl ?_
  refine rz_tld0 (z := 1) dX0_from_69 (by decide) rfl ?_
  refine rz_istore dX0_from_70 (by decide) rfl ?_
  refine rz_iinc (z := 2) dX0_from_72 (by decide) rfl rfl rfl ?_
  refine rz_goto (t := 6) dX0_from_75 rfl ?_
  refine rz_iload dX0_from_6 rfl ?_
  refine rz_bipush dX0_from_8 (by decide) ?_
  refine rz_icmp_ge (t := 78) dX0_from_10 rfl (by omega) (by omega) (fun q => absurd q (by decide)) (fun _ => ?_)
  refine rz_iload dX0_from_13 rfl ?_
  refine rz_if_lt (t := 78) dX0_from_15 rfl (by omega) (fun q => absurd q (by decide)) (fun _ => ?_)
  refine rz_gets1 dX0_from_18 kf_RX0_43 ?_
  refine rz_iload dX0_from_21 rfl ?_
  refine rz_iconst dX0_from_23 ?_
  refine rz_imul dX0_from_24 ?_
  refine rz_iload_n dX0_from_25 rfl ?_
  refine rz_iadd dX0_from_26 ?_
  refine rz_tld1 (z := 20) dX0_from_27 (by decide) rfl ?_
  refine rz_istore (ls' := [some (.ref 63), some (zi 5), some (zi 0), some (zi x), some (zi d), some (zi 1), some (zi 2), some (zi 20)]) dX0_from_28 (by decide) rfl ?_
  refine rz_iload dX0_from_30 rfl ?_
  refine rz_if_eq (t := 64) dX0_from_32 rfl (by omega) (fun q => absurd q (by decide)) (fun _ => ?_)
  refine rz_iload dX0_from_35 rfl ?_
  refine rz_bipush dX0_from_37 (by decide) ?_
  refine rz_icmp_ge (t := 62) dX0_from_39 rfl (by omega) (by omega) (fun c39 => ?_) (fun c39 => ?_)
  · exfalso; omega
  · refine rz_aload_n dX0_from_42 rfl ?_
    refine rz_iload dX0_from_43 rfl ?_
    refine rz_gets0 dX0_from_45 kf_RX0_29 ?_
    refine rz_iload dX0_from_48 rfl ?_
    refine rz_tld0 (z := 0) dX0_from_50 (by decide) rfl ?_
    refine rz_iload_n dX0_from_51 rfl ?_
    refine rz_iload dX0_from_52 rfl ?_
    refine rz_iconst dX0_from_54 ?_
    refine rz_iadd dX0_from_55 ?_
    refine rz_cVI dX0_from_56 kl_RX0_46 hd_63 ⟨_, _, rfl⟩ (c_X0_run_5_20_0 X _ I J x (d + 1) (by (try simp only [trM_R, stM_R, trR_R, stR_R, List.length_cons, List.length_nil]); omega) hk ha (by omega)) rfl rfl (Nat.le_of_ble_eq_true rfl) (Nat.le_of_ble_eq_true rfl) ?_
    refine rz_goto (t := 63) dX0_from_59 rfl ?_
    refine rz_iret dX0_from_63 rfl ?_
    exact ⟨_, rfl, rfl, rfl, rfl⟩
set_option maxRecDepth 20000 in
set_option maxHeartbeats 400000 in
theorem c_X0_own_5_0 (X : pX) (h : Nat) (I J : IM) (x d : Int) (hR : 0 ≤ I 63 1 ∧ I 63 1 ≤ 22) (hk : I 65 (I 63 4).toNat = 5) (ha : 0 ≤ I 63 4 ∧ I 63 4 < 50) (hd : 0 ≤ d ∧ d ≤ 38) : KI X (h + 4) mX0_own [.ref 63, zi 0, zi x, zi d] I J (((x + (I 63 4)) + 3)) (trM I [20, 1]) J := by
  show Rz X (h + 4) mX0_own 0 [some (.ref 63), some (zi 0), some (zi x), some (zi d)] [] I J _
  refine rz_aload_n dX0_own_0 rfl ?_
  refine rz_aload_n dX0_own_1 rfl ?_
  refine rz_getR dX0_own_2 kf_RX0_13 hd_63 rfl rr_63_3 ?_
  refine rz_aload_n dX0_own_5 rfl ?_
  refine rz_getI (z := (I 63 4)) dX0_own_6 kf_RX0_32 hd_63 rfl rfl ?_
  refine rz_iald (z := 5) dX0_own_9 hd_65 (by decide) (by omega) hk ?_
  refine rz_iload_n dX0_own_10 rfl ?_
  refine rz_iload_n dX0_own_11 rfl ?_
  refine rz_iload_n dX0_own_12 rfl ?_
  refine rz_cVI dX0_own_13 kl_RX0_39 hd_63 ⟨_, _, rfl⟩ (c_X0_from_5_5_0 X _ I J x d (by (try simp only [trM_R, stM_R, trR_R, stR_R, List.length_cons, List.length_nil]); omega) hk ha (by omega)) rfl rfl (Nat.le_of_ble_eq_true rfl) (Nat.le_of_ble_eq_true rfl) ?_
  refine rz_iret dX0_own_16 rfl ?_
  exact ⟨_, rfl, rfl, rfl, rfl⟩
set_option maxRecDepth 20000 in
set_option maxHeartbeats 400000 in
theorem c_perform_5_0 (X : pX) (h : Nat) (I J : IM) (n x : Int) (hn : 0 ≤ n ∧ n < I 63 0) (hb : I 63 0 ≤ 50) (hk : I 65 n.toNat = 5) : KI X (h + 5) mX0_perform [.ref 63, zi n, zi 0, zi x] I J (((x + n) + 3)) (trM (pfM I n) [20, 1]) J := by
  show Rz X (h + 5) mX0_perform 0 [some (.ref 63), some (zi n), some (zi 0), some (zi x)] [] I J _
  refine rz_aload_n dX0_perform_0 rfl ?_
  refine rz_iconst dX0_perform_1 ?_
  refine rz_putI dX0_perform_2 kp_RX0_20 hd_63 rfl ?_
  refine rz_iload_n dX0_perform_5 rfl ?_
  refine rz_if_lt (t := 26) dX0_perform_6 rfl (by omega) (fun c6 => ?_) (fun c6 => ?_)
  · refine rz_iconst dX0_perform_26 ?_
    refine rz_iret dX0_perform_27 rfl ?_
    exfalso; omega
  · refine rz_iload_n dX0_perform_9 rfl ?_
    refine rz_aload_n dX0_perform_10 rfl ?_
    refine rz_getI (z := (I 63 0)) dX0_perform_11 kf_RX0_16 hd_63 rfl rfl ?_
    refine rz_icmp_ge (t := 26) dX0_perform_14 rfl (by omega) (by omega) (fun c14 => ?_) (fun c14 => ?_)
    · refine rz_iconst dX0_perform_26 ?_
      refine rz_iret dX0_perform_27 rfl ?_
      exfalso; omega
    · refine rz_iload_n dX0_perform_17 rfl ?_
      refine rz_if_lt (t := 26) dX0_perform_18 rfl (by omega) (fun q => absurd q (by decide)) (fun _ => ?_)
      refine rz_iload_n dX0_perform_21 rfl ?_
      refine rz_iconst dX0_perform_22 ?_
      refine rz_icmp_le (t := 28) dX0_perform_23 rfl (by omega) (by omega) (fun _ => ?_) (fun q => absurd q (by decide))
      refine rz_aload_n dX0_perform_28 rfl ?_
      refine rz_iload_n dX0_perform_29 rfl ?_
      refine rz_putI dX0_perform_30 kp_RX0_32 hd_63 rfl ?_
      refine rz_mem (I' := (pfM I n)) (J' := J) (rfl) (rfl) ?_
      refine rz_aload_n dX0_perform_33 rfl ?_
      refine rz_iload_n dX0_perform_34 rfl ?_
      refine rz_iload_n dX0_perform_35 rfl ?_
      refine rz_iconst dX0_perform_36 ?_
      refine rz_cVI dX0_perform_37 kl_RX0_35 hd_63 ⟨_, _, rfl⟩ (c_X0_own_5_0 X _ (pfM I n) J x 0 (by show (0 : Int) ≤ 0 ∧ (0 : Int) ≤ _; omega) hk (by show 0 ≤ n ∧ n < 50; omega) (by omega)) rfl rfl (Nat.le_of_ble_eq_true rfl) (Nat.le_of_ble_eq_true rfl) ?_
      refine rz_iret dX0_perform_40 rfl ?_
      exact ⟨_, rfl, rfl, rfl, rfl⟩
set_option maxRecDepth 20000 in
set_option maxHeartbeats 400000 in
theorem c_X0_run_5_10_m1 (X : pX) (h : Nat) (I J : IM) (x d : Int) (hR : 0 ≤ I 63 1 ∧ I 63 1 ≤ 21) (hk : I 65 (I 63 4).toNat = 5) (ha : 0 ≤ I 63 4 ∧ I 63 4 < 50) (hd : 0 ≤ d ∧ d ≤ 38) : KI X (h + 5) mX0_run [.ref 63, zi 10, zi (-1), zi x, zi d] I J ((((x + (I 63 4)) + 3) * 2)) (trM I [10, 20, 1]) J := by
  show Rz X (h + 5) mX0_run 0 [some (.ref 63), some (zi 10), some (zi (-1)), some (zi x), some (zi d)] [] I J _
  refine rz_aload_n dX0_run_0 rfl ?_
  refine rz_getI (z := (I 63 1)) dX0_run_1 kf_RX0_20 hd_63 rfl rfl ?_
  refine rz_bipush dX0_run_4 (by decide) ?_
  refine rz_icmp_ge (t := 19) dX0_run_6 rfl (by omega) (by omega) (fun c6 => ?_) (fun c6 => ?_)
  · exfalso; omega
  · refine rz_aload_n dX0_run_9 rfl ?_
    refine rz_getR dX0_run_10 kf_RX0_9 hd_63 rfl rr_63_2 ?_
    refine rz_aload_n dX0_run_13 rfl ?_
    refine rz_getI (z := (I 63 1)) dX0_run_14 kf_RX0_20 hd_63 rfl rfl ?_
    refine rz_iload_n dX0_run_17 rfl ?_
    refine rz_iast dX0_run_18 hd_64 (by decide) (by omega) ?_
    refine rz_aload_n dX0_run_19 rfl ?_
    refine rz_dup dX0_run_20 rfl ?_
    refine rz_getI (z := (I 63 1)) dX0_run_21 kf_RX0_20 hd_63 rfl rfl ?_
    refine rz_iconst dX0_run_24 ?_
    refine rz_iadd dX0_run_25 ?_
    refine rz_putI dX0_run_26 kp_RX0_20 hd_63 rfl ?_
    refine rz_mem (I' := (stM I 10)) (J' := J) (rfl) (rfl) ?_
    refine rz_iload_n dX0_run_29 rfl ?_
    refine rz_lookup (t := 169) (off := 139) dX0_run_30 (by omega) (by decide) (by decide) rfl ?_
    refine rz_aload_n dX0_run_169 rfl ?_
    refine rz_iconst dX0_run_170 ?_
    refine rz_iload_n dX0_run_171 rfl ?_
    refine rz_iload dX0_run_172 rfl ?_
    refine rz_cVI dX0_run_174 kl_RX0_35 hd_63 ⟨_, _, rfl⟩ (c_X0_own_5_0 X _ (stM I 10) J x d (by (try simp only [trM_R, stM_R, trR_R, stR_R, List.length_cons, List.length_nil]); omega) hk ha (by omega)) rfl rfl (Nat.le_of_ble_eq_true rfl) (Nat.le_of_ble_eq_true rfl) ?_
    refine rz_iconst dX0_run_177 ?_
    refine rz_imul dX0_run_178 ?_
    refine rz_iret dX0_run_179 rfl ?_
    exact ⟨_, rfl, rfl, rfl, rfl⟩
set_option maxRecDepth 20000 in
set_option maxHeartbeats 400000 in
theorem c_X0_from_5_5_1 (X : pX) (h : Nat) (I J : IM) (x d : Int) (hR : 0 ≤ I 63 1 ∧ I 63 1 ≤ 21) (hk : I 65 (I 63 4).toNat = 5) (ha : 0 ≤ I 63 4 ∧ I 63 4 < 50) (hd : 0 ≤ d ∧ d ≤ 37) : KI X (h + 6) mX0_from [.ref 63, zi 5, zi 1, zi x, zi d] I J ((((x + (I 63 4)) + 3) * 2)) (trM I [10, 20, 1]) J := by
  show Rz X (h + 6) mX0_from 0 [some (.ref 63), some (zi 5), some (zi 1), some (zi x), some (zi d), none, none, none] [] I J _
  refine rz_iload_n dX0_from_0 rfl ?_
  refine rz_istore dX0_from_1 (by decide) rfl ?_
  refine rz_iconst dX0_from_3 ?_
  refine rz_istore dX0_from_4 (by decide) rfl ?_
  refine rz_iload dX0_from_6 rfl ?_
  refine rz_bipush dX0_from_8 (by decide) ?_
  refine rz_icmp_ge (t := 78) dX0_from_10 rfl (by omega) (by omega) (fun q => absurd q (by decide)) (fun _ => ?_)
  refine rz_iload dX0_from_13 rfl ?_
  refine rz_if_lt (t := 78) dX0_from_15 rfl (by omega) (fun q => absurd q (by decide)) (fun _ => ?_)
  refine rz_gets1 dX0_from_18 kf_RX0_43 ?_
  refine rz_iload dX0_from_21 rfl ?_
  refine rz_iconst dX0_from_23 ?_
  refine rz_imul dX0_from_24 ?_
  refine rz_iload_n dX0_from_25 rfl ?_
  refine rz_iadd dX0_from_26 ?_
  refine rz_tld1 (z := 0) dX0_from_27 (by decide) rfl ?_
  refine rz_istore (ls' := [some (.ref 63), some (zi 5), some (zi 1), some (zi x), some (zi d), some (zi 5), some (zi 0), some (zi 0)]) dX0_from_28 (by decide) rfl ?_
  refine rz_iload dX0_from_30 rfl ?_
  refine rz_if_eq (t := 64) dX0_from_32 rfl (by omega) (fun _ => ?_) (fun q => absurd q (by decide))
  refine rz_gets0 dX0_from_64 kf_RX0_29 ?_
  refine rz_iload dX0_from_67 rfl ?_
  refine rz_tld0 (z := 4) dX0_from_69 (by decide) rfl ?_
  refine rz_istore dX0_from_70 (by decide) rfl ?_
  refine rz_iinc (z := 1) dX0_from_72 (by decide) rfl rfl rfl ?_
  refine rz_goto (t := 6) dX0_from_75 rfl ?_
  refine rz_iload dX0_from_6 rfl ?_
  refine rz_bipush dX0_from_8 (by decide) ?_
  refine rz_icmp_ge (t := 78) dX0_from_10 rfl (by omega) (by omega) (fun q => absurd q (by decide)) (fun _ => ?_)
  refine rz_iload dX0_from_13 rfl ?_
  refine rz_if_lt (t := 78) dX0_from_15 rfl (by omega) (fun q => absurd q (by decide)) (fun _ => ?_)
  refine rz_gets1 dX0_from_18 kf_RX0_43 ?_
  refine rz_iload dX0_from_21 rfl ?_
  refine rz_iconst dX0_from_23 ?_
  refine rz_imul dX0_from_24 ?_
  refine rz_iload_n dX0_from_25 rfl ?_
  refine rz_iadd dX0_from_26 ?_
  refine rz_tld1 (z := 0) dX0_from_27 (by decide) rfl ?_
  refine rz_istore (ls' := [some (.ref 63), some (zi 5), some (zi 1), some (zi x), some (zi d), some (zi 4), some (zi 1), some (zi 0)]) dX0_from_28 (by decide) rfl ?_
  refine rz_iload dX0_from_30 rfl ?_
  refine rz_if_eq (t := 64) dX0_from_32 rfl (by omega) (fun _ => ?_) (fun q => absurd q (by decide))
  refine rz_gets0 dX0_from_64 kf_RX0_29 ?_
  refine rz_iload dX0_from_67 rfl ?_
  refine rz_tld0 (z := 1) dX0_from_69 (by decide) rfl ?_
  refine rz_istore dX0_from_70 (by decide) rfl ?_
  refine rz_iinc (z := 2) dX0_from_72 (by decide) rfl rfl rfl ?_
  refine rz_goto (t := 6) dX0_from_75 rfl ?_
  refine rz_iload dX0_from_6 rfl ?_
  refine rz_bipush dX0_from_8 (by decide) ?_
  refine rz_icmp_ge (t := 78) dX0_from_10 rfl (by omega) (by omega) (fun q => absurd q (by decide)) (fun _ => ?_)
  refine rz_iload dX0_from_13 rfl ?_
  refine rz_if_lt (t := 78) dX0_from_15 rfl (by omega) (fun q => absurd q (by decide)) (fun _ => ?_)
  refine rz_gets1 dX0_from_18 kf_RX0_43 ?_
  refine rz_iload dX0_from_21 rfl ?_
  refine rz_iconst dX0_from_23 ?_
  refine rz_imul dX0_from_24 ?_
  refine rz_iload_n dX0_from_25 rfl ?_
  refine rz_iadd dX0_from_26 ?_
  refine rz_tld1 (z := 0) dX0_from_27 (by decide) rfl ?_
  refine rz_istore (ls' := [some (.ref 63), some (zi 5), some (zi 1), some (zi x), some (zi d), some (zi 1), some (zi 2), some (zi 0)]) dX0_from_28 (by decide) rfl ?_
  refine rz_iload dX0_from_30 rfl ?_
  refine rz_if_eq (t := 64) dX0_from_32 rfl (by omega) (fun _ => ?_) (fun q => absurd q (by decide))
  refine rz_gets0 dX0_from_64 kf_RX0_29 ?_
  refine rz_iload dX0_from_67 rfl ?_
  refine rz_tld0 (z := 0) dX0_from_69 (by decide) rfl ?_
  refine rz_istore dX0_from_70 (by decide) rfl ?_
  refine rz_iinc (z := 3) dX0_from_72 (by decide) rfl rfl rfl ?_
  refine rz_goto (t := 6) dX0_from_75 rfl ?_
  refine rz_iload dX0_from_6 rfl ?_
  refine rz_bipush dX0_from_8 (by decide) ?_
  refine rz_icmp_ge (t := 78) dX0_from_10 rfl (by omega) (by omega) (fun q => absurd q (by decide)) (fun _ => ?_)
  refine rz_iload dX0_from_13 rfl ?_
  refine rz_if_lt (t := 78) dX0_from_15 rfl (by omega) (fun q => absurd q (by decide)) (fun _ => ?_)
  refine rz_gets1 dX0_from_18 kf_RX0_43 ?_
  refine rz_iload dX0_from_21 rfl ?_
  refine rz_iconst dX0_from_23 ?_
  refine rz_imul dX0_from_24 ?_
  refine rz_iload_n dX0_from_25 rfl ?_
  refine rz_iadd dX0_from_26 ?_
  refine rz_tld1 (z := 10) dX0_from_27 (by decide) rfl ?_
  refine rz_istore (ls' := [some (.ref 63), some (zi 5), some (zi 1), some (zi x), some (zi d), some (zi 0), some (zi 3), some (zi 10)]) dX0_from_28 (by decide) rfl ?_
  refine rz_iload dX0_from_30 rfl ?_
  refine rz_if_eq (t := 64) dX0_from_32 rfl (by omega) (fun q => absurd q (by decide)) (fun _ => ?_)
  refine rz_iload dX0_from_35 rfl ?_
  refine rz_bipush dX0_from_37 (by decide) ?_
  refine rz_icmp_ge (t := 62) dX0_from_39 rfl (by omega) (by omega) (fun c39 => ?_) (fun c39 => ?_)
  · exfalso; omega
  · refine rz_aload_n dX0_from_42 rfl ?_
    refine rz_iload dX0_from_43 rfl ?_
    refine rz_gets0 dX0_from_45 kf_RX0_29 ?_
    refine rz_iload dX0_from_48 rfl ?_
    refine rz_tld0 (z := (-1)) dX0_from_50 (by decide) rfl ?_
    refine rz_iload_n dX0_from_51 rfl ?_
    refine rz_iload dX0_from_52 rfl ?_
    refine rz_iconst dX0_from_54 ?_
    refine rz_iadd dX0_from_55 ?_
    refine rz_cVI dX0_from_56 kl_RX0_46 hd_63 ⟨_, _, rfl⟩ (c_X0_run_5_10_m1 X _ I J x (d + 1) (by (try simp only [trM_R, stM_R, trR_R, stR_R, List.length_cons, List.length_nil]); omega) hk ha (by omega)) rfl rfl (Nat.le_of_ble_eq_true rfl) (Nat.le_of_ble_eq_true rfl) ?_
    refine rz_goto (t := 63) dX0_from_59 rfl ?_
    refine rz_iret dX0_from_63 rfl ?_
    exact ⟨_, rfl, rfl, rfl, rfl⟩
set_option maxRecDepth 20000 in
set_option maxHeartbeats 400000 in
theorem c_X0_own_5_1 (X : pX) (h : Nat) (I J : IM) (x d : Int) (hR : 0 ≤ I 63 1 ∧ I 63 1 ≤ 21) (hk : I 65 (I 63 4).toNat = 5) (ha : 0 ≤ I 63 4 ∧ I 63 4 < 50) (hd : 0 ≤ d ∧ d ≤ 37) : KI X (h + 7) mX0_own [.ref 63, zi 1, zi x, zi d] I J ((((x + (I 63 4)) + 3) * 2)) (trM I [10, 20, 1]) J := by
  show Rz X (h + 7) mX0_own 0 [some (.ref 63), some (zi 1), some (zi x), some (zi d)] [] I J _
  refine rz_aload_n dX0_own_0 rfl ?_
  refine rz_aload_n dX0_own_1 rfl ?_
  refine rz_getR dX0_own_2 kf_RX0_13 hd_63 rfl rr_63_3 ?_
  refine rz_aload_n dX0_own_5 rfl ?_
  refine rz_getI (z := (I 63 4)) dX0_own_6 kf_RX0_32 hd_63 rfl rfl ?_
  refine rz_iald (z := 5) dX0_own_9 hd_65 (by decide) (by omega) hk ?_
  refine rz_iload_n dX0_own_10 rfl ?_
  refine rz_iload_n dX0_own_11 rfl ?_
  refine rz_iload_n dX0_own_12 rfl ?_
  refine rz_cVI dX0_own_13 kl_RX0_39 hd_63 ⟨_, _, rfl⟩ (c_X0_from_5_5_1 X _ I J x d (by (try simp only [trM_R, stM_R, trR_R, stR_R, List.length_cons, List.length_nil]); omega) hk ha (by omega)) rfl rfl (Nat.le_of_ble_eq_true rfl) (Nat.le_of_ble_eq_true rfl) ?_
  refine rz_iret dX0_own_16 rfl ?_
  exact ⟨_, rfl, rfl, rfl, rfl⟩
set_option maxRecDepth 20000 in
set_option maxHeartbeats 400000 in
theorem c_perform_5_1 (X : pX) (h : Nat) (I J : IM) (n x : Int) (hn : 0 ≤ n ∧ n < I 63 0) (hb : I 63 0 ≤ 50) (hk : I 65 n.toNat = 5) : KI X (h + 8) mX0_perform [.ref 63, zi n, zi 1, zi x] I J ((((x + n) + 3) * 2)) (trM (pfM I n) [10, 20, 1]) J := by
  show Rz X (h + 8) mX0_perform 0 [some (.ref 63), some (zi n), some (zi 1), some (zi x)] [] I J _
  refine rz_aload_n dX0_perform_0 rfl ?_
  refine rz_iconst dX0_perform_1 ?_
  refine rz_putI dX0_perform_2 kp_RX0_20 hd_63 rfl ?_
  refine rz_iload_n dX0_perform_5 rfl ?_
  refine rz_if_lt (t := 26) dX0_perform_6 rfl (by omega) (fun c6 => ?_) (fun c6 => ?_)
  · refine rz_iconst dX0_perform_26 ?_
    refine rz_iret dX0_perform_27 rfl ?_
    exfalso; omega
  · refine rz_iload_n dX0_perform_9 rfl ?_
    refine rz_aload_n dX0_perform_10 rfl ?_
    refine rz_getI (z := (I 63 0)) dX0_perform_11 kf_RX0_16 hd_63 rfl rfl ?_
    refine rz_icmp_ge (t := 26) dX0_perform_14 rfl (by omega) (by omega) (fun c14 => ?_) (fun c14 => ?_)
    · refine rz_iconst dX0_perform_26 ?_
      refine rz_iret dX0_perform_27 rfl ?_
      exfalso; omega
    · refine rz_iload_n dX0_perform_17 rfl ?_
      refine rz_if_lt (t := 26) dX0_perform_18 rfl (by omega) (fun q => absurd q (by decide)) (fun _ => ?_)
      refine rz_iload_n dX0_perform_21 rfl ?_
      refine rz_iconst dX0_perform_22 ?_
      refine rz_icmp_le (t := 28) dX0_perform_23 rfl (by omega) (by omega) (fun _ => ?_) (fun q => absurd q (by decide))
      refine rz_aload_n dX0_perform_28 rfl ?_
      refine rz_iload_n dX0_perform_29 rfl ?_
      refine rz_putI dX0_perform_30 kp_RX0_32 hd_63 rfl ?_
      refine rz_mem (I' := (pfM I n)) (J' := J) (rfl) (rfl) ?_
      refine rz_aload_n dX0_perform_33 rfl ?_
      refine rz_iload_n dX0_perform_34 rfl ?_
      refine rz_iload_n dX0_perform_35 rfl ?_
      refine rz_iconst dX0_perform_36 ?_
      refine rz_cVI dX0_perform_37 kl_RX0_35 hd_63 ⟨_, _, rfl⟩ (c_X0_own_5_1 X _ (pfM I n) J x 0 (by show (0 : Int) ≤ 0 ∧ (0 : Int) ≤ _; omega) hk (by show 0 ≤ n ∧ n < 50; omega) (by omega)) rfl rfl (Nat.le_of_ble_eq_true rfl) (Nat.le_of_ble_eq_true rfl) ?_
      refine rz_iret dX0_perform_40 rfl ?_
      exact ⟨_, rfl, rfl, rfl, rfl⟩
set_option maxRecDepth 20000 in
set_option maxHeartbeats 400000 in
theorem c_X0_run_5_11_m1 (X : pX) (h : Nat) (I J : IM) (x d : Int) (hR : 0 ≤ I 63 1 ∧ I 63 1 ≤ 23) (hk : I 65 (I 63 4).toNat = 5) (ha : 0 ≤ I 63 4 ∧ I 63 4 < 50) (hd : 0 ≤ d ∧ d ≤ 100) : KI X h mX0_run [.ref 63, zi 11, zi (-1), zi x, zi d] I J ((xorZ x (I 63 4))) (trM I [11]) J := by
  show Rz X h mX0_run 0 [some (.ref 63), some (zi 11), some (zi (-1)), some (zi x), some (zi d)] [] I J _
  refine rz_aload_n dX0_run_0 rfl ?_
  refine rz_getI (z := (I 63 1)) dX0_run_1 kf_RX0_20 hd_63 rfl rfl ?_
  refine rz_bipush dX0_run_4 (by decide) ?_
  refine rz_icmp_ge (t := 19) dX0_run_6 rfl (by omega) (by omega) (fun c6 => ?_) (fun c6 => ?_)
  · exfalso; omega
  · refine rz_aload_n dX0_run_9 rfl ?_
    refine rz_getR dX0_run_10 kf_RX0_9 hd_63 rfl rr_63_2 ?_
    refine rz_aload_n dX0_run_13 rfl ?_
    refine rz_getI (z := (I 63 1)) dX0_run_14 kf_RX0_20 hd_63 rfl rfl ?_
    refine rz_iload_n dX0_run_17 rfl ?_
    refine rz_iast dX0_run_18 hd_64 (by decide) (by omega) ?_
    refine rz_aload_n dX0_run_19 rfl ?_
    refine rz_dup dX0_run_20 rfl ?_
    refine rz_getI (z := (I 63 1)) dX0_run_21 kf_RX0_20 hd_63 rfl rfl ?_
    refine rz_iconst dX0_run_24 ?_
    refine rz_iadd dX0_run_25 ?_
    refine rz_putI dX0_run_26 kp_RX0_20 hd_63 rfl ?_
    refine rz_mem (I' := (stM I 11)) (J' := J) (rfl) (rfl) ?_
    refine rz_iload_n dX0_run_29 rfl ?_
    refine rz_lookup (t := 180) (off := 150) dX0_run_30 (by omega) (by decide) (by decide) rfl ?_
    refine rz_iload_n dX0_run_180 rfl ?_
    refine rz_aload_n dX0_run_181 rfl ?_
    refine rz_getI (z := (I 63 4)) dX0_run_182 kf_RX0_32 hd_63 rfl rfl ?_
    refine rz_ixor dX0_run_185 ?_
    refine rz_iret dX0_run_186 rfl ?_
    exact ⟨_, rfl, rfl, rfl, rfl⟩
set_option maxRecDepth 20000 in
set_option maxHeartbeats 400000 in
theorem c_X0_from_5_4_2 (X : pX) (h : Nat) (I J : IM) (x d : Int) (hR : 0 ≤ I 63 1 ∧ I 63 1 ≤ 23) (hk : I 65 (I 63 4).toNat = 5) (ha : 0 ≤ I 63 4 ∧ I 63 4 < 50) (hd : 0 ≤ d ∧ d ≤ 39) : KI X (h + 1) mX0_from [.ref 63, zi 4, zi 2, zi x, zi d] I J ((xorZ x (I 63 4))) (trM I [11]) J := by
  show Rz X (h + 1) mX0_from 0 [some (.ref 63), some (zi 4), some (zi 2), some (zi x), some (zi d), none, none, none] [] I J _
  refine rz_iload_n dX0_from_0 rfl ?_
  refine rz_istore dX0_from_1 (by decide) rfl ?_
  refine rz_iconst dX0_from_3 ?_
  refine rz_istore dX0_from_4 (by decide) rfl ?_
  refine rz_iload dX0_from_6 rfl ?_
  refine rz_bipush dX0_from_8 (by decide) ?_
  refine rz_icmp_ge (t := 78) dX0_from_10 rfl (by omega) (by omega) (fun q => absurd q (by decide)) (fun _ => ?_)
  refine rz_iload dX0_from_13 rfl ?_
  refine rz_if_lt (t := 78) dX0_from_15 rfl (by omega) (fun q => absurd q (by decide)) (fun _ => ?_)
  refine rz_gets1 dX0_from_18 kf_RX0_43 ?_
  refine rz_iload dX0_from_21 rfl ?_
  refine rz_iconst dX0_from_23 ?_
  refine rz_imul dX0_from_24 ?_
  refine rz_iload_n dX0_from_25 rfl ?_
  refine rz_iadd dX0_from_26 ?_
  refine rz_tld1 (z := 0) dX0_from_27 (by decide) rfl ?_
  refine rz_istore (ls' := [some (.ref 63), some (zi 4), some (zi 2), some (zi x), some (zi d), some (zi 4), some (zi 0), some (zi 0)]) dX0_from_28 (by decide) rfl ?_
  refine rz_iload dX0_from_30 rfl ?_
  refine rz_if_eq (t := 64) dX0_from_32 rfl (by omega) (fun _ => ?_) (fun q => absurd q (by decide))
  refine rz_gets0 dX0_from_64 kf_RX0_29 ?_
  refine rz_iload dX0_from_67 rfl ?_
  refine rz_tld0 (z := 1) dX0_from_69 (by decide) rfl ?_
  refine rz_istore dX0_from_70 (by decide) rfl ?_
  refine rz_iinc (z := 1) dX0_from_72 (by decide) rfl rfl rfl ?_
  refine rz_goto (t := 6) dX0_from_75 rfl ?_
  refine rz_iload dX0_from_6 rfl ?_
  refine rz_bipush dX0_from_8 (by decide) ?_
  refine rz_icmp_ge (t := 78) dX0_from_10 rfl (by omega) (by omega) (fun q => absurd q (by decide)) (fun _ => ?_)
  refine rz_iload dX0_from_13 rfl ?_
  refine rz_if_lt (t := 78) dX0_from_15 rfl (by omega) (fun q => absurd q (by decide)) (fun _ => ?_)
  refine rz_gets1 dX0_from_18 kf_RX0_43 ?_
  refine rz_iload dX0_from_21 rfl ?_
  refine rz_iconst dX0_from_23 ?_
  refine rz_imul dX0_from_24 ?_
  refine rz_iload_n dX0_from_25 rfl ?_
  refine rz_iadd dX0_from_26 ?_
  refine rz_tld1 (z := 0) dX0_from_27 (by decide) rfl ?_
  refine rz_istore (ls' := [some (.ref 63), some (zi 4), some (zi 2), some (zi x), some (zi d), some (zi 1), some (zi 1), some (zi 0)]) dX0_from_28 (by decide) rfl ?_
  refine rz_iload dX0_from_30 rfl ?_
  refine rz_if_eq (t := 64) dX0_from_32 rfl (by omega) (fun _ => ?_) (fun q => absurd q (by decide))
  refine rz_gets0 dX0_from_64 kf_RX0_29 ?_
  refine rz_iload dX0_from_67 rfl ?_
  refine rz_tld0 (z := 0) dX0_from_69 (by decide) rfl ?_
  refine rz_istore dX0_from_70 (by decide) rfl ?_
  refine rz_iinc (z := 2) dX0_from_72 (by decide) rfl rfl rfl ?_
  refine rz_goto (t := 6) dX0_from_75 rfl ?_
  refine rz_iload dX0_from_6 rfl ?_
  refine rz_bipush dX0_from_8 (by decide) ?_
  refine rz_icmp_ge (t := 78) dX0_from_10 rfl (by omega) (by omega) (fun q => absurd q (by decide)) (fun _ => ?_)
  refine rz_iload dX0_from_13 rfl ?_
  refine rz_if_lt (t := 78) dX0_from_15 rfl (by omega) (fun q => absurd q (by decide)) (fun _ => ?_)
  refine rz_gets1 dX0_from_18 kf_RX0_43 ?_
  refine rz_iload dX0_from_21 rfl ?_
  refine rz_iconst dX0_from_23 ?_
  refine rz_imul dX0_from_24 ?_
  refine rz_iload_n dX0_from_25 rfl ?_
  refine rz_iadd dX0_from_26 ?_
  refine rz_tld1 (z := 11) dX0_from_27 (by decide) rfl ?_
  refine rz_istore (ls' := [some (.ref 63), some (zi 4), some (zi 2), some (zi x), some (zi d), some (zi 0), some (zi 2), some (zi 11)]) dX0_from_28 (by decide) rfl ?_
  refine rz_iload dX0_from_30 rfl ?_
  refine rz_if_eq (t := 64) dX0_from_32 rfl (by omega) (fun q => absurd q (by decide)) (fun _ => ?_)
  refine rz_iload dX0_from_35 rfl ?_
  refine rz_bipush dX0_from_37 (by decide) ?_
  refine rz_icmp_ge (t := 62) dX0_from_39 rfl (by omega) (by omega) (fun c39 => ?_) (fun c39 => ?_)
  · exfalso; omega
  · refine rz_aload_n dX0_from_42 rfl ?_
    refine rz_iload dX0_from_43 rfl ?_
    refine rz_gets0 dX0_from_45 kf_RX0_29 ?_
    refine rz_iload dX0_from_48 rfl ?_
    refine rz_tld0 (z := (-1)) dX0_from_50 (by decide) rfl ?_
    refine rz_iload_n dX0_from_51 rfl ?_
    refine rz_iload dX0_from_52 rfl ?_
    refine rz_iconst dX0_from_54 ?_
    refine rz_iadd dX0_from_55 ?_
    refine rz_cVI dX0_from_56 kl_RX0_46 hd_63 ⟨_, _, rfl⟩ (c_X0_run_5_11_m1 X _ I J x (d + 1) (by (try simp only [trM_R, stM_R, trR_R, stR_R, List.length_cons, List.length_nil]); omega) hk ha (by omega)) rfl rfl (Nat.le_of_ble_eq_true rfl) (Nat.le_of_ble_eq_true rfl) ?_
    refine rz_goto (t := 63) dX0_from_59 rfl ?_
    refine rz_iret dX0_from_63 rfl ?_
    exact ⟨_, rfl, rfl, rfl, rfl⟩
set_option maxRecDepth 20000 in
set_option maxHeartbeats 400000 in
theorem c_X0_run_5_60_4 (X : pX) (h : Nat) (I J : IM) (x d : Int) (hR : 0 ≤ I 63 1 ∧ I 63 1 ≤ 20) (hk : I 65 (I 63 4).toNat = 5) (ha : 0 ≤ I 63 4 ∧ I 63 4 < 50) (hd : 0 ≤ d ∧ d ≤ 38) : KI X (h + 5) mX0_run [.ref 63, zi 60, zi 4, zi x, zi d] I J (((xorZ x (I 63 4)) - ((2 + (I 63 4)) + 3))) (trM I [60, 11, 20, 1]) J := by
  show Rz X (h + 5) mX0_run 0 [some (.ref 63), some (zi 60), some (zi 4), some (zi x), some (zi d)] [] I J _
  refine rz_aload_n dX0_run_0 rfl ?_
  refine rz_getI (z := (I 63 1)) dX0_run_1 kf_RX0_20 hd_63 rfl rfl ?_
  refine rz_bipush dX0_run_4 (by decide) ?_
  refine rz_icmp_ge (t := 19) dX0_run_6 rfl (by omega) (by omega) (fun c6 => ?_) (fun c6 => ?_)
  · exfalso; omega
  · refine rz_aload_n dX0_run_9 rfl ?_
    refine rz_getR dX0_run_10 kf_RX0_9 hd_63 rfl rr_63_2 ?_
    refine rz_aload_n dX0_run_13 rfl ?_
    refine rz_getI (z := (I 63 1)) dX0_run_14 kf_RX0_20 hd_63 rfl rfl ?_
    refine rz_iload_n dX0_run_17 rfl ?_
    refine rz_iast dX0_run_18 hd_64 (by decide) (by omega) ?_
    refine rz_aload_n dX0_run_19 rfl ?_
    refine rz_dup dX0_run_20 rfl ?_
    refine rz_getI (z := (I 63 1)) dX0_run_21 kf_RX0_20 hd_63 rfl rfl ?_
    refine rz_iconst dX0_run_24 ?_
    refine rz_iadd dX0_run_25 ?_
    refine rz_putI dX0_run_26 kp_RX0_20 hd_63 rfl ?_
    refine rz_mem (I' := (stM I 60)) (J' := J) (rfl) (rfl) ?_
    refine rz_iload_n dX0_run_29 rfl ?_
    refine rz_lookup (t := 246) (off := 216) dX0_run_30 (by omega) (by decide) (by decide) rfl ?_
    refine rz_aload_n dX0_run_246 rfl ?_
    refine rz_iload_n dX0_run_247 rfl ?_
    refine rz_iconst dX0_run_248 ?_
    refine rz_iload_n dX0_run_249 rfl ?_
    refine rz_iload dX0_run_250 rfl ?_
    refine rz_cVI dX0_run_252 kl_RX0_39 hd_63 ⟨_, _, rfl⟩ (c_X0_from_5_4_2 X _ (stM I 60) J x d (by (try simp only [trM_R, stM_R, trR_R, stR_R, List.length_cons, List.length_nil]); omega) hk ha (by omega)) rfl rfl (Nat.le_of_ble_eq_true rfl) (Nat.le_of_ble_eq_true rfl) ?_
    refine rz_aload_n dX0_run_255 rfl ?_
    refine rz_iconst dX0_run_256 ?_
    refine rz_iconst dX0_run_257 ?_
    refine rz_iload dX0_run_258 rfl ?_
    refine rz_cVI dX0_run_260 kl_RX0_35 hd_63 ⟨_, _, rfl⟩ (c_X0_own_5_0 X _ (trM (stM I 60) [11]) J 2 d (by (try simp only [trM_R, stM_R, trR_R, stR_R, List.length_cons, List.length_nil]); omega) hk ha (by omega)) rfl rfl (Nat.le_of_ble_eq_true rfl) (Nat.le_of_ble_eq_true rfl) ?_
    refine rz_isub dX0_run_263 ?_
    refine rz_iret dX0_run_264 rfl ?_
    exact ⟨_, rfl, rfl, rfl, rfl⟩
set_option maxRecDepth 20000 in
set_option maxHeartbeats 400000 in
theorem c_X0_from_5_5_2 (X : pX) (h : Nat) (I J : IM) (x d : Int) (hR : 0 ≤ I 63 1 ∧ I 63 1 ≤ 20) (hk : I 65 (I 63 4).toNat = 5) (ha : 0 ≤ I 63 4 ∧ I 63 4 < 50) (hd : 0 ≤ d ∧ d ≤ 37) : KI X (h + 6) mX0_from [.ref 63, zi 5, zi 2, zi x, zi d] I J (((xorZ x (I 63 4)) - ((2 + (I 63 4)) + 3))) (trM I [60, 11, 20, 1]) J := by
  show Rz X (h + 6) mX0_from 0 [some (.ref 63), some (zi 5), some (zi 2), some (zi x), some (zi d), none, none, none] [] I J _
  refine rz_iload_n dX0_from_0 rfl ?_
  refine rz_istore dX0_from_1 (by decide) rfl ?_
  refine rz_iconst dX0_from_3 ?_
  refine rz_istore dX0_from_4 (by decide) rfl ?_
  refine rz_iload dX0_from_6 rfl ?_
  refine rz_bipush dX0_from_8 (by decide) ?_
  refine rz_icmp_ge (t := 78) dX0_from_10 rfl (by omega) (by omega) (fun q => absurd q (by decide)) (fun _ => ?_)
  refine rz_iload dX0_from_13 rfl ?_
  refine rz_if_lt (t := 78) dX0_from_15 rfl (by omega) (fun q => absurd q (by decide)) (fun _ => ?_)
  refine rz_gets1 dX0_from_18 kf_RX0_43 ?_
  refine rz_iload dX0_from_21 rfl ?_
  refine rz_iconst dX0_from_23 ?_
  refine rz_imul dX0_from_24 ?_
  refine rz_iload_n dX0_from_25 rfl ?_
  refine rz_iadd dX0_from_26 ?_
  refine rz_tld1 (z := 60) dX0_from_27 (by decide) rfl ?_
  refine rz_istore (ls' := [some (.ref 63), some (zi 5), some (zi 2), some (zi x), some (zi d), some (zi 5), some (zi 0), some (zi 60)]) dX0_from_28 (by decide) rfl ?_
  refine rz_iload dX0_from_30 rfl ?_
  refine rz_if_eq (t := 64) dX0_from_32 rfl (by omega) (fun q => absurd q (by decide)) (fun _ => ?_)
  refine rz_iload dX0_from_35 rfl ?_
  refine rz_bipush dX0_from_37 (by decide) ?_
  refine rz_icmp_ge (t := 62) dX0_from_39 rfl (by omega) (by omega) (fun c39 => ?_) (fun c39 => ?_)
  · exfalso; omega
  · refine rz_aload_n dX0_from_42 rfl ?_
    refine rz_iload dX0_from_43 rfl ?_
    refine rz_gets0 dX0_from_45 kf_RX0_29 ?_
    refine rz_iload dX0_from_48 rfl ?_
    refine rz_tld0 (z := 4) dX0_from_50 (by decide) rfl ?_
    refine rz_iload_n dX0_from_51 rfl ?_
    refine rz_iload dX0_from_52 rfl ?_
    refine rz_iconst dX0_from_54 ?_
    refine rz_iadd dX0_from_55 ?_
    refine rz_cVI dX0_from_56 kl_RX0_46 hd_63 ⟨_, _, rfl⟩ (c_X0_run_5_60_4 X _ I J x (d + 1) (by (try simp only [trM_R, stM_R, trR_R, stR_R, List.length_cons, List.length_nil]); omega) hk ha (by omega)) rfl rfl (Nat.le_of_ble_eq_true rfl) (Nat.le_of_ble_eq_true rfl) ?_
    refine rz_goto (t := 63) dX0_from_59 rfl ?_
    refine rz_iret dX0_from_63 rfl ?_
    exact ⟨_, rfl, rfl, rfl, rfl⟩
set_option maxRecDepth 20000 in
set_option maxHeartbeats 400000 in
theorem c_X0_own_5_2 (X : pX) (h : Nat) (I J : IM) (x d : Int) (hR : 0 ≤ I 63 1 ∧ I 63 1 ≤ 20) (hk : I 65 (I 63 4).toNat = 5) (ha : 0 ≤ I 63 4 ∧ I 63 4 < 50) (hd : 0 ≤ d ∧ d ≤ 37) : KI X (h + 7) mX0_own [.ref 63, zi 2, zi x, zi d] I J (((xorZ x (I 63 4)) - ((2 + (I 63 4)) + 3))) (trM I [60, 11, 20, 1]) J := by
  show Rz X (h + 7) mX0_own 0 [some (.ref 63), some (zi 2), some (zi x), some (zi d)] [] I J _
  refine rz_aload_n dX0_own_0 rfl ?_
  refine rz_aload_n dX0_own_1 rfl ?_
  refine rz_getR dX0_own_2 kf_RX0_13 hd_63 rfl rr_63_3 ?_
  refine rz_aload_n dX0_own_5 rfl ?_
  refine rz_getI (z := (I 63 4)) dX0_own_6 kf_RX0_32 hd_63 rfl rfl ?_
  refine rz_iald (z := 5) dX0_own_9 hd_65 (by decide) (by omega) hk ?_
  refine rz_iload_n dX0_own_10 rfl ?_
  refine rz_iload_n dX0_own_11 rfl ?_
  refine rz_iload_n dX0_own_12 rfl ?_
  refine rz_cVI dX0_own_13 kl_RX0_39 hd_63 ⟨_, _, rfl⟩ (c_X0_from_5_5_2 X _ I J x d (by (try simp only [trM_R, stM_R, trR_R, stR_R, List.length_cons, List.length_nil]); omega) hk ha (by omega)) rfl rfl (Nat.le_of_ble_eq_true rfl) (Nat.le_of_ble_eq_true rfl) ?_
  refine rz_iret dX0_own_16 rfl ?_
  exact ⟨_, rfl, rfl, rfl, rfl⟩
set_option maxRecDepth 20000 in
set_option maxHeartbeats 400000 in
theorem c_perform_5_2 (X : pX) (h : Nat) (I J : IM) (n x : Int) (hn : 0 ≤ n ∧ n < I 63 0) (hb : I 63 0 ≤ 50) (hk : I 65 n.toNat = 5) : KI X (h + 8) mX0_perform [.ref 63, zi n, zi 2, zi x] I J (((xorZ x n) - ((2 + n) + 3))) (trM (pfM I n) [60, 11, 20, 1]) J := by
  show Rz X (h + 8) mX0_perform 0 [some (.ref 63), some (zi n), some (zi 2), some (zi x)] [] I J _
  refine rz_aload_n dX0_perform_0 rfl ?_
  refine rz_iconst dX0_perform_1 ?_
  refine rz_putI dX0_perform_2 kp_RX0_20 hd_63 rfl ?_
  refine rz_iload_n dX0_perform_5 rfl ?_
  refine rz_if_lt (t := 26) dX0_perform_6 rfl (by omega) (fun c6 => ?_) (fun c6 => ?_)
  · refine rz_iconst dX0_perform_26 ?_
    refine rz_iret dX0_perform_27 rfl ?_
    exfalso; omega
  · refine rz_iload_n dX0_perform_9 rfl ?_
    refine rz_aload_n dX0_perform_10 rfl ?_
    refine rz_getI (z := (I 63 0)) dX0_perform_11 kf_RX0_16 hd_63 rfl rfl ?_
    refine rz_icmp_ge (t := 26) dX0_perform_14 rfl (by omega) (by omega) (fun c14 => ?_) (fun c14 => ?_)
    · refine rz_iconst dX0_perform_26 ?_
      refine rz_iret dX0_perform_27 rfl ?_
      exfalso; omega
    · refine rz_iload_n dX0_perform_17 rfl ?_
      refine rz_if_lt (t := 26) dX0_perform_18 rfl (by omega) (fun q => absurd q (by decide)) (fun _ => ?_)
      refine rz_iload_n dX0_perform_21 rfl ?_
      refine rz_iconst dX0_perform_22 ?_
      refine rz_icmp_le (t := 28) dX0_perform_23 rfl (by omega) (by omega) (fun _ => ?_) (fun q => absurd q (by decide))
      refine rz_aload_n dX0_perform_28 rfl ?_
      refine rz_iload_n dX0_perform_29 rfl ?_
      refine rz_putI dX0_perform_30 kp_RX0_32 hd_63 rfl ?_
      refine rz_mem (I' := (pfM I n)) (J' := J) (rfl) (rfl) ?_
      refine rz_aload_n dX0_perform_33 rfl ?_
      refine rz_iload_n dX0_perform_34 rfl ?_
      refine rz_iload_n dX0_perform_35 rfl ?_
      refine rz_iconst dX0_perform_36 ?_
      refine rz_cVI dX0_perform_37 kl_RX0_35 hd_63 ⟨_, _, rfl⟩ (c_X0_own_5_2 X _ (pfM I n) J x 0 (by show (0 : Int) ≤ 0 ∧ (0 : Int) ≤ _; omega) hk (by show 0 ≤ n ∧ n < 50; omega) (by omega)) rfl rfl (Nat.le_of_ble_eq_true rfl) (Nat.le_of_ble_eq_true rfl) ?_
      refine rz_iret dX0_perform_40 rfl ?_
      exact ⟨_, rfl, rfl, rfl, rfl⟩
set_option maxRecDepth 20000 in
set_option maxHeartbeats 400000 in
theorem c_X0_run_5_2_m1 (X : pX) (h : Nat) (I J : IM) (x d : Int) (hR : 0 ≤ I 63 1 ∧ I 63 1 ≤ 16) (hk : I 65 (I 63 4).toNat = 5) (ha : 0 ≤ I 63 4 ∧ I 63 4 < 50) (hd : 0 ≤ d ∧ d ≤ 37) : KI X (h + 8) mX0_run [.ref 63, zi 2, zi (-1), zi x, zi d] I J (((((x + (I 63 4)) + 3) * 2) - ((xorZ 1 (I 63 4)) - ((2 + (I 63 4)) + 3)))) (trM I [2, 10, 20, 1, 60, 11, 20, 1]) J := by
  show Rz X (h + 8) mX0_run 0 [some (.ref 63), some (zi 2), some (zi (-1)), some (zi x), some (zi d)] [] I J _
  refine rz_aload_n dX0_run_0 rfl ?_
  refine rz_getI (z := (I 63 1)) dX0_run_1 kf_RX0_20 hd_63 rfl rfl ?_
  refine rz_bipush dX0_run_4 (by decide) ?_
  refine rz_icmp_ge (t := 19) dX0_run_6 rfl (by omega) (by omega) (fun c6 => ?_) (fun c6 => ?_)
  · exfalso; omega
  · refine rz_aload_n dX0_run_9 rfl ?_
    refine rz_getR dX0_run_10 kf_RX0_9 hd_63 rfl rr_63_2 ?_
    refine rz_aload_n dX0_run_13 rfl ?_
    refine rz_getI (z := (I 63 1)) dX0_run_14 kf_RX0_20 hd_63 rfl rfl ?_
    refine rz_iload_n dX0_run_17 rfl ?_
    refine rz_iast dX0_run_18 hd_64 (by decide) (by omega) ?_
    refine rz_aload_n dX0_run_19 rfl ?_
    refine rz_dup dX0_run_20 rfl ?_
    refine rz_getI (z := (I 63 1)) dX0_run_21 kf_RX0_20 hd_63 rfl rfl ?_
    refine rz_iconst dX0_run_24 ?_
    refine rz_iadd dX0_run_25 ?_
    refine rz_putI dX0_run_26 kp_RX0_20 hd_63 rfl ?_
    refine rz_mem (I' := (stM I 2)) (J' := J) (rfl) (rfl) ?_
    refine rz_iload_n dX0_run_29 rfl ?_
    refine rz_lookup (t := 151) (off := 121) dX0_run_30 (by omega) (by decide) (by decide) rfl ?_
    refine rz_aload_n dX0_run_151 rfl ?_
    refine rz_iconst dX0_run_152 ?_
    refine rz_iload_n dX0_run_153 rfl ?_
    refine rz_iload dX0_run_154 rfl ?_
    refine rz_cVI dX0_run_156 kl_RX0_35 hd_63 ⟨_, _, rfl⟩ (c_X0_own_5_1 X _ (stM I 2) J x d (by (try simp only [trM_R, stM_R, trR_R, stR_R, List.length_cons, List.length_nil]); omega) hk ha (by omega)) rfl rfl (Nat.le_of_ble_eq_true rfl) (Nat.le_of_ble_eq_true rfl) ?_
    refine rz_aload_n dX0_run_159 rfl ?_
    refine rz_iconst dX0_run_160 ?_
    refine rz_iconst dX0_run_161 ?_
    refine rz_iload dX0_run_162 rfl ?_
    refine rz_cVI dX0_run_164 kl_RX0_35 hd_63 ⟨_, _, rfl⟩ (c_X0_own_5_2 X _ (trM (stM I 2) [10, 20, 1]) J 1 d (by (try simp only [trM_R, stM_R, trR_R, stR_R, List.length_cons, List.length_nil]); omega) hk ha (by omega)) rfl rfl (Nat.le_of_ble_eq_true rfl) (Nat.le_of_ble_eq_true rfl) ?_
    refine rz_isub dX0_run_167 ?_
    refine rz_iret dX0_run_168 rfl ?_
    exact ⟨_, rfl, rfl, rfl, rfl⟩
set_option maxRecDepth 20000 in
set_option maxHeartbeats 400000 in
theorem c_X0_from_5_1_3 (X : pX) (h : Nat) (I J : IM) (x d : Int) (hR : 0 ≤ I 63 1 ∧ I 63 1 ≤ 16) (hk : I 65 (I 63 4).toNat = 5) (ha : 0 ≤ I 63 4 ∧ I 63 4 < 50) (hd : 0 ≤ d ∧ d ≤ 36) : KI X (h + 9) mX0_from [.ref 63, zi 1, zi 3, zi x, zi d] I J (((((x + (I 63 4)) + 3) * 2) - ((xorZ 1 (I 63 4)) - ((2 + (I 63 4)) + 3)))) (trM I [2, 10, 20, 1, 60, 11, 20, 1]) J := by
  show Rz X (h + 9) mX0_from 0 [some (.ref 63), some (zi 1), some (zi 3), some (zi x), some (zi d), none, none, none] [] I J _
  refine rz_iload_n dX0_from_0 rfl ?_
  refine rz_istore dX0_from_1 (by decide) rfl ?_
  refine rz_iconst dX0_from_3 ?_
  refine rz_istore dX0_from_4 (by decide) rfl ?_
  refine rz_iload dX0_from_6 rfl ?_
  refine rz_bipush dX0_from_8 (by decide) ?_
  refine rz_icmp_ge (t := 78) dX0_from_10 rfl (by omega) (by omega) (fun q => absurd q (by decide)) (fun _ => ?_)
  refine rz_iload dX0_from_13 rfl ?_
  refine rz_if_lt (t := 78) dX0_from_15 rfl (by omega) (fun q => absurd q (by decide)) (fun _ => ?_)
  refine rz_gets1 dX0_from_18 kf_RX0_43 ?_
  refine rz_iload dX0_from_21 rfl ?_
  refine rz_iconst dX0_from_23 ?_
  refine rz_imul dX0_from_24 ?_
  refine rz_iload_n dX0_from_25 rfl ?_
  refine rz_iadd dX0_from_26 ?_
  refine rz_tld1 (z := 0) dX0_from_27 (by decide) rfl ?_
  refine rz_istore (ls' := [some (.ref 63), some (zi 1), some (zi 3), some (zi x), some (zi d), some (zi 1), some (zi 0), some (zi 0)]) dX0_from_28 (by decide) rfl ?_
  refine rz_iload dX0_from_30 rfl ?_
  refine rz_if_eq (t := 64) dX0_from_32 rfl (by omega) (fun _ => ?_) (fun q => absurd q (by decide))
  refine rz_gets0 dX0_from_64 kf_RX0_29 ?_
  refine rz_iload dX0_from_67 rfl ?_
  refine rz_tld0 (z := 0) dX0_from_69 (by decide) rfl ?_
  refine rz_istore dX0_from_70 (by decide) rfl ?_
  refine rz_iinc (z := 1) dX0_from_72 (by decide) rfl rfl rfl ?_
  refine rz_goto (t := 6) dX0_from_75 rfl ?_
  refine rz_iload dX0_from_6 rfl ?_
  refine rz_bipush dX0_from_8 (by decide) ?_
  refine rz_icmp_ge (t := 78) dX0_from_10 rfl (by omega) (by omega) (fun q => absurd q (by decide)) (fun _ => ?_)
  refine rz_iload dX0_from_13 rfl ?_
  refine rz_if_lt (t := 78) dX0_from_15 rfl (by omega) (fun q => absurd q (by decide)) (fun _ => ?_)
  refine rz_gets1 dX0_from_18 kf_RX0_43 ?_
  refine rz_iload dX0_from_21 rfl ?_
  refine rz_iconst dX0_from_23 ?_
  refine rz_imul dX0_from_24 ?_
  refine rz_iload_n dX0_from_25 rfl ?_
  refine rz_iadd dX0_from_26 ?_
  refine rz_tld1 (z := 2) dX0_from_27 (by decide) rfl ?_
  refine rz_istore (ls' := [some (.ref 63), some (zi 1), some (zi 3), some (zi x), some (zi d), some (zi 0), some (zi 1), some (zi 2)]) dX0_from_28 (by decide) rfl ?_
  refine rz_iload dX0_from_30 rfl ?_
  refine rz_if_eq (t := 64) dX0_from_32 rfl (by omega) (fun q => absurd q (by decide)) (fun _ => ?_)
  refine rz_iload dX0_from_35 rfl ?_
  refine rz_bipush dX0_from_37 (by decide) ?_
  refine rz_icmp_ge (t := 62) dX0_from_39 rfl (by omega) (by omega) (fun c39 => ?_) (fun c39 => ?_)
  · exfalso; omega
  · refine rz_aload_n dX0_from_42 rfl ?_
    refine rz_iload dX0_from_43 rfl ?_
    refine rz_gets0 dX0_from_45 kf_RX0_29 ?_
    refine rz_iload dX0_from_48 rfl ?_
    refine rz_tld0 (z := (-1)) dX0_from_50 (by decide) rfl ?_
    refine rz_iload_n dX0_from_51 rfl ?_
    refine rz_iload dX0_from_52 rfl ?_
    refine rz_iconst dX0_from_54 ?_
    refine rz_iadd dX0_from_55 ?_
    refine rz_cVI dX0_from_56 kl_RX0_46 hd_63 ⟨_, _, rfl⟩ (c_X0_run_5_2_m1 X _ I J x (d + 1) (by (try simp only [trM_R, stM_R, trR_R, stR_R, List.length_cons, List.length_nil]); omega) hk ha (by omega)) rfl rfl (Nat.le_of_ble_eq_true rfl) (Nat.le_of_ble_eq_true rfl) ?_
    refine rz_goto (t := 63) dX0_from_59 rfl ?_
    refine rz_iret dX0_from_63 rfl ?_
    exact ⟨_, rfl, rfl, rfl, rfl⟩
set_option maxRecDepth 20000 in
set_option maxHeartbeats 400000 in
theorem c_X0_run_5_50_1 (X : pX) (h : Nat) (I J : IM) (x d : Int) (hR : 0 ≤ I 63 1 ∧ I 63 1 ≤ 15) (hk : I 65 (I 63 4).toNat = 5) (ha : 0 ≤ I 63 4 ∧ I 63 4 < 50) (hd : 0 ≤ d ∧ d ≤ 36) : KI X (h + 10) mX0_run [.ref 63, zi 50, zi 1, zi x, zi d] I J ((xorZ ((((x + (I 63 4)) + 3) * 2) - ((xorZ 1 (I 63 4)) - ((2 + (I 63 4)) + 3))) 5)) (trM I [50, 2, 10, 20, 1, 60, 11, 20, 1]) J := by
  show Rz X (h + 10) mX0_run 0 [some (.ref 63), some (zi 50), some (zi 1), some (zi x), some (zi d)] [] I J _
  refine rz_aload_n dX0_run_0 rfl ?_
  refine rz_getI (z := (I 63 1)) dX0_run_1 kf_RX0_20 hd_63 rfl rfl ?_
  refine rz_bipush dX0_run_4 (by decide) ?_
  refine rz_icmp_ge (t := 19) dX0_run_6 rfl (by omega) (by omega) (fun c6 => ?_) (fun c6 => ?_)
  · exfalso; omega
  · refine rz_aload_n dX0_run_9 rfl ?_
    refine rz_getR dX0_run_10 kf_RX0_9 hd_63 rfl rr_63_2 ?_
    refine rz_aload_n dX0_run_13 rfl ?_
    refine rz_getI (z := (I 63 1)) dX0_run_14 kf_RX0_20 hd_63 rfl rfl ?_
    refine rz_iload_n dX0_run_17 rfl ?_
    refine rz_iast dX0_run_18 hd_64 (by decide) (by omega) ?_
    refine rz_aload_n dX0_run_19 rfl ?_
    refine rz_dup dX0_run_20 rfl ?_
    refine rz_getI (z := (I 63 1)) dX0_run_21 kf_RX0_20 hd_63 rfl rfl ?_
    refine rz_iconst dX0_run_24 ?_
    refine rz_iadd dX0_run_25 ?_
    refine rz_putI dX0_run_26 kp_RX0_20 hd_63 rfl ?_
    refine rz_mem (I' := (stM I 50)) (J' := J) (rfl) (rfl) ?_
    refine rz_iload_n dX0_run_29 rfl ?_
    refine rz_lookup (t := 234) (off := 204) dX0_run_30 (by omega) (by decide) (by decide) rfl ?_
    refine rz_aload_n dX0_run_234 rfl ?_
    refine rz_iload_n dX0_run_235 rfl ?_
    refine rz_iconst dX0_run_236 ?_
    refine rz_iload_n dX0_run_237 rfl ?_
    refine rz_iload dX0_run_238 rfl ?_
    refine rz_cVI dX0_run_240 kl_RX0_39 hd_63 ⟨_, _, rfl⟩ (c_X0_from_5_1_3 X _ (stM I 50) J x d (by (try simp only [trM_R, stM_R, trR_R, stR_R, List.length_cons, List.length_nil]); omega) hk ha (by omega)) rfl rfl (Nat.le_of_ble_eq_true rfl) (Nat.le_of_ble_eq_true rfl) ?_
    refine rz_iconst dX0_run_243 ?_
    refine rz_ixor dX0_run_244 ?_
    refine rz_iret dX0_run_245 rfl ?_
    exact ⟨_, rfl, rfl, rfl, rfl⟩
set_option maxRecDepth 20000 in
set_option maxHeartbeats 400000 in
theorem c_X0_from_5_4_3 (X : pX) (h : Nat) (I J : IM) (x d : Int) (hR : 0 ≤ I 63 1 ∧ I 63 1 ≤ 15) (hk : I 65 (I 63 4).toNat = 5) (ha : 0 ≤ I 63 4 ∧ I 63 4 < 50) (hd : 0 ≤ d ∧ d ≤ 35) : KI X (h + 11) mX0_from [.ref 63, zi 4, zi 3, zi x, zi d] I J ((xorZ ((((x + (I 63 4)) + 3) * 2) - ((xorZ 1 (I 63 4)) - ((2 + (I 63 4)) + 3))) 5)) (trM I [50, 2, 10, 20, 1, 60, 11, 20, 1]) J := by
  show Rz X (h + 11) mX0_from 0 [some (.ref 63), some (zi 4), some (zi 3), some (zi x), some (zi d), none, none, none] [] I J _
  refine rz_iload_n dX0_from_0 rfl ?_
  refine rz_istore dX0_from_1 (by decide) rfl ?_
  refine rz_iconst dX0_from_3 ?_
  refine rz_istore dX0_from_4 (by decide) rfl ?_
  refine rz_iload dX0_from_6 rfl ?_
  refine rz_bipush dX0_from_8 (by decide) ?_
  refine rz_icmp_ge (t := 78) dX0_from_10 rfl (by omega) (by omega) (fun q => absurd q (by decide)) (fun _ => ?_)
  refine rz_iload dX0_from_13 rfl ?_
  refine rz_if_lt (t := 78) dX0_from_15 rfl (by omega) (fun q => absurd q (by decide)) (fun _ => ?_)
  refine rz_gets1 dX0_from_18 kf_RX0_43 ?_
  refine rz_iload dX0_from_21 rfl ?_
  refine rz_iconst dX0_from_23 ?_
  refine rz_imul dX0_from_24 ?_
  refine rz_iload_n dX0_from_25 rfl ?_
  refine rz_iadd dX0_from_26 ?_
  refine rz_tld1 (z := 50) dX0_from_27 (by decide) rfl ?_
  refine rz_istore (ls' := [some (.ref 63), some (zi 4), some (zi 3), some (zi x), some (zi d), some (zi 4), some (zi 0), some (zi 50)]) dX0_from_28 (by decide) rfl ?_
  refine rz_iload dX0_from_30 rfl ?_
  refine rz_if_eq (t := 64) dX0_from_32 rfl (by omega) (fun q => absurd q (by decide)) (fun _ => ?_)
  refine rz_iload dX0_from_35 rfl ?_
  refine rz_bipush dX0_from_37 (by decide) ?_
  refine rz_icmp_ge (t := 62) dX0_from_39 rfl (by omega) (by omega) (fun c39 => ?_) (fun c39 => ?_)
  · exfalso; omega
  · refine rz_aload_n dX0_from_42 rfl ?_
    refine rz_iload dX0_from_43 rfl ?_
    refine rz_gets0 dX0_from_45 kf_RX0_29 ?_
    refine rz_iload dX0_from_48 rfl ?_
    refine rz_tld0 (z := 1) dX0_from_50 (by decide) rfl ?_
    refine rz_iload_n dX0_from_51 rfl ?_
    refine rz_iload dX0_from_52 rfl ?_
    refine rz_iconst dX0_from_54 ?_
    refine rz_iadd dX0_from_55 ?_
    refine rz_cVI dX0_from_56 kl_RX0_46 hd_63 ⟨_, _, rfl⟩ (c_X0_run_5_50_1 X _ I J x (d + 1) (by (try simp only [trM_R, stM_R, trR_R, stR_R, List.length_cons, List.length_nil]); omega) hk ha (by omega)) rfl rfl (Nat.le_of_ble_eq_true rfl) (Nat.le_of_ble_eq_true rfl) ?_
    refine rz_goto (t := 63) dX0_from_59 rfl ?_
    refine rz_iret dX0_from_63 rfl ?_
    exact ⟨_, rfl, rfl, rfl, rfl⟩
set_option maxRecDepth 20000 in
set_option maxHeartbeats 400000 in
theorem c_X0_run_5_61_4 (X : pX) (h : Nat) (I J : IM) (x d : Int) (hR : 0 ≤ I 63 1 ∧ I 63 1 ≤ 14) (hk : I 65 (I 63 4).toNat = 5) (ha : 0 ≤ I 63 4 ∧ I 63 4 < 50) (hd : 0 ≤ d ∧ d ≤ 35) : KI X (h + 12) mX0_run [.ref 63, zi 61, zi 4, zi x, zi d] I J (((xorZ ((((x + (I 63 4)) + 3) * 2) - ((xorZ 1 (I 63 4)) - ((2 + (I 63 4)) + 3))) 5) + 1)) (trM I [61, 50, 2, 10, 20, 1, 60, 11, 20, 1]) J := by
  show Rz X (h + 12) mX0_run 0 [some (.ref 63), some (zi 61), some (zi 4), some (zi x), some (zi d)] [] I J _
  refine rz_aload_n dX0_run_0 rfl ?_
  refine rz_getI (z := (I 63 1)) dX0_run_1 kf_RX0_20 hd_63 rfl rfl ?_
  refine rz_bipush dX0_run_4 (by decide) ?_
  refine rz_icmp_ge (t := 19) dX0_run_6 rfl (by omega) (by omega) (fun c6 => ?_) (fun c6 => ?_)
  · exfalso; omega
  · refine rz_aload_n dX0_run_9 rfl ?_
    refine rz_getR dX0_run_10 kf_RX0_9 hd_63 rfl rr_63_2 ?_
    refine rz_aload_n dX0_run_13 rfl ?_
    refine rz_getI (z := (I 63 1)) dX0_run_14 kf_RX0_20 hd_63 rfl rfl ?_
    refine rz_iload_n dX0_run_17 rfl ?_
    refine rz_iast dX0_run_18 hd_64 (by decide) (by omega) ?_
    refine rz_aload_n dX0_run_19 rfl ?_
    refine rz_dup dX0_run_20 rfl ?_
    refine rz_getI (z := (I 63 1)) dX0_run_21 kf_RX0_20 hd_63 rfl rfl ?_
    refine rz_iconst dX0_run_24 ?_
    refine rz_iadd dX0_run_25 ?_
    refine rz_putI dX0_run_26 kp_RX0_20 hd_63 rfl ?_
    refine rz_mem (I' := (stM I 61)) (J' := J) (rfl) (rfl) ?_
    refine rz_iload_n dX0_run_29 rfl ?_
    refine rz_lookup (t := 265) (off := 235) dX0_run_30 (by omega) (by decide) (by decide) rfl ?_
    refine rz_aload_n dX0_run_265 rfl ?_
    refine rz_iload_n dX0_run_266 rfl ?_
    refine rz_iconst dX0_run_267 ?_
    refine rz_iload_n dX0_run_268 rfl ?_
    refine rz_iload dX0_run_269 rfl ?_
    refine rz_cVI dX0_run_271 kl_RX0_39 hd_63 ⟨_, _, rfl⟩ (c_X0_from_5_4_3 X _ (stM I 61) J x d (by (try simp only [trM_R, stM_R, trR_R, stR_R, List.length_cons, List.length_nil]); omega) hk ha (by omega)) rfl rfl (Nat.le_of_ble_eq_true rfl) (Nat.le_of_ble_eq_true rfl) ?_
    refine rz_iconst dX0_run_274 ?_
    refine rz_iadd dX0_run_275 ?_
    refine rz_iret dX0_run_276 rfl ?_
    exact ⟨_, rfl, rfl, rfl, rfl⟩
set_option maxRecDepth 20000 in
set_option maxHeartbeats 400000 in
theorem c_X0_from_5_5_3 (X : pX) (h : Nat) (I J : IM) (x d : Int) (hR : 0 ≤ I 63 1 ∧ I 63 1 ≤ 14) (hk : I 65 (I 63 4).toNat = 5) (ha : 0 ≤ I 63 4 ∧ I 63 4 < 50) (hd : 0 ≤ d ∧ d ≤ 34) : KI X (h + 13) mX0_from [.ref 63, zi 5, zi 3, zi x, zi d] I J (((xorZ ((((x + (I 63 4)) + 3) * 2) - ((xorZ 1 (I 63 4)) - ((2 + (I 63 4)) + 3))) 5) + 1)) (trM I [61, 50, 2, 10, 20, 1, 60, 11, 20, 1]) J := by
  show Rz X (h + 13) mX0_from 0 [some (.ref 63), some (zi 5), some (zi 3), some (zi x), some (zi d), none, none, none] [] I J _
  refine rz_iload_n dX0_from_0 rfl ?_
  refine rz_istore dX0_from_1 (by decide) rfl ?_
  refine rz_iconst dX0_from_3 ?_
  refine rz_istore dX0_from_4 (by decide) rfl ?_
  refine rz_iload dX0_from_6 rfl ?_
  refine rz_bipush dX0_from_8 (by decide) ?_
  refine rz_icmp_ge (t := 78) dX0_from_10 rfl (by omega) (by omega) (fun q => absurd q (by decide)) (fun _ => ?_)
  refine rz_iload dX0_from_13 rfl ?_
  refine rz_if_lt (t := 78) dX0_from_15 rfl (by omega) (fun q => absurd q (by decide)) (fun _ => ?_)
  refine rz_gets1 dX0_from_18 kf_RX0_43 ?_
  refine rz_iload dX0_from_21 rfl ?_
  refine rz_iconst dX0_from_23 ?_
  refine rz_imul dX0_from_24 ?_
  refine rz_iload_n dX0_from_25 rfl ?_
  refine rz_iadd dX0_from_26 ?_
  refine rz_tld1 (z := 61) dX0_from_27 (by decide) rfl ?_
  refine rz_istore (ls' := [some (.ref 63), some (zi 5), some (zi 3), some (zi x), some (zi d), some (zi 5), some (zi 0), some (zi 61)]) dX0_from_28 (by decide) rfl ?_
  refine rz_iload dX0_from_30 rfl ?_
  refine rz_if_eq (t := 64) dX0_from_32 rfl (by omega) (fun q => absurd q (by decide)) (fun _ => ?_)
  refine rz_iload dX0_from_35 rfl ?_
  refine rz_bipush dX0_from_37 (by decide) ?_
  refine rz_icmp_ge (t := 62) dX0_from_39 rfl (by omega) (by omega) (fun c39 => ?_) (fun c39 => ?_)
  · exfalso; omega
  · refine rz_aload_n dX0_from_42 rfl ?_
    refine rz_iload dX0_from_43 rfl ?_
    refine rz_gets0 dX0_from_45 kf_RX0_29 ?_
    refine rz_iload dX0_from_48 rfl ?_
    refine rz_tld0 (z := 4) dX0_from_50 (by decide) rfl ?_
    refine rz_iload_n dX0_from_51 rfl ?_
    refine rz_iload dX0_from_52 rfl ?_
    refine rz_iconst dX0_from_54 ?_
    refine rz_iadd dX0_from_55 ?_
    refine rz_cVI dX0_from_56 kl_RX0_46 hd_63 ⟨_, _, rfl⟩ (c_X0_run_5_61_4 X _ I J x (d + 1) (by (try simp only [trM_R, stM_R, trR_R, stR_R, List.length_cons, List.length_nil]); omega) hk ha (by omega)) rfl rfl (Nat.le_of_ble_eq_true rfl) (Nat.le_of_ble_eq_true rfl) ?_
    refine rz_goto (t := 63) dX0_from_59 rfl ?_
    refine rz_iret dX0_from_63 rfl ?_
    exact ⟨_, rfl, rfl, rfl, rfl⟩
set_option maxRecDepth 20000 in
set_option maxHeartbeats 400000 in
theorem c_X0_own_5_3 (X : pX) (h : Nat) (I J : IM) (x d : Int) (hR : 0 ≤ I 63 1 ∧ I 63 1 ≤ 14) (hk : I 65 (I 63 4).toNat = 5) (ha : 0 ≤ I 63 4 ∧ I 63 4 < 50) (hd : 0 ≤ d ∧ d ≤ 34) : KI X (h + 14) mX0_own [.ref 63, zi 3, zi x, zi d] I J (((xorZ ((((x + (I 63 4)) + 3) * 2) - ((xorZ 1 (I 63 4)) - ((2 + (I 63 4)) + 3))) 5) + 1)) (trM I [61, 50, 2, 10, 20, 1, 60, 11, 20, 1]) J := by
  show Rz X (h + 14) mX0_own 0 [some (.ref 63), some (zi 3), some (zi x), some (zi d)] [] I J _
  refine rz_aload_n dX0_own_0 rfl ?_
  refine rz_aload_n dX0_own_1 rfl ?_
  refine rz_getR dX0_own_2 kf_RX0_13 hd_63 rfl rr_63_3 ?_
  refine rz_aload_n dX0_own_5 rfl ?_
  refine rz_getI (z := (I 63 4)) dX0_own_6 kf_RX0_32 hd_63 rfl rfl ?_
  refine rz_iald (z := 5) dX0_own_9 hd_65 (by decide) (by omega) hk ?_
  refine rz_iload_n dX0_own_10 rfl ?_
  refine rz_iload_n dX0_own_11 rfl ?_
  refine rz_iload_n dX0_own_12 rfl ?_
  refine rz_cVI dX0_own_13 kl_RX0_39 hd_63 ⟨_, _, rfl⟩ (c_X0_from_5_5_3 X _ I J x d (by (try simp only [trM_R, stM_R, trR_R, stR_R, List.length_cons, List.length_nil]); omega) hk ha (by omega)) rfl rfl (Nat.le_of_ble_eq_true rfl) (Nat.le_of_ble_eq_true rfl) ?_
  refine rz_iret dX0_own_16 rfl ?_
  exact ⟨_, rfl, rfl, rfl, rfl⟩
set_option maxRecDepth 20000 in
set_option maxHeartbeats 400000 in
theorem c_perform_5_3 (X : pX) (h : Nat) (I J : IM) (n x : Int) (hn : 0 ≤ n ∧ n < I 63 0) (hb : I 63 0 ≤ 50) (hk : I 65 n.toNat = 5) : KI X (h + 15) mX0_perform [.ref 63, zi n, zi 3, zi x] I J (((xorZ ((((x + n) + 3) * 2) - ((xorZ 1 n) - ((2 + n) + 3))) 5) + 1)) (trM (pfM I n) [61, 50, 2, 10, 20, 1, 60, 11, 20, 1]) J := by
  show Rz X (h + 15) mX0_perform 0 [some (.ref 63), some (zi n), some (zi 3), some (zi x)] [] I J _
  refine rz_aload_n dX0_perform_0 rfl ?_
  refine rz_iconst dX0_perform_1 ?_
  refine rz_putI dX0_perform_2 kp_RX0_20 hd_63 rfl ?_
  refine rz_iload_n dX0_perform_5 rfl ?_
  refine rz_if_lt (t := 26) dX0_perform_6 rfl (by omega) (fun c6 => ?_) (fun c6 => ?_)
  · refine rz_iconst dX0_perform_26 ?_
    refine rz_iret dX0_perform_27 rfl ?_
    exfalso; omega
  · refine rz_iload_n dX0_perform_9 rfl ?_
    refine rz_aload_n dX0_perform_10 rfl ?_
    refine rz_getI (z := (I 63 0)) dX0_perform_11 kf_RX0_16 hd_63 rfl rfl ?_
    refine rz_icmp_ge (t := 26) dX0_perform_14 rfl (by omega) (by omega) (fun c14 => ?_) (fun c14 => ?_)
    · refine rz_iconst dX0_perform_26 ?_
      refine rz_iret dX0_perform_27 rfl ?_
      exfalso; omega
    · refine rz_iload_n dX0_perform_17 rfl ?_
      refine rz_if_lt (t := 26) dX0_perform_18 rfl (by omega) (fun q => absurd q (by decide)) (fun _ => ?_)
      refine rz_iload_n dX0_perform_21 rfl ?_
      refine rz_iconst dX0_perform_22 ?_
      refine rz_icmp_le (t := 28) dX0_perform_23 rfl (by omega) (by omega) (fun _ => ?_) (fun q => absurd q (by decide))
      refine rz_aload_n dX0_perform_28 rfl ?_
      refine rz_iload_n dX0_perform_29 rfl ?_
      refine rz_putI dX0_perform_30 kp_RX0_32 hd_63 rfl ?_
      refine rz_mem (I' := (pfM I n)) (J' := J) (rfl) (rfl) ?_
      refine rz_aload_n dX0_perform_33 rfl ?_
      refine rz_iload_n dX0_perform_34 rfl ?_
      refine rz_iload_n dX0_perform_35 rfl ?_
      refine rz_iconst dX0_perform_36 ?_
      refine rz_cVI dX0_perform_37 kl_RX0_35 hd_63 ⟨_, _, rfl⟩ (c_X0_own_5_3 X _ (pfM I n) J x 0 (by show (0 : Int) ≤ 0 ∧ (0 : Int) ≤ _; omega) hk (by show 0 ≤ n ∧ n < 50; omega) (by omega)) rfl rfl (Nat.le_of_ble_eq_true rfl) (Nat.le_of_ble_eq_true rfl) ?_
      refine rz_iret dX0_perform_40 rfl ?_
      exact ⟨_, rfl, rfl, rfl, rfl⟩
set_option maxRecDepth 20000 in
set_option maxHeartbeats 400000 in
theorem c_X0_run_6_1_m1 (X : pX) (h : Nat) (I J : IM) (x d : Int) (hR : 0 ≤ I 63 1 ∧ I 63 1 ≤ 23) (hk : I 65 (I 63 4).toNat = 6) (ha : 0 ≤ I 63 4 ∧ I 63 4 < 50) (hd : 0 ≤ d ∧ d ≤ 100) : KI X h mX0_run [.ref 63, zi 1, zi (-1), zi x, zi d] I J ((x + (I 63 4))) (trM I [1]) J := by
  show Rz X h mX0_run 0 [some (.ref 63), some (zi 1), some (zi (-1)), some (zi x), some (zi d)] [] I J _
  refine rz_aload_n dX0_run_0 rfl ?_
  refine rz_getI (z := (I 63 1)) dX0_run_1 kf_RX0_20 hd_63 rfl rfl ?_
  refine rz_bipush dX0_run_4 (by decide) ?_
  refine rz_icmp_ge (t := 19) dX0_run_6 rfl (by omega) (by omega) (fun c6 => ?_) (fun c6 => ?_)
  · exfalso; omega
  · refine rz_aload_n dX0_run_9 rfl ?_
    refine rz_getR dX0_run_10 kf_RX0_9 hd_63 rfl rr_63_2 ?_
    refine rz_aload_n dX0_run_13 rfl ?_
    refine rz_getI (z := (I 63 1)) dX0_run_14 kf_RX0_20 hd_63 rfl rfl ?_
    refine rz_iload_n dX0_run_17 rfl ?_
    refine rz_iast dX0_run_18 hd_64 (by decide) (by omega) ?_
    refine rz_aload_n dX0_run_19 rfl ?_
    refine rz_dup dX0_run_20 rfl ?_
    refine rz_getI (z := (I 63 1)) dX0_run_21 kf_RX0_20 hd_63 rfl rfl ?_
    refine rz_iconst dX0_run_24 ?_
    refine rz_iadd dX0_run_25 ?_
    refine rz_putI dX0_run_26 kp_RX0_20 hd_63 rfl ?_
    refine rz_mem (I' := (stM I 1)) (J' := J) (rfl) (rfl) ?_
    refine rz_iload_n dX0_run_29 rfl ?_
    refine rz_lookup (t := 144) (off := 114) dX0_run_30 (by omega) (by decide) (by decide) rfl ?_
    refine rz_iload_n dX0_run_144 rfl ?_
    refine rz_aload_n dX0_run_145 rfl ?_
    refine rz_getI (z := (I 63 4)) dX0_run_146 kf_RX0_32 hd_63 rfl rfl ?_
    refine rz_iadd dX0_run_149 ?_
    refine rz_iret dX0_run_150 rfl ?_
    exact ⟨_, rfl, rfl, rfl, rfl⟩
set_option maxRecDepth 20000 in
set_option maxHeartbeats 400000 in
theorem c_X0_from_6_0_0 (X : pX) (h : Nat) (I J : IM) (x d : Int) (hR : 0 ≤ I 63 1 ∧ I 63 1 ≤ 23) (hk : I 65 (I 63 4).toNat = 6) (ha : 0 ≤ I 63 4 ∧ I 63 4 < 50) (hd : 0 ≤ d ∧ d ≤ 39) : KI X (h + 1) mX0_from [.ref 63, zi 0, zi 0, zi x, zi d] I J ((x + (I 63 4))) (trM I [1]) J := by
  show Rz X (h + 1) mX0_from 0 [some (.ref 63), some (zi 0), some (zi 0), some (zi x), some (zi d), none, none, none] [] I J _
  refine rz_iload_n dX0_from_0 rfl ?_
  refine rz_istore dX0_from_1 (by decide) rfl ?_
  refine rz_iconst dX0_from_3 ?_
  refine rz_istore dX0_from_4 (by decide) rfl ?_
  refine rz_iload dX0_from_6 rfl ?_
  refine rz_bipush dX0_from_8 (by decide) ?_
  refine rz_icmp_ge (t := 78) dX0_from_10 rfl (by omega) (by omega) (fun q => absurd q (by decide)) (fun _ => ?_)
  refine rz_iload dX0_from_13 rfl ?_
  refine rz_if_lt (t := 78) dX0_from_15 rfl (by omega) (fun q => absurd q (by decide)) (fun _ => ?_)
  refine rz_gets1 dX0_from_18 kf_RX0_43 ?_
  refine rz_iload dX0_from_21 rfl ?_
  refine rz_iconst dX0_from_23 ?_
  refine rz_imul dX0_from_24 ?_
  refine rz_iload_n dX0_from_25 rfl ?_
  refine rz_iadd dX0_from_26 ?_
  refine rz_tld1 (z := 1) dX0_from_27 (by decide) rfl ?_
  refine rz_istore (ls' := [some (.ref 63), some (zi 0), some (zi 0), some (zi x), some (zi d), some (zi 0), some (zi 0), some (zi 1)]) dX0_from_28 (by decide) rfl ?_
  refine rz_iload dX0_from_30 rfl ?_
  refine rz_if_eq (t := 64) dX0_from_32 rfl (by omega) (fun q => absurd q (by decide)) (fun _ => ?_)
  refine rz_iload dX0_from_35 rfl ?_
  refine rz_bipush dX0_from_37 (by decide) ?_
  refine rz_icmp_ge (t := 62) dX0_from_39 rfl (by omega) (by omega) (fun c39 => ?_) (fun c39 => ?_)
  · exfalso; omega
  · refine rz_aload_n dX0_from_42 rfl ?_
    refine rz_iload dX0_from_43 rfl ?_
    refine rz_gets0 dX0_from_45 kf_RX0_29 ?_
    refine rz_iload dX0_from_48 rfl ?_
    refine rz_tld0 (z := (-1)) dX0_from_50 (by decide) rfl ?_
    refine rz_iload_n dX0_from_51 rfl ?_
    refine rz_iload dX0_from_52 rfl ?_
    refine rz_iconst dX0_from_54 ?_
    refine rz_iadd dX0_from_55 ?_
    refine rz_cVI dX0_from_56 kl_RX0_46 hd_63 ⟨_, _, rfl⟩ (c_X0_run_6_1_m1 X _ I J x (d + 1) (by (try simp only [trM_R, stM_R, trR_R, stR_R, List.length_cons, List.length_nil]); omega) hk ha (by omega)) rfl rfl (Nat.le_of_ble_eq_true rfl) (Nat.le_of_ble_eq_true rfl) ?_
    refine rz_goto (t := 63) dX0_from_59 rfl ?_
    refine rz_iret dX0_from_63 rfl ?_
    exact ⟨_, rfl, rfl, rfl, rfl⟩
set_option maxRecDepth 20000 in
set_option maxHeartbeats 400000 in
theorem c_X0_run_6_70_0 (X : pX) (h : Nat) (I J : IM) (x d : Int) (hR : 0 ≤ I 63 1 ∧ I 63 1 ≤ 22) (hk : I 65 (I 63 4).toNat = 6) (ha : 0 ≤ I 63 4 ∧ I 63 4 < 50) (hd : 0 ≤ d ∧ d ≤ 39) : KI X (h + 2) mX0_run [.ref 63, zi 70, zi 0, zi x, zi d] I J (((x + (I 63 4)) * 2)) (trM I [70, 1]) J := by
  show Rz X (h + 2) mX0_run 0 [some (.ref 63), some (zi 70), some (zi 0), some (zi x), some (zi d)] [] I J _
  refine rz_aload_n dX0_run_0 rfl ?_
  refine rz_getI (z := (I 63 1)) dX0_run_1 kf_RX0_20 hd_63 rfl rfl ?_
  refine rz_bipush dX0_run_4 (by decide) ?_
  refine rz_icmp_ge (t := 19) dX0_run_6 rfl (by omega) (by omega) (fun c6 => ?_) (fun c6 => ?_)
  · exfalso; omega
  · refine rz_aload_n dX0_run_9 rfl ?_
    refine rz_getR dX0_run_10 kf_RX0_9 hd_63 rfl rr_63_2 ?_
    refine rz_aload_n dX0_run_13 rfl ?_
    refine rz_getI (z := (I 63 1)) dX0_run_14 kf_RX0_20 hd_63 rfl rfl ?_
    refine rz_iload_n dX0_run_17 rfl ?_
    refine rz_iast dX0_run_18 hd_64 (by decide) (by omega) ?_
    refine rz_aload_n dX0_run_19 rfl ?_
    refine rz_dup dX0_run_20 rfl ?_
    refine rz_getI (z := (I 63 1)) dX0_run_21 kf_RX0_20 hd_63 rfl rfl ?_
    refine rz_iconst dX0_run_24 ?_
    refine rz_iadd dX0_run_25 ?_
    refine rz_putI dX0_run_26 kp_RX0_20 hd_63 rfl ?_
    refine rz_mem (I' := (stM I 70)) (J' := J) (rfl) (rfl) ?_
    refine rz_iload_n dX0_run_29 rfl ?_
    refine rz_lookup (t := 277) (off := 247) dX0_run_30 (by omega) (by decide) (by decide) rfl ?_
    refine rz_aload_n dX0_run_277 rfl ?_
    refine rz_iload_n dX0_run_278 rfl ?_
    refine rz_iconst dX0_run_279 ?_
    refine rz_iload_n dX0_run_280 rfl ?_
    refine rz_iload dX0_run_281 rfl ?_
    refine rz_cVI dX0_run_283 kl_RX0_39 hd_63 ⟨_, _, rfl⟩ (c_X0_from_6_0_0 X _ (stM I 70) J x d (by (try simp only [trM_R, stM_R, trR_R, stR_R, List.length_cons, List.length_nil]); omega) hk ha (by omega)) rfl rfl (Nat.le_of_ble_eq_true rfl) (Nat.le_of_ble_eq_true rfl) ?_
    refine rz_iconst dX0_run_286 ?_
    refine rz_imul dX0_run_287 ?_
    refine rz_iret dX0_run_288 rfl ?_
    exact ⟨_, rfl, rfl, rfl, rfl⟩
set_option maxRecDepth 20000 in
set_option maxHeartbeats 400000 in
theorem c_X0_from_6_6_0 (X : pX) (h : Nat) (I J : IM) (x d : Int) (hR : 0 ≤ I 63 1 ∧ I 63 1 ≤ 22) (hk : I 65 (I 63 4).toNat = 6) (ha : 0 ≤ I 63 4 ∧ I 63 4 < 50) (hd : 0 ≤ d ∧ d ≤ 38) : KI X (h + 3) mX0_from [.ref 63, zi 6, zi 0, zi x, zi d] I J (((x + (I 63 4)) * 2)) (trM I [70, 1]) J := by
  show Rz X (h + 3) mX0_from 0 [some (.ref 63), some (zi 6), some (zi 0), some (zi x), some (zi d), none, none, none] [] I J _
  refine rz_iload_n dX0_from_0 rfl ?_
  refine rz_istore dX0_from_1 (by decide) rfl ?_
  refine rz_iconst dX0_from_3 ?_
  refine rz_istore dX0_from_4 (by decide) rfl ?_
  refine rz_iload dX0_from_6 rfl ?_
  refine rz_bipush dX0_from_8 (by decide) ?_
  refine rz_icmp_ge (t := 78) dX0_from_10 rfl (by omega) (by omega) (fun q => absurd q (by decide)) (fun _ => ?_)
  refine rz_iload dX0_from_13 rfl ?_
  refine rz_if_lt (t := 78) dX0_from_15 rfl (by omega) (fun q => absurd q (by decide)) (fun _ => ?_)
  refine rz_gets1 dX0_from_18 kf_RX0_43 ?_
  refine rz_iload dX0_from_21 rfl ?_
  refine rz_iconst dX0_from_23 ?_
  refine rz_imul dX0_from_24 ?_
  refine rz_iload_n dX0_from_25 rfl ?_
  refine rz_iadd dX0_from_26 ?_
  refine rz_tld1 (z := 70) dX0_from_27 (by decide) rfl ?_
  refine rz_istore (ls' := [some (.ref 63), some (zi 6), some (zi 0), some (zi x), some (zi d), some (zi 6), some (zi 0), some (zi 70)]) dX0_from_28 (by decide) rfl ?_
  refine rz_iload dX0_from_30 rfl ?_
  refine rz_if_eq (t := 64) dX0_from_32 rfl (by omega) (fun q => absurd q (by decide)) (fun _ => ?_)
  refine rz_iload dX0_from_35 rfl ?_
  refine rz_bipush dX0_from_37 (by decide) ?_
  refine rz_icmp_ge (t := 62) dX0_from_39 rfl (by omega) (by omega) (fun c39 => ?_) (fun c39 => ?_)
  · exfalso; omega
  · refine rz_aload_n dX0_from_42 rfl ?_
    refine rz_iload dX0_from_43 rfl ?_
    refine rz_gets0 dX0_from_45 kf_RX0_29 ?_
    refine rz_iload dX0_from_48 rfl ?_
    refine rz_tld0 (z := 0) dX0_from_50 (by decide) rfl ?_
    refine rz_iload_n dX0_from_51 rfl ?_
    refine rz_iload dX0_from_52 rfl ?_
    refine rz_iconst dX0_from_54 ?_
    refine rz_iadd dX0_from_55 ?_
    refine rz_cVI dX0_from_56 kl_RX0_46 hd_63 ⟨_, _, rfl⟩ (c_X0_run_6_70_0 X _ I J x (d + 1) (by (try simp only [trM_R, stM_R, trR_R, stR_R, List.length_cons, List.length_nil]); omega) hk ha (by omega)) rfl rfl (Nat.le_of_ble_eq_true rfl) (Nat.le_of_ble_eq_true rfl) ?_
    refine rz_goto (t := 63) dX0_from_59 rfl ?_
    refine rz_iret dX0_from_63 rfl ?_
    exact ⟨_, rfl, rfl, rfl, rfl⟩
set_option maxRecDepth 20000 in
set_option maxHeartbeats 400000 in
theorem c_X0_own_6_0 (X : pX) (h : Nat) (I J : IM) (x d : Int) (hR : 0 ≤ I 63 1 ∧ I 63 1 ≤ 22) (hk : I 65 (I 63 4).toNat = 6) (ha : 0 ≤ I 63 4 ∧ I 63 4 < 50) (hd : 0 ≤ d ∧ d ≤ 38) : KI X (h + 4) mX0_own [.ref 63, zi 0, zi x, zi d] I J (((x + (I 63 4)) * 2)) (trM I [70, 1]) J := by
  show Rz X (h + 4) mX0_own 0 [some (.ref 63), some (zi 0), some (zi x), some (zi d)] [] I J _
  refine rz_aload_n dX0_own_0 rfl ?_
  refine rz_aload_n dX0_own_1 rfl ?_
  refine rz_getR dX0_own_2 kf_RX0_13 hd_63 rfl rr_63_3 ?_
  refine rz_aload_n dX0_own_5 rfl ?_
  refine rz_getI (z := (I 63 4)) dX0_own_6 kf_RX0_32 hd_63 rfl rfl ?_
  refine rz_iald (z := 6) dX0_own_9 hd_65 (by decide) (by omega) hk ?_
  refine rz_iload_n dX0_own_10 rfl ?_
  refine rz_iload_n dX0_own_11 rfl ?_
  refine rz_iload_n dX0_own_12 rfl ?_
  refine rz_cVI dX0_own_13 kl_RX0_39 hd_63 ⟨_, _, rfl⟩ (c_X0_from_6_6_0 X _ I J x d (by (try simp only [trM_R, stM_R, trR_R, stR_R, List.length_cons, List.length_nil]); omega) hk ha (by omega)) rfl rfl (Nat.le_of_ble_eq_true rfl) (Nat.le_of_ble_eq_true rfl) ?_
  refine rz_iret dX0_own_16 rfl ?_
  exact ⟨_, rfl, rfl, rfl, rfl⟩
set_option maxRecDepth 20000 in
set_option maxHeartbeats 400000 in
theorem c_perform_6_0 (X : pX) (h : Nat) (I J : IM) (n x : Int) (hn : 0 ≤ n ∧ n < I 63 0) (hb : I 63 0 ≤ 50) (hk : I 65 n.toNat = 6) : KI X (h + 5) mX0_perform [.ref 63, zi n, zi 0, zi x] I J (((x + n) * 2)) (trM (pfM I n) [70, 1]) J := by
  show Rz X (h + 5) mX0_perform 0 [some (.ref 63), some (zi n), some (zi 0), some (zi x)] [] I J _
  refine rz_aload_n dX0_perform_0 rfl ?_
  refine rz_iconst dX0_perform_1 ?_
  refine rz_putI dX0_perform_2 kp_RX0_20 hd_63 rfl ?_
  refine rz_iload_n dX0_perform_5 rfl ?_
  refine rz_if_lt (t := 26) dX0_perform_6 rfl (by omega) (fun c6 => ?_) (fun c6 => ?_)
  · refine rz_iconst dX0_perform_26 ?_
    refine rz_iret dX0_perform_27 rfl ?_
    exfalso; omega
  · refine rz_iload_n dX0_perform_9 rfl ?_
    refine rz_aload_n dX0_perform_10 rfl ?_
    refine rz_getI (z := (I 63 0)) dX0_perform_11 kf_RX0_16 hd_63 rfl rfl ?_
    refine rz_icmp_ge (t := 26) dX0_perform_14 rfl (by omega) (by omega) (fun c14 => ?_) (fun c14 => ?_)
    · refine rz_iconst dX0_perform_26 ?_
      refine rz_iret dX0_perform_27 rfl ?_
      exfalso; omega
    · refine rz_iload_n dX0_perform_17 rfl ?_
      refine rz_if_lt (t := 26) dX0_perform_18 rfl (by omega) (fun q => absurd q (by decide)) (fun _ => ?_)
      refine rz_iload_n dX0_perform_21 rfl ?_
      refine rz_iconst dX0_perform_22 ?_
      refine rz_icmp_le (t := 28) dX0_perform_23 rfl (by omega) (by omega) (fun _ => ?_) (fun q => absurd q (by decide))
      refine rz_aload_n dX0_perform_28 rfl ?_
      refine rz_iload_n dX0_perform_29 rfl ?_
      refine rz_putI dX0_perform_30 kp_RX0_32 hd_63 rfl ?_
      refine rz_mem (I' := (pfM I n)) (J' := J) (rfl) (rfl) ?_
      refine rz_aload_n dX0_perform_33 rfl ?_
      refine rz_iload_n dX0_perform_34 rfl ?_
      refine rz_iload_n dX0_perform_35 rfl ?_
      refine rz_iconst dX0_perform_36 ?_
      refine rz_cVI dX0_perform_37 kl_RX0_35 hd_63 ⟨_, _, rfl⟩ (c_X0_own_6_0 X _ (pfM I n) J x 0 (by show (0 : Int) ≤ 0 ∧ (0 : Int) ≤ _; omega) hk (by show 0 ≤ n ∧ n < 50; omega) (by omega)) rfl rfl (Nat.le_of_ble_eq_true rfl) (Nat.le_of_ble_eq_true rfl) ?_
      refine rz_iret dX0_perform_40 rfl ?_
      exact ⟨_, rfl, rfl, rfl, rfl⟩
set_option maxRecDepth 20000 in
set_option maxHeartbeats 400000 in
theorem c_X0_run_6_10_m1 (X : pX) (h : Nat) (I J : IM) (x d : Int) (hR : 0 ≤ I 63 1 ∧ I 63 1 ≤ 21) (hk : I 65 (I 63 4).toNat = 6) (ha : 0 ≤ I 63 4 ∧ I 63 4 < 50) (hd : 0 ≤ d ∧ d ≤ 38) : KI X (h + 5) mX0_run [.ref 63, zi 10, zi (-1), zi x, zi d] I J ((((x + (I 63 4)) * 2) * 2)) (trM I [10, 70, 1]) J := by
  show Rz X (h + 5) mX0_run 0 [some (.ref 63), some (zi 10), some (zi (-1)), some (zi x), some (zi d)] [] I J _
  refine rz_aload_n dX0_run_0 rfl ?_
  refine rz_getI (z := (I 63 1)) dX0_run_1 kf_RX0_20 hd_63 rfl rfl ?_
  refine rz_bipush dX0_run_4 (by decide) ?_
  refine rz_icmp_ge (t := 19) dX0_run_6 rfl (by omega) (by omega) (fun c6 => ?_) (fun c6 => ?_)
  · exfalso; omega
  · refine rz_aload_n dX0_run_9 rfl ?_
    refine rz_getR dX0_run_10 kf_RX0_9 hd_63 rfl rr_63_2 ?_
    refine rz_aload_n dX0_run_13 rfl ?_
    refine rz_getI (z := (I 63 1)) dX0_run_14 kf_RX0_20 hd_63 rfl rfl ?_
    refine rz_iload_n dX0_run_17 rfl ?_
    refine rz_iast dX0_run_18 hd_64 (by decide) (by omega) ?_
    refine rz_aload_n dX0_run_19 rfl ?_
    refine rz_dup dX0_run_20 rfl ?_
    refine rz_getI (z := (I 63 1)) dX0_run_21 kf_RX0_20 hd_63 rfl rfl ?_
    refine rz_iconst dX0_run_24 ?_
    refine rz_iadd dX0_run_25 ?_
    refine rz_putI dX0_run_26 kp_RX0_20 hd_63 rfl ?_
    refine rz_mem (I' := (stM I 10)) (J' := J) (rfl) (rfl) ?_
    refine rz_iload_n dX0_run_29 rfl ?_
    refine rz_lookup (t := 169) (off := 139) dX0_run_30 (by omega) (by decide) (by decide) rfl ?_
    refine rz_aload_n dX0_run_169 rfl ?_
    refine rz_iconst dX0_run_170 ?_
    refine rz_iload_n dX0_run_171 rfl ?_
    refine rz_iload dX0_run_172 rfl ?_
    refine rz_cVI dX0_run_174 kl_RX0_35 hd_63 ⟨_, _, rfl⟩ (c_X0_own_6_0 X _ (stM I 10) J x d (by (try simp only [trM_R, stM_R, trR_R, stR_R, List.length_cons, List.length_nil]); omega) hk ha (by omega)) rfl rfl (Nat.le_of_ble_eq_true rfl) (Nat.le_of_ble_eq_true rfl) ?_
    refine rz_iconst dX0_run_177 ?_
    refine rz_imul dX0_run_178 ?_
    refine rz_iret dX0_run_179 rfl ?_
    exact ⟨_, rfl, rfl, rfl, rfl⟩
set_option maxRecDepth 20000 in
set_option maxHeartbeats 400000 in
theorem c_X0_from_6_6_1 (X : pX) (h : Nat) (I J : IM) (x d : Int) (hR : 0 ≤ I 63 1 ∧ I 63 1 ≤ 21) (hk : I 65 (I 63 4).toNat = 6) (ha : 0 ≤ I 63 4 ∧ I 63 4 < 50) (hd : 0 ≤ d ∧ d ≤ 37) : KI X (h + 6) mX0_from [.ref 63, zi 6, zi 1, zi x, zi d] I J ((((x + (I 63 4)) * 2) * 2)) (trM I [10, 70, 1]) J := by
  show Rz X (h + 6) mX0_from 0 [some (.ref 63), some (zi 6), some (zi 1), some (zi x), some (zi d), none, none, none] [] I J _
  refine rz_iload_n dX0_from_0 rfl ?_
  refine rz_istore dX0_from_1 (by decide) rfl ?_
  refine rz_iconst dX0_from_3 ?_
  refine rz_istore dX0_from_4 (by decide) rfl ?_
  refine rz_iload dX0_from_6 rfl ?_
  refine rz_bipush dX0_from_8 (by decide) ?_
  refine rz_icmp_ge (t := 78) dX0_from_10 rfl (by omega) (by omega) (fun q => absurd q (by decide)) (fun _ => ?_)
  refine rz_iload dX0_from_13 rfl ?_
  refine rz_if_lt (t := 78) dX0_from_15 rfl (by omega) (fun q => absurd q (by decide)) (fun _ => ?_)
  refine rz_gets1 dX0_from_18 kf_RX0_43 ?_
  refine rz_iload dX0_from_21 rfl ?_
  refine rz_iconst dX0_from_23 ?_
  refine rz_imul dX0_from_24 ?_
  refine rz_iload_n dX0_from_25 rfl ?_
  refine rz_iadd dX0_from_26 ?_
  refine rz_tld1 (z := 0) dX0_from_27 (by decide) rfl ?_
  refine rz_istore (ls' := [some (.ref 63), some (zi 6), some (zi 1), some (zi x), some (zi d), some (zi 6), some (zi 0), some (zi 0)]) dX0_from_28 (by decide) rfl ?_
  refine rz_iload dX0_from_30 rfl ?_
  refine rz_if_eq (t := 64) dX0_from_32 rfl (by omega) (fun _ => ?_) (fun q => absurd q (by decide))
  refine rz_gets0 dX0_from_64 kf_RX0_29 ?_
  refine rz_iload dX0_from_67 rfl ?_
  refine rz_tld0 (z := 0) dX0_from_69 (by decide) rfl ?_
  refine rz_istore dX0_from_70 (by decide) rfl ?_
  refine rz_iinc (z := 1) dX0_from_72 (by decide) rfl rfl rfl ?_
  refine rz_goto (t := 6) dX0_from_75 rfl ?_
  refine rz_iload dX0_from_6 rfl ?_
  refine rz_bipush dX0_from_8 (by decide) ?_
  refine rz_icmp_ge (t := 78) dX0_from_10 rfl (by omega) (by omega) (fun q => absurd q (by decide)) (fun _ => ?_)
  refine rz_iload dX0_from_13 rfl ?_
  refine rz_if_lt (t := 78) dX0_from_15 rfl (by omega) (fun q => absurd q (by decide)) (fun _ => ?_)
  refine rz_gets1 dX0_from_18 kf_RX0_43 ?_
  refine rz_iload dX0_from_21 rfl ?_
  refine rz_iconst dX0_from_23 ?_
  refine rz_imul dX0_from_24 ?_
  refine rz_iload_n dX0_from_25 rfl ?_
  refine rz_iadd dX0_from_26 ?_
  refine rz_tld1 (z := 10) dX0_from_27 (by decide) rfl ?_
  refine rz_istore (ls' := [some (.ref 63), some (zi 6), some (zi 1), some (zi x), some (zi d), some (zi 0), some (zi 1), some (zi 10)]) dX0_from_28 (by decide) rfl ?_
  refine rz_iload dX0_from_30 rfl ?_
  refine rz_if_eq (t := 64) dX0_from_32 rfl (by omega) (fun q => absurd q (by decide)) (fun _ => ?_)
  refine rz_iload dX0_from_35 rfl ?_
  refine rz_bipush dX0_from_37 (by decide) ?_
  refine rz_icmp_ge (t := 62) dX0_from_39 rfl (by omega) (by omega) (fun c39 => ?_) (fun c39 => ?_)
  · exfalso; omega
  · refine rz_aload_n dX0_from_42 rfl ?_
    refine rz_iload dX0_from_43 rfl ?_
    refine rz_gets0 dX0_from_45 kf_RX0_29 ?_
    refine rz_iload dX0_from_48 rfl ?_
    refine rz_tld0 (z := (-1)) dX0_from_50 (by decide) rfl ?_
    refine rz_iload_n dX0_from_51 rfl ?_
    refine rz_iload dX0_from_52 rfl ?_
    refine rz_iconst dX0_from_54 ?_
    refine rz_iadd dX0_from_55 ?_
    refine rz_cVI dX0_from_56 kl_RX0_46 hd_63 ⟨_, _, rfl⟩ (c_X0_run_6_10_m1 X _ I J x (d + 1) (by (try simp only [trM_R, stM_R, trR_R, stR_R, List.length_cons, List.length_nil]); omega) hk ha (by omega)) rfl rfl (Nat.le_of_ble_eq_true rfl) (Nat.le_of_ble_eq_true rfl) ?_
    refine rz_goto (t := 63) dX0_from_59 rfl ?_
    refine rz_iret dX0_from_63 rfl ?_
    exact ⟨_, rfl, rfl, rfl, rfl⟩
set_option maxRecDepth 20000 in
set_option maxHeartbeats 400000 in
theorem c_X0_own_6_1 (X : pX) (h : Nat) (I J : IM) (x d : Int) (hR : 0 ≤ I 63 1 ∧ I 63 1 ≤ 21) (hk : I 65 (I 63 4).toNat = 6) (ha : 0 ≤ I 63 4 ∧ I 63 4 < 50) (hd : 0 ≤ d ∧ d ≤ 37) : KI X (h + 7) mX0_own [.ref 63, zi 1, zi x, zi d] I J ((((x + (I 63 4)) * 2) * 2)) (trM I [10, 70, 1]) J := by
  show Rz X (h + 7) mX0_own 0 [some (.ref 63), some (zi 1), some (zi x), some (zi d)] [] I J _
  refine rz_aload_n dX0_own_0 rfl ?_
  refine rz_aload_n dX0_own_1 rfl ?_
  refine rz_getR dX0_own_2 kf_RX0_13 hd_63 rfl rr_63_3 ?_
  refine rz_aload_n dX0_own_5 rfl ?_
  refine rz_getI (z := (I 63 4)) dX0_own_6 kf_RX0_32 hd_63 rfl rfl ?_
  refine rz_iald (z := 6) dX0_own_9 hd_65 (by decide) (by omega) hk ?_
  refine rz_iload_n dX0_own_10 rfl ?_
  refine rz_iload_n dX0_own_11 rfl ?_
  refine rz_iload_n dX0_own_12 rfl ?_
  refine rz_cVI dX0_own_13 kl_RX0_39 hd_63 ⟨_, _, rfl⟩ (c_X0_from_6_6_1 X _ I J x d (by (try simp only [trM_R, stM_R, trR_R, stR_R, List.length_cons, List.length_nil]); omega) hk ha (by omega)) rfl rfl (Nat.le_of_ble_eq_true rfl) (Nat.le_of_ble_eq_true rfl) ?_
  refine rz_iret dX0_own_16 rfl ?_
  exact ⟨_, rfl, rfl, rfl, rfl⟩
set_option maxRecDepth 20000 in
set_option maxHeartbeats 400000 in
theorem c_perform_6_1 (X : pX) (h : Nat) (I J : IM) (n x : Int) (hn : 0 ≤ n ∧ n < I 63 0) (hb : I 63 0 ≤ 50) (hk : I 65 n.toNat = 6) : KI X (h + 8) mX0_perform [.ref 63, zi n, zi 1, zi x] I J ((((x + n) * 2) * 2)) (trM (pfM I n) [10, 70, 1]) J := by
  show Rz X (h + 8) mX0_perform 0 [some (.ref 63), some (zi n), some (zi 1), some (zi x)] [] I J _
  refine rz_aload_n dX0_perform_0 rfl ?_
  refine rz_iconst dX0_perform_1 ?_
  refine rz_putI dX0_perform_2 kp_RX0_20 hd_63 rfl ?_
  refine rz_iload_n dX0_perform_5 rfl ?_
  refine rz_if_lt (t := 26) dX0_perform_6 rfl (by omega) (fun c6 => ?_) (fun c6 => ?_)
  · refine rz_iconst dX0_perform_26 ?_
    refine rz_iret dX0_perform_27 rfl ?_
    exfalso; omega
  · refine rz_iload_n dX0_perform_9 rfl ?_
    refine rz_aload_n dX0_perform_10 rfl ?_
    refine rz_getI (z := (I 63 0)) dX0_perform_11 kf_RX0_16 hd_63 rfl rfl ?_
    refine rz_icmp_ge (t := 26) dX0_perform_14 rfl (by omega) (by omega) (fun c14 => ?_) (fun c14 => ?_)
    · refine rz_iconst dX0_perform_26 ?_
      refine rz_iret dX0_perform_27 rfl ?_
      exfalso; omega
    · refine rz_iload_n dX0_perform_17 rfl ?_
      refine rz_if_lt (t := 26) dX0_perform_18 rfl (by omega) (fun q => absurd q (by decide)) (fun _ => ?_)
      refine rz_iload_n dX0_perform_21 rfl ?_
      refine rz_iconst dX0_perform_22 ?_
      refine rz_icmp_le (t := 28) dX0_perform_23 rfl (by omega) (by omega) (fun _ => ?_) (fun q => absurd q (by decide))
      refine rz_aload_n dX0_perform_28 rfl ?_
      refine rz_iload_n dX0_perform_29 rfl ?_
      refine rz_putI dX0_perform_30 kp_RX0_32 hd_63 rfl ?_
      refine rz_mem (I' := (pfM I n)) (J' := J) (rfl) (rfl) ?_
      refine rz_aload_n dX0_perform_33 rfl ?_
      refine rz_iload_n dX0_perform_34 rfl ?_
      refine rz_iload_n dX0_perform_35 rfl ?_
      refine rz_iconst dX0_perform_36 ?_
      refine rz_cVI dX0_perform_37 kl_RX0_35 hd_63 ⟨_, _, rfl⟩ (c_X0_own_6_1 X _ (pfM I n) J x 0 (by show (0 : Int) ≤ 0 ∧ (0 : Int) ≤ _; omega) hk (by show 0 ≤ n ∧ n < 50; omega) (by omega)) rfl rfl (Nat.le_of_ble_eq_true rfl) (Nat.le_of_ble_eq_true rfl) ?_
      refine rz_iret dX0_perform_40 rfl ?_
      exact ⟨_, rfl, rfl, rfl, rfl⟩
set_option maxRecDepth 20000 in
set_option maxHeartbeats 400000 in
theorem c_X0_run_6_11_m1 (X : pX) (h : Nat) (I J : IM) (x d : Int) (hR : 0 ≤ I 63 1 ∧ I 63 1 ≤ 23) (hk : I 65 (I 63 4).toNat = 6) (ha : 0 ≤ I 63 4 ∧ I 63 4 < 50) (hd : 0 ≤ d ∧ d ≤ 100) : KI X h mX0_run [.ref 63, zi 11, zi (-1), zi x, zi d] I J ((xorZ x (I 63 4))) (trM I [11]) J := by
  show Rz X h mX0_run 0 [some (.ref 63), some (zi 11), some (zi (-1)), some (zi x), some (zi d)] [] I J _
  refine rz_aload_n dX0_run_0 rfl ?_
  refine rz_getI (z := (I 63 1)) dX0_run_1 kf_RX0_20 hd_63 rfl rfl ?_
  refine rz_bipush dX0_run_4 (by decide) ?_
  refine rz_icmp_ge (t := 19) dX0_run_6 rfl (by omega) (by omega) (fun c6 => ?_) (fun c6 => ?_)
  · exfalso; omega
  · refine rz_aload_n dX0_run_9 rfl ?_
    refine rz_getR dX0_run_10 kf_RX0_9 hd_63 rfl rr_63_2 ?_
    refine rz_aload_n dX0_run_13 rfl ?_
    refine rz_getI (z := (I 63 1)) dX0_run_14 kf_RX0_20 hd_63 rfl rfl ?_
    refine rz_iload_n dX0_run_17 rfl ?_
    refine rz_iast dX0_run_18 hd_64 (by decide) (by omega) ?_
    refine rz_aload_n dX0_run_19 rfl ?_
    refine rz_dup dX0_run_20 rfl ?_
    refine rz_getI (z := (I 63 1)) dX0_run_21 kf_RX0_20 hd_63 rfl rfl ?_
    refine rz_iconst dX0_run_24 ?_
    refine rz_iadd dX0_run_25 ?_
    refine rz_putI dX0_run_26 kp_RX0_20 hd_63 rfl ?_
    refine rz_mem (I' := (stM I 11)) (J' := J) (rfl) (rfl) ?_
    refine rz_iload_n dX0_run_29 rfl ?_
    refine rz_lookup (t := 180) (off := 150) dX0_run_30 (by omega) (by decide) (by decide) rfl ?_
    refine rz_iload_n dX0_run_180 rfl ?_
    refine rz_aload_n dX0_run_181 rfl ?_
    refine rz_getI (z := (I 63 4)) dX0_run_182 kf_RX0_32 hd_63 rfl rfl ?_
    refine rz_ixor dX0_run_185 ?_
    refine rz_iret dX0_run_186 rfl ?_
    exact ⟨_, rfl, rfl, rfl, rfl⟩
set_option maxRecDepth 20000 in
set_option maxHeartbeats 400000 in
theorem c_X0_from_6_6_2 (X : pX) (h : Nat) (I J : IM) (x d : Int) (hR : 0 ≤ I 63 1 ∧ I 63 1 ≤ 23) (hk : I 65 (I 63 4).toNat = 6) (ha : 0 ≤ I 63 4 ∧ I 63 4 < 50) (hd : 0 ≤ d ∧ d ≤ 39) : KI X (h + 1) mX0_from [.ref 63, zi 6, zi 2, zi x, zi d] I J ((xorZ x (I 63 4))) (trM I [11]) J := by
  show Rz X (h + 1) mX0_from 0 [some (.ref 63), some (zi 6), some (zi 2), some (zi x), some (zi d), none, none, none] [] I J _
  refine rz_iload_n dX0_from_0 rfl ?_
  refine rz_istore dX0_from_1 (by decide) rfl ?_
  refine rz_iconst dX0_from_3 ?_
  refine rz_istore dX0_from_4 (by decide) rfl ?_
  refine rz_iload dX0_from_6 rfl ?_
  refine rz_bipush dX0_from_8 (by decide) ?_
  refine rz_icmp_ge (t := 78) dX0_from_10 rfl (by omega) (by omega) (fun q => absurd q (by decide)) (fun _ => ?_)
  refine rz_iload dX0_from_13 rfl ?_
  refine rz_if_lt (t := 78) dX0_from_15 rfl (by omega) (fun q => absurd q (by decide)) (fun _ => ?_)
  refine rz_gets1 dX0_from_18 kf_RX0_43 ?_
  refine rz_iload dX0_from_21 rfl ?_
  refine rz_iconst dX0_from_23 ?_
  refine rz_imul dX0_from_24 ?_
  refine rz_iload_n dX0_from_25 rfl ?_
  refine rz_iadd dX0_from_26 ?_
  refine rz_tld1 (z := 0) dX0_from_27 (by decide) rfl ?_
  refine rz_istore (ls' := [some (.ref 63), some (zi 6), some (zi 2), some (zi x), some (zi d), some (zi 6), some (zi 0), some (zi 0)]) dX0_from_28 (by decide) rfl ?_
  refine rz_iload dX0_from_30 rfl ?_
  refine rz_if_eq (t := 64) dX0_from_32 rfl (by omega) (fun _ => ?_) (fun q => absurd q (by decide))
  refine rz_gets0 dX0_from_64 kf_RX0_29 ?_
  refine rz_iload dX0_from_67 rfl ?_
  refine rz_tld0 (z := 0) dX0_from_69 (by decide) rfl ?_
  refine rz_istore dX0_from_70 (by decide) rfl ?_
  refine rz_iinc (z := 1) dX0_from_72 (by decide) rfl rfl rfl ?_
  refine rz_goto (t := 6) dX0_from_75 rfl ?_
  refine rz_iload dX0_from_6 rfl ?_
  refine rz_bipush dX0_from_8 (by decide) ?_
  refine rz_icmp_ge (t := 78) dX0_from_10 rfl (by omega) (by omega) (fun q => absurd q (by decide)) (fun _ => ?_)
  refine rz_iload dX0_from_13 rfl ?_
  refine rz_if_lt (t := 78) dX0_from_15 rfl (by omega) (fun q => absurd q (by decide)) (fun _ => ?_)
  refine rz_gets1 dX0_from_18 kf_RX0_43 ?_
  refine rz_iload dX0_from_21 rfl ?_
  refine rz_iconst dX0_from_23 ?_
  refine rz_imul dX0_from_24 ?_
  refine rz_iload_n dX0_from_25 rfl ?_
  refine rz_iadd dX0_from_26 ?_
  refine rz_tld1 (z := 11) dX0_from_27 (by decide) rfl ?_
  refine rz_istore (ls' := [some (.ref 63), some (zi 6), some (zi 2), some (zi x), some (zi d), some (zi 0), some (zi 1), some (zi 11)]) dX0_from_28 (by decide) rfl ?_
  refine rz_iload dX0_from_30 rfl ?_
  refine rz_if_eq (t := 64) dX0_from_32 rfl (by omega) (fun q => absurd q (by decide)) (fun _ => ?_)
  refine rz_iload dX0_from_35 rfl ?_
  refine rz_bipush dX0_from_37 (by decide) ?_
  refine rz_icmp_ge (t := 62) dX0_from_39 rfl (by omega) (by omega) (fun c39 => ?_) (fun c39 => ?_)
  · exfalso; omega
  · refine rz_aload_n dX0_from_42 rfl ?_
    refine rz_iload dX0_from_43 rfl ?_
    refine rz_gets0 dX0_from_45 kf_RX0_29 ?_
    refine rz_iload dX0_from_48 rfl ?_
    refine rz_tld0 (z := (-1)) dX0_from_50 (by decide) rfl ?_
    refine rz_iload_n dX0_from_51 rfl ?_
    refine rz_iload dX0_from_52 rfl ?_
    refine rz_iconst dX0_from_54 ?_
    refine rz_iadd dX0_from_55 ?_
    refine rz_cVI dX0_from_56 kl_RX0_46 hd_63 ⟨_, _, rfl⟩ (c_X0_run_6_11_m1 X _ I J x (d + 1) (by (try simp only [trM_R, stM_R, trR_R, stR_R, List.length_cons, List.length_nil]); omega) hk ha (by omega)) rfl rfl (Nat.le_of_ble_eq_true rfl) (Nat.le_of_ble_eq_true rfl) ?_
    refine rz_goto (t := 63) dX0_from_59 rfl ?_
    refine rz_iret dX0_from_63 rfl ?_
    exact ⟨_, rfl, rfl, rfl, rfl⟩
set_option maxRecDepth 20000 in
set_option maxHeartbeats 400000 in
theorem c_X0_own_6_2 (X : pX) (h : Nat) (I J : IM) (x d : Int) (hR : 0 ≤ I 63 1 ∧ I 63 1 ≤ 23) (hk : I 65 (I 63 4).toNat = 6) (ha : 0 ≤ I 63 4 ∧ I 63 4 < 50) (hd : 0 ≤ d ∧ d ≤ 39) : KI X (h + 2) mX0_own [.ref 63, zi 2, zi x, zi d] I J ((xorZ x (I 63 4))) (trM I [11]) J := by
  show Rz X (h + 2) mX0_own 0 [some (.ref 63), some (zi 2), some (zi x), some (zi d)] [] I J _
  refine rz_aload_n dX0_own_0 rfl ?_
  refine rz_aload_n dX0_own_1 rfl ?_
  refine rz_getR dX0_own_2 kf_RX0_13 hd_63 rfl rr_63_3 ?_
  refine rz_aload_n dX0_own_5 rfl ?_
  refine rz_getI (z := (I 63 4)) dX0_own_6 kf_RX0_32 hd_63 rfl rfl ?_
  refine rz_iald (z := 6) dX0_own_9 hd_65 (by decide) (by omega) hk ?_
  refine rz_iload_n dX0_own_10 rfl ?_
  refine rz_iload_n dX0_own_11 rfl ?_
  refine rz_iload_n dX0_own_12 rfl ?_
  refine rz_cVI dX0_own_13 kl_RX0_39 hd_63 ⟨_, _, rfl⟩ (c_X0_from_6_6_2 X _ I J x d (by (try simp only [trM_R, stM_R, trR_R, stR_R, List.length_cons, List.length_nil]); omega) hk ha (by omega)) rfl rfl (Nat.le_of_ble_eq_true rfl) (Nat.le_of_ble_eq_true rfl) ?_
  refine rz_iret dX0_own_16 rfl ?_
  exact ⟨_, rfl, rfl, rfl, rfl⟩
set_option maxRecDepth 20000 in
set_option maxHeartbeats 400000 in
theorem c_perform_6_2 (X : pX) (h : Nat) (I J : IM) (n x : Int) (hn : 0 ≤ n ∧ n < I 63 0) (hb : I 63 0 ≤ 50) (hk : I 65 n.toNat = 6) : KI X (h + 3) mX0_perform [.ref 63, zi n, zi 2, zi x] I J ((xorZ x n)) (trM (pfM I n) [11]) J := by
  show Rz X (h + 3) mX0_perform 0 [some (.ref 63), some (zi n), some (zi 2), some (zi x)] [] I J _
  refine rz_aload_n dX0_perform_0 rfl ?_
  refine rz_iconst dX0_perform_1 ?_
  refine rz_putI dX0_perform_2 kp_RX0_20 hd_63 rfl ?_
  refine rz_iload_n dX0_perform_5 rfl ?_
  refine rz_if_lt (t := 26) dX0_perform_6 rfl (by omega) (fun c6 => ?_) (fun c6 => ?_)
  · refine rz_iconst dX0_perform_26 ?_
    refine rz_iret dX0_perform_27 rfl ?_
    exfalso; omega
  · refine rz_iload_n dX0_perform_9 rfl ?_
    refine rz_aload_n dX0_perform_10 rfl ?_
    refine rz_getI (z := (I 63 0)) dX0_perform_11 kf_RX0_16 hd_63 rfl rfl ?_
    refine rz_icmp_ge (t := 26) dX0_perform_14 rfl (by omega) (by omega) (fun c14 => ?_) (fun c14 => ?_)
    · refine rz_iconst dX0_perform_26 ?_
      refine rz_iret dX0_perform_27 rfl ?_
      exfalso; omega
    · refine rz_iload_n dX0_perform_17 rfl ?_
      refine rz_if_lt (t := 26) dX0_perform_18 rfl (by omega) (fun q => absurd q (by decide)) (fun _ => ?_)
      refine rz_iload_n dX0_perform_21 rfl ?_
      refine rz_iconst dX0_perform_22 ?_
      refine rz_icmp_le (t := 28) dX0_perform_23 rfl (by omega) (by omega) (fun _ => ?_) (fun q => absurd q (by decide))
      refine rz_aload_n dX0_perform_28 rfl ?_
      refine rz_iload_n dX0_perform_29 rfl ?_
      refine rz_putI dX0_perform_30 kp_RX0_32 hd_63 rfl ?_
      refine rz_mem (I' := (pfM I n)) (J' := J) (rfl) (rfl) ?_
      refine rz_aload_n dX0_perform_33 rfl ?_
      refine rz_iload_n dX0_perform_34 rfl ?_
      refine rz_iload_n dX0_perform_35 rfl ?_
      refine rz_iconst dX0_perform_36 ?_
      refine rz_cVI dX0_perform_37 kl_RX0_35 hd_63 ⟨_, _, rfl⟩ (c_X0_own_6_2 X _ (pfM I n) J x 0 (by show (0 : Int) ≤ 0 ∧ (0 : Int) ≤ _; omega) hk (by show 0 ≤ n ∧ n < 50; omega) (by omega)) rfl rfl (Nat.le_of_ble_eq_true rfl) (Nat.le_of_ble_eq_true rfl) ?_
      refine rz_iret dX0_perform_40 rfl ?_
      exact ⟨_, rfl, rfl, rfl, rfl⟩
set_option maxRecDepth 20000 in
set_option maxHeartbeats 400000 in
theorem c_X0_run_6_2_m1 (X : pX) (h : Nat) (I J : IM) (x d : Int) (hR : 0 ≤ I 63 1 ∧ I 63 1 ≤ 19) (hk : I 65 (I 63 4).toNat = 6) (ha : 0 ≤ I 63 4 ∧ I 63 4 < 50) (hd : 0 ≤ d ∧ d ≤ 37) : KI X (h + 8) mX0_run [.ref 63, zi 2, zi (-1), zi x, zi d] I J (((((x + (I 63 4)) * 2) * 2) - (xorZ 1 (I 63 4)))) (trM I [2, 10, 70, 1, 11]) J := by
  show Rz X (h + 8) mX0_run 0 [some (.ref 63), some (zi 2), some (zi (-1)), some (zi x), some (zi d)] [] I J _
  refine rz_aload_n dX0_run_0 rfl ?_
  refine rz_getI (z := (I 63 1)) dX0_run_1 kf_RX0_20 hd_63 rfl rfl ?_
  refine rz_bipush dX0_run_4 (by decide) ?_
  refine rz_icmp_ge (t := 19) dX0_run_6 rfl (by omega) (by omega) (fun c6 => ?_) (fun c6 => ?_)
  · exfalso; omega
  · refine rz_aload_n dX0_run_9 rfl ?_
    refine rz_getR dX0_run_10 kf_RX0_9 hd_63 rfl rr_63_2 ?_
    refine rz_aload_n dX0_run_13 rfl ?_
    refine rz_getI (z := (I 63 1)) dX0_run_14 kf_RX0_20 hd_63 rfl rfl ?_
    refine rz_iload_n dX0_run_17 rfl ?_
    refine rz_iast dX0_run_18 hd_64 (by decide) (by omega) ?_
    refine rz_aload_n dX0_run_19 rfl ?_
    refine rz_dup dX0_run_20 rfl ?_
    refine rz_getI (z := (I 63 1)) dX0_run_21 kf_RX0_20 hd_63 rfl rfl ?_
    refine rz_iconst dX0_run_24 ?_
    refine rz_iadd dX0_run_25 ?_
    refine rz_putI dX0_run_26 kp_RX0_20 hd_63 rfl ?_
    refine rz_mem (I' := (stM I 2)) (J' := J) (rfl) (rfl) ?_
    refine rz_iload_n dX0_run_29 rfl ?_
    refine rz_lookup (t := 151) (off := 121) dX0_run_30 (by omega) (by decide) (by decide) rfl ?_
    refine rz_aload_n dX0_run_151 rfl ?_
    refine rz_iconst dX0_run_152 ?_
    refine rz_iload_n dX0_run_153 rfl ?_
    refine rz_iload dX0_run_154 rfl ?_
    refine rz_cVI dX0_run_156 kl_RX0_35 hd_63 ⟨_, _, rfl⟩ (c_X0_own_6_1 X _ (stM I 2) J x d (by (try simp only [trM_R, stM_R, trR_R, stR_R, List.length_cons, List.length_nil]); omega) hk ha (by omega)) rfl rfl (Nat.le_of_ble_eq_true rfl) (Nat.le_of_ble_eq_true rfl) ?_
    refine rz_aload_n dX0_run_159 rfl ?_
    refine rz_iconst dX0_run_160 ?_
    refine rz_iconst dX0_run_161 ?_
    refine rz_iload dX0_run_162 rfl ?_
    refine rz_cVI dX0_run_164 kl_RX0_35 hd_63 ⟨_, _, rfl⟩ (c_X0_own_6_2 X _ (trM (stM I 2) [10, 70, 1]) J 1 d (by (try simp only [trM_R, stM_R, trR_R, stR_R, List.length_cons, List.length_nil]); omega) hk ha (by omega)) rfl rfl (Nat.le_of_ble_eq_true rfl) (Nat.le_of_ble_eq_true rfl) ?_
    refine rz_isub dX0_run_167 ?_
    refine rz_iret dX0_run_168 rfl ?_
    exact ⟨_, rfl, rfl, rfl, rfl⟩
set_option maxRecDepth 20000 in
set_option maxHeartbeats 400000 in
theorem c_X0_from_6_6_3 (X : pX) (h : Nat) (I J : IM) (x d : Int) (hR : 0 ≤ I 63 1 ∧ I 63 1 ≤ 19) (hk : I 65 (I 63 4).toNat = 6) (ha : 0 ≤ I 63 4 ∧ I 63 4 < 50) (hd : 0 ≤ d ∧ d ≤ 36) : KI X (h + 9) mX0_from [.ref 63, zi 6, zi 3, zi x, zi d] I J (((((x + (I 63 4)) * 2) * 2) - (xorZ 1 (I 63 4)))) (trM I [2, 10, 70, 1, 11]) J := by
  show Rz X (h + 9) mX0_from 0 [some (.ref 63), some (zi 6), some (zi 3), some (zi x), some (zi d), none, none, none] [] I J _
  refine rz_iload_n dX0_from_0 rfl ?_
  refine rz_istore dX0_from_1 (by decide) rfl ?_
  refine rz_iconst dX0_from_3 ?_
  refine rz_istore dX0_from_4 (by decide) rfl ?_
  refine rz_iload dX0_from_6 rfl ?_
  refine rz_bipush dX0_from_8 (by decide) ?_
  refine rz_icmp_ge (t := 78) dX0_from_10 rfl (by omega) (by omega) (fun q => absurd q (by decide)) (fun _ => ?_)
  refine rz_iload dX0_from_13 rfl ?_
  refine rz_if_lt (t := 78) dX0_from_15 rfl (by omega) (fun q => absurd q (by decide)) (fun _ => ?_)
  refine rz_gets1 dX0_from_18 kf_RX0_43 ?_
  refine rz_iload dX0_from_21 rfl ?_
  refine rz_iconst dX0_from_23 ?_
  refine rz_imul dX0_from_24 ?_
  refine rz_iload_n dX0_from_25 rfl ?_
  refine rz_iadd dX0_from_26 ?_
  refine rz_tld1 (z := 0) dX0_from_27 (by decide) rfl ?_
  refine rz_istore (ls' := [some (.ref 63), some (zi 6), some (zi 3), some (zi x), some (zi d), some (zi 6), some (zi 0), some (zi 0)]) dX0_from_28 (by decide) rfl ?_
  refine rz_iload dX0_from_30 rfl ?_
  refine rz_if_eq (t := 64) dX0_from_32 rfl (by omega) (fun _ => ?_) (fun q => absurd q (by decide))
  refine rz_gets0 dX0_from_64 kf_RX0_29 ?_
  refine rz_iload dX0_from_67 rfl ?_
  refine rz_tld0 (z := 0) dX0_from_69 (by decide) rfl ?_
  refine rz_istore dX0_from_70 (by decide) rfl ?_
  refine rz_iinc (z := 1) dX0_from_72 (by decide) rfl rfl rfl ?_
  refine rz_goto (t := 6) dX0_from_75 rfl ?_
  refine rz_iload dX0_from_6 rfl ?_
  refine rz_bipush dX0_from_8 (by decide) ?_
  refine rz_icmp_ge (t := 78) dX0_from_10 rfl (by omega) (by omega) (fun q => absurd q (by decide)) (fun _ => ?_)
  refine rz_iload dX0_from_13 rfl ?_
  refine rz_if_lt (t := 78) dX0_from_15 rfl (by omega) (fun q => absurd q (by decide)) (fun _ => ?_)
  refine rz_gets1 dX0_from_18 kf_RX0_43 ?_
  refine rz_iload dX0_from_21 rfl ?_
  refine rz_iconst dX0_from_23 ?_
  refine rz_imul dX0_from_24 ?_
  refine rz_iload_n dX0_from_25 rfl ?_
  refine rz_iadd dX0_from_26 ?_
  refine rz_tld1 (z := 2) dX0_from_27 (by decide) rfl ?_
  refine rz_istore (ls' := [some (.ref 63), some (zi 6), some (zi 3), some (zi x), some (zi d), some (zi 0), some (zi 1), some (zi 2)]) dX0_from_28 (by decide) rfl ?_
  refine rz_iload dX0_from_30 rfl ?_
  refine rz_if_eq (t := 64) dX0_from_32 rfl (by omega) (fun q => absurd q (by decide)) (fun _ => ?_)
  refine rz_iload dX0_from_35 rfl ?_
  refine rz_bipush dX0_from_37 (by decide) ?_
  refine rz_icmp_ge (t := 62) dX0_from_39 rfl (by omega) (by omega) (fun c39 => ?_) (fun c39 => ?_)
  · exfalso; omega
  · refine rz_aload_n dX0_from_42 rfl ?_
    refine rz_iload dX0_from_43 rfl ?_
    refine rz_gets0 dX0_from_45 kf_RX0_29 ?_
    refine rz_iload dX0_from_48 rfl ?_
    refine rz_tld0 (z := (-1)) dX0_from_50 (by decide) rfl ?_
    refine rz_iload_n dX0_from_51 rfl ?_
    refine rz_iload dX0_from_52 rfl ?_
    refine rz_iconst dX0_from_54 ?_
    refine rz_iadd dX0_from_55 ?_
    refine rz_cVI dX0_from_56 kl_RX0_46 hd_63 ⟨_, _, rfl⟩ (c_X0_run_6_2_m1 X _ I J x (d + 1) (by (try simp only [trM_R, stM_R, trR_R, stR_R, List.length_cons, List.length_nil]); omega) hk ha (by omega)) rfl rfl (Nat.le_of_ble_eq_true rfl) (Nat.le_of_ble_eq_true rfl) ?_
    refine rz_goto (t := 63) dX0_from_59 rfl ?_
    refine rz_iret dX0_from_63 rfl ?_
    exact ⟨_, rfl, rfl, rfl, rfl⟩
set_option maxRecDepth 20000 in
set_option maxHeartbeats 400000 in
theorem c_X0_own_6_3 (X : pX) (h : Nat) (I J : IM) (x d : Int) (hR : 0 ≤ I 63 1 ∧ I 63 1 ≤ 19) (hk : I 65 (I 63 4).toNat = 6) (ha : 0 ≤ I 63 4 ∧ I 63 4 < 50) (hd : 0 ≤ d ∧ d ≤ 36) : KI X (h + 10) mX0_own [.ref 63, zi 3, zi x, zi d] I J (((((x + (I 63 4)) * 2) * 2) - (xorZ 1 (I 63 4)))) (trM I [2, 10, 70, 1, 11]) J := by
  show Rz X (h + 10) mX0_own 0 [some (.ref 63), some (zi 3), some (zi x), some (zi d)] [] I J _
  refine rz_aload_n dX0_own_0 rfl ?_
  refine rz_aload_n dX0_own_1 rfl ?_
  refine rz_getR dX0_own_2 kf_RX0_13 hd_63 rfl rr_63_3 ?_
  refine rz_aload_n dX0_own_5 rfl ?_
  refine rz_getI (z := (I 63 4)) dX0_own_6 kf_RX0_32 hd_63 rfl rfl ?_
  refine rz_iald (z := 6) dX0_own_9 hd_65 (by decide) (by omega) hk ?_
  refine rz_iload_n dX0_own_10 rfl ?_
  refine rz_iload_n dX0_own_11 rfl ?_
  refine rz_iload_n dX0_own_12 rfl ?_
  refine rz_cVI dX0_own_13 kl_RX0_39 hd_63 ⟨_, _, rfl⟩ (c_X0_from_6_6_3 X _ I J x d (by (try simp only [trM_R, stM_R, trR_R, stR_R, List.length_cons, List.length_nil]); omega) hk ha (by omega)) rfl rfl (Nat.le_of_ble_eq_true rfl) (Nat.le_of_ble_eq_true rfl) ?_
  refine rz_iret dX0_own_16 rfl ?_
  exact ⟨_, rfl, rfl, rfl, rfl⟩
set_option maxRecDepth 20000 in
set_option maxHeartbeats 400000 in
theorem c_perform_6_3 (X : pX) (h : Nat) (I J : IM) (n x : Int) (hn : 0 ≤ n ∧ n < I 63 0) (hb : I 63 0 ≤ 50) (hk : I 65 n.toNat = 6) : KI X (h + 11) mX0_perform [.ref 63, zi n, zi 3, zi x] I J (((((x + n) * 2) * 2) - (xorZ 1 n))) (trM (pfM I n) [2, 10, 70, 1, 11]) J := by
  show Rz X (h + 11) mX0_perform 0 [some (.ref 63), some (zi n), some (zi 3), some (zi x)] [] I J _
  refine rz_aload_n dX0_perform_0 rfl ?_
  refine rz_iconst dX0_perform_1 ?_
  refine rz_putI dX0_perform_2 kp_RX0_20 hd_63 rfl ?_
  refine rz_iload_n dX0_perform_5 rfl ?_
  refine rz_if_lt (t := 26) dX0_perform_6 rfl (by omega) (fun c6 => ?_) (fun c6 => ?_)
  · refine rz_iconst dX0_perform_26 ?_
    refine rz_iret dX0_perform_27 rfl ?_
    exfalso; omega
  · refine rz_iload_n dX0_perform_9 rfl ?_
    refine rz_aload_n dX0_perform_10 rfl ?_
    refine rz_getI (z := (I 63 0)) dX0_perform_11 kf_RX0_16 hd_63 rfl rfl ?_
    refine rz_icmp_ge (t := 26) dX0_perform_14 rfl (by omega) (by omega) (fun c14 => ?_) (fun c14 => ?_)
    · refine rz_iconst dX0_perform_26 ?_
      refine rz_iret dX0_perform_27 rfl ?_
      exfalso; omega
    · refine rz_iload_n dX0_perform_17 rfl ?_
      refine rz_if_lt (t := 26) dX0_perform_18 rfl (by omega) (fun q => absurd q (by decide)) (fun _ => ?_)
      refine rz_iload_n dX0_perform_21 rfl ?_
      refine rz_iconst dX0_perform_22 ?_
      refine rz_icmp_le (t := 28) dX0_perform_23 rfl (by omega) (by omega) (fun _ => ?_) (fun q => absurd q (by decide))
      refine rz_aload_n dX0_perform_28 rfl ?_
      refine rz_iload_n dX0_perform_29 rfl ?_
      refine rz_putI dX0_perform_30 kp_RX0_32 hd_63 rfl ?_
      refine rz_mem (I' := (pfM I n)) (J' := J) (rfl) (rfl) ?_
      refine rz_aload_n dX0_perform_33 rfl ?_
      refine rz_iload_n dX0_perform_34 rfl ?_
      refine rz_iload_n dX0_perform_35 rfl ?_
      refine rz_iconst dX0_perform_36 ?_
      refine rz_cVI dX0_perform_37 kl_RX0_35 hd_63 ⟨_, _, rfl⟩ (c_X0_own_6_3 X _ (pfM I n) J x 0 (by show (0 : Int) ≤ 0 ∧ (0 : Int) ≤ _; omega) hk (by show 0 ≤ n ∧ n < 50; omega) (by omega)) rfl rfl (Nat.le_of_ble_eq_true rfl) (Nat.le_of_ble_eq_true rfl) ?_
      refine rz_iret dX0_perform_40 rfl ?_
      exact ⟨_, rfl, rfl, rfl, rfl⟩
set_option maxRecDepth 20000 in
set_option maxHeartbeats 400000 in
theorem c_X0_run_7_1_m1 (X : pX) (h : Nat) (I J : IM) (x d : Int) (hR : 0 ≤ I 63 1 ∧ I 63 1 ≤ 23) (hk : I 65 (I 63 4).toNat = 7) (ha : 0 ≤ I 63 4 ∧ I 63 4 < 50) (hd : 0 ≤ d ∧ d ≤ 100) : KI X h mX0_run [.ref 63, zi 1, zi (-1), zi x, zi d] I J ((x + (I 63 4))) (trM I [1]) J := by
  show Rz X h mX0_run 0 [some (.ref 63), some (zi 1), some (zi (-1)), some (zi x), some (zi d)] [] I J _
  refine rz_aload_n dX0_run_0 rfl ?_
  refine rz_getI (z := (I 63 1)) dX0_run_1 kf_RX0_20 hd_63 rfl rfl ?_
  refine rz_bipush dX0_run_4 (by decide) ?_
  refine rz_icmp_ge (t := 19) dX0_run_6 rfl (by omega) (by omega) (fun c6 => ?_) (fun c6 => ?_)
  · exfalso; omega
  · refine rz_aload_n dX0_run_9 rfl ?_
    refine rz_getR dX0_run_10 kf_RX0_9 hd_63 rfl rr_63_2 ?_
    refine rz_aload_n dX0_run_13 rfl ?_
    refine rz_getI (z := (I 63 1)) dX0_run_14 kf_RX0_20 hd_63 rfl rfl ?_
    refine rz_iload_n dX0_run_17 rfl ?_
    refine rz_iast dX0_run_18 hd_64 (by decide) (by omega) ?_
    refine rz_aload_n dX0_run_19 rfl ?_
    refine rz_dup dX0_run_20 rfl ?_
    refine rz_getI (z := (I 63 1)) dX0_run_21 kf_RX0_20 hd_63 rfl rfl ?_
    refine rz_iconst dX0_run_24 ?_
    refine rz_iadd dX0_run_25 ?_
    refine rz_putI dX0_run_26 kp_RX0_20 hd_63 rfl ?_
    refine rz_mem (I' := (stM I 1)) (J' := J) (rfl) (rfl) ?_
    refine rz_iload_n dX0_run_29 rfl ?_
    refine rz_lookup (t := 144) (off := 114) dX0_run_30 (by omega) (by decide) (by decide) rfl ?_
    refine rz_iload_n dX0_run_144 rfl ?_
    refine rz_aload_n dX0_run_145 rfl ?_
    refine rz_getI (z := (I 63 4)) dX0_run_146 kf_RX0_32 hd_63 rfl rfl ?_
    refine rz_iadd dX0_run_149 ?_
    refine rz_iret dX0_run_150 rfl ?_
    exact ⟨_, rfl, rfl, rfl, rfl⟩
set_option maxRecDepth 20000 in
set_option maxHeartbeats 400000 in
theorem c_X0_from_7_0_0 (X : pX) (h : Nat) (I J : IM) (x d : Int) (hR : 0 ≤ I 63 1 ∧ I 63 1 ≤ 23) (hk : I 65 (I 63 4).toNat = 7) (ha : 0 ≤ I 63 4 ∧ I 63 4 < 50) (hd : 0 ≤ d ∧ d ≤ 39) : KI X (h + 1) mX0_from [.ref 63, zi 0, zi 0, zi x, zi d] I J ((x + (I 63 4))) (trM I [1]) J := by
  show Rz X (h + 1) mX0_from 0 [some (.ref 63), some (zi 0), some (zi 0), some (zi x), some (zi d), none, none, none] [] I J _
  refine rz_iload_n dX0_from_0 rfl ?_
  refine rz_istore dX0_from_1 (by decide) rfl ?_
  refine rz_iconst dX0_from_3 ?_
  refine rz_istore dX0_from_4 (by decide) rfl ?_
  refine rz_iload dX0_from_6 rfl ?_
  refine rz_bipush dX0_from_8 (by decide) ?_
  refine rz_icmp_ge (t := 78) dX0_from_10 rfl (by omega) (by omega) (fun q => absurd q (by decide)) (fun _ => ?_)
  refine rz_iload dX0_from_13 rfl ?_
  refine rz_if_lt (t := 78) dX0_from_15 rfl (by omega) (fun q => absurd q (by decide)) (fun _ => ?_)
  refine rz_gets1 dX0_from_18 kf_RX0_43 ?_
  refine rz_iload dX0_from_21 rfl ?_
  refine rz_iconst dX0_from_23 ?_
  refine rz_imul dX0_from_24 ?_
  refine rz_iload_n dX0_from_25 rfl ?_
  refine rz_iadd dX0_from_26 ?_
  refine rz_tld1 (z := 1) dX0_from_27 (by decide) rfl ?_
  refine rz_istore (ls' := [some (.ref 63), some (zi 0), some (zi 0), some (zi x), some (zi d), some (zi 0), some (zi 0), some (zi 1)]) dX0_from_28 (by decide) rfl ?_
  refine rz_iload dX0_from_30 rfl ?_
  refine rz_if_eq (t := 64) dX0_from_32 rfl (by omega) (fun q => absurd q (by decide)) (fun _ => ?_)
  refine rz_iload dX0_from_35 rfl ?_
  refine rz_bipush dX0_from_37 (by decide) ?_
  refine rz_icmp_ge (t := 62) dX0_from_39 rfl (by omega) (by omega) (fun c39 => ?_) (fun c39 => ?_)
  · exfalso; omega
  · refine rz_aload_n dX0_from_42 rfl ?_
    refine rz_iload dX0_from_43 rfl ?_
    refine rz_gets0 dX0_from_45 kf_RX0_29 ?_
    refine rz_iload dX0_from_48 rfl ?_
    refine rz_tld0 (z := (-1)) dX0_from_50 (by decide) rfl ?_
    refine rz_iload_n dX0_from_51 rfl ?_
    refine rz_iload dX0_from_52 rfl ?_
    refine rz_iconst dX0_from_54 ?_
    refine rz_iadd dX0_from_55 ?_
    refine rz_cVI dX0_from_56 kl_RX0_46 hd_63 ⟨_, _, rfl⟩ (c_X0_run_7_1_m1 X _ I J x (d + 1) (by (try simp only [trM_R, stM_R, trR_R, stR_R, List.length_cons, List.length_nil]); omega) hk ha (by omega)) rfl rfl (Nat.le_of_ble_eq_true rfl) (Nat.le_of_ble_eq_true rfl) ?_
    refine rz_goto (t := 63) dX0_from_59 rfl ?_
    refine rz_iret dX0_from_63 rfl ?_
    exact ⟨_, rfl, rfl, rfl, rfl⟩
set_option maxRecDepth 20000 in
set_option maxHeartbeats 400000 in
theorem c_X0_run_7_70_0 (X : pX) (h : Nat) (I J : IM) (x d : Int) (hR : 0 ≤ I 63 1 ∧ I 63 1 ≤ 22) (hk : I 65 (I 63 4).toNat = 7) (ha : 0 ≤ I 63 4 ∧ I 63 4 < 50) (hd : 0 ≤ d ∧ d ≤ 39) : KI X (h + 2) mX0_run [.ref 63, zi 70, zi 0, zi x, zi d] I J (((x + (I 63 4)) * 2)) (trM I [70, 1]) J := by
  show Rz X (h + 2) mX0_run 0 [some (.ref 63), some (zi 70), some (zi 0), some (zi x), some (zi d)] [] I J _
  refine rz_aload_n dX0_run_0 rfl ?_
  refine rz_getI (z := (I 63 1)) dX0_run_1 kf_RX0_20 hd_63 rfl rfl ?_
  refine rz_bipush dX0_run_4 (by decide) ?_
  refine rz_icmp_ge (t := 19) dX0_run_6 rfl (by omega) (by omega) (fun c6 => ?_) (fun c6 => ?_)
  · exfalso; omega
  · refine rz_aload_n dX0_run_9 rfl ?_
    refine rz_getR dX0_run_10 kf_RX0_9 hd_63 rfl rr_63_2 ?_
    refine rz_aload_n dX0_run_13 rfl ?_
    refine rz_getI (z := (I 63 1)) dX0_run_14 kf_RX0_20 hd_63 rfl rfl ?_
    refine rz_iload_n dX0_run_17 rfl ?_
    refine rz_iast dX0_run_18 hd_64 (by decide) (by omega) ?_
    refine rz_aload_n dX0_run_19 rfl ?_
    refine rz_dup dX0_run_20 rfl ?_
    refine rz_getI (z := (I 63 1)) dX0_run_21 kf_RX0_20 hd_63 rfl rfl ?_
    refine rz_iconst dX0_run_24 ?_
    refine rz_iadd dX0_run_25 ?_
    refine rz_putI dX0_run_26 kp_RX0_20 hd_63 rfl ?_
    refine rz_mem (I' := (stM I 70)) (J' := J) (rfl) (rfl) ?_
    refine rz_iload_n dX0_run_29 rfl ?_
    refine rz_lookup (t := 277) (off := 247) dX0_run_30 (by omega) (by decide) (by decide) rfl ?_
    refine rz_aload_n dX0_run_277 rfl ?_
    refine rz_iload_n dX0_run_278 rfl ?_
    refine rz_iconst dX0_run_279 ?_
    refine rz_iload_n dX0_run_280 rfl ?_
    refine rz_iload dX0_run_281 rfl ?_
    refine rz_cVI dX0_run_283 kl_RX0_39 hd_63 ⟨_, _, rfl⟩ (c_X0_from_7_0_0 X _ (stM I 70) J x d (by (try simp only [trM_R, stM_R, trR_R, stR_R, List.length_cons, List.length_nil]); omega) hk ha (by omega)) rfl rfl (Nat.le_of_ble_eq_true rfl) (Nat.le_of_ble_eq_true rfl) ?_
    refine rz_iconst dX0_run_286 ?_
    refine rz_imul dX0_run_287 ?_
    refine rz_iret dX0_run_288 rfl ?_
    exact ⟨_, rfl, rfl, rfl, rfl⟩
set_option maxRecDepth 20000 in
set_option maxHeartbeats 400000 in
theorem c_X0_from_7_6_0 (X : pX) (h : Nat) (I J : IM) (x d : Int) (hR : 0 ≤ I 63 1 ∧ I 63 1 ≤ 22) (hk : I 65 (I 63 4).toNat = 7) (ha : 0 ≤ I 63 4 ∧ I 63 4 < 50) (hd : 0 ≤ d ∧ d ≤ 38) : KI X (h + 3) mX0_from [.ref 63, zi 6, zi 0, zi x, zi d] I J (((x + (I 63 4)) * 2)) (trM I [70, 1]) J := by
  show Rz X (h + 3) mX0_from 0 [some (.ref 63), some (zi 6), some (zi 0), some (zi x), some (zi d), none, none, none] [] I J _
  refine rz_iload_n dX0_from_0 rfl ?_
  refine rz_istore dX0_from_1 (by decide) rfl ?_
  refine rz_iconst dX0_from_3 ?_
  refine rz_istore dX0_from_4 (by decide) rfl ?_
  refine rz_iload dX0_from_6 rfl ?_
  refine rz_bipush dX0_from_8 (by decide) ?_
  refine rz_icmp_ge (t := 78) dX0_from_10 rfl (by omega) (by omega) (fun q => absurd q (by decide)) (fun _ => ?_)
  refine rz_iload dX0_from_13 rfl ?_
  refine rz_if_lt (t := 78) dX0_from_15 rfl (by omega) (fun q => absurd q (by decide)) (fun _ => ?_)
  refine rz_gets1 dX0_from_18 kf_RX0_43 ?_
  refine rz_iload dX0_from_21 rfl ?_
  refine rz_iconst dX0_from_23 ?_
  refine rz_imul dX0_from_24 ?_
  refine rz_iload_n dX0_from_25 rfl ?_
  refine rz_iadd dX0_from_26 ?_
  refine rz_tld1 (z := 70) dX0_from_27 (by decide) rfl ?_
  refine rz_istore (ls' := [some (.ref 63), some (zi 6), some (zi 0), some (zi x), some (zi d), some (zi 6), some (zi 0), some (zi 70)]) dX0_from_28 (by decide) rfl ?_
  refine rz_iload dX0_from_30 rfl ?_
  refine rz_if_eq (t := 64) dX0_from_32 rfl (by omega) (fun q => absurd q (by decide)) (fun _ => ?_)
  refine rz_iload dX0_from_35 rfl ?_
  refine rz_bipush dX0_from_37 (by decide) ?_
  refine rz_icmp_ge (t := 62) dX0_from_39 rfl (by omega) (by omega) (fun c39 => ?_) (fun c39 => ?_)
  · exfalso; omega
  · refine rz_aload_n dX0_from_42 rfl ?_
    refine rz_iload dX0_from_43 rfl ?_
    refine rz_gets0 dX0_from_45 kf_RX0_29 ?_
    refine rz_iload dX0_from_48 rfl ?_
    refine rz_tld0 (z := 0) dX0_from_50 (by decide) rfl ?_
    refine rz_iload_n dX0_from_51 rfl ?_
    refine rz_iload dX0_from_52 rfl ?_
    refine rz_iconst dX0_from_54 ?_
    refine rz_iadd dX0_from_55 ?_
    refine rz_cVI dX0_from_56 kl_RX0_46 hd_63 ⟨_, _, rfl⟩ (c_X0_run_7_70_0 X _ I J x (d + 1) (by (try simp only [trM_R, stM_R, trR_R, stR_R, List.length_cons, List.length_nil]); omega) hk ha (by omega)) rfl rfl (Nat.le_of_ble_eq_true rfl) (Nat.le_of_ble_eq_true rfl) ?_
    refine rz_goto (t := 63) dX0_from_59 rfl ?_
    refine rz_iret dX0_from_63 rfl ?_
    exact ⟨_, rfl, rfl, rfl, rfl⟩
set_option maxRecDepth 20000 in
set_option maxHeartbeats 400000 in
theorem c_X0_run_7_81_6 (X : pX) (h : Nat) (I J : IM) (x d : Int) (hR : 0 ≤ I 63 1 ∧ I 63 1 ≤ 21) (hk : I 65 (I 63 4).toNat = 7) (ha : 0 ≤ I 63 4 ∧ I 63 4 < 50) (hd : 0 ≤ d ∧ d ≤ 38) : KI X (h + 4) mX0_run [.ref 63, zi 81, zi 6, zi x, zi d] I J ((((x + (I 63 4)) * 2) - 1)) (trM I [81, 70, 1]) J := by
  show Rz X (h + 4) mX0_run 0 [some (.ref 63), some (zi 81), some (zi 6), some (zi x), some (zi d)] [] I J _
  refine rz_aload_n dX0_run_0 rfl ?_
  refine rz_getI (z := (I 63 1)) dX0_run_1 kf_RX0_20 hd_63 rfl rfl ?_
  refine rz_bipush dX0_run_4 (by decide) ?_
  refine rz_icmp_ge (t := 19) dX0_run_6 rfl (by omega) (by omega) (fun c6 => ?_) (fun c6 => ?_)
  · exfalso; omega
  · refine rz_aload_n dX0_run_9 rfl ?_
    refine rz_getR dX0_run_10 kf_RX0_9 hd_63 rfl rr_63_2 ?_
    refine rz_aload_n dX0_run_13 rfl ?_
    refine rz_getI (z := (I 63 1)) dX0_run_14 kf_RX0_20 hd_63 rfl rfl ?_
    refine rz_iload_n dX0_run_17 rfl ?_
    refine rz_iast dX0_run_18 hd_64 (by decide) (by omega) ?_
    refine rz_aload_n dX0_run_19 rfl ?_
    refine rz_dup dX0_run_20 rfl ?_
    refine rz_getI (z := (I 63 1)) dX0_run_21 kf_RX0_20 hd_63 rfl rfl ?_
    refine rz_iconst dX0_run_24 ?_
    refine rz_iadd dX0_run_25 ?_
    refine rz_putI dX0_run_26 kp_RX0_20 hd_63 rfl ?_
    refine rz_mem (I' := (stM I 81)) (J' := J) (rfl) (rfl) ?_
    refine rz_iload_n dX0_run_29 rfl ?_
    refine rz_lookup (t := 308) (off := 278) dX0_run_30 (by omega) (by decide) (by simp [Op.lookupswitch.offset, *]) rfl ?_
    refine rz_aload_n dX0_run_308 rfl ?_
    refine rz_iload_n dX0_run_309 rfl ?_
    refine rz_iconst dX0_run_310 ?_
    refine rz_iload_n dX0_run_311 rfl ?_
    refine rz_iload dX0_run_312 rfl ?_
    refine rz_cVI dX0_run_314 kl_RX0_39 hd_63 ⟨_, _, rfl⟩ (c_X0_from_7_6_0 X _ (stM I 81) J x d (by (try simp only [trM_R, stM_R, trR_R, stR_R, List.length_cons, List.length_nil]); omega) hk ha (by omega)) rfl rfl (Nat.le_of_ble_eq_true rfl) (Nat.le_of_ble_eq_true rfl) ?_
    refine rz_iconst dX0_run_317 ?_
    refine rz_isub dX0_run_318 ?_
    refine rz_iret dX0_run_319 rfl ?_
    exact ⟨_, rfl, rfl, rfl, rfl⟩
set_option maxRecDepth 20000 in
set_option maxHeartbeats 400000 in
theorem c_X0_from_7_7_0 (X : pX) (h : Nat) (I J : IM) (x d : Int) (hR : 0 ≤ I 63 1 ∧ I 63 1 ≤ 21) (hk : I 65 (I 63 4).toNat = 7) (ha : 0 ≤ I 63 4 ∧ I 63 4 < 50) (hd : 0 ≤ d ∧ d ≤ 37) : KI X (h + 5) mX0_from [.ref 63, zi 7, zi 0, zi x, zi d] I J ((((x + (I 63 4)) * 2) - 1)) (trM I [81, 70, 1]) J := by
  show Rz X (h + 5) mX0_from 0 [some (.ref 63), some (zi 7), some (zi 0), some (zi x), some (zi d), none, none, none] [] I J _
  refine rz_iload_n dX0_from_0 rfl ?_
  refine rz_istore dX0_from_1 (by decide) rfl ?_
  refine rz_iconst dX0_from_3 ?_
  refine rz_istore dX0_from_4 (by decide) rfl ?_
  refine rz_iload dX0_from_6 rfl ?_
  refine rz_bipush dX0_from_8 (by decide) ?_
  refine rz_icmp_ge (t := 78) dX0_from_10 rfl (by omega) (by omega) (fun q => absurd q (by decide)) (fun _ => ?_)
  refine rz_iload dX0_from_13 rfl ?_
  refine rz_if_lt (t := 78) dX0_from_15 rfl (by omega) (fun q => absurd q (by decide)) (fun _ => ?_)
  refine rz_gets1 dX0_from_18 kf_RX0_43 ?_
  refine rz_iload dX0_from_21 rfl ?_
  refine rz_iconst dX0_from_23 ?_
  refine rz_imul dX0_from_24 ?_
  refine rz_iload_n dX0_from_25 rfl ?_
  refine rz_iadd dX0_from_26 ?_
  refine rz_tld1 (z := 81) dX0_from_27 (by decide) rfl ?_
  refine rz_istore (ls' := [some (.ref 63), some (zi 7), some (zi 0), some (zi x), some (zi d), some (zi 7), some (zi 0), some (zi 81)]) dX0_from_28 (by decide) rfl ?_
  refine rz_iload dX0_from_30 rfl ?_
  refine rz_if_eq (t := 64) dX0_from_32 rfl (by omega) (fun q => absurd q (by decide)) (fun _ => ?_)
  refine rz_iload dX0_from_35 rfl ?_
  refine rz_bipush dX0_from_37 (by decide) ?_
  refine rz_icmp_ge (t := 62) dX0_from_39 rfl (by omega) (by omega) (fun c39 => ?_) (fun c39 => ?_)
  · exfalso; omega
  · refine rz_aload_n dX0_from_42 rfl ?_
    refine rz_iload dX0_from_43 rfl ?_
    refine rz_gets0 dX0_from_45 kf_RX0_29 ?_
    refine rz_iload dX0_from_48 rfl ?_
    refine rz_tld0 (z := 6) dX0_from_50 (by decide) rfl ?_
    refine rz_iload_n dX0_from_51 rfl ?_
    refine rz_iload dX0_from_52 rfl ?_
    refine rz_iconst dX0_from_54 ?_
    refine rz_iadd dX0_from_55 ?_
    refine rz_cVI dX0_from_56 kl_RX0_46 hd_63 ⟨_, _, rfl⟩ (c_X0_run_7_81_6 X _ I J x (d + 1) (by (try simp only [trM_R, stM_R, trR_R, stR_R, List.length_cons, List.length_nil]); omega) hk ha (by omega)) rfl rfl (Nat.le_of_ble_eq_true rfl) (Nat.le_of_ble_eq_true rfl) ?_
    refine rz_goto (t := 63) dX0_from_59 rfl ?_
    refine rz_iret dX0_from_63 rfl ?_
    exact ⟨_, rfl, rfl, rfl, rfl⟩
set_option maxRecDepth 20000 in
set_option maxHeartbeats 400000 in
theorem c_X0_own_7_0 (X : pX) (h : Nat) (I J : IM) (x d : Int) (hR : 0 ≤ I 63 1 ∧ I 63 1 ≤ 21) (hk : I 65 (I 63 4).toNat = 7) (ha : 0 ≤ I 63 4 ∧ I 63 4 < 50) (hd : 0 ≤ d ∧ d ≤ 37) : KI X (h + 6) mX0_own [.ref 63, zi 0, zi x, zi d] I J ((((x + (I 63 4)) * 2) - 1)) (trM I [81, 70, 1]) J := by
  show Rz X (h + 6) mX0_own 0 [some (.ref 63), some (zi 0), some (zi x), some (zi d)] [] I J _
  refine rz_aload_n dX0_own_0 rfl ?_
  refine rz_aload_n dX0_own_1 rfl ?_
  refine rz_getR dX0_own_2 kf_RX0_13 hd_63 rfl rr_63_3 ?_
  refine rz_aload_n dX0_own_5 rfl ?_
  refine rz_getI (z := (I 63 4)) dX0_own_6 kf_RX0_32 hd_63 rfl rfl ?_
  refine rz_iald (z := 7) dX0_own_9 hd_65 (by decide) (by omega) hk ?_
  refine rz_iload_n dX0_own_10 rfl ?_
  refine rz_iload_n dX0_own_11 rfl ?_
  refine rz_iload_n dX0_own_12 rfl ?_
  refine rz_cVI dX0_own_13 kl_RX0_39 hd_63 ⟨_, _, rfl⟩ (c_X0_from_7_7_0 X _ I J x d (by (try simp only [trM_R, stM_R, trR_R, stR_R, List.length_cons, List.length_nil]); omega) hk ha (by omega)) rfl rfl (Nat.le_of_ble_eq_true rfl) (Nat.le_of_ble_eq_true rfl) ?_
  refine rz_iret dX0_own_16 rfl ?_
  exact ⟨_, rfl, rfl, rfl, rfl⟩
set_option maxRecDepth 20000 in
set_option maxHeartbeats 400000 in
theorem c_perform_7_0 (X : pX) (h : Nat) (I J : IM) (n x : Int) (hn : 0 ≤ n ∧ n < I 63 0) (hb : I 63 0 ≤ 50) (hk : I 65 n.toNat = 7) : KI X (h + 7) mX0_perform [.ref 63, zi n, zi 0, zi x] I J ((((x + n) * 2) - 1)) (trM (pfM I n) [81, 70, 1]) J := by
  show Rz X (h + 7) mX0_perform 0 [some (.ref 63), some (zi n), some (zi 0), some (zi x)] [] I J _
  refine rz_aload_n dX0_perform_0 rfl ?_
  refine rz_iconst dX0_perform_1 ?_
  refine rz_putI dX0_perform_2 kp_RX0_20 hd_63 rfl ?_
  refine rz_iload_n dX0_perform_5 rfl ?_
  refine rz_if_lt (t := 26) dX0_perform_6 rfl (by omega) (fun c6 => ?_) (fun c6 => ?_)
  · refine rz_iconst dX0_perform_26 ?_
    refine rz_iret dX0_perform_27 rfl ?_
    exfalso; omega
  · refine rz_iload_n dX0_perform_9 rfl ?_
    refine rz_aload_n dX0_perform_10 rfl ?_
    refine rz_getI (z := (I 63 0)) dX0_perform_11 kf_RX0_16 hd_63 rfl rfl ?_
    refine rz_icmp_ge (t := 26) dX0_perform_14 rfl (by omega) (by omega) (fun c14 => ?_) (fun c14 => ?_)
    · refine rz_iconst dX0_perform_26 ?_
      refine rz_iret dX0_perform_27 rfl ?_
      exfalso; omega
    · refine rz_iload_n dX0_perform_17 rfl ?_
      refine rz_if_lt (t := 26) dX0_perform_18 rfl (by omega) (fun q => absurd q (by decide)) (fun _ => ?_)
      refine rz_iload_n dX0_perform_21 rfl ?_
      refine rz_iconst dX0_perform_22 ?_
      refine rz_icmp_le (t := 28) dX0_perform_23 rfl (by omega) (by omega) (fun _ => ?_) (fun q => absurd q (by decide))
      refine rz_aload_n dX0_perform_28 rfl ?_
      refine rz_iload_n dX0_perform_29 rfl ?_
      refine rz_putI dX0_perform_30 kp_RX0_32 hd_63 rfl ?_
      refine rz_mem (I' := (pfM I n)) (J' := J) (rfl) (rfl) ?_
      refine rz_aload_n dX0_perform_33 rfl ?_
      refine rz_iload_n dX0_perform_34 rfl ?_
      refine rz_iload_n dX0_perform_35 rfl ?_
      refine rz_iconst dX0_perform_36 ?_
      refine rz_cVI dX0_perform_37 kl_RX0_35 hd_63 ⟨_, _, rfl⟩ (c_X0_own_7_0 X _ (pfM I n) J x 0 (by show (0 : Int) ≤ 0 ∧ (0 : Int) ≤ _; omega) hk (by show 0 ≤ n ∧ n < 50; omega) (by omega)) rfl rfl (Nat.le_of_ble_eq_true rfl) (Nat.le_of_ble_eq_true rfl) ?_
      refine rz_iret dX0_perform_40 rfl ?_
      exact ⟨_, rfl, rfl, rfl, rfl⟩
set_option maxRecDepth 20000 in
set_option maxHeartbeats 400000 in
theorem c_X0_run_7_10_m1 (X : pX) (h : Nat) (I J : IM) (x d : Int) (hR : 0 ≤ I 63 1 ∧ I 63 1 ≤ 20) (hk : I 65 (I 63 4).toNat = 7) (ha : 0 ≤ I 63 4 ∧ I 63 4 < 50) (hd : 0 ≤ d ∧ d ≤ 37) : KI X (h + 7) mX0_run [.ref 63, zi 10, zi (-1), zi x, zi d] I J (((((x + (I 63 4)) * 2) - 1) * 2)) (trM I [10, 81, 70, 1]) J := by
  show Rz X (h + 7) mX0_run 0 [some (.ref 63), some (zi 10), some (zi (-1)), some (zi x), some (zi d)] [] I J _
  refine rz_aload_n dX0_run_0 rfl ?_
  refine rz_getI (z := (I 63 1)) dX0_run_1 kf_RX0_20 hd_63 rfl rfl ?_
  refine rz_bipush dX0_run_4 (by decide) ?_
  refine rz_icmp_ge (t := 19) dX0_run_6 rfl (by omega) (by omega) (fun c6 => ?_) (fun c6 => ?_)
  · exfalso; omega
  · refine rz_aload_n dX0_run_9 rfl ?_
    refine rz_getR dX0_run_10 kf_RX0_9 hd_63 rfl rr_63_2 ?_
    refine rz_aload_n dX0_run_13 rfl ?_
    refine rz_getI (z := (I 63 1)) dX0_run_14 kf_RX0_20 hd_63 rfl rfl ?_
    refine rz_iload_n dX0_run_17 rfl ?_
    refine rz_iast dX0_run_18 hd_64 (by decide) (by omega) ?_
    refine rz_aload_n dX0_run_19 rfl ?_
    refine rz_dup dX0_run_20 rfl ?_
    refine rz_getI (z := (I 63 1)) dX0_run_21 kf_RX0_20 hd_63 rfl rfl ?_
    refine rz_iconst dX0_run_24 ?_
    refine rz_iadd dX0_run_25 ?_
    refine rz_putI dX0_run_26 kp_RX0_20 hd_63 rfl ?_
    refine rz_mem (I' := (stM I 10)) (J' := J) (rfl) (rfl) ?_
    refine rz_iload_n dX0_run_29 rfl ?_
    refine rz_lookup (t := 169) (off := 139) dX0_run_30 (by omega) (by decide) (by decide) rfl ?_
    refine rz_aload_n dX0_run_169 rfl ?_
    refine rz_iconst dX0_run_170 ?_
    refine rz_iload_n dX0_run_171 rfl ?_
    refine rz_iload dX0_run_172 rfl ?_
    refine rz_cVI dX0_run_174 kl_RX0_35 hd_63 ⟨_, _, rfl⟩ (c_X0_own_7_0 X _ (stM I 10) J x d (by (try simp only [trM_R, stM_R, trR_R, stR_R, List.length_cons, List.length_nil]); omega) hk ha (by omega)) rfl rfl (Nat.le_of_ble_eq_true rfl) (Nat.le_of_ble_eq_true rfl) ?_
    refine rz_iconst dX0_run_177 ?_
    refine rz_imul dX0_run_178 ?_
    refine rz_iret dX0_run_179 rfl ?_
    exact ⟨_, rfl, rfl, rfl, rfl⟩
set_option maxRecDepth 20000 in
set_option maxHeartbeats 400000 in
theorem c_X0_from_7_6_1 (X : pX) (h : Nat) (I J : IM) (x d : Int) (hR : 0 ≤ I 63 1 ∧ I 63 1 ≤ 20) (hk : I 65 (I 63 4).toNat = 7) (ha : 0 ≤ I 63 4 ∧ I 63 4 < 50) (hd : 0 ≤ d ∧ d ≤ 36) : KI X (h + 8) mX0_from [.ref 63, zi 6, zi 1, zi x, zi d] I J (((((x + (I 63 4)) * 2) - 1) * 2)) (trM I [10, 81, 70, 1]) J := by
  show Rz X (h + 8) mX0_from 0 [some (.ref 63), some (zi 6), some (zi 1), some (zi x), some (zi d), none, none, none] [] I J _
  refine rz_iload_n dX0_from_0 rfl ?_
  refine rz_istore dX0_from_1 (by decide) rfl ?_
  refine rz_iconst dX0_from_3 ?_
  refine rz_istore dX0_from_4 (by decide) rfl ?_
  refine rz_iload dX0_from_6 rfl ?_
  refine rz_bipush dX0_from_8 (by decide) ?_
  refine rz_icmp_ge (t := 78) dX0_from_10 rfl (by omega) (by omega) (fun q => absurd q (by decide)) (fun _ => ?_)
  refine rz_iload dX0_from_13 rfl ?_
  refine rz_if_lt (t := 78) dX0_from_15 rfl (by omega) (fun q => absurd q (by decide)) (fun _ => ?_)
  refine rz_gets1 dX0_from_18 kf_RX0_43 ?_
  refine rz_iload dX0_from_21 rfl ?_
  refine rz_iconst dX0_from_23 ?_
  refine rz_imul dX0_from_24 ?_
  refine rz_iload_n dX0_from_25 rfl ?_
  refine rz_iadd dX0_from_26 ?_
  refine rz_tld1 (z := 0) dX0_from_27 (by decide) rfl ?_
  refine rz_istore (ls' := [some (.ref 63), some (zi 6), some (zi 1), some (zi x), some (zi d), some (zi 6), some (zi 0), some (zi 0)]) dX0_from_28 (by decide) rfl ?_
  refine rz_iload dX0_from_30 rfl ?_
  refine rz_if_eq (t := 64) dX0_from_32 rfl (by omega) (fun _ => ?_) (fun q => absurd q (by decide))
  refine rz_gets0 dX0_from_64 kf_RX0_29 ?_
  refine rz_iload dX0_from_67 rfl ?_
  refine rz_tld0 (z := 0) dX0_from_69 (by decide) rfl ?_
  refine rz_istore dX0_from_70 (by decide) rfl ?_
  refine rz_iinc (z := 1) dX0_from_72 (by decide) rfl rfl rfl ?_
  refine rz_goto (t := 6) dX0_from_75 rfl ?_
  refine rz_iload dX0_from_6 rfl ?_
  refine rz_bipush dX0_from_8 (by decide) ?_
  refine rz_icmp_ge (t := 78) dX0_from_10 rfl (by omega) (by omega) (fun q => absurd q (by decide)) (fun _ => ?_)
  refine rz_iload dX0_from_13 rfl ?_
  refine rz_if_lt (t := 78) dX0_from_15 rfl (by omega) (fun q => absurd q (by decide)) (fun _ => ?_)
  refine rz_gets1 dX0_from_18 kf_RX0_43 ?_
  refine rz_iload dX0_from_21 rfl ?_
  refine rz_iconst dX0_from_23 ?_
  refine rz_imul dX0_from_24 ?_
  refine rz_iload_n dX0_from_25 rfl ?_
  refine rz_iadd dX0_from_26 ?_
  refine rz_tld1 (z := 10) dX0_from_27 (by decide) rfl ?_
  refine rz_istore (ls' := [some (.ref 63), some (zi 6), some (zi 1), some (zi x), some (zi d), some (zi 0), some (zi 1), some (zi 10)]) dX0_from_28 (by decide) rfl ?_
  refine rz_iload dX0_from_30 rfl ?_
  refine rz_if_eq (t := 64) dX0_from_32 rfl (by omega) (fun q => absurd q (by decide)) (fun _ => ?_)
  refine rz_iload dX0_from_35 rfl ?_
  refine rz_bipush dX0_from_37 (by decide) ?_
  refine rz_icmp_ge (t := 62) dX0_from_39 rfl (by omega) (by omega) (fun c39 => ?_) (fun c39 => ?_)
  · exfalso; omega
  · refine rz_aload_n dX0_from_42 rfl ?_
    refine rz_iload dX0_from_43 rfl ?_
    refine rz_gets0 dX0_from_45 kf_RX0_29 ?_
    refine rz_iload dX0_from_48 rfl ?_
    refine rz_tld0 (z := (-1)) dX0_from_50 (by decide) rfl ?_
    refine rz_iload_n dX0_from_51 rfl ?_
    refine rz_iload dX0_from_52 rfl ?_
    refine rz_iconst dX0_from_54 ?_
    refine rz_iadd dX0_from_55 ?_
    refine rz_cVI dX0_from_56 kl_RX0_46 hd_63 ⟨_, _, rfl⟩ (c_X0_run_7_10_m1 X _ I J x (d + 1) (by (try simp only [trM_R, stM_R, trR_R, stR_R, List.length_cons, List.length_nil]); omega) hk ha (by omega)) rfl rfl (Nat.le_of_ble_eq_true rfl) (Nat.le_of_ble_eq_true rfl) ?_
    refine rz_goto (t := 63) dX0_from_59 rfl ?_
    refine rz_iret dX0_from_63 rfl ?_
    exact ⟨_, rfl, rfl, rfl, rfl⟩
set_option maxRecDepth 20000 in
set_option maxHeartbeats 400000 in
theorem c_X0_run_7_11_m1 (X : pX) (h : Nat) (I J : IM) (x d : Int) (hR : 0 ≤ I 63 1 ∧ I 63 1 ≤ 23) (hk : I 65 (I 63 4).toNat = 7) (ha : 0 ≤ I 63 4 ∧ I 63 4 < 50) (hd : 0 ≤ d ∧ d ≤ 100) : KI X h mX0_run [.ref 63, zi 11, zi (-1), zi x, zi d] I J ((xorZ x (I 63 4))) (trM I [11]) J := by
  show Rz X h mX0_run 0 [some (.ref 63), some (zi 11), some (zi (-1)), some (zi x), some (zi d)] [] I J _
  refine rz_aload_n dX0_run_0 rfl ?_
  refine rz_getI (z := (I 63 1)) dX0_run_1 kf_RX0_20 hd_63 rfl rfl ?_
  refine rz_bipush dX0_run_4 (by decide) ?_
  refine rz_icmp_ge (t := 19) dX0_run_6 rfl (by omega) (by omega) (fun c6 => ?_) (fun c6 => ?_)
  · exfalso; omega
  · refine rz_aload_n dX0_run_9 rfl ?_
    refine rz_getR dX0_run_10 kf_RX0_9 hd_63 rfl rr_63_2 ?_
    refine rz_aload_n dX0_run_13 rfl ?_
    refine rz_getI (z := (I 63 1)) dX0_run_14 kf_RX0_20 hd_63 rfl rfl ?_
    refine rz_iload_n dX0_run_17 rfl ?_
    refine rz_iast dX0_run_18 hd_64 (by decide) (by omega) ?_
    refine rz_aload_n dX0_run_19 rfl ?_
    refine rz_dup dX0_run_20 rfl ?_
    refine rz_getI (z := (I 63 1)) dX0_run_21 kf_RX0_20 hd_63 rfl rfl ?_
    refine rz_iconst dX0_run_24 ?_
    refine rz_iadd dX0_run_25 ?_
    refine rz_putI dX0_run_26 kp_RX0_20 hd_63 rfl ?_
    refine rz_mem (I' := (stM I 11)) (J' := J) (rfl) (rfl) ?_
    refine rz_iload_n dX0_run_29 rfl ?_
    refine rz_lookup (t := 180) (off := 150) dX0_run_30 (by omega) (by decide) (by decide) rfl ?_
    refine rz_iload_n dX0_run_180 rfl ?_
    refine rz_aload_n dX0_run_181 rfl ?_
    refine rz_getI (z := (I 63 4)) dX0_run_182 kf_RX0_32 hd_63 rfl rfl ?_
    refine rz_ixor dX0_run_185 ?_
    refine rz_iret dX0_run_186 rfl ?_
    exact ⟨_, rfl, rfl, rfl, rfl⟩
set_option maxRecDepth 20000 in
set_option maxHeartbeats 400000 in
theorem c_X0_from_7_7_2 (X : pX) (h : Nat) (I J : IM) (x d : Int) (hR : 0 ≤ I 63 1 ∧ I 63 1 ≤ 23) (hk : I 65 (I 63 4).toNat = 7) (ha : 0 ≤ I 63 4 ∧ I 63 4 < 50) (hd : 0 ≤ d ∧ d ≤ 39) : KI X (h + 1) mX0_from [.ref 63, zi 7, zi 2, zi x, zi d] I J ((xorZ x (I 63 4))) (trM I [11]) J := by
  show Rz X (h + 1) mX0_from 0 [some (.ref 63), some (zi 7), some (zi 2), some (zi x), some (zi d), none, none, none] [] I J _
  refine rz_iload_n dX0_from_0 rfl ?_
  refine rz_istore dX0_from_1 (by decide) rfl ?_
  refine rz_iconst dX0_from_3 ?_
  refine rz_istore dX0_from_4 (by decide) rfl ?_
  refine rz_iload dX0_from_6 rfl ?_
  refine rz_bipush dX0_from_8 (by decide) ?_
  refine rz_icmp_ge (t := 78) dX0_from_10 rfl (by omega) (by omega) (fun q => absurd q (by decide)) (fun _ => ?_)
  refine rz_iload dX0_from_13 rfl ?_
  refine rz_if_lt (t := 78) dX0_from_15 rfl (by omega) (fun q => absurd q (by decide)) (fun _ => ?_)
  refine rz_gets1 dX0_from_18 kf_RX0_43 ?_
  refine rz_iload dX0_from_21 rfl ?_
  refine rz_iconst dX0_from_23 ?_
  refine rz_imul dX0_from_24 ?_
  refine rz_iload_n dX0_from_25 rfl ?_
  refine rz_iadd dX0_from_26 ?_
  refine rz_tld1 (z := 0) dX0_from_27 (by decide) rfl ?_
  refine rz_istore (ls' := [some (.ref 63), some (zi 7), some (zi 2), some (zi x), some (zi d), some (zi 7), some (zi 0), some (zi 0)]) dX0_from_28 (by decide) rfl ?_
  refine rz_iload dX0_from_30 rfl ?_
  refine rz_if_eq (t := 64) dX0_from_32 rfl (by omega) (fun _ => ?_) (fun q => absurd q (by decide))
  refine rz_gets0 dX0_from_64 kf_RX0_29 ?_
  refine rz_iload dX0_from_67 rfl ?_
  refine rz_tld0 (z := 6) dX0_from_69 (by decide) rfl ?_
  refine rz_istore dX0_from_70 (by decide) rfl ?_
  refine rz_iinc (z := 1) dX0_from_72 (by decide) rfl rfl rfl ?_
  refine rz_goto (t := 6) dX0_from_75 rfl ?_
  refine rz_iload dX0_from_6 rfl ?_
  refine rz_bipush dX0_from_8 (by decide) ?_
  refine rz_icmp_ge (t := 78) dX0_from_10 rfl (by omega) (by omega) (fun q => absurd q (by decide)) (fun _ => ?_)
  refine rz_iload dX0_from_13 rfl ?_
  refine rz_if_lt (t := 78) dX0_from_15 rfl (by omega) (fun q => absurd q (by decide)) (fun _ => ?_)
  refine rz_gets1 dX0_from_18 kf_RX0_43 ?_
  refine rz_iload dX0_from_21 rfl ?_
  refine rz_iconst dX0_from_23 ?_
  refine rz_imul dX0_from_24 ?_
  refine rz_iload_n dX0_from_25 rfl ?_
  refine rz_iadd dX0_from_26 ?_
  refine rz_tld1 (z := 0) dX0_from_27 (by decide) rfl ?_
  refine rz_istore (ls' := [some (.ref 63), some (zi 7), some (zi 2), some (zi x), some (zi d), some (zi 6), some (zi 1), some (zi 0)]) dX0_from_28 (by decide) rfl ?_
  refine rz_iload dX0_from_30 rfl ?_
  refine rz_if_eq (t := 64) dX0_from_32 rfl (by omega) (fun _ => ?_) (fun q => absurd q (by decide))
  refine rz_gets0 dX0_from_64 kf_RX0_29 ?_
  refine rz_iload dX0_from_67 rfl ?_
  refine rz_tld0 (z := 0) dX0_from_69 (by decide) rfl ?_
  refine rz_istore dX0_from_70 (by decide) rfl ?_
  refine rz_iinc (z := 2) dX0_from_72 (by decide) rfl rfl rfl ?_
  refine rz_goto (t := 6) dX0_from_75 rfl ?_
  refine rz_iload dX0_from_6 rfl ?_
  refine rz_bipush dX0_from_8 (by decide) ?_
  refine rz_icmp_ge (t := 78) dX0_from_10 rfl (by omega) (by omega) (fun q => absurd q (by decide)) (fun _ => ?_)
  refine rz_iload dX0_from_13 rfl ?_
  refine rz_if_lt (t := 78) dX0_from_15 rfl (by omega) (fun q => absurd q (by decide)) (fun _ => ?_)
  refine rz_gets1 dX0_from_18 kf_RX0_43 ?_
  refine rz_iload dX0_from_21 rfl ?_
  refine rz_iconst dX0_from_23 ?_
  refine rz_imul dX0_from_24 ?_
  refine rz_iload_n dX0_from_25 rfl ?_
  refine rz_iadd dX0_from_26 ?_
  refine rz_tld1 (z := 11) dX0_from_27 (by decide) rfl ?_
  refine rz_istore (ls' := [some (.ref 63), some (zi 7), some (zi 2), some (zi x), some (zi d), some (zi 0), some (zi 2), some (zi 11)]) dX0_from_28 (by decide) rfl ?_
  refine rz_iload dX0_from_30 rfl ?_
  refine rz_if_eq (t := 64) dX0_from_32 rfl (by omega) (fun q => absurd q (by decide)) (fun _ => ?_)
  refine rz_iload dX0_from_35 rfl ?_
  refine rz_bipush dX0_from_37 (by decide) ?_
  refine rz_icmp_ge (t := 62) dX0_from_39 rfl (by omega) (by omega) (fun c39 => ?_) (fun c39 => ?_)
  · exfalso; omega
  · refine rz_aload_n dX0_from_42 rfl ?_
    refine rz_iload dX0_from_43 rfl ?_
    refine rz_gets0 dX0_from_45 kf_RX0_29 ?_
    refine rz_iload dX0_from_48 rfl ?_
    refine rz_tld0 (z := (-1)) dX0_from_50 (by decide) rfl ?_
    refine rz_iload_n dX0_from_51 rfl ?_
    refine rz_iload dX0_from_52 rfl ?_
    refine rz_iconst dX0_from_54 ?_
    refine rz_iadd dX0_from_55 ?_
    refine rz_cVI dX0_from_56 kl_RX0_46 hd_63 ⟨_, _, rfl⟩ (c_X0_run_7_11_m1 X _ I J x (d + 1) (by (try simp only [trM_R, stM_R, trR_R, stR_R, List.length_cons, List.length_nil]); omega) hk ha (by omega)) rfl rfl (Nat.le_of_ble_eq_true rfl) (Nat.le_of_ble_eq_true rfl) ?_
    refine rz_goto (t := 63) dX0_from_59 rfl ?_
    refine rz_iret dX0_from_63 rfl ?_
    exact ⟨_, rfl, rfl, rfl, rfl⟩
set_option maxRecDepth 20000 in
set_option maxHeartbeats 400000 in
theorem c_X0_own_7_2 (X : pX) (h : Nat) (I J : IM) (x d : Int) (hR : 0 ≤ I 63 1 ∧ I 63 1 ≤ 23) (hk : I 65 (I 63 4).toNat = 7) (ha : 0 ≤ I 63 4 ∧ I 63 4 < 50) (hd : 0 ≤ d ∧ d ≤ 39) : KI X (h + 2) mX0_own [.ref 63, zi 2, zi x, zi d] I J ((xorZ x (I 63 4))) (trM I [11]) J := by
  show Rz X (h + 2) mX0_own 0 [some (.ref 63), some (zi 2), some (zi x), some (zi d)] [] I J _
  refine rz_aload_n dX0_own_0 rfl ?_
  refine rz_aload_n dX0_own_1 rfl ?_
  refine rz_getR dX0_own_2 kf_RX0_13 hd_63 rfl rr_63_3 ?_
  refine rz_aload_n dX0_own_5 rfl ?_
  refine rz_getI (z := (I 63 4)) dX0_own_6 kf_RX0_32 hd_63 rfl rfl ?_
  refine rz_iald (z := 7) dX0_own_9 hd_65 (by decide) (by omega) hk ?_
  refine rz_iload_n dX0_own_10 rfl ?_
  refine rz_iload_n dX0_own_11 rfl ?_
  refine rz_iload_n dX0_own_12 rfl ?_
  refine rz_cVI dX0_own_13 kl_RX0_39 hd_63 ⟨_, _, rfl⟩ (c_X0_from_7_7_2 X _ I J x d (by (try simp only [trM_R, stM_R, trR_R, stR_R, List.length_cons, List.length_nil]); omega) hk ha (by omega)) rfl rfl (Nat.le_of_ble_eq_true rfl) (Nat.le_of_ble_eq_true rfl) ?_
  refine rz_iret dX0_own_16 rfl ?_
  exact ⟨_, rfl, rfl, rfl, rfl⟩
set_option maxRecDepth 20000 in
set_option maxHeartbeats 400000 in
theorem c_X0_run_7_80_6 (X : pX) (h : Nat) (I J : IM) (x d : Int) (hR : 0 ≤ I 63 1 ∧ I 63 1 ≤ 18) (hk : I 65 (I 63 4).toNat = 7) (ha : 0 ≤ I 63 4 ∧ I 63 4 < 50) (hd : 0 ≤ d ∧ d ≤ 36) : KI X (h + 9) mX0_run [.ref 63, zi 80, zi 6, zi x, zi d] I J ((((((x + (I 63 4)) * 2) - 1) * 2) + (xorZ 2 (I 63 4)))) (trM I [80, 10, 81, 70, 1, 11]) J := by
  show Rz X (h + 9) mX0_run 0 [some (.ref 63), some (zi 80), some (zi 6), some (zi x), some (zi d)] [] I J _
  refine rz_aload_n dX0_run_0 rfl ?_
  refine rz_getI (z := (I 63 1)) dX0_run_1 kf_RX0_20 hd_63 rfl rfl ?_
  refine rz_bipush dX0_run_4 (by decide) ?_
  refine rz_icmp_ge (t := 19) dX0_run_6 rfl (by omega) (by omega) (fun c6 => ?_) (fun c6 => ?_)
  · exfalso; omega
  · refine rz_aload_n dX0_run_9 rfl ?_
    refine rz_getR dX0_run_10 kf_RX0_9 hd_63 rfl rr_63_2 ?_
    refine rz_aload_n dX0_run_13 rfl ?_
    refine rz_getI (z := (I 63 1)) dX0_run_14 kf_RX0_20 hd_63 rfl rfl ?_
    refine rz_iload_n dX0_run_17 rfl ?_
    refine rz_iast dX0_run_18 hd_64 (by decide) (by omega) ?_
    refine rz_aload_n dX0_run_19 rfl ?_
    refine rz_dup dX0_run_20 rfl ?_
    refine rz_getI (z := (I 63 1)) dX0_run_21 kf_RX0_20 hd_63 rfl rfl ?_
    refine rz_iconst dX0_run_24 ?_
    refine rz_iadd dX0_run_25 ?_
    refine rz_putI dX0_run_26 kp_RX0_20 hd_63 rfl ?_
    refine rz_mem (I' := (stM I 80)) (J' := J) (rfl) (rfl) ?_
    refine rz_iload_n dX0_run_29 rfl ?_
    refine rz_lookup (t := 289) (off := 259) dX0_run_30 (by omega) (by decide) (by decide) rfl ?_
    refine rz_aload_n dX0_run_289 rfl ?_
    refine rz_iload_n dX0_run_290 rfl ?_
    refine rz_iconst dX0_run_291 ?_
    refine rz_iload_n dX0_run_292 rfl ?_
    refine rz_iload dX0_run_293 rfl ?_
    refine rz_cVI dX0_run_295 kl_RX0_39 hd_63 ⟨_, _, rfl⟩ (c_X0_from_7_6_1 X _ (stM I 80) J x d (by (try simp only [trM_R, stM_R, trR_R, stR_R, List.length_cons, List.length_nil]); omega) hk ha (by omega)) rfl rfl (Nat.le_of_ble_eq_true rfl) (Nat.le_of_ble_eq_true rfl) ?_
    refine rz_aload_n dX0_run_298 rfl ?_
    refine rz_iconst dX0_run_299 ?_
    refine rz_iconst dX0_run_300 ?_
    refine rz_iload dX0_run_301 rfl ?_
    refine rz_cVI dX0_run_303 kl_RX0_35 hd_63 ⟨_, _, rfl⟩ (c_X0_own_7_2 X _ (trM (stM I 80) [10, 81, 70, 1]) J 2 d (by (try simp only [trM_R, stM_R, trR_R, stR_R, List.length_cons, List.length_nil]); omega) hk ha (by omega)) rfl rfl (Nat.le_of_ble_eq_true rfl) (Nat.le_of_ble_eq_true rfl) ?_
    refine rz_iadd dX0_run_306 ?_
    refine rz_iret dX0_run_307 rfl ?_
    exact ⟨_, rfl, rfl, rfl, rfl⟩
set_option maxRecDepth 20000 in
set_option maxHeartbeats 400000 in
theorem c_X0_from_7_7_1 (X : pX) (h : Nat) (I J : IM) (x d : Int) (hR : 0 ≤ I 63 1 ∧ I 63 1 ≤ 18) (hk : I 65 (I 63 4).toNat = 7) (ha : 0 ≤ I 63 4 ∧ I 63 4 < 50) (hd : 0 ≤ d ∧ d ≤ 35) : KI X (h + 10) mX0_from [.ref 63, zi 7, zi 1, zi x, zi d] I J ((((((x + (I 63 4)) * 2) - 1) * 2) + (xorZ 2 (I 63 4)))) (trM I [80, 10, 81, 70, 1, 11]) J := by
  show Rz X (h + 10) mX0_from 0 [some (.ref 63), some (zi 7), some (zi 1), some (zi x), some (zi d), none, none, none] [] I J _
  refine rz_iload_n dX0_from_0 rfl ?_
  refine rz_istore dX0_from_1 (by decide) rfl ?_
  refine rz_iconst dX0_from_3 ?_
  refine rz_istore dX0_from_4 (by decide) rfl ?_
  refine rz_iload dX0_from_6 rfl ?_
  refine rz_bipush dX0_from_8 (by decide) ?_
  refine rz_icmp_ge (t := 78) dX0_from_10 rfl (by omega) (by omega) (fun q => absurd q (by decide)) (fun _ => ?_)
  refine rz_iload dX0_from_13 rfl ?_
  refine rz_if_lt (t := 78) dX0_from_15 rfl (by omega) (fun q => absurd q (by decide)) (fun _ => ?_)
  refine rz_gets1 dX0_from_18 kf_RX0_43 ?_
  refine rz_iload dX0_from_21 rfl ?_
  refine rz_iconst dX0_from_23 ?_
  refine rz_imul dX0_from_24 ?_
  refine rz_iload_n dX0_from_25 rfl ?_
  refine rz_iadd dX0_from_26 ?_
  refine rz_tld1 (z := 80) dX0_from_27 (by decide) rfl ?_
  refine rz_istore (ls' := [some (.ref 63), some (zi 7), some (zi 1), some (zi x), some (zi d), some (zi 7), some (zi 0), some (zi 80)]) dX0_from_28 (by decide) rfl ?_
  refine rz_iload dX0_from_30 rfl ?_
  refine rz_if_eq (t := 64) dX0_from_32 rfl (by omega) (fun q => absurd q (by decide)) (fun _ => ?_)
  refine rz_iload dX0_from_35 rfl ?_
  refine rz_bipush dX0_from_37 (by decide) ?_
  refine rz_icmp_ge (t := 62) dX0_from_39 rfl (by omega) (by omega) (fun c39 => ?_) (fun c39 => ?_)
  · exfalso; omega
  · refine rz_aload_n dX0_from_42 rfl ?_
    refine rz_iload dX0_from_43 rfl ?_
    refine rz_gets0 dX0_from_45 kf_RX0_29 ?_
    refine rz_iload dX0_from_48 rfl ?_
    refine rz_tld0 (z := 6) dX0_from_50 (by decide) rfl ?_
    refine rz_iload_n dX0_from_51 rfl ?_
    refine rz_iload dX0_from_52 rfl ?_
    refine rz_iconst dX0_from_54 ?_
    refine rz_iadd dX0_from_55 ?_
    refine rz_cVI dX0_from_56 kl_RX0_46 hd_63 ⟨_, _, rfl⟩ (c_X0_run_7_80_6 X _ I J x (d + 1) (by (try simp only [trM_R, stM_R, trR_R, stR_R, List.length_cons, List.length_nil]); omega) hk ha (by omega)) rfl rfl (Nat.le_of_ble_eq_true rfl) (Nat.le_of_ble_eq_true rfl) ?_
    refine rz_goto (t := 63) dX0_from_59 rfl ?_
    refine rz_iret dX0_from_63 rfl ?_
    exact ⟨_, rfl, rfl, rfl, rfl⟩
set_option maxRecDepth 20000 in
set_option maxHeartbeats 400000 in
theorem c_X0_own_7_1 (X : pX) (h : Nat) (I J : IM) (x d : Int) (hR : 0 ≤ I 63 1 ∧ I 63 1 ≤ 18) (hk : I 65 (I 63 4).toNat = 7) (ha : 0 ≤ I 63 4 ∧ I 63 4 < 50) (hd : 0 ≤ d ∧ d ≤ 35) : KI X (h + 11) mX0_own [.ref 63, zi 1, zi x, zi d] I J ((((((x + (I 63 4)) * 2) - 1) * 2) + (xorZ 2 (I 63 4)))) (trM I [80, 10, 81, 70, 1, 11]) J := by
  show Rz X (h + 11) mX0_own 0 [some (.ref 63), some (zi 1), some (zi x), some (zi d)] [] I J _
  refine rz_aload_n dX0_own_0 rfl ?_
  refine rz_aload_n dX0_own_1 rfl ?_
  refine rz_getR dX0_own_2 kf_RX0_13 hd_63 rfl rr_63_3 ?_
  refine rz_aload_n dX0_own_5 rfl ?_
  refine rz_getI (z := (I 63 4)) dX0_own_6 kf_RX0_32 hd_63 rfl rfl ?_
  refine rz_iald (z := 7) dX0_own_9 hd_65 (by decide) (by omega) hk ?_
  refine rz_iload_n dX0_own_10 rfl ?_
  refine rz_iload_n dX0_own_11 rfl ?_
  refine rz_iload_n dX0_own_12 rfl ?_
  refine rz_cVI dX0_own_13 kl_RX0_39 hd_63 ⟨_, _, rfl⟩ (c_X0_from_7_7_1 X _ I J x d (by (try simp only [trM_R, stM_R, trR_R, stR_R, List.length_cons, List.length_nil]); omega) hk ha (by omega)) rfl rfl (Nat.le_of_ble_eq_true rfl) (Nat.le_of_ble_eq_true rfl) ?_
  refine rz_iret dX0_own_16 rfl ?_
  exact ⟨_, rfl, rfl, rfl, rfl⟩
set_option maxRecDepth 20000 in
set_option maxHeartbeats 400000 in
theorem c_perform_7_1 (X : pX) (h : Nat) (I J : IM) (n x : Int) (hn : 0 ≤ n ∧ n < I 63 0) (hb : I 63 0 ≤ 50) (hk : I 65 n.toNat = 7) : KI X (h + 12) mX0_perform [.ref 63, zi n, zi 1, zi x] I J ((((((x + n) * 2) - 1) * 2) + (xorZ 2 n))) (trM (pfM I n) [80, 10, 81, 70, 1, 11]) J := by
  show Rz X (h + 12) mX0_perform 0 [some (.ref 63), some (zi n), some (zi 1), some (zi x)] [] I J _
  refine rz_aload_n dX0_perform_0 rfl ?_
  refine rz_iconst dX0_perform_1 ?_
  refine rz_putI dX0_perform_2 kp_RX0_20 hd_63 rfl ?_
  refine rz_iload_n dX0_perform_5 rfl ?_
  refine rz_if_lt (t := 26) dX0_perform_6 rfl (by omega) (fun c6 => ?_) (fun c6 => ?_)
  · refine rz_iconst dX0_perform_26 ?_
    refine rz_iret dX0_perform_27 rfl ?_
    exfalso; omega
  · refine rz_iload_n dX0_perform_9 rfl ?_
    refine rz_aload_n dX0_perform_10 rfl ?_
    refine rz_getI (z := (I 63 0)) dX0_perform_11 kf_RX0_16 hd_63 rfl rfl ?_
    refine rz_icmp_ge (t := 26) dX0_perform_14 rfl (by omega) (by omega) (fun c14 => ?_) (fun c14 => ?_)
    · refine rz_iconst dX0_perform_26 ?_
      refine rz_iret dX0_perform_27 rfl ?_
      exfalso; omega
    · refine rz_iload_n dX0_perform_17 rfl ?_
      refine rz_if_lt (t := 26) dX0_perform_18 rfl (by omega) (fun q => absurd q (by decide)) (fun _ => ?_)
      refine rz_iload_n dX0_perform_21 rfl ?_
      refine rz_iconst dX0_perform_22 ?_
      refine rz_icmp_le (t := 28) dX0_perform_23 rfl (by omega) (by omega) (fun _ => ?_) (fun q => absurd q (by decide))
      refine rz_aload_n dX0_perform_28 rfl ?_
      refine rz_iload_n dX0_perform_29 rfl ?_
      refine rz_putI dX0_perform_30 kp_RX0_32 hd_63 rfl ?_
      refine rz_mem (I' := (pfM I n)) (J' := J) (rfl) (rfl) ?_
      refine rz_aload_n dX0_perform_33 rfl ?_
      refine rz_iload_n dX0_perform_34 rfl ?_
      refine rz_iload_n dX0_perform_35 rfl ?_
      refine rz_iconst dX0_perform_36 ?_
      refine rz_cVI dX0_perform_37 kl_RX0_35 hd_63 ⟨_, _, rfl⟩ (c_X0_own_7_1 X _ (pfM I n) J x 0 (by show (0 : Int) ≤ 0 ∧ (0 : Int) ≤ _; omega) hk (by show 0 ≤ n ∧ n < 50; omega) (by omega)) rfl rfl (Nat.le_of_ble_eq_true rfl) (Nat.le_of_ble_eq_true rfl) ?_
      refine rz_iret dX0_perform_40 rfl ?_
      exact ⟨_, rfl, rfl, rfl, rfl⟩
set_option maxRecDepth 20000 in
set_option maxHeartbeats 400000 in
theorem c_perform_7_2 (X : pX) (h : Nat) (I J : IM) (n x : Int) (hn : 0 ≤ n ∧ n < I 63 0) (hb : I 63 0 ≤ 50) (hk : I 65 n.toNat = 7) : KI X (h + 3) mX0_perform [.ref 63, zi n, zi 2, zi x] I J ((xorZ x n)) (trM (pfM I n) [11]) J := by
  show Rz X (h + 3) mX0_perform 0 [some (.ref 63), some (zi n), some (zi 2), some (zi x)] [] I J _
  refine rz_aload_n dX0_perform_0 rfl ?_
  refine rz_iconst dX0_perform_1 ?_
  refine rz_putI dX0_perform_2 kp_RX0_20 hd_63 rfl ?_
  refine rz_iload_n dX0_perform_5 rfl ?_
  refine rz_if_lt (t := 26) dX0_perform_6 rfl (by omega) (fun c6 => ?_) (fun c6 => ?_)
  · refine rz_iconst dX0_perform_26 ?_
    refine rz_iret dX0_perform_27 rfl ?_
    exfalso; omega
  · refine rz_iload_n dX0_perform_9 rfl ?_
    refine rz_aload_n dX0_perform_10 rfl ?_
    refine rz_getI (z := (I 63 0)) dX0_perform_11 kf_RX0_16 hd_63 rfl rfl ?_
    refine rz_icmp_ge (t := 26) dX0_perform_14 rfl (by omega) (by omega) (fun c14 => ?_) (fun c14 => ?_)
    · refine rz_iconst dX0_perform_26 ?_
      refine rz_iret dX0_perform_27 rfl ?_
      exfalso; omega
    · refine rz_iload_n dX0_perform_17 rfl ?_
      refine rz_if_lt (t := 26) dX0_perform_18 rfl (by omega) (fun q => absurd q (by decide)) (fun _ => ?_)
      refine rz_iload_n dX0_perform_21 rfl ?_
      refine rz_iconst dX0_perform_22 ?_
      refine rz_icmp_le (t := 28) dX0_perform_23 rfl (by omega) (by omega) (fun _ => ?_) (fun q => absurd q (by decide))
      refine rz_aload_n dX0_perform_28 rfl ?_
      refine rz_iload_n dX0_perform_29 rfl ?_
      refine rz_putI dX0_perform_30 kp_RX0_32 hd_63 rfl ?_
      refine rz_mem (I' := (pfM I n)) (J' := J) (rfl) (rfl) ?_
      refine rz_aload_n dX0_perform_33 rfl ?_
      refine rz_iload_n dX0_perform_34 rfl ?_
      refine rz_iload_n dX0_perform_35 rfl ?_
      refine rz_iconst dX0_perform_36 ?_
      refine rz_cVI dX0_perform_37 kl_RX0_35 hd_63 ⟨_, _, rfl⟩ (c_X0_own_7_2 X _ (pfM I n) J x 0 (by show (0 : Int) ≤ 0 ∧ (0 : Int) ≤ _; omega) hk (by show 0 ≤ n ∧ n < 50; omega) (by omega)) rfl rfl (Nat.le_of_ble_eq_true rfl) (Nat.le_of_ble_eq_true rfl) ?_
      refine rz_iret dX0_perform_40 rfl ?_
      exact ⟨_, rfl, rfl, rfl, rfl⟩
set_option maxRecDepth 20000 in
set_option maxHeartbeats 400000 in
theorem c_X0_run_7_2_m1 (X : pX) (h : Nat) (I J : IM) (x d : Int) (hR : 0 ≤ I 63 1 ∧ I 63 1 ≤ 16) (hk : I 65 (I 63 4).toNat = 7) (ha : 0 ≤ I 63 4 ∧ I 63 4 < 50) (hd : 0 ≤ d ∧ d ≤ 35) : KI X (h + 12) mX0_run [.ref 63, zi 2, zi (-1), zi x, zi d] I J (((((((x + (I 63 4)) * 2) - 1) * 2) + (xorZ 2 (I 63 4))) - (xorZ 1 (I 63 4)))) (trM I [2, 80, 10, 81, 70, 1, 11, 11]) J := by
  show Rz X (h + 12) mX0_run 0 [some (.ref 63), some (zi 2), some (zi (-1)), some (zi x), some (zi d)] [] I J _
  refine rz_aload_n dX0_run_0 rfl ?_
  refine rz_getI (z := (I 63 1)) dX0_run_1 kf_RX0_20 hd_63 rfl rfl ?_
  refine rz_bipush dX0_run_4 (by decide) ?_
  refine rz_icmp_ge (t := 19) dX0_run_6 rfl (by omega) (by omega) (fun c6 => ?_) (fun c6 => ?_)
  · exfalso; omega
  · refine rz_aload_n dX0_run_9 rfl ?_
    refine rz_getR dX0_run_10 kf_RX0_9 hd_63 rfl rr_63_2 ?_
    refine rz_aload_n dX0_run_13 rfl ?_
    refine rz_getI (z := (I 63 1)) dX0_run_14 kf_RX0_20 hd_63 rfl rfl ?_
    refine rz_iload_n dX0_run_17 rfl ?_
    refine rz_iast dX0_run_18 hd_64 (by decide) (by omega) ?_
    refine rz_aload_n dX0_run_19 rfl ?_
    refine rz_dup dX0_run_20 rfl ?_
    refine rz_getI (z := (I 63 1)) dX0_run_21 kf_RX0_20 hd_63 rfl rfl ?_
    refine rz_iconst dX0_run_24 ?_
    refine rz_iadd dX0_run_25 ?_
    refine rz_putI dX0_run_26 kp_RX0_20 hd_63 rfl ?_
    refine rz_mem (I' := (stM I 2)) (J' := J) (rfl) (rfl) ?_
    refine rz_iload_n dX0_run_29 rfl ?_
    refine rz_lookup (t := 151) (off := 121) dX0_run_30 (by omega) (by decide) (by decide) rfl ?_
    refine rz_aload_n dX0_run_151 rfl ?_
    refine rz_iconst dX0_run_152 ?_
    refine rz_iload_n dX0_run_153 rfl ?_
    refine rz_iload dX0_run_154 rfl ?_
    refine rz_cVI dX0_run_156 kl_RX0_35 hd_63 ⟨_, _, rfl⟩ (c_X0_own_7_1 X _ (stM I 2) J x d (by (try simp only [trM_R, stM_R, trR_R, stR_R, List.length_cons, List.length_nil]); omega) hk ha (by omega)) rfl rfl (Nat.le_of_ble_eq_true rfl) (Nat.le_of_ble_eq_true rfl) ?_
    refine rz_aload_n dX0_run_159 rfl ?_
    refine rz_iconst dX0_run_160 ?_
    refine rz_iconst dX0_run_161 ?_
    refine rz_iload dX0_run_162 rfl ?_
    refine rz_cVI dX0_run_164 kl_RX0_35 hd_63 ⟨_, _, rfl⟩ (c_X0_own_7_2 X _ (trM (stM I 2) [80, 10, 81, 70, 1, 11]) J 1 d (by (try simp only [trM_R, stM_R, trR_R, stR_R, List.length_cons, List.length_nil]); omega) hk ha (by omega)) rfl rfl (Nat.le_of_ble_eq_true rfl) (Nat.le_of_ble_eq_true rfl) ?_
    refine rz_isub dX0_run_167 ?_
    refine rz_iret dX0_run_168 rfl ?_
    exact ⟨_, rfl, rfl, rfl, rfl⟩
set_option maxRecDepth 20000 in
set_option maxHeartbeats 400000 in
theorem c_X0_from_7_7_3 (X : pX) (h : Nat) (I J : IM) (x d : Int) (hR : 0 ≤ I 63 1 ∧ I 63 1 ≤ 16) (hk : I 65 (I 63 4).toNat = 7) (ha : 0 ≤ I 63 4 ∧ I 63 4 < 50) (hd : 0 ≤ d ∧ d ≤ 34) : KI X (h + 13) mX0_from [.ref 63, zi 7, zi 3, zi x, zi d] I J (((((((x + (I 63 4)) * 2) - 1) * 2) + (xorZ 2 (I 63 4))) - (xorZ 1 (I 63 4)))) (trM I [2, 80, 10, 81, 70, 1, 11, 11]) J := by
  show Rz X (h + 13) mX0_from 0 [some (.ref 63), some (zi 7), some (zi 3), some (zi x), some (zi d), none, none, none] [] I J _
  refine rz_iload_n dX0_from_0 rfl ?_
  refine rz_istore dX0_from_1 (by decide) rfl ?_
  refine rz_iconst dX0_from_3 ?_
  refine rz_istore dX0_from_4 (by decide) rfl ?_
  refine rz_iload dX0_from_6 rfl ?_
  refine rz_bipush dX0_from_8 (by decide) ?_
  refine rz_icmp_ge (t := 78) dX0_from_10 rfl (by omega) (by omega) (fun q => absurd q (by decide)) (fun _ => ?_)
  refine rz_iload dX0_from_13 rfl ?_
  refine rz_if_lt (t := 78) dX0_from_15 rfl (by omega) (fun q => absurd q (by decide)) (fun _ => ?_)
  refine rz_gets1 dX0_from_18 kf_RX0_43 ?_
  refine rz_iload dX0_from_21 rfl ?_
  refine rz_iconst dX0_from_23 ?_
  refine rz_imul dX0_from_24 ?_
  refine rz_iload_n dX0_from_25 rfl ?_
  refine rz_iadd dX0_from_26 ?_
  refine rz_tld1 (z := 0) dX0_from_27 (by decide) rfl ?_
  refine rz_istore (ls' := [some (.ref 63), some (zi 7), some (zi 3), some (zi x), some (zi d), some (zi 7), some (zi 0), some (zi 0)]) dX0_from_28 (by decide) rfl ?_
  refine rz_iload dX0_from_30 rfl ?_
  refine rz_if_eq (t := 64) dX0_from_32 rfl (by omega) (fun _ => ?_) (fun q => absurd q (by decide))
  refine rz_gets0 dX0_from_64 kf_RX0_29 ?_
  refine rz_iload dX0_from_67 rfl ?_
  refine rz_tld0 (z := 6) dX0_from_69 (by decide) rfl ?_
  refine rz_istore dX0_from_70 (by decide) rfl ?_
  refine rz_iinc (z := 1) dX0_from_72 (by decide) rfl rfl rfl ?_
  refine rz_goto (t := 6) dX0_from_75 rfl ?_
  refine rz_iload dX0_from_6 rfl ?_
  refine rz_bipush dX0_from_8 (by decide) ?_
  refine rz_icmp_ge (t := 78) dX0_from_10 rfl (by omega) (by omega) (fun q => absurd q (by decide)) (fun _ => ?_)
  refine rz_iload dX0_from_13 rfl ?_
  refine rz_if_lt (t := 78) dX0_from_15 rfl (by omega) (fun q => absurd q (by decide)) (fun _ => ?_)
  refine rz_gets1 dX0_from_18 kf_RX0_43 ?_
  refine rz_iload dX0_from_21 rfl ?_
  refine rz_iconst dX0_from_23 ?_
  refine rz_imul dX0_from_24 ?_
  refine rz_iload_n dX0_from_25 rfl ?_
  refine rz_iadd dX0_from_26 ?_
  refine rz_tld1 (z := 0) dX0_from_27 (by decide) rfl ?_
  refine rz_istore (ls' := [some (.ref 63), some (zi 7), some (zi 3), some (zi x), some (zi d), some (zi 6), some (zi 1), some (zi 0)]) dX0_from_28 (by decide) rfl ?_
  refine rz_iload dX0_from_30 rfl ?_
  refine rz_if_eq (t := 64) dX0_from_32 rfl (by omega) (fun _ => ?_) (fun q => absurd q (by decide))
  refine rz_gets0 dX0_from_64 kf_RX0_29 ?_
  refine rz_iload dX0_from_67 rfl ?_
  refine rz_tld0 (z := 0) dX0_from_69 (by decide) rfl ?_
  refine rz_istore dX0_from_70 (by decide) rfl ?_
  refine rz_iinc (z := 2) dX0_from_72 (by decide) rfl rfl rfl ?_
  refine rz_goto (t := 6) dX0_from_75 rfl ?_
  refine rz_iload dX0_from_6 rfl ?_
  refine rz_bipush dX0_from_8 (by decide) ?_
  refine rz_icmp_ge (t := 78) dX0_from_10 rfl (by omega) (by omega) (fun q => absurd q (by decide)) (fun _ => ?_)
  refine rz_iload dX0_from_13 rfl ?_
  refine rz_if_lt (t := 78) dX0_from_15 rfl (by omega) (fun q => absurd q (by decide)) (fun _ => ?_)
  refine rz_gets1 dX0_from_18 kf_RX0_43 ?_
  refine rz_iload dX0_from_21 rfl ?_
  refine rz_iconst dX0_from_23 ?_
  refine rz_imul dX0_from_24 ?_
  refine rz_iload_n dX0_from_25 rfl ?_
  refine rz_iadd dX0_from_26 ?_
  refine rz_tld1 (z := 2) dX0_from_27 (by decide) rfl ?_
  refine rz_istore (ls' := [some (.ref 63), some (zi 7), some (zi 3), some (zi x), some (zi d), some (zi 0), some (zi 2), some (zi 2)]) dX0_from_28 (by decide) rfl ?_
  refine rz_iload dX0_from_30 rfl ?_
  refine rz_if_eq (t := 64) dX0_from_32 rfl (by omega) (fun q => absurd q (by decide)) (fun _ => ?_)
  refine rz_iload dX0_from_35 rfl ?_
  refine rz_bipush dX0_from_37 (by decide) ?_
  refine rz_icmp_ge (t := 62) dX0_from_39 rfl (by omega) (by omega) (fun c39 => ?_) (fun c39 => ?_)
  · exfalso; omega
  · refine rz_aload_n dX0_from_42 rfl ?_
    refine rz_iload dX0_from_43 rfl ?_
    refine rz_gets0 dX0_from_45 kf_RX0_29 ?_
    refine rz_iload dX0_from_48 rfl ?_
    refine rz_tld0 (z := (-1)) dX0_from_50 (by decide) rfl ?_
    refine rz_iload_n dX0_from_51 rfl ?_
    refine rz_iload dX0_from_52 rfl ?_
    refine rz_iconst dX0_from_54 ?_
    refine rz_iadd dX0_from_55 ?_
    refine rz_cVI dX0_from_56 kl_RX0_46 hd_63 ⟨_, _, rfl⟩ (c_X0_run_7_2_m1 X _ I J x (d + 1) (by (try simp only [trM_R, stM_R, trR_R, stR_R, List.length_cons, List.length_nil]); omega) hk ha (by omega)) rfl rfl (Nat.le_of_ble_eq_true rfl) (Nat.le_of_ble_eq_true rfl) ?_
    refine rz_goto (t := 63) dX0_from_59 rfl ?_
    refine rz_iret dX0_from_63 rfl ?_
    exact ⟨_, rfl, rfl, rfl, rfl⟩
set_option maxRecDepth 20000 in
set_option maxHeartbeats 400000 in
theorem c_X0_own_7_3 (X : pX) (h : Nat) (I J : IM) (x d : Int) (hR : 0 ≤ I 63 1 ∧ I 63 1 ≤ 16) (hk : I 65 (I 63 4).toNat = 7) (ha : 0 ≤ I 63 4 ∧ I 63 4 < 50) (hd : 0 ≤ d ∧ d ≤ 34) : KI X (h + 14) mX0_own [.ref 63, zi 3, zi x, zi d] I J (((((((x + (I 63 4)) * 2) - 1) * 2) + (xorZ 2 (I 63 4))) - (xorZ 1 (I 63 4)))) (trM I [2, 80, 10, 81, 70, 1, 11, 11]) J := by
  show Rz X (h + 14) mX0_own 0 [some (.ref 63), some (zi 3), some (zi x), some (zi d)] [] I J _
  refine rz_aload_n dX0_own_0 rfl ?_
  refine rz_aload_n dX0_own_1 rfl ?_
  refine rz_getR dX0_own_2 kf_RX0_13 hd_63 rfl rr_63_3 ?_
  refine rz_aload_n dX0_own_5 rfl ?_
  refine rz_getI (z := (I 63 4)) dX0_own_6 kf_RX0_32 hd_63 rfl rfl ?_
  refine rz_iald (z := 7) dX0_own_9 hd_65 (by decide) (by omega) hk ?_
  refine rz_iload_n dX0_own_10 rfl ?_
  refine rz_iload_n dX0_own_11 rfl ?_
  refine rz_iload_n dX0_own_12 rfl ?_
  refine rz_cVI dX0_own_13 kl_RX0_39 hd_63 ⟨_, _, rfl⟩ (c_X0_from_7_7_3 X _ I J x d (by (try simp only [trM_R, stM_R, trR_R, stR_R, List.length_cons, List.length_nil]); omega) hk ha (by omega)) rfl rfl (Nat.le_of_ble_eq_true rfl) (Nat.le_of_ble_eq_true rfl) ?_
  refine rz_iret dX0_own_16 rfl ?_
  exact ⟨_, rfl, rfl, rfl, rfl⟩
set_option maxRecDepth 20000 in
set_option maxHeartbeats 400000 in
theorem c_perform_7_3 (X : pX) (h : Nat) (I J : IM) (n x : Int) (hn : 0 ≤ n ∧ n < I 63 0) (hb : I 63 0 ≤ 50) (hk : I 65 n.toNat = 7) : KI X (h + 15) mX0_perform [.ref 63, zi n, zi 3, zi x] I J (((((((x + n) * 2) - 1) * 2) + (xorZ 2 n)) - (xorZ 1 n))) (trM (pfM I n) [2, 80, 10, 81, 70, 1, 11, 11]) J := by
  show Rz X (h + 15) mX0_perform 0 [some (.ref 63), some (zi n), some (zi 3), some (zi x)] [] I J _
  refine rz_aload_n dX0_perform_0 rfl ?_
  refine rz_iconst dX0_perform_1 ?_
  refine rz_putI dX0_perform_2 kp_RX0_20 hd_63 rfl ?_
  refine rz_iload_n dX0_perform_5 rfl ?_
  refine rz_if_lt (t := 26) dX0_perform_6 rfl (by omega) (fun c6 => ?_) (fun c6 => ?_)
  · refine rz_iconst dX0_perform_26 ?_
    refine rz_iret dX0_perform_27 rfl ?_
    exfalso; omega
  · refine rz_iload_n dX0_perform_9 rfl ?_
    refine rz_aload_n dX0_perform_10 rfl ?_
    refine rz_getI (z := (I 63 0)) dX0_perform_11 kf_RX0_16 hd_63 rfl rfl ?_
    refine rz_icmp_ge (t := 26) dX0_perform_14 rfl (by omega) (by omega) (fun c14 => ?_) (fun c14 => ?_)
    · refine rz_iconst dX0_perform_26 ?_
      refine rz_iret dX0_perform_27 rfl ?_
      exfalso; omega
    · refine rz_iload_n dX0_perform_17 rfl ?_
      refine rz_if_lt (t := 26) dX0_perform_18 rfl (by omega) (fun q => absurd q (by decide)) (fun _ => ?_)
      refine rz_iload_n dX0_perform_21 rfl ?_
      refine rz_iconst dX0_perform_22 ?_
      refine rz_icmp_le (t := 28) dX0_perform_23 rfl (by omega) (by omega) (fun _ => ?_) (fun q => absurd q (by decide))
      refine rz_aload_n dX0_perform_28 rfl ?_
      refine rz_iload_n dX0_perform_29 rfl ?_
      refine rz_putI dX0_perform_30 kp_RX0_32 hd_63 rfl ?_
      refine rz_mem (I' := (pfM I n)) (J' := J) (rfl) (rfl) ?_
      refine rz_aload_n dX0_perform_33 rfl ?_
      refine rz_iload_n dX0_perform_34 rfl ?_
      refine rz_iload_n dX0_perform_35 rfl ?_
      refine rz_iconst dX0_perform_36 ?_
      refine rz_cVI dX0_perform_37 kl_RX0_35 hd_63 ⟨_, _, rfl⟩ (c_X0_own_7_3 X _ (pfM I n) J x 0 (by show (0 : Int) ≤ 0 ∧ (0 : Int) ≤ _; omega) hk (by show 0 ≤ n ∧ n < 50; omega) (by omega)) rfl rfl (Nat.le_of_ble_eq_true rfl) (Nat.le_of_ble_eq_true rfl) ?_
      refine rz_iret dX0_perform_40 rfl ?_
      exact ⟨_, rfl, rfl, rfl, rfl⟩
