/-! partings that use up all loaves, one after the other -/
def fpR (N : Nat) : Nat → Nat
  | 0 => 1
  | k + 1 => if k = 0 then 1 else fpR N k * (N + k) / k
def fpN (n N : Nat) : Nat := if n = 0 then (if N = 0 then 1 else 0) else fpR N n
theorem fpR_bd : ∀ N, N ≤ 9 → ∀ k, k ≤ 5 → fpR N k ≤ 100000 := by decide +kernel
theorem fp_rows : ∀ n, n ≤ 5 → ∀ N, N ≤ 9 → fpN n N = (rowsL n N true).length := by decide +kernel
/-- one row on -/
def lastZ (w : List Nat) : Nat → Nat
  | 0 => 0
  | k + 1 => if w.getD (k + 1) 0 = 0 then lastZ w k else k + 1
def wS (n : Nat) (w : List Nat) : Option (List Nat) := if lastZ w (n - 1) = 0 then none else some (((w.set (lastZ w (n - 1)) 0).set (lastZ w (n - 1) - 1) (w.getD (lastZ w (n - 1) - 1) 0 + 1)).set (n - 1) (w.getD (lastZ w (n - 1)) 0 - 1))
def w0L (n N : Nat) : List Nat := if n = 0 then [] else (List.replicate (n - 1) 0) ++ [N]
def wL (n : Nat) : Nat → List Nat → List (List Nat)
  | 0, _ => []
  | k + 1, w => w :: (match wS n w with
    | none => []
    | some w' => wL n k w')
theorem wL_rows : ∀ n, n ≤ 5 → ∀ N, N ≤ 9 → (n = 0 → N = 0) → wL n 1000 (w0L n N) = rowsL n N true := by decide +kernel
theorem wL_at {n : Nat} : ∀ (k : Nat) (w : List Nat) (L : List (List Nat)), wL n k w = L → L.length < k → ∀ j r, L[j]? = some r → wS n r = L[j + 1]?
  | 0, w, L, h, hl, j, r, hr => by omega
  | k + 1, w, L, h, hl, j, r, hr => by
    unfold wL at h
    subst h
    cases hw : wS n w with
    | none =>
      rw [hw] at hr
      cases j with
      | zero =>
        have e : w = r := by simpa using hr
        subst e; rw [hw]; simp
      | succ j => simp at hr
    | some w' =>
      rw [hw] at hr hl
      have hl' : (wL n k w').length < k := by
        have : (w :: wL n k w').length < k + 1 := hl
        simp at this; exact this
      cases j with
      | zero =>
        have e : w = r := by simpa using hr
        subst e
        rw [hw]
        show some w' = (wL n k w')[0]?
        cases k with
        | zero => omega
        | succ k => rfl
      | succ j => exact wL_at k w' _ rfl hl' j r hr
theorem rows_next {n N j : Nat} {r : List Nat} (hn : n ≤ 5) (hN : N ≤ 9) (h0 : n = 0 → N = 0) (hr : (rowsL n N true)[j]? = some r) : wS n r = (rowsL n N true)[j + 1]? := by
  have h := wL_rows n hn N hN h0
  exact wL_at 1000 _ _ h (by
    have : ∀ n, n ≤ 5 → ∀ N, N ≤ 9 → (rowsL n N true).length < 1000 := by decide +kernel
    exact this n hn N hN) j r hr
theorem rows_first {n N : Nat} (hn : n ≤ 5) (hN : N ≤ 9) (h0 : n = 0 → N = 0) : (rowsL n N true)[0]? = some (w0L n N) := by
  have : ∀ n, n ≤ 5 → ∀ N, N ≤ 9 → (n = 0 → N = 0) → (rowsL n N true)[0]? = some (w0L n N) := by decide +kernel
  exact this n hn N hN h0
set_option maxRecDepth 20000 in
set_option maxHeartbeats 400000 in
theorem c_X8_fullPartings {X : pX} {I J : IM} {h : Nat} (n : Nat) (hn : I 6 0 = n ∧ n ≤ 5) (b N : Nat) (hb : b < 2) (hN : I 10 b = N ∧ N ≤ 9) : KI X h mX8_fullPartings [.ref 6, zi (b : Int)] I J ((fpN n N : Nat) : Int) I J := by
  show Rz X h mX8_fullPartings 0 [some (.ref 6), some (zi (b : Int)), none, none] [] I J _
  refine rz_aload_n dX8_fullPartings_0 rfl ?_
  refine rz_getI (z := (n : Int)) dX8_fullPartings_1 kf_RX8_35 hd_6 rfl (hn.1) ?_
  refine rz_if_ne (t := 22) dX8_fullPartings_4 rfl (by omega) (fun c4 => ?_) (fun c4 => ?_)
  · refine rz_iconst dX8_fullPartings_22 ?_
    refine rz_istore_n dX8_fullPartings_23 (by decide) rfl ?_
    refine rz_iconst dX8_fullPartings_24 ?_
    refine rz_istore_n dX8_fullPartings_25 (by decide) rfl ?_
    refine rz_upx (σ := Unit) (Inv := fun k sk => True) (ls := fun (k : Nat) sk => [some (.ref 6), some (zi (b : Int)), some (zi ((fpR N (k + 1) : Nat) : Int)), some (zi ((k + 1 : Nat) : Int))]) (IV := fun (k : Nat) sk => I) (JV := fun (k : Nat) sk => J) ((n - 1)) (()) trivial ⟨Or.inr rfl, Or.inr rfl, Or.inr rfl, Or.inr rfl, trivial⟩ (rfl) (rfl) ?_ ?_
    · intro k sk hk qk ihk
      have hb1 := fpR_bd N hN.2 (k + 1) (by omega)
      have hmul : ((fpR N (k + 1) * (N + (k + 1)) : Nat) : Int) = ((fpR N (k + 1) : Nat) : Int) * ((N : Int) + ((k + 1 : Nat) : Int)) := by rw [Int.natCast_mul, Int.natCast_add]
      have hm2 : fpR N (k + 1) * (N + (k + 1)) ≤ 100000 * 14 := Nat.mul_le_mul hb1 (by omega)
      have hmn : 0 ≤ ((fpR N (k + 1) : Nat) : Int) * ((N : Int) + ((k + 1 : Nat) : Int)) ∧ ((fpR N (k + 1) : Nat) : Int) * ((N : Int) + ((k + 1 : Nat) : Int)) ≤ 1400000 := by rw [← hmul]; omega
      refine rz_iload_n dX8_fullPartings_26 rfl ?_
      refine rz_aload_n dX8_fullPartings_27 rfl ?_
      refine rz_getI (z := (n : Int)) dX8_fullPartings_28 kf_RX8_35 hd_6 rfl (hn.1) ?_
      refine rz_icmp_ge (t := 53) dX8_fullPartings_31 rfl (by omega) (by omega) (fun c31 => ?_) (fun c31 => ?_)
      · exfalso; omega
      · refine rz_iload_n dX8_fullPartings_34 rfl ?_
        refine rz_aload_n dX8_fullPartings_35 rfl ?_
        refine rz_getR dX8_fullPartings_36 kf_RX8_21 hd_6 rfl rr_6_4 ?_
        refine rz_iload_n dX8_fullPartings_39 rfl ?_
        refine rz_ialdN (k := b) (z := (N : Int)) dX8_fullPartings_40 hd_10 (by decide) (by omega) (by omega) hN.1 ?_
        refine rz_iload_n dX8_fullPartings_41 rfl ?_
        refine rz_iadd dX8_fullPartings_42 ?_
        refine rz_imul dX8_fullPartings_43 ?_
        refine rz_iload_n dX8_fullPartings_44 rfl ?_
        refine rz_idiv dX8_fullPartings_45 (by omega) (by omega) ?_
        refine rz_istore_n dX8_fullPartings_46 (by decide) rfl ?_
        refine rz_iinc dX8_fullPartings_47 (by decide) rfl rfl rfl ?_
        refine rz_goto (t := 26) dX8_fullPartings_50 rfl ?_
        exact rz_bk (ihk (()) (trivial)) ⟨Or.inr rfl, Or.inr rfl, Or.inr (congrArg (fun z => some (zi z)) (by have e : fpR N (k + 1 + 1) = fpR N (k + 1) * (N + (k + 1)) / (k + 1) := if_neg (by omega); rw [e, Int.natCast_ediv, hmul])), Or.inr (congrArg (fun z => some (zi z)) (by omega)), trivial⟩ (rfl) (rfl)
    · intro sk qk
      refine rz_iload_n dX8_fullPartings_26 rfl ?_
      refine rz_aload_n dX8_fullPartings_27 rfl ?_
      refine rz_getI (z := (n : Int)) dX8_fullPartings_28 kf_RX8_35 hd_6 rfl (hn.1) ?_
      refine rz_icmp_ge (t := 53) dX8_fullPartings_31 rfl (by omega) (by omega) (fun c31 => ?_) (fun c31 => ?_)
      · refine rz_iload_n dX8_fullPartings_53 rfl ?_
        refine rz_iret dX8_fullPartings_54 rfl ?_
        exact ⟨_, rfl, by rw [fpN, if_neg (by omega), show n - 1 + 1 = n by omega], rfl, rfl⟩
      · exfalso; omega
  · refine rz_aload_n dX8_fullPartings_7 rfl ?_
    refine rz_getR dX8_fullPartings_8 kf_RX8_21 hd_6 rfl rr_6_4 ?_
    refine rz_iload_n dX8_fullPartings_11 rfl ?_
    refine rz_ialdN (k := b) (z := (N : Int)) dX8_fullPartings_12 hd_10 (by decide) (by omega) (by omega) hN.1 ?_
    refine rz_if_ne (t := 20) dX8_fullPartings_13 rfl (by omega) (fun c13 => ?_) (fun c13 => ?_)
    · refine rz_iconst dX8_fullPartings_20 ?_
      refine rz_iret dX8_fullPartings_21 rfl ?_
      exact ⟨_, rfl, by rw [fpN, if_pos (by omega), if_neg (by omega)]; rfl, rfl, rfl⟩
    · refine rz_iconst dX8_fullPartings_16 ?_
      refine rz_goto (t := 21) dX8_fullPartings_17 rfl ?_
      refine rz_iret dX8_fullPartings_21 rfl ?_
      exact ⟨_, rfl, by rw [fpN, if_pos (by omega), if_pos (by omega)]; rfl, rfl, rfl⟩
def mayL (n N0 N1 : Nat) : Prop := (1 ≤ (rowsL n N0 true).length ∧ (rowsL n N0 true).length ≤ 300) ∧ (1 ≤ (rowsL n N1 true).length ∧ (rowsL n N1 true).length ≤ 300)
theorem fpN_bd {n N : Nat} (hn : n ≤ 5) (hN : N ≤ 9) : fpN n N ≤ 2002 := by rw [fp_rows n hn N hN]; exact (rows_cnt n hn N hN).2
set_option maxRecDepth 20000 in
set_option maxHeartbeats 400000 in
theorem c_X3_mayList {X : pX} {I J : IM} {h : Nat} (n : Nat) (hn : I 6 0 = n ∧ n ≤ 5) (N0 N1 : Nat) (hN0 : I 10 0 = N0 ∧ N0 ≤ 9) (hN1 : I 10 1 = N1 ∧ N1 ≤ 9) : KIq X (h + 1) mX3_mayList [.ref 32] I J (BQ I J (mayL n N0 N1)) := by
  show Rz X (h + 1) mX3_mayList 0 [some (.ref 32), none, none] [] I J _
  have f0 := fp_rows n hn.2 N0 hN0.2
  have f1 := fp_rows n hn.2 N1 hN1.2
  have g0 := fpN_bd hn.2 hN0.2
  have g1 := fpN_bd hn.2 hN1.2
  refine rz_iconst dX3_mayList_0 ?_
  refine rz_istore_n dX3_mayList_1 (by decide) rfl ?_
  refine rz_iload_n dX3_mayList_2 rfl ?_
  refine rz_iconst dX3_mayList_3 ?_
  refine rz_icmp_ge (t := 35) dX3_mayList_4 rfl (by omega) (by omega) (fun q => absurd q (by decide)) (fun _ => ?_)
  refine rz_aload_n dX3_mayList_7 rfl ?_
  refine rz_getR dX3_mayList_8 kf_RX3_7 hd_32 rfl rr_32_4 ?_
  refine rz_iload_n dX3_mayList_11 rfl ?_
  refine rz_cVI dX3_mayList_12 kl_RX3_54 hd_6 ⟨_, _, rfl⟩ ((show KI X _ mX8_fullPartings [.ref 6, zi 0] I J _ I J from c_X8_fullPartings n hn 0 N0 (by decide) hN0)) rfl rfl (Nat.le_of_ble_eq_true rfl) (Nat.le_of_ble_eq_true rfl) ?_
  refine rz_istore_n dX3_mayList_15 (by decide) rfl ?_
  refine rz_iload_n dX3_mayList_16 rfl ?_
  refine rz_sipush dX3_mayList_17 (by decide) ?_
  refine rz_icmp_gt (t := 27) dX3_mayList_20 rfl (by omega) (by omega) (fun c20 => ?_) (fun c20 => ?_)
  · refine rz_iconst dX3_mayList_27 ?_
    refine rz_zret dX3_mayList_28 rfl (by decide) ?_
    exact ⟨_, rfl, Or.inr ⟨rfl, by unfold mayL; omega⟩, rfl, rfl⟩
  · refine rz_iload_n dX3_mayList_23 rfl ?_
    refine rz_if_ne (t := 29) dX3_mayList_24 rfl (by omega) (fun c24 => ?_) (fun c24 => ?_)
    · refine rz_iinc (ls' := [some (.ref 32), some (zi 1), some (zi ((fpN n N0 : Nat) : Int))]) (z := 1) dX3_mayList_29 (by decide) rfl rfl rfl ?_
      refine rz_goto (t := 2) dX3_mayList_32 rfl ?_
      refine rz_iload_n dX3_mayList_2 rfl ?_
      refine rz_iconst dX3_mayList_3 ?_
      refine rz_icmp_ge (t := 35) dX3_mayList_4 rfl (by omega) (by omega) (fun q => absurd q (by decide)) (fun _ => ?_)
      refine rz_aload_n dX3_mayList_7 rfl ?_
      refine rz_getR dX3_mayList_8 kf_RX3_7 hd_32 rfl rr_32_4 ?_
      refine rz_iload_n dX3_mayList_11 rfl ?_
      refine rz_cVI dX3_mayList_12 kl_RX3_54 hd_6 ⟨_, _, rfl⟩ ((show KI X _ mX8_fullPartings [.ref 6, zi 1] I J _ I J from c_X8_fullPartings n hn 1 N1 (by decide) hN1)) rfl rfl (Nat.le_of_ble_eq_true rfl) (Nat.le_of_ble_eq_true rfl) ?_
      refine rz_istore_n dX3_mayList_15 (by decide) rfl ?_
      refine rz_iload_n dX3_mayList_16 rfl ?_
      refine rz_sipush dX3_mayList_17 (by decide) ?_
      refine rz_icmp_gt (t := 27) dX3_mayList_20 rfl (by omega) (by omega) (fun c20 => ?_) (fun c20 => ?_)
      · refine rz_iconst dX3_mayList_27 ?_
        refine rz_zret dX3_mayList_28 rfl (by decide) ?_
        exact ⟨_, rfl, Or.inr ⟨rfl, by unfold mayL; omega⟩, rfl, rfl⟩
      · refine rz_iload_n dX3_mayList_23 rfl ?_
        refine rz_if_ne (t := 29) dX3_mayList_24 rfl (by omega) (fun c24 => ?_) (fun c24 => ?_)
        · refine rz_iinc (z := 2) dX3_mayList_29 (by decide) rfl rfl rfl ?_
          refine rz_goto (t := 2) dX3_mayList_32 rfl ?_
          refine rz_iload_n dX3_mayList_2 rfl ?_
          refine rz_iconst dX3_mayList_3 ?_
          refine rz_icmp_ge (t := 35) dX3_mayList_4 rfl (by omega) (by omega) (fun _ => ?_) (fun q => absurd q (by decide))
          refine rz_iconst dX3_mayList_35 ?_
          refine rz_zret dX3_mayList_36 rfl (by decide) ?_
          exact ⟨_, rfl, Or.inl ⟨rfl, by unfold mayL; omega⟩, rfl, rfl⟩
        · refine rz_iconst dX3_mayList_27 ?_
          refine rz_zret dX3_mayList_28 rfl (by decide) ?_
          exact ⟨_, rfl, Or.inr ⟨rfl, by unfold mayL; omega⟩, rfl, rfl⟩
    · refine rz_iconst dX3_mayList_27 ?_
      refine rz_zret dX3_mayList_28 rfl (by decide) ?_
      exact ⟨_, rfl, Or.inr ⟨rfl, by unfold mayL; omega⟩, rfl, rfl⟩
