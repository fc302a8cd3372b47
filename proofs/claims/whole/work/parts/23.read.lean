/-! rows of loaves read from numbers -/
set_option maxRecDepth 20000 in
set_option maxHeartbeats 400000 in
theorem c_fill (X : pX) (h : Nat) (I J : IM) (a n : Nat) (z : Int) (hh : HD0[a]? = some (1, 0, n)) (hn : n ≤ 100000) : KV X h mJ7_fill_53178 [.ref a, zi z] I J (fillM I a n z) J := by
  show Rz X h mJ7_fill_53178 0 [some (.ref a), some (zi z), none, none] [] I J _
  refine rz_iconst dJ7_fill_53178_0 ?_
  refine rz_istore_n dJ7_fill_53178_1 (by decide) rfl ?_
  refine rz_aload_n dJ7_fill_53178_2 rfl ?_
  refine rz_alen dJ7_fill_53178_3 hh (by decide) (by decide) ?_
  refine rz_istore_n dJ7_fill_53178_4 (by decide) rfl ?_
  refine rz_up (ls := fun q : Nat => [some (.ref a), some (zi z), some (zi (q : Int)), some (zi (n : Int))]) (IV := fun q : Nat => (fillM I a q z)) (JV := fun q : Nat => J) (n) ⟨Or.inr rfl, Or.inr rfl, Or.inr rfl, Or.inr rfl, trivial⟩ (fillM_0) (rfl) ?_ ?_
  · intro q hq ihq
    refine rz_iload_n dJ7_fill_53178_5 rfl ?_
    refine rz_iload_n dJ7_fill_53178_6 rfl ?_
    refine rz_icmp_ge (t := 20) dJ7_fill_53178_7 rfl (by omega) (by omega) (fun c7 => ?_) (fun c7 => ?_)
    · exfalso; omega
    · refine rz_aload_n dJ7_fill_53178_10 rfl ?_
      refine rz_iload_n dJ7_fill_53178_11 rfl ?_
      refine rz_iload_n dJ7_fill_53178_12 rfl ?_
      refine rz_iastN (k := q) dJ7_fill_53178_13 hh hn (by omega) (by omega) ?_
      refine rz_iinc dJ7_fill_53178_14 (by decide) rfl rfl rfl ?_
      refine rz_goto (t := 5) dJ7_fill_53178_17 rfl ?_
      exact rz_bk ihq ⟨Or.inr rfl, Or.inr rfl, Or.inr rfl, Or.inr rfl, trivial⟩ (fillM_step.symm) (rfl)
  · skip
    refine rz_iload_n dJ7_fill_53178_5 rfl ?_
    refine rz_iload_n dJ7_fill_53178_6 rfl ?_
    refine rz_icmp_ge (t := 20) dJ7_fill_53178_7 rfl (by omega) (by omega) (fun c7 => ?_) (fun c7 => ?_)
    · refine rz_vret dJ7_fill_53178_20 rfl ?_
      exact ⟨rfl, rfl, rfl⟩
    · exfalso; omega
set_option maxRecDepth 20000 in
set_option maxHeartbeats 400000 in
theorem c_fillJ (X : pX) (h : Nat) (I J : IM) (a n : Nat) (z : Int) (hh : HD0[a]? = some (2, 4, n)) (hn : n ≤ 100000) : KV X h mJ7_fill_d0a16 [.ref a, zl z] I J I (fillM J a n z) := by
  show Rz X h mJ7_fill_d0a16 0 [some (.ref a), some (zl z), none, none, none] [] I J _
  refine rz_iconst dJ7_fill_d0a16_0 ?_
  refine rz_istore_n dJ7_fill_d0a16_1 (by decide) rfl ?_
  refine rz_aload_n dJ7_fill_d0a16_2 rfl ?_
  refine rz_alen dJ7_fill_d0a16_3 hh (by decide) (by decide) ?_
  refine rz_istore dJ7_fill_d0a16_4 (by decide) rfl ?_
  refine rz_up (ls := fun q : Nat => [some (.ref a), some (zl z), none, some (zi (q : Int)), some (zi (n : Int))]) (IV := fun q : Nat => I) (JV := fun q : Nat => (fillM J a q z)) (n) ⟨Or.inr rfl, Or.inr rfl, Or.inl rfl, Or.inr rfl, Or.inr rfl, trivial⟩ (rfl) (fillM_0) ?_ ?_
  · intro q hq ihq
    refine rz_iload_n dJ7_fill_d0a16_6 rfl ?_
    refine rz_iload dJ7_fill_d0a16_7 rfl ?_
    refine rz_icmp_ge (t := 22) dJ7_fill_d0a16_9 rfl (by omega) (by omega) (fun c9 => ?_) (fun c9 => ?_)
    · exfalso; omega
    · refine rz_aload_n dJ7_fill_d0a16_12 rfl ?_
      refine rz_iload_n dJ7_fill_d0a16_13 rfl ?_
      refine rz_lload_n dJ7_fill_d0a16_14 rfl ?_
      refine rz_lastN (k := q) dJ7_fill_d0a16_15 hh hn (by omega) (by omega) ?_
      refine rz_iinc dJ7_fill_d0a16_16 (by decide) rfl rfl rfl ?_
      refine rz_goto (t := 6) dJ7_fill_d0a16_19 rfl ?_
      exact rz_bk ihq ⟨Or.inr rfl, Or.inr rfl, Or.inl rfl, Or.inr rfl, Or.inr rfl, trivial⟩ (rfl) (fillM_step.symm)
  · skip
    refine rz_iload_n dJ7_fill_d0a16_6 rfl ?_
    refine rz_iload dJ7_fill_d0a16_7 rfl ?_
    refine rz_icmp_ge (t := 22) dJ7_fill_d0a16_9 rfl (by omega) (by omega) (fun c9 => ?_) (fun c9 => ?_)
    · refine rz_vret dJ7_fill_d0a16_22 rfl ?_
      exact ⟨rfl, rfl, rfl⟩
    · exfalso; omega
def RdI (n : Nat) (p : Int) (k m : Nat) (l s : Int) (g : Nat → Int) : Prop := m ≤ n ∧ (0 ≤ l ∧ l ≤ p) ∧ (0 ≤ s ∧ s ≤ 9 * ((n : Int) - m)) ∧ drest n p = drest m l ∧ dsum n p = s + dsum m l ∧ ∀ v, v < k → dgt n p v = if v < m then dgt m l v else g v
theorem rd_step {n k m : Nat} {p l s : Int} {g : Nat → Int} (hm : 1 ≤ m) (h : RdI n p k m l s g) : RdI n p k (m - 1) (l / 10) (s + l % 10) (up1 g (m - 1) (l % 10)) := by
  obtain ⟨m', rfl⟩ : ∃ m', m = m' + 1 := ⟨m - 1, by omega⟩
  obtain ⟨h1, h2, h3, h4, h5, h6⟩ := h
  rw [show m' + 1 - 1 = m' from rfl]
  refine ⟨by omega, by omega, by omega, h4, ?_, ?_⟩
  · rw [h5]; show s + (l % 10 + dsum m' (l / 10)) = _; omega
  · intro v hv
    rw [h6 v hv]
    show (if v < m' + 1 then (if v = m' then l % 10 else dgt m' (l / 10) v) else g v) = _
    by_cases e : v = m'
    · subst e; simp [up1]
    · by_cases e2 : v < m'
      · simp [e, e2, Nat.lt_succ_of_lt e2]
      · simp [e, e2, show ¬ v < m' + 1 by omega, up1]
theorem rd_0 {n k : Nat} {p : Int} {g : Nat → Int} (hp : 0 ≤ p) (hg : ∀ v, v < k → n ≤ v → g v = 0) : RdI n p k n p 0 g :=
  ⟨Nat.le_refl _, ⟨hp, Int.le_refl _⟩, by omega, rfl, by omega, fun v hv => by
    by_cases e : v < n
    · rw [if_pos e]
    · rw [if_neg e, dgt_out _ _ _ (by omega), hg v hv (by omega)]⟩
/-- what is read of a number -/
abbrev okP (n : Nat) (p L : Int) : Prop := 0 ≤ p ∧ drest n p = 0 ∧ dsum n p ≤ L
def ReadQ (a k n : Nat) (p L : Int) (I J : IM) : Int → IM → IM → Prop := fun z A B => ∃ g, A = upA I a g ∧ J = B ∧ ((z = 1 ∧ okP n p L ∧ ∀ v, v < k → g v = dgt n p v) ∨ (z = 0 ∧ ¬ okP n p L))
theorem readQ_n {a k n : Nat} {p L : Int} {I J : IM} (h : p < 0) : ReadQ a k n p L I J 0 I J := ⟨I a, upA_id.symm, rfl, Or.inr ⟨rfl, fun q => by have := q.1; omega⟩⟩
set_option maxRecDepth 20000 in
set_option maxHeartbeats 400000 in
theorem c_X8_read79 (X : pX) (h : Nat) (I J : IM) (n : Nat) (hn : I 6 0 = n ∧ n ≤ 5) (p b : Int) (hp : rg p) (hb : 0 ≤ b ∧ b < 2) (hl : 0 ≤ I 10 b.toNat ∧ I 10 b.toNat ≤ 9) : KIq X (h + 1) mX8_read [.ref 6, zi p, zi b, .ref 79] I J (ReadQ 79 5 n p (I 10 b.toNat) I J) := by
  show Rz X (h + 1) mX8_read 0 [some (.ref 6), some (zi p), some (zi b), some (.ref 79), none, none, none] [] I J _
  refine rz_iload_n dX8_read_0 rfl ?_
  refine rz_if_ge (t := 6) dX8_read_1 rfl (by omega) (fun c1 => ?_) (fun c1 => ?_)
  · refine rz_aload_n dX8_read_6 rfl ?_
    refine rz_iconst dX8_read_7 ?_
    refine rz_cSV dX8_read_8 kl_RX8_73 (c_fill X _ I J 79 5 0 hd_79 (by decide)) rfl rfl (Nat.le_of_ble_eq_true rfl) (Nat.le_of_ble_eq_true rfl) ?_
    refine rz_iload_n dX8_read_11 rfl ?_
    refine rz_istore dX8_read_12 (by decide) rfl ?_
    refine rz_iconst dX8_read_14 ?_
    refine rz_istore dX8_read_15 (by decide) rfl ?_
    refine rz_aload_n dX8_read_17 rfl ?_
    refine rz_getI (z := (I 6 0)) dX8_read_18 kf_RX8_35 hd_6 rfl rfl ?_
    refine rz_iconst dX8_read_21 ?_
    refine rz_isub dX8_read_22 ?_
    refine rz_istore (ls' := [some (.ref 6), some (zi p), some (zi b), some (.ref 79), some (zi p), some (zi 0), some (zi ((I 6 0) - 1))]) dX8_read_23 (by decide) rfl ?_
    refine rz_wh (σ := Nat × Int × Int × (Nat → Int)) (Inv := fun sq => RdI n p 5 sq.1 sq.2.1 sq.2.2.1 sq.2.2.2) (ls := fun sq => [some (.ref 6), some (zi p), some (zi b), some (.ref 79), some (zi sq.2.1), some (zi sq.2.2.1), some (zi ((sq.1 : Int) - 1))]) (IV := fun sq => (upA I 79 sq.2.2.2)) (JV := fun sq => J) (fun sq => sq.1) ((n, p, 0, fun j => if j < 5 then 0 else I 79 j)) (rd_0 (by omega) (fun v hv _ => if_pos hv)) ⟨Or.inr rfl, Or.inr rfl, Or.inr rfl, Or.inr rfl, Or.inr rfl, Or.inr rfl, Or.inr (congrArg (fun z => some (zi z)) (show (n : Int) - 1 = I 6 0 - 1 by omega)), trivial⟩ (rfl) (rfl) ?_
    · intro sq qq ihq
      obtain ⟨m, l, s, g⟩ := sq
      have qq : RdI n p 5 m l s g := qq
      obtain ⟨h1, h2, h3, h4, h5, h6⟩ := id qq
      refine rz_to (ls' := [some (.ref 6), some (zi p), some (zi b), some (.ref 79), some (zi l), some (zi s), some (zi ((m : Int) - 1))]) (I' := (upA I 79 g)) (J' := J) ⟨Or.inr rfl, Or.inr rfl, Or.inr rfl, Or.inr rfl, Or.inr rfl, Or.inr rfl, Or.inr rfl, trivial⟩ rfl rfl ?_
      refine rz_iload dX8_read_25 rfl ?_
      refine rz_if_lt (t := 61) dX8_read_27 rfl (by omega) (fun c27 => ?_) (fun c27 => ?_)
      · refine rz_iload dX8_read_61 rfl ?_
        refine rz_if_ne (t := 81) dX8_read_63 rfl (by omega) (fun c63 => ?_) (fun c63 => ?_)
        · refine rz_iconst dX8_read_81 ?_
          refine rz_zret dX8_read_82 rfl (by decide) ?_
          obtain rfl : m = 0 := by omega
          exact ⟨_, rfl, g, rfl, rfl, Or.inr ⟨rfl, fun q => by have e2 := q.2.1; have e3 := q.2.2; rw [h4] at e2; rw [h5] at e3; have e4 : l = 0 := e2; have e5 : s + 0 ≤ I 10 b.toNat := e3; omega⟩⟩
        · refine rz_iload dX8_read_66 rfl ?_
          refine rz_aload_n dX8_read_68 rfl ?_
          refine rz_getR dX8_read_69 kf_RX8_21 hd_6 rfl rr_6_4 ?_
          refine rz_iload_n dX8_read_72 rfl ?_
          refine rz_iald (z := (I 10 (b).toNat)) dX8_read_73 hd_10 (by decide) (by omega) rfl ?_
          refine rz_icmp_gt (t := 81) dX8_read_74 rfl (by omega) (by omega) (fun c74 => ?_) (fun c74 => ?_)
          · refine rz_iconst dX8_read_81 ?_
            refine rz_zret dX8_read_82 rfl (by decide) ?_
            obtain rfl : m = 0 := by omega
            exact ⟨_, rfl, g, rfl, rfl, Or.inr ⟨rfl, fun q => by have e2 := q.2.1; have e3 := q.2.2; rw [h4] at e2; rw [h5] at e3; have e4 : l = 0 := e2; have e5 : s + 0 ≤ I 10 b.toNat := e3; omega⟩⟩
          · refine rz_iconst dX8_read_77 ?_
            refine rz_goto (t := 82) dX8_read_78 rfl ?_
            refine rz_zret dX8_read_82 rfl (by decide) ?_
            obtain rfl : m = 0 := by omega
            exact ⟨_, rfl, g, rfl, rfl, Or.inl ⟨rfl, ⟨by omega, by rw [h4]; show l = 0; omega, by rw [h5]; show s + 0 ≤ _; omega⟩, fun v hv => by rw [h6 v hv, if_neg (Nat.not_lt_zero v)]⟩⟩
      · refine rz_aload_n dX8_read_30 rfl ?_
        refine rz_iload dX8_read_31 rfl ?_
        refine rz_iload dX8_read_33 rfl ?_
        refine rz_bipush dX8_read_35 (by decide) ?_
        refine rz_irem dX8_read_37 (by omega) (by omega) ?_
        refine rz_iastN (k := (m - 1)) dX8_read_38 hd_79 (by decide) (by omega) (by omega) ?_
        refine rz_iload dX8_read_39 rfl ?_
        refine rz_aload_n dX8_read_41 rfl ?_
        refine rz_iload dX8_read_42 rfl ?_
        refine rz_ialdN (k := (m - 1)) (z := (l % 10)) dX8_read_44 hd_79 (by decide) (by omega) (by omega) (by simp [upA, up1]) ?_
        refine rz_iadd dX8_read_45 ?_
        refine rz_istore dX8_read_46 (by decide) rfl ?_
        refine rz_iload dX8_read_48 rfl ?_
        refine rz_bipush dX8_read_50 (by decide) ?_
        refine rz_idiv dX8_read_52 (by omega) (by omega) ?_
        refine rz_istore dX8_read_53 (by decide) rfl ?_
        refine rz_iinc (ls' := [some (.ref 6), some (zi p), some (zi b), some (.ref 79), some (zi (l / 10)), some (zi (s + (l % 10))), some (zi (((m : Int) - 1) + (-1)))]) dX8_read_55 (by decide) rfl rfl rfl ?_
        refine rz_goto (t := 25) dX8_read_58 rfl ?_
        exact rz_bk (ihq ((m - 1, l / 10, s + l % 10, up1 g (m - 1) (l % 10))) (rd_step (by omega) qq) (show m - 1 < m by omega)) ⟨Or.inr rfl, Or.inr rfl, Or.inr rfl, Or.inr rfl, Or.inr rfl, Or.inr rfl, Or.inr (congrArg (fun z => some (zi z)) (show ((m - 1 : Nat) : Int) - 1 = (m : Int) - 1 + -1 by omega)), trivial⟩ ((by simp only [upA_self, upA_upA])) (rfl)
  · refine rz_iconst dX8_read_4 ?_
    refine rz_zret dX8_read_5 rfl (by decide) ?_
    exact ⟨_, rfl, readQ_n c1⟩
set_option maxRecDepth 20000 in
set_option maxHeartbeats 400000 in
theorem c_X8_read80 (X : pX) (h : Nat) (I J : IM) (n : Nat) (hn : I 6 0 = n ∧ n ≤ 5) (p b : Int) (hp : rg p) (hb : 0 ≤ b ∧ b < 2) (hl : 0 ≤ I 10 b.toNat ∧ I 10 b.toNat ≤ 9) : KIq X (h + 1) mX8_read [.ref 6, zi p, zi b, .ref 80] I J (ReadQ 80 5 n p (I 10 b.toNat) I J) := by
  show Rz X (h + 1) mX8_read 0 [some (.ref 6), some (zi p), some (zi b), some (.ref 80), none, none, none] [] I J _
  refine rz_iload_n dX8_read_0 rfl ?_
  refine rz_if_ge (t := 6) dX8_read_1 rfl (by omega) (fun c1 => ?_) (fun c1 => ?_)
  · refine rz_aload_n dX8_read_6 rfl ?_
    refine rz_iconst dX8_read_7 ?_
    refine rz_cSV dX8_read_8 kl_RX8_73 (c_fill X _ I J 80 5 0 hd_80 (by decide)) rfl rfl (Nat.le_of_ble_eq_true rfl) (Nat.le_of_ble_eq_true rfl) ?_
    refine rz_iload_n dX8_read_11 rfl ?_
    refine rz_istore dX8_read_12 (by decide) rfl ?_
    refine rz_iconst dX8_read_14 ?_
    refine rz_istore dX8_read_15 (by decide) rfl ?_
    refine rz_aload_n dX8_read_17 rfl ?_
    refine rz_getI (z := (I 6 0)) dX8_read_18 kf_RX8_35 hd_6 rfl rfl ?_
    refine rz_iconst dX8_read_21 ?_
    refine rz_isub dX8_read_22 ?_
    refine rz_istore (ls' := [some (.ref 6), some (zi p), some (zi b), some (.ref 80), some (zi p), some (zi 0), some (zi ((I 6 0) - 1))]) dX8_read_23 (by decide) rfl ?_
    refine rz_wh (σ := Nat × Int × Int × (Nat → Int)) (Inv := fun sq => RdI n p 5 sq.1 sq.2.1 sq.2.2.1 sq.2.2.2) (ls := fun sq => [some (.ref 6), some (zi p), some (zi b), some (.ref 80), some (zi sq.2.1), some (zi sq.2.2.1), some (zi ((sq.1 : Int) - 1))]) (IV := fun sq => (upA I 80 sq.2.2.2)) (JV := fun sq => J) (fun sq => sq.1) ((n, p, 0, fun j => if j < 5 then 0 else I 80 j)) (rd_0 (by omega) (fun v hv _ => if_pos hv)) ⟨Or.inr rfl, Or.inr rfl, Or.inr rfl, Or.inr rfl, Or.inr rfl, Or.inr rfl, Or.inr (congrArg (fun z => some (zi z)) (show (n : Int) - 1 = I 6 0 - 1 by omega)), trivial⟩ (rfl) (rfl) ?_
    · intro sq qq ihq
      obtain ⟨m, l, s, g⟩ := sq
      have qq : RdI n p 5 m l s g := qq
      obtain ⟨h1, h2, h3, h4, h5, h6⟩ := id qq
      refine rz_to (ls' := [some (.ref 6), some (zi p), some (zi b), some (.ref 80), some (zi l), some (zi s), some (zi ((m : Int) - 1))]) (I' := (upA I 80 g)) (J' := J) ⟨Or.inr rfl, Or.inr rfl, Or.inr rfl, Or.inr rfl, Or.inr rfl, Or.inr rfl, Or.inr rfl, trivial⟩ rfl rfl ?_
      refine rz_iload dX8_read_25 rfl ?_
      refine rz_if_lt (t := 61) dX8_read_27 rfl (by omega) (fun c27 => ?_) (fun c27 => ?_)
      · refine rz_iload dX8_read_61 rfl ?_
        refine rz_if_ne (t := 81) dX8_read_63 rfl (by omega) (fun c63 => ?_) (fun c63 => ?_)
        · refine rz_iconst dX8_read_81 ?_
          refine rz_zret dX8_read_82 rfl (by decide) ?_
          obtain rfl : m = 0 := by omega
          exact ⟨_, rfl, g, rfl, rfl, Or.inr ⟨rfl, fun q => by have e2 := q.2.1; have e3 := q.2.2; rw [h4] at e2; rw [h5] at e3; have e4 : l = 0 := e2; have e5 : s + 0 ≤ I 10 b.toNat := e3; omega⟩⟩
        · refine rz_iload dX8_read_66 rfl ?_
          refine rz_aload_n dX8_read_68 rfl ?_
          refine rz_getR dX8_read_69 kf_RX8_21 hd_6 rfl rr_6_4 ?_
          refine rz_iload_n dX8_read_72 rfl ?_
          refine rz_iald (z := (I 10 (b).toNat)) dX8_read_73 hd_10 (by decide) (by omega) rfl ?_
          refine rz_icmp_gt (t := 81) dX8_read_74 rfl (by omega) (by omega) (fun c74 => ?_) (fun c74 => ?_)
          · refine rz_iconst dX8_read_81 ?_
            refine rz_zret dX8_read_82 rfl (by decide) ?_
            obtain rfl : m = 0 := by omega
            exact ⟨_, rfl, g, rfl, rfl, Or.inr ⟨rfl, fun q => by have e2 := q.2.1; have e3 := q.2.2; rw [h4] at e2; rw [h5] at e3; have e4 : l = 0 := e2; have e5 : s + 0 ≤ I 10 b.toNat := e3; omega⟩⟩
          · refine rz_iconst dX8_read_77 ?_
            refine rz_goto (t := 82) dX8_read_78 rfl ?_
            refine rz_zret dX8_read_82 rfl (by decide) ?_
            obtain rfl : m = 0 := by omega
            exact ⟨_, rfl, g, rfl, rfl, Or.inl ⟨rfl, ⟨by omega, by rw [h4]; show l = 0; omega, by rw [h5]; show s + 0 ≤ _; omega⟩, fun v hv => by rw [h6 v hv, if_neg (Nat.not_lt_zero v)]⟩⟩
      · refine rz_aload_n dX8_read_30 rfl ?_
        refine rz_iload dX8_read_31 rfl ?_
        refine rz_iload dX8_read_33 rfl ?_
        refine rz_bipush dX8_read_35 (by decide) ?_
        refine rz_irem dX8_read_37 (by omega) (by omega) ?_
        refine rz_iastN (k := (m - 1)) dX8_read_38 hd_80 (by decide) (by omega) (by omega) ?_
        refine rz_iload dX8_read_39 rfl ?_
        refine rz_aload_n dX8_read_41 rfl ?_
        refine rz_iload dX8_read_42 rfl ?_
        refine rz_ialdN (k := (m - 1)) (z := (l % 10)) dX8_read_44 hd_80 (by decide) (by omega) (by omega) (by simp [upA, up1]) ?_
        refine rz_iadd dX8_read_45 ?_
        refine rz_istore dX8_read_46 (by decide) rfl ?_
        refine rz_iload dX8_read_48 rfl ?_
        refine rz_bipush dX8_read_50 (by decide) ?_
        refine rz_idiv dX8_read_52 (by omega) (by omega) ?_
        refine rz_istore dX8_read_53 (by decide) rfl ?_
        refine rz_iinc (ls' := [some (.ref 6), some (zi p), some (zi b), some (.ref 80), some (zi (l / 10)), some (zi (s + (l % 10))), some (zi (((m : Int) - 1) + (-1)))]) dX8_read_55 (by decide) rfl rfl rfl ?_
        refine rz_goto (t := 25) dX8_read_58 rfl ?_
        exact rz_bk (ihq ((m - 1, l / 10, s + l % 10, up1 g (m - 1) (l % 10))) (rd_step (by omega) qq) (show m - 1 < m by omega)) ⟨Or.inr rfl, Or.inr rfl, Or.inr rfl, Or.inr rfl, Or.inr rfl, Or.inr rfl, Or.inr (congrArg (fun z => some (zi z)) (show ((m - 1 : Nat) : Int) - 1 = (m : Int) - 1 + -1 by omega)), trivial⟩ ((by simp only [upA_self, upA_upA])) (rfl)
  · refine rz_iconst dX8_read_4 ?_
    refine rz_zret dX8_read_5 rfl (by decide) ?_
    exact ⟨_, rfl, readQ_n c1⟩
set_option maxRecDepth 20000 in
set_option maxHeartbeats 400000 in
theorem c_X12_reads (X : pX) (h : Nat) (I J : IM) (n : Nat) (hn : I 81 1 = n ∧ n ≤ 5) (p b : Int) (hp : rg p) (hb : 0 ≤ b ∧ b < 2) (hl : 0 ≤ I 85 b.toNat ∧ I 85 b.toNat ≤ 9) : KIq X h mX12_reads [.ref 81, zi p, zi b] I J (ReadQ 93 n n p (I 85 b.toNat) I J) := by
  show Rz X h mX12_reads 0 [some (.ref 81), some (zi p), some (zi b), none, none, none] [] I J _
  refine rz_iload_n dX12_reads_0 rfl ?_
  refine rz_if_ge (t := 6) dX12_reads_1 rfl (by omega) (fun c1 => ?_) (fun c1 => ?_)
  · refine rz_iload_n dX12_reads_6 rfl ?_
    refine rz_istore_n dX12_reads_7 (by decide) rfl ?_
    refine rz_iconst dX12_reads_8 ?_
    refine rz_istore dX12_reads_9 (by decide) rfl ?_
    refine rz_aload_n dX12_reads_11 rfl ?_
    refine rz_getI (z := (I 81 1)) dX12_reads_12 kf_RX12_137 hd_81 rfl rfl ?_
    refine rz_iconst dX12_reads_15 ?_
    refine rz_isub dX12_reads_16 ?_
    refine rz_istore (ls' := [some (.ref 81), some (zi p), some (zi b), some (zi p), some (zi 0), some (zi ((I 81 1) - 1))]) dX12_reads_17 (by decide) rfl ?_
    refine rz_wh (σ := Nat × Int × Int × (Nat → Int)) (Inv := fun sq => RdI n p n sq.1 sq.2.1 sq.2.2.1 sq.2.2.2) (ls := fun sq => [some (.ref 81), some (zi p), some (zi b), some (zi sq.2.1), some (zi sq.2.2.1), some (zi ((sq.1 : Int) - 1))]) (IV := fun sq => (upA I 93 sq.2.2.2)) (JV := fun sq => J) (fun sq => sq.1) ((n, p, 0, I 93)) (rd_0 (by omega) (fun v hv h2 => absurd hv (by omega))) ⟨Or.inr rfl, Or.inr rfl, Or.inr rfl, Or.inr rfl, Or.inr rfl, Or.inr (congrArg (fun z => some (zi z)) (show (n : Int) - 1 = I 81 1 - 1 by omega)), trivial⟩ (upA_id) (rfl) ?_
    · intro sq qq ihq
      obtain ⟨m, l, s, g⟩ := sq
      have qq : RdI n p n m l s g := qq
      obtain ⟨h1, h2, h3, h4, h5, h6⟩ := id qq
      refine rz_to (ls' := [some (.ref 81), some (zi p), some (zi b), some (zi l), some (zi s), some (zi ((m : Int) - 1))]) (I' := (upA I 93 g)) (J' := J) ⟨Or.inr rfl, Or.inr rfl, Or.inr rfl, Or.inr rfl, Or.inr rfl, Or.inr rfl, trivial⟩ rfl rfl ?_
      refine rz_iload dX12_reads_19 rfl ?_
      refine rz_if_lt (t := 58) dX12_reads_21 rfl (by omega) (fun c21 => ?_) (fun c21 => ?_)
      · refine rz_iload_n dX12_reads_58 rfl ?_
        refine rz_if_ne (t := 77) dX12_reads_59 rfl (by omega) (fun c59 => ?_) (fun c59 => ?_)
        · refine rz_iconst dX12_reads_77 ?_
          refine rz_zret dX12_reads_78 rfl (by decide) ?_
          obtain rfl : m = 0 := by omega
          exact ⟨_, rfl, g, rfl, rfl, Or.inr ⟨rfl, fun q => by have e2 := q.2.1; have e3 := q.2.2; rw [h4] at e2; rw [h5] at e3; have e4 : l = 0 := e2; have e5 : s + 0 ≤ I 85 b.toNat := e3; omega⟩⟩
        · refine rz_iload dX12_reads_62 rfl ?_
          refine rz_aload_n dX12_reads_64 rfl ?_
          refine rz_getR dX12_reads_65 kf_RX12_19 hd_81 rfl rr_81_5 ?_
          refine rz_iload_n dX12_reads_68 rfl ?_
          refine rz_iald (z := (I 85 (b).toNat)) dX12_reads_69 hd_85 (by decide) (by omega) rfl ?_
          refine rz_icmp_gt (t := 77) dX12_reads_70 rfl (by omega) (by omega) (fun c70 => ?_) (fun c70 => ?_)
          · refine rz_iconst dX12_reads_77 ?_
            refine rz_zret dX12_reads_78 rfl (by decide) ?_
            obtain rfl : m = 0 := by omega
            exact ⟨_, rfl, g, rfl, rfl, Or.inr ⟨rfl, fun q => by have e2 := q.2.1; have e3 := q.2.2; rw [h4] at e2; rw [h5] at e3; have e4 : l = 0 := e2; have e5 : s + 0 ≤ I 85 b.toNat := e3; omega⟩⟩
          · refine rz_iconst dX12_reads_73 ?_
            refine rz_goto (t := 78) dX12_reads_74 rfl ?_
            refine rz_zret dX12_reads_78 rfl (by decide) ?_
            obtain rfl : m = 0 := by omega
            exact ⟨_, rfl, g, rfl, rfl, Or.inl ⟨rfl, ⟨by omega, by rw [h4]; show l = 0; omega, by rw [h5]; show s + 0 ≤ _; omega⟩, fun v hv => by rw [h6 v hv, if_neg (Nat.not_lt_zero v)]⟩⟩
      · refine rz_aload_n dX12_reads_24 rfl ?_
        refine rz_getR dX12_reads_25 kf_RX12_44 hd_81 rfl rr_81_15 ?_
        refine rz_iload dX12_reads_28 rfl ?_
        refine rz_iload_n dX12_reads_30 rfl ?_
        refine rz_bipush dX12_reads_31 (by decide) ?_
        refine rz_irem dX12_reads_33 (by omega) (by omega) ?_
        refine rz_iastN (k := (m - 1)) dX12_reads_34 hd_93 (by decide) (by omega) (by omega) ?_
        refine rz_iload dX12_reads_35 rfl ?_
        refine rz_aload_n dX12_reads_37 rfl ?_
        refine rz_getR dX12_reads_38 kf_RX12_44 hd_81 rfl rr_81_15 ?_
        refine rz_iload dX12_reads_41 rfl ?_
        refine rz_ialdN (k := (m - 1)) (z := (l % 10)) dX12_reads_43 hd_93 (by decide) (by omega) (by omega) (by simp [upA, up1]) ?_
        refine rz_iadd dX12_reads_44 ?_
        refine rz_istore dX12_reads_45 (by decide) rfl ?_
        refine rz_iload_n dX12_reads_47 rfl ?_
        refine rz_bipush dX12_reads_48 (by decide) ?_
        refine rz_idiv dX12_reads_50 (by omega) (by omega) ?_
        refine rz_istore_n dX12_reads_51 (by decide) rfl ?_
        refine rz_iinc (ls' := [some (.ref 81), some (zi p), some (zi b), some (zi (l / 10)), some (zi (s + (l % 10))), some (zi (((m : Int) - 1) + (-1)))]) dX12_reads_52 (by decide) rfl rfl rfl ?_
        refine rz_goto (t := 19) dX12_reads_55 rfl ?_
        exact rz_bk (ihq ((m - 1, l / 10, s + l % 10, up1 g (m - 1) (l % 10))) (rd_step (by omega) qq) (show m - 1 < m by omega)) ⟨Or.inr rfl, Or.inr rfl, Or.inr rfl, Or.inr rfl, Or.inr rfl, Or.inr (congrArg (fun z => some (zi z)) (show ((m - 1 : Nat) : Int) - 1 = (m : Int) - 1 + -1 by omega)), trivial⟩ ((by simp only [upA_self, upA_upA])) (rfl)
  · refine rz_iconst dX12_reads_4 ?_
    refine rz_zret dX12_reads_5 rfl (by decide) ?_
    exact ⟨_, rfl, readQ_n c1⟩
