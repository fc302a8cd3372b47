/-! the class reads a text -/
def encM (I : IM) (s : PS) (D : Nat → Int) : IM := upA (upA I 3 D) 1 (up1 (up1 (up1 (I 1) 2 (s.1 : Int)) 3 s.2.1) 5 (s.2.2.length : Int))
def DOK (D : Nat → Int) (l : List Int) : Prop := ∀ i, i < l.length → D i = l.getD i 0
theorem encM_1 {I : IM} {s : PS} {D : Nat → Int} {k : Nat} {z : Int} {s' : PS} (h : ∀ j, up1 (up1 (up1 (up1 (I 1) 2 (s.1 : Int)) 3 s.2.1) 5 (s.2.2.length : Int)) k z j = up1 (up1 (up1 (I 1) 2 (s'.1 : Int)) 3 s'.2.1) 5 (s'.2.2.length : Int) j) : encM I s' D = upA (encM I s D) 1 (up1 (encM I s D 1) k z) := by
  unfold encM
  rw [upA_upA]
  congr 1
  funext j
  exact (h j).symm
theorem encM_ad {I : IM} {s : PS} {D : Nat → Int} : encM I (adS s) D = upA (encM I s D) 1 (up1 (encM I s D 1) 2 ((s.1 : Int) + 1)) := encM_1 (fun j => by
  unfold adS up1
  by_cases h2 : j = 2
  · subst h2; simp
  · by_cases h5 : j = 5
    · subst h5; simp
    · simp [h2, h5])
theorem encM_fl {I : IM} {s : PS} {D : Nat → Int} (h : s.2.1 < 0) : encM I (flS s) D = upA (encM I s D) 1 (up1 (encM I s D 1) 3 (s.1 : Int)) := encM_1 (fun j => by
  unfold flS up1
  rw [if_pos h]
  by_cases h2 : j = 3
  · subst h2; simp
  · by_cases h5 : j = 5
    · subst h5; simp
    · simp [h2, h5])
theorem encM_em {I : IM} {s : PS} {D : Nat → Int} {c : Int} (h : s.2.1 < 0) : encM I (emS c s) (up1 D s.2.2.length c) = upA (upA (encM I s D) 3 (up1 (encM I s D 3) s.2.2.length c)) 1 (up1 (encM I s D 1) 5 ((s.2.2.length : Int) + 1)) := by
  funext b
  unfold encM emS
  rw [if_pos h]
  by_cases h1 : b = 1
  · subst h1
    simp only [upA_self]
    funext j
    unfold up1
    by_cases h5 : j = 5
    · subst h5; simp
    · simp [h5]
  · by_cases h3 : b = 3
    · subst h3; rfl
    · simp [upA, h1, h3]
theorem DOK_em {D : Nat → Int} {s : PS} {c : Int} (h : DOK D s.2.2) (hf : s.2.1 < 0) : DOK (up1 D s.2.2.length c) (emS c s).2.2 := by
  unfold emS
  rw [if_pos hf]
  intro i hi
  have hi' : i < s.2.2.length + 1 := by simpa using hi
  by_cases e : i = s.2.2.length
  · subst e; simp [up1]
  · have hl : i < s.2.2.length := by omega
    rw [up1_ne e, h i hl]
    simp [List.getElem?_append_left hl]
theorem nxS_rg {T : Nat → Int} {L : Nat} {s : PS} (hT : ∀ k : Nat, 0 ≤ T k ∧ T k ≤ 255) : -1 ≤ nxS T L s ∧ nxS T L s ≤ 255 := by
  unfold nxS
  have := hT s.1
  split <;> omega
set_option maxRecDepth 20000 in
set_option maxHeartbeats 400000 in
theorem c_X4_next (X : pX) (h : Nat) (I J : IM) (L : Nat) (hL : I 1 0 = L ∧ L ≤ 120) (s : PS) (D : Nat → Int) (hs : s.1 ≤ L) (hf : -1 ≤ s.2.1 ∧ s.2.1 ≤ 120) (hT : ∀ k : Nat, 0 ≤ I 2 k ∧ I 2 k ≤ 255) : KI X h mX4_next [.ref 1] (encM I s D) J (nxS (I 2) L s) (encM I s D) J := by
  show Rz X h mX4_next 0 [some (.ref 1)] [] (encM I s D) J _
  refine rz_aload_n dX4_next_0 rfl ?_
  refine rz_getI (z := s.2.1) dX4_next_1 kf_RX4_32 hd_1 rfl (rfl) ?_
  refine rz_if_ge (t := 30) dX4_next_4 rfl (by omega) (fun c4 => ?_) (fun c4 => ?_)
  · refine rz_iconst dX4_next_30 ?_
    refine rz_iret dX4_next_31 rfl ?_
    exact ⟨_, rfl, (if_neg (by omega)).symm, rfl, rfl⟩
  · refine rz_aload_n dX4_next_7 rfl ?_
    refine rz_getI (z := (s.1 : Int)) dX4_next_8 kf_RX4_29 hd_1 rfl (rfl) ?_
    refine rz_aload_n dX4_next_11 rfl ?_
    refine rz_getI (z := (L : Int)) dX4_next_12 kf_RX4_22 hd_1 rfl (hL.1) ?_
    refine rz_icmp_ge (t := 30) dX4_next_15 rfl (by omega) (by omega) (fun c15 => ?_) (fun c15 => ?_)
    · refine rz_iconst dX4_next_30 ?_
      refine rz_iret dX4_next_31 rfl ?_
      exact ⟨_, rfl, (if_neg (by omega)).symm, rfl, rfl⟩
    · refine rz_aload_n dX4_next_18 rfl ?_
      refine rz_getR dX4_next_19 kf_RX4_9 hd_1 rfl rr_1_1 ?_
      refine rz_aload_n dX4_next_22 rfl ?_
      refine rz_getI (z := (s.1 : Int)) dX4_next_23 kf_RX4_29 hd_1 rfl (rfl) ?_
      refine rz_ialdN (k := s.1) (z := ((encM I s D) 2 s.1)) dX4_next_26 hd_2 (by decide) (by omega) (by omega) rfl ?_
      refine rz_goto (t := 31) dX4_next_27 rfl ?_
      refine rz_iret dX4_next_31 rfl ?_
      exact ⟨_, rfl, (if_pos (by omega)).symm, rfl, rfl⟩
set_option maxRecDepth 20000 in
set_option maxHeartbeats 400000 in
theorem c_X4_fail (X : pX) (h : Nat) (I J : IM) (L : Nat) (hL : I 1 0 = L ∧ L ≤ 120) (s : PS) (D : Nat → Int) (hf : -1 ≤ s.2.1 ∧ s.2.1 ≤ 120) : KV X h mX4_fail [.ref 1] (encM I s D) J (encM I (flS s) D) J := by
  show Rz X h mX4_fail 0 [some (.ref 1)] [] (encM I s D) J _
  refine rz_aload_n dX4_fail_0 rfl ?_
  refine rz_getI (z := s.2.1) dX4_fail_1 kf_RX4_32 hd_1 rfl (rfl) ?_
  refine rz_if_ge (t := 15) dX4_fail_4 rfl (by omega) (fun c4 => ?_) (fun c4 => ?_)
  · refine rz_vret dX4_fail_15 rfl ?_
    exact ⟨rfl, by rw [flS_f c4], rfl⟩
  · refine rz_aload_n dX4_fail_7 rfl ?_
    refine rz_aload_n dX4_fail_8 rfl ?_
    refine rz_getI (z := (s.1 : Int)) dX4_fail_9 kf_RX4_29 hd_1 rfl (rfl) ?_
    refine rz_putI dX4_fail_12 kp_RX4_32 hd_1 rfl ?_
    refine rz_vret dX4_fail_15 rfl ?_
    exact ⟨rfl, (encM_fl c4).symm, rfl⟩
set_option maxRecDepth 20000 in
set_option maxHeartbeats 400000 in
theorem c_X4_emit (X : pX) (h : Nat) (I J : IM) (L : Nat) (hL : I 1 0 = L ∧ L ≤ 120) (s : PS) (D : Nat → Int) (c : Int) (hd : DOK D s.2.2) (hf : -1 ≤ s.2.1 ∧ s.2.1 ≤ 120) (hn : s.2.2.length < 121) : KVq X h mX4_emit [.ref 1, zi c] (encM I s D) J (fun A B => (∃ D2, A = encM I (emS c s) D2 ∧ DOK D2 (emS c s).2.2) ∧ J = B) := by
  show Rz X h mX4_emit 0 [some (.ref 1), some (zi c)] [] (encM I s D) J _
  refine rz_aload_n dX4_emit_0 rfl ?_
  refine rz_getI (z := s.2.1) dX4_emit_1 kf_RX4_32 hd_1 rfl (rfl) ?_
  refine rz_if_ge (t := 19) dX4_emit_4 rfl (by omega) (fun c4 => ?_) (fun c4 => ?_)
  · refine rz_vret dX4_emit_19 rfl ?_
    first | (exfalso; omega) | exact ⟨rfl, ⟨D, by rw [emS_f c4], by rw [emS_f c4]; exact hd⟩, rfl⟩
  · refine rz_aload_n dX4_emit_7 rfl ?_
    refine rz_getI (z := (s.2.2.length : Int)) dX4_emit_8 kf_RX4_35 hd_1 rfl (rfl) ?_
    refine rz_aload_n dX4_emit_11 rfl ?_
    refine rz_getR dX4_emit_12 kf_RX4_13 hd_1 rfl rr_1_4 ?_
    refine rz_alen dX4_emit_15 hd_3 (by decide) (by decide) ?_
    refine rz_icmp_lt (t := 20) dX4_emit_16 rfl (by omega) (by omega) (fun c16 => ?_) (fun c16 => ?_)
    · refine rz_aload_n dX4_emit_20 rfl ?_
      refine rz_getR dX4_emit_21 kf_RX4_13 hd_1 rfl rr_1_4 ?_
      refine rz_aload_n dX4_emit_24 rfl ?_
      refine rz_getI (z := (s.2.2.length : Int)) dX4_emit_25 kf_RX4_35 hd_1 rfl (rfl) ?_
      refine rz_iload_n dX4_emit_28 rfl ?_
      refine rz_iastN (k := s.2.2.length) dX4_emit_29 hd_3 (by decide) (by omega) (by omega) ?_
      refine rz_aload_n dX4_emit_30 rfl ?_
      refine rz_dup dX4_emit_31 rfl ?_
      refine rz_getI (z := (s.2.2.length : Int)) dX4_emit_32 kf_RX4_35 hd_1 rfl (rfl) ?_
      refine rz_iconst dX4_emit_35 ?_
      refine rz_iadd dX4_emit_36 ?_
      refine rz_putI dX4_emit_37 kp_RX4_35 hd_1 rfl ?_
      refine rz_vret dX4_emit_40 rfl ?_
      exact ⟨rfl, ⟨_, (encM_em c4).symm, DOK_em hd c4⟩, rfl⟩
    · refine rz_vret dX4_emit_19 rfl ?_
      first | (exfalso; omega) | exact ⟨rfl, ⟨D, by rw [emS_f c4], by rw [emS_f c4]; exact hd⟩, rfl⟩
set_option maxRecDepth 20000 in
set_option maxHeartbeats 400000 in
theorem c_X4_isDigit (X : pX) (h : Nat) (I J : IM) (n : Int) (hn : rg n) : KIq X h mX4_isDigit [zi n] I J (BQ I J (digC n)) := by
  show Rz X h mX4_isDigit 0 [some (zi n)] [] I J _
  refine rz_iload_n dX4_isDigit_0 rfl ?_
  refine rz_bipush dX4_isDigit_1 (by decide) ?_
  refine rz_icmp_lt (t := 16) dX4_isDigit_3 rfl (by omega) (by omega) (fun c3 => ?_) (fun c3 => ?_)
  · refine rz_iconst dX4_isDigit_16 ?_
    refine rz_zret dX4_isDigit_17 rfl (by decide) ?_
    exact ⟨_, rfl, Or.inr ⟨rfl, by first | omega | assumption⟩, rfl, rfl⟩
  · refine rz_iload_n dX4_isDigit_6 rfl ?_
    refine rz_bipush dX4_isDigit_7 (by decide) ?_
    refine rz_icmp_gt (t := 16) dX4_isDigit_9 rfl (by omega) (by omega) (fun c9 => ?_) (fun c9 => ?_)
    · refine rz_iconst dX4_isDigit_16 ?_
      refine rz_zret dX4_isDigit_17 rfl (by decide) ?_
      exact ⟨_, rfl, Or.inr ⟨rfl, by first | omega | assumption⟩, rfl, rfl⟩
    · refine rz_iconst dX4_isDigit_12 ?_
      refine rz_goto (t := 17) dX4_isDigit_13 rfl ?_
      refine rz_zret dX4_isDigit_17 rfl (by decide) ?_
      exact ⟨_, rfl, Or.inl ⟨rfl, by first | omega | assumption⟩, rfl, rfl⟩
set_option maxRecDepth 20000 in
set_option maxHeartbeats 400000 in
theorem c_X4_isName (X : pX) (h : Nat) (I J : IM) (n : Int) (hn : rg n) : KIq X h mX4_isName [zi n] I J (BQ I J (namC n)) := by
  show Rz X h mX4_isName 0 [some (zi n)] [] I J _
  refine rz_iload_n dX4_isName_0 rfl ?_
  refine rz_bipush dX4_isName_1 (by decide) ?_
  refine rz_icmp_eq (t := 30) dX4_isName_3 rfl (by omega) (by omega) (fun c3 => ?_) (fun c3 => ?_)
  · refine rz_iconst dX4_isName_30 ?_
    refine rz_goto (t := 35) dX4_isName_31 rfl ?_
    refine rz_zret dX4_isName_35 rfl (by decide) ?_
    exact ⟨_, rfl, Or.inl ⟨rfl, by first | omega | assumption⟩, rfl, rfl⟩
  · refine rz_iload_n dX4_isName_6 rfl ?_
    refine rz_bipush dX4_isName_7 (by decide) ?_
    refine rz_icmp_eq (t := 30) dX4_isName_9 rfl (by omega) (by omega) (fun c9 => ?_) (fun c9 => ?_)
    · refine rz_iconst dX4_isName_30 ?_
      refine rz_goto (t := 35) dX4_isName_31 rfl ?_
      refine rz_zret dX4_isName_35 rfl (by decide) ?_
      exact ⟨_, rfl, Or.inl ⟨rfl, by first | omega | assumption⟩, rfl, rfl⟩
    · refine rz_iload_n dX4_isName_12 rfl ?_
      refine rz_bipush dX4_isName_13 (by decide) ?_
      refine rz_icmp_eq (t := 30) dX4_isName_15 rfl (by omega) (by omega) (fun c15 => ?_) (fun c15 => ?_)
      · refine rz_iconst dX4_isName_30 ?_
        refine rz_goto (t := 35) dX4_isName_31 rfl ?_
        refine rz_zret dX4_isName_35 rfl (by decide) ?_
        exact ⟨_, rfl, Or.inl ⟨rfl, by first | omega | assumption⟩, rfl, rfl⟩
      · refine rz_iload_n dX4_isName_18 rfl ?_
        refine rz_bipush dX4_isName_19 (by decide) ?_
        refine rz_icmp_eq (t := 30) dX4_isName_21 rfl (by omega) (by omega) (fun c21 => ?_) (fun c21 => ?_)
        · refine rz_iconst dX4_isName_30 ?_
          refine rz_goto (t := 35) dX4_isName_31 rfl ?_
          refine rz_zret dX4_isName_35 rfl (by decide) ?_
          exact ⟨_, rfl, Or.inl ⟨rfl, by first | omega | assumption⟩, rfl, rfl⟩
        · refine rz_iload_n dX4_isName_24 rfl ?_
          refine rz_bipush dX4_isName_25 (by decide) ?_
          refine rz_icmp_ne (t := 34) dX4_isName_27 rfl (by omega) (by omega) (fun c27 => ?_) (fun c27 => ?_)
          · refine rz_iconst dX4_isName_34 ?_
            refine rz_zret dX4_isName_35 rfl (by decide) ?_
            exact ⟨_, rfl, Or.inr ⟨rfl, by first | omega | assumption⟩, rfl, rfl⟩
          · refine rz_iconst dX4_isName_30 ?_
            refine rz_goto (t := 35) dX4_isName_31 rfl ?_
            refine rz_zret dX4_isName_35 rfl (by decide) ?_
            exact ⟨_, rfl, Or.inl ⟨rfl, by first | omega | assumption⟩, rfl, rfl⟩
abbrev LwQ (I J : IM) (r : PS) : IM → IM → Prop := fun A B => (∃ D2, A = encM I r D2 ∧ DOK D2 r.2.2) ∧ J = B
theorem nm_yes {T : Nat → Int} {L q : Nat} {v : Int} {s : PS} (hq : q < 4) (h : digC (nxS T L s)) : nmS T L (4 - q) v s = nmS T L (4 - (q + 1)) (v * 10 + nxS T L s - 48) (adS s) := by
  obtain ⟨k, hk⟩ : ∃ k, 4 - q = k + 1 := ⟨4 - q - 1, by omega⟩
  rw [hk, show 4 - (q + 1) = k by omega]
  exact if_pos h
theorem nm_no {T : Nat → Int} {L k : Nat} {v : Int} {s : PS} (h : ¬ digC (nxS T L s)) : nmS T L k v s = emS v s := by
  cases k with
  | zero => rfl
  | succ k => exact if_neg h
set_option maxRecDepth 20000 in
set_option maxHeartbeats 400000 in
theorem c_X4_takes (X : pX) (h : Nat) (I J : IM) (L : Nat) (hL : I 1 0 = L ∧ L ≤ 120) (s : PS) (D : Nat → Int) (c : Int) (hc : rg c) (hs : s.1 ≤ L) (hf : -1 ≤ s.2.1 ∧ s.2.1 ≤ 120) (hT : ∀ k : Nat, 0 ≤ I 2 k ∧ I 2 k ≤ 255) : KIq X (h + 1) mX4_takes [.ref 1, zi c] (encM I s D) J (fun z A B => ((z = 1 ∧ nxS (I 2) L s = c ∧ A = encM I (adS s) D) ∨ (z = 0 ∧ nxS (I 2) L s ≠ c ∧ A = encM I s D)) ∧ J = B) := by
  show Rz X (h + 1) mX4_takes 0 [some (.ref 1), some (zi c)] [] (encM I s D) J _
  have hr := nxS_rg (L := L) (s := s) hT
  refine rz_aload_n dX4_takes_0 rfl ?_
  refine rz_cVI dX4_takes_1 kl_RX4_70 hd_1 ⟨_, _, rfl⟩ (c_X4_next X _ I J L hL s D (by first | assumption | omega) (by first | assumption | omega) hT) rfl rfl (Nat.le_of_ble_eq_true rfl) (Nat.le_of_ble_eq_true rfl) ?_
  refine rz_iload_n dX4_takes_4 rfl ?_
  refine rz_icmp_eq (t := 10) dX4_takes_5 rfl (by omega) (by omega) (fun c5 => ?_) (fun c5 => ?_)
  · refine rz_aload_n dX4_takes_10 rfl ?_
    refine rz_dup dX4_takes_11 rfl ?_
    refine rz_getI (z := (s.1 : Int)) dX4_takes_12 kf_RX4_29 hd_1 rfl (rfl) ?_
    refine rz_iconst dX4_takes_15 ?_
    refine rz_iadd dX4_takes_16 ?_
    refine rz_putI dX4_takes_17 kp_RX4_29 hd_1 rfl ?_
    refine rz_iconst dX4_takes_20 ?_
    refine rz_zret dX4_takes_21 rfl (by decide) ?_
    exact ⟨_, rfl, Or.inl ⟨rfl, c5, encM_ad.symm⟩, rfl⟩
  · refine rz_iconst dX4_takes_8 ?_
    refine rz_zret dX4_takes_9 rfl (by decide) ?_
    exact ⟨_, rfl, Or.inr ⟨rfl, c5, rfl⟩, rfl⟩
set_option maxRecDepth 20000 in
set_option maxHeartbeats 400000 in
theorem c_X4_readNumber (X : pX) (h : Nat) (I J : IM) (L : Nat) (hL : I 1 0 = L ∧ L ≤ 120) (s : PS) (D : Nat → Int) (hs : s.1 ≤ L) (hf : -1 ≤ s.2.1 ∧ s.2.1 ≤ 120) (hT : ∀ k : Nat, 0 ≤ I 2 k ∧ I 2 k ≤ 255) (hd : DOK D s.2.2) (hn : s.2.2.length < 121) : KVq X (h + 1) mX4_readNumber [.ref 1] (encM I s D) J (LwQ I J (nmS (I 2) L 4 0 s)) := by
  show Rz X (h + 1) mX4_readNumber 0 [some (.ref 1), none, none] [] (encM I s D) J _
  refine rz_iconst dX4_readNumber_0 ?_
  refine rz_istore_n dX4_readNumber_1 (by decide) rfl ?_
  refine rz_iconst dX4_readNumber_2 ?_
  refine rz_istore_n dX4_readNumber_3 (by decide) rfl ?_
  refine rz_upx (σ := PS × Int) (Inv := fun q sq => sq.1.1 ≤ L ∧ (-1 ≤ sq.1.2.1 ∧ sq.1.2.1 ≤ 120) ∧ sq.1.2.2 = s.2.2 ∧ nmS (I 2) L (4 - q) sq.2 sq.1 = nmS (I 2) L 4 0 s) (ls := fun (q : Nat) sq => [some (.ref 1), some (zi sq.2), some (zi (q : Int))]) (IV := fun (q : Nat) sq => (encM I sq.1 D)) (JV := fun (q : Nat) sq => J) (4) ((s, 0)) ⟨hs, hf, rfl, rfl⟩ ⟨Or.inr rfl, Or.inr rfl, Or.inr rfl, trivial⟩ (rfl) (rfl) ?_ ?_
  · intro q sq hq qq ihq
    obtain ⟨t, v⟩ := sq
    obtain ⟨h1, h2, h3, h4⟩ : t.1 ≤ L ∧ (-1 ≤ t.2.1 ∧ t.2.1 ≤ 120) ∧ t.2.2 = s.2.2 ∧ nmS (I 2) L (4 - q) v t = nmS (I 2) L 4 0 s := qq
    have hr := nxS_rg (L := L) (s := t) hT
    have hd2 : DOK D t.2.2 := by rw [h3]; exact hd
    have hn2 : t.2.2.length < 121 := by rw [h3]; exact hn
    refine rz_to (ls' := [some (.ref 1), some (zi v), some (zi (q : Int))]) (I' := (encM I t D)) (J' := J) ⟨Or.inr rfl, Or.inr rfl, Or.inr rfl, trivial⟩ rfl rfl ?_
    refine rz_iload_n dX4_readNumber_4 rfl ?_
    refine rz_iconst dX4_readNumber_5 ?_
    refine rz_icmp_ge (t := 48) dX4_readNumber_6 rfl (by omega) (by omega) (fun c6 => ?_) (fun c6 => ?_)
    · exfalso; omega
    · refine rz_aload_n dX4_readNumber_9 rfl ?_
      refine rz_cVI dX4_readNumber_10 kl_RX4_70 hd_1 ⟨_, _, rfl⟩ (c_X4_next X _ I J L hL t D (by first | assumption | omega) (by first | assumption | omega) hT) rfl rfl (Nat.le_of_ble_eq_true rfl) (Nat.le_of_ble_eq_true rfl) ?_
      refine rz_cSIq dX4_readNumber_13 kl_RX4_80 (c_X4_isDigit X _ (encM I t D) J (nxS (I 2) L t) (by omega)) rfl rfl (Nat.le_of_ble_eq_true rfl) (Nat.le_of_ble_eq_true rfl) ?_
      rintro z13 A13 B13 ⟨⟨rfl, b13⟩ | ⟨rfl, b13⟩, rfl, rfl⟩
      · refine rz_if_eq (t := 48) dX4_readNumber_16 rfl (by omega) (fun q => absurd q (by decide)) (fun _ => ?_)
        refine rz_iload_n dX4_readNumber_19 rfl ?_
        refine rz_bipush dX4_readNumber_20 (by decide) ?_
        refine rz_imul dX4_readNumber_22 ?_
        refine rz_aload_n dX4_readNumber_23 rfl ?_
        refine rz_cVI dX4_readNumber_24 kl_RX4_70 hd_1 ⟨_, _, rfl⟩ (c_X4_next X _ I J L hL t D (by first | assumption | omega) (by first | assumption | omega) hT) rfl rfl (Nat.le_of_ble_eq_true rfl) (Nat.le_of_ble_eq_true rfl) ?_
        refine rz_iadd dX4_readNumber_27 ?_
        refine rz_bipush dX4_readNumber_28 (by decide) ?_
        refine rz_isub dX4_readNumber_30 ?_
        refine rz_istore_n dX4_readNumber_31 (by decide) rfl ?_
        refine rz_aload_n dX4_readNumber_32 rfl ?_
        refine rz_dup dX4_readNumber_33 rfl ?_
        refine rz_getI (z := (t.1 : Int)) dX4_readNumber_34 kf_RX4_29 hd_1 rfl (rfl) ?_
        refine rz_iconst dX4_readNumber_37 ?_
        refine rz_iadd dX4_readNumber_38 ?_
        refine rz_putI dX4_readNumber_39 kp_RX4_29 hd_1 rfl ?_
        refine rz_iinc dX4_readNumber_42 (by decide) rfl rfl rfl ?_
        refine rz_goto (t := 4) dX4_readNumber_45 rfl ?_
        exact rz_bk (ihq ((adS t, v * 10 + nxS (I 2) L t - 48)) (⟨by have := nxS_ne (T := I 2) (L := L) (s := t) (by omega); show t.1 + 1 ≤ L; omega, h2, h3, by rw [← h4]; exact (nm_yes hq b13).symm⟩)) ⟨Or.inr rfl, Or.inr rfl, Or.inr rfl, trivial⟩ (encM_ad) (rfl)
      · refine rz_if_eq (t := 48) dX4_readNumber_16 rfl (by omega) (fun _ => ?_) (fun q => absurd q (by decide))
        refine rz_aload_n dX4_readNumber_48 rfl ?_
        refine rz_iload_n dX4_readNumber_49 rfl ?_
        refine rz_cVVq dX4_readNumber_50 kl_RX4_58 hd_1 ⟨_, _, rfl⟩ (c_X4_emit X _ I J L hL t D v (by first | assumption | omega) (by first | assumption | omega) (by first | assumption | omega)) rfl rfl (Nat.le_of_ble_eq_true rfl) (Nat.le_of_ble_eq_true rfl) ?_
        rintro _ _ ⟨⟨D50, rfl, k50⟩, rfl⟩
        refine rz_vret dX4_readNumber_53 rfl ?_
        have hz : emS v t = nmS (I 2) L 4 0 s := by rw [← h4]; exact (nm_no b13).symm
        exact ⟨rfl, ⟨D50, by rw [← hz], by rw [← hz]; exact k50⟩, rfl⟩
  · intro sq qq
    obtain ⟨h1, h2, h3, h4⟩ := qq
    have hd2 : DOK D sq.1.2.2 := by rw [h3]; exact hd
    have hn2 : sq.1.2.2.length < 121 := by rw [h3]; exact hn
    refine rz_iload_n dX4_readNumber_4 rfl ?_
    refine rz_iconst dX4_readNumber_5 ?_
    refine rz_icmp_ge (t := 48) dX4_readNumber_6 rfl (by omega) (by omega) (fun c6 => ?_) (fun c6 => ?_)
    · refine rz_aload_n dX4_readNumber_48 rfl ?_
      refine rz_iload_n dX4_readNumber_49 rfl ?_
      refine rz_cVVq dX4_readNumber_50 kl_RX4_58 hd_1 ⟨_, _, rfl⟩ (c_X4_emit X _ I J L hL sq.1 D sq.2 (by first | assumption | omega) (by first | assumption | omega) (by first | assumption | omega)) rfl rfl (Nat.le_of_ble_eq_true rfl) (Nat.le_of_ble_eq_true rfl) ?_
      rintro _ _ ⟨⟨D50, rfl, k50⟩, rfl⟩
      refine rz_vret dX4_readNumber_53 rfl ?_
      have hz : emS sq.2 sq.1 = nmS (I 2) L 4 0 s := h4
      exact ⟨rfl, ⟨D50, by rw [← hz], by rw [← hz]; exact k50⟩, rfl⟩
    · exfalso; omega
