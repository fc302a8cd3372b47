/-! the reference reads a text -/
def sg (c : Int) : Int := if 128 ≤ c then c - 256 else c
def lkR (T : Nat → Int) (L : Nat) (s : PS) : Int := if s.1 < L then sg (T s.1) else -1
theorem sg_c (c : Int) : (c < 128 ∧ sg c = c) ∨ (128 ≤ c ∧ sg c = c - 256) := by unfold sg; split <;> omega
theorem lkR_nx {T : Nat → Int} {L : Nat} {s : PS} (h : s.2.1 < 0) : lkR T L s = sg (nxS T L s) := by
  unfold lkR nxS
  by_cases q : s.1 < L
  · rw [if_pos q, if_pos ⟨h, q⟩]
  · rw [if_neg q, if_neg (fun e => q e.2)]; rfl
theorem lkR_rg {T : Nat → Int} {L : Nat} {s : PS} (hT : ∀ k, 0 ≤ T k ∧ T k ≤ 255) : -128 ≤ lkR T L s ∧ lkR T L s ≤ 127 := by
  unfold lkR
  have := hT s.1
  have := sg_c (T s.1)
  split <;> omega
def actC (c : Int) : Int := if 0 ≤ c then 1 else if c = -97 ∨ c = -98 ∨ c = -119 ∨ c = -116 ∨ c = -118 then 2 else if c = -33 then 3 else if c = -1 then 4 else -c
def withC (c : Int) : Int := if 0 ≤ c then c else if c = -98 then 1 else if c = -119 then 2 else if c = -116 then 3 else if c = -118 then 4 else 0
def apS (c : Int) (s : PS) : PS := (s.1, s.2.1, s.2.2 ++ [c])
def EOK (E W : Nat → Int) (l : List Int) : Prop := ∀ i, i < l.length → E (130 + i) = actC (l.getD i 0) ∧ W (130 + i) = withC (l.getD i 0)
theorem apS_em {c : Int} {s : PS} (h : s.2.1 < 0) : apS c s = emS c s := by unfold emS; rw [if_pos h]; rfl
theorem EOK_ap {E W : Nat → Int} {l : List Int} {c : Int} (h : EOK E W l) : EOK (up1 E (130 + l.length) (actC c)) (up1 W (130 + l.length) (withC c)) (l ++ [c]) := by
  intro i hi
  have hi' : i < l.length + 1 := by simpa using hi
  by_cases e : i = l.length
  · subst e; simp [up1]
  · have hl : i < l.length := by omega
    rw [up1_ne (by omega), up1_ne (by omega), (h i hl).1, (h i hl).2]
    simp [List.getElem?_append_left hl]
def encR (I : IM) (s : PS) (o : Int) (E W : Nat → Int) : IM := upA (upA (upA I 95 E) 96 W) 81 (up1 (up1 (up1 (up1 (I 81) 18 (s.1 : Int)) 19 s.2.1) 20 o) 21 (s.2.2.length : Int))
theorem encR_1 {I : IM} {s s' : PS} {o o' z : Int} {E W : Nat → Int} {k : Nat} (h : ∀ j, up1 (up1 (up1 (up1 (up1 (I 81) 18 (s.1 : Int)) 19 s.2.1) 20 o) 21 (s.2.2.length : Int)) k z j = up1 (up1 (up1 (up1 (I 81) 18 (s'.1 : Int)) 19 s'.2.1) 20 o') 21 (s'.2.2.length : Int) j) : encR I s' o' E W = upA (encR I s o E W) 81 (up1 (encR I s o E W 81) k z) := by
  unfold encR
  rw [upA_upA]
  congr 1
  funext j
  exact (h j).symm
theorem encR_ad {I : IM} {s : PS} {o : Int} {E W : Nat → Int} : encR I (adS s) o E W = upA (encR I s o E W) 81 (up1 (encR I s o E W 81) 18 ((s.1 : Int) + 1)) := encR_1 (fun j => by
  unfold adS up1
  by_cases h1 : j = 18
  · subst h1; simp
  · simp [h1])
theorem encR_fl {I : IM} {s : PS} {o : Int} {E W : Nat → Int} (h : s.2.1 < 0) : encR I (flS s) o E W = upA (encR I s o E W) 81 (up1 (encR I s o E W 81) 19 (s.1 : Int)) := encR_1 (fun j => by
  unfold flS up1
  rw [if_pos h]
  by_cases h1 : j = 19
  · subst h1; simp
  · simp [h1])
theorem encR_o {I : IM} {s : PS} {o o' : Int} {E W : Nat → Int} : encR I s o' E W = upA (encR I s o E W) 81 (up1 (encR I s o E W 81) 20 o') := encR_1 (fun j => by
  unfold up1
  by_cases h1 : j = 20
  · subst h1; simp
  · simp [h1])
theorem encR_opn {I : IM} {s : PS} {o : Int} {E W : Nat → Int} : encR I (adS s) (o + 1) E W = upA (upA (encR I s o E W) 81 (up1 (encR I s o E W 81) 20 (o + 1))) 81 (up1 (upA (encR I s o E W) 81 (up1 (encR I s o E W 81) 20 (o + 1)) 81) 18 ((s.1 : Int) + 1)) := by
  rw [← encR_o, ← encR_ad]
theorem encR_cl {I : IM} {s : PS} {o : Int} {E W : Nat → Int} : encR I (adS s) (o - 1) E W = upA (upA (encR I s o E W) 81 (up1 (encR I s o E W 81) 18 ((s.1 : Int) + 1))) 81 (up1 (upA (encR I s o E W) 81 (up1 (encR I s o E W 81) 18 ((s.1 : Int) + 1)) 81) 20 (o - 1)) := by
  rw [← encR_ad, ← encR_o]
theorem encR_ap {I : IM} {s : PS} {o a b : Int} {E W : Nat → Int} {c : Int} : encR I (apS c s) o (up1 E (130 + s.2.2.length) a) (up1 W (130 + s.2.2.length) b) = upA (upA (upA (encR I s o E W) 95 (up1 (encR I s o E W 95) (130 + s.2.2.length) a)) 96 (up1 (encR I s o E W 96) (130 + s.2.2.length) b)) 81 (up1 (encR I s o E W 81) 21 ((s.2.2.length : Int) + 1)) := by
  funext d
  by_cases h1 : d = 81
  · subst h1
    funext j
    unfold encR apS up1
    simp only [upA_self]
    by_cases h5 : j = 21
    · subst h5; simp
    · simp [h5]
  · by_cases h2 : d = 96
    · subst h2; rfl
    · by_cases h3 : d = 95
      · subst h3; rfl
      · simp [encR, upA, h1, h2, h3]
set_option maxRecDepth 20000 in
set_option maxHeartbeats 400000 in
theorem c_X12_look {X : pX} {I J : IM} {L h : Nat} {s : PS} {o : Int} {E W : Nat → Int} (hL : I 81 17 = L ∧ L ≤ 120) {T : Nat → Int} (hTR : ∀ k, k < L → I 94 k = sg (T k)) (hs : s.1 ≤ L) : KI X h mX12_look [.ref 81] (encR I s o E W) J (lkR T L s) (encR I s o E W) J := by
  show Rz X h mX12_look 0 [some (.ref 81)] [] (encR I s o E W) J _
  refine rz_aload_n dX12_look_0 rfl ?_
  refine rz_getI (z := (s.1 : Int)) dX12_look_1 kf_RX12_182 hd_81 rfl (rfl) ?_
  refine rz_aload_n dX12_look_4 rfl ?_
  refine rz_getI (z := (L : Int)) dX12_look_5 kf_RX12_179 hd_81 rfl (hL.1) ?_
  refine rz_icmp_ge (t := 23) dX12_look_8 rfl (by omega) (by omega) (fun c8 => ?_) (fun c8 => ?_)
  · refine rz_iconst dX12_look_23 ?_
    refine rz_iret dX12_look_24 rfl ?_
    exact ⟨_, rfl, (if_neg (by omega)).symm, rfl, rfl⟩
  · refine rz_aload_n dX12_look_11 rfl ?_
    refine rz_getR dX12_look_12 kf_RX12_47 hd_81 rfl rr_81_16 ?_
    refine rz_aload_n dX12_look_15 rfl ?_
    refine rz_getI (z := (s.1 : Int)) dX12_look_16 kf_RX12_182 hd_81 rfl (rfl) ?_
    refine rz_baldN (k := s.1) (z := (sg (T s.1))) dX12_look_19 hd_94 (by decide) (by omega) (by omega) (hTR _ (by omega)) ?_
    refine rz_goto (t := 24) dX12_look_20 rfl ?_
    refine rz_iret dX12_look_24 rfl ?_
    exact ⟨_, rfl, (if_pos (by omega)).symm, rfl, rfl⟩
set_option maxRecDepth 20000 in
set_option maxHeartbeats 400000 in
theorem c_X12_faulty {X : pX} {I J : IM} {L h : Nat} {s : PS} {o : Int} {E W : Nat → Int} (hL : I 81 17 = L ∧ L ≤ 120) (hs : s.1 ≤ L) (hf : -1 ≤ s.2.1 ∧ s.2.1 ≤ 120) : KV X h mX12_faulty [.ref 81] (encR I s o E W) J (encR I (flS s) o E W) J := by
  show Rz X h mX12_faulty 0 [some (.ref 81)] [] (encR I s o E W) J _
  refine rz_aload_n dX12_faulty_0 rfl ?_
  refine rz_getI (z := s.2.1) dX12_faulty_1 kf_RX12_185 hd_81 rfl (rfl) ?_
  refine rz_if_ge (t := 15) dX12_faulty_4 rfl (by omega) (fun c4 => ?_) (fun c4 => ?_)
  · refine rz_vret dX12_faulty_15 rfl ?_
    exact ⟨rfl, by rw [flS_f c4], rfl⟩
  · refine rz_aload_n dX12_faulty_7 rfl ?_
    refine rz_aload_n dX12_faulty_8 rfl ?_
    refine rz_getI (z := (s.1 : Int)) dX12_faulty_9 kf_RX12_182 hd_81 rfl (rfl) ?_
    refine rz_putI dX12_faulty_12 kp_RX12_185 hd_81 rfl ?_
    refine rz_vret dX12_faulty_15 rfl ?_
    exact ⟨rfl, (encR_fl c4).symm, rfl⟩
set_option maxRecDepth 20000 in
set_option maxHeartbeats 400000 in
theorem c_X12_addStep {X : pX} {I J : IM} {L h : Nat} {s : PS} {o : Int} {E W : Nat → Int} (hL : I 81 17 = L ∧ L ≤ 120) {a b c : Int} (ha : a = actC c) (hb : b = withC c) (hc : -128 ≤ a ∧ a ≤ 127) (hn : s.2.2.length < 130) : KV X h mX12_addStep [.ref 81, zi a, zi b] (encR I s o E W) J (encR I (apS c s) o (up1 E (130 + s.2.2.length) (actC c)) (up1 W (130 + s.2.2.length) (withC c))) J := by
  subst ha hb
  show Rz X h mX12_addStep 0 [some (.ref 81), some (zi (actC c)), some (zi (withC c))] [] (encR I s o E W) J _
  refine rz_aload_n dX12_addStep_0 rfl ?_
  refine rz_getR dX12_addStep_1 kf_RX12_50 hd_81 rfl rr_81_22 ?_
  refine rz_sipush dX12_addStep_4 (by decide) ?_
  refine rz_aload_n dX12_addStep_7 rfl ?_
  refine rz_getI (z := (s.2.2.length : Int)) dX12_addStep_8 kf_RX12_188 hd_81 rfl (rfl) ?_
  refine rz_iadd dX12_addStep_11 ?_
  refine rz_iload_n dX12_addStep_12 rfl ?_
  refine rz_i2b dX12_addStep_13 (by omega) ?_
  refine rz_bastN (k := (130 + s.2.2.length)) dX12_addStep_14 hd_95 (by decide) (by omega) (by omega) (by omega) ?_
  refine rz_aload_n dX12_addStep_15 rfl ?_
  refine rz_getR dX12_addStep_16 kf_RX12_53 hd_81 rfl rr_81_23 ?_
  refine rz_sipush dX12_addStep_19 (by decide) ?_
  refine rz_aload_n dX12_addStep_22 rfl ?_
  refine rz_getI (z := (s.2.2.length : Int)) dX12_addStep_23 kf_RX12_188 hd_81 rfl (rfl) ?_
  refine rz_iadd dX12_addStep_26 ?_
  refine rz_iload_n dX12_addStep_27 rfl ?_
  refine rz_iastN (k := (130 + s.2.2.length)) dX12_addStep_28 hd_96 (by decide) (by omega) (by omega) ?_
  refine rz_aload_n dX12_addStep_29 rfl ?_
  refine rz_dup dX12_addStep_30 rfl ?_
  refine rz_getI (z := (s.2.2.length : Int)) dX12_addStep_31 kf_RX12_188 hd_81 rfl (rfl) ?_
  refine rz_iconst dX12_addStep_34 ?_
  refine rz_iadd dX12_addStep_35 ?_
  refine rz_putI dX12_addStep_36 kp_RX12_188 hd_81 rfl ?_
  refine rz_vret dX12_addStep_39 rfl ?_
  exact ⟨rfl, encR_ap.symm, rfl⟩
def nmZ (n : Int) : Int := if n = 97 then 0 else if n = 98 then 1 else if n = 119 then 2 else if n = 116 then 3 else if n = 118 then 4 else -1
set_option maxRecDepth 20000 in
set_option maxHeartbeats 400000 in
theorem c_X12_nameOf (X : pX) (h : Nat) (I J : IM) (n : Int) (hn : rg n) : KI X h mX12_nameOf [zi n] I J (nmZ n) I J := by
  show Rz X h mX12_nameOf 0 [some (zi n)] [] I J _
  refine rz_iload_n dX12_nameOf_0 rfl ?_
  by_cases s1_97 : n = 97
  · subst s1_97
    refine rz_lookup (t := 52) (off := 51) dX12_nameOf_1 (by omega) (by decide) (by decide) rfl ?_
    refine rz_iconst dX12_nameOf_52 ?_
    refine rz_iret dX12_nameOf_53 rfl ?_
    exact ⟨_, rfl, by first | rfl | (unfold nmZ; simp [*]), rfl, rfl⟩
  by_cases s1_98 : n = 98
  · subst s1_98
    refine rz_lookup (t := 54) (off := 53) dX12_nameOf_1 (by omega) (by decide) (by decide) rfl ?_
    refine rz_iconst dX12_nameOf_54 ?_
    refine rz_iret dX12_nameOf_55 rfl ?_
    exact ⟨_, rfl, by first | rfl | (unfold nmZ; simp [*]), rfl, rfl⟩
  by_cases s1_116 : n = 116
  · subst s1_116
    refine rz_lookup (t := 58) (off := 57) dX12_nameOf_1 (by omega) (by decide) (by decide) rfl ?_
    refine rz_iconst dX12_nameOf_58 ?_
    refine rz_iret dX12_nameOf_59 rfl ?_
    exact ⟨_, rfl, by first | rfl | (unfold nmZ; simp [*]), rfl, rfl⟩
  by_cases s1_118 : n = 118
  · subst s1_118
    refine rz_lookup (t := 60) (off := 59) dX12_nameOf_1 (by omega) (by decide) (by decide) rfl ?_
    refine rz_iconst dX12_nameOf_60 ?_
    refine rz_iret dX12_nameOf_61 rfl ?_
    exact ⟨_, rfl, by first | rfl | (unfold nmZ; simp [*]), rfl, rfl⟩
  by_cases s1_119 : n = 119
  · subst s1_119
    refine rz_lookup (t := 56) (off := 55) dX12_nameOf_1 (by omega) (by decide) (by decide) rfl ?_
    refine rz_iconst dX12_nameOf_56 ?_
    refine rz_iret dX12_nameOf_57 rfl ?_
    exact ⟨_, rfl, by first | rfl | (unfold nmZ; simp [*]), rfl, rfl⟩
  refine rz_lookup (t := 62) (off := 61) dX12_nameOf_1 (by omega) (by decide) (by simp [Op.lookupswitch.offset, Ne.symm s1_97, Ne.symm s1_98, Ne.symm s1_116, Ne.symm s1_118, Ne.symm s1_119]) rfl ?_
  refine rz_iconst dX12_nameOf_62 ?_
  refine rz_iret dX12_nameOf_63 rfl ?_
  exact ⟨_, rfl, by first | rfl | (unfold nmZ; simp [*]), rfl, rfl⟩
set_option maxRecDepth 20000 in
set_option maxHeartbeats 400000 in
theorem c_X12_opens {X : pX} {I J : IM} {L h : Nat} {s : PS} {o : Int} {E W : Nat → Int} (hL : I 81 17 = L ∧ L ≤ 120) (hs : s.1 ≤ L) (hf : s.2.1 = -1) (ho : 0 ≤ o ∧ o ≤ 6) : KIq X (h + 1) mX12_opens [.ref 81] (encR I s o E W) J (fun z A B => ((z = 1 ∧ o ≠ 6 ∧ A = encR I (adS s) (o + 1) E W) ∨ (z = 0 ∧ o = 6 ∧ A = encR I (flS s) o E W)) ∧ J = B) := by
  show Rz X (h + 1) mX12_opens 0 [some (.ref 81)] [] (encR I s o E W) J _
  refine rz_aload_n dX12_opens_0 rfl ?_
  refine rz_getI (z := o) dX12_opens_1 kf_RX12_191 hd_81 rfl (rfl) ?_
  refine rz_bipush dX12_opens_4 (by decide) ?_
  refine rz_icmp_ne (t := 15) dX12_opens_6 rfl (by omega) (by omega) (fun c6 => ?_) (fun c6 => ?_)
  · refine rz_aload_n dX12_opens_15 rfl ?_
    refine rz_dup dX12_opens_16 rfl ?_
    refine rz_getI (z := o) dX12_opens_17 kf_RX12_191 hd_81 rfl (rfl) ?_
    refine rz_iconst dX12_opens_20 ?_
    refine rz_iadd dX12_opens_21 ?_
    refine rz_putI dX12_opens_22 kp_RX12_191 hd_81 rfl ?_
    refine rz_aload_n dX12_opens_25 rfl ?_
    refine rz_dup dX12_opens_26 rfl ?_
    refine rz_getI (z := (s.1 : Int)) dX12_opens_27 kf_RX12_182 hd_81 rfl (rfl) ?_
    refine rz_iconst dX12_opens_30 ?_
    refine rz_iadd dX12_opens_31 ?_
    refine rz_putI dX12_opens_32 kp_RX12_182 hd_81 rfl ?_
    refine rz_iconst dX12_opens_35 ?_
    refine rz_zret dX12_opens_36 rfl (by decide) ?_
    exact ⟨_, rfl, Or.inl ⟨rfl, by omega, encR_opn.symm⟩, rfl⟩
  · refine rz_aload_n dX12_opens_9 rfl ?_
    refine rz_cVV dX12_opens_10 kl_RX12_194 hd_81 ⟨_, _, rfl⟩ (c_X12_faulty hL (by omega) (by omega)) rfl rfl (Nat.le_of_ble_eq_true rfl) (Nat.le_of_ble_eq_true rfl) ?_
    refine rz_iconst dX12_opens_13 ?_
    refine rz_zret dX12_opens_14 rfl (by decide) ?_
    exact ⟨_, rfl, Or.inr ⟨rfl, by omega, rfl⟩, rfl⟩
/-- the reference at a fault f, the class with it or stuck before a digit there -/
def RelS (T : Nat → Int) (L : Nat) (c : PS) (f : Int) : Prop := c.2.1 = f ∨ (c.2.1 < 0 ∧ (c.1 : Int) = f ∧ digC (nxS T L c))
def RfR (T : Nat → Int) (L : Nat) (c s : PS) (o : Int) (s' : PS) (o' : Int) (E W : Nat → Int) : Prop := s'.1 ≤ L ∧ s.1 ≤ s'.1 ∧ ((s'.2.1 = -1 ∧ s' = c ∧ o' = o ∧ EOK E W s'.2.2 ∧ s'.2.2.length + s.1 ≤ s'.1 + s.2.2.length) ∨ (0 ≤ s'.2.1 ∧ s'.2.1 ≤ L ∧ RelS T L c s'.2.1 ∧ s'.2.2.length + s.1 ≤ s'.1 + s.2.2.length + 1))
/-- what lies below is kept -/
def FrE (I : IM) (E W : Nat → Int) : Prop := ∀ k, k < 130 → E k = I 95 k ∧ W k = I 96 k
theorem FrE_ap {I : IM} {E W : Nat → Int} {n : Nat} {a b : Int} (h : FrE I E W) : FrE I (up1 E (130 + n) a) (up1 W (130 + n) b) := fun k hk => by
  rw [up1_ne (by omega), up1_ne (by omega)]; exact h k hk
def RfQ (I : IM) (T : Nat → Int) (L : Nat) (c s : PS) (o : Int) (A : IM) : Prop := ∃ s' o' E W, A = encR I s' o' E W ∧ FrE I E W ∧ RfR T L c s o s' o' E W
def RfC (X : pX) (I : IM) (T : Nat → Int) (L H : Nat) (mi : MI) (o : Int) (op : PS → PS) : Prop := ∀ (h : Nat) (J : IM) (s : PS) (E W : Nat → Int), s.1 ≤ L → s.2.1 = -1 → EOK E W s.2.2 → s.2.2.length ≤ s.1 → FrE I E W → KVq X (h + H) mi [.ref 81] (encR I s o E W) J (fun A B => RfQ I T L (op s) s o A ∧ J = B)
theorem RelS_ls {T : Nat → Int} {L k : Nat} {op : PS → PS} {P : Int → Bool} {c : PS} {f : Int} (hP : P (-1) = false) (hd : ∀ x, digC x → P x = false) (hf : 0 ≤ f) (h : RelS T L c f) : RelS T L (lsS T L op P k c) f := by
  rw [ls_no]
  · exact h
  · rcases h with e | ⟨-, -, e⟩
    · rw [nxS_f (by omega)]; exact hP
    · exact hd _ e
theorem RelS_em {T : Nat → Int} {L : Nat} {c : PS} {f x : Int} (h : RelS T L c f) : RelS T L (emS x c) f := by
  unfold RelS at h ⊢
  rw [emS_1, emS_2]
  rcases h with e | ⟨e1, e2, e3⟩
  · exact Or.inl e
  · refine Or.inr ⟨e1, e2, ?_⟩
    have : nxS T L (emS x c) = nxS T L c := by unfold nxS; rw [emS_1, emS_2]
    rw [this]; exact e3
theorem RfR_rg {T : Nat → Int} {L : Nat} {c s s' : PS} {o o' : Int} {E W : Nat → Int} (h : RfR T L c s o s' o' E W) : s'.1 ≤ L ∧ s.1 ≤ s'.1 ∧ -1 ≤ s'.2.1 ∧ s'.2.1 ≤ L ∧ s'.2.2.length + s.1 ≤ s'.1 + s.2.2.length + 1 := by
  obtain ⟨h1, h2, h3⟩ := h
  rcases h3 with ⟨e1, -, -, -, e2⟩ | ⟨e1, e2, -, e3⟩
  · exact ⟨h1, h2, by omega, by omega, by omega⟩
  · exact ⟨h1, h2, by omega, by omega, by omega⟩
theorem RfR_ok {T : Nat → Int} {L : Nat} {c s s' : PS} {o o' : Int} {E W : Nat → Int} (h : RfR T L c s o s' o' E W) (hf : s'.2.1 < 0) : s'.2.1 = -1 ∧ s' = c ∧ o' = o ∧ EOK E W s'.2.2 ∧ s'.2.2.length + s.1 ≤ s'.1 + s.2.2.length := by
  rcases h.2.2 with e | e
  · exact e
  · exact absurd hf (by omega)
theorem RfR_no {T : Nat → Int} {L : Nat} {c s s' : PS} {o o' : Int} {E W : Nat → Int} (h : RfR T L c s o s' o' E W) (hf : 0 ≤ s'.2.1) : 0 ≤ s'.2.1 ∧ s'.2.1 ≤ L ∧ RelS T L c s'.2.1 ∧ s'.2.2.length + s.1 ≤ s'.1 + s.2.2.length + 1 := by
  rcases h.2.2 with e | e
  · exact absurd hf (by omega)
  · exact e
/-- while further signs come -/
def LpI (T : Nat → Int) (L : Nat) (P : Int → Bool) (op : PS → PS) (C s : PS) (o : Int) (t : PS) (o' : Int) (E W : Nat → Int) : Prop := t.1 ≤ L ∧ s.1 ≤ t.1 ∧ ((t.2.1 = -1 ∧ (o' = o ∧ EOK E W t.2.2 ∧ ∃ k, L ≤ k + t.1 ∧ lsS T L op P k t = C) ∧ t.2.2.length + s.1 ≤ t.1 + s.2.2.length) ∨ (0 ≤ t.2.1 ∧ t.2.1 ≤ L ∧ RelS T L C t.2.1 ∧ t.2.2.length + s.1 ≤ t.1 + s.2.2.length + 1))
theorem LpI_0 {T : Nat → Int} {L : Nat} {P : Int → Bool} {op op0 : PS → PS} {s s' : PS} {o o' : Int} {E W : Nat → Int} (hL : L ≤ 120) (hP : P (-1) = false) (hd : ∀ x, digC x → P x = false) (h : RfR T L (op0 s) s o s' o' E W) : LpI T L P op (lsS T L op P 120 (op0 s)) s o s' o' E W := by
  obtain ⟨h1, h2, h3⟩ := h
  refine ⟨h1, h2, ?_⟩
  rcases h3 with ⟨e1, e2, e3, e4, e5⟩ | ⟨e1, e2, e3, e4⟩
  · exact Or.inl ⟨e1, ⟨e3, e4, 120, by omega, by rw [e2]⟩, e5⟩
  · exact Or.inr ⟨e1, e2, RelS_ls hP hd e1 e3, e4⟩
theorem LpI_step {T : Nat → Int} {L : Nat} {P : Int → Bool} {op : PS → PS} {C s t s5 : PS} {o o1 o5 : Int} {E W E5 W5 : Nat → Int} (hP : P (-1) = false) (hd : ∀ x, digC x → P x = false) (h : LpI T L P op C s o t o1 E W) (hf : t.2.1 < 0) (hn : P (nxS T L t) = true) (q : RfR T L (op (adS t)) (adS t) o s5 o5 E5 W5) :
    LpI T L P op C s o (apS (-(nxS T L t)) s5) o5 (up1 E5 (130 + s5.2.2.length) (actC (-(nxS T L t)))) (up1 W5 (130 + s5.2.2.length) (withC (-(nxS T L t)))) := by
  obtain ⟨h1, h2, h3⟩ := h
  obtain ⟨q1, q2, q3⟩ := q
  rcases h3 with ⟨e1, ⟨e2, e3, k, e4, e5⟩, e6⟩ | ⟨e1, -⟩
  · have n1 : nxS T L t ≠ -1 := fun e => by rw [e, hP] at hn; exact absurd hn (by decide)
    obtain ⟨j1, j2, -⟩ := nxS_ne n1
    obtain ⟨k', rfl⟩ : ∃ k', k = k' + 1 := ⟨k - 1, by omega⟩
    have e7 : lsS T L op P k' (emS (-(nxS T L t)) (op (adS t))) = C := by rw [← e5]; exact (if_pos hn).symm
    have a1 : (adS t).1 = t.1 + 1 := rfl
    have a2 : (adS t).2.2 = t.2.2 := rfl
    rw [a1, a2] at q3
    rw [a1] at q2
    have l1 : (apS (-(nxS T L t)) s5).2.2.length = s5.2.2.length + 1 := by simp [apS]
    refine ⟨q1, show s.1 ≤ s5.1 by omega, ?_⟩
    rcases q3 with ⟨f1, f2, f3, f4, f5⟩ | ⟨f1, f2, f3, f4⟩
    · refine Or.inl ⟨f1, ⟨f3, EOK_ap f4, k', show L ≤ k' + s5.1 by omega, ?_⟩, ?_⟩
      · rw [apS_em (by omega), f2]; exact e7
      · rw [l1]; show s5.2.2.length + 1 + s.1 ≤ s5.1 + s.2.2.length; omega
    · refine Or.inr ⟨f1, f2, ?_, ?_⟩
      · rw [← e7]; exact RelS_ls hP hd f1 (RelS_em f3)
      · rw [l1]; show s5.2.2.length + 1 + s.1 ≤ s5.1 + s.2.2.length + 1; omega
  · exact absurd hf (by omega)
theorem LpI_out {T : Nat → Int} {L : Nat} {P : Int → Bool} {op : PS → PS} {C s t : PS} {o o1 : Int} {E W : Nat → Int} (h : LpI T L P op C s o t o1 E W) (hn : 0 ≤ t.2.1 ∨ P (nxS T L t) = false) : RfR T L C s o t o1 E W := by
  obtain ⟨h1, h2, h3⟩ := h
  refine ⟨h1, h2, ?_⟩
  rcases h3 with ⟨e1, ⟨e2, e3, k, e4, e5⟩, e6⟩ | e
  · rcases hn with e | e
    · exact absurd e (by omega)
    · rw [ls_no e] at e5
      exact Or.inl ⟨e1, e5, e2, e3, e6⟩
  · exact Or.inr e
theorem LpI_rg {T : Nat → Int} {L : Nat} {P : Int → Bool} {op : PS → PS} {C s t : PS} {o o1 : Int} {E W : Nat → Int} (h : LpI T L P op C s o t o1 E W) : t.1 ≤ L ∧ s.1 ≤ t.1 ∧ -1 ≤ t.2.1 ∧ t.2.1 ≤ L ∧ (t.2.1 < 0 → t.2.1 = -1 ∧ o1 = o ∧ EOK E W t.2.2 ∧ t.2.2.length + s.1 ≤ t.1 + s.2.2.length) := by
  obtain ⟨h1, h2, h3⟩ := h
  rcases h3 with ⟨e1, ⟨e2, e3, k, e4, e5⟩, e6⟩ | ⟨e1, e2, -⟩
  · exact ⟨h1, h2, by omega, by omega, fun _ => ⟨e1, e2, e3, e6⟩⟩
  · exact ⟨h1, h2, by omega, by omega, fun q => absurd q (by omega)⟩
theorem proC_d {x : Int} (h : digC x) : proC x = false := proC_f (by omega)
theorem sumC_d {x : Int} (h : digC x) : sumC x = false := sumC_f (by omega)
theorem cmpC_d {x : Int} (h : digC x) : cmpC x = false := cmpC_f (by omega)
theorem andC_d {x : Int} (h : digC x) : andC x = false := andC_f (by omega)
theorem orC_d {x : Int} (h : digC x) : orC x = false := orC_f (by omega)
theorem act_sign {c : Int} (h : c = 42 ∨ c = 47 ∨ c = 37 ∨ c = 43 ∨ c = 45 ∨ c = 60 ∨ c = 61 ∨ c = 62 ∨ c = 38 ∨ c = 124) : actC (-c) = c ∧ withC (-c) = 0 := by
  rcases h with rfl | rfl | rfl | rfl | rfl | rfl | rfl | rfl | rfl | rfl <;> decide
