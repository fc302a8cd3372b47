/-! the reference reads: a line -/
def lineC (x : List Int × List Int) : List Int := (if x.1 = [] then [] else x.1 ++ [-63]) ++ x.2 ++ [-59]
def codeC (pg : List (List Int × List Int)) : List Int := pg.flatMap lineC
def codeR (pg : List (List Int × List Int)) : List Int := pg.flatMap (fun x => x.1 ++ x.2)
def LnOK (x : List Int × List Int) : Prop := (x.1 = [] ∨ Seg 36 x.1) ∧ Seg 36 x.2
abbrev clS (T : Nat → Int) (L : Nat) : PS → PS := lnS T L (exS T L)
theorem RelS_cat {T : Nat → Int} {L : Nat} {l : List Int} {c : PS} {f : Int} (h : RelS T L c f) : RelS T L (cat l c) f := h
theorem RelS_cat' {T : Nat → Int} {L : Nat} {l : List Int} {c : PS} {f : Int} (h : RelS T L (cat l c) f) : RelS T L c f := h
theorem ex_at {T : Nat → Int} {L p : Nat} {l : List Int} : exS T L (p, -1, l) = cat l (exS T L (p, -1, [])) := by
  have := ex_app (T := T) (L := L) l (p, -1, [])
  rw [← this]
  show exS T L (p, -1, l) = exS T L (p, -1, l ++ [])
  rw [List.append_nil]
theorem cl_1 {T : Nat → Int} {L p : Nat} {l : List Int} (hf : (exS T L (p, -1, [])).2.1 < 0) (hn : nxS T L (exS T L (p, -1, [])) ≠ 63) : clS T L (p, -1, l) = ((exS T L (p, -1, [])).1, -1, l ++ lineC ([], (exS T L (p, -1, [])).2.2)) := by
  unfold clS lnS
  rw [ex_at, nx_cat, if_neg hn, em_cat]
  obtain ⟨g1, -⟩ := ex_v (T := T) (L := L) p hf
  rw [emS, if_pos hf]
  show (_, (exS T L (p, -1, [])).2.1, _) = _
  rw [g1]
  simp [lineC]
theorem cl_2 {T : Nat → Int} {L p : Nat} {l : List Int} (hf : (exS T L (p, -1, [])).2.1 < 0) (hn : nxS T L (exS T L (p, -1, [])) = 63) : clS T L (p, -1, l) = emS (-59) (cat (l ++ (exS T L (p, -1, [])).2.2 ++ [-63]) (exS T L ((exS T L (p, -1, [])).1 + 1, -1, []))) := by
  unfold clS lnS
  rw [ex_at, nx_cat, if_pos hn]
  obtain ⟨g1, -⟩ := ex_v (T := T) (L := L) p hf
  have e : emS (-63) (adS (cat l (exS T L (p, -1, [])))) = ((exS T L (p, -1, [])).1 + 1, -1, l ++ (exS T L (p, -1, [])).2.2 ++ [-63]) := by
    rw [emS, if_pos (show (adS (cat l (exS T L (p, -1, [])))).2.1 < 0 from hf)]
    show (_, (exS T L (p, -1, [])).2.1, _) = _
    rw [g1]; rfl
  rw [e, ex_at]
theorem cl_3 {T : Nat → Int} {L p : Nat} {l : List Int} {f : Int} (hf : 0 ≤ f) (h : RelS T L (exS T L (p, -1, [])) f) : RelS T L (clS T L (p, -1, l)) f := by
  unfold clS lnS
  rw [ex_at, nx_cat, if_neg]
  · exact RelS_em (RelS_cat h)
  · rcases h with e | ⟨-, -, e⟩
    · rw [nxS_f (by omega)]; decide
    · omega
def lnI (I : IM) (m : Int) (TE LE : Nat → Int) : IM := upA (upA (upA I 97 (up1 (I 97) 1 m)) 98 TE) 99 LE
theorem lnI_98 {I : IM} {m z : Int} {TE LE E W : Nat → Int} {s : PS} {o : Int} {k : Nat} : encR (lnI I m (up1 TE k z) LE) s o E W = upA (encR (lnI I m TE LE) s o E W) 98 (up1 (encR (lnI I m TE LE) s o E W 98) k z) := by
  funext d
  by_cases h : d = 98
  · subst h; rfl
  · by_cases h1 : d = 81
    · subst h1; rfl
    · simp [encR, lnI, upA, h, h1]
theorem lnI_end {I : IM} {m z : Int} {TE LE E W : Nat → Int} {s : PS} {o : Int} {k : Nat} : encR (lnI I (m + 1) TE (up1 LE k z)) s o E W = upA (upA (encR (lnI I m TE LE) s o E W) 99 (up1 (encR (lnI I m TE LE) s o E W 99) k z)) 97 (up1 (encR (lnI I m TE LE) s o E W 97) 1 (m + 1)) := by
  funext d
  by_cases h : d = 97
  · subst h
    funext j
    show up1 (I 97) 1 (m + 1) j = up1 (up1 (I 97) 1 m) 1 (m + 1) j
    unfold up1
    split <;> rfl
  · by_cases h2 : d = 99
    · subst h2; rfl
    · by_cases h1 : d = 81
      · subst h1; rfl
      · simp [encR, lnI, upA, h, h1, h2]
def OneR (T : Nat → Int) (L p : Nat) (lR : List Int) (TE LE : Nat → Int) (m : Nat) (s' : PS) (o' : Int) (E W TE' LE' : Nat → Int) : Prop := s'.1 ≤ L ∧ p ≤ s'.1 ∧ s'.2.2.length ≤ s'.1 + 1 ∧ ((s'.2.1 = -1 ∧ o' = 0 ∧ EOK E W s'.2.2 ∧ ∃ x, LnOK x ∧ s'.2.2 = lR ++ (x.1 ++ x.2) ∧ s'.2.2.length + p ≤ s'.1 + lR.length ∧ (∀ lC, clS T L (p, -1, lC) = (s'.1, -1, lC ++ lineC x)) ∧ TE' = up1 TE (61 + m) ((lR.length : Int) + x.1.length) ∧ LE' = up1 LE (61 + m) (s'.2.2.length : Int))
  ∨ (0 ≤ s'.2.1 ∧ s'.2.1 ≤ L ∧ ∀ lC, RelS T L (clS T L (p, -1, lC)) s'.2.1))
theorem one_a {T : Nat → Int} {L : Nat} {s s2 : PS} {o2 : Int} {E W TE LE TE' LE' : Nat → Int} {m : Nat} (hs : s.2.1 = -1) (hl : s.2.2.length ≤ s.1) (k : RfR T L (exS T L s) s 0 s2 o2 E W) (hf : 0 ≤ s2.2.1) : OneR T L s.1 s.2.2 TE LE m s2 o2 E W TE' LE' := by
  obtain ⟨f1, f2, f3, f4⟩ := RfR_no k hf
  refine ⟨k.1, k.2.1, by omega, Or.inr ⟨f1, f2, fun lC => cl_3 f1 ?_⟩⟩
  rw [ps_cat hs, ex_app] at f3
  exact RelS_cat' f3
theorem one_b {T : Nat → Int} {L : Nat} {s s2 : PS} {o2 : Int} {E W TE LE : Nat → Int} {m : Nat} (hs : s.2.1 = -1) (hl : s.2.2.length ≤ s.1) (k : RfR T L (exS T L s) s 0 s2 o2 E W) (hf : s2.2.1 < 0) (hn : nxS T L s2 ≠ 63) : OneR T L s.1 s.2.2 TE LE m s2 o2 E W (up1 TE (61 + m) (s.2.2.length : Int)) (up1 LE (61 + m) (s2.2.2.length : Int)) := by
  obtain ⟨f1, f2, f3, f4, f5⟩ := RfR_ok k hf
  rw [ps_cat hs, ex_app] at f2
  have hc : (exS T L (s.1, -1, [])).2.1 < 0 := by rw [f2] at hf; exact hf
  have hc2 : nxS T L (exS T L (s.1, -1, [])) ≠ 63 := by rw [f2] at hn; exact hn
  have e1 : s2.1 = (exS T L (s.1, -1, [])).1 := by rw [f2]; rfl
  have e2 : s2.2.2 = s.2.2 ++ (exS T L (s.1, -1, [])).2.2 := by rw [f2]; rfl
  refine ⟨k.1, k.2.1, by omega, Or.inl ⟨f1, f3, f4, ([], (exS T L (s.1, -1, [])).2.2), ⟨Or.inl rfl, (ex_v _ hc).2⟩, e2, f5, fun lC => ?_, ?_, rfl⟩⟩
  · rw [cl_1 hc hc2, e1]
  · simp
theorem up1_up1 {f : Nat → Int} {k : Nat} {x y : Int} : up1 (up1 f k x) k y = up1 f k y := by
  funext j
  unfold up1
  split <;> rfl
theorem one_c {T : Nat → Int} {L : Nat} {s s2 s3 : PS} {o2 o3 : Int} {E W E3 W3 TE LE : Nat → Int} {m : Nat} (hs : s.2.1 = -1) (hl : s.2.2.length ≤ s.1) (k : RfR T L (exS T L s) s 0 s2 o2 E W) (hf : s2.2.1 < 0) (hn : nxS T L s2 = 63) (q : RfR T L (exS T L (adS s2)) (adS s2) 0 s3 o3 E3 W3) : OneR T L s.1 s.2.2 TE LE m s3 o3 E3 W3 (up1 (up1 TE (61 + m) (s.2.2.length : Int)) (61 + m) (s2.2.2.length : Int)) (up1 LE (61 + m) (s3.2.2.length : Int)) := by
  obtain ⟨f1, f2, f3, f4, f5⟩ := RfR_ok k hf
  rw [ps_cat hs, ex_app] at f2
  have hc : (exS T L (s.1, -1, [])).2.1 < 0 := by rw [f2] at hf; exact hf
  have hc2 : nxS T L (exS T L (s.1, -1, [])) = 63 := by rw [f2] at hn; exact hn
  have e1 : s2.1 = (exS T L (s.1, -1, [])).1 := by rw [f2]; rfl
  have e2 : s2.2.2 = s.2.2 ++ (exS T L (s.1, -1, [])).2.2 := by rw [f2]; rfl
  have a1 : (adS s2).1 = s2.1 + 1 := rfl
  have a2 : (adS s2).2.2 = s2.2.2 := rfl
  have e3 : exS T L (adS s2) = cat s2.2.2 (exS T L (s2.1 + 1, -1, [])) := by
    rw [show adS s2 = cat s2.2.2 (s2.1 + 1, -1, []) from ps_cat (s := adS s2) f1, ex_app]
  have q1 := q.1
  have q2 := q.2.1
  rw [a1] at q2
  have k2 := k.2.1
  rw [up1_up1]
  rcases q.2.2 with ⟨g1, g2, g3, g4, g5⟩ | ⟨g1, g2, g3, g4⟩
  · rw [a1, a2] at g5
    rw [e3] at g2
    have hb : (exS T L (s2.1 + 1, -1, [])).2.1 < 0 := by
      have : (cat s2.2.2 (exS T L (s2.1 + 1, -1, []))).2.1 = -1 := by rw [← g2]; exact g1
      have h1 : (exS T L (s2.1 + 1, -1, [])).2.1 = -1 := this
      omega
    have e4 : s3.1 = (exS T L (s2.1 + 1, -1, [])).1 := by rw [g2]; rfl
    have e5 : s3.2.2 = s2.2.2 ++ (exS T L (s2.1 + 1, -1, [])).2.2 := by rw [g2]; rfl
    refine ⟨q1, by omega, by omega, Or.inl ⟨g1, g3, g4, ((exS T L (s.1, -1, [])).2.2, (exS T L (s2.1 + 1, -1, [])).2.2), ⟨Or.inr (ex_v _ hc).2, (ex_v _ hb).2⟩, ?_, by omega, fun lC => ?_, ?_, rfl⟩⟩
    · rw [e5, e2, List.append_assoc]
    · rw [cl_2 hc hc2, ← e1, em_cat, emS, if_pos hb]
      have hb1 := (ex_v _ hb).1
      have ne := Seg_ne (ex_v _ hc).2
      rw [e4]
      show (_, (exS T L (s2.1 + 1, -1, [])).2.1, _) = _
      rw [hb1]
      simp [lineC, ne]
    · rw [e2]; simp
  · rw [a1, a2] at g4
    refine ⟨q1, by omega, by omega, Or.inr ⟨g1, g2, fun lC => ?_⟩⟩
    rw [cl_2 hc hc2, ← e1]
    rw [e3] at g3
    exact RelS_em (RelS_cat (RelS_cat' g3))
set_option maxRecDepth 20000 in
set_option maxHeartbeats 400000 in
theorem c_X12_oneLine {X : pX} {I J : IM} {T : Nat → Int} {L m h : Nat} {s : PS} {E W TE LE : Nat → Int} (hL : I 81 17 = L ∧ L ≤ 120) (hTR : ∀ k, k < L → I 94 k = sg (T k)) (hT : ∀ k, 0 ≤ T k ∧ T k ≤ 255) (hs : s.1 ≤ L) (hf : s.2.1 = -1) (hE : EOK E W s.2.2) (hn : s.2.2.length ≤ s.1) (hm : m ≤ 60) (hw : FrE I E W) : KVq X (h + 45) mX12_oneLine [.ref 81] (encR (lnI I (m : Int) TE LE) s 0 E W) J (fun A B => (∃ s1 o1 E1 W1 TE1 LE1, A = encR (lnI I ((m : Int) + 1) TE1 LE1) s1 o1 E1 W1 ∧ FrE I E1 W1 ∧ (∀ k, k < 61 → TE1 k = TE k ∧ LE1 k = LE k) ∧ OneR T L s.1 s.2.2 TE LE m s1 o1 E1 W1 TE1 LE1) ∧ J = B) := by
  show Rz X (h + 45) mX12_oneLine 0 [some (.ref 81), none] [] (encR (lnI I (m : Int) TE LE) s 0 E W) J _
  refine rz_bipush dX12_oneLine_0 (by decide) ?_
  refine rz_aload_n dX12_oneLine_2 rfl ?_
  refine rz_getR dX12_oneLine_3 kf_RX12_56 hd_81 rfl rr_81_24 ?_
  refine rz_iconst dX12_oneLine_6 ?_
  refine rz_iald (z := (m : Int)) dX12_oneLine_7 hd_97 (by decide) (by omega) rfl ?_
  refine rz_iadd dX12_oneLine_8 ?_
  refine rz_istore_n dX12_oneLine_9 (by decide) rfl ?_
  refine rz_aload_n dX12_oneLine_10 rfl ?_
  refine rz_getR dX12_oneLine_11 kf_RX12_59 hd_81 rfl rr_81_25 ?_
  refine rz_iload_n dX12_oneLine_14 rfl ?_
  refine rz_aload_n dX12_oneLine_15 rfl ?_
  refine rz_getI (z := (s.2.2.length : Int)) dX12_oneLine_16 kf_RX12_188 hd_81 rfl (rfl) ?_
  refine rz_i2s dX12_oneLine_19 (by omega) ?_
  refine rz_sastN (k := (61 + m)) dX12_oneLine_20 hd_98 (by decide) (by omega) (by omega) (by omega) ?_
  refine rz_mem (I' := (encR (lnI I (m : Int) (up1 TE (61 + m) (s.2.2.length : Int)) LE) s 0 E W)) (J' := J) (lnI_98) (rfl) ?_
  refine rz_aload_n dX12_oneLine_21 rfl ?_
  refine rz_cVVq dX12_oneLine_22 kl_RX12_216 hd_81 ⟨_, _, rfl⟩ (c_rei (I := lnI I (m : Int) (up1 TE (61 + m) (s.2.2.length : Int)) LE) hL hTR hT h J s E W (by first | assumption | omega) (by first | assumption | omega) (by first | assumption | omega) (by first | assumption | omega) (show _ from hw)) rfl rfl (Nat.le_of_ble_eq_true rfl) (Nat.le_of_ble_eq_true rfl) ?_
  rintro _ _ ⟨⟨s22, o22, E22, W22, rfl, w22, k22⟩, rfl⟩
  have r22 := RfR_rg k22
  refine rz_aload_n dX12_oneLine_25 rfl ?_
  refine rz_getI (z := s22.2.1) dX12_oneLine_26 kf_RX12_185 hd_81 rfl (rfl) ?_
  refine rz_if_ge (t := 66) dX12_oneLine_29 rfl (by omega) (fun c29 => ?_) (fun c29 => ?_)
  · refine rz_aload_n dX12_oneLine_66 rfl ?_
    refine rz_getR dX12_oneLine_67 kf_RX12_63 hd_81 rfl rr_81_26 ?_
    refine rz_iload_n dX12_oneLine_70 rfl ?_
    refine rz_aload_n dX12_oneLine_71 rfl ?_
    refine rz_getI (z := (s22.2.2.length : Int)) dX12_oneLine_72 kf_RX12_188 hd_81 rfl (rfl) ?_
    refine rz_i2s dX12_oneLine_75 (by omega) ?_
    refine rz_sastN (k := (61 + m)) dX12_oneLine_76 hd_99 (by decide) (by omega) (by omega) (by omega) ?_
    refine rz_aload_n dX12_oneLine_77 rfl ?_
    refine rz_getR dX12_oneLine_78 kf_RX12_56 hd_81 rfl rr_81_24 ?_
    refine rz_iconst dX12_oneLine_81 ?_
    refine rz_dup2 dX12_oneLine_82 rfl rfl ?_
    refine rz_iald (z := (m : Int)) dX12_oneLine_83 hd_97 (by decide) (by omega) rfl ?_
    refine rz_iconst dX12_oneLine_84 ?_
    refine rz_iadd dX12_oneLine_85 ?_
    refine rz_iast dX12_oneLine_86 hd_97 (by decide) (by omega) ?_
    refine rz_vret dX12_oneLine_87 rfl ?_
    first
      | exact ⟨rfl, ⟨s22, o22, E22, W22, _, _, lnI_end.symm, w22, (fun k hk => ⟨by first | rw [up1_ne (by omega), up1_ne (by omega)] | rw [up1_ne (by omega)], up1_ne (by omega)⟩), one_a hf hn k22 (by omega)⟩, rfl⟩
      | exact ⟨rfl, ⟨s22, o22, E22, W22, _, _, lnI_end.symm, w22, (fun k hk => ⟨by first | rw [up1_ne (by omega), up1_ne (by omega)] | rw [up1_ne (by omega)], up1_ne (by omega)⟩), one_b hf hn k22 (by omega) (by omega)⟩, rfl⟩
  · have hr := nxS_rg (L := L) (s := s22) hT
    have hk : lkR T L s22 = sg (nxS T L s22) := lkR_nx (by omega)
    have hg := sg_c (nxS T L s22)
    refine rz_aload_n dX12_oneLine_32 rfl ?_
    refine rz_cVI dX12_oneLine_33 kl_RX12_197 hd_81 ⟨_, _, rfl⟩ (c_X12_look (I := lnI I (m : Int) (up1 TE (61 + m) (s.2.2.length : Int)) LE) hL hTR (by omega)) rfl rfl (Nat.le_of_ble_eq_true rfl) (Nat.le_of_ble_eq_true rfl) ?_
    refine rz_bipush dX12_oneLine_36 (by decide) ?_
    refine rz_icmp_ne (t := 66) dX12_oneLine_38 rfl (by omega) (by omega) (fun c38 => ?_) (fun c38 => ?_)
    · refine rz_aload_n dX12_oneLine_66 rfl ?_
      refine rz_getR dX12_oneLine_67 kf_RX12_63 hd_81 rfl rr_81_26 ?_
      refine rz_iload_n dX12_oneLine_70 rfl ?_
      refine rz_aload_n dX12_oneLine_71 rfl ?_
      refine rz_getI (z := (s22.2.2.length : Int)) dX12_oneLine_72 kf_RX12_188 hd_81 rfl (rfl) ?_
      refine rz_i2s dX12_oneLine_75 (by omega) ?_
      refine rz_sastN (k := (61 + m)) dX12_oneLine_76 hd_99 (by decide) (by omega) (by omega) (by omega) ?_
      refine rz_aload_n dX12_oneLine_77 rfl ?_
      refine rz_getR dX12_oneLine_78 kf_RX12_56 hd_81 rfl rr_81_24 ?_
      refine rz_iconst dX12_oneLine_81 ?_
      refine rz_dup2 dX12_oneLine_82 rfl rfl ?_
      refine rz_iald (z := (m : Int)) dX12_oneLine_83 hd_97 (by decide) (by omega) rfl ?_
      refine rz_iconst dX12_oneLine_84 ?_
      refine rz_iadd dX12_oneLine_85 ?_
      refine rz_iast dX12_oneLine_86 hd_97 (by decide) (by omega) ?_
      refine rz_vret dX12_oneLine_87 rfl ?_
      first
        | exact ⟨rfl, ⟨s22, o22, E22, W22, _, _, lnI_end.symm, w22, (fun k hk => ⟨by first | rw [up1_ne (by omega), up1_ne (by omega)] | rw [up1_ne (by omega)], up1_ne (by omega)⟩), one_a hf hn k22 (by omega)⟩, rfl⟩
        | exact ⟨rfl, ⟨s22, o22, E22, W22, _, _, lnI_end.symm, w22, (fun k hk => ⟨by first | rw [up1_ne (by omega), up1_ne (by omega)] | rw [up1_ne (by omega)], up1_ne (by omega)⟩), one_b hf hn k22 (by omega) (by omega)⟩, rfl⟩
    · have j1 := nxS_ne (T := T) (L := L) (s := s22) (by omega)
      obtain ⟨u1, -, u2, u3, u4⟩ := RfR_ok k22 (by omega)
      subst u2
      have a1 : (adS s22).1 ≤ L := show s22.1 + 1 ≤ L by omega
      have a2 : (adS s22).2.1 = -1 := u1
      have a3 : EOK E22 W22 (adS s22).2.2 := u3
      have a4 : (adS s22).2.2.length ≤ (adS s22).1 := show s22.2.2.length ≤ s22.1 + 1 by omega
      have a5 : (adS s22).1 = s22.1 + 1 := rfl
      have a6 : (adS s22).2.2.length = s22.2.2.length := rfl
      refine rz_aload_n dX12_oneLine_41 rfl ?_
      refine rz_dup dX12_oneLine_42 rfl ?_
      refine rz_getI (z := (s22.1 : Int)) dX12_oneLine_43 kf_RX12_182 hd_81 rfl (rfl) ?_
      refine rz_iconst dX12_oneLine_46 ?_
      refine rz_iadd dX12_oneLine_47 ?_
      refine rz_putI dX12_oneLine_48 kp_RX12_182 hd_81 rfl ?_
      refine rz_mem (I' := (encR (lnI I (m : Int) (up1 TE (61 + m) (s.2.2.length : Int)) LE) (adS s22) 0 E22 W22)) (J' := J) (encR_ad) (rfl) ?_
      refine rz_aload_n dX12_oneLine_51 rfl ?_
      refine rz_getR dX12_oneLine_52 kf_RX12_59 hd_81 rfl rr_81_25 ?_
      refine rz_iload_n dX12_oneLine_55 rfl ?_
      refine rz_aload_n dX12_oneLine_56 rfl ?_
      refine rz_getI (z := ((adS s22).2.2.length : Int)) dX12_oneLine_57 kf_RX12_188 hd_81 rfl (rfl) ?_
      refine rz_i2s dX12_oneLine_60 (by omega) ?_
      refine rz_sastN (k := (61 + m)) dX12_oneLine_61 hd_98 (by decide) (by omega) (by omega) (by omega) ?_
      refine rz_mem (I' := (encR (lnI I (m : Int) (up1 (up1 TE (61 + m) (s.2.2.length : Int)) (61 + m) (s22.2.2.length : Int)) LE) (adS s22) 0 E22 W22)) (J' := J) (lnI_98) (rfl) ?_
      refine rz_aload_n dX12_oneLine_62 rfl ?_
      refine rz_cVVq dX12_oneLine_63 kl_RX12_216 hd_81 ⟨_, _, rfl⟩ (c_rei (I := lnI I (m : Int) (up1 (up1 TE (61 + m) (s.2.2.length : Int)) (61 + m) (s22.2.2.length : Int)) LE) hL hTR hT h J (adS s22) E22 W22 (by first | assumption | omega) (by first | assumption | omega) (by first | assumption | omega) (by first | assumption | omega) (show _ from w22)) rfl rfl (Nat.le_of_ble_eq_true rfl) (Nat.le_of_ble_eq_true rfl) ?_
      rintro _ _ ⟨⟨s63, o63, E63, W63, rfl, w63, k63⟩, rfl⟩
      have r63 := RfR_rg k63
      refine rz_aload_n dX12_oneLine_66 rfl ?_
      refine rz_getR dX12_oneLine_67 kf_RX12_63 hd_81 rfl rr_81_26 ?_
      refine rz_iload_n dX12_oneLine_70 rfl ?_
      refine rz_aload_n dX12_oneLine_71 rfl ?_
      refine rz_getI (z := (s63.2.2.length : Int)) dX12_oneLine_72 kf_RX12_188 hd_81 rfl (rfl) ?_
      refine rz_i2s dX12_oneLine_75 (by omega) ?_
      refine rz_sastN (k := (61 + m)) dX12_oneLine_76 hd_99 (by decide) (by omega) (by omega) (by omega) ?_
      refine rz_aload_n dX12_oneLine_77 rfl ?_
      refine rz_getR dX12_oneLine_78 kf_RX12_56 hd_81 rfl rr_81_24 ?_
      refine rz_iconst dX12_oneLine_81 ?_
      refine rz_dup2 dX12_oneLine_82 rfl rfl ?_
      refine rz_iald (z := (m : Int)) dX12_oneLine_83 hd_97 (by decide) (by omega) rfl ?_
      refine rz_iconst dX12_oneLine_84 ?_
      refine rz_iadd dX12_oneLine_85 ?_
      refine rz_iast dX12_oneLine_86 hd_97 (by decide) (by omega) ?_
      refine rz_vret dX12_oneLine_87 rfl ?_
      exact ⟨rfl, ⟨s63, o63, E63, W63, _, _, lnI_end.symm, w63, (fun k hk => ⟨by first | rw [up1_ne (by omega), up1_ne (by omega)] | rw [up1_ne (by omega)], up1_ne (by omega)⟩), one_c hf hn k22 (by omega) (by omega) k63⟩, rfl⟩
