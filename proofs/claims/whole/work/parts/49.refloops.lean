/-! the reference reads: numbers, loops of a text -/
theorem flS_3 {s : PS} : (flS s).2.2 = s.2.2 := by unfold flS; split <;> rfl
abbrev figS (T : Nat → Int) (L : Nat) (s : PS) : PS := if digC (nxS T L s) then nmS T L 4 0 s else flS s
abbrev figI (T : Nat → Int) (L : Nat) (s : PS) (q : Nat) (t : PS) (v : Int) : Prop := t = (s.1 + q, s.2.1, s.2.2) ∧ t.1 ≤ L ∧ 0 ≤ v ∧ nmS T L (4 - q) v t = nmS T L 4 0 s ∧ (1 ≤ q → digC (nxS T L s))
theorem figI_0 {T : Nat → Int} {L : Nat} {s : PS} (hs : s.1 ≤ L) : figI T L s 0 s 0 := ⟨rfl, hs, Int.le_refl _, rfl, fun q => absurd q (by omega)⟩
theorem figI_s {T : Nat → Int} {L q : Nat} {s t : PS} {v : Int} (hq : q < 4) (h : figI T L s q t v) (hd : digC (nxS T L t)) : figI T L s (q + 1) (adS t) (v * 10 + nxS T L t - 48) := by
  obtain ⟨h1, h2, h3, h4, h5⟩ := h
  obtain ⟨j1, j2, -⟩ := nxS_ne (show nxS T L t ≠ -1 by omega)
  refine ⟨?_, show t.1 + 1 ≤ L by omega, by omega, by rw [← h4]; exact (nm_yes hq hd).symm, fun _ => ?_⟩
  · rw [h1]; rfl
  · by_cases e : q = 0
    · subst e; rw [show t = s by rw [h1]; rfl] at hd; exact hd
    · exact h5 (by omega)
theorem figK {T : Nat → Int} {L q : Nat} {s t : PS} {v o : Int} {E W : Nat → Int} (hf : s.2.1 = -1) (hE : EOK E W s.2.2) (h : figI T L s q t v) (hq : 1 ≤ q) (hn : ¬ digC (nxS T L t)) : RfR T L (figS T L s) s o (apS v t) o (up1 E (130 + t.2.2.length) (actC v)) (up1 W (130 + t.2.2.length) (withC v)) := by
  obtain ⟨h1, h2, h3, h4, h5⟩ := h
  have e1 : t.2.1 = -1 := by rw [h1]; exact hf
  have e2 : t.2.2 = s.2.2 := by rw [h1]
  have e3 : t.1 = s.1 + q := by rw [h1]
  refine ⟨h2, show s.1 ≤ t.1 by omega, Or.inl ⟨e1, ?_, rfl, EOK_ap (by rw [e2]; exact hE), ?_⟩⟩
  · rw [figS, if_pos (h5 hq), ← h4, nm_no hn]; exact apS_em (by omega)
  · show (t.2.2 ++ [v]).length + s.1 ≤ t.1 + s.2.2.length
    rw [e2, e3]; simp; omega
theorem figF {T : Nat → Int} {L q : Nat} {s t : PS} {v o : Int} {E W : Nat → Int} (hs : s.2.1 = -1) (h : figI T L s q t v) (hn : (q = 0 ∧ ¬ digC (nxS T L t)) ∨ (q = 4 ∧ digC (nxS T L t))) : RfR T L (figS T L s) s o (apS v (flS t)) o E W := by
  obtain ⟨h1, h2, h3, h4, h5⟩ := h
  have e1 : t.2.1 = -1 := by rw [h1]; exact hs
  have e2 : t.2.2 = s.2.2 := by rw [h1]
  have e3 : t.1 = s.1 + q := by rw [h1]
  have e4 : flS t = (t.1, (t.1 : Int), t.2.2) := if_pos (by omega)
  rw [e4]
  refine ⟨h2, show s.1 ≤ t.1 by omega, Or.inr ⟨show (0 : Int) ≤ (t.1 : Int) by omega, show (t.1 : Int) ≤ L by omega, ?_, ?_⟩⟩
  · show RelS T L (figS T L s) (t.1 : Int)
    rcases hn with ⟨q0, q1⟩ | ⟨q0, q1⟩
    · subst q0
      have e5 : t = s := by rw [h1]; rfl
      rw [e5] at q1 ⊢
      rw [figS, if_neg q1]
      exact Or.inl (by unfold flS; rw [if_pos (by omega)])
    · subst q0
      rw [figS, if_pos (h5 (by omega)), ← h4]
      have e6 : nmS T L (4 - 4) v t = emS v t := rfl
      rw [e6]
      refine RelS_em (Or.inr ⟨by omega, rfl, q1⟩)
  · show (t.2.2 ++ [v]).length + s.1 ≤ t.1 + s.2.2.length + 1
    rw [e2, e3]; simp; omega
set_option maxRecDepth 20000 in
set_option maxHeartbeats 400000 in
theorem c_X12_figure {X : pX} {I J : IM} {L h : Nat} {s : PS} {o : Int} {E W : Nat → Int} (hL : I 81 17 = L ∧ L ≤ 120) {T : Nat → Int} (hTR : ∀ k, k < L → I 94 k = sg (T k)) (hT : ∀ k, 0 ≤ T k ∧ T k ≤ 255) (hs : s.1 ≤ L) (hf : s.2.1 = -1) (hE : EOK E W s.2.2) (hn : s.2.2.length < 130) (hw : FrE I E W) : KVq X (h + 1) mX12_figure [.ref 81] (encR I s o E W) J (fun A B => RfQ I T L (figS T L s) s o A ∧ J = B) := by
  show Rz X (h + 1) mX12_figure 0 [some (.ref 81), none, none] [] (encR I s o E W) J _
  refine rz_iconst dX12_figure_0 ?_
  refine rz_istore_n dX12_figure_1 (by decide) rfl ?_
  refine rz_iconst dX12_figure_2 ?_
  refine rz_istore_n dX12_figure_3 (by decide) rfl ?_
  refine rz_upx (σ := PS × Int) (Inv := fun q sq => figI T L s q sq.1 sq.2) (ls := fun (q : Nat) sq => [some (.ref 81), some (zi sq.2), some (zi (q : Int))]) (IV := fun (q : Nat) sq => (encR I sq.1 o E W)) (JV := fun (q : Nat) sq => J) (4) ((s, 0)) (figI_0 hs) ⟨Or.inr rfl, Or.inr rfl, Or.inr rfl, trivial⟩ (rfl) (rfl) ?_ ?_
  · intro q sq hq qq ihq
    obtain ⟨t, v⟩ := sq
    have qq : figI T L s q t v := qq
    obtain ⟨h1, h2, h3, h4, h5⟩ := id qq
    have hr := nxS_rg (L := L) (s := t) hT
    have e1 : t.2.1 = -1 := by rw [h1]; exact hf
    have e2 : t.2.2.length = s.2.2.length := by rw [h1]
    have hk : lkR T L t = sg (nxS T L t) := lkR_nx (by omega)
    have hg := sg_c (nxS T L t)
    have hv0 : 0 ≤ v := h3
    have e3 : (flS t).2.2.length = t.2.2.length := by rw [flS_3]
    have ha1 : 1 = actC v := (if_pos h3).symm
    have ha2 : v = withC v := (if_pos h3).symm
    refine rz_to (ls' := [some (.ref 81), some (zi v), some (zi (q : Int))]) (I' := (encR I t o E W)) (J' := J) ⟨Or.inr rfl, Or.inr rfl, Or.inr rfl, trivial⟩ rfl rfl ?_
    refine rz_iload_n dX12_figure_4 rfl ?_
    refine rz_iconst dX12_figure_5 ?_
    refine rz_icmp_ge (t := 52) dX12_figure_6 rfl (by omega) (by omega) (fun c6 => ?_) (fun c6 => ?_)
    · exfalso; omega
    · refine rz_aload_n dX12_figure_9 rfl ?_
      refine rz_cVI dX12_figure_10 kl_RX12_197 hd_81 ⟨_, _, rfl⟩ (c_X12_look hL hTR (by omega)) rfl rfl (Nat.le_of_ble_eq_true rfl) (Nat.le_of_ble_eq_true rfl) ?_
      refine rz_bipush dX12_figure_13 (by decide) ?_
      refine rz_bipush dX12_figure_15 (by decide) ?_
      refine rz_cSIq dX12_figure_17 kl_RX12_140 (c_X12_in X _ (encR I t o E W) J (lkR T L t) 48 57 (by omega) (by omega) (by omega)) rfl rfl (Nat.le_of_ble_eq_true rfl) (Nat.le_of_ble_eq_true rfl) ?_
      rintro z17 A17 B17 ⟨⟨rfl, b17⟩ | ⟨rfl, b17⟩, rfl, rfl⟩
      · refine rz_if_eq (t := 52) dX12_figure_20 rfl (by omega) (fun q => absurd q (by decide)) (fun _ => ?_)
        refine rz_bipush dX12_figure_23 (by decide) ?_
        refine rz_iload_n dX12_figure_25 rfl ?_
        refine rz_imul dX12_figure_26 ?_
        refine rz_aload_n dX12_figure_27 rfl ?_
        refine rz_cVI dX12_figure_28 kl_RX12_197 hd_81 ⟨_, _, rfl⟩ (c_X12_look hL hTR (by omega)) rfl rfl (Nat.le_of_ble_eq_true rfl) (Nat.le_of_ble_eq_true rfl) ?_
        refine rz_iadd dX12_figure_31 ?_
        refine rz_bipush dX12_figure_32 (by decide) ?_
        refine rz_isub dX12_figure_34 ?_
        refine rz_istore_n dX12_figure_35 (by decide) rfl ?_
        refine rz_iinc dX12_figure_36 (by decide) rfl rfl rfl ?_
        refine rz_aload_n dX12_figure_39 rfl ?_
        refine rz_dup dX12_figure_40 rfl ?_
        refine rz_getI (z := (t.1 : Int)) dX12_figure_41 kf_RX12_182 hd_81 rfl (rfl) ?_
        refine rz_iconst dX12_figure_44 ?_
        refine rz_iadd dX12_figure_45 ?_
        refine rz_putI dX12_figure_46 kp_RX12_182 hd_81 rfl ?_
        refine rz_goto (t := 4) dX12_figure_49 rfl ?_
        exact rz_bk (ihq ((adS t, v * 10 + nxS T L t - 48)) (figI_s hq qq (by omega))) ⟨Or.inr rfl, Or.inr (congrArg (fun z => some (zi z)) (by omega)), Or.inr rfl, trivial⟩ (encR_ad) (rfl)
      · refine rz_if_eq (t := 52) dX12_figure_20 rfl (by omega) (fun _ => ?_) (fun q => absurd q (by decide))
        refine rz_iload_n dX12_figure_52 rfl ?_
        refine rz_if_eq (t := 70) dX12_figure_53 rfl (by omega) (fun c53 => ?_) (fun c53 => ?_)
        · refine rz_aload_n dX12_figure_70 rfl ?_
          refine rz_cVV dX12_figure_71 kl_RX12_194 hd_81 ⟨_, _, rfl⟩ (c_X12_faulty hL (by omega) (by omega)) rfl rfl (Nat.le_of_ble_eq_true rfl) (Nat.le_of_ble_eq_true rfl) ?_
          refine rz_aload_n dX12_figure_74 rfl ?_
          refine rz_iconst dX12_figure_75 ?_
          refine rz_iload_n dX12_figure_76 rfl ?_
          refine rz_cVV dX12_figure_77 kl_RX12_201 hd_81 ⟨_, _, rfl⟩ (c_X12_addStep (c := v) hL ha1 ha2 (by omega) (by omega)) rfl rfl (Nat.le_of_ble_eq_true rfl) (Nat.le_of_ble_eq_true rfl) ?_
          refine rz_vret dX12_figure_80 rfl ?_
          exact ⟨rfl, ⟨_, _, _, _, rfl, FrE_ap hw, figF hf qq (by omega)⟩, rfl⟩
        · refine rz_aload_n dX12_figure_56 rfl ?_
          refine rz_cVI dX12_figure_57 kl_RX12_197 hd_81 ⟨_, _, rfl⟩ (c_X12_look hL hTR (by omega)) rfl rfl (Nat.le_of_ble_eq_true rfl) (Nat.le_of_ble_eq_true rfl) ?_
          refine rz_bipush dX12_figure_60 (by decide) ?_
          refine rz_bipush dX12_figure_62 (by decide) ?_
          refine rz_cSIq dX12_figure_64 kl_RX12_140 (c_X12_in X _ (encR I t o E W) J (lkR T L t) 48 57 (by omega) (by omega) (by omega)) rfl rfl (Nat.le_of_ble_eq_true rfl) (Nat.le_of_ble_eq_true rfl) ?_
          rintro z64 A64 B64 ⟨⟨rfl, b64⟩ | ⟨rfl, b64⟩, rfl, rfl⟩
          · refine rz_if_eq (t := 74) dX12_figure_67 rfl (by omega) (fun q => absurd q (by decide)) (fun _ => ?_)
            refine rz_aload_n dX12_figure_70 rfl ?_
            refine rz_cVV dX12_figure_71 kl_RX12_194 hd_81 ⟨_, _, rfl⟩ (c_X12_faulty hL (by omega) (by omega)) rfl rfl (Nat.le_of_ble_eq_true rfl) (Nat.le_of_ble_eq_true rfl) ?_
            refine rz_aload_n dX12_figure_74 rfl ?_
            refine rz_iconst dX12_figure_75 ?_
            refine rz_iload_n dX12_figure_76 rfl ?_
            refine rz_cVV dX12_figure_77 kl_RX12_201 hd_81 ⟨_, _, rfl⟩ (c_X12_addStep (c := v) hL ha1 ha2 (by omega) (by omega)) rfl rfl (Nat.le_of_ble_eq_true rfl) (Nat.le_of_ble_eq_true rfl) ?_
            refine rz_vret dX12_figure_80 rfl ?_
            exact ⟨rfl, ⟨_, _, _, _, rfl, FrE_ap hw, figF hf qq (by omega)⟩, rfl⟩
          · refine rz_if_eq (t := 74) dX12_figure_67 rfl (by omega) (fun _ => ?_) (fun q => absurd q (by decide))
            refine rz_aload_n dX12_figure_74 rfl ?_
            refine rz_iconst dX12_figure_75 ?_
            refine rz_iload_n dX12_figure_76 rfl ?_
            refine rz_cVV dX12_figure_77 kl_RX12_201 hd_81 ⟨_, _, rfl⟩ (c_X12_addStep (c := v) hL ha1 ha2 (by omega) (by omega)) rfl rfl (Nat.le_of_ble_eq_true rfl) (Nat.le_of_ble_eq_true rfl) ?_
            refine rz_vret dX12_figure_80 rfl ?_
            exact ⟨rfl, ⟨_, _, _, _, rfl, FrE_ap hw, figK hf hE qq (by omega) (by omega)⟩, rfl⟩
  · intro sq qq
    obtain ⟨t, v⟩ := sq
    have qq : figI T L s 4 t v := qq
    obtain ⟨h1, h2, h3, h4, h5⟩ := id qq
    have hr := nxS_rg (L := L) (s := t) hT
    have e1 : t.2.1 = -1 := by rw [h1]; exact hf
    have e2 : t.2.2.length = s.2.2.length := by rw [h1]
    have hk : lkR T L t = sg (nxS T L t) := lkR_nx (by omega)
    have hg := sg_c (nxS T L t)
    have hv0 : 0 ≤ v := h3
    have e3 : (flS t).2.2.length = t.2.2.length := by rw [flS_3]
    have ha1 : 1 = actC v := (if_pos h3).symm
    have ha2 : v = withC v := (if_pos h3).symm
    refine rz_iload_n dX12_figure_4 rfl ?_
    refine rz_iconst dX12_figure_5 ?_
    refine rz_icmp_ge (t := 52) dX12_figure_6 rfl (by omega) (by omega) (fun _ => ?_) (fun q => absurd q (by decide))
    refine rz_iload_n dX12_figure_52 rfl ?_
    refine rz_if_eq (t := 70) dX12_figure_53 rfl (by omega) (fun q => absurd q (by decide)) (fun _ => ?_)
    refine rz_aload_n dX12_figure_56 rfl ?_
    refine rz_cVI dX12_figure_57 kl_RX12_197 hd_81 ⟨_, _, rfl⟩ (c_X12_look hL hTR (by omega)) rfl rfl (Nat.le_of_ble_eq_true rfl) (Nat.le_of_ble_eq_true rfl) ?_
    refine rz_bipush dX12_figure_60 (by decide) ?_
    refine rz_bipush dX12_figure_62 (by decide) ?_
    refine rz_cSIq dX12_figure_64 kl_RX12_140 (c_X12_in X _ (encR I t o E W) J (lkR T L t) 48 57 (by omega) (by omega) (by omega)) rfl rfl (Nat.le_of_ble_eq_true rfl) (Nat.le_of_ble_eq_true rfl) ?_
    rintro z64 A64 B64 ⟨⟨rfl, b64⟩ | ⟨rfl, b64⟩, rfl, rfl⟩
    · refine rz_if_eq (t := 74) dX12_figure_67 rfl (by omega) (fun q => absurd q (by decide)) (fun _ => ?_)
      refine rz_aload_n dX12_figure_70 rfl ?_
      refine rz_cVV dX12_figure_71 kl_RX12_194 hd_81 ⟨_, _, rfl⟩ (c_X12_faulty hL (by omega) (by omega)) rfl rfl (Nat.le_of_ble_eq_true rfl) (Nat.le_of_ble_eq_true rfl) ?_
      refine rz_aload_n dX12_figure_74 rfl ?_
      refine rz_iconst dX12_figure_75 ?_
      refine rz_iload_n dX12_figure_76 rfl ?_
      refine rz_cVV dX12_figure_77 kl_RX12_201 hd_81 ⟨_, _, rfl⟩ (c_X12_addStep (c := v) hL ha1 ha2 (by omega) (by omega)) rfl rfl (Nat.le_of_ble_eq_true rfl) (Nat.le_of_ble_eq_true rfl) ?_
      refine rz_vret dX12_figure_80 rfl ?_
      exact ⟨rfl, ⟨_, _, _, _, rfl, FrE_ap hw, figF hf qq (by omega)⟩, rfl⟩
    · refine rz_if_eq (t := 74) dX12_figure_67 rfl (by omega) (fun _ => ?_) (fun q => absurd q (by decide))
      refine rz_aload_n dX12_figure_74 rfl ?_
      refine rz_iconst dX12_figure_75 ?_
      refine rz_iload_n dX12_figure_76 rfl ?_
      refine rz_cVV dX12_figure_77 kl_RX12_201 hd_81 ⟨_, _, rfl⟩ (c_X12_addStep (c := v) hL ha1 ha2 (by omega) (by omega)) rfl rfl (Nat.le_of_ble_eq_true rfl) (Nat.le_of_ble_eq_true rfl) ?_
      refine rz_vret dX12_figure_80 rfl ?_
      exact ⟨rfl, ⟨_, _, _, _, rfl, FrE_ap hw, figK hf hE qq (by omega) (by omega)⟩, rfl⟩
set_option maxRecDepth 20000 in
set_option maxHeartbeats 400000 in
theorem c_X12_product {X : pX} {I : IM} {T : Nat → Int} {L H : Nat} {o : Int} {op : PS → PS} (hL : I 81 17 = L ∧ L ≤ 120) (hTR : ∀ k, k < L → I 94 k = sg (T k)) (hT : ∀ k, 0 ≤ T k ∧ T k ≤ 255) (hop : RfC X I T L (H + 1) mX12_operand o op) : RfC X I T L (H + 2) mX12_product o (prS T L op) := by
  intro h J s E W hs hf hE hn hw
  show Rz X (h + H + 2) mX12_product 0 [some (.ref 81), none] [] (encR I s o E W) J _
  refine rz_aload_n dX12_product_0 rfl ?_
  refine rz_cVVq dX12_product_1 kl_RX12_213 hd_81 ⟨_, _, rfl⟩ (hop _ J s E W (by first | assumption | omega) (by first | assumption | omega) (by first | assumption | omega) (by first | assumption | omega) (by assumption)) rfl rfl (Nat.le_of_ble_eq_true rfl) (Nat.le_of_ble_eq_true rfl) ?_
  rintro _ _ ⟨⟨s1, o1, E1, W1, rfl, w1, k1⟩, rfl⟩
  have r1 := RfR_rg k1
  refine rz_wh (σ := PS × Int × (Nat → Int) × (Nat → Int)) (Inv := fun sq => FrE I sq.2.2.1 sq.2.2.2 ∧ LpI T L proC op (prS T L op s) s o sq.1 sq.2.1 sq.2.2.1 sq.2.2.2) (ls := fun sq => [some (.ref 81), none]) (IV := fun sq => (encR I sq.1 sq.2.1 sq.2.2.1 sq.2.2.2)) (JV := fun sq => J) (fun sq => L - sq.1.1) ((s1, o1, E1, W1)) ⟨w1, LpI_0 (op0 := op) hL.2 rfl (fun _ => proC_d) k1⟩ ⟨Or.inr rfl, Or.inl rfl, trivial⟩ (rfl) (rfl) ?_
  · intro sq qq ihq
    obtain ⟨t, o1, E1, W1⟩ := sq
    obtain ⟨wq, qq⟩ : FrE I E1 W1 ∧ LpI T L proC op (prS T L op s) s o t o1 E1 W1 := qq
    obtain ⟨h1, h2, h3, h4, h5⟩ := LpI_rg qq
    have hr := nxS_rg (L := L) (s := t) hT
    have hlr := lkR_rg (L := L) (s := t) hT
    refine rz_to (ls' := [some (.ref 81), none]) (I' := (encR I t o1 E1 W1)) (J' := J) ⟨Or.inr rfl, Or.inl rfl, trivial⟩ rfl rfl ?_
    refine rz_aload_n dX12_product_4 rfl ?_
    refine rz_getI (z := t.2.1) dX12_product_5 kf_RX12_185 hd_81 rfl (rfl) ?_
    refine rz_if_ge (t := 66) dX12_product_8 rfl (by omega) (fun c8 => ?_) (fun c8 => ?_)
    · refine rz_vret dX12_product_66 rfl ?_
      exact ⟨rfl, ⟨_, _, _, _, rfl, wq, LpI_out qq (by first | (left; assumption) | (right; exact proC_f (by omega)))⟩, rfl⟩
    · have hk : lkR T L t = sg (nxS T L t) := lkR_nx (by omega)
      have hg := sg_c (nxS T L t)
      obtain ⟨u1, u2, u3, u4⟩ := h5 (by omega)
      subst u2
      refine rz_aload_n dX12_product_11 rfl ?_
      refine rz_cVI dX12_product_12 kl_RX12_197 hd_81 ⟨_, _, rfl⟩ (c_X12_look hL hTR (by omega)) rfl rfl (Nat.le_of_ble_eq_true rfl) (Nat.le_of_ble_eq_true rfl) ?_
      refine rz_bipush dX12_product_15 (by decide) ?_
      refine rz_icmp_eq (t := 38) dX12_product_17 rfl (by omega) (by omega) (fun c17 => ?_) (fun c17 => ?_)
      · refine rz_aload_n dX12_product_38 rfl ?_
        refine rz_cVI dX12_product_39 kl_RX12_197 hd_81 ⟨_, _, rfl⟩ (c_X12_look hL hTR (by omega)) rfl rfl (Nat.le_of_ble_eq_true rfl) (Nat.le_of_ble_eq_true rfl) ?_
        refine rz_istore_n dX12_product_42 (by decide) rfl ?_
        refine rz_aload_n dX12_product_43 rfl ?_
        refine rz_dup dX12_product_44 rfl ?_
        refine rz_getI (z := (t.1 : Int)) dX12_product_45 kf_RX12_182 hd_81 rfl (rfl) ?_
        refine rz_iconst dX12_product_48 ?_
        refine rz_iadd dX12_product_49 ?_
        refine rz_putI dX12_product_50 kp_RX12_182 hd_81 rfl ?_
        refine rz_mem (I' := (encR I (adS t) o1 E1 W1)) (J' := J) (encR_ad) (rfl) ?_
        have j1 := nxS_ne (T := T) (L := L) (s := t) (by omega)
        have hPn : proC (nxS T L t) = true := proC_t (by omega)
        have a1 : (adS t).1 ≤ L := show t.1 + 1 ≤ L by omega
        have a2 : (adS t).2.1 = -1 := u1
        have a3 : EOK E1 W1 (adS t).2.2 := u3
        have a4 : (adS t).2.2.length ≤ (adS t).1 := show t.2.2.length ≤ t.1 + 1 by omega
        have a5 : (adS t).1 = t.1 + 1 := rfl
        have a6 : (adS t).2.2.length = t.2.2.length := rfl
        have hact := act_sign (c := nxS T L t) (by omega)
        refine rz_aload_n dX12_product_53 rfl ?_
        refine rz_cVVq dX12_product_54 kl_RX12_213 hd_81 ⟨_, _, rfl⟩ (hop _ J (adS t) E1 W1 (by first | assumption | omega) (by first | assumption | omega) (by first | assumption | omega) (by first | assumption | omega) (by assumption)) rfl rfl (Nat.le_of_ble_eq_true rfl) (Nat.le_of_ble_eq_true rfl) ?_
        rintro _ _ ⟨⟨s54, o54, E54, W54, rfl, w54, k54⟩, rfl⟩
        have r54 := RfR_rg k54
        refine rz_aload_n dX12_product_57 rfl ?_
        refine rz_iload_n dX12_product_58 rfl ?_
        refine rz_iconst dX12_product_59 ?_
        refine rz_cVV dX12_product_60 kl_RX12_201 hd_81 ⟨_, _, rfl⟩ (c_X12_addStep (c := (-(nxS T L t))) hL (by omega) (by omega) (by omega) (by omega)) rfl rfl (Nat.le_of_ble_eq_true rfl) (Nat.le_of_ble_eq_true rfl) ?_
        refine rz_goto (t := 4) dX12_product_63 rfl ?_
        exact rz_bk (ihq ((apS (-(nxS T L t)) s54, o54, up1 E54 (130 + s54.2.2.length) (actC (-(nxS T L t))), up1 W54 (130 + s54.2.2.length) (withC (-(nxS T L t))))) (⟨FrE_ap w54, LpI_step rfl (fun _ => proC_d) qq (by omega) hPn k54⟩) (show L - s54.1 < L - t.1 by have w1 : t.1 + 1 ≤ s54.1 := r54.2.1; have w2 := r54.1; omega)) ⟨Or.inr rfl, Or.inl rfl, trivial⟩ (rfl) (rfl)
      · refine rz_aload_n dX12_product_20 rfl ?_
        refine rz_cVI dX12_product_21 kl_RX12_197 hd_81 ⟨_, _, rfl⟩ (c_X12_look hL hTR (by omega)) rfl rfl (Nat.le_of_ble_eq_true rfl) (Nat.le_of_ble_eq_true rfl) ?_
        refine rz_bipush dX12_product_24 (by decide) ?_
        refine rz_icmp_eq (t := 38) dX12_product_26 rfl (by omega) (by omega) (fun c26 => ?_) (fun c26 => ?_)
        · refine rz_aload_n dX12_product_38 rfl ?_
          refine rz_cVI dX12_product_39 kl_RX12_197 hd_81 ⟨_, _, rfl⟩ (c_X12_look hL hTR (by omega)) rfl rfl (Nat.le_of_ble_eq_true rfl) (Nat.le_of_ble_eq_true rfl) ?_
          refine rz_istore_n dX12_product_42 (by decide) rfl ?_
          refine rz_aload_n dX12_product_43 rfl ?_
          refine rz_dup dX12_product_44 rfl ?_
          refine rz_getI (z := (t.1 : Int)) dX12_product_45 kf_RX12_182 hd_81 rfl (rfl) ?_
          refine rz_iconst dX12_product_48 ?_
          refine rz_iadd dX12_product_49 ?_
          refine rz_putI dX12_product_50 kp_RX12_182 hd_81 rfl ?_
          refine rz_mem (I' := (encR I (adS t) o1 E1 W1)) (J' := J) (encR_ad) (rfl) ?_
          have j1 := nxS_ne (T := T) (L := L) (s := t) (by omega)
          have hPn : proC (nxS T L t) = true := proC_t (by omega)
          have a1 : (adS t).1 ≤ L := show t.1 + 1 ≤ L by omega
          have a2 : (adS t).2.1 = -1 := u1
          have a3 : EOK E1 W1 (adS t).2.2 := u3
          have a4 : (adS t).2.2.length ≤ (adS t).1 := show t.2.2.length ≤ t.1 + 1 by omega
          have a5 : (adS t).1 = t.1 + 1 := rfl
          have a6 : (adS t).2.2.length = t.2.2.length := rfl
          have hact := act_sign (c := nxS T L t) (by omega)
          refine rz_aload_n dX12_product_53 rfl ?_
          refine rz_cVVq dX12_product_54 kl_RX12_213 hd_81 ⟨_, _, rfl⟩ (hop _ J (adS t) E1 W1 (by first | assumption | omega) (by first | assumption | omega) (by first | assumption | omega) (by first | assumption | omega) (by assumption)) rfl rfl (Nat.le_of_ble_eq_true rfl) (Nat.le_of_ble_eq_true rfl) ?_
          rintro _ _ ⟨⟨s54, o54, E54, W54, rfl, w54, k54⟩, rfl⟩
          have r54 := RfR_rg k54
          refine rz_aload_n dX12_product_57 rfl ?_
          refine rz_iload_n dX12_product_58 rfl ?_
          refine rz_iconst dX12_product_59 ?_
          refine rz_cVV dX12_product_60 kl_RX12_201 hd_81 ⟨_, _, rfl⟩ (c_X12_addStep (c := (-(nxS T L t))) hL (by omega) (by omega) (by omega) (by omega)) rfl rfl (Nat.le_of_ble_eq_true rfl) (Nat.le_of_ble_eq_true rfl) ?_
          refine rz_goto (t := 4) dX12_product_63 rfl ?_
          exact rz_bk (ihq ((apS (-(nxS T L t)) s54, o54, up1 E54 (130 + s54.2.2.length) (actC (-(nxS T L t))), up1 W54 (130 + s54.2.2.length) (withC (-(nxS T L t))))) (⟨FrE_ap w54, LpI_step rfl (fun _ => proC_d) qq (by omega) hPn k54⟩) (show L - s54.1 < L - t.1 by have w1 : t.1 + 1 ≤ s54.1 := r54.2.1; have w2 := r54.1; omega)) ⟨Or.inr rfl, Or.inl rfl, trivial⟩ (rfl) (rfl)
        · refine rz_aload_n dX12_product_29 rfl ?_
          refine rz_cVI dX12_product_30 kl_RX12_197 hd_81 ⟨_, _, rfl⟩ (c_X12_look hL hTR (by omega)) rfl rfl (Nat.le_of_ble_eq_true rfl) (Nat.le_of_ble_eq_true rfl) ?_
          refine rz_bipush dX12_product_33 (by decide) ?_
          refine rz_icmp_ne (t := 66) dX12_product_35 rfl (by omega) (by omega) (fun c35 => ?_) (fun c35 => ?_)
          · refine rz_vret dX12_product_66 rfl ?_
            exact ⟨rfl, ⟨_, _, _, _, rfl, wq, LpI_out qq (by first | (left; assumption) | (right; exact proC_f (by omega)))⟩, rfl⟩
          · refine rz_aload_n dX12_product_38 rfl ?_
            refine rz_cVI dX12_product_39 kl_RX12_197 hd_81 ⟨_, _, rfl⟩ (c_X12_look hL hTR (by omega)) rfl rfl (Nat.le_of_ble_eq_true rfl) (Nat.le_of_ble_eq_true rfl) ?_
            refine rz_istore_n dX12_product_42 (by decide) rfl ?_
            refine rz_aload_n dX12_product_43 rfl ?_
            refine rz_dup dX12_product_44 rfl ?_
            refine rz_getI (z := (t.1 : Int)) dX12_product_45 kf_RX12_182 hd_81 rfl (rfl) ?_
            refine rz_iconst dX12_product_48 ?_
            refine rz_iadd dX12_product_49 ?_
            refine rz_putI dX12_product_50 kp_RX12_182 hd_81 rfl ?_
            refine rz_mem (I' := (encR I (adS t) o1 E1 W1)) (J' := J) (encR_ad) (rfl) ?_
            have j1 := nxS_ne (T := T) (L := L) (s := t) (by omega)
            have hPn : proC (nxS T L t) = true := proC_t (by omega)
            have a1 : (adS t).1 ≤ L := show t.1 + 1 ≤ L by omega
            have a2 : (adS t).2.1 = -1 := u1
            have a3 : EOK E1 W1 (adS t).2.2 := u3
            have a4 : (adS t).2.2.length ≤ (adS t).1 := show t.2.2.length ≤ t.1 + 1 by omega
            have a5 : (adS t).1 = t.1 + 1 := rfl
            have a6 : (adS t).2.2.length = t.2.2.length := rfl
            have hact := act_sign (c := nxS T L t) (by omega)
            refine rz_aload_n dX12_product_53 rfl ?_
            refine rz_cVVq dX12_product_54 kl_RX12_213 hd_81 ⟨_, _, rfl⟩ (hop _ J (adS t) E1 W1 (by first | assumption | omega) (by first | assumption | omega) (by first | assumption | omega) (by first | assumption | omega) (by assumption)) rfl rfl (Nat.le_of_ble_eq_true rfl) (Nat.le_of_ble_eq_true rfl) ?_
            rintro _ _ ⟨⟨s54, o54, E54, W54, rfl, w54, k54⟩, rfl⟩
            have r54 := RfR_rg k54
            refine rz_aload_n dX12_product_57 rfl ?_
            refine rz_iload_n dX12_product_58 rfl ?_
            refine rz_iconst dX12_product_59 ?_
            refine rz_cVV dX12_product_60 kl_RX12_201 hd_81 ⟨_, _, rfl⟩ (c_X12_addStep (c := (-(nxS T L t))) hL (by omega) (by omega) (by omega) (by omega)) rfl rfl (Nat.le_of_ble_eq_true rfl) (Nat.le_of_ble_eq_true rfl) ?_
            refine rz_goto (t := 4) dX12_product_63 rfl ?_
            exact rz_bk (ihq ((apS (-(nxS T L t)) s54, o54, up1 E54 (130 + s54.2.2.length) (actC (-(nxS T L t))), up1 W54 (130 + s54.2.2.length) (withC (-(nxS T L t))))) (⟨FrE_ap w54, LpI_step rfl (fun _ => proC_d) qq (by omega) hPn k54⟩) (show L - s54.1 < L - t.1 by have w1 : t.1 + 1 ≤ s54.1 := r54.2.1; have w2 := r54.1; omega)) ⟨Or.inr rfl, Or.inl rfl, trivial⟩ (rfl) (rfl)
set_option maxRecDepth 20000 in
set_option maxHeartbeats 400000 in
theorem c_X12_sum {X : pX} {I : IM} {T : Nat → Int} {L H : Nat} {o : Int} {op : PS → PS} (hL : I 81 17 = L ∧ L ≤ 120) (hTR : ∀ k, k < L → I 94 k = sg (T k)) (hT : ∀ k, 0 ≤ T k ∧ T k ≤ 255) (hop : RfC X I T L (H + 1) mX12_product o op) : RfC X I T L (H + 2) mX12_sum o (suSx T L op) := by
  intro h J s E W hs hf hE hn hw
  show Rz X (h + H + 2) mX12_sum 0 [some (.ref 81), none] [] (encR I s o E W) J _
  refine rz_aload_n dX12_sum_0 rfl ?_
  refine rz_cVVq dX12_sum_1 kl_RX12_222 hd_81 ⟨_, _, rfl⟩ (hop _ J s E W (by first | assumption | omega) (by first | assumption | omega) (by first | assumption | omega) (by first | assumption | omega) (by assumption)) rfl rfl (Nat.le_of_ble_eq_true rfl) (Nat.le_of_ble_eq_true rfl) ?_
  rintro _ _ ⟨⟨s1, o1, E1, W1, rfl, w1, k1⟩, rfl⟩
  have r1 := RfR_rg k1
  refine rz_wh (σ := PS × Int × (Nat → Int) × (Nat → Int)) (Inv := fun sq => FrE I sq.2.2.1 sq.2.2.2 ∧ LpI T L sumC op (suSx T L op s) s o sq.1 sq.2.1 sq.2.2.1 sq.2.2.2) (ls := fun sq => [some (.ref 81), none]) (IV := fun sq => (encR I sq.1 sq.2.1 sq.2.2.1 sq.2.2.2)) (JV := fun sq => J) (fun sq => L - sq.1.1) ((s1, o1, E1, W1)) ⟨w1, LpI_0 (op0 := op) hL.2 rfl (fun _ => sumC_d) k1⟩ ⟨Or.inr rfl, Or.inl rfl, trivial⟩ (rfl) (rfl) ?_
  · intro sq qq ihq
    obtain ⟨t, o1, E1, W1⟩ := sq
    obtain ⟨wq, qq⟩ : FrE I E1 W1 ∧ LpI T L sumC op (suSx T L op s) s o t o1 E1 W1 := qq
    obtain ⟨h1, h2, h3, h4, h5⟩ := LpI_rg qq
    have hr := nxS_rg (L := L) (s := t) hT
    have hlr := lkR_rg (L := L) (s := t) hT
    refine rz_to (ls' := [some (.ref 81), none]) (I' := (encR I t o1 E1 W1)) (J' := J) ⟨Or.inr rfl, Or.inl rfl, trivial⟩ rfl rfl ?_
    refine rz_aload_n dX12_sum_4 rfl ?_
    refine rz_getI (z := t.2.1) dX12_sum_5 kf_RX12_185 hd_81 rfl (rfl) ?_
    refine rz_if_ge (t := 57) dX12_sum_8 rfl (by omega) (fun c8 => ?_) (fun c8 => ?_)
    · refine rz_vret dX12_sum_57 rfl ?_
      exact ⟨rfl, ⟨_, _, _, _, rfl, wq, LpI_out qq (by first | (left; assumption) | (right; exact sumC_f (by omega)))⟩, rfl⟩
    · have hk : lkR T L t = sg (nxS T L t) := lkR_nx (by omega)
      have hg := sg_c (nxS T L t)
      obtain ⟨u1, u2, u3, u4⟩ := h5 (by omega)
      subst u2
      refine rz_aload_n dX12_sum_11 rfl ?_
      refine rz_cVI dX12_sum_12 kl_RX12_197 hd_81 ⟨_, _, rfl⟩ (c_X12_look hL hTR (by omega)) rfl rfl (Nat.le_of_ble_eq_true rfl) (Nat.le_of_ble_eq_true rfl) ?_
      refine rz_bipush dX12_sum_15 (by decide) ?_
      refine rz_icmp_eq (t := 29) dX12_sum_17 rfl (by omega) (by omega) (fun c17 => ?_) (fun c17 => ?_)
      · refine rz_aload_n dX12_sum_29 rfl ?_
        refine rz_cVI dX12_sum_30 kl_RX12_197 hd_81 ⟨_, _, rfl⟩ (c_X12_look hL hTR (by omega)) rfl rfl (Nat.le_of_ble_eq_true rfl) (Nat.le_of_ble_eq_true rfl) ?_
        refine rz_istore_n dX12_sum_33 (by decide) rfl ?_
        refine rz_aload_n dX12_sum_34 rfl ?_
        refine rz_dup dX12_sum_35 rfl ?_
        refine rz_getI (z := (t.1 : Int)) dX12_sum_36 kf_RX12_182 hd_81 rfl (rfl) ?_
        refine rz_iconst dX12_sum_39 ?_
        refine rz_iadd dX12_sum_40 ?_
        refine rz_putI dX12_sum_41 kp_RX12_182 hd_81 rfl ?_
        refine rz_mem (I' := (encR I (adS t) o1 E1 W1)) (J' := J) (encR_ad) (rfl) ?_
        have j1 := nxS_ne (T := T) (L := L) (s := t) (by omega)
        have hPn : sumC (nxS T L t) = true := sumC_t (by omega)
        have a1 : (adS t).1 ≤ L := show t.1 + 1 ≤ L by omega
        have a2 : (adS t).2.1 = -1 := u1
        have a3 : EOK E1 W1 (adS t).2.2 := u3
        have a4 : (adS t).2.2.length ≤ (adS t).1 := show t.2.2.length ≤ t.1 + 1 by omega
        have a5 : (adS t).1 = t.1 + 1 := rfl
        have a6 : (adS t).2.2.length = t.2.2.length := rfl
        have hact := act_sign (c := nxS T L t) (by omega)
        refine rz_aload_n dX12_sum_44 rfl ?_
        refine rz_cVVq dX12_sum_45 kl_RX12_222 hd_81 ⟨_, _, rfl⟩ (hop _ J (adS t) E1 W1 (by first | assumption | omega) (by first | assumption | omega) (by first | assumption | omega) (by first | assumption | omega) (by assumption)) rfl rfl (Nat.le_of_ble_eq_true rfl) (Nat.le_of_ble_eq_true rfl) ?_
        rintro _ _ ⟨⟨s45, o45, E45, W45, rfl, w45, k45⟩, rfl⟩
        have r45 := RfR_rg k45
        refine rz_aload_n dX12_sum_48 rfl ?_
        refine rz_iload_n dX12_sum_49 rfl ?_
        refine rz_iconst dX12_sum_50 ?_
        refine rz_cVV dX12_sum_51 kl_RX12_201 hd_81 ⟨_, _, rfl⟩ (c_X12_addStep (c := (-(nxS T L t))) hL (by omega) (by omega) (by omega) (by omega)) rfl rfl (Nat.le_of_ble_eq_true rfl) (Nat.le_of_ble_eq_true rfl) ?_
        refine rz_goto (t := 4) dX12_sum_54 rfl ?_
        exact rz_bk (ihq ((apS (-(nxS T L t)) s45, o45, up1 E45 (130 + s45.2.2.length) (actC (-(nxS T L t))), up1 W45 (130 + s45.2.2.length) (withC (-(nxS T L t))))) (⟨FrE_ap w45, LpI_step rfl (fun _ => sumC_d) qq (by omega) hPn k45⟩) (show L - s45.1 < L - t.1 by have w1 : t.1 + 1 ≤ s45.1 := r45.2.1; have w2 := r45.1; omega)) ⟨Or.inr rfl, Or.inl rfl, trivial⟩ (rfl) (rfl)
      · refine rz_aload_n dX12_sum_20 rfl ?_
        refine rz_cVI dX12_sum_21 kl_RX12_197 hd_81 ⟨_, _, rfl⟩ (c_X12_look hL hTR (by omega)) rfl rfl (Nat.le_of_ble_eq_true rfl) (Nat.le_of_ble_eq_true rfl) ?_
        refine rz_bipush dX12_sum_24 (by decide) ?_
        refine rz_icmp_ne (t := 57) dX12_sum_26 rfl (by omega) (by omega) (fun c26 => ?_) (fun c26 => ?_)
        · refine rz_vret dX12_sum_57 rfl ?_
          exact ⟨rfl, ⟨_, _, _, _, rfl, wq, LpI_out qq (by first | (left; assumption) | (right; exact sumC_f (by omega)))⟩, rfl⟩
        · refine rz_aload_n dX12_sum_29 rfl ?_
          refine rz_cVI dX12_sum_30 kl_RX12_197 hd_81 ⟨_, _, rfl⟩ (c_X12_look hL hTR (by omega)) rfl rfl (Nat.le_of_ble_eq_true rfl) (Nat.le_of_ble_eq_true rfl) ?_
          refine rz_istore_n dX12_sum_33 (by decide) rfl ?_
          refine rz_aload_n dX12_sum_34 rfl ?_
          refine rz_dup dX12_sum_35 rfl ?_
          refine rz_getI (z := (t.1 : Int)) dX12_sum_36 kf_RX12_182 hd_81 rfl (rfl) ?_
          refine rz_iconst dX12_sum_39 ?_
          refine rz_iadd dX12_sum_40 ?_
          refine rz_putI dX12_sum_41 kp_RX12_182 hd_81 rfl ?_
          refine rz_mem (I' := (encR I (adS t) o1 E1 W1)) (J' := J) (encR_ad) (rfl) ?_
          have j1 := nxS_ne (T := T) (L := L) (s := t) (by omega)
          have hPn : sumC (nxS T L t) = true := sumC_t (by omega)
          have a1 : (adS t).1 ≤ L := show t.1 + 1 ≤ L by omega
          have a2 : (adS t).2.1 = -1 := u1
          have a3 : EOK E1 W1 (adS t).2.2 := u3
          have a4 : (adS t).2.2.length ≤ (adS t).1 := show t.2.2.length ≤ t.1 + 1 by omega
          have a5 : (adS t).1 = t.1 + 1 := rfl
          have a6 : (adS t).2.2.length = t.2.2.length := rfl
          have hact := act_sign (c := nxS T L t) (by omega)
          refine rz_aload_n dX12_sum_44 rfl ?_
          refine rz_cVVq dX12_sum_45 kl_RX12_222 hd_81 ⟨_, _, rfl⟩ (hop _ J (adS t) E1 W1 (by first | assumption | omega) (by first | assumption | omega) (by first | assumption | omega) (by first | assumption | omega) (by assumption)) rfl rfl (Nat.le_of_ble_eq_true rfl) (Nat.le_of_ble_eq_true rfl) ?_
          rintro _ _ ⟨⟨s45, o45, E45, W45, rfl, w45, k45⟩, rfl⟩
          have r45 := RfR_rg k45
          refine rz_aload_n dX12_sum_48 rfl ?_
          refine rz_iload_n dX12_sum_49 rfl ?_
          refine rz_iconst dX12_sum_50 ?_
          refine rz_cVV dX12_sum_51 kl_RX12_201 hd_81 ⟨_, _, rfl⟩ (c_X12_addStep (c := (-(nxS T L t))) hL (by omega) (by omega) (by omega) (by omega)) rfl rfl (Nat.le_of_ble_eq_true rfl) (Nat.le_of_ble_eq_true rfl) ?_
          refine rz_goto (t := 4) dX12_sum_54 rfl ?_
          exact rz_bk (ihq ((apS (-(nxS T L t)) s45, o45, up1 E45 (130 + s45.2.2.length) (actC (-(nxS T L t))), up1 W45 (130 + s45.2.2.length) (withC (-(nxS T L t))))) (⟨FrE_ap w45, LpI_step rfl (fun _ => sumC_d) qq (by omega) hPn k45⟩) (show L - s45.1 < L - t.1 by have w1 : t.1 + 1 ≤ s45.1 := r45.2.1; have w2 := r45.1; omega)) ⟨Or.inr rfl, Or.inl rfl, trivial⟩ (rfl) (rfl)
set_option maxRecDepth 20000 in
set_option maxHeartbeats 400000 in
theorem c_X12_both {X : pX} {I : IM} {T : Nat → Int} {L H : Nat} {o : Int} {op : PS → PS} (hL : I 81 17 = L ∧ L ≤ 120) (hTR : ∀ k, k < L → I 94 k = sg (T k)) (hT : ∀ k, 0 ≤ T k ∧ T k ≤ 255) (hop : RfC X I T L (H + 1) mX12_compared o op) : RfC X I T L (H + 2) mX12_both o (boSx T L op) := by
  intro h J s E W hs hf hE hn hw
  show Rz X (h + H + 2) mX12_both 0 [some (.ref 81)] [] (encR I s o E W) J _
  refine rz_aload_n dX12_both_0 rfl ?_
  refine rz_cVVq dX12_both_1 kl_RX12_228 hd_81 ⟨_, _, rfl⟩ (hop _ J s E W (by first | assumption | omega) (by first | assumption | omega) (by first | assumption | omega) (by first | assumption | omega) (by assumption)) rfl rfl (Nat.le_of_ble_eq_true rfl) (Nat.le_of_ble_eq_true rfl) ?_
  rintro _ _ ⟨⟨s1, o1, E1, W1, rfl, w1, k1⟩, rfl⟩
  have r1 := RfR_rg k1
  refine rz_wh (σ := PS × Int × (Nat → Int) × (Nat → Int)) (Inv := fun sq => FrE I sq.2.2.1 sq.2.2.2 ∧ LpI T L andC op (boSx T L op s) s o sq.1 sq.2.1 sq.2.2.1 sq.2.2.2) (ls := fun sq => [some (.ref 81)]) (IV := fun sq => (encR I sq.1 sq.2.1 sq.2.2.1 sq.2.2.2)) (JV := fun sq => J) (fun sq => L - sq.1.1) ((s1, o1, E1, W1)) ⟨w1, LpI_0 (op0 := op) hL.2 rfl (fun _ => andC_d) k1⟩ ⟨Or.inr rfl, trivial⟩ (rfl) (rfl) ?_
  · intro sq qq ihq
    obtain ⟨t, o1, E1, W1⟩ := sq
    obtain ⟨wq, qq⟩ : FrE I E1 W1 ∧ LpI T L andC op (boSx T L op s) s o t o1 E1 W1 := qq
    obtain ⟨h1, h2, h3, h4, h5⟩ := LpI_rg qq
    have hr := nxS_rg (L := L) (s := t) hT
    have hlr := lkR_rg (L := L) (s := t) hT
    refine rz_to (ls' := [some (.ref 81)]) (I' := (encR I t o1 E1 W1)) (J' := J) ⟨Or.inr rfl, trivial⟩ rfl rfl ?_
    refine rz_aload_n dX12_both_4 rfl ?_
    refine rz_getI (z := t.2.1) dX12_both_5 kf_RX12_185 hd_81 rfl (rfl) ?_
    refine rz_if_ge (t := 44) dX12_both_8 rfl (by omega) (fun c8 => ?_) (fun c8 => ?_)
    · refine rz_vret dX12_both_44 rfl ?_
      exact ⟨rfl, ⟨_, _, _, _, rfl, wq, LpI_out qq (by first | (left; assumption) | (right; exact andC_f (by omega)))⟩, rfl⟩
    · have hk : lkR T L t = sg (nxS T L t) := lkR_nx (by omega)
      have hg := sg_c (nxS T L t)
      obtain ⟨u1, u2, u3, u4⟩ := h5 (by omega)
      subst u2
      refine rz_aload_n dX12_both_11 rfl ?_
      refine rz_cVI dX12_both_12 kl_RX12_197 hd_81 ⟨_, _, rfl⟩ (c_X12_look hL hTR (by omega)) rfl rfl (Nat.le_of_ble_eq_true rfl) (Nat.le_of_ble_eq_true rfl) ?_
      refine rz_bipush dX12_both_15 (by decide) ?_
      refine rz_icmp_ne (t := 44) dX12_both_17 rfl (by omega) (by omega) (fun c17 => ?_) (fun c17 => ?_)
      · refine rz_vret dX12_both_44 rfl ?_
        exact ⟨rfl, ⟨_, _, _, _, rfl, wq, LpI_out qq (by first | (left; assumption) | (right; exact andC_f (by omega)))⟩, rfl⟩
      · refine rz_aload_n dX12_both_20 rfl ?_
        refine rz_dup dX12_both_21 rfl ?_
        refine rz_getI (z := (t.1 : Int)) dX12_both_22 kf_RX12_182 hd_81 rfl (rfl) ?_
        refine rz_iconst dX12_both_25 ?_
        refine rz_iadd dX12_both_26 ?_
        refine rz_putI dX12_both_27 kp_RX12_182 hd_81 rfl ?_
        refine rz_mem (I' := (encR I (adS t) o1 E1 W1)) (J' := J) (encR_ad) (rfl) ?_
        have j1 := nxS_ne (T := T) (L := L) (s := t) (by omega)
        have hPn : andC (nxS T L t) = true := andC_t (by omega)
        have a1 : (adS t).1 ≤ L := show t.1 + 1 ≤ L by omega
        have a2 : (adS t).2.1 = -1 := u1
        have a3 : EOK E1 W1 (adS t).2.2 := u3
        have a4 : (adS t).2.2.length ≤ (adS t).1 := show t.2.2.length ≤ t.1 + 1 by omega
        have a5 : (adS t).1 = t.1 + 1 := rfl
        have a6 : (adS t).2.2.length = t.2.2.length := rfl
        have hact := act_sign (c := nxS T L t) (by omega)
        refine rz_aload_n dX12_both_30 rfl ?_
        refine rz_cVVq dX12_both_31 kl_RX12_228 hd_81 ⟨_, _, rfl⟩ (hop _ J (adS t) E1 W1 (by first | assumption | omega) (by first | assumption | omega) (by first | assumption | omega) (by first | assumption | omega) (by assumption)) rfl rfl (Nat.le_of_ble_eq_true rfl) (Nat.le_of_ble_eq_true rfl) ?_
        rintro _ _ ⟨⟨s31, o31, E31, W31, rfl, w31, k31⟩, rfl⟩
        have r31 := RfR_rg k31
        refine rz_aload_n dX12_both_34 rfl ?_
        refine rz_bipush dX12_both_35 (by decide) ?_
        refine rz_iconst dX12_both_37 ?_
        refine rz_cVV dX12_both_38 kl_RX12_201 hd_81 ⟨_, _, rfl⟩ (c_X12_addStep (c := (-(nxS T L t))) hL (by omega) (by omega) (by omega) (by omega)) rfl rfl (Nat.le_of_ble_eq_true rfl) (Nat.le_of_ble_eq_true rfl) ?_
        refine rz_goto (t := 4) dX12_both_41 rfl ?_
        exact rz_bk (ihq ((apS (-(nxS T L t)) s31, o31, up1 E31 (130 + s31.2.2.length) (actC (-(nxS T L t))), up1 W31 (130 + s31.2.2.length) (withC (-(nxS T L t))))) (⟨FrE_ap w31, LpI_step rfl (fun _ => andC_d) qq (by omega) hPn k31⟩) (show L - s31.1 < L - t.1 by have w1 : t.1 + 1 ≤ s31.1 := r31.2.1; have w2 := r31.1; omega)) ⟨Or.inr rfl, trivial⟩ (rfl) (rfl)
set_option maxRecDepth 20000 in
set_option maxHeartbeats 400000 in
theorem c_X12_either {X : pX} {I : IM} {T : Nat → Int} {L H : Nat} {o : Int} {op : PS → PS} (hL : I 81 17 = L ∧ L ≤ 120) (hTR : ∀ k, k < L → I 94 k = sg (T k)) (hT : ∀ k, 0 ≤ T k ∧ T k ≤ 255) (hop : RfC X I T L (H + 1) mX12_both o op) : RfC X I T L (H + 2) mX12_either o (eiSx T L op) := by
  intro h J s E W hs hf hE hn hw
  show Rz X (h + H + 2) mX12_either 0 [some (.ref 81)] [] (encR I s o E W) J _
  refine rz_aload_n dX12_either_0 rfl ?_
  refine rz_cVVq dX12_either_1 kl_RX12_231 hd_81 ⟨_, _, rfl⟩ (hop _ J s E W (by first | assumption | omega) (by first | assumption | omega) (by first | assumption | omega) (by first | assumption | omega) (by assumption)) rfl rfl (Nat.le_of_ble_eq_true rfl) (Nat.le_of_ble_eq_true rfl) ?_
  rintro _ _ ⟨⟨s1, o1, E1, W1, rfl, w1, k1⟩, rfl⟩
  have r1 := RfR_rg k1
  refine rz_wh (σ := PS × Int × (Nat → Int) × (Nat → Int)) (Inv := fun sq => FrE I sq.2.2.1 sq.2.2.2 ∧ LpI T L orC op (eiSx T L op s) s o sq.1 sq.2.1 sq.2.2.1 sq.2.2.2) (ls := fun sq => [some (.ref 81)]) (IV := fun sq => (encR I sq.1 sq.2.1 sq.2.2.1 sq.2.2.2)) (JV := fun sq => J) (fun sq => L - sq.1.1) ((s1, o1, E1, W1)) ⟨w1, LpI_0 (op0 := op) hL.2 rfl (fun _ => orC_d) k1⟩ ⟨Or.inr rfl, trivial⟩ (rfl) (rfl) ?_
  · intro sq qq ihq
    obtain ⟨t, o1, E1, W1⟩ := sq
    obtain ⟨wq, qq⟩ : FrE I E1 W1 ∧ LpI T L orC op (eiSx T L op s) s o t o1 E1 W1 := qq
    obtain ⟨h1, h2, h3, h4, h5⟩ := LpI_rg qq
    have hr := nxS_rg (L := L) (s := t) hT
    have hlr := lkR_rg (L := L) (s := t) hT
    refine rz_to (ls' := [some (.ref 81)]) (I' := (encR I t o1 E1 W1)) (J' := J) ⟨Or.inr rfl, trivial⟩ rfl rfl ?_
    refine rz_aload_n dX12_either_4 rfl ?_
    refine rz_getI (z := t.2.1) dX12_either_5 kf_RX12_185 hd_81 rfl (rfl) ?_
    refine rz_if_ge (t := 44) dX12_either_8 rfl (by omega) (fun c8 => ?_) (fun c8 => ?_)
    · refine rz_vret dX12_either_44 rfl ?_
      exact ⟨rfl, ⟨_, _, _, _, rfl, wq, LpI_out qq (by first | (left; assumption) | (right; exact orC_f (by omega)))⟩, rfl⟩
    · have hk : lkR T L t = sg (nxS T L t) := lkR_nx (by omega)
      have hg := sg_c (nxS T L t)
      obtain ⟨u1, u2, u3, u4⟩ := h5 (by omega)
      subst u2
      refine rz_aload_n dX12_either_11 rfl ?_
      refine rz_cVI dX12_either_12 kl_RX12_197 hd_81 ⟨_, _, rfl⟩ (c_X12_look hL hTR (by omega)) rfl rfl (Nat.le_of_ble_eq_true rfl) (Nat.le_of_ble_eq_true rfl) ?_
      refine rz_bipush dX12_either_15 (by decide) ?_
      refine rz_icmp_ne (t := 44) dX12_either_17 rfl (by omega) (by omega) (fun c17 => ?_) (fun c17 => ?_)
      · refine rz_vret dX12_either_44 rfl ?_
        exact ⟨rfl, ⟨_, _, _, _, rfl, wq, LpI_out qq (by first | (left; assumption) | (right; exact orC_f (by omega)))⟩, rfl⟩
      · refine rz_aload_n dX12_either_20 rfl ?_
        refine rz_dup dX12_either_21 rfl ?_
        refine rz_getI (z := (t.1 : Int)) dX12_either_22 kf_RX12_182 hd_81 rfl (rfl) ?_
        refine rz_iconst dX12_either_25 ?_
        refine rz_iadd dX12_either_26 ?_
        refine rz_putI dX12_either_27 kp_RX12_182 hd_81 rfl ?_
        refine rz_mem (I' := (encR I (adS t) o1 E1 W1)) (J' := J) (encR_ad) (rfl) ?_
        have j1 := nxS_ne (T := T) (L := L) (s := t) (by omega)
        have hPn : orC (nxS T L t) = true := orC_t (by omega)
        have a1 : (adS t).1 ≤ L := show t.1 + 1 ≤ L by omega
        have a2 : (adS t).2.1 = -1 := u1
        have a3 : EOK E1 W1 (adS t).2.2 := u3
        have a4 : (adS t).2.2.length ≤ (adS t).1 := show t.2.2.length ≤ t.1 + 1 by omega
        have a5 : (adS t).1 = t.1 + 1 := rfl
        have a6 : (adS t).2.2.length = t.2.2.length := rfl
        have hact := act_sign (c := nxS T L t) (by omega)
        refine rz_aload_n dX12_either_30 rfl ?_
        refine rz_cVVq dX12_either_31 kl_RX12_231 hd_81 ⟨_, _, rfl⟩ (hop _ J (adS t) E1 W1 (by first | assumption | omega) (by first | assumption | omega) (by first | assumption | omega) (by first | assumption | omega) (by assumption)) rfl rfl (Nat.le_of_ble_eq_true rfl) (Nat.le_of_ble_eq_true rfl) ?_
        rintro _ _ ⟨⟨s31, o31, E31, W31, rfl, w31, k31⟩, rfl⟩
        have r31 := RfR_rg k31
        refine rz_aload_n dX12_either_34 rfl ?_
        refine rz_bipush dX12_either_35 (by decide) ?_
        refine rz_iconst dX12_either_37 ?_
        refine rz_cVV dX12_either_38 kl_RX12_201 hd_81 ⟨_, _, rfl⟩ (c_X12_addStep (c := (-(nxS T L t))) hL (by omega) (by omega) (by omega) (by omega)) rfl rfl (Nat.le_of_ble_eq_true rfl) (Nat.le_of_ble_eq_true rfl) ?_
        refine rz_goto (t := 4) dX12_either_41 rfl ?_
        exact rz_bk (ihq ((apS (-(nxS T L t)) s31, o31, up1 E31 (130 + s31.2.2.length) (actC (-(nxS T L t))), up1 W31 (130 + s31.2.2.length) (withC (-(nxS T L t))))) (⟨FrE_ap w31, LpI_step rfl (fun _ => orC_d) qq (by omega) hPn k31⟩) (show L - s31.1 < L - t.1 by have w1 : t.1 + 1 ≤ s31.1 := r31.2.1; have w2 := r31.1; omega)) ⟨Or.inr rfl, trivial⟩ (rfl) (rfl)
