/-! the class reads: the loops of a text -/
def RdC (X : pX) (I : IM) (L H : Nat) (mi : MI) (d : Int) (op : PS → PS) : Prop := ∀ (h : Nat) (J : IM) (s : PS) (D : Nat → Int), s.1 ≤ L → (-1 ≤ s.2.1 ∧ s.2.1 ≤ 120) → DOK D s.2.2 → s.2.2.length ≤ s.1 → KVq X (h + H) mi [.ref 1, zi d] (encM I s D) J (LwQ I J (op s))
theorem gd_rg {L : Nat} {op : PS → PS} {s : PS} (hg : GdS L op) (hL : L ≤ 120) (hs : s.1 ≤ L) (hf : -1 ≤ s.2.1 ∧ s.2.1 ≤ 120) : -1 ≤ (op s).2.1 ∧ (op s).2.1 ≤ 120 := by
  obtain ⟨-, -, -, h4, h5⟩ := hg s hs
  by_cases h : s.2.1 < 0
  · rcases h4 h with e | e <;> omega
  · rw [h5 (by omega)]; exact hf
theorem ls_yes {T : Nat → Int} {L q : Nat} {sub : PS → PS} {P : Int → Bool} {t : PS} (hq : q < 120) (h : P (nxS T L t) = true) : lsS T L sub P (120 - q) t = lsS T L sub P (120 - (q + 1)) (emS (-(nxS T L t)) (sub (adS t))) := by
  obtain ⟨k, hk⟩ : ∃ k, 120 - q = k + 1 := ⟨120 - q - 1, by omega⟩
  rw [hk, show 120 - (q + 1) = k by omega]
  exact if_pos h
theorem ls_no {T : Nat → Int} {L k : Nat} {sub : PS → PS} {P : Int → Bool} {t : PS} (h : P (nxS T L t) = false) : lsS T L sub P k t = t := by
  cases k with
  | zero => rfl
  | succ k => exact if_neg (by rw [h]; decide)
abbrev suSx (T : Nat → Int) (L : Nat) (op : PS → PS) (s : PS) : PS := lsS T L op sumC 120 (op s)
abbrev boSx (T : Nat → Int) (L : Nat) (op : PS → PS) (s : PS) : PS := lsS T L op andC 120 (op s)
abbrev eiSx (T : Nat → Int) (L : Nat) (op : PS → PS) (s : PS) : PS := lsS T L op orC 120 (op s)
theorem proC_t {c : Int} (h : c = 42 ∨ c = 47 ∨ c = 37) : proC c = true := by rcases h with rfl | rfl | rfl <;> rfl
theorem proC_f {c : Int} (h : ¬ (c = 42 ∨ c = 47 ∨ c = 37)) : proC c = false := by simp [proC]; omega
theorem sumC_t {c : Int} (h : c = 43 ∨ c = 45) : sumC c = true := by rcases h with rfl | rfl <;> rfl
theorem sumC_f {c : Int} (h : ¬ (c = 43 ∨ c = 45)) : sumC c = false := by simp [sumC]; omega
theorem cmpC_t {c : Int} (h : c = 60 ∨ c = 61 ∨ c = 62) : cmpC c = true := by rcases h with rfl | rfl | rfl <;> rfl
theorem cmpC_f {c : Int} (h : ¬ (c = 60 ∨ c = 61 ∨ c = 62)) : cmpC c = false := by simp [cmpC]; omega
theorem andC_t {c : Int} (h : c = 38) : andC c = true := by subst h; rfl
theorem andC_f {c : Int} (h : ¬ c = 38) : andC c = false := by simp [andC]; omega
theorem orC_t {c : Int} (h : c = 124) : orC c = true := by subst h; rfl
theorem orC_f {c : Int} (h : ¬ c = 124) : orC c = false := by simp [orC]; omega
set_option maxRecDepth 20000 in
set_option maxHeartbeats 400000 in
theorem c_X4_readProduct {X : pX} {I : IM} {L H : Nat} {d : Int} {op : PS → PS} (hL : I 1 0 = L ∧ L ≤ 120) (hT : ∀ k : Nat, 0 ≤ I 2 k ∧ I 2 k ≤ 255) (hg : GdS L op) (hop : RdC X I L (H + 1) mX4_readOperand d op) : RdC X I L (H + 2) mX4_readProduct d (prS (I 2) L op) := by
  intro h J s D hs hf hd hn
  show Rz X (h + H + 2) mX4_readProduct 0 [some (.ref 1), some (zi d), none, none] [] (encM I s D) J _
  obtain ⟨p1, p2, p3, p4, p5⟩ := hg s hs
  refine rz_aload_n dX4_readProduct_0 rfl ?_
  refine rz_iload_n dX4_readProduct_1 rfl ?_
  refine rz_cVVq dX4_readProduct_2 kl_RX4_77 hd_1 ⟨_, _, rfl⟩ (hop _ J s D (by first | assumption | omega) (by first | assumption | omega) (by first | assumption | omega) (by first | assumption | omega)) rfl rfl (Nat.le_of_ble_eq_true rfl) (Nat.le_of_ble_eq_true rfl) ?_
  rintro _ _ ⟨⟨D2, rfl, k2⟩, rfl⟩
  refine rz_iconst dX4_readProduct_5 ?_
  refine rz_istore_n dX4_readProduct_6 (by decide) rfl ?_
  refine rz_upx (σ := PS × (Nat → Int)) (Inv := fun q sq => sq.1.1 ≤ L ∧ (-1 ≤ sq.1.2.1 ∧ sq.1.2.1 ≤ 120) ∧ DOK sq.2 sq.1.2.2 ∧ sq.1.2.2.length ≤ sq.1.1 ∧ lsS (I 2) L op proC (120 - q) sq.1 = prS (I 2) L op s) (ls := fun (q : Nat) sq => [some (.ref 1), some (zi d), some (zi (q : Int)), none]) (IV := fun (q : Nat) sq => (encM I sq.1 sq.2)) (JV := fun (q : Nat) sq => J) (120) ((op s, D2)) ⟨p1, gd_rg hg hL.2 hs hf, k2, (show (op s).2.2.length ≤ (op s).1 by omega), rfl⟩ ⟨Or.inr rfl, Or.inr rfl, Or.inr rfl, Or.inl rfl, trivial⟩ (rfl) (rfl) ?_ ?_
  · intro q sq hq qq ihq
    obtain ⟨t, D⟩ := sq
    obtain ⟨h1, h2, h3, h4, h5⟩ : t.1 ≤ L ∧ (-1 ≤ t.2.1 ∧ t.2.1 ≤ 120) ∧ DOK D t.2.2 ∧ t.2.2.length ≤ t.1 ∧ lsS (I 2) L op proC (120 - q) t = prS (I 2) L op s := qq
    have hr := nxS_rg (L := L) (s := t) hT
    refine rz_to (ls' := [some (.ref 1), some (zi d), some (zi (q : Int)), none]) (I' := (encM I t D)) (J' := J) ⟨Or.inr rfl, Or.inr rfl, Or.inr rfl, Or.inl rfl, trivial⟩ rfl rfl ?_
    refine rz_iload_n dX4_readProduct_7 rfl ?_
    refine rz_bipush dX4_readProduct_8 (by decide) ?_
    refine rz_icmp_ge (t := 64) dX4_readProduct_10 rfl (by omega) (by omega) (fun c10 => ?_) (fun c10 => ?_)
    · exfalso; omega
    · refine rz_aload_n dX4_readProduct_13 rfl ?_
      refine rz_cVI dX4_readProduct_14 kl_RX4_70 hd_1 ⟨_, _, rfl⟩ (c_X4_next X _ I J L hL t D (by first | assumption | omega) (by first | assumption | omega) hT) rfl rfl (Nat.le_of_ble_eq_true rfl) (Nat.le_of_ble_eq_true rfl) ?_
      refine rz_istore_n dX4_readProduct_17 (by decide) rfl ?_
      refine rz_iload_n dX4_readProduct_18 rfl ?_
      refine rz_bipush dX4_readProduct_19 (by decide) ?_
      refine rz_icmp_eq (t := 37) dX4_readProduct_21 rfl (by omega) (by omega) (fun c21 => ?_) (fun c21 => ?_)
      · refine rz_aload_n dX4_readProduct_37 rfl ?_
        refine rz_dup dX4_readProduct_38 rfl ?_
        refine rz_getI (z := (t.1 : Int)) dX4_readProduct_39 kf_RX4_29 hd_1 rfl (rfl) ?_
        refine rz_iconst dX4_readProduct_42 ?_
        refine rz_iadd dX4_readProduct_43 ?_
        refine rz_putI dX4_readProduct_44 kp_RX4_29 hd_1 rfl ?_
        refine rz_mem (I' := (encM I (adS t) D)) (J' := J) (encM_ad) (rfl) ?_
        have j1 := nxS_ne (T := I 2) (L := L) (s := t) (by omega)
        have a1 : (adS t).1 ≤ L := show t.1 + 1 ≤ L by omega
        have a2 : -1 ≤ (adS t).2.1 ∧ (adS t).2.1 ≤ 120 := h2
        have a3 : DOK D (adS t).2.2 := h3
        have a4 : (adS t).2.2.length ≤ (adS t).1 := show t.2.2.length ≤ t.1 + 1 by omega
        obtain ⟨g1, g2, g3, g4, g5⟩ := hg (adS t) a1
        have a5 := gd_rg hg hL.2 a1 a2
        have a6 : (op (adS t)).2.2.length + (t.1 + 1) ≤ (op (adS t)).1 + t.2.2.length := g3
        refine rz_aload_n dX4_readProduct_47 rfl ?_
        refine rz_iload_n dX4_readProduct_48 rfl ?_
        refine rz_cVVq dX4_readProduct_49 kl_RX4_77 hd_1 ⟨_, _, rfl⟩ (hop _ J (adS t) D (by first | assumption | omega) (by first | assumption | omega) (by first | assumption | omega) (by first | assumption | omega)) rfl rfl (Nat.le_of_ble_eq_true rfl) (Nat.le_of_ble_eq_true rfl) ?_
        rintro _ _ ⟨⟨D49, rfl, k49⟩, rfl⟩
        refine rz_aload_n dX4_readProduct_52 rfl ?_
        refine rz_iload_n dX4_readProduct_53 rfl ?_
        refine rz_ineg dX4_readProduct_54 ?_
        refine rz_cVVq dX4_readProduct_55 kl_RX4_58 hd_1 ⟨_, _, rfl⟩ (c_X4_emit X _ I J L hL (op (adS t)) D49 (-(nxS (I 2) L t)) (by first | assumption | omega) (by first | assumption | omega) (by first | assumption | omega)) rfl rfl (Nat.le_of_ble_eq_true rfl) (Nat.le_of_ble_eq_true rfl) ?_
        rintro _ _ ⟨⟨D55, rfl, k55⟩, rfl⟩
        refine rz_iinc dX4_readProduct_58 (by decide) rfl rfl rfl ?_
        refine rz_goto (t := 7) dX4_readProduct_61 rfl ?_
        exact rz_bk (ihq (((emS (-(nxS (I 2) L t)) (op (adS t))), D55)) (⟨by rw [emS_1]; exact g1, by rw [emS_2]; exact a5, k55, (by show (emS (-(nxS (I 2) L t)) (op (adS t))).2.2.length ≤ (emS (-(nxS (I 2) L t)) (op (adS t))).1; rw [emS_1]; have := emS_3 (-(nxS (I 2) L t)) (op (adS t)); omega), by rw [← h5]; exact (ls_yes hq (proC_t (by omega))).symm⟩)) ⟨Or.inr rfl, Or.inr rfl, Or.inr rfl, Or.inl rfl, trivial⟩ (rfl) (rfl)
      · refine rz_iload_n dX4_readProduct_24 rfl ?_
        refine rz_bipush dX4_readProduct_25 (by decide) ?_
        refine rz_icmp_eq (t := 37) dX4_readProduct_27 rfl (by omega) (by omega) (fun c27 => ?_) (fun c27 => ?_)
        · refine rz_aload_n dX4_readProduct_37 rfl ?_
          refine rz_dup dX4_readProduct_38 rfl ?_
          refine rz_getI (z := (t.1 : Int)) dX4_readProduct_39 kf_RX4_29 hd_1 rfl (rfl) ?_
          refine rz_iconst dX4_readProduct_42 ?_
          refine rz_iadd dX4_readProduct_43 ?_
          refine rz_putI dX4_readProduct_44 kp_RX4_29 hd_1 rfl ?_
          refine rz_mem (I' := (encM I (adS t) D)) (J' := J) (encM_ad) (rfl) ?_
          have j1 := nxS_ne (T := I 2) (L := L) (s := t) (by omega)
          have a1 : (adS t).1 ≤ L := show t.1 + 1 ≤ L by omega
          have a2 : -1 ≤ (adS t).2.1 ∧ (adS t).2.1 ≤ 120 := h2
          have a3 : DOK D (adS t).2.2 := h3
          have a4 : (adS t).2.2.length ≤ (adS t).1 := show t.2.2.length ≤ t.1 + 1 by omega
          obtain ⟨g1, g2, g3, g4, g5⟩ := hg (adS t) a1
          have a5 := gd_rg hg hL.2 a1 a2
          have a6 : (op (adS t)).2.2.length + (t.1 + 1) ≤ (op (adS t)).1 + t.2.2.length := g3
          refine rz_aload_n dX4_readProduct_47 rfl ?_
          refine rz_iload_n dX4_readProduct_48 rfl ?_
          refine rz_cVVq dX4_readProduct_49 kl_RX4_77 hd_1 ⟨_, _, rfl⟩ (hop _ J (adS t) D (by first | assumption | omega) (by first | assumption | omega) (by first | assumption | omega) (by first | assumption | omega)) rfl rfl (Nat.le_of_ble_eq_true rfl) (Nat.le_of_ble_eq_true rfl) ?_
          rintro _ _ ⟨⟨D49, rfl, k49⟩, rfl⟩
          refine rz_aload_n dX4_readProduct_52 rfl ?_
          refine rz_iload_n dX4_readProduct_53 rfl ?_
          refine rz_ineg dX4_readProduct_54 ?_
          refine rz_cVVq dX4_readProduct_55 kl_RX4_58 hd_1 ⟨_, _, rfl⟩ (c_X4_emit X _ I J L hL (op (adS t)) D49 (-(nxS (I 2) L t)) (by first | assumption | omega) (by first | assumption | omega) (by first | assumption | omega)) rfl rfl (Nat.le_of_ble_eq_true rfl) (Nat.le_of_ble_eq_true rfl) ?_
          rintro _ _ ⟨⟨D55, rfl, k55⟩, rfl⟩
          refine rz_iinc dX4_readProduct_58 (by decide) rfl rfl rfl ?_
          refine rz_goto (t := 7) dX4_readProduct_61 rfl ?_
          exact rz_bk (ihq (((emS (-(nxS (I 2) L t)) (op (adS t))), D55)) (⟨by rw [emS_1]; exact g1, by rw [emS_2]; exact a5, k55, (by show (emS (-(nxS (I 2) L t)) (op (adS t))).2.2.length ≤ (emS (-(nxS (I 2) L t)) (op (adS t))).1; rw [emS_1]; have := emS_3 (-(nxS (I 2) L t)) (op (adS t)); omega), by rw [← h5]; exact (ls_yes hq (proC_t (by omega))).symm⟩)) ⟨Or.inr rfl, Or.inr rfl, Or.inr rfl, Or.inl rfl, trivial⟩ (rfl) (rfl)
        · refine rz_iload_n dX4_readProduct_30 rfl ?_
          refine rz_bipush dX4_readProduct_31 (by decide) ?_
          refine rz_icmp_eq (t := 37) dX4_readProduct_33 rfl (by omega) (by omega) (fun c33 => ?_) (fun c33 => ?_)
          · refine rz_aload_n dX4_readProduct_37 rfl ?_
            refine rz_dup dX4_readProduct_38 rfl ?_
            refine rz_getI (z := (t.1 : Int)) dX4_readProduct_39 kf_RX4_29 hd_1 rfl (rfl) ?_
            refine rz_iconst dX4_readProduct_42 ?_
            refine rz_iadd dX4_readProduct_43 ?_
            refine rz_putI dX4_readProduct_44 kp_RX4_29 hd_1 rfl ?_
            refine rz_mem (I' := (encM I (adS t) D)) (J' := J) (encM_ad) (rfl) ?_
            have j1 := nxS_ne (T := I 2) (L := L) (s := t) (by omega)
            have a1 : (adS t).1 ≤ L := show t.1 + 1 ≤ L by omega
            have a2 : -1 ≤ (adS t).2.1 ∧ (adS t).2.1 ≤ 120 := h2
            have a3 : DOK D (adS t).2.2 := h3
            have a4 : (adS t).2.2.length ≤ (adS t).1 := show t.2.2.length ≤ t.1 + 1 by omega
            obtain ⟨g1, g2, g3, g4, g5⟩ := hg (adS t) a1
            have a5 := gd_rg hg hL.2 a1 a2
            have a6 : (op (adS t)).2.2.length + (t.1 + 1) ≤ (op (adS t)).1 + t.2.2.length := g3
            refine rz_aload_n dX4_readProduct_47 rfl ?_
            refine rz_iload_n dX4_readProduct_48 rfl ?_
            refine rz_cVVq dX4_readProduct_49 kl_RX4_77 hd_1 ⟨_, _, rfl⟩ (hop _ J (adS t) D (by first | assumption | omega) (by first | assumption | omega) (by first | assumption | omega) (by first | assumption | omega)) rfl rfl (Nat.le_of_ble_eq_true rfl) (Nat.le_of_ble_eq_true rfl) ?_
            rintro _ _ ⟨⟨D49, rfl, k49⟩, rfl⟩
            refine rz_aload_n dX4_readProduct_52 rfl ?_
            refine rz_iload_n dX4_readProduct_53 rfl ?_
            refine rz_ineg dX4_readProduct_54 ?_
            refine rz_cVVq dX4_readProduct_55 kl_RX4_58 hd_1 ⟨_, _, rfl⟩ (c_X4_emit X _ I J L hL (op (adS t)) D49 (-(nxS (I 2) L t)) (by first | assumption | omega) (by first | assumption | omega) (by first | assumption | omega)) rfl rfl (Nat.le_of_ble_eq_true rfl) (Nat.le_of_ble_eq_true rfl) ?_
            rintro _ _ ⟨⟨D55, rfl, k55⟩, rfl⟩
            refine rz_iinc dX4_readProduct_58 (by decide) rfl rfl rfl ?_
            refine rz_goto (t := 7) dX4_readProduct_61 rfl ?_
            exact rz_bk (ihq (((emS (-(nxS (I 2) L t)) (op (adS t))), D55)) (⟨by rw [emS_1]; exact g1, by rw [emS_2]; exact a5, k55, (by show (emS (-(nxS (I 2) L t)) (op (adS t))).2.2.length ≤ (emS (-(nxS (I 2) L t)) (op (adS t))).1; rw [emS_1]; have := emS_3 (-(nxS (I 2) L t)) (op (adS t)); omega), by rw [← h5]; exact (ls_yes hq (proC_t (by omega))).symm⟩)) ⟨Or.inr rfl, Or.inr rfl, Or.inr rfl, Or.inl rfl, trivial⟩ (rfl) (rfl)
          · refine rz_vret dX4_readProduct_36 rfl ?_
            have hz : t = prS (I 2) L op s := by rw [← h5]; exact (ls_no (proC_f (by omega))).symm
            exact ⟨rfl, ⟨D, by rw [← hz], by rw [← hz]; exact h3⟩, rfl⟩
  · intro sq qq
    obtain ⟨h1, h2, h3, h4, h5⟩ := qq
    refine rz_iload_n dX4_readProduct_7 rfl ?_
    refine rz_bipush dX4_readProduct_8 (by decide) ?_
    refine rz_icmp_ge (t := 64) dX4_readProduct_10 rfl (by omega) (by omega) (fun c10 => ?_) (fun c10 => ?_)
    · refine rz_vret dX4_readProduct_64 rfl ?_
      exact ⟨rfl, ⟨sq.2, by rw [← h5]; rfl, by rw [← h5]; exact h3⟩, rfl⟩
    · exfalso; omega
set_option maxRecDepth 20000 in
set_option maxHeartbeats 400000 in
theorem c_X4_readSum {X : pX} {I : IM} {L H : Nat} {d : Int} {op : PS → PS} (hL : I 1 0 = L ∧ L ≤ 120) (hT : ∀ k : Nat, 0 ≤ I 2 k ∧ I 2 k ≤ 255) (hg : GdS L op) (hop : RdC X I L (H + 1) mX4_readProduct d op) : RdC X I L (H + 2) mX4_readSum d (suSx (I 2) L op) := by
  intro h J s D hs hf hd hn
  show Rz X (h + H + 2) mX4_readSum 0 [some (.ref 1), some (zi d), none, none] [] (encM I s D) J _
  obtain ⟨p1, p2, p3, p4, p5⟩ := hg s hs
  refine rz_aload_n dX4_readSum_0 rfl ?_
  refine rz_iload_n dX4_readSum_1 rfl ?_
  refine rz_cVVq dX4_readSum_2 kl_RX4_74 hd_1 ⟨_, _, rfl⟩ (hop _ J s D (by first | assumption | omega) (by first | assumption | omega) (by first | assumption | omega) (by first | assumption | omega)) rfl rfl (Nat.le_of_ble_eq_true rfl) (Nat.le_of_ble_eq_true rfl) ?_
  rintro _ _ ⟨⟨D2, rfl, k2⟩, rfl⟩
  refine rz_iconst dX4_readSum_5 ?_
  refine rz_istore_n dX4_readSum_6 (by decide) rfl ?_
  refine rz_upx (σ := PS × (Nat → Int)) (Inv := fun q sq => sq.1.1 ≤ L ∧ (-1 ≤ sq.1.2.1 ∧ sq.1.2.1 ≤ 120) ∧ DOK sq.2 sq.1.2.2 ∧ sq.1.2.2.length ≤ sq.1.1 ∧ lsS (I 2) L op sumC (120 - q) sq.1 = suSx (I 2) L op s) (ls := fun (q : Nat) sq => [some (.ref 1), some (zi d), some (zi (q : Int)), none]) (IV := fun (q : Nat) sq => (encM I sq.1 sq.2)) (JV := fun (q : Nat) sq => J) (120) ((op s, D2)) ⟨p1, gd_rg hg hL.2 hs hf, k2, (show (op s).2.2.length ≤ (op s).1 by omega), rfl⟩ ⟨Or.inr rfl, Or.inr rfl, Or.inr rfl, Or.inl rfl, trivial⟩ (rfl) (rfl) ?_ ?_
  · intro q sq hq qq ihq
    obtain ⟨t, D⟩ := sq
    obtain ⟨h1, h2, h3, h4, h5⟩ : t.1 ≤ L ∧ (-1 ≤ t.2.1 ∧ t.2.1 ≤ 120) ∧ DOK D t.2.2 ∧ t.2.2.length ≤ t.1 ∧ lsS (I 2) L op sumC (120 - q) t = suSx (I 2) L op s := qq
    have hr := nxS_rg (L := L) (s := t) hT
    refine rz_to (ls' := [some (.ref 1), some (zi d), some (zi (q : Int)), none]) (I' := (encM I t D)) (J' := J) ⟨Or.inr rfl, Or.inr rfl, Or.inr rfl, Or.inl rfl, trivial⟩ rfl rfl ?_
    refine rz_iload_n dX4_readSum_7 rfl ?_
    refine rz_bipush dX4_readSum_8 (by decide) ?_
    refine rz_icmp_ge (t := 58) dX4_readSum_10 rfl (by omega) (by omega) (fun c10 => ?_) (fun c10 => ?_)
    · exfalso; omega
    · refine rz_aload_n dX4_readSum_13 rfl ?_
      refine rz_cVI dX4_readSum_14 kl_RX4_70 hd_1 ⟨_, _, rfl⟩ (c_X4_next X _ I J L hL t D (by first | assumption | omega) (by first | assumption | omega) hT) rfl rfl (Nat.le_of_ble_eq_true rfl) (Nat.le_of_ble_eq_true rfl) ?_
      refine rz_istore_n dX4_readSum_17 (by decide) rfl ?_
      refine rz_iload_n dX4_readSum_18 rfl ?_
      refine rz_bipush dX4_readSum_19 (by decide) ?_
      refine rz_icmp_eq (t := 31) dX4_readSum_21 rfl (by omega) (by omega) (fun c21 => ?_) (fun c21 => ?_)
      · refine rz_aload_n dX4_readSum_31 rfl ?_
        refine rz_dup dX4_readSum_32 rfl ?_
        refine rz_getI (z := (t.1 : Int)) dX4_readSum_33 kf_RX4_29 hd_1 rfl (rfl) ?_
        refine rz_iconst dX4_readSum_36 ?_
        refine rz_iadd dX4_readSum_37 ?_
        refine rz_putI dX4_readSum_38 kp_RX4_29 hd_1 rfl ?_
        refine rz_mem (I' := (encM I (adS t) D)) (J' := J) (encM_ad) (rfl) ?_
        have j1 := nxS_ne (T := I 2) (L := L) (s := t) (by omega)
        have a1 : (adS t).1 ≤ L := show t.1 + 1 ≤ L by omega
        have a2 : -1 ≤ (adS t).2.1 ∧ (adS t).2.1 ≤ 120 := h2
        have a3 : DOK D (adS t).2.2 := h3
        have a4 : (adS t).2.2.length ≤ (adS t).1 := show t.2.2.length ≤ t.1 + 1 by omega
        obtain ⟨g1, g2, g3, g4, g5⟩ := hg (adS t) a1
        have a5 := gd_rg hg hL.2 a1 a2
        have a6 : (op (adS t)).2.2.length + (t.1 + 1) ≤ (op (adS t)).1 + t.2.2.length := g3
        refine rz_aload_n dX4_readSum_41 rfl ?_
        refine rz_iload_n dX4_readSum_42 rfl ?_
        refine rz_cVVq dX4_readSum_43 kl_RX4_74 hd_1 ⟨_, _, rfl⟩ (hop _ J (adS t) D (by first | assumption | omega) (by first | assumption | omega) (by first | assumption | omega) (by first | assumption | omega)) rfl rfl (Nat.le_of_ble_eq_true rfl) (Nat.le_of_ble_eq_true rfl) ?_
        rintro _ _ ⟨⟨D43, rfl, k43⟩, rfl⟩
        refine rz_aload_n dX4_readSum_46 rfl ?_
        refine rz_iload_n dX4_readSum_47 rfl ?_
        refine rz_ineg dX4_readSum_48 ?_
        refine rz_cVVq dX4_readSum_49 kl_RX4_58 hd_1 ⟨_, _, rfl⟩ (c_X4_emit X _ I J L hL (op (adS t)) D43 (-(nxS (I 2) L t)) (by first | assumption | omega) (by first | assumption | omega) (by first | assumption | omega)) rfl rfl (Nat.le_of_ble_eq_true rfl) (Nat.le_of_ble_eq_true rfl) ?_
        rintro _ _ ⟨⟨D49, rfl, k49⟩, rfl⟩
        refine rz_iinc dX4_readSum_52 (by decide) rfl rfl rfl ?_
        refine rz_goto (t := 7) dX4_readSum_55 rfl ?_
        exact rz_bk (ihq (((emS (-(nxS (I 2) L t)) (op (adS t))), D49)) (⟨by rw [emS_1]; exact g1, by rw [emS_2]; exact a5, k49, (by show (emS (-(nxS (I 2) L t)) (op (adS t))).2.2.length ≤ (emS (-(nxS (I 2) L t)) (op (adS t))).1; rw [emS_1]; have := emS_3 (-(nxS (I 2) L t)) (op (adS t)); omega), by rw [← h5]; exact (ls_yes hq (sumC_t (by omega))).symm⟩)) ⟨Or.inr rfl, Or.inr rfl, Or.inr rfl, Or.inl rfl, trivial⟩ (rfl) (rfl)
      · refine rz_iload_n dX4_readSum_24 rfl ?_
        refine rz_bipush dX4_readSum_25 (by decide) ?_
        refine rz_icmp_eq (t := 31) dX4_readSum_27 rfl (by omega) (by omega) (fun c27 => ?_) (fun c27 => ?_)
        · refine rz_aload_n dX4_readSum_31 rfl ?_
          refine rz_dup dX4_readSum_32 rfl ?_
          refine rz_getI (z := (t.1 : Int)) dX4_readSum_33 kf_RX4_29 hd_1 rfl (rfl) ?_
          refine rz_iconst dX4_readSum_36 ?_
          refine rz_iadd dX4_readSum_37 ?_
          refine rz_putI dX4_readSum_38 kp_RX4_29 hd_1 rfl ?_
          refine rz_mem (I' := (encM I (adS t) D)) (J' := J) (encM_ad) (rfl) ?_
          have j1 := nxS_ne (T := I 2) (L := L) (s := t) (by omega)
          have a1 : (adS t).1 ≤ L := show t.1 + 1 ≤ L by omega
          have a2 : -1 ≤ (adS t).2.1 ∧ (adS t).2.1 ≤ 120 := h2
          have a3 : DOK D (adS t).2.2 := h3
          have a4 : (adS t).2.2.length ≤ (adS t).1 := show t.2.2.length ≤ t.1 + 1 by omega
          obtain ⟨g1, g2, g3, g4, g5⟩ := hg (adS t) a1
          have a5 := gd_rg hg hL.2 a1 a2
          have a6 : (op (adS t)).2.2.length + (t.1 + 1) ≤ (op (adS t)).1 + t.2.2.length := g3
          refine rz_aload_n dX4_readSum_41 rfl ?_
          refine rz_iload_n dX4_readSum_42 rfl ?_
          refine rz_cVVq dX4_readSum_43 kl_RX4_74 hd_1 ⟨_, _, rfl⟩ (hop _ J (adS t) D (by first | assumption | omega) (by first | assumption | omega) (by first | assumption | omega) (by first | assumption | omega)) rfl rfl (Nat.le_of_ble_eq_true rfl) (Nat.le_of_ble_eq_true rfl) ?_
          rintro _ _ ⟨⟨D43, rfl, k43⟩, rfl⟩
          refine rz_aload_n dX4_readSum_46 rfl ?_
          refine rz_iload_n dX4_readSum_47 rfl ?_
          refine rz_ineg dX4_readSum_48 ?_
          refine rz_cVVq dX4_readSum_49 kl_RX4_58 hd_1 ⟨_, _, rfl⟩ (c_X4_emit X _ I J L hL (op (adS t)) D43 (-(nxS (I 2) L t)) (by first | assumption | omega) (by first | assumption | omega) (by first | assumption | omega)) rfl rfl (Nat.le_of_ble_eq_true rfl) (Nat.le_of_ble_eq_true rfl) ?_
          rintro _ _ ⟨⟨D49, rfl, k49⟩, rfl⟩
          refine rz_iinc dX4_readSum_52 (by decide) rfl rfl rfl ?_
          refine rz_goto (t := 7) dX4_readSum_55 rfl ?_
          exact rz_bk (ihq (((emS (-(nxS (I 2) L t)) (op (adS t))), D49)) (⟨by rw [emS_1]; exact g1, by rw [emS_2]; exact a5, k49, (by show (emS (-(nxS (I 2) L t)) (op (adS t))).2.2.length ≤ (emS (-(nxS (I 2) L t)) (op (adS t))).1; rw [emS_1]; have := emS_3 (-(nxS (I 2) L t)) (op (adS t)); omega), by rw [← h5]; exact (ls_yes hq (sumC_t (by omega))).symm⟩)) ⟨Or.inr rfl, Or.inr rfl, Or.inr rfl, Or.inl rfl, trivial⟩ (rfl) (rfl)
        · refine rz_vret dX4_readSum_30 rfl ?_
          have hz : t = suSx (I 2) L op s := by rw [← h5]; exact (ls_no (sumC_f (by omega))).symm
          exact ⟨rfl, ⟨D, by rw [← hz], by rw [← hz]; exact h3⟩, rfl⟩
  · intro sq qq
    obtain ⟨h1, h2, h3, h4, h5⟩ := qq
    refine rz_iload_n dX4_readSum_7 rfl ?_
    refine rz_bipush dX4_readSum_8 (by decide) ?_
    refine rz_icmp_ge (t := 58) dX4_readSum_10 rfl (by omega) (by omega) (fun c10 => ?_) (fun c10 => ?_)
    · refine rz_vret dX4_readSum_58 rfl ?_
      exact ⟨rfl, ⟨sq.2, by rw [← h5]; rfl, by rw [← h5]; exact h3⟩, rfl⟩
    · exfalso; omega
set_option maxRecDepth 20000 in
set_option maxHeartbeats 400000 in
theorem c_X4_readBoth {X : pX} {I : IM} {L H : Nat} {d : Int} {op : PS → PS} (hL : I 1 0 = L ∧ L ≤ 120) (hT : ∀ k : Nat, 0 ≤ I 2 k ∧ I 2 k ≤ 255) (hg : GdS L op) (hop : RdC X I L (H + 1) mX4_readCompared d op) : RdC X I L (H + 2) mX4_readBoth d (boSx (I 2) L op) := by
  intro h J s D hs hf hd hn
  show Rz X (h + H + 2) mX4_readBoth 0 [some (.ref 1), some (zi d), none] [] (encM I s D) J _
  obtain ⟨p1, p2, p3, p4, p5⟩ := hg s hs
  refine rz_aload_n dX4_readBoth_0 rfl ?_
  refine rz_iload_n dX4_readBoth_1 rfl ?_
  refine rz_cVVq dX4_readBoth_2 kl_RX4_64 hd_1 ⟨_, _, rfl⟩ (hop _ J s D (by first | assumption | omega) (by first | assumption | omega) (by first | assumption | omega) (by first | assumption | omega)) rfl rfl (Nat.le_of_ble_eq_true rfl) (Nat.le_of_ble_eq_true rfl) ?_
  rintro _ _ ⟨⟨D2, rfl, k2⟩, rfl⟩
  refine rz_iconst dX4_readBoth_5 ?_
  refine rz_istore_n dX4_readBoth_6 (by decide) rfl ?_
  refine rz_upx (σ := PS × (Nat → Int)) (Inv := fun q sq => sq.1.1 ≤ L ∧ (-1 ≤ sq.1.2.1 ∧ sq.1.2.1 ≤ 120) ∧ DOK sq.2 sq.1.2.2 ∧ sq.1.2.2.length ≤ sq.1.1 ∧ lsS (I 2) L op andC (120 - q) sq.1 = boSx (I 2) L op s) (ls := fun (q : Nat) sq => [some (.ref 1), some (zi d), some (zi (q : Int))]) (IV := fun (q : Nat) sq => (encM I sq.1 sq.2)) (JV := fun (q : Nat) sq => J) (120) ((op s, D2)) ⟨p1, gd_rg hg hL.2 hs hf, k2, (show (op s).2.2.length ≤ (op s).1 by omega), rfl⟩ ⟨Or.inr rfl, Or.inr rfl, Or.inr rfl, trivial⟩ (rfl) (rfl) ?_ ?_
  · intro q sq hq qq ihq
    obtain ⟨t, D⟩ := sq
    obtain ⟨h1, h2, h3, h4, h5⟩ : t.1 ≤ L ∧ (-1 ≤ t.2.1 ∧ t.2.1 ≤ 120) ∧ DOK D t.2.2 ∧ t.2.2.length ≤ t.1 ∧ lsS (I 2) L op andC (120 - q) t = boSx (I 2) L op s := qq
    have hr := nxS_rg (L := L) (s := t) hT
    refine rz_to (ls' := [some (.ref 1), some (zi d), some (zi (q : Int))]) (I' := (encM I t D)) (J' := J) ⟨Or.inr rfl, Or.inr rfl, Or.inr rfl, trivial⟩ rfl rfl ?_
    refine rz_iload_n dX4_readBoth_7 rfl ?_
    refine rz_bipush dX4_readBoth_8 (by decide) ?_
    refine rz_icmp_ge (t := 39) dX4_readBoth_10 rfl (by omega) (by omega) (fun c10 => ?_) (fun c10 => ?_)
    · exfalso; omega
    · refine rz_aload_n dX4_readBoth_13 rfl ?_
      refine rz_bipush dX4_readBoth_14 (by decide) ?_
      refine rz_cVIq dX4_readBoth_16 kl_RX4_41 hd_1 ⟨_, _, rfl⟩ (c_X4_takes X _ I J L hL t D 38 (by omega) (by first | assumption | omega) (by first | assumption | omega) hT) rfl rfl (Nat.le_of_ble_eq_true rfl) (Nat.le_of_ble_eq_true rfl) ?_
      rintro z16 A16 _ ⟨⟨rfl, b16, rfl⟩ | ⟨rfl, b16, rfl⟩, rfl⟩
      · refine rz_if_eq (t := 39) dX4_readBoth_19 rfl (by omega) (fun q => absurd q (by decide)) (fun _ => ?_)
        have j1 := nxS_ne (T := I 2) (L := L) (s := t) (by omega)
        have a1 : (adS t).1 ≤ L := show t.1 + 1 ≤ L by omega
        have a2 : -1 ≤ (adS t).2.1 ∧ (adS t).2.1 ≤ 120 := h2
        have a3 : DOK D (adS t).2.2 := h3
        have a4 : (adS t).2.2.length ≤ (adS t).1 := show t.2.2.length ≤ t.1 + 1 by omega
        obtain ⟨g1, g2, g3, g4, g5⟩ := hg (adS t) a1
        have a5 := gd_rg hg hL.2 a1 a2
        have a6 : (op (adS t)).2.2.length + (t.1 + 1) ≤ (op (adS t)).1 + t.2.2.length := g3
        refine rz_aload_n dX4_readBoth_22 rfl ?_
        refine rz_iload_n dX4_readBoth_23 rfl ?_
        refine rz_cVVq dX4_readBoth_24 kl_RX4_64 hd_1 ⟨_, _, rfl⟩ (hop _ J (adS t) D (by first | assumption | omega) (by first | assumption | omega) (by first | assumption | omega) (by first | assumption | omega)) rfl rfl (Nat.le_of_ble_eq_true rfl) (Nat.le_of_ble_eq_true rfl) ?_
        rintro _ _ ⟨⟨D24, rfl, k24⟩, rfl⟩
        refine rz_aload_n dX4_readBoth_27 rfl ?_
        refine rz_bipush dX4_readBoth_28 (by decide) ?_
        refine rz_cVVq dX4_readBoth_30 kl_RX4_58 hd_1 ⟨_, _, rfl⟩ (c_X4_emit X _ I J L hL (op (adS t)) D24 (-38) (by first | assumption | omega) (by first | assumption | omega) (by first | assumption | omega)) rfl rfl (Nat.le_of_ble_eq_true rfl) (Nat.le_of_ble_eq_true rfl) ?_
        rintro _ _ ⟨⟨D30, rfl, k30⟩, rfl⟩
        refine rz_iinc dX4_readBoth_33 (by decide) rfl rfl rfl ?_
        refine rz_goto (t := 7) dX4_readBoth_36 rfl ?_
        exact rz_bk (ihq (((emS (-38) (op (adS t))), D30)) (⟨by rw [emS_1]; exact g1, by rw [emS_2]; exact a5, k30, (by show (emS (-38) (op (adS t))).2.2.length ≤ (emS (-38) (op (adS t))).1; rw [emS_1]; have := emS_3 (-38) (op (adS t)); omega), by rw [← h5, ls_yes hq (andC_t b16), b16]⟩)) ⟨Or.inr rfl, Or.inr rfl, Or.inr rfl, trivial⟩ (rfl) (rfl)
      · refine rz_if_eq (t := 39) dX4_readBoth_19 rfl (by omega) (fun _ => ?_) (fun q => absurd q (by decide))
        refine rz_vret dX4_readBoth_39 rfl ?_
        have hz : t = boSx (I 2) L op s := by rw [← h5]; exact (ls_no (andC_f b16)).symm
        exact ⟨rfl, ⟨D, by rw [← hz], by rw [← hz]; exact h3⟩, rfl⟩
  · intro sq qq
    obtain ⟨h1, h2, h3, h4, h5⟩ := qq
    refine rz_iload_n dX4_readBoth_7 rfl ?_
    refine rz_bipush dX4_readBoth_8 (by decide) ?_
    refine rz_icmp_ge (t := 39) dX4_readBoth_10 rfl (by omega) (by omega) (fun c10 => ?_) (fun c10 => ?_)
    · refine rz_vret dX4_readBoth_39 rfl ?_
      exact ⟨rfl, ⟨sq.2, by rw [← h5]; rfl, by rw [← h5]; exact h3⟩, rfl⟩
    · exfalso; omega
set_option maxRecDepth 20000 in
set_option maxHeartbeats 400000 in
theorem c_X4_readEither {X : pX} {I : IM} {L H : Nat} {d : Int} {op : PS → PS} (hL : I 1 0 = L ∧ L ≤ 120) (hT : ∀ k : Nat, 0 ≤ I 2 k ∧ I 2 k ≤ 255) (hg : GdS L op) (hop : RdC X I L (H + 1) mX4_readBoth d op) : RdC X I L (H + 2) mX4_readEither d (eiSx (I 2) L op) := by
  intro h J s D hs hf hd hn
  show Rz X (h + H + 2) mX4_readEither 0 [some (.ref 1), some (zi d), none] [] (encM I s D) J _
  obtain ⟨p1, p2, p3, p4, p5⟩ := hg s hs
  refine rz_aload_n dX4_readEither_0 rfl ?_
  refine rz_iload_n dX4_readEither_1 rfl ?_
  refine rz_cVVq dX4_readEither_2 kl_RX4_61 hd_1 ⟨_, _, rfl⟩ (hop _ J s D (by first | assumption | omega) (by first | assumption | omega) (by first | assumption | omega) (by first | assumption | omega)) rfl rfl (Nat.le_of_ble_eq_true rfl) (Nat.le_of_ble_eq_true rfl) ?_
  rintro _ _ ⟨⟨D2, rfl, k2⟩, rfl⟩
  refine rz_iconst dX4_readEither_5 ?_
  refine rz_istore_n dX4_readEither_6 (by decide) rfl ?_
  refine rz_upx (σ := PS × (Nat → Int)) (Inv := fun q sq => sq.1.1 ≤ L ∧ (-1 ≤ sq.1.2.1 ∧ sq.1.2.1 ≤ 120) ∧ DOK sq.2 sq.1.2.2 ∧ sq.1.2.2.length ≤ sq.1.1 ∧ lsS (I 2) L op orC (120 - q) sq.1 = eiSx (I 2) L op s) (ls := fun (q : Nat) sq => [some (.ref 1), some (zi d), some (zi (q : Int))]) (IV := fun (q : Nat) sq => (encM I sq.1 sq.2)) (JV := fun (q : Nat) sq => J) (120) ((op s, D2)) ⟨p1, gd_rg hg hL.2 hs hf, k2, (show (op s).2.2.length ≤ (op s).1 by omega), rfl⟩ ⟨Or.inr rfl, Or.inr rfl, Or.inr rfl, trivial⟩ (rfl) (rfl) ?_ ?_
  · intro q sq hq qq ihq
    obtain ⟨t, D⟩ := sq
    obtain ⟨h1, h2, h3, h4, h5⟩ : t.1 ≤ L ∧ (-1 ≤ t.2.1 ∧ t.2.1 ≤ 120) ∧ DOK D t.2.2 ∧ t.2.2.length ≤ t.1 ∧ lsS (I 2) L op orC (120 - q) t = eiSx (I 2) L op s := qq
    have hr := nxS_rg (L := L) (s := t) hT
    refine rz_to (ls' := [some (.ref 1), some (zi d), some (zi (q : Int))]) (I' := (encM I t D)) (J' := J) ⟨Or.inr rfl, Or.inr rfl, Or.inr rfl, trivial⟩ rfl rfl ?_
    refine rz_iload_n dX4_readEither_7 rfl ?_
    refine rz_bipush dX4_readEither_8 (by decide) ?_
    refine rz_icmp_ge (t := 39) dX4_readEither_10 rfl (by omega) (by omega) (fun c10 => ?_) (fun c10 => ?_)
    · exfalso; omega
    · refine rz_aload_n dX4_readEither_13 rfl ?_
      refine rz_bipush dX4_readEither_14 (by decide) ?_
      refine rz_cVIq dX4_readEither_16 kl_RX4_41 hd_1 ⟨_, _, rfl⟩ (c_X4_takes X _ I J L hL t D 124 (by omega) (by first | assumption | omega) (by first | assumption | omega) hT) rfl rfl (Nat.le_of_ble_eq_true rfl) (Nat.le_of_ble_eq_true rfl) ?_
      rintro z16 A16 _ ⟨⟨rfl, b16, rfl⟩ | ⟨rfl, b16, rfl⟩, rfl⟩
      · refine rz_if_eq (t := 39) dX4_readEither_19 rfl (by omega) (fun q => absurd q (by decide)) (fun _ => ?_)
        have j1 := nxS_ne (T := I 2) (L := L) (s := t) (by omega)
        have a1 : (adS t).1 ≤ L := show t.1 + 1 ≤ L by omega
        have a2 : -1 ≤ (adS t).2.1 ∧ (adS t).2.1 ≤ 120 := h2
        have a3 : DOK D (adS t).2.2 := h3
        have a4 : (adS t).2.2.length ≤ (adS t).1 := show t.2.2.length ≤ t.1 + 1 by omega
        obtain ⟨g1, g2, g3, g4, g5⟩ := hg (adS t) a1
        have a5 := gd_rg hg hL.2 a1 a2
        have a6 : (op (adS t)).2.2.length + (t.1 + 1) ≤ (op (adS t)).1 + t.2.2.length := g3
        refine rz_aload_n dX4_readEither_22 rfl ?_
        refine rz_iload_n dX4_readEither_23 rfl ?_
        refine rz_cVVq dX4_readEither_24 kl_RX4_61 hd_1 ⟨_, _, rfl⟩ (hop _ J (adS t) D (by first | assumption | omega) (by first | assumption | omega) (by first | assumption | omega) (by first | assumption | omega)) rfl rfl (Nat.le_of_ble_eq_true rfl) (Nat.le_of_ble_eq_true rfl) ?_
        rintro _ _ ⟨⟨D24, rfl, k24⟩, rfl⟩
        refine rz_aload_n dX4_readEither_27 rfl ?_
        refine rz_bipush dX4_readEither_28 (by decide) ?_
        refine rz_cVVq dX4_readEither_30 kl_RX4_58 hd_1 ⟨_, _, rfl⟩ (c_X4_emit X _ I J L hL (op (adS t)) D24 (-124) (by first | assumption | omega) (by first | assumption | omega) (by first | assumption | omega)) rfl rfl (Nat.le_of_ble_eq_true rfl) (Nat.le_of_ble_eq_true rfl) ?_
        rintro _ _ ⟨⟨D30, rfl, k30⟩, rfl⟩
        refine rz_iinc dX4_readEither_33 (by decide) rfl rfl rfl ?_
        refine rz_goto (t := 7) dX4_readEither_36 rfl ?_
        exact rz_bk (ihq (((emS (-124) (op (adS t))), D30)) (⟨by rw [emS_1]; exact g1, by rw [emS_2]; exact a5, k30, (by show (emS (-124) (op (adS t))).2.2.length ≤ (emS (-124) (op (adS t))).1; rw [emS_1]; have := emS_3 (-124) (op (adS t)); omega), by rw [← h5, ls_yes hq (orC_t b16), b16]⟩)) ⟨Or.inr rfl, Or.inr rfl, Or.inr rfl, trivial⟩ (rfl) (rfl)
      · refine rz_if_eq (t := 39) dX4_readEither_19 rfl (by omega) (fun _ => ?_) (fun q => absurd q (by decide))
        refine rz_vret dX4_readEither_39 rfl ?_
        have hz : t = eiSx (I 2) L op s := by rw [← h5]; exact (ls_no (orC_f b16)).symm
        exact ⟨rfl, ⟨D, by rw [← hz], by rw [← hz]; exact h3⟩, rfl⟩
  · intro sq qq
    obtain ⟨h1, h2, h3, h4, h5⟩ := qq
    refine rz_iload_n dX4_readEither_7 rfl ?_
    refine rz_bipush dX4_readEither_8 (by decide) ?_
    refine rz_icmp_ge (t := 39) dX4_readEither_10 rfl (by omega) (by omega) (fun c10 => ?_) (fun c10 => ?_)
    · refine rz_vret dX4_readEither_39 rfl ?_
      exact ⟨rfl, ⟨sq.2, by rw [← h5]; rfl, by rw [← h5]; exact h3⟩, rfl⟩
    · exfalso; omega
