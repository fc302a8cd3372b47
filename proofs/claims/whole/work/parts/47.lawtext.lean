/-! the class reads: all of a text -/
abbrev LnG (L : Nat) (f : PS → PS) : Prop := ∀ s : PS, s.1 ≤ L → (f s).1 ≤ L ∧ s.1 ≤ (f s).1 ∧ ((f s).2.2.length + s.1 ≤ (f s).1 + s.2.2.length + 1) ∧ (s.2.1 < 0 → (f s).2.1 = s.2.1 ∨ (0 ≤ (f s).2.1 ∧ (f s).2.1 ≤ L)) ∧ (0 ≤ s.2.1 → f s = s)
theorem ln_gd {T : Nat → Int} {L : Nat} {E : PS → PS} (hE : GdS L E) : LnG L (lnS T L E) := by
  intro s hs
  obtain ⟨p1, p2, p3, p4, p5⟩ := hE s hs
  unfold lnS
  by_cases h : nxS T L (E s) = 63
  · rw [if_pos h]
    obtain ⟨j1, j2, -⟩ := nxS_ne (show nxS T L (E s) ≠ -1 by omega)
    have e1 : (emS (-63) (adS (E s))).1 = (E s).1 + 1 := emS_1 _ _
    have e2 : (emS (-63) (adS (E s))).2.1 = (E s).2.1 := emS_2 _ _
    have e3 := emS_3 (-63) (adS (E s))
    have e4 : (adS (E s)).2.2 = (E s).2.2 := rfl
    rw [e4] at e3
    obtain ⟨q1, q2, q3, q4, q5⟩ := hE (emS (-63) (adS (E s))) (by rw [e1]; omega)
    have f3 := emS_3 (-59) (E (emS (-63) (adS (E s))))
    rw [emS_1, emS_2]
    rw [e1] at q2 q3
    rw [e2] at q4 q5
    refine ⟨q1, by omega, by omega, fun hf => ?_, fun hf => ?_⟩
    · rcases p4 hf with e | e
      · rw [e] at q4; exact q4 hf
      · omega
    · rw [p5 hf] at j1; omega
  · rw [if_neg h]
    have f3 := emS_3 (-59) (E s)
    rw [emS_1, emS_2]
    exact ⟨p1, p2, by omega, p4, fun hf => by rw [p5 hf, emS_f hf]⟩
/-- further lines -/
def lpS (T : Nat → Int) (L : Nat) (f : PS → PS) : Nat → PS → PS
  | 0, s => s
  | k + 1, s => if nxS T L s = 59 then lpS T L f k (f (adS s)) else s
def flL (L : Nat) (s : PS) : PS := if s.1 < L then flS s else s
def rdS (T : Nat → Int) (L : Nat) : PS := flL L (lpS T L (lnS T L (eiS T L (opS T L 6))) 120 (lnS T L (eiS T L (opS T L 6)) (0, -1, [])))
theorem lp_yes {T : Nat → Int} {L q : Nat} {f : PS → PS} {t : PS} (hq : q < 120) (h : nxS T L t = 59) : lpS T L f (120 - q) t = lpS T L f (120 - (q + 1)) (f (adS t)) := by
  obtain ⟨k, hk⟩ : ∃ k, 120 - q = k + 1 := ⟨120 - q - 1, by omega⟩
  rw [hk, show 120 - (q + 1) = k by omega]
  exact if_pos h
theorem lp_no {T : Nat → Int} {L k : Nat} {f : PS → PS} {t : PS} (h : nxS T L t ≠ 59) : lpS T L f k t = t := by
  cases k with
  | zero => rfl
  | succ k => exact if_neg h
theorem encM_0 {I : IM} : encM I (0, -1, []) (I 3) = upA (upA (upA I 1 (up1 (I 1) 2 0)) 1 (up1 (upA I 1 (up1 (I 1) 2 0) 1) 3 (-1))) 1 (up1 (upA (upA I 1 (up1 (I 1) 2 0)) 1 (up1 (upA I 1 (up1 (I 1) 2 0) 1) 3 (-1)) 1) 5 0) := by
  unfold encM
  rw [upA_id, upA_upA, upA_upA]
  rfl
def rdA (I : IM) (s : PS) (A : IM) : Prop := (∀ a, a ≠ 1 → a ≠ 3 → a ≠ 4 → A a = I a) ∧ A 1 0 = 0 ∧ (s.2.1 < 0 → A 1 7 = s.2.2.length ∧ DOK (A 4) s.2.2) ∧ (0 ≤ s.2.1 → A 1 7 = I 1 7 ∧ A 4 = I 4)
theorem rdA_ok {I : IM} {s : PS} {D : Nat → Int} (hd : DOK D s.2.2) (hf : s.2.1 < 0) (hl : s.2.2.length ≤ 121) : rdA I s (upA (upA (upA (encM I s D) 4 (va_cpy D (I 4) 0 0 s.2.2.length)) 1 (up1 (encM I s D 1) 7 (s.2.2.length : Int))) 1 (up1 (up1 (encM I s D 1) 7 (s.2.2.length : Int)) 0 0)) := by
  refine ⟨fun a h1 h3 h4 => ?_, rfl, fun _ => ⟨rfl, fun i hi => ?_⟩, fun q => absurd hf (by omega)⟩
  · simp [upA, encM, h1, h3, h4]
  · show va_cpy D (I 4) 0 0 s.2.2.length i = _
    unfold va_cpy
    rw [if_pos (by omega)]
    simpa using hd i hi
theorem rdA_no {I : IM} {s : PS} {D : Nat → Int} (hf : 0 ≤ s.2.1) : rdA I s (upA (encM I s D) 1 (up1 (encM I s D 1) 0 0)) := by
  refine ⟨fun a h1 h3 h4 => ?_, rfl, fun q => absurd hf (by omega), fun _ => ⟨rfl, rfl⟩⟩
  simp [upA, encM, h1, h3]
set_option maxRecDepth 20000 in
set_option maxHeartbeats 400000 in
theorem c_X4_read46 {X : pX} {I J : IM} {L h : Nat} (hL : I 1 0 = L ∧ L ≤ 120) (t : PS) (D : Nat → Int) (h1 : t.1 ≤ L) (h2 : -1 ≤ t.2.1 ∧ t.2.1 ≤ 120) (h3 : DOK D t.2.2) (h4 : t.2.2.length ≤ 121) : Rz X (h + 52) mX4_read 46 [some (.ref 1), none] [] (encM I t D) J (fun r A B => ∃ z, r = some (zi z) ∧ (z = (flL L t).2.1 ∧ rdA I (flL L t) A) ∧ J = B) := by
  refine rz_aload_n dX4_read_46 rfl ?_
  refine rz_getI (z := (t.1 : Int)) dX4_read_47 kf_RX4_29 hd_1 rfl (rfl) ?_
  refine rz_aload_n dX4_read_50 rfl ?_
  refine rz_getI (z := (L : Int)) dX4_read_51 kf_RX4_22 hd_1 rfl (hL.1) ?_
  refine rz_icmp_ge (t := 61) dX4_read_54 rfl (by omega) (by omega) (fun c54 => ?_) (fun c54 => ?_)
  · have hfl : flL L t = t := if_neg (show ¬ t.1 < L by omega)
    have hdd : DOK D t.2.2 := h3
    refine rz_aload_n dX4_read_61 rfl ?_
    refine rz_getI (z := t.2.1) dX4_read_62 kf_RX4_32 hd_1 rfl (rfl) ?_
    refine rz_if_ge (t := 93) dX4_read_65 rfl (by omega) (fun c65 => ?_) (fun c65 => ?_)
    · refine rz_aload_n dX4_read_93 rfl ?_
      refine rz_iconst dX4_read_94 ?_
      refine rz_putI dX4_read_95 kp_RX4_22 hd_1 rfl ?_
      refine rz_aload_n dX4_read_98 rfl ?_
      refine rz_getI (z := t.2.1) dX4_read_99 kf_RX4_32 hd_1 rfl (rfl) ?_
      refine rz_iret dX4_read_102 rfl ?_
      exact ⟨_, rfl, ⟨by rw [hfl], by rw [hfl]; exact rdA_no c65⟩, rfl⟩
    · refine rz_aload_n dX4_read_68 rfl ?_
      refine rz_getR dX4_read_69 kf_RX4_13 hd_1 rfl rr_1_4 ?_
      refine rz_iconst dX4_read_72 ?_
      refine rz_aload_n dX4_read_73 rfl ?_
      refine rz_getR dX4_read_74 kf_RX4_16 hd_1 rfl rr_1_6 ?_
      refine rz_iconst dX4_read_77 ?_
      refine rz_aload_n dX4_read_78 rfl ?_
      refine rz_getI (z := (t.2.2.length : Int)) dX4_read_79 kf_RX4_35 hd_1 rfl (rfl) ?_
      refine rz_copyi dX4_read_82 kl_RX4_48 hd_3 hd_4 (by decide) (Nat.le_of_ble_eq_true rfl) (by omega) ?_
      refine rz_aload_n dX4_read_85 rfl ?_
      refine rz_aload_n dX4_read_86 rfl ?_
      refine rz_getI (z := (t.2.2.length : Int)) dX4_read_87 kf_RX4_35 hd_1 rfl (rfl) ?_
      refine rz_putI dX4_read_90 kp_RX4_26 hd_1 rfl ?_
      refine rz_aload_n dX4_read_93 rfl ?_
      refine rz_iconst dX4_read_94 ?_
      refine rz_putI dX4_read_95 kp_RX4_22 hd_1 rfl ?_
      refine rz_aload_n dX4_read_98 rfl ?_
      refine rz_getI (z := t.2.1) dX4_read_99 kf_RX4_32 hd_1 rfl (rfl) ?_
      refine rz_iret dX4_read_102 rfl ?_
      exact ⟨_, rfl, ⟨by rw [hfl], by rw [hfl]; exact rdA_ok hdd c65 (by omega)⟩, rfl⟩
  · refine rz_aload_n dX4_read_57 rfl ?_
    refine rz_cVV dX4_read_58 kl_RX4_45 hd_1 ⟨_, _, rfl⟩ (c_X4_fail X _ I J L hL t D (by first | assumption | omega)) rfl rfl (Nat.le_of_ble_eq_true rfl) (Nat.le_of_ble_eq_true rfl) ?_
    have hfl : flL L t = flS t := if_pos (show t.1 < L by omega)
    have hdd : DOK D (flS t).2.2 := by unfold flS; split <;> exact h3
    have hll : (flS t).2.2.length ≤ 121 := by unfold flS; split <;> exact h4
    have hff : -1 ≤ (flS t).2.1 ∧ (flS t).2.1 ≤ 120 := by unfold flS; split; exact ⟨by show (-1 : Int) ≤ (t.1 : Int); omega, by show (t.1 : Int) ≤ 120; omega⟩; exact h2
    refine rz_aload_n dX4_read_61 rfl ?_
    refine rz_getI (z := (flS t).2.1) dX4_read_62 kf_RX4_32 hd_1 rfl (rfl) ?_
    refine rz_if_ge (t := 93) dX4_read_65 rfl (by omega) (fun c65 => ?_) (fun c65 => ?_)
    · refine rz_aload_n dX4_read_93 rfl ?_
      refine rz_iconst dX4_read_94 ?_
      refine rz_putI dX4_read_95 kp_RX4_22 hd_1 rfl ?_
      refine rz_aload_n dX4_read_98 rfl ?_
      refine rz_getI (z := (flS t).2.1) dX4_read_99 kf_RX4_32 hd_1 rfl (rfl) ?_
      refine rz_iret dX4_read_102 rfl ?_
      exact ⟨_, rfl, ⟨by rw [hfl], by rw [hfl]; exact rdA_no c65⟩, rfl⟩
    · refine rz_aload_n dX4_read_68 rfl ?_
      refine rz_getR dX4_read_69 kf_RX4_13 hd_1 rfl rr_1_4 ?_
      refine rz_iconst dX4_read_72 ?_
      refine rz_aload_n dX4_read_73 rfl ?_
      refine rz_getR dX4_read_74 kf_RX4_16 hd_1 rfl rr_1_6 ?_
      refine rz_iconst dX4_read_77 ?_
      refine rz_aload_n dX4_read_78 rfl ?_
      refine rz_getI (z := ((flS t).2.2.length : Int)) dX4_read_79 kf_RX4_35 hd_1 rfl (rfl) ?_
      refine rz_copyi dX4_read_82 kl_RX4_48 hd_3 hd_4 (by decide) (Nat.le_of_ble_eq_true rfl) (by omega) ?_
      refine rz_aload_n dX4_read_85 rfl ?_
      refine rz_aload_n dX4_read_86 rfl ?_
      refine rz_getI (z := ((flS t).2.2.length : Int)) dX4_read_87 kf_RX4_35 hd_1 rfl (rfl) ?_
      refine rz_putI dX4_read_90 kp_RX4_26 hd_1 rfl ?_
      refine rz_aload_n dX4_read_93 rfl ?_
      refine rz_iconst dX4_read_94 ?_
      refine rz_putI dX4_read_95 kp_RX4_22 hd_1 rfl ?_
      refine rz_aload_n dX4_read_98 rfl ?_
      refine rz_getI (z := (flS t).2.1) dX4_read_99 kf_RX4_32 hd_1 rfl (rfl) ?_
      refine rz_iret dX4_read_102 rfl ?_
      exact ⟨_, rfl, ⟨by rw [hfl], by rw [hfl]; exact rdA_ok hdd c65 (by omega)⟩, rfl⟩
set_option maxRecDepth 20000 in
set_option maxHeartbeats 400000 in
theorem c_X4_read {X : pX} {I J : IM} {L h : Nat} (hL : I 1 0 = L ∧ L ≤ 120) (hT : ∀ k : Nat, 0 ≤ I 2 k ∧ I 2 k ≤ 255) : KIq X (h + 52) mX4_read [.ref 1] I J (fun z A B => (z = (rdS (I 2) L).2.1 ∧ rdA I (rdS (I 2) L) A) ∧ J = B) := by
  show Rz X (h + 52) mX4_read 0 [some (.ref 1), none] [] I J _
  have hei := c_ei (X := X) hL hT
  have hg := ei_gd (T := I 2) (op_gd (T := I 2) (L := L) 6)
  refine rz_aload_n dX4_read_0 rfl ?_
  refine rz_iconst dX4_read_1 ?_
  refine rz_putI dX4_read_2 kp_RX4_29 hd_1 rfl ?_
  refine rz_aload_n dX4_read_5 rfl ?_
  refine rz_iconst dX4_read_6 ?_
  refine rz_putI dX4_read_7 kp_RX4_32 hd_1 rfl ?_
  refine rz_aload_n dX4_read_10 rfl ?_
  refine rz_iconst dX4_read_11 ?_
  refine rz_putI dX4_read_12 kp_RX4_35 hd_1 rfl ?_
  refine rz_mem (I' := (encM I (0, -1, []) (I 3))) (J' := J) (encM_0) (rfl) ?_
  have b1 : ((0, -1, []) : PS).1 ≤ L := Nat.zero_le _
  have b2 : -1 ≤ ((0, -1, []) : PS).2.1 ∧ ((0, -1, []) : PS).2.1 ≤ 120 := by decide
  have b3 : DOK (I 3) ((0, -1, []) : PS).2.2 := fun i hi => absurd hi (Nat.not_lt_zero i)
  have b4 : ((0, -1, []) : PS).2.2.length ≤ ((0, -1, []) : PS).1 := Nat.le_refl 0
  obtain ⟨p1, p2, p3, p4, p5⟩ := ln_gd hg (0, -1, []) b1
  have p6 : -1 ≤ ((lnS (I 2) L (eiS (I 2) L (opS (I 2) L 6))) (0, -1, [])).2.1 ∧ ((lnS (I 2) L (eiS (I 2) L (opS (I 2) L 6))) (0, -1, [])).2.1 ≤ 120 := (p4 (by decide)).elim (fun e => by rw [e]; decide) (fun e => by omega)
  have p7 : ((lnS (I 2) L (eiS (I 2) L (opS (I 2) L 6))) (0, -1, [])).2.2.length ≤ ((lnS (I 2) L (eiS (I 2) L (opS (I 2) L 6))) (0, -1, [])).1 + 1 := by have q : ((lnS (I 2) L (eiS (I 2) L (opS (I 2) L 6))) (0, -1, [])).2.2.length + 0 ≤ ((lnS (I 2) L (eiS (I 2) L (opS (I 2) L 6))) (0, -1, [])).1 + 0 + 1 := p3; omega
  refine rz_aload_n dX4_read_15 rfl ?_
  refine rz_cVVq dX4_read_16 kl_RX4_38 hd_1 ⟨_, _, rfl⟩ (c_X4_readLine (H := 49) hL hT hg hei h J (0, -1, []) (I 3) (by first | assumption | omega) (by first | assumption | omega) (by first | assumption | omega) (by first | assumption | omega)) rfl rfl (Nat.le_of_ble_eq_true rfl) (Nat.le_of_ble_eq_true rfl) ?_
  rintro _ _ ⟨⟨D16, rfl, k16⟩, rfl⟩
  refine rz_iconst dX4_read_19 ?_
  refine rz_istore_n dX4_read_20 (by decide) rfl ?_
  refine rz_upx (σ := PS × (Nat → Int)) (Inv := fun q sq => sq.1.1 ≤ L ∧ (-1 ≤ sq.1.2.1 ∧ sq.1.2.1 ≤ 120) ∧ DOK sq.2 sq.1.2.2 ∧ sq.1.2.2.length ≤ sq.1.1 + 1 ∧ lpS (I 2) L (lnS (I 2) L (eiS (I 2) L (opS (I 2) L 6))) (120 - q) sq.1 = lpS (I 2) L (lnS (I 2) L (eiS (I 2) L (opS (I 2) L 6))) 120 ((lnS (I 2) L (eiS (I 2) L (opS (I 2) L 6))) (0, -1, []))) (ls := fun (q : Nat) sq => [some (.ref 1), some (zi (q : Int))]) (IV := fun (q : Nat) sq => (encM I sq.1 sq.2)) (JV := fun (q : Nat) sq => J) (120) (((lnS (I 2) L (eiS (I 2) L (opS (I 2) L 6))) (0, -1, []), D16)) ⟨p1, p6, k16, p7, rfl⟩ ⟨Or.inr rfl, Or.inr rfl, trivial⟩ (rfl) (rfl) ?_ ?_
  · intro q sq hq qq ihq
    obtain ⟨t, D⟩ := sq
    obtain ⟨h1, h2, h3, h4, h5⟩ : t.1 ≤ L ∧ (-1 ≤ t.2.1 ∧ t.2.1 ≤ 120) ∧ DOK D t.2.2 ∧ t.2.2.length ≤ t.1 + 1 ∧ lpS (I 2) L (lnS (I 2) L (eiS (I 2) L (opS (I 2) L 6))) (120 - q) t = lpS (I 2) L (lnS (I 2) L (eiS (I 2) L (opS (I 2) L 6))) 120 ((lnS (I 2) L (eiS (I 2) L (opS (I 2) L 6))) (0, -1, [])) := qq
    have hr := nxS_rg (L := L) (s := t) hT
    refine rz_to (ls' := [some (.ref 1), some (zi (q : Int))]) (I' := (encM I t D)) (J' := J) ⟨Or.inr rfl, Or.inr rfl, trivial⟩ rfl rfl ?_
    refine rz_iload_n dX4_read_21 rfl ?_
    refine rz_bipush dX4_read_22 (by decide) ?_
    refine rz_icmp_ge (t := 46) dX4_read_24 rfl (by omega) (by omega) (fun c24 => ?_) (fun c24 => ?_)
    · exfalso; omega
    · refine rz_aload_n dX4_read_27 rfl ?_
      refine rz_bipush dX4_read_28 (by decide) ?_
      refine rz_cVIq dX4_read_30 kl_RX4_41 hd_1 ⟨_, _, rfl⟩ (c_X4_takes X _ I J L hL t D 59 (by omega) (by first | assumption | omega) (by first | assumption | omega) hT) rfl rfl (Nat.le_of_ble_eq_true rfl) (Nat.le_of_ble_eq_true rfl) ?_
      rintro z30 A30 _ ⟨⟨rfl, b30, rfl⟩ | ⟨rfl, b30, rfl⟩, rfl⟩
      · refine rz_if_eq (t := 46) dX4_read_33 rfl (by omega) (fun q => absurd q (by decide)) (fun _ => ?_)
        have j1 := nxS_ne (T := I 2) (L := L) (s := t) (by omega)
        have a1 : (adS t).1 ≤ L := show t.1 + 1 ≤ L by omega
        have a2 : -1 ≤ (adS t).2.1 ∧ (adS t).2.1 ≤ 120 := h2
        have a3 : DOK D (adS t).2.2 := h3
        have a4 : (adS t).2.2.length ≤ (adS t).1 := h4
        obtain ⟨g1, g2, g3, g4, g5⟩ := ln_gd (T := I 2) hg (adS t) a1
        have a5 : -1 ≤ ((lnS (I 2) L (eiS (I 2) L (opS (I 2) L 6))) (adS t)).2.1 ∧ ((lnS (I 2) L (eiS (I 2) L (opS (I 2) L 6))) (adS t)).2.1 ≤ 120 := (g4 j1.1).elim (fun e => by rw [e]; exact h2) (fun e => by omega)
        have a6 : ((lnS (I 2) L (eiS (I 2) L (opS (I 2) L 6))) (adS t)).2.2.length ≤ ((lnS (I 2) L (eiS (I 2) L (opS (I 2) L 6))) (adS t)).1 + 1 := by have q : ((lnS (I 2) L (eiS (I 2) L (opS (I 2) L 6))) (adS t)).2.2.length + (t.1 + 1) ≤ ((lnS (I 2) L (eiS (I 2) L (opS (I 2) L 6))) (adS t)).1 + t.2.2.length + 1 := g3; omega
        refine rz_aload_n dX4_read_36 rfl ?_
        refine rz_cVVq dX4_read_37 kl_RX4_38 hd_1 ⟨_, _, rfl⟩ (c_X4_readLine (H := 49) hL hT hg hei h J (adS t) D (by first | assumption | omega) (by first | assumption | omega) (by first | assumption | omega) (by first | assumption | omega)) rfl rfl (Nat.le_of_ble_eq_true rfl) (Nat.le_of_ble_eq_true rfl) ?_
        rintro _ _ ⟨⟨D37, rfl, k37⟩, rfl⟩
        refine rz_iinc dX4_read_40 (by decide) rfl rfl rfl ?_
        refine rz_goto (t := 21) dX4_read_43 rfl ?_
        exact rz_bk (ihq (((lnS (I 2) L (eiS (I 2) L (opS (I 2) L 6))) (adS t), D37)) (⟨g1, a5, k37, a6, by rw [← h5]; exact (lp_yes hq b30).symm⟩)) ⟨Or.inr rfl, Or.inr rfl, trivial⟩ (rfl) (rfl)
      · refine rz_if_eq (t := 46) dX4_read_33 rfl (by omega) (fun _ => ?_) (fun q => absurd q (by decide))
        have hz2 : t = lpS (I 2) L (lnS (I 2) L (eiS (I 2) L (opS (I 2) L 6))) 120 ((lnS (I 2) L (eiS (I 2) L (opS (I 2) L 6))) (0, -1, [])) := by first | exact hz | (rw [← h5]; exact (lp_no b30).symm)
        refine rz_to (ls' := [some (.ref 1), none]) (I' := encM I t D) (J' := J) ⟨Or.inr rfl, Or.inl rfl, trivial⟩ rfl rfl ?_
        refine Rz.mono (c_X4_read46 hL t D h1 h2 h3 (by omega)) ?_
        rw [hz2]
        exact fun _ _ _ q => q
  · intro sq qq
    obtain ⟨t, D⟩ := sq
    obtain ⟨h1, h2, h3, h4, h5⟩ : t.1 ≤ L ∧ (-1 ≤ t.2.1 ∧ t.2.1 ≤ 120) ∧ DOK D t.2.2 ∧ t.2.2.length ≤ t.1 + 1 ∧ lpS (I 2) L (lnS (I 2) L (eiS (I 2) L (opS (I 2) L 6))) (120 - 120) t = lpS (I 2) L (lnS (I 2) L (eiS (I 2) L (opS (I 2) L 6))) 120 ((lnS (I 2) L (eiS (I 2) L (opS (I 2) L 6))) (0, -1, [])) := qq
    have hz : t = lpS (I 2) L (lnS (I 2) L (eiS (I 2) L (opS (I 2) L 6))) 120 ((lnS (I 2) L (eiS (I 2) L (opS (I 2) L 6))) (0, -1, [])) := h5
    refine rz_iload_n dX4_read_21 rfl ?_
    refine rz_bipush dX4_read_22 (by decide) ?_
    refine rz_icmp_ge (t := 46) dX4_read_24 rfl (by omega) (by omega) (fun c24 => ?_) (fun c24 => ?_)
    · have hz2 : t = lpS (I 2) L (lnS (I 2) L (eiS (I 2) L (opS (I 2) L 6))) 120 ((lnS (I 2) L (eiS (I 2) L (opS (I 2) L 6))) (0, -1, [])) := by first | exact hz | (rw [← h5]; exact (lp_no b30).symm)
      refine rz_to (ls' := [some (.ref 1), none]) (I' := encM I t D) (J' := J) ⟨Or.inr rfl, Or.inl rfl, trivial⟩ rfl rfl ?_
      refine Rz.mono (c_X4_read46 hL t D h1 h2 h3 (by omega)) ?_
      rw [hz2]
      exact fun _ _ _ q => q
    · exfalso; omega
