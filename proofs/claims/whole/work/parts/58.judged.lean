/-! who has a village -/
def sgnZ (x : Int) : Int := if 0 < x then 1 else if x < 0 then -1 else 0
theorem sgn_p {x : Int} (h : 0 < x) : sgnZ x = 1 := if_pos h
theorem sgn_n {x : Int} (h : x < 0) : sgnZ x = -1 := by unfold sgnZ; rw [if_neg (by omega), if_pos h]
theorem sgn_0 {x : Int} (h : x = 0) : sgnZ x = 0 := by subst h; rfl
abbrev Lw : Type := Option (List (List Int × List Int))
def hasV (lw : Lw) (w t u v a b : Int) : Int := match lw with
  | none => cusZ t u a b
  | some pg => sgnZ (giv (faV a b w t v) pg)
def LawI (I : IM) (lw : Lw) : Prop := match lw with
  | none => I 1 7 = 0 ∧ I 81 29 = 0
  | some pg => PgOK pg ∧ I 81 29 = 1 ∧ (I 1 7 = ((codeC pg).length : Int) ∧ (codeC pg).length ≤ 121 ∧ 0 < (codeC pg).length ∧ At (I 4) 0 (codeC pg)) ∧ LawR I pg ∧ (codeR pg).length ≤ 121 ∧ pg.length ≤ 61
theorem LawI_told {I : IM} {lw : Lw} (h : LawI I lw) : 0 ≤ I 1 7 ∧ I 1 7 ≤ 121 := by
  cases lw with
  | none => have := h.1; omega
  | some pg => have := h.2.2.1; omega
theorem hasV_c {lw : Lw} {w t u v a b : Int} : hasV lw w t u v a b = 1 ∨ hasV lw w t u v a b = -1 ∨ hasV lw w t u v a b = 0 := by
  cases lw with
  | none => show cusZ t u a b = 1 ∨ cusZ t u a b = -1 ∨ cusZ t u a b = 0
            unfold cusZ
            repeat' split
            all_goals simp
  | some pg => show sgnZ _ = 1 ∨ sgnZ _ = -1 ∨ sgnZ _ = 0
               unfold sgnZ
               repeat' split
               all_goals simp
/-- the class's scratch, the reference's -/
def scr (I : IM) (n : Int) (F : Nat → Int) : IM := upA (upA I 5 F) 1 (up1 (I 1) 9 n)
def scrR (I : IM) (F G : Nat → Int) : IM := upA (upA I 100 F) 101 G
theorem up1_id {β : Type} {f : Nat → β} {k : Nat} : up1 f k (f k) = f := by
  funext j
  unfold up1
  split
  · rename_i h; rw [h]
  · rfl
theorem scr_id {I : IM} : scr I (I 1 9) (I 5) = I := by unfold scr; rw [upA_id, up1_id, upA_id]
theorem scrR_id {I : IM} : scrR I (I 100) (I 101) = I := by unfold scrR; rw [upA_id, upA_id]
theorem scr_scr {I : IM} {n m : Int} {F G : Nat → Int} : scr (scr I n F) m G = scr I m G := by
  funext d
  by_cases h1 : d = 1
  · subst h1
    funext j
    show up1 (up1 (I 1) 9 n) 9 m j = up1 (I 1) 9 m j
    unfold up1
    split <;> rfl
  · by_cases h5 : d = 5
    · subst h5; rfl
    · simp [scr, upA, h1, h5]
theorem scrR_scrR {I : IM} {F G F2 G2 : Nat → Int} : scrR (scrR I F G) F2 G2 = scrR I F2 G2 := by
  funext d
  by_cases h1 : d = 101
  · subst h1; rfl
  · by_cases h5 : d = 100
    · subst h5; rfl
    · simp [scrR, upA, h1, h5]
def facM (I : IM) (a b w t v : Int) : IM := upA I 100 (up1 (up1 (up1 (up1 (up1 (I 100) 0 a) 1 b) 2 w) 3 t) 4 v)
theorem facM_eq {I : IM} {a b w t v : Int} : encP (facM I a b w t v) (I 101) = upA (upA (upA (upA (upA I 100 (up1 (I 100) 0 a)) 100 (up1 (upA I 100 (up1 (I 100) 0 a) 100) 1 b)) 100 (up1 (upA (upA I 100 (up1 (I 100) 0 a)) 100 (up1 (upA I 100 (up1 (I 100) 0 a) 100) 1 b) 100) 2 w)) 100 (up1 (upA (upA (upA I 100 (up1 (I 100) 0 a)) 100 (up1 (upA I 100 (up1 (I 100) 0 a) 100) 1 b)) 100 (up1 (upA (upA I 100 (up1 (I 100) 0 a)) 100 (up1 (upA I 100 (up1 (I 100) 0 a) 100) 1 b) 100) 2 w) 100) 3 t)) 100 (up1 (up1 (up1 (up1 (up1 (I 100) 0 a) 1 b) 2 w) 3 t) 4 v) := by
  rw [upA_upA, upA_upA, upA_upA, upA_upA]
  have : encP (facM I a b w t v) (facM I a b w t v 101) = facM I a b w t v := upA_id
  exact this
theorem facM_ok {I : IM} {a b w t v : Int} : FacR (facM I a b w t v) a b w t v := ⟨rfl, rfl, rfl, rfl, rfl⟩
theorem fac_scr {I : IM} {a b w t v : Int} {F : Nat → Int} : encP (facM I a b w t v) F = scrR I (up1 (up1 (up1 (up1 (up1 (I 100) 0 a) 1 b) 2 w) 3 t) 4 v) F := rfl
set_option maxRecDepth 20000 in
set_option maxHeartbeats 400000 in
theorem hasBy_n {X : pX} {I J : IM} {h : Nat} (lw : Lw) (hn : lw = none) (v : Nat) (a b : Int) (hv : v < 5) (ha : rg a) (hb : rg b) (hw : rg (I 82 v)) (ht : rg (I 83 v)) (hu : rg (I 84 v)) (h0 : LawI I none) : KIq X (h + 3) mX12_hasBy [.ref 81, zi (v : Int), zi a, zi b] I J (fun z A B => z = hasV lw (I 82 v) (I 83 v) (I 84 v) v a b ∧ (∃ F G, A = scrR I F G) ∧ J = B) := by
  subst hn
  show Rz X (h + 3) mX12_hasBy 0 [some (.ref 81), some (zi (v : Int)), some (zi a), some (zi b), none] [] I J _
  refine rz_aload_n dX12_hasBy_0 rfl ?_
  refine rz_getI (z := 0) dX12_hasBy_1 kf_RX12_246 hd_81 rfl (h0.2) ?_
  refine rz_if_eq (t := 79) dX12_hasBy_4 rfl (by omega) (fun _ => ?_) (fun q => absurd q (by decide))
  refine rz_iload_n dX12_hasBy_79 rfl ?_
  refine rz_aload_n dX12_hasBy_80 rfl ?_
  refine rz_getR dX12_hasBy_81 kf_RX12_13 hd_81 rfl rr_81_3 ?_
  refine rz_iload_n dX12_hasBy_84 rfl ?_
  refine rz_ialdN (k := v) (z := (I 83 v)) dX12_hasBy_85 hd_83 (by decide) (by omega) (by omega) rfl ?_
  refine rz_icmp_ge (t := 101) dX12_hasBy_86 rfl (by omega) (by omega) (fun c86 => ?_) (fun c86 => ?_)
  · refine rz_iload_n dX12_hasBy_101 rfl ?_
    refine rz_iload_n dX12_hasBy_102 rfl ?_
    refine rz_icmp_eq (t := 117) dX12_hasBy_103 rfl (by omega) (by omega) (fun c103 => ?_) (fun c103 => ?_)
    · refine rz_aload_n dX12_hasBy_117 rfl ?_
      refine rz_getR dX12_hasBy_118 kf_RX12_16 hd_81 rfl rr_81_4 ?_
      refine rz_iload_n dX12_hasBy_121 rfl ?_
      refine rz_ialdN (k := v) (z := (I 84 v)) dX12_hasBy_122 hd_84 (by decide) (by omega) (by omega) rfl ?_
      refine rz_if_ne (t := 130) dX12_hasBy_123 rfl (by omega) (fun c123 => ?_) (fun c123 => ?_)
      · refine rz_aload_n dX12_hasBy_130 rfl ?_
        refine rz_getR dX12_hasBy_131 kf_RX12_16 hd_81 rfl rr_81_4 ?_
        refine rz_iload_n dX12_hasBy_134 rfl ?_
        refine rz_ialdN (k := v) (z := (I 84 v)) dX12_hasBy_135 hd_84 (by decide) (by omega) (by omega) rfl ?_
        refine rz_iconst dX12_hasBy_136 ?_
        refine rz_icmp_ne (t := 144) dX12_hasBy_137 rfl (by omega) (by omega) (fun c137 => ?_) (fun c137 => ?_)
        · refine rz_iconst dX12_hasBy_144 ?_
          refine rz_iret dX12_hasBy_145 rfl ?_
          exact ⟨_, rfl, by show _ = cusZ _ _ a b; unfold cusZ; (repeat' split) <;> first | rfl | omega, ⟨_, _, scrR_id.symm⟩, rfl⟩
        · refine rz_iconst dX12_hasBy_140 ?_
          refine rz_goto (t := 145) dX12_hasBy_141 rfl ?_
          refine rz_iret dX12_hasBy_145 rfl ?_
          exact ⟨_, rfl, by show _ = cusZ _ _ a b; unfold cusZ; (repeat' split) <;> first | rfl | omega, ⟨_, _, scrR_id.symm⟩, rfl⟩
      · refine rz_iconst dX12_hasBy_126 ?_
        refine rz_goto (t := 145) dX12_hasBy_127 rfl ?_
        refine rz_iret dX12_hasBy_145 rfl ?_
        exact ⟨_, rfl, by show _ = cusZ _ _ a b; unfold cusZ; (repeat' split) <;> first | rfl | omega, ⟨_, _, scrR_id.symm⟩, rfl⟩
    · refine rz_iload_n dX12_hasBy_106 rfl ?_
      refine rz_iload_n dX12_hasBy_107 rfl ?_
      refine rz_icmp_le (t := 115) dX12_hasBy_108 rfl (by omega) (by omega) (fun c108 => ?_) (fun c108 => ?_)
      · refine rz_iconst dX12_hasBy_115 ?_
        refine rz_iret dX12_hasBy_116 rfl ?_
        exact ⟨_, rfl, by show _ = cusZ _ _ a b; unfold cusZ; (repeat' split) <;> first | rfl | omega, ⟨_, _, scrR_id.symm⟩, rfl⟩
      · refine rz_iconst dX12_hasBy_111 ?_
        refine rz_goto (t := 116) dX12_hasBy_112 rfl ?_
        refine rz_iret dX12_hasBy_116 rfl ?_
        exact ⟨_, rfl, by show _ = cusZ _ _ a b; unfold cusZ; (repeat' split) <;> first | rfl | omega, ⟨_, _, scrR_id.symm⟩, rfl⟩
  · refine rz_iload_n dX12_hasBy_89 rfl ?_
    refine rz_aload_n dX12_hasBy_90 rfl ?_
    refine rz_getR dX12_hasBy_91 kf_RX12_13 hd_81 rfl rr_81_3 ?_
    refine rz_iload_n dX12_hasBy_94 rfl ?_
    refine rz_ialdN (k := v) (z := (I 83 v)) dX12_hasBy_95 hd_83 (by decide) (by omega) (by omega) rfl ?_
    refine rz_icmp_ge (t := 101) dX12_hasBy_96 rfl (by omega) (by omega) (fun c96 => ?_) (fun c96 => ?_)
    · refine rz_iload_n dX12_hasBy_101 rfl ?_
      refine rz_iload_n dX12_hasBy_102 rfl ?_
      refine rz_icmp_eq (t := 117) dX12_hasBy_103 rfl (by omega) (by omega) (fun c103 => ?_) (fun c103 => ?_)
      · refine rz_aload_n dX12_hasBy_117 rfl ?_
        refine rz_getR dX12_hasBy_118 kf_RX12_16 hd_81 rfl rr_81_4 ?_
        refine rz_iload_n dX12_hasBy_121 rfl ?_
        refine rz_ialdN (k := v) (z := (I 84 v)) dX12_hasBy_122 hd_84 (by decide) (by omega) (by omega) rfl ?_
        refine rz_if_ne (t := 130) dX12_hasBy_123 rfl (by omega) (fun c123 => ?_) (fun c123 => ?_)
        · refine rz_aload_n dX12_hasBy_130 rfl ?_
          refine rz_getR dX12_hasBy_131 kf_RX12_16 hd_81 rfl rr_81_4 ?_
          refine rz_iload_n dX12_hasBy_134 rfl ?_
          refine rz_ialdN (k := v) (z := (I 84 v)) dX12_hasBy_135 hd_84 (by decide) (by omega) (by omega) rfl ?_
          refine rz_iconst dX12_hasBy_136 ?_
          refine rz_icmp_ne (t := 144) dX12_hasBy_137 rfl (by omega) (by omega) (fun c137 => ?_) (fun c137 => ?_)
          · refine rz_iconst dX12_hasBy_144 ?_
            refine rz_iret dX12_hasBy_145 rfl ?_
            exact ⟨_, rfl, by show _ = cusZ _ _ a b; unfold cusZ; (repeat' split) <;> first | rfl | omega, ⟨_, _, scrR_id.symm⟩, rfl⟩
          · refine rz_iconst dX12_hasBy_140 ?_
            refine rz_goto (t := 145) dX12_hasBy_141 rfl ?_
            refine rz_iret dX12_hasBy_145 rfl ?_
            exact ⟨_, rfl, by show _ = cusZ _ _ a b; unfold cusZ; (repeat' split) <;> first | rfl | omega, ⟨_, _, scrR_id.symm⟩, rfl⟩
        · refine rz_iconst dX12_hasBy_126 ?_
          refine rz_goto (t := 145) dX12_hasBy_127 rfl ?_
          refine rz_iret dX12_hasBy_145 rfl ?_
          exact ⟨_, rfl, by show _ = cusZ _ _ a b; unfold cusZ; (repeat' split) <;> first | rfl | omega, ⟨_, _, scrR_id.symm⟩, rfl⟩
      · refine rz_iload_n dX12_hasBy_106 rfl ?_
        refine rz_iload_n dX12_hasBy_107 rfl ?_
        refine rz_icmp_le (t := 115) dX12_hasBy_108 rfl (by omega) (by omega) (fun c108 => ?_) (fun c108 => ?_)
        · refine rz_iconst dX12_hasBy_115 ?_
          refine rz_iret dX12_hasBy_116 rfl ?_
          exact ⟨_, rfl, by show _ = cusZ _ _ a b; unfold cusZ; (repeat' split) <;> first | rfl | omega, ⟨_, _, scrR_id.symm⟩, rfl⟩
        · refine rz_iconst dX12_hasBy_111 ?_
          refine rz_goto (t := 116) dX12_hasBy_112 rfl ?_
          refine rz_iret dX12_hasBy_116 rfl ?_
          exact ⟨_, rfl, by show _ = cusZ _ _ a b; unfold cusZ; (repeat' split) <;> first | rfl | omega, ⟨_, _, scrR_id.symm⟩, rfl⟩
    · refine rz_iconst dX12_hasBy_99 ?_
      refine rz_iret dX12_hasBy_100 rfl ?_
      exact ⟨_, rfl, by show _ = cusZ _ _ a b; unfold cusZ; (repeat' split) <;> first | rfl | omega, ⟨_, _, scrR_id.symm⟩, rfl⟩
set_option maxRecDepth 20000 in
set_option maxHeartbeats 400000 in
theorem hasBy_s {X : pX} {I J : IM} {h : Nat} (lw : Lw) (pg : List (List Int × List Int)) (hn : lw = some pg) (v : Nat) (a b : Int) (hv : v < 5) (ha : rg a) (hb : rg b) (hw : rg (I 82 v)) (ht : rg (I 83 v)) (hu : rg (I 84 v)) (h0 : LawI I (some pg)) : KIq X (h + 3) mX12_hasBy [.ref 81, zi (v : Int), zi a, zi b] I J (fun z A B => z = hasV lw (I 82 v) (I 83 v) (I 84 v) v a b ∧ (∃ F G, A = scrR I F G) ∧ J = B) := by
  subst hn
  show Rz X (h + 3) mX12_hasBy 0 [some (.ref 81), some (zi (v : Int)), some (zi a), some (zi b), none] [] I J _
  refine rz_aload_n dX12_hasBy_0 rfl ?_
  refine rz_getI (z := 1) dX12_hasBy_1 kf_RX12_246 hd_81 rfl (h0.2.1) ?_
  refine rz_if_eq (t := 79) dX12_hasBy_4 rfl (by omega) (fun q => absurd q (by decide)) (fun _ => ?_)
  refine rz_aload_n dX12_hasBy_7 rfl ?_
  refine rz_getR dX12_hasBy_8 kf_RX12_66 hd_81 rfl rr_81_27 ?_
  refine rz_iconst dX12_hasBy_11 ?_
  refine rz_iload_n dX12_hasBy_12 rfl ?_
  refine rz_iast dX12_hasBy_13 hd_100 (by decide) (by omega) ?_
  refine rz_aload_n dX12_hasBy_14 rfl ?_
  refine rz_getR dX12_hasBy_15 kf_RX12_66 hd_81 rfl rr_81_27 ?_
  refine rz_iconst dX12_hasBy_18 ?_
  refine rz_iload_n dX12_hasBy_19 rfl ?_
  refine rz_iast dX12_hasBy_20 hd_100 (by decide) (by omega) ?_
  refine rz_aload_n dX12_hasBy_21 rfl ?_
  refine rz_getR dX12_hasBy_22 kf_RX12_66 hd_81 rfl rr_81_27 ?_
  refine rz_iconst dX12_hasBy_25 ?_
  refine rz_aload_n dX12_hasBy_26 rfl ?_
  refine rz_getR dX12_hasBy_27 kf_RX12_7 hd_81 rfl rr_81_2 ?_
  refine rz_iload_n dX12_hasBy_30 rfl ?_
  refine rz_ialdN (k := v) (z := (I 82 v)) dX12_hasBy_31 hd_82 (by decide) (by omega) (by omega) rfl ?_
  refine rz_iast dX12_hasBy_32 hd_100 (by decide) (by omega) ?_
  refine rz_aload_n dX12_hasBy_33 rfl ?_
  refine rz_getR dX12_hasBy_34 kf_RX12_66 hd_81 rfl rr_81_27 ?_
  refine rz_iconst dX12_hasBy_37 ?_
  refine rz_aload_n dX12_hasBy_38 rfl ?_
  refine rz_getR dX12_hasBy_39 kf_RX12_13 hd_81 rfl rr_81_3 ?_
  refine rz_iload_n dX12_hasBy_42 rfl ?_
  refine rz_ialdN (k := v) (z := (I 83 v)) dX12_hasBy_43 hd_83 (by decide) (by omega) (by omega) rfl ?_
  refine rz_iast dX12_hasBy_44 hd_100 (by decide) (by omega) ?_
  refine rz_aload_n dX12_hasBy_45 rfl ?_
  refine rz_getR dX12_hasBy_46 kf_RX12_66 hd_81 rfl rr_81_27 ?_
  refine rz_iconst dX12_hasBy_49 ?_
  refine rz_iload_n dX12_hasBy_50 rfl ?_
  refine rz_iast dX12_hasBy_51 hd_100 (by decide) (by omega) ?_
  refine rz_mem (I' := (encP (facM I a b (I 82 v) (I 83 v) (v : Int)) (I 101))) (J' := J) (facM_eq) (rfl) ?_
  have hfa := faV_rg ha hb hw ht (show rg (v : Int) by omega)
  have hz := giv_rg hfa pg h0.1
  refine rz_aload_n dX12_hasBy_52 rfl ?_
  refine rz_iconst dX12_hasBy_53 ?_
  refine rz_cVIq dX12_hasBy_54 kl_RX12_250 hd_81 ⟨_, _, rfl⟩ (c_X12_gives (I := facM I a b (I 82 v) (I 83 v) (v : Int)) h0.1 h0.2.2.2.1 h0.2.2.2.2.2 h0.2.2.2.2.1 facM_ok hfa) rfl rfl (Nat.le_of_ble_eq_true rfl) (Nat.le_of_ble_eq_true rfl) ?_
  rintro _ _ _ ⟨rfl, ⟨F54, rfl⟩, rfl⟩
  refine rz_istore dX12_hasBy_57 (by decide) rfl ?_
  refine rz_iload dX12_hasBy_59 rfl ?_
  refine rz_if_le (t := 68) dX12_hasBy_61 rfl (by omega) (fun c61 => ?_) (fun c61 => ?_)
  · refine rz_iload dX12_hasBy_68 rfl ?_
    refine rz_if_ge (t := 77) dX12_hasBy_70 rfl (by omega) (fun c70 => ?_) (fun c70 => ?_)
    · refine rz_iconst dX12_hasBy_77 ?_
      refine rz_iret dX12_hasBy_78 rfl ?_
      exact ⟨_, rfl, (sgn_0 (by omega)).symm, ⟨_, _, fac_scr⟩, rfl⟩
    · refine rz_iconst dX12_hasBy_73 ?_
      refine rz_goto (t := 78) dX12_hasBy_74 rfl ?_
      refine rz_iret dX12_hasBy_78 rfl ?_
      exact ⟨_, rfl, (sgn_n (by omega)).symm, ⟨_, _, fac_scr⟩, rfl⟩
  · refine rz_iconst dX12_hasBy_64 ?_
    refine rz_goto (t := 78) dX12_hasBy_65 rfl ?_
    refine rz_iret dX12_hasBy_78 rfl ?_
    exact ⟨_, rfl, (sgn_p (by omega)).symm, ⟨_, _, fac_scr⟩, rfl⟩
theorem c_X12_hasBy {X : pX} {I J : IM} {h : Nat} (lw : Lw) (hlw : LawI I lw) (v : Nat) (a b : Int) (hv : v < 5) (ha : rg a) (hb : rg b) (hw : rg (I 82 v)) (ht : rg (I 83 v)) (hu : rg (I 84 v)) : KIq X (h + 3) mX12_hasBy [.ref 81, zi (v : Int), zi a, zi b] I J (fun z A B => z = hasV lw (I 82 v) (I 83 v) (I 84 v) v a b ∧ (∃ F G, A = scrR I F G) ∧ J = B) := by
  cases lw with
  | none => exact hasBy_n none rfl v a b hv ha hb hw ht hu hlw
  | some pg => exact hasBy_s (some pg) pg rfl v a b hv ha hb hw ht hu hlw
set_option maxRecDepth 20000 in
set_option maxHeartbeats 400000 in
theorem judged_n {X : pX} {I J : IM} {h : Nat} (lw : Lw) (hn : lw = none) (v : Nat) (a b : Int) (hv : v < 5) (ha : rg a) (hb : rg b) (hw : rg (I 7 v)) (ht : rg (I 8 v)) (hu : rg (I 9 v)) (h0 : LawI I none) : KIq X (h + 3) mX8_judged [.ref 6, zi (v : Int), zi a, zi b] I J (fun z A B => z = I 7 v * hasV lw (I 7 v) (I 8 v) (I 9 v) v a b ∧ (∃ n F, A = scr I n F) ∧ J = B) := by
  subst hn
  show Rz X (h + 3) mX8_judged 0 [some (.ref 6), some (zi (v : Int)), some (zi a), some (zi b), none] [] I J _
  refine rz_aload_n dX8_judged_0 rfl ?_
  refine rz_getR dX8_judged_1 kf_RX8_31 hd_6 rfl rr_6_7 ?_
  refine rz_cVIq dX8_judged_4 kl_RX8_54 hd_1 ⟨_, _, rfl⟩ (c_X4_isTold X _ I J (LawI_told h0)) rfl rfl (Nat.le_of_ble_eq_true rfl) (Nat.le_of_ble_eq_true rfl) ?_
  rintro z4 A4 B4 ⟨⟨rfl, b4⟩ | ⟨rfl, b4⟩, rfl, rfl⟩
  · have := h0.1; exfalso; omega
  · refine rz_if_eq (t := 35) dX8_judged_7 rfl (by omega) (fun _ => ?_) (fun q => absurd q (by decide))
    refine rz_aload_n dX8_judged_35 rfl ?_
    refine rz_iload_n dX8_judged_36 rfl ?_
    refine rz_iload_n dX8_judged_37 rfl ?_
    refine rz_iload_n dX8_judged_38 rfl ?_
    refine rz_cVI dX8_judged_39 kl_RX8_64 hd_6 ⟨_, _, rfl⟩ (c_X8_custom X _ I J v a b hv ha hb ht hu) rfl rfl (Nat.le_of_ble_eq_true rfl) (Nat.le_of_ble_eq_true rfl) ?_
    have hc := hasV_c (lw := none) (w := I 7 v) (t := I 8 v) (u := I 9 v) (v := (v : Int)) (a := a) (b := b)
    have hd : hasV none (I 7 v) (I 8 v) (I 9 v) (v : Int) a b = cusZ (I 8 v) (I 9 v) a b := rfl
    rw [hd] at hc
    refine rz_istore dX8_judged_42 (by decide) rfl ?_
    refine rz_iload dX8_judged_44 rfl ?_
    refine rz_if_le (t := 58) dX8_judged_46 rfl (by omega) (fun c46 => ?_) (fun c46 => ?_)
    · refine rz_iload dX8_judged_58 rfl ?_
      refine rz_if_ge (t := 73) dX8_judged_60 rfl (by omega) (fun c60 => ?_) (fun c60 => ?_)
      · refine rz_iconst dX8_judged_73 ?_
        refine rz_iret dX8_judged_74 rfl ?_
        exact ⟨_, rfl, by rw [hd, show cusZ (I 8 v) (I 9 v) a b = 0 by omega]; simp, ⟨_, _, scr_id.symm⟩, rfl⟩
      · refine rz_aload_n dX8_judged_63 rfl ?_
        refine rz_getR dX8_judged_64 kf_RX8_11 hd_6 rfl rr_6_1 ?_
        refine rz_iload_n dX8_judged_67 rfl ?_
        refine rz_ialdN (k := v) (z := (I 7 v)) dX8_judged_68 hd_7 (by decide) (by omega) (by omega) rfl ?_
        refine rz_ineg dX8_judged_69 ?_
        refine rz_goto (t := 74) dX8_judged_70 rfl ?_
        refine rz_iret dX8_judged_74 rfl ?_
        exact ⟨_, rfl, by rw [hd, show cusZ (I 8 v) (I 9 v) a b = -1 by omega]; simp, ⟨_, _, scr_id.symm⟩, rfl⟩
    · refine rz_aload_n dX8_judged_49 rfl ?_
      refine rz_getR dX8_judged_50 kf_RX8_11 hd_6 rfl rr_6_1 ?_
      refine rz_iload_n dX8_judged_53 rfl ?_
      refine rz_ialdN (k := v) (z := (I 7 v)) dX8_judged_54 hd_7 (by decide) (by omega) (by omega) rfl ?_
      refine rz_goto (t := 74) dX8_judged_55 rfl ?_
      refine rz_iret dX8_judged_74 rfl ?_
      exact ⟨_, rfl, by rw [hd, show cusZ (I 8 v) (I 9 v) a b = 1 by omega]; simp, ⟨_, _, scr_id.symm⟩, rfl⟩
set_option maxRecDepth 20000 in
set_option maxHeartbeats 400000 in
theorem judged_s {X : pX} {I J : IM} {h : Nat} (lw : Lw) (pg : List (List Int × List Int)) (hn : lw = some pg) (v : Nat) (a b : Int) (hv : v < 5) (ha : rg a) (hb : rg b) (hw : rg (I 7 v)) (ht : rg (I 8 v)) (hu : rg (I 9 v)) (h0 : LawI I (some pg)) : KIq X (h + 3) mX8_judged [.ref 6, zi (v : Int), zi a, zi b] I J (fun z A B => z = I 7 v * hasV lw (I 7 v) (I 8 v) (I 9 v) v a b ∧ (∃ n F, A = scr I n F) ∧ J = B) := by
  subst hn
  show Rz X (h + 3) mX8_judged 0 [some (.ref 6), some (zi (v : Int)), some (zi a), some (zi b), none] [] I J _
  refine rz_aload_n dX8_judged_0 rfl ?_
  refine rz_getR dX8_judged_1 kf_RX8_31 hd_6 rfl rr_6_7 ?_
  refine rz_cVIq dX8_judged_4 kl_RX8_54 hd_1 ⟨_, _, rfl⟩ (c_X4_isTold X _ I J (LawI_told h0)) rfl rfl (Nat.le_of_ble_eq_true rfl) (Nat.le_of_ble_eq_true rfl) ?_
  rintro z4 A4 B4 ⟨⟨rfl, b4⟩ | ⟨rfl, b4⟩, rfl, rfl⟩
  · refine rz_if_eq (t := 35) dX8_judged_7 rfl (by omega) (fun q => absurd q (by decide)) (fun _ => ?_)
    have hfa := faV_rg ha hb hw ht (show rg (v : Int) by omega)
    have hz := giv_rg hfa pg h0.1
    refine rz_aload_n dX8_judged_10 rfl ?_
    refine rz_getR dX8_judged_11 kf_RX8_31 hd_6 rfl rr_6_7 ?_
    refine rz_iload_n dX8_judged_14 rfl ?_
    refine rz_iload_n dX8_judged_15 rfl ?_
    refine rz_aload_n dX8_judged_16 rfl ?_
    refine rz_getR dX8_judged_17 kf_RX8_11 hd_6 rfl rr_6_1 ?_
    refine rz_iload_n dX8_judged_20 rfl ?_
    refine rz_ialdN (k := v) (z := (I 7 v)) dX8_judged_21 hd_7 (by decide) (by omega) (by omega) rfl ?_
    refine rz_aload_n dX8_judged_22 rfl ?_
    refine rz_getR dX8_judged_23 kf_RX8_15 hd_6 rfl rr_6_2 ?_
    refine rz_iload_n dX8_judged_26 rfl ?_
    refine rz_ialdN (k := v) (z := (I 8 v)) dX8_judged_27 hd_8 (by decide) (by omega) (by omega) rfl ?_
    refine rz_iload_n dX8_judged_28 rfl ?_
    refine rz_cVIq dX8_judged_29 kl_RX8_60 hd_1 ⟨_, _, rfl⟩ (c_X4_worked (pg := pg) h0.1 ⟨h0.2.2.1.1, h0.2.2.1.2.1⟩ h0.2.2.1.2.2.2 hfa) rfl rfl (Nat.le_of_ble_eq_true rfl) (Nat.le_of_ble_eq_true rfl) ?_
    rintro _ _ _ ⟨rfl, ⟨F29, rfl⟩, rfl⟩
    refine rz_goto (t := 42) dX8_judged_32 rfl ?_
    refine rz_istore dX8_judged_42 (by decide) rfl ?_
    refine rz_iload dX8_judged_44 rfl ?_
    refine rz_if_le (t := 58) dX8_judged_46 rfl (by omega) (fun c46 => ?_) (fun c46 => ?_)
    · refine rz_iload dX8_judged_58 rfl ?_
      refine rz_if_ge (t := 73) dX8_judged_60 rfl (by omega) (fun c60 => ?_) (fun c60 => ?_)
      · refine rz_iconst dX8_judged_73 ?_
        refine rz_iret dX8_judged_74 rfl ?_
        exact ⟨_, rfl, by show _ = I 7 v * sgnZ _; rw [sgn_0 (by omega)]; simp, ⟨_, _, rfl⟩, rfl⟩
      · refine rz_aload_n dX8_judged_63 rfl ?_
        refine rz_getR dX8_judged_64 kf_RX8_11 hd_6 rfl rr_6_1 ?_
        refine rz_iload_n dX8_judged_67 rfl ?_
        refine rz_ialdN (k := v) (z := (I 7 v)) dX8_judged_68 hd_7 (by decide) (by omega) (by omega) rfl ?_
        refine rz_ineg dX8_judged_69 ?_
        refine rz_goto (t := 74) dX8_judged_70 rfl ?_
        refine rz_iret dX8_judged_74 rfl ?_
        exact ⟨_, rfl, by show _ = I 7 v * sgnZ _; rw [sgn_n (by omega)]; simp, ⟨_, _, rfl⟩, rfl⟩
    · refine rz_aload_n dX8_judged_49 rfl ?_
      refine rz_getR dX8_judged_50 kf_RX8_11 hd_6 rfl rr_6_1 ?_
      refine rz_iload_n dX8_judged_53 rfl ?_
      refine rz_ialdN (k := v) (z := (I 7 v)) dX8_judged_54 hd_7 (by decide) (by omega) (by omega) rfl ?_
      refine rz_goto (t := 74) dX8_judged_55 rfl ?_
      refine rz_iret dX8_judged_74 rfl ?_
      exact ⟨_, rfl, by show _ = I 7 v * sgnZ _; rw [sgn_p (by omega)]; simp, ⟨_, _, rfl⟩, rfl⟩
  · have := h0.2.2.1; exfalso; omega
theorem c_X8_judged {X : pX} {I J : IM} {h : Nat} (lw : Lw) (hlw : LawI I lw) (v : Nat) (a b : Int) (hv : v < 5) (ha : rg a) (hb : rg b) (hw : rg (I 7 v)) (ht : rg (I 8 v)) (hu : rg (I 9 v)) : KIq X (h + 3) mX8_judged [.ref 6, zi (v : Int), zi a, zi b] I J (fun z A B => z = I 7 v * hasV lw (I 7 v) (I 8 v) (I 9 v) v a b ∧ (∃ n F, A = scr I n F) ∧ J = B) := by
  cases lw with
  | none => exact judged_n none rfl v a b hv ha hb hw ht hu hlw
  | some pg => exact judged_s (some pg) pg rfl v a b hv ha hb hw ht hu hlw
