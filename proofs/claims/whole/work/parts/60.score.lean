/-! findHas, won, score -/
def fhM (I : IM) (F G H : Nat → Int) : IM := upA (scrR I F G) 102 H
theorem fh_0 {I : IM} : fhM I (I 100) (I 101) (I 102) = I := by unfold fhM; rw [scrR_id, upA_id]
theorem scr_fh {I : IM} {F G F2 G2 H : Nat → Int} : scrR (fhM I F G H) F2 G2 = fhM I F2 G2 H := by
  funext d
  by_cases h1 : d = 100
  · subst h1; rfl
  · by_cases h2 : d = 101
    · subst h2; rfl
    · by_cases h3 : d = 102
      · subst h3; rfl
      · simp [fhM, scrR, upA, h1, h2, h3]
theorem fh_102 {I : IM} {F G H : Nat → Int} {k : Nat} {z : Int} : fhM I F G (up1 H k z) = upA (fhM I F G H) 102 (up1 (fhM I F G H 102) k z) := by
  unfold fhM; rw [upA_upA]; rfl
def FhI (I : IM) (lw : Lw) (p : Nat) (H : Nat → Int) : Prop := ∀ j : Nat, j < p → H j = hvV lw (I 82) (I 83) (I 84) (j / 100) (j / 10 % 10) (j % 10)
theorem FhI_s {I : IM} {lw : Lw} {v a b : Nat} {H : Nat → Int} {z : Int} (ha : a ≤ 9) (hb : b ≤ 9) (h : FhI I lw (100 * v + 10 * a + b) H) (hz : z = hvV lw (I 82) (I 83) (I 84) v a b) : FhI I lw (100 * v + 10 * a + (b + 1)) (up1 H (100 * v + 10 * a + b) z) := by
  intro j hj
  by_cases e : j = 100 * v + 10 * a + b
  · subst e
    rw [up1_self, hz, show (100 * v + 10 * a + b) / 100 = v by omega, show (100 * v + 10 * a + b) / 10 % 10 = a by omega, show (100 * v + 10 * a + b) % 10 = b by omega]
  · rw [up1_ne e]; exact h j (by omega)
def FhQ (I : IM) (lw : Lw) (n : Nat) (A : IM) : Prop := ∃ F G H, A = fhM I F G H ∧ ∀ v : Nat, v < n → ∀ a b : Nat, a ≤ 9 → b ≤ 9 → H (100 * v + 10 * a + b) = hvV lw (I 82) (I 83) (I 84) v a b
theorem FhI_end {I : IM} {lw : Lw} {n : Nat} {H : Nat → Int} (h : FhI I lw (100 * n) H) : ∀ v : Nat, v < n → ∀ a b : Nat, a ≤ 9 → b ≤ 9 → H (100 * v + 10 * a + b) = hvV lw (I 82) (I 83) (I 84) v a b := by
  intro v hv a b ha hb
  rw [h _ (by omega), show (100 * v + 10 * a + b) / 100 = v by omega, show (100 * v + 10 * a + b) / 10 % 10 = a by omega, show (100 * v + 10 * a + b) % 10 = b by omega]
abbrev FhS : Type := (Nat → Int) × (Nat → Int) × (Nat → Int)
set_option maxRecDepth 20000 in
set_option maxHeartbeats 400000 in
theorem c_X12_findHas {X : pX} {I J : IM} {h : Nat} (lw : Lw) (hlw : LawI I lw) (n : Nat) (hn : I 81 1 = n ∧ n ≤ 5) (hr : RgTR I n) : KVq X (h + 4) mX12_findHas [.ref 81] I J (fun A B => FhQ I lw n A ∧ J = B) := by
  show Rz X (h + 4) mX12_findHas 0 [some (.ref 81), none, none, none] [] I J _
  refine rz_iconst dX12_findHas_0 ?_
  refine rz_istore_n dX12_findHas_1 (by decide) rfl ?_
  refine rz_upx (σ := FhS) (Inv := fun v sv => FhI I lw (100 * v) sv.2.2) (ls := fun (v : Nat) sv => [some (.ref 81), some (zi (v : Int)), none, none]) (IV := fun (v : Nat) sv => (fhM I sv.1 sv.2.1 sv.2.2)) (JV := fun (v : Nat) sv => J) (n) ((I 100, I 101, I 102)) (fun j hj => absurd hj (by omega)) ⟨Or.inr rfl, Or.inr rfl, Or.inl rfl, Or.inl rfl, trivial⟩ (fh_0) (rfl) ?_ ?_
  · intro v sv hv qv ihv
    obtain ⟨F1, G1, H1⟩ := sv
    have qv : FhI I lw (100 * v) H1 := qv
    have hr3 := hr v hv
    refine rz_to (ls' := [some (.ref 81), some (zi (v : Int)), none, none]) (I' := (fhM I F1 G1 H1)) (J' := J) ⟨Or.inr rfl, Or.inr rfl, Or.inl rfl, Or.inl rfl, trivial⟩ rfl rfl ?_
    refine rz_iload_n dX12_findHas_2 rfl ?_
    refine rz_aload_n dX12_findHas_3 rfl ?_
    refine rz_getI (z := (n : Int)) dX12_findHas_4 kf_RX12_137 hd_81 rfl (hn.1) ?_
    refine rz_icmp_ge (t := 68) dX12_findHas_7 rfl (by omega) (by omega) (fun c7 => ?_) (fun c7 => ?_)
    · exfalso; omega
    · refine rz_iconst dX12_findHas_10 ?_
      refine rz_istore_n dX12_findHas_11 (by decide) rfl ?_
      refine rz_upx (σ := FhS) (Inv := fun a sa => FhI I lw (100 * v + 10 * a) sa.2.2) (ls := fun (a : Nat) sa => [some (.ref 81), some (zi (v : Int)), some (zi (a : Int)), none]) (IV := fun (a : Nat) sa => (fhM I sa.1 sa.2.1 sa.2.2)) (JV := fun (a : Nat) sa => J) (10) ((F1, G1, H1)) (by simpa using qv) ⟨Or.inr rfl, Or.inr rfl, Or.inr rfl, Or.inl rfl, trivial⟩ (rfl) (rfl) ?_ ?_
      · intro a sa ha qa iha
        obtain ⟨F2, G2, H2⟩ := sa
        have qa : FhI I lw (100 * v + 10 * a) H2 := qa
        refine rz_to (ls' := [some (.ref 81), some (zi (v : Int)), some (zi (a : Int)), none]) (I' := (fhM I F2 G2 H2)) (J' := J) ⟨Or.inr rfl, Or.inr rfl, Or.inr rfl, Or.inl rfl, trivial⟩ rfl rfl ?_
        refine rz_iload_n dX12_findHas_12 rfl ?_
        refine rz_bipush dX12_findHas_13 (by decide) ?_
        refine rz_icmp_gt (t := 62) dX12_findHas_15 rfl (by omega) (by omega) (fun c15 => ?_) (fun c15 => ?_)
        · exfalso; omega
        · refine rz_iconst dX12_findHas_18 ?_
          refine rz_istore_n dX12_findHas_19 (by decide) rfl ?_
          refine rz_upx (σ := FhS) (Inv := fun b sb => FhI I lw (100 * v + 10 * a + b) sb.2.2) (ls := fun (b : Nat) sb => [some (.ref 81), some (zi (v : Int)), some (zi (a : Int)), some (zi (b : Int))]) (IV := fun (b : Nat) sb => (fhM I sb.1 sb.2.1 sb.2.2)) (JV := fun (b : Nat) sb => J) (10) ((F2, G2, H2)) (by simpa using qa) ⟨Or.inr rfl, Or.inr rfl, Or.inr rfl, Or.inr rfl, trivial⟩ (rfl) (rfl) ?_ ?_
          · intro b sb hb qb ihb
            obtain ⟨F3, G3, H3⟩ := sb
            have qb : FhI I lw (100 * v + 10 * a + b) H3 := qb
            refine rz_to (ls' := [some (.ref 81), some (zi (v : Int)), some (zi (a : Int)), some (zi (b : Int))]) (I' := (fhM I F3 G3 H3)) (J' := J) ⟨Or.inr rfl, Or.inr rfl, Or.inr rfl, Or.inr rfl, trivial⟩ rfl rfl ?_
            refine rz_iload_n dX12_findHas_20 rfl ?_
            refine rz_bipush dX12_findHas_21 (by decide) ?_
            refine rz_icmp_gt (t := 56) dX12_findHas_23 rfl (by omega) (by omega) (fun c23 => ?_) (fun c23 => ?_)
            · exfalso; omega
            · refine rz_aload_n dX12_findHas_26 rfl ?_
              refine rz_getR dX12_findHas_27 kf_RX12_72 hd_81 rfl rr_81_30 ?_
              refine rz_bipush dX12_findHas_30 (by decide) ?_
              refine rz_iload_n dX12_findHas_32 rfl ?_
              refine rz_imul dX12_findHas_33 ?_
              refine rz_bipush dX12_findHas_34 (by decide) ?_
              refine rz_iload_n dX12_findHas_36 rfl ?_
              refine rz_imul dX12_findHas_37 ?_
              refine rz_iadd dX12_findHas_38 ?_
              refine rz_iload_n dX12_findHas_39 rfl ?_
              refine rz_iadd dX12_findHas_40 ?_
              refine rz_aload_n dX12_findHas_41 rfl ?_
              refine rz_iload_n dX12_findHas_42 rfl ?_
              refine rz_iload_n dX12_findHas_43 rfl ?_
              refine rz_iload_n dX12_findHas_44 rfl ?_
              refine rz_cVIq dX12_findHas_45 kl_RX12_253 hd_81 ⟨_, _, rfl⟩ (c_X12_hasBy (I := fhM I F3 G3 H3) lw (LawI_congr rfl rfl rfl rfl rfl rfl rfl rfl hlw) v (a : Int) (b : Int) (by omega) (by omega) (by omega) (by show rg (I 82 v); omega) (by show rg (I 83 v); omega) (by show rg (I 84 v); omega)) rfl rfl (Nat.le_of_ble_eq_true rfl) (Nat.le_of_ble_eq_true rfl) ?_
              rintro _ _ _ ⟨rfl, ⟨F45, G45, rfl⟩, rfl⟩
              refine rz_ieq (y := hasV lw (I 82 v) (I 83 v) (I 84 v) (v : Int) (a : Int) (b : Int)) rfl ?_
              refine rz_mem (I' := (fhM I F45 G45 H3)) (J' := J) (scr_fh.symm) (rfl) ?_
              have hc := hasV_c (lw := lw) (w := I 82 v) (t := I 83 v) (u := I 84 v) (v := (v : Int)) (a := (a : Int)) (b := (b : Int))
              refine rz_i2b dX12_findHas_48 (by omega) ?_
              refine rz_bastN (k := (100 * v + 10 * a + b)) dX12_findHas_49 hd_102 (by decide) (by omega) (by omega) (by omega) ?_
              refine rz_iinc dX12_findHas_50 (by decide) rfl rfl rfl ?_
              refine rz_goto (t := 20) dX12_findHas_53 rfl ?_
              exact rz_bk (ihb ((F45, G45, up1 H3 (100 * v + 10 * a + b) (hasV lw (I 82 v) (I 83 v) (I 84 v) (v : Int) (a : Int) (b : Int)))) (FhI_s (by omega) (by omega) qb rfl)) ⟨Or.inr rfl, Or.inr rfl, Or.inr rfl, Or.inr rfl, trivial⟩ (fh_102) (rfl)
          · intro sb qb
            refine rz_iload_n dX12_findHas_20 rfl ?_
            refine rz_bipush dX12_findHas_21 (by decide) ?_
            refine rz_icmp_gt (t := 56) dX12_findHas_23 rfl (by omega) (by omega) (fun c23 => ?_) (fun c23 => ?_)
            · refine rz_iinc dX12_findHas_56 (by decide) rfl rfl rfl ?_
              refine rz_goto (t := 12) dX12_findHas_59 rfl ?_
              exact rz_bk (iha (sb) ((by rw [show 100 * v + 10 * (a + 1) = 100 * v + 10 * a + 10 by omega]; exact qb))) ⟨Or.inr rfl, Or.inr rfl, Or.inr rfl, Or.inl rfl, trivial⟩ (rfl) (rfl)
            · exfalso; omega
      · intro sa qa
        refine rz_iload_n dX12_findHas_12 rfl ?_
        refine rz_bipush dX12_findHas_13 (by decide) ?_
        refine rz_icmp_gt (t := 62) dX12_findHas_15 rfl (by omega) (by omega) (fun c15 => ?_) (fun c15 => ?_)
        · refine rz_iinc dX12_findHas_62 (by decide) rfl rfl rfl ?_
          refine rz_goto (t := 2) dX12_findHas_65 rfl ?_
          exact rz_bk (ihv (sa) ((by rw [show 100 * (v + 1) = 100 * v + 10 * 10 by omega]; exact qa))) ⟨Or.inr rfl, Or.inr rfl, Or.inl rfl, Or.inl rfl, trivial⟩ (rfl) (rfl)
        · exfalso; omega
  · intro sv qv
    refine rz_iload_n dX12_findHas_2 rfl ?_
    refine rz_aload_n dX12_findHas_3 rfl ?_
    refine rz_getI (z := (n : Int)) dX12_findHas_4 kf_RX12_137 hd_81 rfl (hn.1) ?_
    refine rz_icmp_ge (t := 68) dX12_findHas_7 rfl (by omega) (by omega) (fun c7 => ?_) (fun c7 => ?_)
    · refine rz_vret dX12_findHas_68 rfl ?_
      exact ⟨rfl, ⟨_, _, _, rfl, FhI_end qv⟩, rfl⟩
    · exfalso; omega
def wonZ (lw : Lw) (n : Nat) (W T U : Nat → Int) (v ab : Int) : Int := if (0 ≤ v ∧ v < n) ∧ 0 ≤ ab ∧ ab ≤ 99 then (if hasV lw (W v.toNat) (T v.toNat) (U v.toNat) v (ab / 10) (ab % 10) = 1 then 1 else if hasV lw (W v.toNat) (T v.toNat) (U v.toNat) v (ab / 10) (ab % 10) = -1 then 2 else 0) else -1
set_option maxRecDepth 20000 in
set_option maxHeartbeats 400000 in
theorem c_X11_won {X : pX} {I J : IM} {h : Nat} (lw : Lw) (hlw : LawI I lw) (n : Nat) (hn : I 6 0 = n ∧ n ≤ 5) (hr : ∀ v : Nat, v < n → (1 ≤ I 7 v ∧ I 7 v ≤ 9) ∧ (0 ≤ I 8 v ∧ I 8 v ≤ 9) ∧ 0 ≤ I 9 v ∧ I 9 v ≤ 9) (v ab : Int) (hv : rg v) (hab : rg ab)  : KIq X (h + 4) mX11_won [.ref 0, zi v, zi ab] I J (fun z A B => z = wonZ lw n (I 7) (I 8) (I 9) v ab ∧ (∃ n F, A = scr I n F) ∧ J = B) := by
  have hn1 := hn.1
  show Rz X (h + 4) mX11_won 0 [some (.ref 0), some (zi v), some (zi ab), none] [] I J _
  refine rz_aload_n dX11_won_0 rfl ?_
  refine rz_getR dX11_won_1 kf_RX11_21 hd_0 rfl rr_0_1 ?_
  refine rz_iload_n dX11_won_4 rfl ?_
  refine rz_cVIq dX11_won_5 kl_RX11_119 hd_6 ⟨_, _, rfl⟩ (c_X8_isVillage X _ I J v (by omega) (by omega)) rfl rfl (Nat.le_of_ble_eq_true rfl) (Nat.le_of_ble_eq_true rfl) ?_
  rintro z5 A5 B5 ⟨⟨rfl, b5⟩ | ⟨rfl, b5⟩, rfl, rfl⟩
  · refine rz_if_eq (t := 21) dX11_won_8 rfl (by omega) (fun q => absurd q (by decide)) (fun _ => ?_)
    refine rz_iload_n dX11_won_11 rfl ?_
    refine rz_if_lt (t := 21) dX11_won_12 rfl (by omega) (fun c12 => ?_) (fun c12 => ?_)
    · refine rz_iconst dX11_won_21 ?_
      refine rz_iret dX11_won_22 rfl ?_
      exact ⟨_, rfl, (if_neg (by omega)).symm, ⟨_, _, scr_id.symm⟩, rfl⟩
    · refine rz_iload_n dX11_won_15 rfl ?_
      refine rz_bipush dX11_won_16 (by decide) ?_
      refine rz_icmp_le (t := 23) dX11_won_18 rfl (by omega) (by omega) (fun c18 => ?_) (fun c18 => ?_)
      · have hvv : ((v.toNat : Nat) : Int) = v := by omega
        have hr3 := hr v.toNat (by omega)
        have hc := hasV_c (lw := lw) (w := I 7 v.toNat) (t := I 8 v.toNat) (u := I 9 v.toNat) (v := v) (a := ab / 10) (b := ab % 10)
        refine rz_aload_n dX11_won_23 rfl ?_
        refine rz_getR dX11_won_24 kf_RX11_21 hd_0 rfl rr_0_1 ?_
        refine rz_iload_n dX11_won_27 rfl ?_
        refine rz_iload_n dX11_won_28 rfl ?_
        refine rz_bipush dX11_won_29 (by decide) ?_
        refine rz_idiv dX11_won_31 (by omega) (by omega) ?_
        refine rz_iload_n dX11_won_32 rfl ?_
        refine rz_bipush dX11_won_33 (by decide) ?_
        refine rz_irem dX11_won_35 (by omega) (by omega) ?_
        refine rz_cVIq dX11_won_36 kl_RX11_184 hd_6 ⟨_, _, rfl⟩ ((by have q := c_X8_judged (X := X) (I := I) (J := J) (h := h) lw hlw v.toNat (ab / 10) (ab % 10) (by omega) (by omega) (by omega) (by omega) (by omega) (by omega); rw [hvv] at q; exact q)) rfl rfl (Nat.le_of_ble_eq_true rfl) (Nat.le_of_ble_eq_true rfl) ?_
        rintro _ _ _ ⟨rfl, ⟨n36, F36, rfl⟩, rfl⟩
        have hm : I 7 v.toNat * hasV lw (I 7 v.toNat) (I 8 v.toNat) (I 9 v.toNat) v (ab / 10) (ab % 10) = (if hasV lw (I 7 v.toNat) (I 8 v.toNat) (I 9 v.toNat) v (ab / 10) (ab % 10) = 1 then I 7 v.toNat else if hasV lw (I 7 v.toNat) (I 8 v.toNat) (I 9 v.toNat) v (ab / 10) (ab % 10) = -1 then - I 7 v.toNat else 0) := by rcases hc with e | e | e <;> simp [e]
        have hm2 : (hasV lw (I 7 v.toNat) (I 8 v.toNat) (I 9 v.toNat) v (ab / 10) (ab % 10) = 1 ∧ I 7 v.toNat * hasV lw (I 7 v.toNat) (I 8 v.toNat) (I 9 v.toNat) v (ab / 10) (ab % 10) = I 7 v.toNat) ∨ (hasV lw (I 7 v.toNat) (I 8 v.toNat) (I 9 v.toNat) v (ab / 10) (ab % 10) = -1 ∧ I 7 v.toNat * hasV lw (I 7 v.toNat) (I 8 v.toNat) (I 9 v.toNat) v (ab / 10) (ab % 10) = - I 7 v.toNat) ∨ (hasV lw (I 7 v.toNat) (I 8 v.toNat) (I 9 v.toNat) v (ab / 10) (ab % 10) = 0 ∧ I 7 v.toNat * hasV lw (I 7 v.toNat) (I 8 v.toNat) (I 9 v.toNat) v (ab / 10) (ab % 10) = 0) := by rcases hc with e | e | e <;> simp [e]
        refine rz_istore_n dX11_won_39 (by decide) rfl ?_
        refine rz_iload_n dX11_won_40 rfl ?_
        refine rz_if_le (t := 48) dX11_won_41 rfl (by omega) (fun c41 => ?_) (fun c41 => ?_)
        · refine rz_iload_n dX11_won_48 rfl ?_
          refine rz_if_ge (t := 56) dX11_won_49 rfl (by omega) (fun c49 => ?_) (fun c49 => ?_)
          · refine rz_iconst dX11_won_56 ?_
            refine rz_iret dX11_won_57 rfl ?_
            exact ⟨_, rfl, by rw [wonZ, if_pos (by omega), if_neg (by omega), if_neg (by omega)], ⟨_, _, rfl⟩, rfl⟩
          · refine rz_iconst dX11_won_52 ?_
            refine rz_goto (t := 57) dX11_won_53 rfl ?_
            refine rz_iret dX11_won_57 rfl ?_
            exact ⟨_, rfl, by rw [wonZ, if_pos (by omega), if_neg (by omega), if_pos (by omega)], ⟨_, _, rfl⟩, rfl⟩
        · refine rz_iconst dX11_won_44 ?_
          refine rz_goto (t := 57) dX11_won_45 rfl ?_
          refine rz_iret dX11_won_57 rfl ?_
          exact ⟨_, rfl, by rw [wonZ, if_pos (by omega), if_pos (by omega)], ⟨_, _, rfl⟩, rfl⟩
      · refine rz_iconst dX11_won_21 ?_
        refine rz_iret dX11_won_22 rfl ?_
        exact ⟨_, rfl, (if_neg (by omega)).symm, ⟨_, _, scr_id.symm⟩, rfl⟩
  · refine rz_if_eq (t := 21) dX11_won_8 rfl (by omega) (fun _ => ?_) (fun q => absurd q (by decide))
    refine rz_iconst dX11_won_21 ?_
    refine rz_iret dX11_won_22 rfl ?_
    exact ⟨_, rfl, (if_neg (by omega)).symm, ⟨_, _, scr_id.symm⟩, rfl⟩
set_option maxRecDepth 20000 in
set_option maxHeartbeats 400000 in
theorem c_X12_won {X : pX} {I J : IM} {h : Nat} (lw : Lw) (hlw : LawI I lw) (n : Nat) (hn : I 81 1 = n ∧ n ≤ 5) (hr : RgTR I n) (v ab : Int) (hv : rg v) (hab : rg ab)  : KIq X (h + 4) mX12_won [.ref 81, zi v, zi ab] I J (fun z A B => z = wonZ lw n (I 82) (I 83) (I 84) v ab ∧ (∃ F G, A = scrR I F G) ∧ J = B) := by
  have hn1 := hn.1
  show Rz X (h + 4) mX12_won 0 [some (.ref 81), some (zi v), some (zi ab), none] [] I J _
  refine rz_aload_n dX12_won_0 rfl ?_
  refine rz_iload_n dX12_won_1 rfl ?_
  refine rz_cVIq dX12_won_2 kl_RX12_166 hd_81 ⟨_, _, rfl⟩ (c_X12_isVillage X _ I J v (by omega) (by omega)) rfl rfl (Nat.le_of_ble_eq_true rfl) (Nat.le_of_ble_eq_true rfl) ?_
  rintro z2 A2 B2 ⟨⟨rfl, b2⟩ | ⟨rfl, b2⟩, rfl, rfl⟩
  · refine rz_if_eq (t := 18) dX12_won_5 rfl (by omega) (fun q => absurd q (by decide)) (fun _ => ?_)
    refine rz_iload_n dX12_won_8 rfl ?_
    refine rz_iconst dX12_won_9 ?_
    refine rz_bipush dX12_won_10 (by decide) ?_
    refine rz_cSIq dX12_won_12 kl_RX12_140 (c_X12_in X _ I J ab 0 99 (by omega) (by omega) (by omega)) rfl rfl (Nat.le_of_ble_eq_true rfl) (Nat.le_of_ble_eq_true rfl) ?_
    rintro z12 A12 B12 ⟨⟨rfl, b12⟩ | ⟨rfl, b12⟩, rfl, rfl⟩
    · refine rz_if_ne (t := 20) dX12_won_15 rfl (by omega) (fun _ => ?_) (fun q => absurd q (by decide))
      have hvv : ((v.toNat : Nat) : Int) = v := by omega
      have hr3 := hr v.toNat (by omega)
      have hc := hasV_c (lw := lw) (w := I 82 v.toNat) (t := I 83 v.toNat) (u := I 84 v.toNat) (v := v) (a := ab / 10) (b := ab % 10)
      refine rz_aload_n dX12_won_20 rfl ?_
      refine rz_iload_n dX12_won_21 rfl ?_
      refine rz_iload_n dX12_won_22 rfl ?_
      refine rz_bipush dX12_won_23 (by decide) ?_
      refine rz_idiv dX12_won_25 (by omega) (by omega) ?_
      refine rz_iload_n dX12_won_26 rfl ?_
      refine rz_bipush dX12_won_27 (by decide) ?_
      refine rz_irem dX12_won_29 (by omega) (by omega) ?_
      refine rz_cVIq dX12_won_30 kl_RX12_253 hd_81 ⟨_, _, rfl⟩ ((by have q := c_X12_hasBy (X := X) (I := I) (J := J) (h := h) lw hlw v.toNat (ab / 10) (ab % 10) (by omega) (by omega) (by omega) (by omega) (by omega) (by omega); rw [hvv] at q; exact q)) rfl rfl (Nat.le_of_ble_eq_true rfl) (Nat.le_of_ble_eq_true rfl) ?_
      rintro _ _ _ ⟨rfl, ⟨n30, F30, rfl⟩, rfl⟩
      refine rz_istore_n dX12_won_33 (by decide) rfl ?_
      refine rz_iload_n dX12_won_34 rfl ?_
      refine rz_iconst dX12_won_35 ?_
      refine rz_icmp_ne (t := 43) dX12_won_36 rfl (by omega) (by omega) (fun c36 => ?_) (fun c36 => ?_)
      · refine rz_iload_n dX12_won_43 rfl ?_
        refine rz_iconst dX12_won_44 ?_
        refine rz_icmp_ne (t := 52) dX12_won_45 rfl (by omega) (by omega) (fun c45 => ?_) (fun c45 => ?_)
        · refine rz_iconst dX12_won_52 ?_
          refine rz_iret dX12_won_53 rfl ?_
          exact ⟨_, rfl, by rw [wonZ, if_pos (by omega), if_neg (by omega), if_neg (by omega)], ⟨_, _, rfl⟩, rfl⟩
        · refine rz_iconst dX12_won_48 ?_
          refine rz_goto (t := 53) dX12_won_49 rfl ?_
          refine rz_iret dX12_won_53 rfl ?_
          exact ⟨_, rfl, by rw [wonZ, if_pos (by omega), if_neg (by omega), if_pos (by omega)], ⟨_, _, rfl⟩, rfl⟩
      · refine rz_iconst dX12_won_39 ?_
        refine rz_goto (t := 53) dX12_won_40 rfl ?_
        refine rz_iret dX12_won_53 rfl ?_
        exact ⟨_, rfl, by rw [wonZ, if_pos (by omega), if_pos (by omega)], ⟨_, _, rfl⟩, rfl⟩
    · refine rz_if_ne (t := 20) dX12_won_15 rfl (by omega) (fun q => absurd q (by decide)) (fun _ => ?_)
      refine rz_iconst dX12_won_18 ?_
      refine rz_iret dX12_won_19 rfl ?_
      exact ⟨_, rfl, (if_neg (by omega)).symm, ⟨_, _, scrR_id.symm⟩, rfl⟩
  · refine rz_if_eq (t := 18) dX12_won_5 rfl (by omega) (fun _ => ?_) (fun q => absurd q (by decide))
    refine rz_iconst dX12_won_18 ?_
    refine rz_iret dX12_won_19 rfl ?_
    exact ⟨_, rfl, (if_neg (by omega)).symm, ⟨_, _, scrR_id.symm⟩, rfl⟩
def scoZ (lw : Lw) (n : Nat) (W T U Q : Nat → Int) (p q : Int) : Int := if okP n p (Q 0) ∧ okP n q (Q 1) then sumP (fun v => ptsV lw W T U v (dgt n p v).toNat (dgt n q v).toNat) n else -2000000000
/-- settled or as it was -/
def SetW (I : IM) (lw : Lw) (n : Nat) (A : IM) : Prop := SetQ I lw n A ∨ A = I
theorem SetW_c {I A : IM} {lw : Lw} {n : Nat} (hc : CchI I lw n) (h : SetW I lw n A) : CchI A lw n := h.elim (fun q => SetQ_c hc q) (fun q => by rw [q]; exact hc)
set_option maxRecDepth 20000 in
set_option maxHeartbeats 400000 in
theorem c_X11_score {X : pX} {I J : IM} {h : Nat} (lw : Lw) (hlw : LawI I lw) (n : Nat) (hn : I 6 0 = n ∧ n ≤ 5) (hl : ∀ b : Nat, b < 2 → 0 ≤ I 10 b ∧ I 10 b ≤ 9) (hr : RgT I n) (hc : CchI I lw n) (p q : Int) (hp : rg p) (hq : rg q)  : KIq X (h + 5) mX11_score [.ref 0, zi p, zi q] I J (fun z A B => z = scoZ lw n (I 7) (I 8) (I 9) (I 10) p q ∧ (∃ g g2, SetW (upA (upA I 79 g) 80 g2) lw n A) ∧ J = B) := by
  show Rz X (h + 5) mX11_score 0 [some (.ref 0), some (zi p), some (zi q)] [] I J _
  refine rz_aload_n dX11_score_0 rfl ?_
  refine rz_getR dX11_score_1 kf_RX11_21 hd_0 rfl rr_0_1 ?_
  refine rz_iload_n dX11_score_4 rfl ?_
  refine rz_iconst dX11_score_5 ?_
  refine rz_aload_n dX11_score_6 rfl ?_
  refine rz_getR dX11_score_7 kf_RX11_81 hd_0 rfl rr_0_11 ?_
  refine rz_cVIq dX11_score_10 kl_RX11_145 hd_6 ⟨_, _, rfl⟩ (c_X8_read79 X _ I J n hn p 0 (by omega) (by omega) (hl 0 (by omega))) rfl rfl (Nat.le_of_ble_eq_true rfl) (Nat.le_of_ble_eq_true rfl) ?_
  rintro z10 _ _ ⟨g10, rfl, rfl, ⟨rfl, b10, k10⟩ | ⟨rfl, b10⟩⟩
  · refine rz_if_eq (t := 32) dX11_score_13 rfl (by omega) (fun q => absurd q (by decide)) (fun _ => ?_)
    refine rz_aload_n dX11_score_16 rfl ?_
    refine rz_getR dX11_score_17 kf_RX11_21 hd_0 rfl rr_0_1 ?_
    refine rz_iload_n dX11_score_20 rfl ?_
    refine rz_iconst dX11_score_21 ?_
    refine rz_aload_n dX11_score_22 rfl ?_
    refine rz_getR dX11_score_23 kf_RX11_85 hd_0 rfl rr_0_12 ?_
    refine rz_cVIq dX11_score_26 kl_RX11_145 hd_6 ⟨_, _, rfl⟩ (c_X8_read80 X _ (upA I 79 g10) J n hn q 1 (by omega) (by omega) (hl 1 (by omega))) rfl rfl (Nat.le_of_ble_eq_true rfl) (Nat.le_of_ble_eq_true rfl) ?_
    rintro z26 _ _ ⟨g26, rfl, rfl, ⟨rfl, b26, k26⟩ | ⟨rfl, b26⟩⟩
    · refine rz_if_ne (t := 35) dX11_score_29 rfl (by omega) (fun _ => ?_) (fun q => absurd q (by decide))
      refine rz_aload_n dX11_score_35 rfl ?_
      refine rz_getR dX11_score_36 kf_RX11_21 hd_0 rfl rr_0_1 ?_
      refine rz_cVVq dX11_score_39 kl_RX11_188 hd_6 ⟨_, _, rfl⟩ (c_X8_settle (I := (upA (upA I 79 g10) 80 g26)) lw (LawI_congr rfl rfl rfl rfl rfl rfl rfl rfl hlw) n hn hr hc) rfl rfl (Nat.le_of_ble_eq_true rfl) (Nat.le_of_ble_eq_true rfl) ?_
      rintro _ _ ⟨⟨m39, F39, G39, S39, rfl, u1, u2, u3⟩, rfl⟩
      refine rz_aload_n dX11_score_42 rfl ?_
      refine rz_getR dX11_score_43 kf_RX11_21 hd_0 rfl rr_0_1 ?_
      refine rz_aload_n dX11_score_46 rfl ?_
      refine rz_getR dX11_score_47 kf_RX11_81 hd_0 rfl rr_0_11 ?_
      refine rz_aload_n dX11_score_50 rfl ?_
      refine rz_getR dX11_score_51 kf_RX11_85 hd_0 rfl rr_0_12 ?_
      refine rz_cVI dX11_score_54 kl_RX11_191 hd_6 ⟨_, _, rfl⟩ (c_scoreOf X _ (setM (upA (upA I 79 g10) 80 g26) m39 F39 G39 S39) J n 79 80 hn rfl rfl (fun v hv => ⟨(by show 0 ≤ g10 v ∧ g10 v ≤ 9; rw [k10 v (by omega)]; exact dgt_bd _ _ _), (by show 0 ≤ g26 v ∧ g26 v ≤ 9; rw [k26 v (by omega)]; exact dgt_bd _ _ _)⟩)) rfl rfl (Nat.le_of_ble_eq_true rfl) (Nat.le_of_ble_eq_true rfl) ?_
      refine rz_iret dX11_score_57 rfl ?_
      refine ⟨_, rfl, ?_, ⟨g10, g26, Or.inl ⟨m39, F39, G39, S39, rfl, u1, u2, u3⟩⟩, rfl⟩
      rw [scoZ, if_pos ⟨b10, b26⟩]
      refine sumP_congr (fun v hv => ?_)
      show G39 (100 * v + 10 * (g10 v).toNat + (g26 v).toNat) = _
      rw [k10 v (by omega), k26 v (by omega)]
      have d1 := dgt_bd n p v
      have d2 := dgt_bd n q v
      exact u1 v hv _ _ (by omega) (by omega)
    · refine rz_if_ne (t := 35) dX11_score_29 rfl (by omega) (fun q => absurd q (by decide)) (fun _ => ?_)
      refine rz_ldc (x := (-2000000000)) dX11_score_32 kk_RX11_187 (by decide) ?_
      refine rz_iret dX11_score_34 rfl ?_
      exact ⟨_, rfl, by rw [scoZ, if_neg (fun q => b26 q.2)], ⟨g10, g26, Or.inr rfl⟩, rfl⟩
  · refine rz_if_eq (t := 32) dX11_score_13 rfl (by omega) (fun _ => ?_) (fun q => absurd q (by decide))
    refine rz_ldc (x := (-2000000000)) dX11_score_32 kk_RX11_187 (by decide) ?_
    refine rz_iret dX11_score_34 rfl ?_
    exact ⟨_, rfl, by rw [scoZ, if_neg (fun q => b10 q.1)], ⟨g10, I 80, Or.inr (by funext d; by_cases h80 : d = 80; subst h80; rfl; simp [upA, h80])⟩, rfl⟩
def FhW (I : IM) (lw : Lw) (n : Nat) (A : IM) : Prop := FhQ I lw n A ∨ A = I
set_option maxRecDepth 20000 in
set_option maxHeartbeats 400000 in
theorem c_X12_score {X : pX} {I J : IM} {h : Nat} (lw : Lw) (hlw : LawI I lw) (n : Nat) (hn : I 81 1 = n ∧ n ≤ 5) (hl : ∀ b : Nat, b < 2 → 0 ≤ I 85 b ∧ I 85 b ≤ 9) (hr : RgTR I n) (p q : Int) (hp : rg p) (hq : rg q)  : KIq X (h + 5) mX12_score [.ref 81, zi p, zi q] I J (fun z A B => z = scoZ lw n (I 82) (I 83) (I 84) (I 85) p q ∧ (∃ I2, (∀ d, d ≠ 93 → d ≠ 103 → I2 d = I d) ∧ FhW I2 lw n A) ∧ J = B) := by
  show Rz X (h + 5) mX12_score 0 [some (.ref 81), some (zi p), some (zi q), none, none] [] I J _
  refine rz_aload_n dX12_score_0 rfl ?_
  refine rz_iload_n dX12_score_1 rfl ?_
  refine rz_iconst dX12_score_2 ?_
  refine rz_cVIq dX12_score_3 kl_RX12_169 hd_81 ⟨_, _, rfl⟩ (c_X12_reads X _ I J n hn p 0 (by omega) (by omega) (hl 0 (by omega))) rfl rfl (Nat.le_of_ble_eq_true rfl) (Nat.le_of_ble_eq_true rfl) ?_
  rintro z3 _ _ ⟨g3, rfl, rfl, ⟨rfl, b3, k3⟩ | ⟨rfl, b3⟩⟩
  · refine rz_if_ne (t := 13) dX12_score_6 rfl (by omega) (fun _ => ?_) (fun q => absurd q (by decide))
    refine rz_iconst dX12_score_13 ?_
    refine rz_istore_n dX12_score_14 (by decide) rfl ?_
    refine rz_up (ls := fun v : Nat => [some (.ref 81), some (zi p), some (zi q), some (zi (v : Int)), none]) (IV := fun v : Nat => (copF (upA I 93 g3) 103 0 v g3)) (JV := fun v : Nat => J) (n) ⟨Or.inr rfl, Or.inr rfl, Or.inr rfl, Or.inr rfl, Or.inl rfl, trivial⟩ (copF_0) (rfl) ?_ ?_
    · intro v hv ihv
      refine rz_iload_n dX12_score_15 rfl ?_
      refine rz_aload_n dX12_score_16 rfl ?_
      refine rz_getI (z := (n : Int)) dX12_score_17 kf_RX12_137 hd_81 rfl (hn.1) ?_
      refine rz_icmp_ge (t := 41) dX12_score_20 rfl (by omega) (by omega) (fun c20 => ?_) (fun c20 => ?_)
      · exfalso; omega
      · refine rz_aload_n dX12_score_23 rfl ?_
        refine rz_getR dX12_score_24 kf_RX12_75 hd_81 rfl rr_81_31 ?_
        refine rz_iload_n dX12_score_27 rfl ?_
        refine rz_aload_n dX12_score_28 rfl ?_
        refine rz_getR dX12_score_29 kf_RX12_44 hd_81 rfl rr_81_15 ?_
        refine rz_iload_n dX12_score_32 rfl ?_
        refine rz_ialdN (k := v) (z := (g3 v)) dX12_score_33 hd_93 (by decide) (by omega) (by omega) rfl ?_
        refine rz_iastN (k := v) dX12_score_34 hd_103 (by decide) (by omega) (by omega) ?_
        refine rz_iinc dX12_score_35 (by decide) rfl rfl rfl ?_
        refine rz_goto (t := 15) dX12_score_38 rfl ?_
        exact rz_bk ihv ⟨Or.inr rfl, Or.inr rfl, Or.inr rfl, Or.inr rfl, Or.inl rfl, trivial⟩ ((by rw [copF_step rfl, Nat.zero_add])) (rfl)
    · skip
      refine rz_iload_n dX12_score_15 rfl ?_
      refine rz_aload_n dX12_score_16 rfl ?_
      refine rz_getI (z := (n : Int)) dX12_score_17 kf_RX12_137 hd_81 rfl (hn.1) ?_
      refine rz_icmp_ge (t := 41) dX12_score_20 rfl (by omega) (by omega) (fun c20 => ?_) (fun c20 => ?_)
      · refine rz_aload_n dX12_score_41 rfl ?_
        refine rz_iload_n dX12_score_42 rfl ?_
        refine rz_iconst dX12_score_43 ?_
        refine rz_cVIq dX12_score_44 kl_RX12_169 hd_81 ⟨_, _, rfl⟩ (c_X12_reads X _ (copF (upA I 93 g3) 103 0 n g3) J n hn q 1 (by omega) (by omega) (hl 1 (by omega))) rfl rfl (Nat.le_of_ble_eq_true rfl) (Nat.le_of_ble_eq_true rfl) ?_
        rintro z44 _ _ ⟨g44, rfl, rfl, ⟨rfl, b44, k44⟩ | ⟨rfl, b44⟩⟩
        · refine rz_if_ne (t := 54) dX12_score_47 rfl (by omega) (fun _ => ?_) (fun q => absurd q (by decide))
          refine rz_aload_n dX12_score_54 rfl ?_
          refine rz_cVVq dX12_score_55 kl_RX12_257 hd_81 ⟨_, _, rfl⟩ (c_X12_findHas (I := (upA (copF (upA I 93 g3) 103 0 n g3) 93 g44)) lw (LawI_congr rfl rfl rfl rfl rfl rfl rfl rfl hlw) n hn hr) rfl rfl (Nat.le_of_ble_eq_true rfl) (Nat.le_of_ble_eq_true rfl) ?_
          rintro _ _ ⟨⟨F55, G55, H55, rfl, u1⟩, rfl⟩
          refine rz_iconst dX12_score_58 ?_
          refine rz_istore_n dX12_score_59 (by decide) rfl ?_
          refine rz_iconst dX12_score_60 ?_
          refine rz_istore dX12_score_61 (by decide) rfl ?_
          refine rz_up (ls := fun v : Nat => [some (.ref 81), some (zi p), some (zi q), some (zi (sumP (fun v => I 82 v * H55 (100 * v + 10 * (dgt n p v).toNat + (dgt n q v).toNat)) v)), some (zi (v : Int))]) (IV := fun v : Nat => (fhM (upA (copF (upA I 93 g3) 103 0 n g3) 93 g44) F55 G55 H55)) (JV := fun v : Nat => J) (n) ⟨Or.inr rfl, Or.inr rfl, Or.inr rfl, Or.inr rfl, Or.inr rfl, trivial⟩ (rfl) (rfl) ?_ ?_
          · intro v hv ihv
            refine rz_iload dX12_score_63 rfl ?_
            refine rz_aload_n dX12_score_65 rfl ?_
            refine rz_getI (z := (n : Int)) dX12_score_66 kf_RX12_137 hd_81 rfl (hn.1) ?_
            refine rz_icmp_ge (t := 101) dX12_score_69 rfl (by omega) (by omega) (fun c69 => ?_) (fun c69 => ?_)
            · exfalso; omega
            · refine rz_iload_n dX12_score_72 rfl ?_
              refine rz_aload_n dX12_score_73 rfl ?_
              refine rz_iload dX12_score_74 rfl ?_
              refine rz_aload_n dX12_score_76 rfl ?_
              refine rz_getR dX12_score_77 kf_RX12_75 hd_81 rfl rr_81_31 ?_
              refine rz_iload dX12_score_80 rfl ?_
              refine rz_ialdN (k := v) (z := (dgt n p v)) dX12_score_82 hd_103 (by decide) (by omega) (by omega) ((if_pos ⟨Nat.zero_le _, by omega⟩).trans (k3 v (by omega))) ?_
              refine rz_aload_n dX12_score_83 rfl ?_
              refine rz_getR dX12_score_84 kf_RX12_44 hd_81 rfl rr_81_15 ?_
              refine rz_iload dX12_score_87 rfl ?_
              refine rz_ialdN (k := v) (z := (dgt n q v)) dX12_score_89 hd_93 (by decide) (by omega) (by omega) (k44 v (by omega)) ?_
              refine rz_cVI dX12_score_90 kl_RX12_260 hd_81 ⟨_, _, rfl⟩ ((by have d1 := dgt_bd n p v; have d2 := dgt_bd n q v; have w2 := c_X12_valueOf X (h + 4) (fhM (upA (copF (upA I 93 g3) 103 0 n g3) 93 g44) F55 G55 H55) J v (dgt n p v).toNat (dgt n q v).toNat (by omega) (by omega) (by omega); rw [show (((dgt n p v).toNat : Nat) : Int) = dgt n p v by omega, show (((dgt n q v).toNat : Nat) : Int) = dgt n q v by omega] at w2; exact w2)) rfl rfl (Nat.le_of_ble_eq_true rfl) (Nat.le_of_ble_eq_true rfl) ?_
              refine rz_iadd dX12_score_93 ?_
              refine rz_istore_n dX12_score_94 (by decide) rfl ?_
              refine rz_iinc dX12_score_95 (by decide) rfl rfl rfl ?_
              refine rz_goto (t := 63) dX12_score_98 rfl ?_
              exact rz_bk ihv ⟨Or.inr rfl, Or.inr rfl, Or.inr rfl, Or.inr rfl, Or.inr rfl, trivial⟩ (rfl) (rfl)
          · skip
            refine rz_iload dX12_score_63 rfl ?_
            refine rz_aload_n dX12_score_65 rfl ?_
            refine rz_getI (z := (n : Int)) dX12_score_66 kf_RX12_137 hd_81 rfl (hn.1) ?_
            refine rz_icmp_ge (t := 101) dX12_score_69 rfl (by omega) (by omega) (fun c69 => ?_) (fun c69 => ?_)
            · refine rz_iload_n dX12_score_101 rfl ?_
              refine rz_iret dX12_score_102 rfl ?_
              refine ⟨_, rfl, ?_, ⟨(upA (copF (upA I 93 g3) 103 0 n g3) 93 g44), fun d h1 h2 => by simp [copF, upA, h1, h2], Or.inl ⟨F55, G55, H55, rfl, u1⟩⟩, rfl⟩
              rw [scoZ, if_pos ⟨b3, b44⟩]
              refine sumP_congr (fun v hv => ?_)
              have d1 := dgt_bd n p v
              have d2 := dgt_bd n q v
              exact congrArg (fun z => I 82 v * z) (u1 v hv _ _ (by omega) (by omega))
            · exfalso; omega
        · refine rz_if_ne (t := 54) dX12_score_47 rfl (by omega) (fun q => absurd q (by decide)) (fun _ => ?_)
          refine rz_ldcw (x := (-2000000000)) dX12_score_50 kk_RX12_256 (by decide) ?_
          refine rz_iret dX12_score_53 rfl ?_
          exact ⟨_, rfl, by rw [scoZ, if_neg (fun q => b44 q.2)], ⟨_, fun d h1 h2 => by simp [copF, upA, h1, h2], Or.inr rfl⟩, rfl⟩
      · exfalso; omega
  · refine rz_if_ne (t := 13) dX12_score_6 rfl (by omega) (fun q => absurd q (by decide)) (fun _ => ?_)
    refine rz_ldcw (x := (-2000000000)) dX12_score_9 kk_RX12_256 (by decide) ?_
    refine rz_iret dX12_score_12 rfl ?_
    exact ⟨_, rfl, by rw [scoZ, if_neg (fun q => b3 q.1)], ⟨_, fun d h1 h2 => by simp [copF, upA, h1, h2], Or.inr rfl⟩, rfl⟩
