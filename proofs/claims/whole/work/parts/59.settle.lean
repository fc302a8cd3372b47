/-! what all loaves bring, kept by the class and by the reference -/
abbrev ptsV (lw : Lw) (W T U : Nat → Int) (v a b : Nat) : Int := W v * hasV lw (W v) (T v) (U v) v a b
abbrev hvV (lw : Lw) (W T U : Nat → Int) (v a b : Nat) : Int := hasV lw (W v) (T v) (U v) v a b
theorem LawI_congr {I A : IM} {lw : Lw} (h1 : A 1 7 = I 1 7) (h4 : A 4 = I 4) (h81 : A 81 29 = I 81 29) (h95 : A 95 = I 95) (h96 : A 96 = I 96) (h97 : A 97 0 = I 97 0) (h98 : A 98 = I 98) (h99 : A 99 = I 99) (h : LawI I lw) : LawI A lw := by
  cases lw with
  | none => exact ⟨h1.trans h.1, h81.trans h.2⟩
  | some pg =>
    obtain ⟨a1, a2, ⟨a3, a4, a5, a6⟩, ⟨a7, a8, a9⟩, a10, a11⟩ := h
    refine ⟨a1, h81.trans a2, ⟨h1.trans a3, a4, a5, by rw [h4]; exact a6⟩, ⟨h97.trans a7, by rw [h95, h96]; exact a8, by rw [h98, h99]; exact a9⟩, a10, a11⟩
def setM (I : IM) (n : Int) (F G S : Nat → Int) : IM := upA (upA (scr I n F) 11 G) 12 S
theorem set_0 {I : IM} : setM I (I 1 9) (I 5) (I 11) (I 12) = I := by
  unfold setM
  rw [scr_id, upA_id, upA_id]
theorem scr_set {I : IM} {n m : Int} {F F2 G S : Nat → Int} : scr (setM I n F G S) m F2 = setM I m F2 G S := by
  funext d
  by_cases h1 : d = 1
  · subst h1
    funext j
    show up1 (up1 (I 1) 9 n) 9 m j = up1 (I 1) 9 m j
    unfold up1
    split <;> rfl
  · by_cases h5 : d = 5
    · subst h5; rfl
    · by_cases h11 : d = 11
      · subst h11; rfl
      · by_cases h12 : d = 12
        · subst h12; rfl
        · simp [setM, scr, upA, h1, h5, h11, h12]
theorem set_11 {I : IM} {n : Int} {F G S : Nat → Int} {k : Nat} {z : Int} : setM I n F (up1 G k z) S = upA (setM I n F G S) 11 (up1 (setM I n F G S 11) k z) := by
  funext d
  by_cases h12 : d = 12
  · subst h12; rfl
  · by_cases h11 : d = 11
    · subst h11; rfl
    · simp [setM, upA, h11, h12]
theorem set_12 {I : IM} {n : Int} {F G S : Nat → Int} {k : Nat} {z : Int} : setM I n F G (up1 S k z) = upA (setM I n F G S) 12 (up1 (setM I n F G S 12) k z) := by
  unfold setM; rw [upA_upA]; rfl
abbrev RgT (I : IM) (n : Nat) : Prop := ∀ v : Nat, v < n → (0 ≤ I 7 v ∧ I 7 v ≤ 9) ∧ (0 ≤ I 8 v ∧ I 8 v ≤ 9) ∧ 0 ≤ I 9 v ∧ I 9 v ≤ 9
abbrev RgTR (I : IM) (n : Nat) : Prop := ∀ v : Nat, v < n → (0 ≤ I 82 v ∧ I 82 v ≤ 9) ∧ (0 ≤ I 83 v ∧ I 83 v ≤ 9) ∧ 0 ≤ I 84 v ∧ I 84 v ≤ 9
/-- what is settled is right -/
def CchI (I : IM) (lw : Lw) (n : Nat) : Prop := ∀ v : Nat, v < 5 → (I 12 v = 0 ∨ I 12 v = 1) ∧ (n ≤ v → I 12 v = 0) ∧ (I 12 v = 1 → ∀ a b : Nat, a ≤ 9 → b ≤ 9 → I 11 (100 * v + 10 * a + b) = ptsV lw (I 7) (I 8) (I 9) v a b)
def SetQ (I : IM) (lw : Lw) (n : Nat) (A : IM) : Prop := ∃ m F G S, A = setM I m F G S ∧ (∀ v : Nat, v < n → ∀ a b : Nat, a ≤ 9 → b ≤ 9 → G (100 * v + 10 * a + b) = ptsV lw (I 7) (I 8) (I 9) v a b) ∧ (∀ v : Nat, v < n → S v = 1) ∧ ∀ v : Nat, n ≤ v → S v = I 12 v
theorem SetQ_c {I A : IM} {lw : Lw} {n : Nat} (hc : CchI I lw n) (h : SetQ I lw n A) : CchI A lw n := by
  obtain ⟨m, F, G, S, rfl, h1, h2, h3⟩ := h
  intro v hv
  obtain ⟨c1, c2, c3⟩ := hc v hv
  by_cases e : v < n
  · have := h2 v e
    exact ⟨Or.inr this, fun q => absurd e (by omega), fun _ a b ha hb => h1 v e a b ha hb⟩
  · have h4 : S v = I 12 v := h3 v (by omega)
    refine ⟨by show S v = 0 ∨ S v = 1; rw [h4]; exact c1, fun q => by show S v = 0; rw [h4]; exact c2 q, fun q => ?_⟩
    have q2 : S v = 1 := q
    have := c2 (by omega)
    omega
abbrev StS : Type := Int × (Nat → Int) × (Nat → Int) × (Nat → Int)
def StI (I : IM) (lw : Lw) (v : Nat) (G S : Nat → Int) : Prop := (∀ u : Nat, u < v → ∀ a b : Nat, a ≤ 9 → b ≤ 9 → G (100 * u + 10 * a + b) = ptsV lw (I 7) (I 8) (I 9) u a b) ∧ (∀ u : Nat, u < v → S u = 1) ∧ (∀ u : Nat, v ≤ u → S u = I 12 u) ∧ ∀ j : Nat, 100 * v ≤ j → G j = I 11 j
theorem StI_skip {I : IM} {lw : Lw} {v n : Nat} {G S : Nat → Int} (hv : v < 5) (hc : CchI I lw n) (h : StI I lw v G S) (h1 : S v = 1) : StI I lw (v + 1) G S := by
  obtain ⟨g1, g2, g3, g4⟩ := h
  have e : I 12 v = 1 := by rw [← g3 v (Nat.le_refl _)]; exact h1
  refine ⟨fun u hu a b ha hb => ?_, fun u hu => ?_, fun u hu => g3 u (by omega), fun j hj => g4 j (by omega)⟩
  · by_cases q : u < v
    · exact g1 u q a b ha hb
    · obtain rfl : u = v := by omega
      rw [g4 _ (by omega)]
      exact (hc u hv).2.2 e a b ha hb
  · by_cases q : u < v
    · exact g2 u q
    · obtain rfl : u = v := by omega
      exact h1
/-- within a village: so many pairs are done -/
def StP (I : IM) (lw : Lw) (v p : Nat) (G G2 : Nat → Int) : Prop := (∀ j : Nat, j < p → G2 (100 * v + j) = ptsV lw (I 7) (I 8) (I 9) v (j / 10) (j % 10)) ∧ ∀ j : Nat, (j < 100 * v ∨ 100 * v + 100 ≤ j) → G2 j = G j
theorem StP_0 {I : IM} {lw : Lw} {v : Nat} {G : Nat → Int} : StP I lw v 0 G G := ⟨fun j hj => absurd hj (by omega), fun j _ => rfl⟩
theorem StP_s {I : IM} {lw : Lw} {v p : Nat} {G G2 : Nat → Int} {z : Int} (hp : p < 100) (h : StP I lw v p G G2) (hz : z = ptsV lw (I 7) (I 8) (I 9) v (p / 10) (p % 10)) : StP I lw v (p + 1) G (up1 G2 (100 * v + p) z) := by
  refine ⟨fun j hj => ?_, fun j hj => ?_⟩
  · by_cases e : j = p
    · subst e; rw [up1_self]; exact hz
    · rw [up1_ne (by omega)]; exact h.1 j (by omega)
  · rw [up1_ne (by omega)]; exact h.2 j hj
theorem StP_end {I : IM} {lw : Lw} {v : Nat} {G G2 S : Nat → Int} (h : StI I lw v G S) (h2 : StP I lw v 100 G G2) : StI I lw (v + 1) G2 (up1 S v 1) := by
  obtain ⟨g1, g2, g3, g4⟩ := h
  refine ⟨fun u hu a b ha hb => ?_, fun u hu => ?_, fun u hu => ?_, fun j hj => ?_⟩
  · by_cases q : u < v
    · rw [h2.2 _ (by omega)]; exact g1 u q a b ha hb
    · obtain rfl : u = v := by omega
      have := h2.1 (10 * a + b) (by omega)
      rw [show (10 * a + b) / 10 = a by omega, show (10 * a + b) % 10 = b by omega] at this
      rw [← this]; congr 1; omega
  · by_cases q : u < v
    · rw [up1_ne (by omega)]; exact g2 u q
    · obtain rfl : u = v := by omega
      exact up1_self
  · rw [up1_ne (by omega)]; exact g3 u (by omega)
  · rw [h2.2 _ (by omega)]; exact g4 j (by omega)
set_option maxRecDepth 20000 in
set_option maxHeartbeats 400000 in
theorem c_X8_settle {X : pX} {I J : IM} {h : Nat} (lw : Lw) (hlw : LawI I lw) (n : Nat) (hn : I 6 0 = n ∧ n ≤ 5) (hr : RgT I n) (hc : CchI I lw n) : KVq X (h + 4) mX8_settle [.ref 6] I J (fun A B => SetQ I lw n A ∧ J = B) := by
  show Rz X (h + 4) mX8_settle 0 [some (.ref 6), none, none] [] I J _
  refine rz_iconst dX8_settle_0 ?_
  refine rz_istore_n dX8_settle_1 (by decide) rfl ?_
  refine rz_upx (σ := StS) (Inv := fun q sq => StI I lw q sq.2.2.1 sq.2.2.2) (ls := fun (q : Nat) sq => [some (.ref 6), some (zi (q : Int)), none]) (IV := fun (q : Nat) sq => (setM I sq.1 sq.2.1 sq.2.2.1 sq.2.2.2)) (JV := fun (q : Nat) sq => J) (n) ((I 1 9, I 5, I 11, I 12)) ⟨fun u hu => absurd hu (by omega), fun u hu => absurd hu (by omega), fun u _ => rfl, fun j _ => rfl⟩ ⟨Or.inr rfl, Or.inr rfl, Or.inl rfl, trivial⟩ (set_0) (rfl) ?_ ?_
  · intro q sq hq qq ihq
    obtain ⟨n1, F1, G1, S⟩ := sq
    have qq : StI I lw q G1 S := qq
    have h3 : S q = I 12 q := qq.2.2.1 q (Nat.le_refl _)
    have hc3 := hc q (by omega)
    have hr3 := hr q hq
    refine rz_to (ls' := [some (.ref 6), some (zi (q : Int)), none]) (I' := (setM I n1 F1 G1 S)) (J' := J) ⟨Or.inr rfl, Or.inr rfl, Or.inl rfl, trivial⟩ rfl rfl ?_
    refine rz_iload_n dX8_settle_2 rfl ?_
    refine rz_aload_n dX8_settle_3 rfl ?_
    refine rz_getI (z := (n : Int)) dX8_settle_4 kf_RX8_35 hd_6 rfl (hn.1) ?_
    refine rz_icmp_ge (t := 73) dX8_settle_7 rfl (by omega) (by omega) (fun c7 => ?_) (fun c7 => ?_)
    · exfalso; omega
    · refine rz_aload_n dX8_settle_10 rfl ?_
      refine rz_getR dX8_settle_11 kf_RX8_27 hd_6 rfl rr_6_6 ?_
      refine rz_iload_n dX8_settle_14 rfl ?_
      refine rz_zaldN (k := q) (z := (S q)) dX8_settle_15 hd_12 (by decide) (by omega) (by omega) rfl ?_
      refine rz_if_eq (t := 22) dX8_settle_16 rfl (by omega) (fun c16 => ?_) (fun c16 => ?_)
      · refine rz_iconst dX8_settle_22 ?_
        refine rz_istore_n dX8_settle_23 (by decide) rfl ?_
        refine rz_upx (σ := Int × (Nat → Int) × (Nat → Int)) (Inv := fun p sp => StP I lw q p G1 sp.2.2) (ls := fun (p : Nat) sp => [some (.ref 6), some (zi (q : Int)), some (zi (p : Int))]) (IV := fun (p : Nat) sp => (setM I sp.1 sp.2.1 sp.2.2 S)) (JV := fun (p : Nat) sp => J) (100) ((n1, F1, G1)) StP_0 ⟨Or.inr rfl, Or.inr rfl, Or.inr rfl, trivial⟩ (rfl) (rfl) ?_ ?_
        · intro p sp hp qp ihp
          obtain ⟨n2, F2, G2⟩ := sp
          have qp : StP I lw q p G1 G2 := qp
          refine rz_to (ls' := [some (.ref 6), some (zi (q : Int)), some (zi (p : Int))]) (I' := (setM I n2 F2 G2 S)) (J' := J) ⟨Or.inr rfl, Or.inr rfl, Or.inr rfl, trivial⟩ rfl rfl ?_
          refine rz_iload_n dX8_settle_24 rfl ?_
          refine rz_bipush dX8_settle_25 (by decide) ?_
          refine rz_icmp_ge (t := 60) dX8_settle_27 rfl (by omega) (by omega) (fun c27 => ?_) (fun c27 => ?_)
          · exfalso; omega
          · refine rz_aload_n dX8_settle_30 rfl ?_
            refine rz_getR dX8_settle_31 kf_RX8_24 hd_6 rfl rr_6_5 ?_
            refine rz_iload_n dX8_settle_34 rfl ?_
            refine rz_bipush dX8_settle_35 (by decide) ?_
            refine rz_imul dX8_settle_37 ?_
            refine rz_iload_n dX8_settle_38 rfl ?_
            refine rz_iadd dX8_settle_39 ?_
            refine rz_aload_n dX8_settle_40 rfl ?_
            refine rz_iload_n dX8_settle_41 rfl ?_
            refine rz_iload_n dX8_settle_42 rfl ?_
            refine rz_bipush dX8_settle_43 (by decide) ?_
            refine rz_idiv dX8_settle_45 (by omega) (by omega) ?_
            refine rz_iload_n dX8_settle_46 rfl ?_
            refine rz_bipush dX8_settle_47 (by decide) ?_
            refine rz_irem dX8_settle_49 (by omega) (by omega) ?_
            refine rz_cVIq dX8_settle_50 kl_RX8_50 hd_6 ⟨_, _, rfl⟩ (c_X8_judged (I := setM I n2 F2 G2 S) lw (LawI_congr rfl rfl rfl rfl rfl rfl rfl rfl hlw) q ((p : Int) / 10) ((p : Int) % 10) (by omega) (by omega) (by omega) (by show rg (I 7 q); omega) (by show rg (I 8 q); omega) (by show rg (I 9 q); omega)) rfl rfl (Nat.le_of_ble_eq_true rfl) (Nat.le_of_ble_eq_true rfl) ?_
            rintro _ _ _ ⟨rfl, ⟨n50, F50, rfl⟩, rfl⟩
            refine rz_mem (I' := (setM I n50 F50 G2 S)) (J' := J) (scr_set.symm) (rfl) ?_
            refine rz_iastN (k := (100 * q + p)) dX8_settle_53 hd_11 (by decide) (by omega) (by omega) ?_
            refine rz_iinc dX8_settle_54 (by decide) rfl rfl rfl ?_
            refine rz_goto (t := 24) dX8_settle_57 rfl ?_
            exact rz_bk (ihp ((n50, F50, up1 G2 (100 * q + p) (I 7 q * hasV lw (I 7 q) (I 8 q) (I 9 q) (q : Int) ((p : Int) / 10) ((p : Int) % 10)))) (StP_s hp qp rfl)) ⟨Or.inr rfl, Or.inr rfl, Or.inr rfl, trivial⟩ (set_11) (rfl)
        · intro sp qp
          refine rz_iload_n dX8_settle_24 rfl ?_
          refine rz_bipush dX8_settle_25 (by decide) ?_
          refine rz_icmp_ge (t := 60) dX8_settle_27 rfl (by omega) (by omega) (fun c27 => ?_) (fun c27 => ?_)
          · refine rz_aload_n dX8_settle_60 rfl ?_
            refine rz_getR dX8_settle_61 kf_RX8_27 hd_6 rfl rr_6_6 ?_
            refine rz_iload_n dX8_settle_64 rfl ?_
            refine rz_iconst dX8_settle_65 ?_
            refine rz_zastN (k := q) dX8_settle_66 hd_12 (by decide) (by omega) (by omega) (by omega) ?_
            refine rz_iinc dX8_settle_67 (by decide) rfl rfl rfl ?_
            refine rz_goto (t := 2) dX8_settle_70 rfl ?_
            exact rz_bk (ihq ((sp.1, sp.2.1, sp.2.2, up1 S q 1)) (StP_end qq qp)) ⟨Or.inr rfl, Or.inr rfl, Or.inl rfl, trivial⟩ (set_12) (rfl)
          · exfalso; omega
      · refine rz_goto (t := 67) dX8_settle_19 rfl ?_
        refine rz_iinc dX8_settle_67 (by decide) rfl rfl rfl ?_
        refine rz_goto (t := 2) dX8_settle_70 rfl ?_
        exact rz_bk (ihq ((n1, F1, G1, S)) (StI_skip (by omega) hc qq (show S q = 1 by omega))) ⟨Or.inr rfl, Or.inr rfl, Or.inl rfl, trivial⟩ (rfl) (rfl)
  · intro sq qq
    refine rz_iload_n dX8_settle_2 rfl ?_
    refine rz_aload_n dX8_settle_3 rfl ?_
    refine rz_getI (z := (n : Int)) dX8_settle_4 kf_RX8_35 hd_6 rfl (hn.1) ?_
    refine rz_icmp_ge (t := 73) dX8_settle_7 rfl (by omega) (by omega) (fun c7 => ?_) (fun c7 => ?_)
    · refine rz_vret dX8_settle_73 rfl ?_
      exact ⟨rfl, ⟨_, _, _, _, rfl, qq.1, qq.2.1, qq.2.2.1⟩, rfl⟩
    · exfalso; omega
