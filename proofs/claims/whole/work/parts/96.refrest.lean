/-! rest, the reference -/
theorem HiOf_1 {f : Nat → Int} : HiOf f 1 (f 0) := ⟨fun x hx => by obtain rfl : x = 0 := by omega
                                                                   exact Int.le_refl _, 0, by omega, rfl⟩
theorem HiOf_y {f : Nat → Int} {k : Nat} {z : Int} (h : k = 0 ∨ HiOf f k z) (hz : k = 0 ∨ z < f k) : HiOf f (k + 1) (f k) := by
  refine ⟨fun x hx => ?_, k, by omega, rfl⟩
  by_cases e : x = k
  · subst e; exact Int.le_refl _
  · have h2 := (h.resolve_left (by omega)).1 x (by omega)
    have h3 := hz.resolve_left (by omega)
    omega
theorem HiOf_n {f : Nat → Int} {k : Nat} {z : Int} (h : HiOf f k z) (hz : ¬ z < f k) : HiOf f (k + 1) z := by
  obtain ⟨h1, x, h2, h3⟩ := h
  refine ⟨fun y hy => ?_, x, by omega, h3⟩
  by_cases e : y = k
  · subst e; omega
  · exact h1 y (by omega)
theorem HiOf_eq {f : Nat → Int} {k : Nat} {a b : Int} (h : HiOf f k a) (h2 : HiOf f k b) : a = b := by
  obtain ⟨a1, x, a2, a3⟩ := h
  obtain ⟨b1, y, b2, b3⟩ := h2
  have := a1 y b2
  have := b1 x a2
  omega
theorem LoOf_y {f : Nat → Int} {k : Nat} {z : Int} (h : k = 0 ∨ LoOf f k z) (hz : k = 0 ∨ f k < z) : LoOf f (k + 1) (f k) := by
  refine ⟨fun x hx => ?_, k, by omega, rfl⟩
  by_cases e : x = k
  · subst e; exact Int.le_refl _
  · have h2 := (h.resolve_left (by omega)).1 x (by omega)
    have h3 := hz.resolve_left (by omega)
    omega
theorem LoOf_n {f : Nat → Int} {k : Nat} {z : Int} (h : LoOf f k z) (hz : ¬ f k < z) : LoOf f (k + 1) z := by
  obtain ⟨h1, x, h2, h3⟩ := h
  refine ⟨fun y hy => ?_, x, by omega, h3⟩
  by_cases e : y = k
  · subst e; omega
  · exact h1 y (by omega)
theorem LoOf_eq {f : Nat → Int} {k : Nat} {a b : Int} (h : LoOf f k a) (h2 : LoOf f k b) : a = b := by
  obtain ⟨a1, x, a2, a3⟩ := h
  obtain ⟨b1, y, b2, b3⟩ := h2
  have := a1 y b2
  have := b1 x a2
  omega
def scS (lw : Lw) (W T U : Nat → Int) (n N0 N1 i j : Nat) : Int := scP lw W T U n ((rowsL n N0 true).getD i []) ((rowsL n N1 true).getD j [])
theorem scS_bd {lw : Lw} {W T U : Nat → Int} {n N0 N1 i j : Nat} (hn : n ≤ 5) (hW : ∀ v, v < n → 0 ≤ W v ∧ W v ≤ 9) : -45 ≤ scS lw W T U n N0 N1 i j ∧ scS lw W T U n N0 N1 i j ≤ 45 := scP_bd hn (Nat.le_refl n) hW
set_option maxRecDepth 20000 in
set_option maxHeartbeats 400000 in
theorem rest_r0 {X : pX} {I J : IM} {h : Nat} {lw : Lw} {n : Nat} {m0 m1 : Mx} (hq : RqI I lw n m0 m1) (hbk : BOK I) : KIq X (h + 9) mX12_rest [.ref 81, zi 0] I J (fun z A B => z = resZ lw (I 82) (I 83) (I 84) (I 85) n 0 ∧ FrR I A ∧ J = B) := by
  obtain ⟨h1, h2, h3, h5, h6, h7⟩ := hq
  have h80 := h7 0 (by decide)
  have h81 := h7 1 (by decide)
  show Rz X (h + 9) mX12_rest 0 [some (.ref 81), some (zi 0), none, none, none, none] [] I J _
  refine rz_iload_n dX12_rest_0 rfl ?_
  refine rz_iconst dX12_rest_1 ?_
  refine rz_iconst dX12_rest_2 ?_
  refine rz_cSIq dX12_rest_3 kl_RX12_140 (c_X12_in X _ I J 0 0 2 (by omega) (by omega) (by omega)) rfl rfl (Nat.le_of_ble_eq_true rfl) (Nat.le_of_ble_eq_true rfl) ?_
  rintro z3 A3 B3 ⟨⟨rfl, b3⟩ | ⟨rfl, b3⟩, rfl, rfl⟩
  · refine rz_if_ne (t := 13) dX12_rest_6 rfl (by omega) (fun _ => ?_) (fun q => absurd q (by decide))
    refine rz_aload_n dX12_rest_13 rfl ?_
    refine rz_cVIq dX12_rest_14 kl_RX12_335 hd_81 ⟨_, _, rfl⟩ (c_X12_findBoth lw h1 n h2 h3 (I 85 0).toNat (I 85 1).toNat ⟨by omega, by omega⟩ ⟨by omega, by omega⟩ hbk) rfl rfl (Nat.le_of_ble_eq_true rfl) (Nat.le_of_ble_eq_true rfl) ?_
    rintro z14 A14 _ ⟨⟨rfl, m14, ⟨du14, e109⟩, fr14⟩ | ⟨rfl, m14, fr14⟩, rfl⟩
    · refine rz_if_ne (t := 23) dX12_rest_17 rfl (by omega) (fun _ => ?_) (fun q => absurd q (by decide))
      obtain ⟨d1, d2, d3, d4, d5, d6⟩ := du14
      have e82 : A14 82 = I 82 := fr14.1 82 (by decide)
      have e83 : A14 83 = I 83 := fr14.1 83 (by decide)
      have e84 : A14 84 = I 84 := fr14.1 84 (by decide)
      have hl0 := m14.1.2
      have hl1 := m14.2.2
      have hg1 := m14.2.1
      have hW9 : ∀ v, v < n → 0 ≤ I 82 v ∧ I 82 v ≤ 9 := fun v hv => (h3 v hv).1
      have hlo := fun i => wst_lo (lw := lw) (T := I 83) (U := I 84) (L := (rowsL n (I 85 0).toNat true)) h2.2 (by omega : (I 85 1).toNat ≤ 9) hW9 m14.2.1 i
      have hhi := fun j => wst_hi (lw := lw) (T := I 83) (U := I 84) (L := (rowsL n (I 85 1).toNat true)) h2.2 (by omega : (I 85 0).toNat ≤ 9) hW9 m14.1.1 j
      have hra := rest_at (lw := lw) (T := I 83) (U := I 84) h2.2 (by omega : (I 85 0).toNat ≤ 9) (by omega : (I 85 1).toNat ≤ 9) hW9 m14
      refine rz_iconst dX12_rest_23 ?_
      refine rz_istore_n dX12_rest_24 (by decide) rfl ?_
      refine rz_upx (σ := Nat → Int) (Inv := fun j sj => ∀ x, x < j → sj x = (-(wstF 1 lw (I 82) (I 83) (I 84) n (rowsL n (I 85 1).toNat true) (I 85 0).toNat x))) (ls := fun (j : Nat) sj => [some (.ref 81), some (zi 0), some (zi (j : Int)), none, none, none]) (IV := fun (j : Nat) sj => (upA A14 110 sj)) (JV := fun (j : Nat) sj => J) ((rowsL n (I 85 1).toNat true).length) ((A14 110)) (fun x hx => absurd hx (by omega)) ⟨Or.inr rfl, Or.inr rfl, Or.inr rfl, Or.inl rfl, Or.inl rfl, Or.inl rfl, trivial⟩ (upA_id) (rfl) ?_ ?_
      · intro j sj hj qj ihj
        have hwdj := (rowsL_ok (n := n) (left := (I 85 1).toNat) (all := true) (by omega) _ (List.mem_of_getElem? (getD_get hj))).2
        refine rz_iload_n dX12_rest_25 rfl ?_
        refine rz_aload_n dX12_rest_26 rfl ?_
        refine rz_getI (z := ((rowsL n (I 85 1).toNat true).length : Int)) dX12_rest_27 kf_RX12_332 hd_81 rfl (d2) ?_
        refine rz_icmp_ge (t := 86) dX12_rest_30 rfl (by omega) (by omega) (fun c30 => ?_) (fun c30 => ?_)
        · exfalso; omega
        · refine rz_iconst dX12_rest_33 ?_
          refine rz_istore_n dX12_rest_34 (by decide) rfl ?_
          refine rz_upx (σ := Nat → Int) (Inv := fun i si => (i = 0 ∨ HiOf (fun x => (scS lw (I 82) (I 83) (I 84) n (I 85 0).toNat (I 85 1).toNat) x j) i (si j)) ∧ ∀ x, x < j → si x = (-(wstF 1 lw (I 82) (I 83) (I 84) n (rowsL n (I 85 1).toNat true) (I 85 0).toNat x))) (ls := fun (i : Nat) si => [some (.ref 81), some (zi 0), some (zi (j : Int)), some (zi (i : Int)), none, none]) (IV := fun (i : Nat) si => (upA A14 110 si)) (JV := fun (i : Nat) si => J) ((rowsL n (I 85 0).toNat true).length) (sj) ⟨Or.inl rfl, qj⟩ ⟨Or.inr rfl, Or.inr rfl, Or.inr rfl, Or.inr rfl, Or.inl rfl, Or.inl rfl, trivial⟩ (rfl) (rfl) ?_ ?_
          · intro i si hi qi ihi
            have hwdi := (rowsL_ok (n := n) (left := (I 85 0).toNat) (all := true) (by omega) _ (List.mem_of_getElem? (getD_get hi))).2
            have hsi : i = 0 ∨ (-45 ≤ si j ∧ si j ≤ 45) := qi.1.imp id (fun e => by obtain ⟨-, x, -, ex⟩ := e; have := scS_bd (lw := lw) (W := I 82) (T := I 83) (U := I 84) (N0 := (I 85 0).toNat) (N1 := (I 85 1).toNat) (i := x) (j := j) h2.2 hW9; have ex2 : si j = (scS lw (I 82) (I 83) (I 84) n (I 85 0).toNat (I 85 1).toNat) x j := ex; omega)
            refine rz_iload_n dX12_rest_35 rfl ?_
            refine rz_aload_n dX12_rest_36 rfl ?_
            refine rz_getI (z := ((rowsL n (I 85 0).toNat true).length : Int)) dX12_rest_37 kf_RX12_329 hd_81 rfl (d1) ?_
            refine rz_icmp_ge (t := 80) dX12_rest_40 rfl (by omega) (by omega) (fun c40 => ?_) (fun c40 => ?_)
            · exfalso; omega
            · refine rz_aload_n dX12_rest_43 rfl ?_
              refine rz_iload_n dX12_rest_44 rfl ?_
              refine rz_iload_n dX12_rest_45 rfl ?_
              refine rz_cVI dX12_rest_46 kl_RX12_349 hd_81 ⟨_, _, rfl⟩ (c_X12_scoreAt (I := upA A14 110 si) lw n ⟨d6, h2.2⟩ (fun v hv => by show 0 ≤ A14 82 v ∧ A14 82 v ≤ 9; rw [e82]; exact (h3 v hv).1) i j (by omega) (by omega) ((rowsL n (I 85 0).toNat true).getD i []) ((rowsL n (I 85 1).toNat true).getD j []) (fun v hv => ⟨d3 _ _ (getD_get hi) v hv, getD_le hwdi v⟩) (fun v hv => ⟨d4 _ _ (getD_get hj) v hv, getD_le hwdj v⟩) d5) rfl rfl (Nat.le_of_ble_eq_true rfl) (Nat.le_of_ble_eq_true rfl) ?_
              refine rz_ieq (y := (scS lw (I 82) (I 83) (I 84) n (I 85 0).toNat (I 85 1).toNat) i j) (by show (scS lw (I 82) (I 83) (I 84) n (I 85 0).toNat (I 85 1).toNat) i j = scP lw (A14 82) (A14 83) (A14 84) n _ _; rw [e82, e83, e84]; rfl) ?_
              have hsb := scS_bd (lw := lw) (W := I 82) (T := I 83) (U := I 84) (N0 := (I 85 0).toNat) (N1 := (I 85 1).toNat) (i := i) (j := j) h2.2 (fun v hv => (h3 v hv).1)
              refine rz_istore dX12_rest_49 (by decide) rfl ?_
              refine rz_iload_n dX12_rest_51 rfl ?_
              refine rz_if_eq (t := 66) dX12_rest_52 rfl (by omega) (fun c52 => ?_) (fun c52 => ?_)
              · refine rz_aload_n dX12_rest_66 rfl ?_
                refine rz_getR dX12_rest_67 kf_RX12_96 hd_81 rfl rr_81_43 ?_
                refine rz_iload_n dX12_rest_70 rfl ?_
                refine rz_iload dX12_rest_71 rfl ?_
                refine rz_iastN (k := j) dX12_rest_73 hd_110 (by decide) (by omega) (by omega) ?_
                refine rz_iinc dX12_rest_74 (by decide) rfl rfl rfl ?_
                refine rz_goto (t := 35) dX12_rest_77 rfl ?_
                exact rz_bk (ihi ((up1 si j ((scS lw (I 82) (I 83) (I 84) n (I 85 0).toNat (I 85 1).toNat) i j))) (⟨Or.inr (by rw [up1_self]; exact HiOf_y (f := (fun x => (scS lw (I 82) (I 83) (I 84) n (I 85 0).toNat (I 85 1).toNat) x j)) qi.1 (by show i = 0 ∨ si j < (scS lw (I 82) (I 83) (I 84) n (I 85 0).toNat (I 85 1).toNat) i j; omega)), fun x hx => (up1_ne (by omega)).trans (qi.2 x hx)⟩)) ⟨Or.inr rfl, Or.inr rfl, Or.inr rfl, Or.inr rfl, Or.inl rfl, Or.inl rfl, trivial⟩ (upA_upA.symm) (rfl)
              · refine rz_iload dX12_rest_55 rfl ?_
                refine rz_aload_n dX12_rest_57 rfl ?_
                refine rz_getR dX12_rest_58 kf_RX12_96 hd_81 rfl rr_81_43 ?_
                refine rz_iload_n dX12_rest_61 rfl ?_
                refine rz_ialdN (k := j) (z := (si j)) dX12_rest_62 hd_110 (by decide) (by omega) (by omega) rfl ?_
                refine rz_icmp_le (t := 74) dX12_rest_63 rfl (by omega) (by omega) (fun c63 => ?_) (fun c63 => ?_)
                · refine rz_iinc dX12_rest_74 (by decide) rfl rfl rfl ?_
                  refine rz_goto (t := 35) dX12_rest_77 rfl ?_
                  exact rz_bk (ihi (si) (⟨Or.inr (HiOf_n (f := (fun x => (scS lw (I 82) (I 83) (I 84) n (I 85 0).toNat (I 85 1).toNat) x j)) (qi.1.resolve_left (by omega)) (by show ¬ si j < (scS lw (I 82) (I 83) (I 84) n (I 85 0).toNat (I 85 1).toNat) i j; omega)), qi.2⟩)) ⟨Or.inr rfl, Or.inr rfl, Or.inr rfl, Or.inr rfl, Or.inl rfl, Or.inl rfl, trivial⟩ (rfl) (rfl)
                · refine rz_aload_n dX12_rest_66 rfl ?_
                  refine rz_getR dX12_rest_67 kf_RX12_96 hd_81 rfl rr_81_43 ?_
                  refine rz_iload_n dX12_rest_70 rfl ?_
                  refine rz_iload dX12_rest_71 rfl ?_
                  refine rz_iastN (k := j) dX12_rest_73 hd_110 (by decide) (by omega) (by omega) ?_
                  refine rz_iinc dX12_rest_74 (by decide) rfl rfl rfl ?_
                  refine rz_goto (t := 35) dX12_rest_77 rfl ?_
                  exact rz_bk (ihi ((up1 si j ((scS lw (I 82) (I 83) (I 84) n (I 85 0).toNat (I 85 1).toNat) i j))) (⟨Or.inr (by rw [up1_self]; exact HiOf_y (f := (fun x => (scS lw (I 82) (I 83) (I 84) n (I 85 0).toNat (I 85 1).toNat) x j)) qi.1 (by show i = 0 ∨ si j < (scS lw (I 82) (I 83) (I 84) n (I 85 0).toNat (I 85 1).toNat) i j; omega)), fun x hx => (up1_ne (by omega)).trans (qi.2 x hx)⟩)) ⟨Or.inr rfl, Or.inr rfl, Or.inr rfl, Or.inr rfl, Or.inl rfl, Or.inl rfl, trivial⟩ (upA_upA.symm) (rfl)
          · intro si qi
            have hg0 := m14.1.1
            refine rz_iload_n dX12_rest_35 rfl ?_
            refine rz_aload_n dX12_rest_36 rfl ?_
            refine rz_getI (z := ((rowsL n (I 85 0).toNat true).length : Int)) dX12_rest_37 kf_RX12_329 hd_81 rfl (d1) ?_
            refine rz_icmp_ge (t := 80) dX12_rest_40 rfl (by omega) (by omega) (fun c40 => ?_) (fun c40 => ?_)
            · refine rz_iinc dX12_rest_80 (by decide) rfl rfl rfl ?_
              refine rz_goto (t := 25) dX12_rest_83 rfl ?_
              exact rz_bk (ihj (si) ((fun x hx => by by_cases e : x = j; (subst e; exact HiOf_eq (qi.1.resolve_left (by omega)) (hhi x)); exact qi.2 x (by omega)))) ⟨Or.inr rfl, Or.inr rfl, Or.inr rfl, Or.inl rfl, Or.inl rfl, Or.inl rfl, trivial⟩ (rfl) (rfl)
            · exfalso; omega
      · intro sj qj
        refine rz_iload_n dX12_rest_25 rfl ?_
        refine rz_aload_n dX12_rest_26 rfl ?_
        refine rz_getI (z := ((rowsL n (I 85 1).toNat true).length : Int)) dX12_rest_27 kf_RX12_332 hd_81 rfl (d2) ?_
        refine rz_icmp_ge (t := 86) dX12_rest_30 rfl (by omega) (by omega) (fun c30 => ?_) (fun c30 => ?_)
        · refine rz_iconst dX12_rest_86 ?_
          refine rz_istore_n dX12_rest_87 (by decide) rfl ?_
          refine rz_upx (σ := Unit) (Inv := fun i si => ∀ x y, x < i → y < (rowsL n (I 85 1).toNat true).length → ¬ ((scS lw (I 82) (I 83) (I 84) n (I 85 0).toNat (I 85 1).toNat) x y = (wstF 0 lw (I 82) (I 83) (I 84) n (rowsL n (I 85 0).toNat true) (I 85 1).toNat) x ∧ (scS lw (I 82) (I 83) (I 84) n (I 85 0).toNat (I 85 1).toNat) x y = (-(wstF 1 lw (I 82) (I 83) (I 84) n (rowsL n (I 85 1).toNat true) (I 85 0).toNat y)))) (ls := fun (i : Nat) si => [some (.ref 81), some (zi 0), some (zi (i : Int)), none, none, none]) (IV := fun (i : Nat) si => (upA A14 110 sj)) (JV := fun (i : Nat) si => J) ((rowsL n (I 85 0).toNat true).length) (()) (fun x y hx => absurd hx (by omega)) ⟨Or.inr rfl, Or.inr rfl, Or.inr rfl, Or.inl rfl, Or.inl rfl, Or.inl rfl, trivial⟩ (rfl) (rfl) ?_ ?_
          · intro i si hi qi ihi
            have hwdi := (rowsL_ok (n := n) (left := (I 85 0).toNat) (all := true) (by omega) _ (List.mem_of_getElem? (getD_get hi))).2
            refine rz_iload_n dX12_rest_88 rfl ?_
            refine rz_aload_n dX12_rest_89 rfl ?_
            refine rz_getI (z := ((rowsL n (I 85 0).toNat true).length : Int)) dX12_rest_90 kf_RX12_329 hd_81 rfl (d1) ?_
            refine rz_icmp_ge (t := 236) dX12_rest_93 rfl (by omega) (by omega) (fun c93 => ?_) (fun c93 => ?_)
            · exfalso; omega
            · refine rz_iconst dX12_rest_96 ?_
              refine rz_istore_n dX12_rest_97 (by decide) rfl ?_
              refine rz_iconst dX12_rest_98 ?_
              refine rz_istore dX12_rest_99 (by decide) rfl ?_
              refine rz_upx (σ := Int) (Inv := fun k sk => (k = 0 ∧ sk = 0) ∨ (1 ≤ k ∧ LoOf ((scS lw (I 82) (I 83) (I 84) n (I 85 0).toNat (I 85 1).toNat) i) k sk)) (ls := fun (k : Nat) sk => [some (.ref 81), some (zi 0), some (zi (i : Int)), some (zi sk), some (zi (k : Int)), none]) (IV := fun (k : Nat) sk => (upA A14 110 sj)) (JV := fun (k : Nat) sk => J) ((rowsL n (I 85 1).toNat true).length) (0) (Or.inl ⟨rfl, rfl⟩) ⟨Or.inr rfl, Or.inr rfl, Or.inr rfl, Or.inr rfl, Or.inr rfl, Or.inl rfl, trivial⟩ (rfl) (rfl) ?_ ?_
              · intro k sk hk qk ihk
                have hwdk := (rowsL_ok (n := n) (left := (I 85 1).toNat) (all := true) (by omega) _ (List.mem_of_getElem? (getD_get hk))).2
                have hskb : -45 ≤ sk ∧ sk ≤ 45 := by
                  rcases qk with e | ⟨-, -, x, -, ex⟩
                  · omega
                  · have := scS_bd (lw := lw) (W := I 82) (T := I 83) (U := I 84) (N0 := (I 85 0).toNat) (N1 := (I 85 1).toNat) (i := i) (j := x) h2.2 hW9; omega
                refine rz_iload dX12_rest_101 rfl ?_
                refine rz_aload_n dX12_rest_103 rfl ?_
                refine rz_getI (z := ((rowsL n (I 85 1).toNat true).length : Int)) dX12_rest_104 kf_RX12_332 hd_81 rfl (d2) ?_
                refine rz_icmp_ge (t := 139) dX12_rest_107 rfl (by omega) (by omega) (fun c107 => ?_) (fun c107 => ?_)
                · exfalso; omega
                · refine rz_aload_n dX12_rest_110 rfl ?_
                  refine rz_iload_n dX12_rest_111 rfl ?_
                  refine rz_iload dX12_rest_112 rfl ?_
                  refine rz_cVI dX12_rest_114 kl_RX12_349 hd_81 ⟨_, _, rfl⟩ (c_X12_scoreAt (I := upA A14 110 sj) lw n ⟨d6, h2.2⟩ (fun v hv => by show 0 ≤ A14 82 v ∧ A14 82 v ≤ 9; rw [e82]; exact (h3 v hv).1) i k (by omega) (by omega) ((rowsL n (I 85 0).toNat true).getD i []) ((rowsL n (I 85 1).toNat true).getD k []) (fun v hv => ⟨d3 _ _ (getD_get hi) v hv, getD_le hwdi v⟩) (fun v hv => ⟨d4 _ _ (getD_get hk) v hv, getD_le hwdk v⟩) d5) rfl rfl (Nat.le_of_ble_eq_true rfl) (Nat.le_of_ble_eq_true rfl) ?_
                  refine rz_ieq (y := (scS lw (I 82) (I 83) (I 84) n (I 85 0).toNat (I 85 1).toNat) i k) (by show (scS lw (I 82) (I 83) (I 84) n (I 85 0).toNat (I 85 1).toNat) i k = scP lw (A14 82) (A14 83) (A14 84) n _ _; rw [e82, e83, e84]; rfl) ?_
                  have hsb := scS_bd (lw := lw) (W := I 82) (T := I 83) (U := I 84) (N0 := (I 85 0).toNat) (N1 := (I 85 1).toNat) (i := i) (j := k) h2.2 (fun v hv => (h3 v hv).1)
                  refine rz_istore dX12_rest_117 (by decide) rfl ?_
                  refine rz_iload dX12_rest_119 rfl ?_
                  refine rz_if_eq (t := 130) dX12_rest_121 rfl (by omega) (fun c121 => ?_) (fun c121 => ?_)
                  · refine rz_iload dX12_rest_130 rfl ?_
                    refine rz_istore_n dX12_rest_132 (by decide) rfl ?_
                    refine rz_iinc (ls' := [some (.ref 81), some (zi 0), some (zi (i : Int)), some (zi ((scS lw (I 82) (I 83) (I 84) n (I 85 0).toNat (I 85 1).toNat) i k)), some (zi ((k : Int) + 1)), some (zi ((scS lw (I 82) (I 83) (I 84) n (I 85 0).toNat (I 85 1).toNat) i k))]) dX12_rest_133 (by decide) rfl rfl rfl ?_
                    refine rz_goto (t := 101) dX12_rest_136 rfl ?_
                    exact rz_bk (ihk (((scS lw (I 82) (I 83) (I 84) n (I 85 0).toNat (I 85 1).toNat) i k)) ((Or.inr ⟨by omega, LoOf_y (f := (scS lw (I 82) (I 83) (I 84) n (I 85 0).toNat (I 85 1).toNat) i) (z := sk) (qk.imp (fun e => e.1) (fun e => e.2)) (by omega)⟩))) ⟨Or.inr rfl, Or.inr rfl, Or.inr rfl, Or.inr rfl, Or.inr rfl, Or.inl rfl, trivial⟩ (rfl) (rfl)
                  · refine rz_iload dX12_rest_124 rfl ?_
                    refine rz_iload_n dX12_rest_126 rfl ?_
                    refine rz_icmp_ge (t := 133) dX12_rest_127 rfl (by omega) (by omega) (fun c127 => ?_) (fun c127 => ?_)
                    · refine rz_iinc dX12_rest_133 (by decide) rfl rfl rfl ?_
                      refine rz_goto (t := 101) dX12_rest_136 rfl ?_
                      exact rz_bk (ihk (sk) ((Or.inr ⟨by omega, LoOf_n (qk.resolve_left (by omega)).2 (by omega)⟩))) ⟨Or.inr rfl, Or.inr rfl, Or.inr rfl, Or.inr rfl, Or.inr rfl, Or.inl rfl, trivial⟩ (rfl) (rfl)
                    · refine rz_iload dX12_rest_130 rfl ?_
                      refine rz_istore_n dX12_rest_132 (by decide) rfl ?_
                      refine rz_iinc (ls' := [some (.ref 81), some (zi 0), some (zi (i : Int)), some (zi ((scS lw (I 82) (I 83) (I 84) n (I 85 0).toNat (I 85 1).toNat) i k)), some (zi ((k : Int) + 1)), some (zi ((scS lw (I 82) (I 83) (I 84) n (I 85 0).toNat (I 85 1).toNat) i k))]) dX12_rest_133 (by decide) rfl rfl rfl ?_
                      refine rz_goto (t := 101) dX12_rest_136 rfl ?_
                      exact rz_bk (ihk (((scS lw (I 82) (I 83) (I 84) n (I 85 0).toNat (I 85 1).toNat) i k)) ((Or.inr ⟨by omega, LoOf_y (f := (scS lw (I 82) (I 83) (I 84) n (I 85 0).toNat (I 85 1).toNat) i) (z := sk) (qk.imp (fun e => e.1) (fun e => e.2)) (by omega)⟩))) ⟨Or.inr rfl, Or.inr rfl, Or.inr rfl, Or.inr rfl, Or.inr rfl, Or.inl rfl, trivial⟩ (rfl) (rfl)
              · intro sk qk
                have hlow : sk = (wstF 0 lw (I 82) (I 83) (I 84) n (rowsL n (I 85 0).toNat true) (I 85 1).toNat) i := LoOf_eq (qk.resolve_left (by omega)).2 (hlo i)
                have hwb := wst_rg (b := 0) (lw := lw) (T := I 83) (U := I 84) (L := (rowsL n (I 85 0).toNat true)) h2.2 (by omega : (I 85 1).toNat ≤ 9) hW9 m14.2.1 i
                refine rz_iload dX12_rest_101 rfl ?_
                refine rz_aload_n dX12_rest_103 rfl ?_
                refine rz_getI (z := ((rowsL n (I 85 1).toNat true).length : Int)) dX12_rest_104 kf_RX12_332 hd_81 rfl (d2) ?_
                refine rz_icmp_ge (t := 139) dX12_rest_107 rfl (by omega) (by omega) (fun c107 => ?_) (fun c107 => ?_)
                · refine rz_iconst dX12_rest_139 ?_
                  refine rz_istore dX12_rest_140 (by decide) rfl ?_
                  refine rz_upx (σ := Unit) (Inv := fun t st => ∀ y, y < t → ¬ ((scS lw (I 82) (I 83) (I 84) n (I 85 0).toNat (I 85 1).toNat) i y = (wstF 0 lw (I 82) (I 83) (I 84) n (rowsL n (I 85 0).toNat true) (I 85 1).toNat) i ∧ (scS lw (I 82) (I 83) (I 84) n (I 85 0).toNat (I 85 1).toNat) i y = (-(wstF 1 lw (I 82) (I 83) (I 84) n (rowsL n (I 85 1).toNat true) (I 85 0).toNat y)))) (ls := fun (t : Nat) st => [some (.ref 81), some (zi 0), some (zi (i : Int)), some (zi sk), some (zi (t : Int)), none]) (IV := fun (t : Nat) st => (upA A14 110 sj)) (JV := fun (t : Nat) st => J) ((rowsL n (I 85 1).toNat true).length) (()) (fun y hy => absurd hy (by omega)) ⟨Or.inr rfl, Or.inr rfl, Or.inr rfl, Or.inr rfl, Or.inr rfl, Or.inl rfl, trivial⟩ (rfl) (rfl) ?_ ?_
                  · intro t st ht qt iht
                    have hwdt := (rowsL_ok (n := n) (left := (I 85 1).toNat) (all := true) (by omega) _ (List.mem_of_getElem? (getD_get ht))).2
                    have hcb := wst_rg (b := 1) (lw := lw) (T := I 83) (U := I 84) (L := (rowsL n (I 85 1).toNat true)) h2.2 (by omega : (I 85 0).toNat ≤ 9) hW9 m14.1.1 t
                    refine rz_iload dX12_rest_142 rfl ?_
                    refine rz_aload_n dX12_rest_144 rfl ?_
                    refine rz_getI (z := ((rowsL n (I 85 1).toNat true).length : Int)) dX12_rest_145 kf_RX12_332 hd_81 rfl (d2) ?_
                    refine rz_icmp_ge (t := 230) dX12_rest_148 rfl (by omega) (by omega) (fun c148 => ?_) (fun c148 => ?_)
                    · exfalso; omega
                    · refine rz_aload_n dX12_rest_151 rfl ?_
                      refine rz_iload_n dX12_rest_152 rfl ?_
                      refine rz_iload dX12_rest_153 rfl ?_
                      refine rz_cVI dX12_rest_155 kl_RX12_349 hd_81 ⟨_, _, rfl⟩ (c_X12_scoreAt (I := upA A14 110 sj) lw n ⟨d6, h2.2⟩ (fun v hv => by show 0 ≤ A14 82 v ∧ A14 82 v ≤ 9; rw [e82]; exact (h3 v hv).1) i t (by omega) (by omega) ((rowsL n (I 85 0).toNat true).getD i []) ((rowsL n (I 85 1).toNat true).getD t []) (fun v hv => ⟨d3 _ _ (getD_get hi) v hv, getD_le hwdi v⟩) (fun v hv => ⟨d4 _ _ (getD_get ht) v hv, getD_le hwdt v⟩) d5) rfl rfl (Nat.le_of_ble_eq_true rfl) (Nat.le_of_ble_eq_true rfl) ?_
                      refine rz_ieq (y := (scS lw (I 82) (I 83) (I 84) n (I 85 0).toNat (I 85 1).toNat) i t) (by show (scS lw (I 82) (I 83) (I 84) n (I 85 0).toNat (I 85 1).toNat) i t = scP lw (A14 82) (A14 83) (A14 84) n _ _; rw [e82, e83, e84]; rfl) ?_
                      have hsb := scS_bd (lw := lw) (W := I 82) (T := I 83) (U := I 84) (N0 := (I 85 0).toNat) (N1 := (I 85 1).toNat) (i := i) (j := t) h2.2 (fun v hv => (h3 v hv).1)
                      refine rz_istore dX12_rest_158 (by decide) rfl ?_
                      refine rz_iload dX12_rest_160 rfl ?_
                      refine rz_iload_n dX12_rest_162 rfl ?_
                      refine rz_icmp_ne (t := 224) dX12_rest_163 rfl (by omega) (by omega) (fun c163 => ?_) (fun c163 => ?_)
                      · refine rz_iinc dX12_rest_224 (by decide) rfl rfl rfl ?_
                        refine rz_goto (t := 142) dX12_rest_227 rfl ?_
                        exact rz_bk (iht (()) ((fun y hy => by by_cases e : y = t; (subst e; intro q; obtain ⟨q1, q2⟩ := q; omega); exact qt y (by omega)))) ⟨Or.inr rfl, Or.inr rfl, Or.inr rfl, Or.inr rfl, Or.inr rfl, Or.inl rfl, trivial⟩ (rfl) (rfl)
                      · refine rz_iload dX12_rest_166 rfl ?_
                        refine rz_aload_n dX12_rest_168 rfl ?_
                        refine rz_getR dX12_rest_169 kf_RX12_96 hd_81 rfl rr_81_43 ?_
                        refine rz_iload dX12_rest_172 rfl ?_
                        refine rz_ialdN (k := t) (z := (-(wstF 1 lw (I 82) (I 83) (I 84) n (rowsL n (I 85 1).toNat true) (I 85 0).toNat t))) dX12_rest_174 hd_110 (by decide) (by omega) (by omega) (qj t ht) ?_
                        refine rz_icmp_eq (t := 181) dX12_rest_175 rfl (by omega) (by omega) (fun c175 => ?_) (fun c175 => ?_)
                        · refine rz_iload_n dX12_rest_181 rfl ?_
                          refine rz_if_ne (t := 200) dX12_rest_182 rfl (by omega) (fun q => absurd q (by decide)) (fun _ => ?_)
                          refine rz_aload_n dX12_rest_185 rfl ?_
                          refine rz_getR dX12_rest_186 kf_RX12_87 hd_81 rfl rr_81_38 ?_
                          refine rz_iload_n dX12_rest_189 rfl ?_
                          refine rz_aload_n dX12_rest_190 rfl ?_
                          refine rz_getI (z := (n : Int)) dX12_rest_191 kf_RX12_137 hd_81 rfl (d6) ?_
                          refine rz_cSI dX12_rest_194 kl_RX12_342 (c_X12_numberIn X (h + 8) (upA A14 110 sj) J n i 107 1500 h2.2 hd_107 (by decide) (by omega)) rfl rfl (Nat.le_of_ble_eq_true rfl) (Nat.le_of_ble_eq_true rfl) ?_
                          refine rz_goto (t := 223) dX12_rest_197 rfl ?_
                          refine rz_iret dX12_rest_223 rfl ?_
                          obtain ⟨he, hv, hi0, hj0⟩ := hra.1 i t hi ht (show (scS lw (I 82) (I 83) (I 84) n (I 85 0).toNat (I 85 1).toNat) i t = (wstF 0 lw (I 82) (I 83) (I 84) n (rowsL n (I 85 0).toNat true) (I 85 1).toNat) i by omega) (show (scS lw (I 82) (I 83) (I 84) n (I 85 0).toNat (I 85 1).toNat) i t = (-(wstF 1 lw (I 82) (I 83) (I 84) n (rowsL n (I 85 1).toNat true) (I 85 0).toNat t)) by omega)
                          obtain ⟨k0, k1, s0, s1⟩ := hra.2 he
                          have ei : i = (gd0 lw (I 82) (I 83) (I 84) n (I 85 0).toNat (I 85 1).toNat).2 := by
                            by_cases e : (gd0 lw (I 82) (I 83) (I 84) n (I 85 0).toNat (I 85 1).toNat).2 < i
                            · exact absurd ⟨s0, s1⟩ (qi _ _ e k1)
                            · omega
                          have ej : t = (gd1 lw (I 82) (I 83) (I 84) n (I 85 0).toNat (I 85 1).toNat).2 := by
                            by_cases e : (gd1 lw (I 82) (I 83) (I 84) n (I 85 0).toNat (I 85 1).toNat).2 < t
                            · rw [← ei] at s0 s1
                              exact absurd ⟨s0, s1⟩ (qt _ e)
                            · omega
                          exact ⟨_, rfl, by rw [resZ, if_pos (by omega), if_pos (lstB_t m14), if_pos he, if_neg (by decide), if_pos rfl, ← ei]; exact numP_congr (fun v hv => d3 _ _ (getD_get hi) v hv), FrR.trans fr14 (FrR_up (a := 110) (by decide) (by decide)), rfl⟩
                        · refine rz_goto (t := 224) dX12_rest_178 rfl ?_
                          refine rz_iinc dX12_rest_224 (by decide) rfl rfl rfl ?_
                          refine rz_goto (t := 142) dX12_rest_227 rfl ?_
                          exact rz_bk (iht (()) ((fun y hy => by by_cases e : y = t; (subst e; intro q; obtain ⟨q1, q2⟩ := q; omega); exact qt y (by omega)))) ⟨Or.inr rfl, Or.inr rfl, Or.inr rfl, Or.inr rfl, Or.inr rfl, Or.inl rfl, trivial⟩ (rfl) (rfl)
                  · intro st qt
                    refine rz_iload dX12_rest_142 rfl ?_
                    refine rz_aload_n dX12_rest_144 rfl ?_
                    refine rz_getI (z := ((rowsL n (I 85 1).toNat true).length : Int)) dX12_rest_145 kf_RX12_332 hd_81 rfl (d2) ?_
                    refine rz_icmp_ge (t := 230) dX12_rest_148 rfl (by omega) (by omega) (fun c148 => ?_) (fun c148 => ?_)
                    · refine rz_iinc dX12_rest_230 (by decide) rfl rfl rfl ?_
                      refine rz_goto (t := 88) dX12_rest_233 rfl ?_
                      exact rz_bk (ihi (()) ((fun x y hx hy => by by_cases e : x = i; (subst e; exact qt y hy); exact qi x y (by omega) hy))) ⟨Or.inr rfl, Or.inr rfl, Or.inr rfl, Or.inl rfl, Or.inl rfl, Or.inl rfl, trivial⟩ (rfl) (rfl)
                    · exfalso; omega
                · exfalso; omega
          · intro si qi
            refine rz_iload_n dX12_rest_88 rfl ?_
            refine rz_aload_n dX12_rest_89 rfl ?_
            refine rz_getI (z := ((rowsL n (I 85 0).toNat true).length : Int)) dX12_rest_90 kf_RX12_329 hd_81 rfl (d1) ?_
            refine rz_icmp_ge (t := 236) dX12_rest_93 rfl (by omega) (by omega) (fun c93 => ?_) (fun c93 => ?_)
            · refine rz_bipush dX12_rest_236 (by decide) ?_
              refine rz_iret dX12_rest_238 rfl ?_
              exact ⟨_, rfl, by rw [resZ, if_pos (by omega), if_pos (lstB_t m14), if_neg (fun he => by obtain ⟨k0, k1, s0, s1⟩ := hra.2 he; exact qi _ _ k0 k1 ⟨s0, s1⟩)], FrR.trans fr14 (FrR_up (a := 110) (by decide) (by decide)), rfl⟩
            · exfalso; omega
        · exfalso; omega
    · refine rz_if_ne (t := 23) dX12_rest_17 rfl (by omega) (fun q => absurd q (by decide)) (fun _ => ?_)
      refine rz_bipush dX12_rest_20 (by decide) ?_
      refine rz_iret dX12_rest_22 rfl ?_
      exact ⟨_, rfl, by rw [resZ, if_pos (by omega), if_neg (lstB_f m14)], fr14, rfl⟩
  · refine rz_if_ne (t := 13) dX12_rest_6 rfl (by omega) (fun q => absurd q (by decide)) (fun _ => ?_)
    refine rz_ldcw (x := (-2000000000)) dX12_rest_9 kk_RX12_256 (by decide) ?_
    refine rz_iret dX12_rest_12 rfl ?_
    exfalso; omega
set_option maxRecDepth 20000 in
set_option maxHeartbeats 400000 in
theorem rest_r1 {X : pX} {I J : IM} {h : Nat} {lw : Lw} {n : Nat} {m0 m1 : Mx} (hq : RqI I lw n m0 m1) (hbk : BOK I) : KIq X (h + 9) mX12_rest [.ref 81, zi 1] I J (fun z A B => z = resZ lw (I 82) (I 83) (I 84) (I 85) n 1 ∧ FrR I A ∧ J = B) := by
  obtain ⟨h1, h2, h3, h5, h6, h7⟩ := hq
  have h80 := h7 0 (by decide)
  have h81 := h7 1 (by decide)
  show Rz X (h + 9) mX12_rest 0 [some (.ref 81), some (zi 1), none, none, none, none] [] I J _
  refine rz_iload_n dX12_rest_0 rfl ?_
  refine rz_iconst dX12_rest_1 ?_
  refine rz_iconst dX12_rest_2 ?_
  refine rz_cSIq dX12_rest_3 kl_RX12_140 (c_X12_in X _ I J 1 0 2 (by omega) (by omega) (by omega)) rfl rfl (Nat.le_of_ble_eq_true rfl) (Nat.le_of_ble_eq_true rfl) ?_
  rintro z3 A3 B3 ⟨⟨rfl, b3⟩ | ⟨rfl, b3⟩, rfl, rfl⟩
  · refine rz_if_ne (t := 13) dX12_rest_6 rfl (by omega) (fun _ => ?_) (fun q => absurd q (by decide))
    refine rz_aload_n dX12_rest_13 rfl ?_
    refine rz_cVIq dX12_rest_14 kl_RX12_335 hd_81 ⟨_, _, rfl⟩ (c_X12_findBoth lw h1 n h2 h3 (I 85 0).toNat (I 85 1).toNat ⟨by omega, by omega⟩ ⟨by omega, by omega⟩ hbk) rfl rfl (Nat.le_of_ble_eq_true rfl) (Nat.le_of_ble_eq_true rfl) ?_
    rintro z14 A14 _ ⟨⟨rfl, m14, ⟨du14, e109⟩, fr14⟩ | ⟨rfl, m14, fr14⟩, rfl⟩
    · refine rz_if_ne (t := 23) dX12_rest_17 rfl (by omega) (fun _ => ?_) (fun q => absurd q (by decide))
      obtain ⟨d1, d2, d3, d4, d5, d6⟩ := du14
      have e82 : A14 82 = I 82 := fr14.1 82 (by decide)
      have e83 : A14 83 = I 83 := fr14.1 83 (by decide)
      have e84 : A14 84 = I 84 := fr14.1 84 (by decide)
      have hl0 := m14.1.2
      have hl1 := m14.2.2
      have hg1 := m14.2.1
      have hW9 : ∀ v, v < n → 0 ≤ I 82 v ∧ I 82 v ≤ 9 := fun v hv => (h3 v hv).1
      have hlo := fun i => wst_lo (lw := lw) (T := I 83) (U := I 84) (L := (rowsL n (I 85 0).toNat true)) h2.2 (by omega : (I 85 1).toNat ≤ 9) hW9 m14.2.1 i
      have hhi := fun j => wst_hi (lw := lw) (T := I 83) (U := I 84) (L := (rowsL n (I 85 1).toNat true)) h2.2 (by omega : (I 85 0).toNat ≤ 9) hW9 m14.1.1 j
      have hra := rest_at (lw := lw) (T := I 83) (U := I 84) h2.2 (by omega : (I 85 0).toNat ≤ 9) (by omega : (I 85 1).toNat ≤ 9) hW9 m14
      refine rz_iconst dX12_rest_23 ?_
      refine rz_istore_n dX12_rest_24 (by decide) rfl ?_
      refine rz_upx (σ := Nat → Int) (Inv := fun j sj => ∀ x, x < j → sj x = (-(wstF 1 lw (I 82) (I 83) (I 84) n (rowsL n (I 85 1).toNat true) (I 85 0).toNat x))) (ls := fun (j : Nat) sj => [some (.ref 81), some (zi 1), some (zi (j : Int)), none, none, none]) (IV := fun (j : Nat) sj => (upA A14 110 sj)) (JV := fun (j : Nat) sj => J) ((rowsL n (I 85 1).toNat true).length) ((A14 110)) (fun x hx => absurd hx (by omega)) ⟨Or.inr rfl, Or.inr rfl, Or.inr rfl, Or.inl rfl, Or.inl rfl, Or.inl rfl, trivial⟩ (upA_id) (rfl) ?_ ?_
      · intro j sj hj qj ihj
        have hwdj := (rowsL_ok (n := n) (left := (I 85 1).toNat) (all := true) (by omega) _ (List.mem_of_getElem? (getD_get hj))).2
        refine rz_iload_n dX12_rest_25 rfl ?_
        refine rz_aload_n dX12_rest_26 rfl ?_
        refine rz_getI (z := ((rowsL n (I 85 1).toNat true).length : Int)) dX12_rest_27 kf_RX12_332 hd_81 rfl (d2) ?_
        refine rz_icmp_ge (t := 86) dX12_rest_30 rfl (by omega) (by omega) (fun c30 => ?_) (fun c30 => ?_)
        · exfalso; omega
        · refine rz_iconst dX12_rest_33 ?_
          refine rz_istore_n dX12_rest_34 (by decide) rfl ?_
          refine rz_upx (σ := Nat → Int) (Inv := fun i si => (i = 0 ∨ HiOf (fun x => (scS lw (I 82) (I 83) (I 84) n (I 85 0).toNat (I 85 1).toNat) x j) i (si j)) ∧ ∀ x, x < j → si x = (-(wstF 1 lw (I 82) (I 83) (I 84) n (rowsL n (I 85 1).toNat true) (I 85 0).toNat x))) (ls := fun (i : Nat) si => [some (.ref 81), some (zi 1), some (zi (j : Int)), some (zi (i : Int)), none, none]) (IV := fun (i : Nat) si => (upA A14 110 si)) (JV := fun (i : Nat) si => J) ((rowsL n (I 85 0).toNat true).length) (sj) ⟨Or.inl rfl, qj⟩ ⟨Or.inr rfl, Or.inr rfl, Or.inr rfl, Or.inr rfl, Or.inl rfl, Or.inl rfl, trivial⟩ (rfl) (rfl) ?_ ?_
          · intro i si hi qi ihi
            have hwdi := (rowsL_ok (n := n) (left := (I 85 0).toNat) (all := true) (by omega) _ (List.mem_of_getElem? (getD_get hi))).2
            have hsi : i = 0 ∨ (-45 ≤ si j ∧ si j ≤ 45) := qi.1.imp id (fun e => by obtain ⟨-, x, -, ex⟩ := e; have := scS_bd (lw := lw) (W := I 82) (T := I 83) (U := I 84) (N0 := (I 85 0).toNat) (N1 := (I 85 1).toNat) (i := x) (j := j) h2.2 hW9; have ex2 : si j = (scS lw (I 82) (I 83) (I 84) n (I 85 0).toNat (I 85 1).toNat) x j := ex; omega)
            refine rz_iload_n dX12_rest_35 rfl ?_
            refine rz_aload_n dX12_rest_36 rfl ?_
            refine rz_getI (z := ((rowsL n (I 85 0).toNat true).length : Int)) dX12_rest_37 kf_RX12_329 hd_81 rfl (d1) ?_
            refine rz_icmp_ge (t := 80) dX12_rest_40 rfl (by omega) (by omega) (fun c40 => ?_) (fun c40 => ?_)
            · exfalso; omega
            · refine rz_aload_n dX12_rest_43 rfl ?_
              refine rz_iload_n dX12_rest_44 rfl ?_
              refine rz_iload_n dX12_rest_45 rfl ?_
              refine rz_cVI dX12_rest_46 kl_RX12_349 hd_81 ⟨_, _, rfl⟩ (c_X12_scoreAt (I := upA A14 110 si) lw n ⟨d6, h2.2⟩ (fun v hv => by show 0 ≤ A14 82 v ∧ A14 82 v ≤ 9; rw [e82]; exact (h3 v hv).1) i j (by omega) (by omega) ((rowsL n (I 85 0).toNat true).getD i []) ((rowsL n (I 85 1).toNat true).getD j []) (fun v hv => ⟨d3 _ _ (getD_get hi) v hv, getD_le hwdi v⟩) (fun v hv => ⟨d4 _ _ (getD_get hj) v hv, getD_le hwdj v⟩) d5) rfl rfl (Nat.le_of_ble_eq_true rfl) (Nat.le_of_ble_eq_true rfl) ?_
              refine rz_ieq (y := (scS lw (I 82) (I 83) (I 84) n (I 85 0).toNat (I 85 1).toNat) i j) (by show (scS lw (I 82) (I 83) (I 84) n (I 85 0).toNat (I 85 1).toNat) i j = scP lw (A14 82) (A14 83) (A14 84) n _ _; rw [e82, e83, e84]; rfl) ?_
              have hsb := scS_bd (lw := lw) (W := I 82) (T := I 83) (U := I 84) (N0 := (I 85 0).toNat) (N1 := (I 85 1).toNat) (i := i) (j := j) h2.2 (fun v hv => (h3 v hv).1)
              refine rz_istore dX12_rest_49 (by decide) rfl ?_
              refine rz_iload_n dX12_rest_51 rfl ?_
              refine rz_if_eq (t := 66) dX12_rest_52 rfl (by omega) (fun c52 => ?_) (fun c52 => ?_)
              · refine rz_aload_n dX12_rest_66 rfl ?_
                refine rz_getR dX12_rest_67 kf_RX12_96 hd_81 rfl rr_81_43 ?_
                refine rz_iload_n dX12_rest_70 rfl ?_
                refine rz_iload dX12_rest_71 rfl ?_
                refine rz_iastN (k := j) dX12_rest_73 hd_110 (by decide) (by omega) (by omega) ?_
                refine rz_iinc dX12_rest_74 (by decide) rfl rfl rfl ?_
                refine rz_goto (t := 35) dX12_rest_77 rfl ?_
                exact rz_bk (ihi ((up1 si j ((scS lw (I 82) (I 83) (I 84) n (I 85 0).toNat (I 85 1).toNat) i j))) (⟨Or.inr (by rw [up1_self]; exact HiOf_y (f := (fun x => (scS lw (I 82) (I 83) (I 84) n (I 85 0).toNat (I 85 1).toNat) x j)) qi.1 (by show i = 0 ∨ si j < (scS lw (I 82) (I 83) (I 84) n (I 85 0).toNat (I 85 1).toNat) i j; omega)), fun x hx => (up1_ne (by omega)).trans (qi.2 x hx)⟩)) ⟨Or.inr rfl, Or.inr rfl, Or.inr rfl, Or.inr rfl, Or.inl rfl, Or.inl rfl, trivial⟩ (upA_upA.symm) (rfl)
              · refine rz_iload dX12_rest_55 rfl ?_
                refine rz_aload_n dX12_rest_57 rfl ?_
                refine rz_getR dX12_rest_58 kf_RX12_96 hd_81 rfl rr_81_43 ?_
                refine rz_iload_n dX12_rest_61 rfl ?_
                refine rz_ialdN (k := j) (z := (si j)) dX12_rest_62 hd_110 (by decide) (by omega) (by omega) rfl ?_
                refine rz_icmp_le (t := 74) dX12_rest_63 rfl (by omega) (by omega) (fun c63 => ?_) (fun c63 => ?_)
                · refine rz_iinc dX12_rest_74 (by decide) rfl rfl rfl ?_
                  refine rz_goto (t := 35) dX12_rest_77 rfl ?_
                  exact rz_bk (ihi (si) (⟨Or.inr (HiOf_n (f := (fun x => (scS lw (I 82) (I 83) (I 84) n (I 85 0).toNat (I 85 1).toNat) x j)) (qi.1.resolve_left (by omega)) (by show ¬ si j < (scS lw (I 82) (I 83) (I 84) n (I 85 0).toNat (I 85 1).toNat) i j; omega)), qi.2⟩)) ⟨Or.inr rfl, Or.inr rfl, Or.inr rfl, Or.inr rfl, Or.inl rfl, Or.inl rfl, trivial⟩ (rfl) (rfl)
                · refine rz_aload_n dX12_rest_66 rfl ?_
                  refine rz_getR dX12_rest_67 kf_RX12_96 hd_81 rfl rr_81_43 ?_
                  refine rz_iload_n dX12_rest_70 rfl ?_
                  refine rz_iload dX12_rest_71 rfl ?_
                  refine rz_iastN (k := j) dX12_rest_73 hd_110 (by decide) (by omega) (by omega) ?_
                  refine rz_iinc dX12_rest_74 (by decide) rfl rfl rfl ?_
                  refine rz_goto (t := 35) dX12_rest_77 rfl ?_
                  exact rz_bk (ihi ((up1 si j ((scS lw (I 82) (I 83) (I 84) n (I 85 0).toNat (I 85 1).toNat) i j))) (⟨Or.inr (by rw [up1_self]; exact HiOf_y (f := (fun x => (scS lw (I 82) (I 83) (I 84) n (I 85 0).toNat (I 85 1).toNat) x j)) qi.1 (by show i = 0 ∨ si j < (scS lw (I 82) (I 83) (I 84) n (I 85 0).toNat (I 85 1).toNat) i j; omega)), fun x hx => (up1_ne (by omega)).trans (qi.2 x hx)⟩)) ⟨Or.inr rfl, Or.inr rfl, Or.inr rfl, Or.inr rfl, Or.inl rfl, Or.inl rfl, trivial⟩ (upA_upA.symm) (rfl)
          · intro si qi
            have hg0 := m14.1.1
            refine rz_iload_n dX12_rest_35 rfl ?_
            refine rz_aload_n dX12_rest_36 rfl ?_
            refine rz_getI (z := ((rowsL n (I 85 0).toNat true).length : Int)) dX12_rest_37 kf_RX12_329 hd_81 rfl (d1) ?_
            refine rz_icmp_ge (t := 80) dX12_rest_40 rfl (by omega) (by omega) (fun c40 => ?_) (fun c40 => ?_)
            · refine rz_iinc dX12_rest_80 (by decide) rfl rfl rfl ?_
              refine rz_goto (t := 25) dX12_rest_83 rfl ?_
              exact rz_bk (ihj (si) ((fun x hx => by by_cases e : x = j; (subst e; exact HiOf_eq (qi.1.resolve_left (by omega)) (hhi x)); exact qi.2 x (by omega)))) ⟨Or.inr rfl, Or.inr rfl, Or.inr rfl, Or.inl rfl, Or.inl rfl, Or.inl rfl, trivial⟩ (rfl) (rfl)
            · exfalso; omega
      · intro sj qj
        refine rz_iload_n dX12_rest_25 rfl ?_
        refine rz_aload_n dX12_rest_26 rfl ?_
        refine rz_getI (z := ((rowsL n (I 85 1).toNat true).length : Int)) dX12_rest_27 kf_RX12_332 hd_81 rfl (d2) ?_
        refine rz_icmp_ge (t := 86) dX12_rest_30 rfl (by omega) (by omega) (fun c30 => ?_) (fun c30 => ?_)
        · refine rz_iconst dX12_rest_86 ?_
          refine rz_istore_n dX12_rest_87 (by decide) rfl ?_
          refine rz_upx (σ := Unit) (Inv := fun i si => ∀ x y, x < i → y < (rowsL n (I 85 1).toNat true).length → ¬ ((scS lw (I 82) (I 83) (I 84) n (I 85 0).toNat (I 85 1).toNat) x y = (wstF 0 lw (I 82) (I 83) (I 84) n (rowsL n (I 85 0).toNat true) (I 85 1).toNat) x ∧ (scS lw (I 82) (I 83) (I 84) n (I 85 0).toNat (I 85 1).toNat) x y = (-(wstF 1 lw (I 82) (I 83) (I 84) n (rowsL n (I 85 1).toNat true) (I 85 0).toNat y)))) (ls := fun (i : Nat) si => [some (.ref 81), some (zi 1), some (zi (i : Int)), none, none, none]) (IV := fun (i : Nat) si => (upA A14 110 sj)) (JV := fun (i : Nat) si => J) ((rowsL n (I 85 0).toNat true).length) (()) (fun x y hx => absurd hx (by omega)) ⟨Or.inr rfl, Or.inr rfl, Or.inr rfl, Or.inl rfl, Or.inl rfl, Or.inl rfl, trivial⟩ (rfl) (rfl) ?_ ?_
          · intro i si hi qi ihi
            have hwdi := (rowsL_ok (n := n) (left := (I 85 0).toNat) (all := true) (by omega) _ (List.mem_of_getElem? (getD_get hi))).2
            refine rz_iload_n dX12_rest_88 rfl ?_
            refine rz_aload_n dX12_rest_89 rfl ?_
            refine rz_getI (z := ((rowsL n (I 85 0).toNat true).length : Int)) dX12_rest_90 kf_RX12_329 hd_81 rfl (d1) ?_
            refine rz_icmp_ge (t := 236) dX12_rest_93 rfl (by omega) (by omega) (fun c93 => ?_) (fun c93 => ?_)
            · exfalso; omega
            · refine rz_iconst dX12_rest_96 ?_
              refine rz_istore_n dX12_rest_97 (by decide) rfl ?_
              refine rz_iconst dX12_rest_98 ?_
              refine rz_istore dX12_rest_99 (by decide) rfl ?_
              refine rz_upx (σ := Int) (Inv := fun k sk => (k = 0 ∧ sk = 0) ∨ (1 ≤ k ∧ LoOf ((scS lw (I 82) (I 83) (I 84) n (I 85 0).toNat (I 85 1).toNat) i) k sk)) (ls := fun (k : Nat) sk => [some (.ref 81), some (zi 1), some (zi (i : Int)), some (zi sk), some (zi (k : Int)), none]) (IV := fun (k : Nat) sk => (upA A14 110 sj)) (JV := fun (k : Nat) sk => J) ((rowsL n (I 85 1).toNat true).length) (0) (Or.inl ⟨rfl, rfl⟩) ⟨Or.inr rfl, Or.inr rfl, Or.inr rfl, Or.inr rfl, Or.inr rfl, Or.inl rfl, trivial⟩ (rfl) (rfl) ?_ ?_
              · intro k sk hk qk ihk
                have hwdk := (rowsL_ok (n := n) (left := (I 85 1).toNat) (all := true) (by omega) _ (List.mem_of_getElem? (getD_get hk))).2
                have hskb : -45 ≤ sk ∧ sk ≤ 45 := by
                  rcases qk with e | ⟨-, -, x, -, ex⟩
                  · omega
                  · have := scS_bd (lw := lw) (W := I 82) (T := I 83) (U := I 84) (N0 := (I 85 0).toNat) (N1 := (I 85 1).toNat) (i := i) (j := x) h2.2 hW9; omega
                refine rz_iload dX12_rest_101 rfl ?_
                refine rz_aload_n dX12_rest_103 rfl ?_
                refine rz_getI (z := ((rowsL n (I 85 1).toNat true).length : Int)) dX12_rest_104 kf_RX12_332 hd_81 rfl (d2) ?_
                refine rz_icmp_ge (t := 139) dX12_rest_107 rfl (by omega) (by omega) (fun c107 => ?_) (fun c107 => ?_)
                · exfalso; omega
                · refine rz_aload_n dX12_rest_110 rfl ?_
                  refine rz_iload_n dX12_rest_111 rfl ?_
                  refine rz_iload dX12_rest_112 rfl ?_
                  refine rz_cVI dX12_rest_114 kl_RX12_349 hd_81 ⟨_, _, rfl⟩ (c_X12_scoreAt (I := upA A14 110 sj) lw n ⟨d6, h2.2⟩ (fun v hv => by show 0 ≤ A14 82 v ∧ A14 82 v ≤ 9; rw [e82]; exact (h3 v hv).1) i k (by omega) (by omega) ((rowsL n (I 85 0).toNat true).getD i []) ((rowsL n (I 85 1).toNat true).getD k []) (fun v hv => ⟨d3 _ _ (getD_get hi) v hv, getD_le hwdi v⟩) (fun v hv => ⟨d4 _ _ (getD_get hk) v hv, getD_le hwdk v⟩) d5) rfl rfl (Nat.le_of_ble_eq_true rfl) (Nat.le_of_ble_eq_true rfl) ?_
                  refine rz_ieq (y := (scS lw (I 82) (I 83) (I 84) n (I 85 0).toNat (I 85 1).toNat) i k) (by show (scS lw (I 82) (I 83) (I 84) n (I 85 0).toNat (I 85 1).toNat) i k = scP lw (A14 82) (A14 83) (A14 84) n _ _; rw [e82, e83, e84]; rfl) ?_
                  have hsb := scS_bd (lw := lw) (W := I 82) (T := I 83) (U := I 84) (N0 := (I 85 0).toNat) (N1 := (I 85 1).toNat) (i := i) (j := k) h2.2 (fun v hv => (h3 v hv).1)
                  refine rz_istore dX12_rest_117 (by decide) rfl ?_
                  refine rz_iload dX12_rest_119 rfl ?_
                  refine rz_if_eq (t := 130) dX12_rest_121 rfl (by omega) (fun c121 => ?_) (fun c121 => ?_)
                  · refine rz_iload dX12_rest_130 rfl ?_
                    refine rz_istore_n dX12_rest_132 (by decide) rfl ?_
                    refine rz_iinc (ls' := [some (.ref 81), some (zi 1), some (zi (i : Int)), some (zi ((scS lw (I 82) (I 83) (I 84) n (I 85 0).toNat (I 85 1).toNat) i k)), some (zi ((k : Int) + 1)), some (zi ((scS lw (I 82) (I 83) (I 84) n (I 85 0).toNat (I 85 1).toNat) i k))]) dX12_rest_133 (by decide) rfl rfl rfl ?_
                    refine rz_goto (t := 101) dX12_rest_136 rfl ?_
                    exact rz_bk (ihk (((scS lw (I 82) (I 83) (I 84) n (I 85 0).toNat (I 85 1).toNat) i k)) ((Or.inr ⟨by omega, LoOf_y (f := (scS lw (I 82) (I 83) (I 84) n (I 85 0).toNat (I 85 1).toNat) i) (z := sk) (qk.imp (fun e => e.1) (fun e => e.2)) (by omega)⟩))) ⟨Or.inr rfl, Or.inr rfl, Or.inr rfl, Or.inr rfl, Or.inr rfl, Or.inl rfl, trivial⟩ (rfl) (rfl)
                  · refine rz_iload dX12_rest_124 rfl ?_
                    refine rz_iload_n dX12_rest_126 rfl ?_
                    refine rz_icmp_ge (t := 133) dX12_rest_127 rfl (by omega) (by omega) (fun c127 => ?_) (fun c127 => ?_)
                    · refine rz_iinc dX12_rest_133 (by decide) rfl rfl rfl ?_
                      refine rz_goto (t := 101) dX12_rest_136 rfl ?_
                      exact rz_bk (ihk (sk) ((Or.inr ⟨by omega, LoOf_n (qk.resolve_left (by omega)).2 (by omega)⟩))) ⟨Or.inr rfl, Or.inr rfl, Or.inr rfl, Or.inr rfl, Or.inr rfl, Or.inl rfl, trivial⟩ (rfl) (rfl)
                    · refine rz_iload dX12_rest_130 rfl ?_
                      refine rz_istore_n dX12_rest_132 (by decide) rfl ?_
                      refine rz_iinc (ls' := [some (.ref 81), some (zi 1), some (zi (i : Int)), some (zi ((scS lw (I 82) (I 83) (I 84) n (I 85 0).toNat (I 85 1).toNat) i k)), some (zi ((k : Int) + 1)), some (zi ((scS lw (I 82) (I 83) (I 84) n (I 85 0).toNat (I 85 1).toNat) i k))]) dX12_rest_133 (by decide) rfl rfl rfl ?_
                      refine rz_goto (t := 101) dX12_rest_136 rfl ?_
                      exact rz_bk (ihk (((scS lw (I 82) (I 83) (I 84) n (I 85 0).toNat (I 85 1).toNat) i k)) ((Or.inr ⟨by omega, LoOf_y (f := (scS lw (I 82) (I 83) (I 84) n (I 85 0).toNat (I 85 1).toNat) i) (z := sk) (qk.imp (fun e => e.1) (fun e => e.2)) (by omega)⟩))) ⟨Or.inr rfl, Or.inr rfl, Or.inr rfl, Or.inr rfl, Or.inr rfl, Or.inl rfl, trivial⟩ (rfl) (rfl)
              · intro sk qk
                have hlow : sk = (wstF 0 lw (I 82) (I 83) (I 84) n (rowsL n (I 85 0).toNat true) (I 85 1).toNat) i := LoOf_eq (qk.resolve_left (by omega)).2 (hlo i)
                have hwb := wst_rg (b := 0) (lw := lw) (T := I 83) (U := I 84) (L := (rowsL n (I 85 0).toNat true)) h2.2 (by omega : (I 85 1).toNat ≤ 9) hW9 m14.2.1 i
                refine rz_iload dX12_rest_101 rfl ?_
                refine rz_aload_n dX12_rest_103 rfl ?_
                refine rz_getI (z := ((rowsL n (I 85 1).toNat true).length : Int)) dX12_rest_104 kf_RX12_332 hd_81 rfl (d2) ?_
                refine rz_icmp_ge (t := 139) dX12_rest_107 rfl (by omega) (by omega) (fun c107 => ?_) (fun c107 => ?_)
                · refine rz_iconst dX12_rest_139 ?_
                  refine rz_istore dX12_rest_140 (by decide) rfl ?_
                  refine rz_upx (σ := Unit) (Inv := fun t st => ∀ y, y < t → ¬ ((scS lw (I 82) (I 83) (I 84) n (I 85 0).toNat (I 85 1).toNat) i y = (wstF 0 lw (I 82) (I 83) (I 84) n (rowsL n (I 85 0).toNat true) (I 85 1).toNat) i ∧ (scS lw (I 82) (I 83) (I 84) n (I 85 0).toNat (I 85 1).toNat) i y = (-(wstF 1 lw (I 82) (I 83) (I 84) n (rowsL n (I 85 1).toNat true) (I 85 0).toNat y)))) (ls := fun (t : Nat) st => [some (.ref 81), some (zi 1), some (zi (i : Int)), some (zi sk), some (zi (t : Int)), none]) (IV := fun (t : Nat) st => (upA A14 110 sj)) (JV := fun (t : Nat) st => J) ((rowsL n (I 85 1).toNat true).length) (()) (fun y hy => absurd hy (by omega)) ⟨Or.inr rfl, Or.inr rfl, Or.inr rfl, Or.inr rfl, Or.inr rfl, Or.inl rfl, trivial⟩ (rfl) (rfl) ?_ ?_
                  · intro t st ht qt iht
                    have hwdt := (rowsL_ok (n := n) (left := (I 85 1).toNat) (all := true) (by omega) _ (List.mem_of_getElem? (getD_get ht))).2
                    have hcb := wst_rg (b := 1) (lw := lw) (T := I 83) (U := I 84) (L := (rowsL n (I 85 1).toNat true)) h2.2 (by omega : (I 85 0).toNat ≤ 9) hW9 m14.1.1 t
                    refine rz_iload dX12_rest_142 rfl ?_
                    refine rz_aload_n dX12_rest_144 rfl ?_
                    refine rz_getI (z := ((rowsL n (I 85 1).toNat true).length : Int)) dX12_rest_145 kf_RX12_332 hd_81 rfl (d2) ?_
                    refine rz_icmp_ge (t := 230) dX12_rest_148 rfl (by omega) (by omega) (fun c148 => ?_) (fun c148 => ?_)
                    · exfalso; omega
                    · refine rz_aload_n dX12_rest_151 rfl ?_
                      refine rz_iload_n dX12_rest_152 rfl ?_
                      refine rz_iload dX12_rest_153 rfl ?_
                      refine rz_cVI dX12_rest_155 kl_RX12_349 hd_81 ⟨_, _, rfl⟩ (c_X12_scoreAt (I := upA A14 110 sj) lw n ⟨d6, h2.2⟩ (fun v hv => by show 0 ≤ A14 82 v ∧ A14 82 v ≤ 9; rw [e82]; exact (h3 v hv).1) i t (by omega) (by omega) ((rowsL n (I 85 0).toNat true).getD i []) ((rowsL n (I 85 1).toNat true).getD t []) (fun v hv => ⟨d3 _ _ (getD_get hi) v hv, getD_le hwdi v⟩) (fun v hv => ⟨d4 _ _ (getD_get ht) v hv, getD_le hwdt v⟩) d5) rfl rfl (Nat.le_of_ble_eq_true rfl) (Nat.le_of_ble_eq_true rfl) ?_
                      refine rz_ieq (y := (scS lw (I 82) (I 83) (I 84) n (I 85 0).toNat (I 85 1).toNat) i t) (by show (scS lw (I 82) (I 83) (I 84) n (I 85 0).toNat (I 85 1).toNat) i t = scP lw (A14 82) (A14 83) (A14 84) n _ _; rw [e82, e83, e84]; rfl) ?_
                      have hsb := scS_bd (lw := lw) (W := I 82) (T := I 83) (U := I 84) (N0 := (I 85 0).toNat) (N1 := (I 85 1).toNat) (i := i) (j := t) h2.2 (fun v hv => (h3 v hv).1)
                      refine rz_istore dX12_rest_158 (by decide) rfl ?_
                      refine rz_iload dX12_rest_160 rfl ?_
                      refine rz_iload_n dX12_rest_162 rfl ?_
                      refine rz_icmp_ne (t := 224) dX12_rest_163 rfl (by omega) (by omega) (fun c163 => ?_) (fun c163 => ?_)
                      · refine rz_iinc dX12_rest_224 (by decide) rfl rfl rfl ?_
                        refine rz_goto (t := 142) dX12_rest_227 rfl ?_
                        exact rz_bk (iht (()) ((fun y hy => by by_cases e : y = t; (subst e; intro q; obtain ⟨q1, q2⟩ := q; omega); exact qt y (by omega)))) ⟨Or.inr rfl, Or.inr rfl, Or.inr rfl, Or.inr rfl, Or.inr rfl, Or.inl rfl, trivial⟩ (rfl) (rfl)
                      · refine rz_iload dX12_rest_166 rfl ?_
                        refine rz_aload_n dX12_rest_168 rfl ?_
                        refine rz_getR dX12_rest_169 kf_RX12_96 hd_81 rfl rr_81_43 ?_
                        refine rz_iload dX12_rest_172 rfl ?_
                        refine rz_ialdN (k := t) (z := (-(wstF 1 lw (I 82) (I 83) (I 84) n (rowsL n (I 85 1).toNat true) (I 85 0).toNat t))) dX12_rest_174 hd_110 (by decide) (by omega) (by omega) (qj t ht) ?_
                        refine rz_icmp_eq (t := 181) dX12_rest_175 rfl (by omega) (by omega) (fun c175 => ?_) (fun c175 => ?_)
                        · refine rz_iload_n dX12_rest_181 rfl ?_
                          refine rz_if_ne (t := 200) dX12_rest_182 rfl (by omega) (fun _ => ?_) (fun q => absurd q (by decide))
                          refine rz_iload_n dX12_rest_200 rfl ?_
                          refine rz_iconst dX12_rest_201 ?_
                          refine rz_icmp_ne (t := 221) dX12_rest_202 rfl (by omega) (by omega) (fun q => absurd q (by decide)) (fun _ => ?_)
                          refine rz_aload_n dX12_rest_205 rfl ?_
                          refine rz_getR dX12_rest_206 kf_RX12_90 hd_81 rfl rr_81_39 ?_
                          refine rz_iload dX12_rest_209 rfl ?_
                          refine rz_aload_n dX12_rest_211 rfl ?_
                          refine rz_getI (z := (n : Int)) dX12_rest_212 kf_RX12_137 hd_81 rfl (d6) ?_
                          refine rz_cSI dX12_rest_215 kl_RX12_342 (c_X12_numberIn X (h + 8) (upA A14 110 sj) J n t 108 1500 h2.2 hd_108 (by decide) (by omega)) rfl rfl (Nat.le_of_ble_eq_true rfl) (Nat.le_of_ble_eq_true rfl) ?_
                          refine rz_goto (t := 223) dX12_rest_218 rfl ?_
                          refine rz_iret dX12_rest_223 rfl ?_
                          obtain ⟨he, hv, hi0, hj0⟩ := hra.1 i t hi ht (show (scS lw (I 82) (I 83) (I 84) n (I 85 0).toNat (I 85 1).toNat) i t = (wstF 0 lw (I 82) (I 83) (I 84) n (rowsL n (I 85 0).toNat true) (I 85 1).toNat) i by omega) (show (scS lw (I 82) (I 83) (I 84) n (I 85 0).toNat (I 85 1).toNat) i t = (-(wstF 1 lw (I 82) (I 83) (I 84) n (rowsL n (I 85 1).toNat true) (I 85 0).toNat t)) by omega)
                          obtain ⟨k0, k1, s0, s1⟩ := hra.2 he
                          have ei : i = (gd0 lw (I 82) (I 83) (I 84) n (I 85 0).toNat (I 85 1).toNat).2 := by
                            by_cases e : (gd0 lw (I 82) (I 83) (I 84) n (I 85 0).toNat (I 85 1).toNat).2 < i
                            · exact absurd ⟨s0, s1⟩ (qi _ _ e k1)
                            · omega
                          have ej : t = (gd1 lw (I 82) (I 83) (I 84) n (I 85 0).toNat (I 85 1).toNat).2 := by
                            by_cases e : (gd1 lw (I 82) (I 83) (I 84) n (I 85 0).toNat (I 85 1).toNat).2 < t
                            · rw [← ei] at s0 s1
                              exact absurd ⟨s0, s1⟩ (qt _ e)
                            · omega
                          exact ⟨_, rfl, by rw [resZ, if_pos (by omega), if_pos (lstB_t m14), if_pos he, if_neg (by decide), if_neg (by decide), ← ej]; exact numP_congr (fun v hv => d4 _ _ (getD_get ht) v hv), FrR.trans fr14 (FrR_up (a := 110) (by decide) (by decide)), rfl⟩
                        · refine rz_goto (t := 224) dX12_rest_178 rfl ?_
                          refine rz_iinc dX12_rest_224 (by decide) rfl rfl rfl ?_
                          refine rz_goto (t := 142) dX12_rest_227 rfl ?_
                          exact rz_bk (iht (()) ((fun y hy => by by_cases e : y = t; (subst e; intro q; obtain ⟨q1, q2⟩ := q; omega); exact qt y (by omega)))) ⟨Or.inr rfl, Or.inr rfl, Or.inr rfl, Or.inr rfl, Or.inr rfl, Or.inl rfl, trivial⟩ (rfl) (rfl)
                  · intro st qt
                    refine rz_iload dX12_rest_142 rfl ?_
                    refine rz_aload_n dX12_rest_144 rfl ?_
                    refine rz_getI (z := ((rowsL n (I 85 1).toNat true).length : Int)) dX12_rest_145 kf_RX12_332 hd_81 rfl (d2) ?_
                    refine rz_icmp_ge (t := 230) dX12_rest_148 rfl (by omega) (by omega) (fun c148 => ?_) (fun c148 => ?_)
                    · refine rz_iinc dX12_rest_230 (by decide) rfl rfl rfl ?_
                      refine rz_goto (t := 88) dX12_rest_233 rfl ?_
                      exact rz_bk (ihi (()) ((fun x y hx hy => by by_cases e : x = i; (subst e; exact qt y hy); exact qi x y (by omega) hy))) ⟨Or.inr rfl, Or.inr rfl, Or.inr rfl, Or.inl rfl, Or.inl rfl, Or.inl rfl, trivial⟩ (rfl) (rfl)
                    · exfalso; omega
                · exfalso; omega
          · intro si qi
            refine rz_iload_n dX12_rest_88 rfl ?_
            refine rz_aload_n dX12_rest_89 rfl ?_
            refine rz_getI (z := ((rowsL n (I 85 0).toNat true).length : Int)) dX12_rest_90 kf_RX12_329 hd_81 rfl (d1) ?_
            refine rz_icmp_ge (t := 236) dX12_rest_93 rfl (by omega) (by omega) (fun c93 => ?_) (fun c93 => ?_)
            · refine rz_bipush dX12_rest_236 (by decide) ?_
              refine rz_iret dX12_rest_238 rfl ?_
              exact ⟨_, rfl, by rw [resZ, if_pos (by omega), if_pos (lstB_t m14), if_neg (fun he => by obtain ⟨k0, k1, s0, s1⟩ := hra.2 he; exact qi _ _ k0 k1 ⟨s0, s1⟩)], FrR.trans fr14 (FrR_up (a := 110) (by decide) (by decide)), rfl⟩
            · exfalso; omega
        · exfalso; omega
    · refine rz_if_ne (t := 23) dX12_rest_17 rfl (by omega) (fun q => absurd q (by decide)) (fun _ => ?_)
      refine rz_bipush dX12_rest_20 (by decide) ?_
      refine rz_iret dX12_rest_22 rfl ?_
      exact ⟨_, rfl, by rw [resZ, if_pos (by omega), if_neg (lstB_f m14)], fr14, rfl⟩
  · refine rz_if_ne (t := 13) dX12_rest_6 rfl (by omega) (fun q => absurd q (by decide)) (fun _ => ?_)
    refine rz_ldcw (x := (-2000000000)) dX12_rest_9 kk_RX12_256 (by decide) ?_
    refine rz_iret dX12_rest_12 rfl ?_
    exfalso; omega
set_option maxRecDepth 20000 in
set_option maxHeartbeats 400000 in
theorem rest_r2 {X : pX} {I J : IM} {h : Nat} {lw : Lw} {n : Nat} {m0 m1 : Mx} (hq : RqI I lw n m0 m1) (hbk : BOK I) : KIq X (h + 9) mX12_rest [.ref 81, zi 2] I J (fun z A B => z = resZ lw (I 82) (I 83) (I 84) (I 85) n 2 ∧ FrR I A ∧ J = B) := by
  obtain ⟨h1, h2, h3, h5, h6, h7⟩ := hq
  have h80 := h7 0 (by decide)
  have h81 := h7 1 (by decide)
  show Rz X (h + 9) mX12_rest 0 [some (.ref 81), some (zi 2), none, none, none, none] [] I J _
  refine rz_iload_n dX12_rest_0 rfl ?_
  refine rz_iconst dX12_rest_1 ?_
  refine rz_iconst dX12_rest_2 ?_
  refine rz_cSIq dX12_rest_3 kl_RX12_140 (c_X12_in X _ I J 2 0 2 (by omega) (by omega) (by omega)) rfl rfl (Nat.le_of_ble_eq_true rfl) (Nat.le_of_ble_eq_true rfl) ?_
  rintro z3 A3 B3 ⟨⟨rfl, b3⟩ | ⟨rfl, b3⟩, rfl, rfl⟩
  · refine rz_if_ne (t := 13) dX12_rest_6 rfl (by omega) (fun _ => ?_) (fun q => absurd q (by decide))
    refine rz_aload_n dX12_rest_13 rfl ?_
    refine rz_cVIq dX12_rest_14 kl_RX12_335 hd_81 ⟨_, _, rfl⟩ (c_X12_findBoth lw h1 n h2 h3 (I 85 0).toNat (I 85 1).toNat ⟨by omega, by omega⟩ ⟨by omega, by omega⟩ hbk) rfl rfl (Nat.le_of_ble_eq_true rfl) (Nat.le_of_ble_eq_true rfl) ?_
    rintro z14 A14 _ ⟨⟨rfl, m14, ⟨du14, e109⟩, fr14⟩ | ⟨rfl, m14, fr14⟩, rfl⟩
    · refine rz_if_ne (t := 23) dX12_rest_17 rfl (by omega) (fun _ => ?_) (fun q => absurd q (by decide))
      obtain ⟨d1, d2, d3, d4, d5, d6⟩ := du14
      have e82 : A14 82 = I 82 := fr14.1 82 (by decide)
      have e83 : A14 83 = I 83 := fr14.1 83 (by decide)
      have e84 : A14 84 = I 84 := fr14.1 84 (by decide)
      have hl0 := m14.1.2
      have hl1 := m14.2.2
      have hg1 := m14.2.1
      have hW9 : ∀ v, v < n → 0 ≤ I 82 v ∧ I 82 v ≤ 9 := fun v hv => (h3 v hv).1
      have hlo := fun i => wst_lo (lw := lw) (T := I 83) (U := I 84) (L := (rowsL n (I 85 0).toNat true)) h2.2 (by omega : (I 85 1).toNat ≤ 9) hW9 m14.2.1 i
      have hhi := fun j => wst_hi (lw := lw) (T := I 83) (U := I 84) (L := (rowsL n (I 85 1).toNat true)) h2.2 (by omega : (I 85 0).toNat ≤ 9) hW9 m14.1.1 j
      have hra := rest_at (lw := lw) (T := I 83) (U := I 84) h2.2 (by omega : (I 85 0).toNat ≤ 9) (by omega : (I 85 1).toNat ≤ 9) hW9 m14
      refine rz_iconst dX12_rest_23 ?_
      refine rz_istore_n dX12_rest_24 (by decide) rfl ?_
      refine rz_upx (σ := Nat → Int) (Inv := fun j sj => ∀ x, x < j → sj x = (-(wstF 1 lw (I 82) (I 83) (I 84) n (rowsL n (I 85 1).toNat true) (I 85 0).toNat x))) (ls := fun (j : Nat) sj => [some (.ref 81), some (zi 2), some (zi (j : Int)), none, none, none]) (IV := fun (j : Nat) sj => (upA A14 110 sj)) (JV := fun (j : Nat) sj => J) ((rowsL n (I 85 1).toNat true).length) ((A14 110)) (fun x hx => absurd hx (by omega)) ⟨Or.inr rfl, Or.inr rfl, Or.inr rfl, Or.inl rfl, Or.inl rfl, Or.inl rfl, trivial⟩ (upA_id) (rfl) ?_ ?_
      · intro j sj hj qj ihj
        have hwdj := (rowsL_ok (n := n) (left := (I 85 1).toNat) (all := true) (by omega) _ (List.mem_of_getElem? (getD_get hj))).2
        refine rz_iload_n dX12_rest_25 rfl ?_
        refine rz_aload_n dX12_rest_26 rfl ?_
        refine rz_getI (z := ((rowsL n (I 85 1).toNat true).length : Int)) dX12_rest_27 kf_RX12_332 hd_81 rfl (d2) ?_
        refine rz_icmp_ge (t := 86) dX12_rest_30 rfl (by omega) (by omega) (fun c30 => ?_) (fun c30 => ?_)
        · exfalso; omega
        · refine rz_iconst dX12_rest_33 ?_
          refine rz_istore_n dX12_rest_34 (by decide) rfl ?_
          refine rz_upx (σ := Nat → Int) (Inv := fun i si => (i = 0 ∨ HiOf (fun x => (scS lw (I 82) (I 83) (I 84) n (I 85 0).toNat (I 85 1).toNat) x j) i (si j)) ∧ ∀ x, x < j → si x = (-(wstF 1 lw (I 82) (I 83) (I 84) n (rowsL n (I 85 1).toNat true) (I 85 0).toNat x))) (ls := fun (i : Nat) si => [some (.ref 81), some (zi 2), some (zi (j : Int)), some (zi (i : Int)), none, none]) (IV := fun (i : Nat) si => (upA A14 110 si)) (JV := fun (i : Nat) si => J) ((rowsL n (I 85 0).toNat true).length) (sj) ⟨Or.inl rfl, qj⟩ ⟨Or.inr rfl, Or.inr rfl, Or.inr rfl, Or.inr rfl, Or.inl rfl, Or.inl rfl, trivial⟩ (rfl) (rfl) ?_ ?_
          · intro i si hi qi ihi
            have hwdi := (rowsL_ok (n := n) (left := (I 85 0).toNat) (all := true) (by omega) _ (List.mem_of_getElem? (getD_get hi))).2
            have hsi : i = 0 ∨ (-45 ≤ si j ∧ si j ≤ 45) := qi.1.imp id (fun e => by obtain ⟨-, x, -, ex⟩ := e; have := scS_bd (lw := lw) (W := I 82) (T := I 83) (U := I 84) (N0 := (I 85 0).toNat) (N1 := (I 85 1).toNat) (i := x) (j := j) h2.2 hW9; have ex2 : si j = (scS lw (I 82) (I 83) (I 84) n (I 85 0).toNat (I 85 1).toNat) x j := ex; omega)
            refine rz_iload_n dX12_rest_35 rfl ?_
            refine rz_aload_n dX12_rest_36 rfl ?_
            refine rz_getI (z := ((rowsL n (I 85 0).toNat true).length : Int)) dX12_rest_37 kf_RX12_329 hd_81 rfl (d1) ?_
            refine rz_icmp_ge (t := 80) dX12_rest_40 rfl (by omega) (by omega) (fun c40 => ?_) (fun c40 => ?_)
            · exfalso; omega
            · refine rz_aload_n dX12_rest_43 rfl ?_
              refine rz_iload_n dX12_rest_44 rfl ?_
              refine rz_iload_n dX12_rest_45 rfl ?_
              refine rz_cVI dX12_rest_46 kl_RX12_349 hd_81 ⟨_, _, rfl⟩ (c_X12_scoreAt (I := upA A14 110 si) lw n ⟨d6, h2.2⟩ (fun v hv => by show 0 ≤ A14 82 v ∧ A14 82 v ≤ 9; rw [e82]; exact (h3 v hv).1) i j (by omega) (by omega) ((rowsL n (I 85 0).toNat true).getD i []) ((rowsL n (I 85 1).toNat true).getD j []) (fun v hv => ⟨d3 _ _ (getD_get hi) v hv, getD_le hwdi v⟩) (fun v hv => ⟨d4 _ _ (getD_get hj) v hv, getD_le hwdj v⟩) d5) rfl rfl (Nat.le_of_ble_eq_true rfl) (Nat.le_of_ble_eq_true rfl) ?_
              refine rz_ieq (y := (scS lw (I 82) (I 83) (I 84) n (I 85 0).toNat (I 85 1).toNat) i j) (by show (scS lw (I 82) (I 83) (I 84) n (I 85 0).toNat (I 85 1).toNat) i j = scP lw (A14 82) (A14 83) (A14 84) n _ _; rw [e82, e83, e84]; rfl) ?_
              have hsb := scS_bd (lw := lw) (W := I 82) (T := I 83) (U := I 84) (N0 := (I 85 0).toNat) (N1 := (I 85 1).toNat) (i := i) (j := j) h2.2 (fun v hv => (h3 v hv).1)
              refine rz_istore dX12_rest_49 (by decide) rfl ?_
              refine rz_iload_n dX12_rest_51 rfl ?_
              refine rz_if_eq (t := 66) dX12_rest_52 rfl (by omega) (fun c52 => ?_) (fun c52 => ?_)
              · refine rz_aload_n dX12_rest_66 rfl ?_
                refine rz_getR dX12_rest_67 kf_RX12_96 hd_81 rfl rr_81_43 ?_
                refine rz_iload_n dX12_rest_70 rfl ?_
                refine rz_iload dX12_rest_71 rfl ?_
                refine rz_iastN (k := j) dX12_rest_73 hd_110 (by decide) (by omega) (by omega) ?_
                refine rz_iinc dX12_rest_74 (by decide) rfl rfl rfl ?_
                refine rz_goto (t := 35) dX12_rest_77 rfl ?_
                exact rz_bk (ihi ((up1 si j ((scS lw (I 82) (I 83) (I 84) n (I 85 0).toNat (I 85 1).toNat) i j))) (⟨Or.inr (by rw [up1_self]; exact HiOf_y (f := (fun x => (scS lw (I 82) (I 83) (I 84) n (I 85 0).toNat (I 85 1).toNat) x j)) qi.1 (by show i = 0 ∨ si j < (scS lw (I 82) (I 83) (I 84) n (I 85 0).toNat (I 85 1).toNat) i j; omega)), fun x hx => (up1_ne (by omega)).trans (qi.2 x hx)⟩)) ⟨Or.inr rfl, Or.inr rfl, Or.inr rfl, Or.inr rfl, Or.inl rfl, Or.inl rfl, trivial⟩ (upA_upA.symm) (rfl)
              · refine rz_iload dX12_rest_55 rfl ?_
                refine rz_aload_n dX12_rest_57 rfl ?_
                refine rz_getR dX12_rest_58 kf_RX12_96 hd_81 rfl rr_81_43 ?_
                refine rz_iload_n dX12_rest_61 rfl ?_
                refine rz_ialdN (k := j) (z := (si j)) dX12_rest_62 hd_110 (by decide) (by omega) (by omega) rfl ?_
                refine rz_icmp_le (t := 74) dX12_rest_63 rfl (by omega) (by omega) (fun c63 => ?_) (fun c63 => ?_)
                · refine rz_iinc dX12_rest_74 (by decide) rfl rfl rfl ?_
                  refine rz_goto (t := 35) dX12_rest_77 rfl ?_
                  exact rz_bk (ihi (si) (⟨Or.inr (HiOf_n (f := (fun x => (scS lw (I 82) (I 83) (I 84) n (I 85 0).toNat (I 85 1).toNat) x j)) (qi.1.resolve_left (by omega)) (by show ¬ si j < (scS lw (I 82) (I 83) (I 84) n (I 85 0).toNat (I 85 1).toNat) i j; omega)), qi.2⟩)) ⟨Or.inr rfl, Or.inr rfl, Or.inr rfl, Or.inr rfl, Or.inl rfl, Or.inl rfl, trivial⟩ (rfl) (rfl)
                · refine rz_aload_n dX12_rest_66 rfl ?_
                  refine rz_getR dX12_rest_67 kf_RX12_96 hd_81 rfl rr_81_43 ?_
                  refine rz_iload_n dX12_rest_70 rfl ?_
                  refine rz_iload dX12_rest_71 rfl ?_
                  refine rz_iastN (k := j) dX12_rest_73 hd_110 (by decide) (by omega) (by omega) ?_
                  refine rz_iinc dX12_rest_74 (by decide) rfl rfl rfl ?_
                  refine rz_goto (t := 35) dX12_rest_77 rfl ?_
                  exact rz_bk (ihi ((up1 si j ((scS lw (I 82) (I 83) (I 84) n (I 85 0).toNat (I 85 1).toNat) i j))) (⟨Or.inr (by rw [up1_self]; exact HiOf_y (f := (fun x => (scS lw (I 82) (I 83) (I 84) n (I 85 0).toNat (I 85 1).toNat) x j)) qi.1 (by show i = 0 ∨ si j < (scS lw (I 82) (I 83) (I 84) n (I 85 0).toNat (I 85 1).toNat) i j; omega)), fun x hx => (up1_ne (by omega)).trans (qi.2 x hx)⟩)) ⟨Or.inr rfl, Or.inr rfl, Or.inr rfl, Or.inr rfl, Or.inl rfl, Or.inl rfl, trivial⟩ (upA_upA.symm) (rfl)
          · intro si qi
            have hg0 := m14.1.1
            refine rz_iload_n dX12_rest_35 rfl ?_
            refine rz_aload_n dX12_rest_36 rfl ?_
            refine rz_getI (z := ((rowsL n (I 85 0).toNat true).length : Int)) dX12_rest_37 kf_RX12_329 hd_81 rfl (d1) ?_
            refine rz_icmp_ge (t := 80) dX12_rest_40 rfl (by omega) (by omega) (fun c40 => ?_) (fun c40 => ?_)
            · refine rz_iinc dX12_rest_80 (by decide) rfl rfl rfl ?_
              refine rz_goto (t := 25) dX12_rest_83 rfl ?_
              exact rz_bk (ihj (si) ((fun x hx => by by_cases e : x = j; (subst e; exact HiOf_eq (qi.1.resolve_left (by omega)) (hhi x)); exact qi.2 x (by omega)))) ⟨Or.inr rfl, Or.inr rfl, Or.inr rfl, Or.inl rfl, Or.inl rfl, Or.inl rfl, trivial⟩ (rfl) (rfl)
            · exfalso; omega
      · intro sj qj
        refine rz_iload_n dX12_rest_25 rfl ?_
        refine rz_aload_n dX12_rest_26 rfl ?_
        refine rz_getI (z := ((rowsL n (I 85 1).toNat true).length : Int)) dX12_rest_27 kf_RX12_332 hd_81 rfl (d2) ?_
        refine rz_icmp_ge (t := 86) dX12_rest_30 rfl (by omega) (by omega) (fun c30 => ?_) (fun c30 => ?_)
        · refine rz_iconst dX12_rest_86 ?_
          refine rz_istore_n dX12_rest_87 (by decide) rfl ?_
          refine rz_upx (σ := Unit) (Inv := fun i si => ∀ x y, x < i → y < (rowsL n (I 85 1).toNat true).length → ¬ ((scS lw (I 82) (I 83) (I 84) n (I 85 0).toNat (I 85 1).toNat) x y = (wstF 0 lw (I 82) (I 83) (I 84) n (rowsL n (I 85 0).toNat true) (I 85 1).toNat) x ∧ (scS lw (I 82) (I 83) (I 84) n (I 85 0).toNat (I 85 1).toNat) x y = (-(wstF 1 lw (I 82) (I 83) (I 84) n (rowsL n (I 85 1).toNat true) (I 85 0).toNat y)))) (ls := fun (i : Nat) si => [some (.ref 81), some (zi 2), some (zi (i : Int)), none, none, none]) (IV := fun (i : Nat) si => (upA A14 110 sj)) (JV := fun (i : Nat) si => J) ((rowsL n (I 85 0).toNat true).length) (()) (fun x y hx => absurd hx (by omega)) ⟨Or.inr rfl, Or.inr rfl, Or.inr rfl, Or.inl rfl, Or.inl rfl, Or.inl rfl, trivial⟩ (rfl) (rfl) ?_ ?_
          · intro i si hi qi ihi
            have hwdi := (rowsL_ok (n := n) (left := (I 85 0).toNat) (all := true) (by omega) _ (List.mem_of_getElem? (getD_get hi))).2
            refine rz_iload_n dX12_rest_88 rfl ?_
            refine rz_aload_n dX12_rest_89 rfl ?_
            refine rz_getI (z := ((rowsL n (I 85 0).toNat true).length : Int)) dX12_rest_90 kf_RX12_329 hd_81 rfl (d1) ?_
            refine rz_icmp_ge (t := 236) dX12_rest_93 rfl (by omega) (by omega) (fun c93 => ?_) (fun c93 => ?_)
            · exfalso; omega
            · refine rz_iconst dX12_rest_96 ?_
              refine rz_istore_n dX12_rest_97 (by decide) rfl ?_
              refine rz_iconst dX12_rest_98 ?_
              refine rz_istore dX12_rest_99 (by decide) rfl ?_
              refine rz_upx (σ := Int) (Inv := fun k sk => (k = 0 ∧ sk = 0) ∨ (1 ≤ k ∧ LoOf ((scS lw (I 82) (I 83) (I 84) n (I 85 0).toNat (I 85 1).toNat) i) k sk)) (ls := fun (k : Nat) sk => [some (.ref 81), some (zi 2), some (zi (i : Int)), some (zi sk), some (zi (k : Int)), none]) (IV := fun (k : Nat) sk => (upA A14 110 sj)) (JV := fun (k : Nat) sk => J) ((rowsL n (I 85 1).toNat true).length) (0) (Or.inl ⟨rfl, rfl⟩) ⟨Or.inr rfl, Or.inr rfl, Or.inr rfl, Or.inr rfl, Or.inr rfl, Or.inl rfl, trivial⟩ (rfl) (rfl) ?_ ?_
              · intro k sk hk qk ihk
                have hwdk := (rowsL_ok (n := n) (left := (I 85 1).toNat) (all := true) (by omega) _ (List.mem_of_getElem? (getD_get hk))).2
                have hskb : -45 ≤ sk ∧ sk ≤ 45 := by
                  rcases qk with e | ⟨-, -, x, -, ex⟩
                  · omega
                  · have := scS_bd (lw := lw) (W := I 82) (T := I 83) (U := I 84) (N0 := (I 85 0).toNat) (N1 := (I 85 1).toNat) (i := i) (j := x) h2.2 hW9; omega
                refine rz_iload dX12_rest_101 rfl ?_
                refine rz_aload_n dX12_rest_103 rfl ?_
                refine rz_getI (z := ((rowsL n (I 85 1).toNat true).length : Int)) dX12_rest_104 kf_RX12_332 hd_81 rfl (d2) ?_
                refine rz_icmp_ge (t := 139) dX12_rest_107 rfl (by omega) (by omega) (fun c107 => ?_) (fun c107 => ?_)
                · exfalso; omega
                · refine rz_aload_n dX12_rest_110 rfl ?_
                  refine rz_iload_n dX12_rest_111 rfl ?_
                  refine rz_iload dX12_rest_112 rfl ?_
                  refine rz_cVI dX12_rest_114 kl_RX12_349 hd_81 ⟨_, _, rfl⟩ (c_X12_scoreAt (I := upA A14 110 sj) lw n ⟨d6, h2.2⟩ (fun v hv => by show 0 ≤ A14 82 v ∧ A14 82 v ≤ 9; rw [e82]; exact (h3 v hv).1) i k (by omega) (by omega) ((rowsL n (I 85 0).toNat true).getD i []) ((rowsL n (I 85 1).toNat true).getD k []) (fun v hv => ⟨d3 _ _ (getD_get hi) v hv, getD_le hwdi v⟩) (fun v hv => ⟨d4 _ _ (getD_get hk) v hv, getD_le hwdk v⟩) d5) rfl rfl (Nat.le_of_ble_eq_true rfl) (Nat.le_of_ble_eq_true rfl) ?_
                  refine rz_ieq (y := (scS lw (I 82) (I 83) (I 84) n (I 85 0).toNat (I 85 1).toNat) i k) (by show (scS lw (I 82) (I 83) (I 84) n (I 85 0).toNat (I 85 1).toNat) i k = scP lw (A14 82) (A14 83) (A14 84) n _ _; rw [e82, e83, e84]; rfl) ?_
                  have hsb := scS_bd (lw := lw) (W := I 82) (T := I 83) (U := I 84) (N0 := (I 85 0).toNat) (N1 := (I 85 1).toNat) (i := i) (j := k) h2.2 (fun v hv => (h3 v hv).1)
                  refine rz_istore dX12_rest_117 (by decide) rfl ?_
                  refine rz_iload dX12_rest_119 rfl ?_
                  refine rz_if_eq (t := 130) dX12_rest_121 rfl (by omega) (fun c121 => ?_) (fun c121 => ?_)
                  · refine rz_iload dX12_rest_130 rfl ?_
                    refine rz_istore_n dX12_rest_132 (by decide) rfl ?_
                    refine rz_iinc (ls' := [some (.ref 81), some (zi 2), some (zi (i : Int)), some (zi ((scS lw (I 82) (I 83) (I 84) n (I 85 0).toNat (I 85 1).toNat) i k)), some (zi ((k : Int) + 1)), some (zi ((scS lw (I 82) (I 83) (I 84) n (I 85 0).toNat (I 85 1).toNat) i k))]) dX12_rest_133 (by decide) rfl rfl rfl ?_
                    refine rz_goto (t := 101) dX12_rest_136 rfl ?_
                    exact rz_bk (ihk (((scS lw (I 82) (I 83) (I 84) n (I 85 0).toNat (I 85 1).toNat) i k)) ((Or.inr ⟨by omega, LoOf_y (f := (scS lw (I 82) (I 83) (I 84) n (I 85 0).toNat (I 85 1).toNat) i) (z := sk) (qk.imp (fun e => e.1) (fun e => e.2)) (by omega)⟩))) ⟨Or.inr rfl, Or.inr rfl, Or.inr rfl, Or.inr rfl, Or.inr rfl, Or.inl rfl, trivial⟩ (rfl) (rfl)
                  · refine rz_iload dX12_rest_124 rfl ?_
                    refine rz_iload_n dX12_rest_126 rfl ?_
                    refine rz_icmp_ge (t := 133) dX12_rest_127 rfl (by omega) (by omega) (fun c127 => ?_) (fun c127 => ?_)
                    · refine rz_iinc dX12_rest_133 (by decide) rfl rfl rfl ?_
                      refine rz_goto (t := 101) dX12_rest_136 rfl ?_
                      exact rz_bk (ihk (sk) ((Or.inr ⟨by omega, LoOf_n (qk.resolve_left (by omega)).2 (by omega)⟩))) ⟨Or.inr rfl, Or.inr rfl, Or.inr rfl, Or.inr rfl, Or.inr rfl, Or.inl rfl, trivial⟩ (rfl) (rfl)
                    · refine rz_iload dX12_rest_130 rfl ?_
                      refine rz_istore_n dX12_rest_132 (by decide) rfl ?_
                      refine rz_iinc (ls' := [some (.ref 81), some (zi 2), some (zi (i : Int)), some (zi ((scS lw (I 82) (I 83) (I 84) n (I 85 0).toNat (I 85 1).toNat) i k)), some (zi ((k : Int) + 1)), some (zi ((scS lw (I 82) (I 83) (I 84) n (I 85 0).toNat (I 85 1).toNat) i k))]) dX12_rest_133 (by decide) rfl rfl rfl ?_
                      refine rz_goto (t := 101) dX12_rest_136 rfl ?_
                      exact rz_bk (ihk (((scS lw (I 82) (I 83) (I 84) n (I 85 0).toNat (I 85 1).toNat) i k)) ((Or.inr ⟨by omega, LoOf_y (f := (scS lw (I 82) (I 83) (I 84) n (I 85 0).toNat (I 85 1).toNat) i) (z := sk) (qk.imp (fun e => e.1) (fun e => e.2)) (by omega)⟩))) ⟨Or.inr rfl, Or.inr rfl, Or.inr rfl, Or.inr rfl, Or.inr rfl, Or.inl rfl, trivial⟩ (rfl) (rfl)
              · intro sk qk
                have hlow : sk = (wstF 0 lw (I 82) (I 83) (I 84) n (rowsL n (I 85 0).toNat true) (I 85 1).toNat) i := LoOf_eq (qk.resolve_left (by omega)).2 (hlo i)
                have hwb := wst_rg (b := 0) (lw := lw) (T := I 83) (U := I 84) (L := (rowsL n (I 85 0).toNat true)) h2.2 (by omega : (I 85 1).toNat ≤ 9) hW9 m14.2.1 i
                refine rz_iload dX12_rest_101 rfl ?_
                refine rz_aload_n dX12_rest_103 rfl ?_
                refine rz_getI (z := ((rowsL n (I 85 1).toNat true).length : Int)) dX12_rest_104 kf_RX12_332 hd_81 rfl (d2) ?_
                refine rz_icmp_ge (t := 139) dX12_rest_107 rfl (by omega) (by omega) (fun c107 => ?_) (fun c107 => ?_)
                · refine rz_iconst dX12_rest_139 ?_
                  refine rz_istore dX12_rest_140 (by decide) rfl ?_
                  refine rz_upx (σ := Unit) (Inv := fun t st => ∀ y, y < t → ¬ ((scS lw (I 82) (I 83) (I 84) n (I 85 0).toNat (I 85 1).toNat) i y = (wstF 0 lw (I 82) (I 83) (I 84) n (rowsL n (I 85 0).toNat true) (I 85 1).toNat) i ∧ (scS lw (I 82) (I 83) (I 84) n (I 85 0).toNat (I 85 1).toNat) i y = (-(wstF 1 lw (I 82) (I 83) (I 84) n (rowsL n (I 85 1).toNat true) (I 85 0).toNat y)))) (ls := fun (t : Nat) st => [some (.ref 81), some (zi 2), some (zi (i : Int)), some (zi sk), some (zi (t : Int)), none]) (IV := fun (t : Nat) st => (upA A14 110 sj)) (JV := fun (t : Nat) st => J) ((rowsL n (I 85 1).toNat true).length) (()) (fun y hy => absurd hy (by omega)) ⟨Or.inr rfl, Or.inr rfl, Or.inr rfl, Or.inr rfl, Or.inr rfl, Or.inl rfl, trivial⟩ (rfl) (rfl) ?_ ?_
                  · intro t st ht qt iht
                    have hwdt := (rowsL_ok (n := n) (left := (I 85 1).toNat) (all := true) (by omega) _ (List.mem_of_getElem? (getD_get ht))).2
                    have hcb := wst_rg (b := 1) (lw := lw) (T := I 83) (U := I 84) (L := (rowsL n (I 85 1).toNat true)) h2.2 (by omega : (I 85 0).toNat ≤ 9) hW9 m14.1.1 t
                    refine rz_iload dX12_rest_142 rfl ?_
                    refine rz_aload_n dX12_rest_144 rfl ?_
                    refine rz_getI (z := ((rowsL n (I 85 1).toNat true).length : Int)) dX12_rest_145 kf_RX12_332 hd_81 rfl (d2) ?_
                    refine rz_icmp_ge (t := 230) dX12_rest_148 rfl (by omega) (by omega) (fun c148 => ?_) (fun c148 => ?_)
                    · exfalso; omega
                    · refine rz_aload_n dX12_rest_151 rfl ?_
                      refine rz_iload_n dX12_rest_152 rfl ?_
                      refine rz_iload dX12_rest_153 rfl ?_
                      refine rz_cVI dX12_rest_155 kl_RX12_349 hd_81 ⟨_, _, rfl⟩ (c_X12_scoreAt (I := upA A14 110 sj) lw n ⟨d6, h2.2⟩ (fun v hv => by show 0 ≤ A14 82 v ∧ A14 82 v ≤ 9; rw [e82]; exact (h3 v hv).1) i t (by omega) (by omega) ((rowsL n (I 85 0).toNat true).getD i []) ((rowsL n (I 85 1).toNat true).getD t []) (fun v hv => ⟨d3 _ _ (getD_get hi) v hv, getD_le hwdi v⟩) (fun v hv => ⟨d4 _ _ (getD_get ht) v hv, getD_le hwdt v⟩) d5) rfl rfl (Nat.le_of_ble_eq_true rfl) (Nat.le_of_ble_eq_true rfl) ?_
                      refine rz_ieq (y := (scS lw (I 82) (I 83) (I 84) n (I 85 0).toNat (I 85 1).toNat) i t) (by show (scS lw (I 82) (I 83) (I 84) n (I 85 0).toNat (I 85 1).toNat) i t = scP lw (A14 82) (A14 83) (A14 84) n _ _; rw [e82, e83, e84]; rfl) ?_
                      have hsb := scS_bd (lw := lw) (W := I 82) (T := I 83) (U := I 84) (N0 := (I 85 0).toNat) (N1 := (I 85 1).toNat) (i := i) (j := t) h2.2 (fun v hv => (h3 v hv).1)
                      refine rz_istore dX12_rest_158 (by decide) rfl ?_
                      refine rz_iload dX12_rest_160 rfl ?_
                      refine rz_iload_n dX12_rest_162 rfl ?_
                      refine rz_icmp_ne (t := 224) dX12_rest_163 rfl (by omega) (by omega) (fun c163 => ?_) (fun c163 => ?_)
                      · refine rz_iinc dX12_rest_224 (by decide) rfl rfl rfl ?_
                        refine rz_goto (t := 142) dX12_rest_227 rfl ?_
                        exact rz_bk (iht (()) ((fun y hy => by by_cases e : y = t; (subst e; intro q; obtain ⟨q1, q2⟩ := q; omega); exact qt y (by omega)))) ⟨Or.inr rfl, Or.inr rfl, Or.inr rfl, Or.inr rfl, Or.inr rfl, Or.inl rfl, trivial⟩ (rfl) (rfl)
                      · refine rz_iload dX12_rest_166 rfl ?_
                        refine rz_aload_n dX12_rest_168 rfl ?_
                        refine rz_getR dX12_rest_169 kf_RX12_96 hd_81 rfl rr_81_43 ?_
                        refine rz_iload dX12_rest_172 rfl ?_
                        refine rz_ialdN (k := t) (z := (-(wstF 1 lw (I 82) (I 83) (I 84) n (rowsL n (I 85 1).toNat true) (I 85 0).toNat t))) dX12_rest_174 hd_110 (by decide) (by omega) (by omega) (qj t ht) ?_
                        refine rz_icmp_eq (t := 181) dX12_rest_175 rfl (by omega) (by omega) (fun c175 => ?_) (fun c175 => ?_)
                        · refine rz_iload_n dX12_rest_181 rfl ?_
                          refine rz_if_ne (t := 200) dX12_rest_182 rfl (by omega) (fun _ => ?_) (fun q => absurd q (by decide))
                          refine rz_iload_n dX12_rest_200 rfl ?_
                          refine rz_iconst dX12_rest_201 ?_
                          refine rz_icmp_ne (t := 221) dX12_rest_202 rfl (by omega) (by omega) (fun _ => ?_) (fun q => absurd q (by decide))
                          refine rz_iload dX12_rest_221 rfl ?_
                          refine rz_iret dX12_rest_223 rfl ?_
                          obtain ⟨he, hv, hi0, hj0⟩ := hra.1 i t hi ht (show (scS lw (I 82) (I 83) (I 84) n (I 85 0).toNat (I 85 1).toNat) i t = (wstF 0 lw (I 82) (I 83) (I 84) n (rowsL n (I 85 0).toNat true) (I 85 1).toNat) i by omega) (show (scS lw (I 82) (I 83) (I 84) n (I 85 0).toNat (I 85 1).toNat) i t = (-(wstF 1 lw (I 82) (I 83) (I 84) n (rowsL n (I 85 1).toNat true) (I 85 0).toNat t)) by omega)
                          obtain ⟨k0, k1, s0, s1⟩ := hra.2 he
                          have ei : i = (gd0 lw (I 82) (I 83) (I 84) n (I 85 0).toNat (I 85 1).toNat).2 := by
                            by_cases e : (gd0 lw (I 82) (I 83) (I 84) n (I 85 0).toNat (I 85 1).toNat).2 < i
                            · exact absurd ⟨s0, s1⟩ (qi _ _ e k1)
                            · omega
                          have ej : t = (gd1 lw (I 82) (I 83) (I 84) n (I 85 0).toNat (I 85 1).toNat).2 := by
                            by_cases e : (gd1 lw (I 82) (I 83) (I 84) n (I 85 0).toNat (I 85 1).toNat).2 < t
                            · rw [← ei] at s0 s1
                              exact absurd ⟨s0, s1⟩ (qt _ e)
                            · omega
                          exact ⟨_, rfl, by rw [resZ, if_pos (by omega), if_pos (lstB_t m14), if_pos he, if_pos rfl]; exact hv, FrR.trans fr14 (FrR_up (a := 110) (by decide) (by decide)), rfl⟩
                        · refine rz_goto (t := 224) dX12_rest_178 rfl ?_
                          refine rz_iinc dX12_rest_224 (by decide) rfl rfl rfl ?_
                          refine rz_goto (t := 142) dX12_rest_227 rfl ?_
                          exact rz_bk (iht (()) ((fun y hy => by by_cases e : y = t; (subst e; intro q; obtain ⟨q1, q2⟩ := q; omega); exact qt y (by omega)))) ⟨Or.inr rfl, Or.inr rfl, Or.inr rfl, Or.inr rfl, Or.inr rfl, Or.inl rfl, trivial⟩ (rfl) (rfl)
                  · intro st qt
                    refine rz_iload dX12_rest_142 rfl ?_
                    refine rz_aload_n dX12_rest_144 rfl ?_
                    refine rz_getI (z := ((rowsL n (I 85 1).toNat true).length : Int)) dX12_rest_145 kf_RX12_332 hd_81 rfl (d2) ?_
                    refine rz_icmp_ge (t := 230) dX12_rest_148 rfl (by omega) (by omega) (fun c148 => ?_) (fun c148 => ?_)
                    · refine rz_iinc dX12_rest_230 (by decide) rfl rfl rfl ?_
                      refine rz_goto (t := 88) dX12_rest_233 rfl ?_
                      exact rz_bk (ihi (()) ((fun x y hx hy => by by_cases e : x = i; (subst e; exact qt y hy); exact qi x y (by omega) hy))) ⟨Or.inr rfl, Or.inr rfl, Or.inr rfl, Or.inl rfl, Or.inl rfl, Or.inl rfl, trivial⟩ (rfl) (rfl)
                    · exfalso; omega
                · exfalso; omega
          · intro si qi
            refine rz_iload_n dX12_rest_88 rfl ?_
            refine rz_aload_n dX12_rest_89 rfl ?_
            refine rz_getI (z := ((rowsL n (I 85 0).toNat true).length : Int)) dX12_rest_90 kf_RX12_329 hd_81 rfl (d1) ?_
            refine rz_icmp_ge (t := 236) dX12_rest_93 rfl (by omega) (by omega) (fun c93 => ?_) (fun c93 => ?_)
            · refine rz_bipush dX12_rest_236 (by decide) ?_
              refine rz_iret dX12_rest_238 rfl ?_
              exact ⟨_, rfl, by rw [resZ, if_pos (by omega), if_pos (lstB_t m14), if_neg (fun he => by obtain ⟨k0, k1, s0, s1⟩ := hra.2 he; exact qi _ _ k0 k1 ⟨s0, s1⟩)], FrR.trans fr14 (FrR_up (a := 110) (by decide) (by decide)), rfl⟩
            · exfalso; omega
        · exfalso; omega
    · refine rz_if_ne (t := 23) dX12_rest_17 rfl (by omega) (fun q => absurd q (by decide)) (fun _ => ?_)
      refine rz_bipush dX12_rest_20 (by decide) ?_
      refine rz_iret dX12_rest_22 rfl ?_
      exact ⟨_, rfl, by rw [resZ, if_pos (by omega), if_neg (lstB_f m14)], fr14, rfl⟩
  · refine rz_if_ne (t := 13) dX12_rest_6 rfl (by omega) (fun q => absurd q (by decide)) (fun _ => ?_)
    refine rz_ldcw (x := (-2000000000)) dX12_rest_9 kk_RX12_256 (by decide) ?_
    refine rz_iret dX12_rest_12 rfl ?_
    exfalso; omega
theorem BQ_no {I J A B : IM} {p : Prop} {z : Int} (h : ¬ p) (q : BQ I J p z A B) : z = 0 ∧ I = A ∧ J = B := by
  obtain q | q := q
  all_goals first | exact absurd q.2.1 h | exact absurd q.2.2.2 h | exact absurd q.1 h | (obtain ⟨q1, q2, q3, q4⟩ := q; exact ⟨q1, q2.symm, q3.symm⟩) | (simp_all)
set_option maxRecDepth 20000 in
set_option maxHeartbeats 400000 in
theorem rest_rn {X : pX} {I J : IM} {h : Nat} {lw : Lw} {n : Nat} (what : Int) (hw : rg what) (h012 : ¬ (0 ≤ what ∧ what ≤ 2)) : KIq X (h + 9) mX12_rest [.ref 81, zi what] I J (fun z A B => z = resZ lw (I 82) (I 83) (I 84) (I 85) n what ∧ FrR I A ∧ J = B) := by
  show Rz X (h + 9) mX12_rest 0 [some (.ref 81), some (zi what), none, none, none, none] [] I J _
  refine rz_iload_n dX12_rest_0 rfl ?_
  refine rz_iconst dX12_rest_1 ?_
  refine rz_iconst dX12_rest_2 ?_
  refine rz_cSIq dX12_rest_3 kl_RX12_140 (c_X12_in X _ I J what 0 2 (by omega) (by decide) (by decide)) rfl rfl (Nat.le_of_ble_eq_true rfl) (Nat.le_of_ble_eq_true rfl) ?_
  rintro z3 _ _ hz3
  obtain ⟨rfl, rfl, rfl⟩ := BQ_no h012 hz3
  refine rz_if_ne (t := 13) dX12_rest_6 rfl (by omega) (fun q => absurd q (by decide)) (fun _ => ?_)
  refine rz_ldcw (x := (-2000000000)) dX12_rest_9 kk_RX12_256 (by decide) ?_
  refine rz_iret dX12_rest_12 rfl ?_
  exact ⟨_, rfl, by rw [resZ, if_neg (by omega)], FrR_refl, rfl⟩
theorem c_X12_rest {X : pX} {I J : IM} {h : Nat} {lw : Lw} {n : Nat} {m0 m1 : Mx} (hq : RqI I lw n m0 m1) (hbk : BOK I) (what : Int) (hw : rg what) : KIq X (h + 9) mX12_rest [.ref 81, zi what] I J (fun z A B => z = resZ lw (I 82) (I 83) (I 84) (I 85) n what ∧ FrR I A ∧ J = B) := by
  by_cases e : 0 ≤ what ∧ what ≤ 2
  · have h3 : what = 0 ∨ what = 1 ∨ what = 2 := by omega
    rcases h3 with rfl | rfl | rfl
    · exact rest_r0 hq hbk
    · exact rest_r1 hq hbk
    · exact rest_r2 hq hbk
  · exact rest_rn what hw e
