/-! mixes: the class, the reference -/
set_option maxRecDepth 20000 in
set_option maxHeartbeats 400000 in
theorem mixes_cn {X : pX} {I J : IM} {h : Nat} (n : Nat) (m0 m1 : Mx) (hm0 : MixC I 14 m0) (hm1 : MixC I 17 m1) (v i bn : Int) (hvr : rg v) (hi : rg i) (hbn : rg bn) (hV : ¬ mxsV v bn) : KIq X (h + 3) mX11_mixes [.ref 0, zi v, zi i, zi bn] I J (fun z A B => z = mxsZ (J (68 + 2 * v.toNat)) (shC I v) (I (67 + 2 * v.toNat) 3) n (I 10) m0 m1 v i bn ∧ (MixC A 14 (mxsM (J (68 + 2 * v.toNat)) (shC I v) (I (67 + 2 * v.toNat) 3) n (I 10) m0 m1 v i bn 0) ∧ MixC A 17 (mxsM (J (68 + 2 * v.toNat)) (shC I v) (I (67 + 2 * v.toNat) 3) n (I 10) m0 m1 v i bn 1)) ∧ (∀ a, (a < 14 ∨ 19 < a) → a ≠ 79 → A a = I a) ∧ J = B) := by
  show Rz X (h + 3) mX11_mixes 0 [some (.ref 0), some (zi v), some (zi i), some (zi bn), none, none, none, none] [] I J _
  refine rz_iload_n dX11_mixes_0 rfl ?_
  refine rz_cSIq dX11_mixes_1 kl_RX11_153 (c_X11_isShelf X _ I J v (by omega)) rfl rfl (Nat.le_of_ble_eq_true rfl) (Nat.le_of_ble_eq_true rfl) ?_
  rintro z1 A1 B1 ⟨⟨rfl, b1⟩ | ⟨rfl, b1⟩, rfl, rfl⟩
  · refine rz_if_eq (t := 39) dX11_mixes_4 rfl (by omega) (fun q => absurd q (by decide)) (fun _ => ?_)
    refine rz_iload_n dX11_mixes_7 rfl ?_
    refine rz_iconst dX11_mixes_8 ?_
    refine rz_icmp_lt (t := 39) dX11_mixes_9 rfl (by omega) (by omega) (fun c9 => ?_) (fun c9 => ?_)
    · refine rz_iconst dX11_mixes_39 ?_
      refine rz_iret dX11_mixes_40 rfl ?_
      exact ⟨_, rfl, by rw [mxsZ, if_neg hV], ⟨by rw [mxsM_n (fun q => hV q.1)]; exact hm0, by rw [mxsM_n (fun q => hV q.1)]; exact hm1⟩, fun _ _ _ => rfl, rfl⟩
    · refine rz_iload_n dX11_mixes_12 rfl ?_
      refine rz_bipush dX11_mixes_13 (by decide) ?_
      refine rz_idiv dX11_mixes_15 (by omega) (by omega) ?_
      refine rz_cSIq dX11_mixes_16 kl_RX11_112 (c_X11_isBaker X _ I J (bn / 10) (by omega)) rfl rfl (Nat.le_of_ble_eq_true rfl) (Nat.le_of_ble_eq_true rfl) ?_
      rintro z16 A16 B16 ⟨⟨rfl, b16⟩ | ⟨rfl, b16⟩, rfl, rfl⟩
      · refine rz_if_eq (t := 39) dX11_mixes_19 rfl (by omega) (fun q => absurd q (by decide)) (fun _ => ?_)
        refine rz_iload_n dX11_mixes_22 rfl ?_
        refine rz_bipush dX11_mixes_23 (by decide) ?_
        refine rz_irem dX11_mixes_25 (by omega) (by omega) ?_
        refine rz_iconst dX11_mixes_26 ?_
        refine rz_icmp_lt (t := 39) dX11_mixes_27 rfl (by omega) (by omega) (fun c27 => ?_) (fun c27 => ?_)
        · refine rz_iconst dX11_mixes_39 ?_
          refine rz_iret dX11_mixes_40 rfl ?_
          exact ⟨_, rfl, by rw [mxsZ, if_neg hV], ⟨by rw [mxsM_n (fun q => hV q.1)]; exact hm0, by rw [mxsM_n (fun q => hV q.1)]; exact hm1⟩, fun _ _ _ => rfl, rfl⟩
        · refine rz_iload_n dX11_mixes_30 rfl ?_
          refine rz_bipush dX11_mixes_31 (by decide) ?_
          refine rz_irem dX11_mixes_33 (by omega) (by omega) ?_
          refine rz_bipush dX11_mixes_34 (by decide) ?_
          refine rz_icmp_le (t := 41) dX11_mixes_36 rfl (by omega) (by omega) (fun c36 => ?_) (fun c36 => ?_)
          · exfalso; omega
          · refine rz_iconst dX11_mixes_39 ?_
            refine rz_iret dX11_mixes_40 rfl ?_
            exact ⟨_, rfl, by rw [mxsZ, if_neg hV], ⟨by rw [mxsM_n (fun q => hV q.1)]; exact hm0, by rw [mxsM_n (fun q => hV q.1)]; exact hm1⟩, fun _ _ _ => rfl, rfl⟩
      · refine rz_if_eq (t := 39) dX11_mixes_19 rfl (by omega) (fun _ => ?_) (fun q => absurd q (by decide))
        refine rz_iconst dX11_mixes_39 ?_
        refine rz_iret dX11_mixes_40 rfl ?_
        exact ⟨_, rfl, by rw [mxsZ, if_neg hV], ⟨by rw [mxsM_n (fun q => hV q.1)]; exact hm0, by rw [mxsM_n (fun q => hV q.1)]; exact hm1⟩, fun _ _ _ => rfl, rfl⟩
  · refine rz_if_eq (t := 39) dX11_mixes_4 rfl (by omega) (fun _ => ?_) (fun q => absurd q (by decide))
    refine rz_iconst dX11_mixes_39 ?_
    refine rz_iret dX11_mixes_40 rfl ?_
    exact ⟨_, rfl, by rw [mxsZ, if_neg hV], ⟨by rw [mxsM_n (fun q => hV q.1)]; exact hm0, by rw [mxsM_n (fun q => hV q.1)]; exact hm1⟩, fun _ _ _ => rfl, rfl⟩
theorem c_X11_mixes {X : pX} {I J : IM} {h : Nat} (n : Nat) (hn : I 6 0 = n ∧ n ≤ 5) (m0 m1 : Mx) (hm0 : MixC I 14 m0) (hm1 : MixC I 17 m1) (hl : ∀ b : Nat, b < 2 → 0 ≤ I 10 b ∧ I 10 b ≤ 9) (v i bn : Int) (hvr : rg v) (hi : rg i) (hbn : rg bn) (hS : ∀ k : Nat, k < 6 → ((0 ≤ I (67 + 2 * k) 0 ∧ I (67 + 2 * k) 0 ≤ 2) ∧ 0 ≤ I (67 + 2 * k) 3 ∧ I (67 + 2 * k) 3 ≤ 60) ∧ 0 ≤ I (67 + 2 * k) 2 ∧ I (67 + 2 * k) 2 ≤ 4) (hE : ∀ k : Nat, k < 6 → I (67 + 2 * k) 0 = 2 → I (67 + 2 * k) 2 = 2 → ∀ j, j < 60 → rg (J (68 + 2 * k) j)) : KIq X (h + 3) mX11_mixes [.ref 0, zi v, zi i, zi bn] I J (fun z A B => z = mxsZ (J (68 + 2 * v.toNat)) (shC I v) (I (67 + 2 * v.toNat) 3) n (I 10) m0 m1 v i bn ∧ (MixC A 14 (mxsM (J (68 + 2 * v.toNat)) (shC I v) (I (67 + 2 * v.toNat) 3) n (I 10) m0 m1 v i bn 0) ∧ MixC A 17 (mxsM (J (68 + 2 * v.toNat)) (shC I v) (I (67 + 2 * v.toNat) 3) n (I 10) m0 m1 v i bn 1)) ∧ (∀ a, (a < 14 ∨ 19 < a) → a ≠ 79 → A a = I a) ∧ J = B) := by
  by_cases hV : mxsV v bn
  · have hV2 := id hV
    obtain ⟨hv, hb1, hb2, hb3, hb4⟩ := hV2
    by_cases e : bn / 10 = 0
    · exact mixes_c0 n hn m0 m1 hm0 hm1 (hl 0 (by decide)) v i bn hi hbn hV (by omega) (hS v.toNat (by omega)) (hE v.toNat (by omega))
    · exact mixes_c1 n hn m0 m1 hm0 hm1 (hl 1 (by decide)) v i bn hi hbn hV (by omega) (hS v.toNat (by omega)) (hE v.toNat (by omega))
  · exact mixes_cn n m0 m1 hm0 hm1 v i bn hvr hi hbn hV
abbrev B88 (I : IM) : Prop := ∀ k, -128 ≤ I 88 k ∧ I 88 k ≤ 127
abbrev MfR (I A : IM) : Prop := (∀ a, a ≠ 86 → a ≠ 87 → a ≠ 88 → a ≠ 93 → A a = I a) ∧ (B88 I → B88 A)
theorem MfR_refl {I : IM} : MfR I I := ⟨fun _ _ _ _ _ => rfl, fun q => q⟩
theorem MfR.trans {I A B : IM} (h : MfR I A) (h2 : MfR A B) : MfR I B := ⟨fun a h3 h4 h5 h6 => (h2.1 a h3 h4 h5 h6).trans (h.1 a h3 h4 h5 h6), fun q => h2.2 (h.2 q)⟩
theorem MfR_93 {I : IM} {g : Nat → Int} : MfR I (upA I 93 g) := ⟨fun a h1 h2 h3 h4 => by unfold upA; rw [if_neg h4], fun q => q⟩
theorem mix93 {I : IM} {b : Nat} {m : Mx} {g : Nat → Int} (h : MixR I b m) : MixR (upA I 93 g) b m := MixR_of rfl rfl rfl h
theorem addR_mix0 {I : IM} {m m2 : Mx} {n : Nat} {p w : Int} {g : Nat → Int} (hn : I 81 1 = n ∧ n ≤ 5) (h : MixR I 0 m) (h2 : MixR I 1 m2) (h8 : m.1 < 8) (hw : 1 ≤ w ∧ w ≤ 9) (hg : ∀ v, v < n → g v = dgt n p v) : MixR (addR (upA I 93 g) 0 w) 0 (mAdd n m p w) ∧ MixR (addR (upA I 93 g) 0 w) 1 m2 ∧ MfR I (addR (upA I 93 g) 0 w) := by
  have h0 := h.1.1
  have hk : mk8 (upA I 93 g) 0 = 8 * 0 + m.1 := by
    show (8 * (0 : Int) + I 86 0).toNat = _
    rw [h0]; omega
  have ht : ∀ v, v < 5 → tolF (upA I 93 g) v = dgt n p v := fun v hv => by
    show (if (v : Int) < I 81 1 then g v else 0) = _
    rw [hn.1]
    by_cases q : v < n
    · rw [if_pos (by omega), hg v q]
    · rw [if_neg (by omega), dgt_out n p v (by omega)]
  have e86 : ∀ k, addR (upA I 93 g) 0 w 86 k = up1 (I 86) 0 (I 86 0 + 1) k := fun k => rfl
  have e87 : ∀ k, addR (upA I 93 g) 0 w 87 k = up1 (I 87) (8 * 0 + m.1) w k := fun k => by
    show up1 (I 87) (mk8 (upA I 93 g) 0) w k = _
    rw [hk]
  have e88 : ∀ k, addR (upA I 93 g) 0 w 88 k = if 5 * (8 * 0 + m.1) ≤ k ∧ k < 5 * (8 * 0 + m.1) + 5 then tolF (upA I 93 g) (k - 5 * (8 * 0 + m.1)) else I 88 k := fun k => by
    show (if 5 * mk8 (upA I 93 g) 0 ≤ k ∧ k < 5 * mk8 (upA I 93 g) 0 + 5 then tolF (upA I 93 g) (k - 5 * mk8 (upA I 93 g) 0) else I 88 k) = _
    rw [hk]
  have hm2 := h2.1.2
  refine ⟨⟨⟨?_, ?_⟩, fun i hi => ?_⟩, ⟨⟨?_, h2.1.2⟩, fun i hi => ⟨⟨?_, (h2.2 i hi).1.2⟩, fun v hv => ⟨?_, ((h2.2 i hi).2 v hv).2⟩⟩⟩, ⟨fun a h1 h3 h4 h5 => ?_, fun q k => ?_⟩⟩
  · rw [e86, up1_self, h0]; rfl
  · show m.1 + 1 ≤ 8
    omega
  · have hi' : i < m.1 + 1 := hi
    by_cases e : i = m.1
    · subst e
      refine ⟨⟨?_, ?_⟩, fun v hv => ⟨?_, ?_⟩⟩
      · rw [e87, up1_self]
        show w = up1 m.2.1 m.1 w m.1
        rw [up1_self]
      · show 1 ≤ up1 m.2.1 m.1 w m.1 ∧ up1 m.2.1 m.1 w m.1 ≤ 9
        rw [up1_self]; exact hw
      · rw [e88, if_pos (by omega), show 5 * (8 * 0 + m.1) + v - 5 * (8 * 0 + m.1) = v by omega, ht v hv]
        show _ = (((if m.1 = m.1 then (dgt n p v).toNat else m.2.2 m.1 v) : Nat) : Int)
        rw [if_pos rfl]; exact dg9.1.symm
      · show (if m.1 = m.1 then (dgt n p v).toNat else m.2.2 m.1 v) ≤ 9
        rw [if_pos rfl]; exact dg9.2
    · have hlt : i < m.1 := by omega
      refine ⟨⟨?_, ?_⟩, fun v hv => ⟨?_, ?_⟩⟩
      · rw [e87, up1_ne (by omega)]
        show _ = up1 m.2.1 m.1 w i
        rw [up1_ne e]; exact (h.2 i hlt).1.1
      · show 1 ≤ up1 m.2.1 m.1 w i ∧ up1 m.2.1 m.1 w i ≤ 9
        rw [up1_ne e]; exact (h.2 i hlt).1.2
      · rw [e88, if_neg (by omega)]
        show _ = (((if i = m.1 then (dgt n p v).toNat else m.2.2 i v) : Nat) : Int)
        rw [if_neg e]; exact ((h.2 i hlt).2 v hv).1
      · show (if i = m.1 then (dgt n p v).toNat else m.2.2 i v) ≤ 9
        rw [if_neg e]; exact ((h.2 i hlt).2 v hv).2
  · rw [e86, up1_ne (by decide)]; exact h2.1.1
  · rw [e87, up1_ne (by omega)]; exact (h2.2 i hi).1.1
  · rw [e88, if_neg (by omega)]; exact ((h2.2 i hi).2 v hv).1
  · simp [addR, adR2, adR1, copF, upA, h1, h3, h4, h5]
  · rw [e88]
    split
    · rename_i hh
      rw [ht _ (by omega)]
      have := dgt_bd n p (k - 5 * (8 * 0 + m.1))
      omega
    · exact q k
theorem addR_mix1 {I : IM} {m m2 : Mx} {n : Nat} {p w : Int} {g : Nat → Int} (hn : I 81 1 = n ∧ n ≤ 5) (h : MixR I 1 m) (h2 : MixR I 0 m2) (h8 : m.1 < 8) (hw : 1 ≤ w ∧ w ≤ 9) (hg : ∀ v, v < n → g v = dgt n p v) : MixR (addR (upA I 93 g) 1 w) 1 (mAdd n m p w) ∧ MixR (addR (upA I 93 g) 1 w) 0 m2 ∧ MfR I (addR (upA I 93 g) 1 w) := by
  have h0 := h.1.1
  have hk : mk8 (upA I 93 g) 1 = 8 * 1 + m.1 := by
    show (8 * (1 : Int) + I 86 1).toNat = _
    rw [h0]; omega
  have ht : ∀ v, v < 5 → tolF (upA I 93 g) v = dgt n p v := fun v hv => by
    show (if (v : Int) < I 81 1 then g v else 0) = _
    rw [hn.1]
    by_cases q : v < n
    · rw [if_pos (by omega), hg v q]
    · rw [if_neg (by omega), dgt_out n p v (by omega)]
  have e86 : ∀ k, addR (upA I 93 g) 1 w 86 k = up1 (I 86) 1 (I 86 1 + 1) k := fun k => rfl
  have e87 : ∀ k, addR (upA I 93 g) 1 w 87 k = up1 (I 87) (8 * 1 + m.1) w k := fun k => by
    show up1 (I 87) (mk8 (upA I 93 g) 1) w k = _
    rw [hk]
  have e88 : ∀ k, addR (upA I 93 g) 1 w 88 k = if 5 * (8 * 1 + m.1) ≤ k ∧ k < 5 * (8 * 1 + m.1) + 5 then tolF (upA I 93 g) (k - 5 * (8 * 1 + m.1)) else I 88 k := fun k => by
    show (if 5 * mk8 (upA I 93 g) 1 ≤ k ∧ k < 5 * mk8 (upA I 93 g) 1 + 5 then tolF (upA I 93 g) (k - 5 * mk8 (upA I 93 g) 1) else I 88 k) = _
    rw [hk]
  have hm2 := h2.1.2
  refine ⟨⟨⟨?_, ?_⟩, fun i hi => ?_⟩, ⟨⟨?_, h2.1.2⟩, fun i hi => ⟨⟨?_, (h2.2 i hi).1.2⟩, fun v hv => ⟨?_, ((h2.2 i hi).2 v hv).2⟩⟩⟩, ⟨fun a h1 h3 h4 h5 => ?_, fun q k => ?_⟩⟩
  · rw [e86, up1_self, h0]; rfl
  · show m.1 + 1 ≤ 8
    omega
  · have hi' : i < m.1 + 1 := hi
    by_cases e : i = m.1
    · subst e
      refine ⟨⟨?_, ?_⟩, fun v hv => ⟨?_, ?_⟩⟩
      · rw [e87, up1_self]
        show w = up1 m.2.1 m.1 w m.1
        rw [up1_self]
      · show 1 ≤ up1 m.2.1 m.1 w m.1 ∧ up1 m.2.1 m.1 w m.1 ≤ 9
        rw [up1_self]; exact hw
      · rw [e88, if_pos (by omega), show 5 * (8 * 1 + m.1) + v - 5 * (8 * 1 + m.1) = v by omega, ht v hv]
        show _ = (((if m.1 = m.1 then (dgt n p v).toNat else m.2.2 m.1 v) : Nat) : Int)
        rw [if_pos rfl]; exact dg9.1.symm
      · show (if m.1 = m.1 then (dgt n p v).toNat else m.2.2 m.1 v) ≤ 9
        rw [if_pos rfl]; exact dg9.2
    · have hlt : i < m.1 := by omega
      refine ⟨⟨?_, ?_⟩, fun v hv => ⟨?_, ?_⟩⟩
      · rw [e87, up1_ne (by omega)]
        show _ = up1 m.2.1 m.1 w i
        rw [up1_ne e]; exact (h.2 i hlt).1.1
      · show 1 ≤ up1 m.2.1 m.1 w i ∧ up1 m.2.1 m.1 w i ≤ 9
        rw [up1_ne e]; exact (h.2 i hlt).1.2
      · rw [e88, if_neg (by omega)]
        show _ = (((if i = m.1 then (dgt n p v).toNat else m.2.2 i v) : Nat) : Int)
        rw [if_neg e]; exact ((h.2 i hlt).2 v hv).1
      · show (if i = m.1 then (dgt n p v).toNat else m.2.2 i v) ≤ 9
        rw [if_neg e]; exact ((h.2 i hlt).2 v hv).2
  · rw [e86, up1_ne (by decide)]; exact h2.1.1
  · rw [e87, up1_ne (by omega)]; exact (h2.2 i hi).1.1
  · rw [e88, if_neg (by omega)]; exact ((h2.2 i hi).2 v hv).1
  · simp [addR, adR2, adR1, copF, upA, h1, h3, h4, h5]
  · rw [e88]
    split
    · rename_i hh
      rw [ht _ (by omega)]
      have := dgt_bd n p (k - 5 * (8 * 1 + m.1))
      omega
    · exact q k
theorem mixR_u0 {I : IM} {n : Nat} (hn : I 81 1 = n ∧ n ≤ 5) {m m2 : Mx} (hm : MixR I 0 m) (h2 : MixR I 1 m2) {p w L : Int} {g : Nat → Int} (hg : (0 ≤ w ∧ w ≤ 9) ∧ w ≠ 0 ∧ okP n p L → ∀ v, v < n → g v = dgt n p v) : MixR (mixR I g n p L 0 w) 0 (mxU n m p L w) ∧ MixR (mixR I g n p L 0 w) 1 m2 ∧ MfR I (mixR I g n p L 0 w) := by
  have h0 := hm.1
  unfold mixR mxU
  by_cases c1 : 0 ≤ w ∧ w ≤ 9
  · rw [if_neg (show ¬ ¬ ((0 ≤ (0 : Int) ∧ (0 : Int) ≤ 1) ∧ 0 ≤ w ∧ w ≤ 9) from fun q => q ⟨by decide, c1⟩), if_neg (show ¬ ¬ (0 ≤ w ∧ w ≤ 9) from fun q => q c1)]
    by_cases c2 : w = 0
    · rw [if_pos c2, if_pos c2]
      exact ⟨⟨⟨(by show up1 (I 86) 0 0 0 = ((0 : Nat) : Int); exact up1_self), Nat.zero_le 8⟩, fun i hi => absurd hi (Nat.not_lt_zero i)⟩, ⟨⟨(by show up1 (I 86) 0 0 1 = _; rw [up1_ne (by decide)]; exact h2.1.1), h2.1.2⟩, h2.2⟩, fun a h1 h2 h3 h4 => (by unfold upA; rw [if_neg h1, if_neg h4]), fun q => q⟩
    · rw [if_neg c2, if_neg c2]
      by_cases c3 : okP n p L
      · rw [if_neg (show ¬ ¬ okP n p L from fun q => q c3), if_neg (show ¬ ¬ okP n p L from fun q => q c3)]
        by_cases c4 : m.1 = 8
        · rw [if_pos (show I 86 (0 : Int).toNat = 8 from (by show I 86 0 = 8; omega)), if_pos c4]; exact ⟨mix93 hm, mix93 h2, MfR_93⟩
        · rw [if_neg (show ¬ I 86 (0 : Int).toNat = 8 from (by show ¬ I 86 0 = 8; omega)), if_neg c4]
          exact addR_mix0 hn hm h2 (by omega) (by omega) (hg ⟨c1, c2, c3⟩)
      · rw [if_pos c3, if_pos c3]; exact ⟨mix93 hm, mix93 h2, MfR_93⟩
  · rw [if_pos (show ¬ ((0 ≤ (0 : Int) ∧ (0 : Int) ≤ 1) ∧ 0 ≤ w ∧ w ≤ 9) from fun q => c1 q.2), if_pos c1]; exact ⟨mix93 hm, mix93 h2, MfR_93⟩
theorem mixR_u1 {I : IM} {n : Nat} (hn : I 81 1 = n ∧ n ≤ 5) {m m2 : Mx} (hm : MixR I 1 m) (h2 : MixR I 0 m2) {p w L : Int} {g : Nat → Int} (hg : (0 ≤ w ∧ w ≤ 9) ∧ w ≠ 0 ∧ okP n p L → ∀ v, v < n → g v = dgt n p v) : MixR (mixR I g n p L 1 w) 1 (mxU n m p L w) ∧ MixR (mixR I g n p L 1 w) 0 m2 ∧ MfR I (mixR I g n p L 1 w) := by
  have h0 := hm.1
  unfold mixR mxU
  by_cases c1 : 0 ≤ w ∧ w ≤ 9
  · rw [if_neg (show ¬ ¬ ((0 ≤ (1 : Int) ∧ (1 : Int) ≤ 1) ∧ 0 ≤ w ∧ w ≤ 9) from fun q => q ⟨by decide, c1⟩), if_neg (show ¬ ¬ (0 ≤ w ∧ w ≤ 9) from fun q => q c1)]
    by_cases c2 : w = 0
    · rw [if_pos c2, if_pos c2]
      exact ⟨⟨⟨(by show up1 (I 86) 1 0 1 = ((0 : Nat) : Int); exact up1_self), Nat.zero_le 8⟩, fun i hi => absurd hi (Nat.not_lt_zero i)⟩, ⟨⟨(by show up1 (I 86) 1 0 0 = _; rw [up1_ne (by decide)]; exact h2.1.1), h2.1.2⟩, h2.2⟩, fun a h1 h2 h3 h4 => (by unfold upA; rw [if_neg h1, if_neg h4]), fun q => q⟩
    · rw [if_neg c2, if_neg c2]
      by_cases c3 : okP n p L
      · rw [if_neg (show ¬ ¬ okP n p L from fun q => q c3), if_neg (show ¬ ¬ okP n p L from fun q => q c3)]
        by_cases c4 : m.1 = 8
        · rw [if_pos (show I 86 (1 : Int).toNat = 8 from (by show I 86 1 = 8; omega)), if_pos c4]; exact ⟨mix93 hm, mix93 h2, MfR_93⟩
        · rw [if_neg (show ¬ I 86 (1 : Int).toNat = 8 from (by show ¬ I 86 1 = 8; omega)), if_neg c4]
          exact addR_mix1 hn hm h2 (by omega) (by omega) (hg ⟨c1, c2, c3⟩)
      · rw [if_pos c3, if_pos c3]; exact ⟨mix93 hm, mix93 h2, MfR_93⟩
  · rw [if_pos (show ¬ ((0 ≤ (1 : Int) ∧ (1 : Int) ≤ 1) ∧ 0 ≤ w ∧ w ≤ 9) from fun q => c1 q.2), if_pos c1]; exact ⟨mix93 hm, mix93 h2, MfR_93⟩
theorem c_mixUR {X : pX} {I J : IM} {h : Nat} (n : Nat) (hn : I 81 1 = n ∧ n ≤ 5) (m0 m1 : Mx) (hm0 : MixR I 0 m0) (hm1 : MixR I 1 m1) (b p w : Int) (hb : rg b) (hp : rg p) (hw : rg w) (hl : ∀ b : Nat, b < 2 → 0 ≤ I 85 b ∧ I 85 b ≤ 9) : KIq X (h + 2) mX12_mix [.ref 81, zi b, zi p, zi w] I J (fun z A B => z = mixZ ((mB m0 m1 b.toNat).1 : Int) n p (I 85 b.toNat) b w ∧ (MixR A 0 (if b = 0 then mxU n m0 p (I 85 0) w else m0) ∧ MixR A 1 (if b = 1 then mxU n m1 p (I 85 1) w else m1) ∧ MfR I A) ∧ J = B) := by
  have h0 := hm0.1
  have h1 := hm1.1
  have hs : ∀ b : Nat, b < 2 → 0 ≤ I 86 b ∧ I 86 b ≤ 8 := fun b hb => by
    have : b = 0 ∨ b = 1 := by omega
    rcases this with rfl | rfl <;> omega
  refine KIq.mono (c_X12_mix X h I J n hn b p w hb hp hw hl hs) ?_
  rintro z A B ⟨rfl, ⟨g, hg, rfl⟩, rfl⟩
  by_cases e0 : b = 0
  · subst e0
    rw [if_pos (show (0 : Int) = 0 from rfl), if_neg (show ¬ (0 : Int) = 1 by decide)]
    refine ⟨?_, mixR_u0 hn hm0 hm1 (fun q => hg ⟨⟨by decide, q.1⟩, q.2⟩), rfl⟩
    show mixZ (I 86 0) n p _ _ _ = mixZ ((m0.1 : Nat) : Int) n p _ _ _
    rw [h0.1]
  · rw [if_neg e0]
    by_cases e1 : b = 1
    · subst e1
      rw [if_pos (show (1 : Int) = 1 from rfl)]
      have q := mixR_u1 (L := I 85 1) (p := p) (w := w) (g := g) hn hm1 hm0 (fun q => hg ⟨⟨by decide, q.1⟩, q.2⟩)
      refine ⟨?_, ⟨q.2.1, q.1, q.2.2⟩, rfl⟩
      show mixZ (I 86 1) n p _ _ _ = mixZ ((m1.1 : Nat) : Int) n p _ _ _
      rw [h1.1]
    · rw [if_neg e1]
      have hc : ¬ ((0 ≤ b ∧ b ≤ 1) ∧ 0 ≤ w ∧ w ≤ 9) := by omega
      refine ⟨by unfold mixZ; rw [if_pos hc, if_pos hc], ?_, rfl⟩
      unfold mixR
      rw [if_pos hc]
      exact ⟨mix93 hm0, mix93 hm1, MfR_93⟩
set_option maxRecDepth 20000 in
set_option maxHeartbeats 400000 in
theorem mixes_rn {X : pX} {I J : IM} {h : Nat} (n : Nat) (hn : I 81 1 = n ∧ n ≤ 5) (m0 m1 : Mx) (hm0 : MixR I 0 m0) (hm1 : MixR I 1 m1) (v i bn : Int) (hvr : rg v) (hi : rg i) (hbn : rg bn) (hV : ¬ mxsV v bn) : KIq X (h + 3) mX12_mixes [.ref 81, zi v, zi i, zi bn] I J (fun z A B => z = mxsZ (fun j => J 120 (60 * v.toNat + j)) (I 118 v.toNat) (I 119 v.toNat) n (I 85) m0 m1 v i bn ∧ (MixR A 0 (mxsM (fun j => J 120 (60 * v.toNat + j)) (I 118 v.toNat) (I 119 v.toNat) n (I 85) m0 m1 v i bn 0) ∧ MixR A 1 (mxsM (fun j => J 120 (60 * v.toNat + j)) (I 118 v.toNat) (I 119 v.toNat) n (I 85) m0 m1 v i bn 1)) ∧ MfR I A ∧ J = B) := by
  show Rz X (h + 3) mX12_mixes 0 [some (.ref 81), some (zi v), some (zi i), some (zi bn), none, none, none, none, none, none] [] I J _
  refine rz_iload_n dX12_mixes_0 rfl ?_
  refine rz_cSIq dX12_mixes_1 kl_RX12_176 (c_X12_isShelf X _ I J v (by omega)) rfl rfl (Nat.le_of_ble_eq_true rfl) (Nat.le_of_ble_eq_true rfl) ?_
  rintro z1 A1 B1 ⟨⟨rfl, b1⟩ | ⟨rfl, b1⟩, rfl, rfl⟩
  · refine rz_if_eq (t := 34) dX12_mixes_4 rfl (by omega) (fun q => absurd q (by decide)) (fun _ => ?_)
    refine rz_iload_n dX12_mixes_7 rfl ?_
    refine rz_if_lt (t := 34) dX12_mixes_8 rfl (by omega) (fun c8 => ?_) (fun c8 => ?_)
    · refine rz_iconst dX12_mixes_34 ?_
      refine rz_iret dX12_mixes_35 rfl ?_
      exact ⟨_, rfl, by rw [mxsZ, if_neg hV], ⟨by rw [mxsM_n (fun q => hV q.1)]; exact hm0, by rw [mxsM_n (fun q => hV q.1)]; exact hm1⟩, MfR_refl, rfl⟩
    · refine rz_iload_n dX12_mixes_11 rfl ?_
      refine rz_bipush dX12_mixes_12 (by decide) ?_
      refine rz_idiv dX12_mixes_14 (by omega) (by omega) ?_
      refine rz_cSIq dX12_mixes_15 kl_RX12_158 (c_X12_isBaker X _ I J (bn / 10) (by omega)) rfl rfl (Nat.le_of_ble_eq_true rfl) (Nat.le_of_ble_eq_true rfl) ?_
      rintro z15 A15 B15 ⟨⟨rfl, b15⟩ | ⟨rfl, b15⟩, rfl, rfl⟩
      · refine rz_if_eq (t := 34) dX12_mixes_18 rfl (by omega) (fun q => absurd q (by decide)) (fun _ => ?_)
        refine rz_iload_n dX12_mixes_21 rfl ?_
        refine rz_bipush dX12_mixes_22 (by decide) ?_
        refine rz_irem dX12_mixes_24 (by omega) (by omega) ?_
        refine rz_iconst dX12_mixes_25 ?_
        refine rz_bipush dX12_mixes_26 (by decide) ?_
        refine rz_cSIq dX12_mixes_28 kl_RX12_140 (c_X12_in X _ I J (bn % 10) 1 8 (by omega) (by decide) (by decide)) rfl rfl (Nat.le_of_ble_eq_true rfl) (Nat.le_of_ble_eq_true rfl) ?_
        rintro z28 A28 B28 ⟨⟨rfl, b28⟩ | ⟨rfl, b28⟩, rfl, rfl⟩
        · exfalso; omega
        · refine rz_if_ne (t := 36) dX12_mixes_31 rfl (by omega) (fun q => absurd q (by decide)) (fun _ => ?_)
          refine rz_iconst dX12_mixes_34 ?_
          refine rz_iret dX12_mixes_35 rfl ?_
          exact ⟨_, rfl, by rw [mxsZ, if_neg hV], ⟨by rw [mxsM_n (fun q => hV q.1)]; exact hm0, by rw [mxsM_n (fun q => hV q.1)]; exact hm1⟩, MfR_refl, rfl⟩
      · refine rz_if_eq (t := 34) dX12_mixes_18 rfl (by omega) (fun _ => ?_) (fun q => absurd q (by decide))
        refine rz_iconst dX12_mixes_34 ?_
        refine rz_iret dX12_mixes_35 rfl ?_
        exact ⟨_, rfl, by rw [mxsZ, if_neg hV], ⟨by rw [mxsM_n (fun q => hV q.1)]; exact hm0, by rw [mxsM_n (fun q => hV q.1)]; exact hm1⟩, MfR_refl, rfl⟩
  · refine rz_if_eq (t := 34) dX12_mixes_4 rfl (by omega) (fun _ => ?_) (fun q => absurd q (by decide))
    refine rz_iconst dX12_mixes_34 ?_
    refine rz_iret dX12_mixes_35 rfl ?_
    exact ⟨_, rfl, by rw [mxsZ, if_neg hV], ⟨by rw [mxsM_n (fun q => hV q.1)]; exact hm0, by rw [mxsM_n (fun q => hV q.1)]; exact hm1⟩, MfR_refl, rfl⟩
set_option maxRecDepth 20000 in
set_option maxHeartbeats 400000 in
theorem mixes_r0 {X : pX} {I J : IM} {h : Nat} (n : Nat) (hn : I 81 1 = n ∧ n ≤ 5) (m0 m1 : Mx) (hm0 : MixR I 0 m0) (hm1 : MixR I 1 m1) (v i bn : Int) (hi : rg i) (hbn : rg bn) (hV : mxsV v bn) (hc : (I 118 v.toNat) = -1) : KIq X (h + 3) mX12_mixes [.ref 81, zi v, zi i, zi bn] I J (fun z A B => z = mxsZ (fun j => J 120 (60 * v.toNat + j)) (I 118 v.toNat) (I 119 v.toNat) n (I 85) m0 m1 v i bn ∧ (MixR A 0 (mxsM (fun j => J 120 (60 * v.toNat + j)) (I 118 v.toNat) (I 119 v.toNat) n (I 85) m0 m1 v i bn 0) ∧ MixR A 1 (mxsM (fun j => J 120 (60 * v.toNat + j)) (I 118 v.toNat) (I 119 v.toNat) n (I 85) m0 m1 v i bn 1)) ∧ MfR I A ∧ J = B) := by
  obtain ⟨hv, hb1, hb2, hb3, hb4⟩ := id hV
  show Rz X (h + 3) mX12_mixes 0 [some (.ref 81), some (zi v), some (zi i), some (zi bn), none, none, none, none, none, none] [] I J _
  refine rz_iload_n dX12_mixes_0 rfl ?_
  refine rz_cSIq dX12_mixes_1 kl_RX12_176 (c_X12_isShelf X _ I J v (by omega)) rfl rfl (Nat.le_of_ble_eq_true rfl) (Nat.le_of_ble_eq_true rfl) ?_
  rintro z1 A1 B1 ⟨⟨rfl, b1⟩ | ⟨rfl, b1⟩, rfl, rfl⟩
  · refine rz_if_eq (t := 34) dX12_mixes_4 rfl (by omega) (fun q => absurd q (by decide)) (fun _ => ?_)
    refine rz_iload_n dX12_mixes_7 rfl ?_
    refine rz_if_lt (t := 34) dX12_mixes_8 rfl (by omega) (fun c8 => ?_) (fun c8 => ?_)
    · exfalso; omega
    · refine rz_iload_n dX12_mixes_11 rfl ?_
      refine rz_bipush dX12_mixes_12 (by decide) ?_
      refine rz_idiv dX12_mixes_14 (by omega) (by omega) ?_
      refine rz_cSIq dX12_mixes_15 kl_RX12_158 (c_X12_isBaker X _ I J (bn / 10) (by omega)) rfl rfl (Nat.le_of_ble_eq_true rfl) (Nat.le_of_ble_eq_true rfl) ?_
      rintro z15 A15 B15 ⟨⟨rfl, b15⟩ | ⟨rfl, b15⟩, rfl, rfl⟩
      · refine rz_if_eq (t := 34) dX12_mixes_18 rfl (by omega) (fun q => absurd q (by decide)) (fun _ => ?_)
        refine rz_iload_n dX12_mixes_21 rfl ?_
        refine rz_bipush dX12_mixes_22 (by decide) ?_
        refine rz_irem dX12_mixes_24 (by omega) (by omega) ?_
        refine rz_iconst dX12_mixes_25 ?_
        refine rz_bipush dX12_mixes_26 (by decide) ?_
        refine rz_cSIq dX12_mixes_28 kl_RX12_140 (c_X12_in X _ I J (bn % 10) 1 8 (by omega) (by decide) (by decide)) rfl rfl (Nat.le_of_ble_eq_true rfl) (Nat.le_of_ble_eq_true rfl) ?_
        rintro z28 A28 B28 ⟨⟨rfl, b28⟩ | ⟨rfl, b28⟩, rfl, rfl⟩
        · refine rz_if_ne (t := 36) dX12_mixes_31 rfl (by omega) (fun _ => ?_) (fun q => absurd q (by decide))
          refine rz_aload_n dX12_mixes_36 rfl ?_
          refine rz_getR dX12_mixes_37 kf_RX12_120 hd_81 rfl rr_81_55 ?_
          refine rz_iload_n dX12_mixes_40 rfl ?_
          refine rz_ialdN (k := v.toNat) (z := (-1)) dX12_mixes_41 hd_118 (by decide) (by omega) (by omega) hc ?_
          refine rz_iconst dX12_mixes_42 ?_
          refine rz_icmp_eq (t := 60) dX12_mixes_43 rfl (by omega) (by omega) (fun _ => ?_) (fun q => absurd q (by decide))
          refine rz_aload_n dX12_mixes_60 rfl ?_
          refine rz_getR dX12_mixes_61 kf_RX12_120 hd_81 rfl rr_81_55 ?_
          refine rz_iload_n dX12_mixes_64 rfl ?_
          refine rz_ialdN (k := v.toNat) (z := (-1)) dX12_mixes_65 hd_118 (by decide) (by omega) (by omega) hc ?_
          refine rz_iconst dX12_mixes_66 ?_
          refine rz_icmp_ne (t := 72) dX12_mixes_67 rfl (by omega) (by omega) (fun q => absurd q (by decide)) (fun _ => ?_)
          refine rz_iconst dX12_mixes_70 ?_
          refine rz_iret dX12_mixes_71 rfl ?_
          exact ⟨_, rfl, by rw [mxsZ, if_pos hV, if_pos hc], ⟨by rw [mxsM_n (fun q => by rw [hc] at q; exact absurd q.2.1 (by decide))]; exact hm0, by rw [mxsM_n (fun q => by rw [hc] at q; exact absurd q.2.1 (by decide))]; exact hm1⟩, MfR_refl, rfl⟩
        · exfalso; omega
      · exfalso; omega
  · exfalso; omega
set_option maxRecDepth 20000 in
set_option maxHeartbeats 400000 in
theorem mixes_r1 {X : pX} {I J : IM} {h : Nat} (n : Nat) (hn : I 81 1 = n ∧ n ≤ 5) (m0 m1 : Mx) (hm0 : MixR I 0 m0) (hm1 : MixR I 1 m1) (v i bn : Int) (hi : rg i) (hbn : rg bn) (hV : mxsV v bn) (hS : ShR I) (hc : (I 118 v.toNat) ≠ -1 ∧ (I 118 v.toNat) ≠ -4) : KIq X (h + 3) mX12_mixes [.ref 81, zi v, zi i, zi bn] I J (fun z A B => z = mxsZ (fun j => J 120 (60 * v.toNat + j)) (I 118 v.toNat) (I 119 v.toNat) n (I 85) m0 m1 v i bn ∧ (MixR A 0 (mxsM (fun j => J 120 (60 * v.toNat + j)) (I 118 v.toNat) (I 119 v.toNat) n (I 85) m0 m1 v i bn 0) ∧ MixR A 1 (mxsM (fun j => J 120 (60 * v.toNat + j)) (I 118 v.toNat) (I 119 v.toNat) n (I 85) m0 m1 v i bn 1)) ∧ MfR I A ∧ J = B) := by
  obtain ⟨hv, hb1, hb2, hb3, hb4⟩ := id hV
  have hs := hS v.toNat (by omega)
  show Rz X (h + 3) mX12_mixes 0 [some (.ref 81), some (zi v), some (zi i), some (zi bn), none, none, none, none, none, none] [] I J _
  refine rz_iload_n dX12_mixes_0 rfl ?_
  refine rz_cSIq dX12_mixes_1 kl_RX12_176 (c_X12_isShelf X _ I J v (by omega)) rfl rfl (Nat.le_of_ble_eq_true rfl) (Nat.le_of_ble_eq_true rfl) ?_
  rintro z1 A1 B1 ⟨⟨rfl, b1⟩ | ⟨rfl, b1⟩, rfl, rfl⟩
  · refine rz_if_eq (t := 34) dX12_mixes_4 rfl (by omega) (fun q => absurd q (by decide)) (fun _ => ?_)
    refine rz_iload_n dX12_mixes_7 rfl ?_
    refine rz_if_lt (t := 34) dX12_mixes_8 rfl (by omega) (fun c8 => ?_) (fun c8 => ?_)
    · exfalso; omega
    · refine rz_iload_n dX12_mixes_11 rfl ?_
      refine rz_bipush dX12_mixes_12 (by decide) ?_
      refine rz_idiv dX12_mixes_14 (by omega) (by omega) ?_
      refine rz_cSIq dX12_mixes_15 kl_RX12_158 (c_X12_isBaker X _ I J (bn / 10) (by omega)) rfl rfl (Nat.le_of_ble_eq_true rfl) (Nat.le_of_ble_eq_true rfl) ?_
      rintro z15 A15 B15 ⟨⟨rfl, b15⟩ | ⟨rfl, b15⟩, rfl, rfl⟩
      · refine rz_if_eq (t := 34) dX12_mixes_18 rfl (by omega) (fun q => absurd q (by decide)) (fun _ => ?_)
        refine rz_iload_n dX12_mixes_21 rfl ?_
        refine rz_bipush dX12_mixes_22 (by decide) ?_
        refine rz_irem dX12_mixes_24 (by omega) (by omega) ?_
        refine rz_iconst dX12_mixes_25 ?_
        refine rz_bipush dX12_mixes_26 (by decide) ?_
        refine rz_cSIq dX12_mixes_28 kl_RX12_140 (c_X12_in X _ I J (bn % 10) 1 8 (by omega) (by decide) (by decide)) rfl rfl (Nat.le_of_ble_eq_true rfl) (Nat.le_of_ble_eq_true rfl) ?_
        rintro z28 A28 B28 ⟨⟨rfl, b28⟩ | ⟨rfl, b28⟩, rfl, rfl⟩
        · refine rz_if_ne (t := 36) dX12_mixes_31 rfl (by omega) (fun _ => ?_) (fun q => absurd q (by decide))
          refine rz_aload_n dX12_mixes_36 rfl ?_
          refine rz_getR dX12_mixes_37 kf_RX12_120 hd_81 rfl rr_81_55 ?_
          refine rz_iload_n dX12_mixes_40 rfl ?_
          refine rz_ialdN (k := v.toNat) (z := (I 118 v.toNat)) dX12_mixes_41 hd_118 (by decide) (by omega) (by omega) rfl ?_
          refine rz_iconst dX12_mixes_42 ?_
          refine rz_icmp_eq (t := 60) dX12_mixes_43 rfl (by omega) (by omega) (fun c43 => ?_) (fun c43 => ?_)
          · exfalso; omega
          · refine rz_aload_n dX12_mixes_46 rfl ?_
            refine rz_getR dX12_mixes_47 kf_RX12_120 hd_81 rfl rr_81_55 ?_
            refine rz_iload_n dX12_mixes_50 rfl ?_
            refine rz_ialdN (k := v.toNat) (z := (I 118 v.toNat)) dX12_mixes_51 hd_118 (by decide) (by omega) (by omega) rfl ?_
            refine rz_bipush dX12_mixes_52 (by decide) ?_
            refine rz_icmp_eq (t := 60) dX12_mixes_54 rfl (by omega) (by omega) (fun c54 => ?_) (fun c54 => ?_)
            · exfalso; omega
            · refine rz_bipush dX12_mixes_57 (by decide) ?_
              refine rz_iret dX12_mixes_59 rfl ?_
              exact ⟨_, rfl, by rw [mxsZ, if_pos hV, if_neg hc.1, if_pos hc.2], ⟨by rw [mxsM_n (fun q => hc.2 q.2.1)]; exact hm0, by rw [mxsM_n (fun q => hc.2 q.2.1)]; exact hm1⟩, MfR_refl, rfl⟩
        · exfalso; omega
      · exfalso; omega
  · exfalso; omega
set_option maxRecDepth 20000 in
set_option maxHeartbeats 400000 in
theorem mixes_ri0 {X : pX} {I J : IM} {h : Nat} (n : Nat) (hn : I 81 1 = n ∧ n ≤ 5) (m0 m1 : Mx) (hm0 : MixR I 0 m0) (hm1 : MixR I 1 m1) (hl : 0 ≤ I 85 0 ∧ I 85 0 ≤ 9) (v i bn : Int) (hi : rg i) (hbn : rg bn) (hV : mxsV v bn) (hB : (bn / 10).toNat = 0) (hS : ShR I) (hc : (I 118 v.toNat) = -4) (hE : ∀ j, j < 60 → rg (J 120 (60 * v.toNat + j))) : KIq X (h + 3) mX12_mixes [.ref 81, zi v, zi i, zi bn] I J (fun z A B => z = mxsZ (fun j => J 120 (60 * v.toNat + j)) (I 118 v.toNat) (I 119 v.toNat) n (I 85) m0 m1 v i bn ∧ (MixR A 0 (mxsM (fun j => J 120 (60 * v.toNat + j)) (I 118 v.toNat) (I 119 v.toNat) n (I 85) m0 m1 v i bn 0) ∧ MixR A 1 (mxsM (fun j => J 120 (60 * v.toNat + j)) (I 118 v.toNat) (I 119 v.toNat) n (I 85) m0 m1 v i bn 1)) ∧ MfR I A ∧ J = B) := by
  obtain ⟨hv, hb1, hb2, hb3, hb4⟩ := id hV
  show Rz X (h + 3) mX12_mixes 0 [some (.ref 81), some (zi v), some (zi i), some (zi bn), none, none, none, none, none, none] [] I J _
  refine rz_iload_n dX12_mixes_0 rfl ?_
  refine rz_cSIq dX12_mixes_1 kl_RX12_176 (c_X12_isShelf X _ I J v (by omega)) rfl rfl (Nat.le_of_ble_eq_true rfl) (Nat.le_of_ble_eq_true rfl) ?_
  rintro z1 A1 B1 ⟨⟨rfl, b1⟩ | ⟨rfl, b1⟩, rfl, rfl⟩
  · refine rz_if_eq (t := 34) dX12_mixes_4 rfl (by omega) (fun q => absurd q (by decide)) (fun _ => ?_)
    refine rz_iload_n dX12_mixes_7 rfl ?_
    refine rz_if_lt (t := 34) dX12_mixes_8 rfl (by omega) (fun c8 => ?_) (fun c8 => ?_)
    · exfalso; omega
    · refine rz_iload_n dX12_mixes_11 rfl ?_
      refine rz_bipush dX12_mixes_12 (by decide) ?_
      refine rz_idiv dX12_mixes_14 (by omega) (by omega) ?_
      refine rz_cSIq dX12_mixes_15 kl_RX12_158 (c_X12_isBaker X _ I J (bn / 10) (by omega)) rfl rfl (Nat.le_of_ble_eq_true rfl) (Nat.le_of_ble_eq_true rfl) ?_
      rintro z15 A15 B15 ⟨⟨rfl, b15⟩ | ⟨rfl, b15⟩, rfl, rfl⟩
      · refine rz_if_eq (t := 34) dX12_mixes_18 rfl (by omega) (fun q => absurd q (by decide)) (fun _ => ?_)
        refine rz_iload_n dX12_mixes_21 rfl ?_
        refine rz_bipush dX12_mixes_22 (by decide) ?_
        refine rz_irem dX12_mixes_24 (by omega) (by omega) ?_
        refine rz_iconst dX12_mixes_25 ?_
        refine rz_bipush dX12_mixes_26 (by decide) ?_
        refine rz_cSIq dX12_mixes_28 kl_RX12_140 (c_X12_in X _ I J (bn % 10) 1 8 (by omega) (by decide) (by decide)) rfl rfl (Nat.le_of_ble_eq_true rfl) (Nat.le_of_ble_eq_true rfl) ?_
        rintro z28 A28 B28 ⟨⟨rfl, b28⟩ | ⟨rfl, b28⟩, rfl, rfl⟩
        · refine rz_if_ne (t := 36) dX12_mixes_31 rfl (by omega) (fun _ => ?_) (fun q => absurd q (by decide))
          refine rz_aload_n dX12_mixes_36 rfl ?_
          refine rz_getR dX12_mixes_37 kf_RX12_120 hd_81 rfl rr_81_55 ?_
          refine rz_iload_n dX12_mixes_40 rfl ?_
          refine rz_ialdN (k := v.toNat) (z := (-4)) dX12_mixes_41 hd_118 (by decide) (by omega) (by omega) hc ?_
          refine rz_iconst dX12_mixes_42 ?_
          refine rz_icmp_eq (t := 60) dX12_mixes_43 rfl (by omega) (by omega) (fun q => absurd q (by decide)) (fun _ => ?_)
          refine rz_aload_n dX12_mixes_46 rfl ?_
          refine rz_getR dX12_mixes_47 kf_RX12_120 hd_81 rfl rr_81_55 ?_
          refine rz_iload_n dX12_mixes_50 rfl ?_
          refine rz_ialdN (k := v.toNat) (z := (-4)) dX12_mixes_51 hd_118 (by decide) (by omega) (by omega) hc ?_
          refine rz_bipush dX12_mixes_52 (by decide) ?_
          refine rz_icmp_eq (t := 60) dX12_mixes_54 rfl (by omega) (by omega) (fun _ => ?_) (fun q => absurd q (by decide))
          refine rz_aload_n dX12_mixes_60 rfl ?_
          refine rz_getR dX12_mixes_61 kf_RX12_120 hd_81 rfl rr_81_55 ?_
          refine rz_iload_n dX12_mixes_64 rfl ?_
          refine rz_ialdN (k := v.toNat) (z := (-4)) dX12_mixes_65 hd_118 (by decide) (by omega) (by omega) hc ?_
          refine rz_iconst dX12_mixes_66 ?_
          refine rz_icmp_ne (t := 72) dX12_mixes_67 rfl (by omega) (by omega) (fun _ => ?_) (fun q => absurd q (by decide))
          refine rz_iload_n dX12_mixes_72 rfl ?_
          refine rz_bipush dX12_mixes_73 (by decide) ?_
          refine rz_irem dX12_mixes_75 (by omega) (by omega) ?_
          refine rz_istore dX12_mixes_76 (by decide) rfl ?_
          refine rz_iload_n dX12_mixes_78 rfl ?_
          refine rz_bipush dX12_mixes_79 (by decide) ?_
          refine rz_idiv dX12_mixes_81 (by omega) (by omega) ?_
          refine rz_ieq (y := 0) (by omega) ?_
          refine rz_istore dX12_mixes_82 (by decide) rfl ?_
          refine rz_iconst dX12_mixes_84 ?_
          refine rz_istore (ls' := [some (.ref 81), some (zi v), some (zi i), some (zi bn), some (zi (bn % 10)), some (zi 0), some (zi 0), none, none, none]) dX12_mixes_85 (by decide) rfl ?_
          refine rz_upx (σ := IM × Mx) (Inv := fun k sk => MixR sk.1 0 sk.2 ∧ MixR sk.1 1 m1 ∧ MfR I sk.1 ∧ (k = 0 ∨ 0 ≤ i) ∧ (mxsS (fun j => J 120 (60 * v.toNat + j)) (I 119 v.toNat) i n (I 85 0) (bn % 10).toNat 0 m0) = (mxsS (fun j => J 120 (60 * v.toNat + j)) (I 119 v.toNat) i n (I 85 0) ((bn % 10).toNat - k) k sk.2)) (ls := fun (k : Nat) sk => [some (.ref 81), some (zi v), some (zi i), some (zi bn), some (zi (bn % 10)), some (zi 0), some (zi (k : Int)), none, none, none]) (IV := fun (k : Nat) sk => sk.1) (JV := fun (k : Nat) sk => J) ((bn % 10).toNat) ((I, m0)) ⟨hm0, hm1, MfR_refl, Or.inl rfl, by rw [Nat.sub_zero]⟩ ⟨Or.inr rfl, Or.inr rfl, Or.inr rfl, Or.inr rfl, Or.inr rfl, Or.inr rfl, Or.inr rfl, Or.inl rfl, Or.inl rfl, Or.inl rfl, trivial⟩ (rfl) (rfl) ?_ ?_
          · intro k sk hk qk ihk
            obtain ⟨qm, qo, qf, qi, qs⟩ := qk
            have i119 := (hS v.toNat (by omega)).2
            have hm8 := qm.1.2
            refine rz_iload dX12_mixes_87 rfl ?_
            refine rz_iload dX12_mixes_89 rfl ?_
            refine rz_icmp_ge (t := 213) dX12_mixes_91 rfl (by omega) (by omega) (fun c91 => ?_) (fun c91 => ?_)
            · exfalso; omega
            · refine rz_iload_n dX12_mixes_94 rfl ?_
              refine rz_i2l dX12_mixes_95 (by omega) ?_
              refine rz_iconst dX12_mixes_96 ?_
              refine rz_iload dX12_mixes_97 rfl ?_
              refine rz_imul dX12_mixes_99 ?_
              refine rz_i2l dX12_mixes_100 (by omega) ?_
              refine rz_ladd dX12_mixes_101 ?_
              refine rz_lstore dX12_mixes_102 (by decide) rfl ?_
              refine rz_lload dX12_mixes_104 rfl ?_
              refine rz_lconst (x := 0) dX12_mixes_106 rfl ?_
              refine rz_lcmp dX12_mixes_107 (by omega) (by omega) ?_
              refine rz_if_lt (t := 138) dX12_mixes_108 rfl (lcZ_rg _ _) (fun c108 => ?_) (fun c108 => ?_)
              · refine rz_iload dX12_mixes_138 rfl ?_
                refine rz_iret dX12_mixes_140 rfl ?_
                have hnk : ¬ okE (fun j => J 120 (60 * v.toNat + j)) (I 119 v.toNat) i n (I 85 0) sk.2 k := fun q => by
                  have q1 := q.1
                  have q2 := q.2.1
                  have q3 := q.2.2.2
                  first
                  | omega
                  | (have := lcZ_lt.mp c108; omega)
                  | (have q4 : ¬ lcZ (i + 2 * (k : Int) + 1) (I 119 v.toNat) < 0 := by omega
                     exact q4 (lcZ_lt.mpr q1.2))
                  | exact b164 q2
                  | (have q5 := q.2.2.1; have q6 := b181; rw [show sk.1 85 (0 : Int).toNat = I 85 0 from congrFun (qf.1 85 (by decide) (by decide) (by decide) (by decide)) 0] at q6; exact q6 q5)
                rw [mxsS_n hk hnk] at qs
                have hZ : mxsZ (fun j => J 120 (60 * v.toNat + j)) (I 118 v.toNat) (I 119 v.toNat) n (I 85) m0 m1 v i bn = ((((mxsS (fun j => J 120 (60 * v.toNat + j)) (I 119 v.toNat) i n (I 85 0) (bn % 10).toNat 0 m0)).1 : Nat) : Int) := by rw [mxsZ, if_pos hV, hc, if_neg (by decide), if_neg (by decide), hB]; rfl
                exact ⟨_, rfl, by rw [hZ, qs], ⟨by rw [mxsM_y hV hc hB]; show MixR _ _ ((mxsS (fun j => J 120 (60 * v.toNat + j)) (I 119 v.toNat) i n (I 85 0) (bn % 10).toNat 0 m0)).2; rw [qs]; exact qm, by rw [mxsM_n (fun q => by omega)]; exact qo⟩, qf, rfl⟩
              · have z108 : ¬ i + 2 * (k : Int) < 0 := fun q => by have := lcZ_lt.mpr q; omega
                refine rz_lload dX12_mixes_111 rfl ?_
                refine rz_lconst (x := 1) dX12_mixes_113 rfl ?_
                refine rz_ladd dX12_mixes_114 ?_
                refine rz_aload_n dX12_mixes_115 rfl ?_
                refine rz_getR dX12_mixes_116 kf_RX12_123 hd_81 rfl rr_81_56 ?_
                refine rz_iload_n dX12_mixes_119 rfl ?_
                refine rz_ialdN (k := v.toNat) (z := (I 119 v.toNat)) dX12_mixes_120 hd_119 (by decide) (by omega) (by omega) (by rw [qf.1 119 (by decide) (by decide) (by decide) (by decide)]) ?_
                refine rz_i2l dX12_mixes_121 (by omega) ?_
                refine rz_lcmp dX12_mixes_122 (by omega) (by omega) ?_
                refine rz_if_ge (t := 138) dX12_mixes_123 rfl (lcZ_rg _ _) (fun c123 => ?_) (fun c123 => ?_)
                · refine rz_iload dX12_mixes_138 rfl ?_
                  refine rz_iret dX12_mixes_140 rfl ?_
                  have hnk : ¬ okE (fun j => J 120 (60 * v.toNat + j)) (I 119 v.toNat) i n (I 85 0) sk.2 k := fun q => by
                    have q1 := q.1
                    have q2 := q.2.1
                    have q3 := q.2.2.2
                    first
                    | omega
                    | (have := lcZ_lt.mp c108; omega)
                    | (have q4 : ¬ lcZ (i + 2 * (k : Int) + 1) (I 119 v.toNat) < 0 := by omega
                       exact q4 (lcZ_lt.mpr q1.2))
                    | exact b164 q2
                    | (have q5 := q.2.2.1; have q6 := b181; rw [show sk.1 85 (0 : Int).toNat = I 85 0 from congrFun (qf.1 85 (by decide) (by decide) (by decide) (by decide)) 0] at q6; exact q6 q5)
                  rw [mxsS_n hk hnk] at qs
                  have hZ : mxsZ (fun j => J 120 (60 * v.toNat + j)) (I 118 v.toNat) (I 119 v.toNat) n (I 85) m0 m1 v i bn = ((((mxsS (fun j => J 120 (60 * v.toNat + j)) (I 119 v.toNat) i n (I 85 0) (bn % 10).toNat 0 m0)).1 : Nat) : Int) := by rw [mxsZ, if_pos hV, hc, if_neg (by decide), if_neg (by decide), hB]; rfl
                  exact ⟨_, rfl, by rw [hZ, qs], ⟨by rw [mxsM_y hV hc hB]; show MixR _ _ ((mxsS (fun j => J 120 (60 * v.toNat + j)) (I 119 v.toNat) i n (I 85 0) (bn % 10).toNat 0 m0)).2; rw [qs]; exact qm, by rw [mxsM_n (fun q => by omega)]; exact qo⟩, qf, rfl⟩
                · have z123 : i + 2 * (k : Int) + 1 < I 119 v.toNat := lcZ_lt.mp (by omega)
                  refine rz_aload_n dX12_mixes_126 rfl ?_
                  refine rz_getR dX12_mixes_127 kf_RX12_22 hd_81 rfl rr_81_6 ?_
                  refine rz_iload dX12_mixes_130 rfl ?_
                  refine rz_ialdN (k := 0) (z := ((sk.2.1 : Nat) : Int)) dX12_mixes_132 hd_86 (by decide) (by omega) (by omega) qm.1.1 ?_
                  refine rz_bipush dX12_mixes_133 (by decide) ?_
                  refine rz_icmp_ne (t := 141) dX12_mixes_135 rfl (by omega) (by omega) (fun c135 => ?_) (fun c135 => ?_)
                  · have e1 := hE (i.toNat + 2 * k + 1) (by omega)
                    have e0 := hE (i.toNat + 2 * k) (by omega)
                    refine rz_bipush dX12_mixes_141 (by decide) ?_
                    refine rz_iload_n dX12_mixes_143 rfl ?_
                    refine rz_imul dX12_mixes_144 ?_
                    refine rz_lload dX12_mixes_145 rfl ?_
                    refine rz_l2i dX12_mixes_147 ?_
                    refine rz_iadd dX12_mixes_148 ?_
                    refine rz_istore dX12_mixes_149 (by decide) rfl ?_
                    refine rz_aload_n dX12_mixes_151 rfl ?_
                    refine rz_getR dX12_mixes_152 kf_RX12_126 hd_81 rfl rr_81_57 ?_
                    refine rz_iload dX12_mixes_155 rfl ?_
                    refine rz_iconst dX12_mixes_157 ?_
                    refine rz_iadd dX12_mixes_158 ?_
                    refine rz_laldN (k := (60 * v.toNat + (i.toNat + 2 * k + 1))) (z := (J 120 (60 * v.toNat + (i.toNat + 2 * k + 1)))) dX12_mixes_159 hd_120 (by decide) (by omega) (by omega) rfl ?_
                    refine rz_l2i dX12_mixes_160 ?_
                    refine rz_iconst dX12_mixes_161 ?_
                    refine rz_bipush dX12_mixes_162 (by decide) ?_
                    refine rz_cSIq dX12_mixes_164 kl_RX12_140 (c_X12_in X _ sk.1 J (J 120 (60 * v.toNat + (i.toNat + 2 * k + 1))) 1 9 e1 (by decide) (by decide)) rfl rfl (Nat.le_of_ble_eq_true rfl) (Nat.le_of_ble_eq_true rfl) ?_
                    rintro z164 A164 B164 ⟨⟨rfl, b164⟩ | ⟨rfl, b164⟩, rfl, rfl⟩
                    · refine rz_if_eq (t := 187) dX12_mixes_167 rfl (by omega) (fun q => absurd q (by decide)) (fun _ => ?_)
                      refine rz_aload_n dX12_mixes_170 rfl ?_
                      refine rz_aload_n dX12_mixes_171 rfl ?_
                      refine rz_getR dX12_mixes_172 kf_RX12_126 hd_81 rfl rr_81_57 ?_
                      refine rz_iload dX12_mixes_175 rfl ?_
                      refine rz_laldN (k := (60 * v.toNat + (i.toNat + 2 * k))) (z := (J 120 (60 * v.toNat + (i.toNat + 2 * k)))) dX12_mixes_177 hd_120 (by decide) (by omega) (by omega) rfl ?_
                      refine rz_l2i dX12_mixes_178 ?_
                      refine rz_iload dX12_mixes_179 rfl ?_
                      refine rz_cVIq dX12_mixes_181 kl_RX12_169 hd_81 ⟨_, _, rfl⟩ (c_X12_reads X _ sk.1 J n ⟨by rw [qf.1 81 (by decide) (by decide) (by decide) (by decide)]; exact hn.1, hn.2⟩ (J 120 (60 * v.toNat + (i.toNat + 2 * k))) 0 (by omega) (by omega) (by show 0 ≤ sk.1 85 0 ∧ sk.1 85 0 ≤ 9; rw [qf.1 85 (by decide) (by decide) (by decide) (by decide)]; exact hl)) rfl rfl (Nat.le_of_ble_eq_true rfl) (Nat.le_of_ble_eq_true rfl) ?_
                      rintro z181 _ _ ⟨g181, rfl, rfl, ⟨rfl, b181, k181⟩ | ⟨rfl, b181⟩⟩
                      · refine rz_if_ne (t := 190) dX12_mixes_184 rfl (by omega) (fun _ => ?_) (fun q => absurd q (by decide))
                        refine rz_aload_n dX12_mixes_190 rfl ?_
                        refine rz_iload dX12_mixes_191 rfl ?_
                        refine rz_aload_n dX12_mixes_193 rfl ?_
                        refine rz_getR dX12_mixes_194 kf_RX12_126 hd_81 rfl rr_81_57 ?_
                        refine rz_iload dX12_mixes_197 rfl ?_
                        refine rz_iconst dX12_mixes_199 ?_
                        refine rz_iadd dX12_mixes_200 ?_
                        refine rz_laldN (k := (60 * v.toNat + (i.toNat + 2 * k + 1))) (z := (J 120 (60 * v.toNat + (i.toNat + 2 * k + 1)))) dX12_mixes_201 hd_120 (by decide) (by omega) (by omega) rfl ?_
                        refine rz_l2i dX12_mixes_202 ?_
                        refine rz_cVI dX12_mixes_203 kl_RX12_173 hd_81 ⟨_, _, rfl⟩ (c_X12_addMix X _ (upA sk.1 93 g181) J 0 (J 120 (60 * v.toNat + (i.toNat + 2 * k + 1))) (by decide) (by show 0 ≤ sk.1 86 0 ∧ sk.1 86 0 ≤ 7; rw [qm.1.1]; omega) (by show 0 ≤ sk.1 81 1 ∧ sk.1 81 1 ≤ 5; rw [qf.1 81 (by decide) (by decide) (by decide) (by decide)]; omega) (by intro x hx; show 0 ≤ g181 x ∧ g181 x ≤ 9; rw [k181 x (by have q : (x : Int) < sk.1 81 1 := hx; rw [qf.1 81 (by decide) (by decide) (by decide) (by decide)] at q; omega)]; exact dgt_bd _ _ _)) rfl rfl (Nat.le_of_ble_eq_true rfl) (Nat.le_of_ble_eq_true rfl) ?_
                        refine rz_pop dX12_mixes_206 rfl ?_
                        refine rz_iinc (ls' := [some (.ref 81), some (zi v), some (zi i), some (zi bn), some (zi (bn % 10)), some (zi 0), some (zi ((k : Int) + 1)), some (zl (i + (2 * (k : Int)))), none, some (zi ((60 * v) + (i + (2 * (k : Int)))))]) dX12_mixes_207 (by decide) rfl rfl rfl ?_
                        refine rz_goto (t := 87) dX12_mixes_210 rfl ?_
                        have hadd := addR_mix0 (I := sk.1) (g := g181) (w := (J 120 (60 * v.toNat + (i.toNat + 2 * k + 1)))) ⟨by rw [qf.1 81 (by decide) (by decide) (by decide) (by decide)]; exact hn.1, hn.2⟩ qm qo (by have q : ((sk.2.1 : Nat) : Int) ≠ 8 := c135; omega) b164 k181
                        exact rz_bk (ihk ((addR (upA sk.1 93 g181) 0 (J 120 (60 * v.toNat + (i.toNat + 2 * k + 1))), (mAdd n sk.2 (J 120 (60 * v.toNat + (i.toNat + 2 * k))) (J 120 (60 * v.toNat + (i.toNat + 2 * k + 1)))))) (⟨hadd.1, hadd.2.1, qf.trans hadd.2.2, Or.inr (by omega), qs.trans (mxsS_y hk ⟨⟨by omega, by omega⟩, b164, (by have q := b181; rw [show sk.1 85 (0 : Int).toNat = I 85 0 from congrFun (qf.1 85 (by decide) (by decide) (by decide) (by decide)) 0] at q; exact q), by have q : ((sk.2.1 : Nat) : Int) ≠ 8 := c135; omega⟩)⟩)) ⟨Or.inr rfl, Or.inr rfl, Or.inr rfl, Or.inr rfl, Or.inr rfl, Or.inr rfl, Or.inr rfl, Or.inl rfl, Or.inl rfl, Or.inl rfl, trivial⟩ (rfl) (rfl)
                      · refine rz_if_ne (t := 190) dX12_mixes_184 rfl (by omega) (fun q => absurd q (by decide)) (fun _ => ?_)
                        refine rz_iload dX12_mixes_187 rfl ?_
                        refine rz_iret dX12_mixes_189 rfl ?_
                        have hnk : ¬ okE (fun j => J 120 (60 * v.toNat + j)) (I 119 v.toNat) i n (I 85 0) sk.2 k := fun q => by
                          have q1 := q.1
                          have q2 := q.2.1
                          have q3 := q.2.2.2
                          first
                          | omega
                          | (have := lcZ_lt.mp c108; omega)
                          | (have q4 : ¬ lcZ (i + 2 * (k : Int) + 1) (I 119 v.toNat) < 0 := by omega
                             exact q4 (lcZ_lt.mpr q1.2))
                          | exact b164 q2
                          | (have q5 := q.2.2.1; have q6 := b181; rw [show sk.1 85 (0 : Int).toNat = I 85 0 from congrFun (qf.1 85 (by decide) (by decide) (by decide) (by decide)) 0] at q6; exact q6 q5)
                        rw [mxsS_n hk hnk] at qs
                        have hZ : mxsZ (fun j => J 120 (60 * v.toNat + j)) (I 118 v.toNat) (I 119 v.toNat) n (I 85) m0 m1 v i bn = ((((mxsS (fun j => J 120 (60 * v.toNat + j)) (I 119 v.toNat) i n (I 85 0) (bn % 10).toNat 0 m0)).1 : Nat) : Int) := by rw [mxsZ, if_pos hV, hc, if_neg (by decide), if_neg (by decide), hB]; rfl
                        exact ⟨_, rfl, by rw [hZ, qs], ⟨by rw [mxsM_y hV hc hB]; show MixR _ _ ((mxsS (fun j => J 120 (60 * v.toNat + j)) (I 119 v.toNat) i n (I 85 0) (bn % 10).toNat 0 m0)).2; rw [qs]; exact (mix93 qm), by rw [mxsM_n (fun q => by omega)]; exact (mix93 qo)⟩, (qf.trans MfR_93), rfl⟩
                    · refine rz_if_eq (t := 187) dX12_mixes_167 rfl (by omega) (fun _ => ?_) (fun q => absurd q (by decide))
                      refine rz_iload dX12_mixes_187 rfl ?_
                      refine rz_iret dX12_mixes_189 rfl ?_
                      have hnk : ¬ okE (fun j => J 120 (60 * v.toNat + j)) (I 119 v.toNat) i n (I 85 0) sk.2 k := fun q => by
                        have q1 := q.1
                        have q2 := q.2.1
                        have q3 := q.2.2.2
                        first
                        | omega
                        | (have := lcZ_lt.mp c108; omega)
                        | (have q4 : ¬ lcZ (i + 2 * (k : Int) + 1) (I 119 v.toNat) < 0 := by omega
                           exact q4 (lcZ_lt.mpr q1.2))
                        | exact b164 q2
                        | (have q5 := q.2.2.1; have q6 := b181; rw [show sk.1 85 (0 : Int).toNat = I 85 0 from congrFun (qf.1 85 (by decide) (by decide) (by decide) (by decide)) 0] at q6; exact q6 q5)
                      rw [mxsS_n hk hnk] at qs
                      have hZ : mxsZ (fun j => J 120 (60 * v.toNat + j)) (I 118 v.toNat) (I 119 v.toNat) n (I 85) m0 m1 v i bn = ((((mxsS (fun j => J 120 (60 * v.toNat + j)) (I 119 v.toNat) i n (I 85 0) (bn % 10).toNat 0 m0)).1 : Nat) : Int) := by rw [mxsZ, if_pos hV, hc, if_neg (by decide), if_neg (by decide), hB]; rfl
                      exact ⟨_, rfl, by rw [hZ, qs], ⟨by rw [mxsM_y hV hc hB]; show MixR _ _ ((mxsS (fun j => J 120 (60 * v.toNat + j)) (I 119 v.toNat) i n (I 85 0) (bn % 10).toNat 0 m0)).2; rw [qs]; exact qm, by rw [mxsM_n (fun q => by omega)]; exact qo⟩, qf, rfl⟩
                  · refine rz_iload dX12_mixes_138 rfl ?_
                    refine rz_iret dX12_mixes_140 rfl ?_
                    have hnk : ¬ okE (fun j => J 120 (60 * v.toNat + j)) (I 119 v.toNat) i n (I 85 0) sk.2 k := fun q => by
                      have q1 := q.1
                      have q2 := q.2.1
                      have q3 := q.2.2.2
                      first
                      | omega
                      | (have := lcZ_lt.mp c108; omega)
                      | (have q4 : ¬ lcZ (i + 2 * (k : Int) + 1) (I 119 v.toNat) < 0 := by omega
                         exact q4 (lcZ_lt.mpr q1.2))
                      | exact b164 q2
                      | (have q5 := q.2.2.1; have q6 := b181; rw [show sk.1 85 (0 : Int).toNat = I 85 0 from congrFun (qf.1 85 (by decide) (by decide) (by decide) (by decide)) 0] at q6; exact q6 q5)
                    rw [mxsS_n hk hnk] at qs
                    have hZ : mxsZ (fun j => J 120 (60 * v.toNat + j)) (I 118 v.toNat) (I 119 v.toNat) n (I 85) m0 m1 v i bn = ((((mxsS (fun j => J 120 (60 * v.toNat + j)) (I 119 v.toNat) i n (I 85 0) (bn % 10).toNat 0 m0)).1 : Nat) : Int) := by rw [mxsZ, if_pos hV, hc, if_neg (by decide), if_neg (by decide), hB]; rfl
                    exact ⟨_, rfl, by rw [hZ, qs], ⟨by rw [mxsM_y hV hc hB]; show MixR _ _ ((mxsS (fun j => J 120 (60 * v.toNat + j)) (I 119 v.toNat) i n (I 85 0) (bn % 10).toNat 0 m0)).2; rw [qs]; exact qm, by rw [mxsM_n (fun q => by omega)]; exact qo⟩, qf, rfl⟩
          · intro sk qk
            obtain ⟨qm, qo, qf, qi, qs⟩ := qk
            refine rz_iload dX12_mixes_87 rfl ?_
            refine rz_iload dX12_mixes_89 rfl ?_
            refine rz_icmp_ge (t := 213) dX12_mixes_91 rfl (by omega) (by omega) (fun c91 => ?_) (fun c91 => ?_)
            · refine rz_iload dX12_mixes_213 rfl ?_
              refine rz_iret dX12_mixes_215 rfl ?_
              rw [mxsS_e] at qs
              have hZ : mxsZ (fun j => J 120 (60 * v.toNat + j)) (I 118 v.toNat) (I 119 v.toNat) n (I 85) m0 m1 v i bn = ((((mxsS (fun j => J 120 (60 * v.toNat + j)) (I 119 v.toNat) i n (I 85 0) (bn % 10).toNat 0 m0)).1 : Nat) : Int) := by rw [mxsZ, if_pos hV, hc, if_neg (by decide), if_neg (by decide), hB]; rfl
              exact ⟨_, rfl, by rw [hZ, qs]; show bn % 10 = (((bn % 10).toNat : Nat) : Int); omega, ⟨by rw [mxsM_y hV hc hB]; show MixR _ _ ((mxsS (fun j => J 120 (60 * v.toNat + j)) (I 119 v.toNat) i n (I 85 0) (bn % 10).toNat 0 m0)).2; rw [qs]; exact qm, by rw [mxsM_n (fun q => by omega)]; exact qo⟩, qf, rfl⟩
            · exfalso; omega
        · exfalso; omega
      · exfalso; omega
  · exfalso; omega
set_option maxRecDepth 20000 in
set_option maxHeartbeats 400000 in
theorem mixes_ri1 {X : pX} {I J : IM} {h : Nat} (n : Nat) (hn : I 81 1 = n ∧ n ≤ 5) (m0 m1 : Mx) (hm0 : MixR I 0 m0) (hm1 : MixR I 1 m1) (hl : 0 ≤ I 85 1 ∧ I 85 1 ≤ 9) (v i bn : Int) (hi : rg i) (hbn : rg bn) (hV : mxsV v bn) (hB : (bn / 10).toNat = 1) (hS : ShR I) (hc : (I 118 v.toNat) = -4) (hE : ∀ j, j < 60 → rg (J 120 (60 * v.toNat + j))) : KIq X (h + 3) mX12_mixes [.ref 81, zi v, zi i, zi bn] I J (fun z A B => z = mxsZ (fun j => J 120 (60 * v.toNat + j)) (I 118 v.toNat) (I 119 v.toNat) n (I 85) m0 m1 v i bn ∧ (MixR A 0 (mxsM (fun j => J 120 (60 * v.toNat + j)) (I 118 v.toNat) (I 119 v.toNat) n (I 85) m0 m1 v i bn 0) ∧ MixR A 1 (mxsM (fun j => J 120 (60 * v.toNat + j)) (I 118 v.toNat) (I 119 v.toNat) n (I 85) m0 m1 v i bn 1)) ∧ MfR I A ∧ J = B) := by
  obtain ⟨hv, hb1, hb2, hb3, hb4⟩ := id hV
  show Rz X (h + 3) mX12_mixes 0 [some (.ref 81), some (zi v), some (zi i), some (zi bn), none, none, none, none, none, none] [] I J _
  refine rz_iload_n dX12_mixes_0 rfl ?_
  refine rz_cSIq dX12_mixes_1 kl_RX12_176 (c_X12_isShelf X _ I J v (by omega)) rfl rfl (Nat.le_of_ble_eq_true rfl) (Nat.le_of_ble_eq_true rfl) ?_
  rintro z1 A1 B1 ⟨⟨rfl, b1⟩ | ⟨rfl, b1⟩, rfl, rfl⟩
  · refine rz_if_eq (t := 34) dX12_mixes_4 rfl (by omega) (fun q => absurd q (by decide)) (fun _ => ?_)
    refine rz_iload_n dX12_mixes_7 rfl ?_
    refine rz_if_lt (t := 34) dX12_mixes_8 rfl (by omega) (fun c8 => ?_) (fun c8 => ?_)
    · exfalso; omega
    · refine rz_iload_n dX12_mixes_11 rfl ?_
      refine rz_bipush dX12_mixes_12 (by decide) ?_
      refine rz_idiv dX12_mixes_14 (by omega) (by omega) ?_
      refine rz_cSIq dX12_mixes_15 kl_RX12_158 (c_X12_isBaker X _ I J (bn / 10) (by omega)) rfl rfl (Nat.le_of_ble_eq_true rfl) (Nat.le_of_ble_eq_true rfl) ?_
      rintro z15 A15 B15 ⟨⟨rfl, b15⟩ | ⟨rfl, b15⟩, rfl, rfl⟩
      · refine rz_if_eq (t := 34) dX12_mixes_18 rfl (by omega) (fun q => absurd q (by decide)) (fun _ => ?_)
        refine rz_iload_n dX12_mixes_21 rfl ?_
        refine rz_bipush dX12_mixes_22 (by decide) ?_
        refine rz_irem dX12_mixes_24 (by omega) (by omega) ?_
        refine rz_iconst dX12_mixes_25 ?_
        refine rz_bipush dX12_mixes_26 (by decide) ?_
        refine rz_cSIq dX12_mixes_28 kl_RX12_140 (c_X12_in X _ I J (bn % 10) 1 8 (by omega) (by decide) (by decide)) rfl rfl (Nat.le_of_ble_eq_true rfl) (Nat.le_of_ble_eq_true rfl) ?_
        rintro z28 A28 B28 ⟨⟨rfl, b28⟩ | ⟨rfl, b28⟩, rfl, rfl⟩
        · refine rz_if_ne (t := 36) dX12_mixes_31 rfl (by omega) (fun _ => ?_) (fun q => absurd q (by decide))
          refine rz_aload_n dX12_mixes_36 rfl ?_
          refine rz_getR dX12_mixes_37 kf_RX12_120 hd_81 rfl rr_81_55 ?_
          refine rz_iload_n dX12_mixes_40 rfl ?_
          refine rz_ialdN (k := v.toNat) (z := (-4)) dX12_mixes_41 hd_118 (by decide) (by omega) (by omega) hc ?_
          refine rz_iconst dX12_mixes_42 ?_
          refine rz_icmp_eq (t := 60) dX12_mixes_43 rfl (by omega) (by omega) (fun q => absurd q (by decide)) (fun _ => ?_)
          refine rz_aload_n dX12_mixes_46 rfl ?_
          refine rz_getR dX12_mixes_47 kf_RX12_120 hd_81 rfl rr_81_55 ?_
          refine rz_iload_n dX12_mixes_50 rfl ?_
          refine rz_ialdN (k := v.toNat) (z := (-4)) dX12_mixes_51 hd_118 (by decide) (by omega) (by omega) hc ?_
          refine rz_bipush dX12_mixes_52 (by decide) ?_
          refine rz_icmp_eq (t := 60) dX12_mixes_54 rfl (by omega) (by omega) (fun _ => ?_) (fun q => absurd q (by decide))
          refine rz_aload_n dX12_mixes_60 rfl ?_
          refine rz_getR dX12_mixes_61 kf_RX12_120 hd_81 rfl rr_81_55 ?_
          refine rz_iload_n dX12_mixes_64 rfl ?_
          refine rz_ialdN (k := v.toNat) (z := (-4)) dX12_mixes_65 hd_118 (by decide) (by omega) (by omega) hc ?_
          refine rz_iconst dX12_mixes_66 ?_
          refine rz_icmp_ne (t := 72) dX12_mixes_67 rfl (by omega) (by omega) (fun _ => ?_) (fun q => absurd q (by decide))
          refine rz_iload_n dX12_mixes_72 rfl ?_
          refine rz_bipush dX12_mixes_73 (by decide) ?_
          refine rz_irem dX12_mixes_75 (by omega) (by omega) ?_
          refine rz_istore dX12_mixes_76 (by decide) rfl ?_
          refine rz_iload_n dX12_mixes_78 rfl ?_
          refine rz_bipush dX12_mixes_79 (by decide) ?_
          refine rz_idiv dX12_mixes_81 (by omega) (by omega) ?_
          refine rz_ieq (y := 1) (by omega) ?_
          refine rz_istore dX12_mixes_82 (by decide) rfl ?_
          refine rz_iconst dX12_mixes_84 ?_
          refine rz_istore (ls' := [some (.ref 81), some (zi v), some (zi i), some (zi bn), some (zi (bn % 10)), some (zi 1), some (zi 0), none, none, none]) dX12_mixes_85 (by decide) rfl ?_
          refine rz_upx (σ := IM × Mx) (Inv := fun k sk => MixR sk.1 1 sk.2 ∧ MixR sk.1 0 m0 ∧ MfR I sk.1 ∧ (k = 0 ∨ 0 ≤ i) ∧ (mxsS (fun j => J 120 (60 * v.toNat + j)) (I 119 v.toNat) i n (I 85 1) (bn % 10).toNat 0 m1) = (mxsS (fun j => J 120 (60 * v.toNat + j)) (I 119 v.toNat) i n (I 85 1) ((bn % 10).toNat - k) k sk.2)) (ls := fun (k : Nat) sk => [some (.ref 81), some (zi v), some (zi i), some (zi bn), some (zi (bn % 10)), some (zi 1), some (zi (k : Int)), none, none, none]) (IV := fun (k : Nat) sk => sk.1) (JV := fun (k : Nat) sk => J) ((bn % 10).toNat) ((I, m1)) ⟨hm1, hm0, MfR_refl, Or.inl rfl, by rw [Nat.sub_zero]⟩ ⟨Or.inr rfl, Or.inr rfl, Or.inr rfl, Or.inr rfl, Or.inr rfl, Or.inr rfl, Or.inr rfl, Or.inl rfl, Or.inl rfl, Or.inl rfl, trivial⟩ (rfl) (rfl) ?_ ?_
          · intro k sk hk qk ihk
            obtain ⟨qm, qo, qf, qi, qs⟩ := qk
            have i119 := (hS v.toNat (by omega)).2
            have hm8 := qm.1.2
            refine rz_iload dX12_mixes_87 rfl ?_
            refine rz_iload dX12_mixes_89 rfl ?_
            refine rz_icmp_ge (t := 213) dX12_mixes_91 rfl (by omega) (by omega) (fun c91 => ?_) (fun c91 => ?_)
            · exfalso; omega
            · refine rz_iload_n dX12_mixes_94 rfl ?_
              refine rz_i2l dX12_mixes_95 (by omega) ?_
              refine rz_iconst dX12_mixes_96 ?_
              refine rz_iload dX12_mixes_97 rfl ?_
              refine rz_imul dX12_mixes_99 ?_
              refine rz_i2l dX12_mixes_100 (by omega) ?_
              refine rz_ladd dX12_mixes_101 ?_
              refine rz_lstore dX12_mixes_102 (by decide) rfl ?_
              refine rz_lload dX12_mixes_104 rfl ?_
              refine rz_lconst (x := 0) dX12_mixes_106 rfl ?_
              refine rz_lcmp dX12_mixes_107 (by omega) (by omega) ?_
              refine rz_if_lt (t := 138) dX12_mixes_108 rfl (lcZ_rg _ _) (fun c108 => ?_) (fun c108 => ?_)
              · refine rz_iload dX12_mixes_138 rfl ?_
                refine rz_iret dX12_mixes_140 rfl ?_
                have hnk : ¬ okE (fun j => J 120 (60 * v.toNat + j)) (I 119 v.toNat) i n (I 85 1) sk.2 k := fun q => by
                  have q1 := q.1
                  have q2 := q.2.1
                  have q3 := q.2.2.2
                  first
                  | omega
                  | (have := lcZ_lt.mp c108; omega)
                  | (have q4 : ¬ lcZ (i + 2 * (k : Int) + 1) (I 119 v.toNat) < 0 := by omega
                     exact q4 (lcZ_lt.mpr q1.2))
                  | exact b164 q2
                  | (have q5 := q.2.2.1; have q6 := b181; rw [show sk.1 85 (1 : Int).toNat = I 85 1 from congrFun (qf.1 85 (by decide) (by decide) (by decide) (by decide)) 1] at q6; exact q6 q5)
                rw [mxsS_n hk hnk] at qs
                have hZ : mxsZ (fun j => J 120 (60 * v.toNat + j)) (I 118 v.toNat) (I 119 v.toNat) n (I 85) m0 m1 v i bn = ((((mxsS (fun j => J 120 (60 * v.toNat + j)) (I 119 v.toNat) i n (I 85 1) (bn % 10).toNat 0 m1)).1 : Nat) : Int) := by rw [mxsZ, if_pos hV, hc, if_neg (by decide), if_neg (by decide), hB]; rfl
                exact ⟨_, rfl, by rw [hZ, qs], ⟨by rw [mxsM_n (fun q => by omega)]; exact qo, by rw [mxsM_y hV hc hB]; show MixR _ _ ((mxsS (fun j => J 120 (60 * v.toNat + j)) (I 119 v.toNat) i n (I 85 1) (bn % 10).toNat 0 m1)).2; rw [qs]; exact qm⟩, qf, rfl⟩
              · have z108 : ¬ i + 2 * (k : Int) < 0 := fun q => by have := lcZ_lt.mpr q; omega
                refine rz_lload dX12_mixes_111 rfl ?_
                refine rz_lconst (x := 1) dX12_mixes_113 rfl ?_
                refine rz_ladd dX12_mixes_114 ?_
                refine rz_aload_n dX12_mixes_115 rfl ?_
                refine rz_getR dX12_mixes_116 kf_RX12_123 hd_81 rfl rr_81_56 ?_
                refine rz_iload_n dX12_mixes_119 rfl ?_
                refine rz_ialdN (k := v.toNat) (z := (I 119 v.toNat)) dX12_mixes_120 hd_119 (by decide) (by omega) (by omega) (by rw [qf.1 119 (by decide) (by decide) (by decide) (by decide)]) ?_
                refine rz_i2l dX12_mixes_121 (by omega) ?_
                refine rz_lcmp dX12_mixes_122 (by omega) (by omega) ?_
                refine rz_if_ge (t := 138) dX12_mixes_123 rfl (lcZ_rg _ _) (fun c123 => ?_) (fun c123 => ?_)
                · refine rz_iload dX12_mixes_138 rfl ?_
                  refine rz_iret dX12_mixes_140 rfl ?_
                  have hnk : ¬ okE (fun j => J 120 (60 * v.toNat + j)) (I 119 v.toNat) i n (I 85 1) sk.2 k := fun q => by
                    have q1 := q.1
                    have q2 := q.2.1
                    have q3 := q.2.2.2
                    first
                    | omega
                    | (have := lcZ_lt.mp c108; omega)
                    | (have q4 : ¬ lcZ (i + 2 * (k : Int) + 1) (I 119 v.toNat) < 0 := by omega
                       exact q4 (lcZ_lt.mpr q1.2))
                    | exact b164 q2
                    | (have q5 := q.2.2.1; have q6 := b181; rw [show sk.1 85 (1 : Int).toNat = I 85 1 from congrFun (qf.1 85 (by decide) (by decide) (by decide) (by decide)) 1] at q6; exact q6 q5)
                  rw [mxsS_n hk hnk] at qs
                  have hZ : mxsZ (fun j => J 120 (60 * v.toNat + j)) (I 118 v.toNat) (I 119 v.toNat) n (I 85) m0 m1 v i bn = ((((mxsS (fun j => J 120 (60 * v.toNat + j)) (I 119 v.toNat) i n (I 85 1) (bn % 10).toNat 0 m1)).1 : Nat) : Int) := by rw [mxsZ, if_pos hV, hc, if_neg (by decide), if_neg (by decide), hB]; rfl
                  exact ⟨_, rfl, by rw [hZ, qs], ⟨by rw [mxsM_n (fun q => by omega)]; exact qo, by rw [mxsM_y hV hc hB]; show MixR _ _ ((mxsS (fun j => J 120 (60 * v.toNat + j)) (I 119 v.toNat) i n (I 85 1) (bn % 10).toNat 0 m1)).2; rw [qs]; exact qm⟩, qf, rfl⟩
                · have z123 : i + 2 * (k : Int) + 1 < I 119 v.toNat := lcZ_lt.mp (by omega)
                  refine rz_aload_n dX12_mixes_126 rfl ?_
                  refine rz_getR dX12_mixes_127 kf_RX12_22 hd_81 rfl rr_81_6 ?_
                  refine rz_iload dX12_mixes_130 rfl ?_
                  refine rz_ialdN (k := 1) (z := ((sk.2.1 : Nat) : Int)) dX12_mixes_132 hd_86 (by decide) (by omega) (by omega) qm.1.1 ?_
                  refine rz_bipush dX12_mixes_133 (by decide) ?_
                  refine rz_icmp_ne (t := 141) dX12_mixes_135 rfl (by omega) (by omega) (fun c135 => ?_) (fun c135 => ?_)
                  · have e1 := hE (i.toNat + 2 * k + 1) (by omega)
                    have e0 := hE (i.toNat + 2 * k) (by omega)
                    refine rz_bipush dX12_mixes_141 (by decide) ?_
                    refine rz_iload_n dX12_mixes_143 rfl ?_
                    refine rz_imul dX12_mixes_144 ?_
                    refine rz_lload dX12_mixes_145 rfl ?_
                    refine rz_l2i dX12_mixes_147 ?_
                    refine rz_iadd dX12_mixes_148 ?_
                    refine rz_istore dX12_mixes_149 (by decide) rfl ?_
                    refine rz_aload_n dX12_mixes_151 rfl ?_
                    refine rz_getR dX12_mixes_152 kf_RX12_126 hd_81 rfl rr_81_57 ?_
                    refine rz_iload dX12_mixes_155 rfl ?_
                    refine rz_iconst dX12_mixes_157 ?_
                    refine rz_iadd dX12_mixes_158 ?_
                    refine rz_laldN (k := (60 * v.toNat + (i.toNat + 2 * k + 1))) (z := (J 120 (60 * v.toNat + (i.toNat + 2 * k + 1)))) dX12_mixes_159 hd_120 (by decide) (by omega) (by omega) rfl ?_
                    refine rz_l2i dX12_mixes_160 ?_
                    refine rz_iconst dX12_mixes_161 ?_
                    refine rz_bipush dX12_mixes_162 (by decide) ?_
                    refine rz_cSIq dX12_mixes_164 kl_RX12_140 (c_X12_in X _ sk.1 J (J 120 (60 * v.toNat + (i.toNat + 2 * k + 1))) 1 9 e1 (by decide) (by decide)) rfl rfl (Nat.le_of_ble_eq_true rfl) (Nat.le_of_ble_eq_true rfl) ?_
                    rintro z164 A164 B164 ⟨⟨rfl, b164⟩ | ⟨rfl, b164⟩, rfl, rfl⟩
                    · refine rz_if_eq (t := 187) dX12_mixes_167 rfl (by omega) (fun q => absurd q (by decide)) (fun _ => ?_)
                      refine rz_aload_n dX12_mixes_170 rfl ?_
                      refine rz_aload_n dX12_mixes_171 rfl ?_
                      refine rz_getR dX12_mixes_172 kf_RX12_126 hd_81 rfl rr_81_57 ?_
                      refine rz_iload dX12_mixes_175 rfl ?_
                      refine rz_laldN (k := (60 * v.toNat + (i.toNat + 2 * k))) (z := (J 120 (60 * v.toNat + (i.toNat + 2 * k)))) dX12_mixes_177 hd_120 (by decide) (by omega) (by omega) rfl ?_
                      refine rz_l2i dX12_mixes_178 ?_
                      refine rz_iload dX12_mixes_179 rfl ?_
                      refine rz_cVIq dX12_mixes_181 kl_RX12_169 hd_81 ⟨_, _, rfl⟩ (c_X12_reads X _ sk.1 J n ⟨by rw [qf.1 81 (by decide) (by decide) (by decide) (by decide)]; exact hn.1, hn.2⟩ (J 120 (60 * v.toNat + (i.toNat + 2 * k))) 1 (by omega) (by omega) (by show 0 ≤ sk.1 85 1 ∧ sk.1 85 1 ≤ 9; rw [qf.1 85 (by decide) (by decide) (by decide) (by decide)]; exact hl)) rfl rfl (Nat.le_of_ble_eq_true rfl) (Nat.le_of_ble_eq_true rfl) ?_
                      rintro z181 _ _ ⟨g181, rfl, rfl, ⟨rfl, b181, k181⟩ | ⟨rfl, b181⟩⟩
                      · refine rz_if_ne (t := 190) dX12_mixes_184 rfl (by omega) (fun _ => ?_) (fun q => absurd q (by decide))
                        refine rz_aload_n dX12_mixes_190 rfl ?_
                        refine rz_iload dX12_mixes_191 rfl ?_
                        refine rz_aload_n dX12_mixes_193 rfl ?_
                        refine rz_getR dX12_mixes_194 kf_RX12_126 hd_81 rfl rr_81_57 ?_
                        refine rz_iload dX12_mixes_197 rfl ?_
                        refine rz_iconst dX12_mixes_199 ?_
                        refine rz_iadd dX12_mixes_200 ?_
                        refine rz_laldN (k := (60 * v.toNat + (i.toNat + 2 * k + 1))) (z := (J 120 (60 * v.toNat + (i.toNat + 2 * k + 1)))) dX12_mixes_201 hd_120 (by decide) (by omega) (by omega) rfl ?_
                        refine rz_l2i dX12_mixes_202 ?_
                        refine rz_cVI dX12_mixes_203 kl_RX12_173 hd_81 ⟨_, _, rfl⟩ (c_X12_addMix X _ (upA sk.1 93 g181) J 1 (J 120 (60 * v.toNat + (i.toNat + 2 * k + 1))) (by decide) (by show 0 ≤ sk.1 86 1 ∧ sk.1 86 1 ≤ 7; rw [qm.1.1]; omega) (by show 0 ≤ sk.1 81 1 ∧ sk.1 81 1 ≤ 5; rw [qf.1 81 (by decide) (by decide) (by decide) (by decide)]; omega) (by intro x hx; show 0 ≤ g181 x ∧ g181 x ≤ 9; rw [k181 x (by have q : (x : Int) < sk.1 81 1 := hx; rw [qf.1 81 (by decide) (by decide) (by decide) (by decide)] at q; omega)]; exact dgt_bd _ _ _)) rfl rfl (Nat.le_of_ble_eq_true rfl) (Nat.le_of_ble_eq_true rfl) ?_
                        refine rz_pop dX12_mixes_206 rfl ?_
                        refine rz_iinc (ls' := [some (.ref 81), some (zi v), some (zi i), some (zi bn), some (zi (bn % 10)), some (zi 1), some (zi ((k : Int) + 1)), some (zl (i + (2 * (k : Int)))), none, some (zi ((60 * v) + (i + (2 * (k : Int)))))]) dX12_mixes_207 (by decide) rfl rfl rfl ?_
                        refine rz_goto (t := 87) dX12_mixes_210 rfl ?_
                        have hadd := addR_mix1 (I := sk.1) (g := g181) (w := (J 120 (60 * v.toNat + (i.toNat + 2 * k + 1)))) ⟨by rw [qf.1 81 (by decide) (by decide) (by decide) (by decide)]; exact hn.1, hn.2⟩ qm qo (by have q : ((sk.2.1 : Nat) : Int) ≠ 8 := c135; omega) b164 k181
                        exact rz_bk (ihk ((addR (upA sk.1 93 g181) 1 (J 120 (60 * v.toNat + (i.toNat + 2 * k + 1))), (mAdd n sk.2 (J 120 (60 * v.toNat + (i.toNat + 2 * k))) (J 120 (60 * v.toNat + (i.toNat + 2 * k + 1)))))) (⟨hadd.1, hadd.2.1, qf.trans hadd.2.2, Or.inr (by omega), qs.trans (mxsS_y hk ⟨⟨by omega, by omega⟩, b164, (by have q := b181; rw [show sk.1 85 (1 : Int).toNat = I 85 1 from congrFun (qf.1 85 (by decide) (by decide) (by decide) (by decide)) 1] at q; exact q), by have q : ((sk.2.1 : Nat) : Int) ≠ 8 := c135; omega⟩)⟩)) ⟨Or.inr rfl, Or.inr rfl, Or.inr rfl, Or.inr rfl, Or.inr rfl, Or.inr rfl, Or.inr rfl, Or.inl rfl, Or.inl rfl, Or.inl rfl, trivial⟩ (rfl) (rfl)
                      · refine rz_if_ne (t := 190) dX12_mixes_184 rfl (by omega) (fun q => absurd q (by decide)) (fun _ => ?_)
                        refine rz_iload dX12_mixes_187 rfl ?_
                        refine rz_iret dX12_mixes_189 rfl ?_
                        have hnk : ¬ okE (fun j => J 120 (60 * v.toNat + j)) (I 119 v.toNat) i n (I 85 1) sk.2 k := fun q => by
                          have q1 := q.1
                          have q2 := q.2.1
                          have q3 := q.2.2.2
                          first
                          | omega
                          | (have := lcZ_lt.mp c108; omega)
                          | (have q4 : ¬ lcZ (i + 2 * (k : Int) + 1) (I 119 v.toNat) < 0 := by omega
                             exact q4 (lcZ_lt.mpr q1.2))
                          | exact b164 q2
                          | (have q5 := q.2.2.1; have q6 := b181; rw [show sk.1 85 (1 : Int).toNat = I 85 1 from congrFun (qf.1 85 (by decide) (by decide) (by decide) (by decide)) 1] at q6; exact q6 q5)
                        rw [mxsS_n hk hnk] at qs
                        have hZ : mxsZ (fun j => J 120 (60 * v.toNat + j)) (I 118 v.toNat) (I 119 v.toNat) n (I 85) m0 m1 v i bn = ((((mxsS (fun j => J 120 (60 * v.toNat + j)) (I 119 v.toNat) i n (I 85 1) (bn % 10).toNat 0 m1)).1 : Nat) : Int) := by rw [mxsZ, if_pos hV, hc, if_neg (by decide), if_neg (by decide), hB]; rfl
                        exact ⟨_, rfl, by rw [hZ, qs], ⟨by rw [mxsM_n (fun q => by omega)]; exact (mix93 qo), by rw [mxsM_y hV hc hB]; show MixR _ _ ((mxsS (fun j => J 120 (60 * v.toNat + j)) (I 119 v.toNat) i n (I 85 1) (bn % 10).toNat 0 m1)).2; rw [qs]; exact (mix93 qm)⟩, (qf.trans MfR_93), rfl⟩
                    · refine rz_if_eq (t := 187) dX12_mixes_167 rfl (by omega) (fun _ => ?_) (fun q => absurd q (by decide))
                      refine rz_iload dX12_mixes_187 rfl ?_
                      refine rz_iret dX12_mixes_189 rfl ?_
                      have hnk : ¬ okE (fun j => J 120 (60 * v.toNat + j)) (I 119 v.toNat) i n (I 85 1) sk.2 k := fun q => by
                        have q1 := q.1
                        have q2 := q.2.1
                        have q3 := q.2.2.2
                        first
                        | omega
                        | (have := lcZ_lt.mp c108; omega)
                        | (have q4 : ¬ lcZ (i + 2 * (k : Int) + 1) (I 119 v.toNat) < 0 := by omega
                           exact q4 (lcZ_lt.mpr q1.2))
                        | exact b164 q2
                        | (have q5 := q.2.2.1; have q6 := b181; rw [show sk.1 85 (1 : Int).toNat = I 85 1 from congrFun (qf.1 85 (by decide) (by decide) (by decide) (by decide)) 1] at q6; exact q6 q5)
                      rw [mxsS_n hk hnk] at qs
                      have hZ : mxsZ (fun j => J 120 (60 * v.toNat + j)) (I 118 v.toNat) (I 119 v.toNat) n (I 85) m0 m1 v i bn = ((((mxsS (fun j => J 120 (60 * v.toNat + j)) (I 119 v.toNat) i n (I 85 1) (bn % 10).toNat 0 m1)).1 : Nat) : Int) := by rw [mxsZ, if_pos hV, hc, if_neg (by decide), if_neg (by decide), hB]; rfl
                      exact ⟨_, rfl, by rw [hZ, qs], ⟨by rw [mxsM_n (fun q => by omega)]; exact qo, by rw [mxsM_y hV hc hB]; show MixR _ _ ((mxsS (fun j => J 120 (60 * v.toNat + j)) (I 119 v.toNat) i n (I 85 1) (bn % 10).toNat 0 m1)).2; rw [qs]; exact qm⟩, qf, rfl⟩
                  · refine rz_iload dX12_mixes_138 rfl ?_
                    refine rz_iret dX12_mixes_140 rfl ?_
                    have hnk : ¬ okE (fun j => J 120 (60 * v.toNat + j)) (I 119 v.toNat) i n (I 85 1) sk.2 k := fun q => by
                      have q1 := q.1
                      have q2 := q.2.1
                      have q3 := q.2.2.2
                      first
                      | omega
                      | (have := lcZ_lt.mp c108; omega)
                      | (have q4 : ¬ lcZ (i + 2 * (k : Int) + 1) (I 119 v.toNat) < 0 := by omega
                         exact q4 (lcZ_lt.mpr q1.2))
                      | exact b164 q2
                      | (have q5 := q.2.2.1; have q6 := b181; rw [show sk.1 85 (1 : Int).toNat = I 85 1 from congrFun (qf.1 85 (by decide) (by decide) (by decide) (by decide)) 1] at q6; exact q6 q5)
                    rw [mxsS_n hk hnk] at qs
                    have hZ : mxsZ (fun j => J 120 (60 * v.toNat + j)) (I 118 v.toNat) (I 119 v.toNat) n (I 85) m0 m1 v i bn = ((((mxsS (fun j => J 120 (60 * v.toNat + j)) (I 119 v.toNat) i n (I 85 1) (bn % 10).toNat 0 m1)).1 : Nat) : Int) := by rw [mxsZ, if_pos hV, hc, if_neg (by decide), if_neg (by decide), hB]; rfl
                    exact ⟨_, rfl, by rw [hZ, qs], ⟨by rw [mxsM_n (fun q => by omega)]; exact qo, by rw [mxsM_y hV hc hB]; show MixR _ _ ((mxsS (fun j => J 120 (60 * v.toNat + j)) (I 119 v.toNat) i n (I 85 1) (bn % 10).toNat 0 m1)).2; rw [qs]; exact qm⟩, qf, rfl⟩
          · intro sk qk
            obtain ⟨qm, qo, qf, qi, qs⟩ := qk
            refine rz_iload dX12_mixes_87 rfl ?_
            refine rz_iload dX12_mixes_89 rfl ?_
            refine rz_icmp_ge (t := 213) dX12_mixes_91 rfl (by omega) (by omega) (fun c91 => ?_) (fun c91 => ?_)
            · refine rz_iload dX12_mixes_213 rfl ?_
              refine rz_iret dX12_mixes_215 rfl ?_
              rw [mxsS_e] at qs
              have hZ : mxsZ (fun j => J 120 (60 * v.toNat + j)) (I 118 v.toNat) (I 119 v.toNat) n (I 85) m0 m1 v i bn = ((((mxsS (fun j => J 120 (60 * v.toNat + j)) (I 119 v.toNat) i n (I 85 1) (bn % 10).toNat 0 m1)).1 : Nat) : Int) := by rw [mxsZ, if_pos hV, hc, if_neg (by decide), if_neg (by decide), hB]; rfl
              exact ⟨_, rfl, by rw [hZ, qs]; show bn % 10 = (((bn % 10).toNat : Nat) : Int); omega, ⟨by rw [mxsM_n (fun q => by omega)]; exact qo, by rw [mxsM_y hV hc hB]; show MixR _ _ ((mxsS (fun j => J 120 (60 * v.toNat + j)) (I 119 v.toNat) i n (I 85 1) (bn % 10).toNat 0 m1)).2; rw [qs]; exact qm⟩, qf, rfl⟩
            · exfalso; omega
        · exfalso; omega
      · exfalso; omega
  · exfalso; omega
theorem c_X12_mixes {X : pX} {I J : IM} {h : Nat} (n : Nat) (hn : I 81 1 = n ∧ n ≤ 5) (m0 m1 : Mx) (hm0 : MixR I 0 m0) (hm1 : MixR I 1 m1) (hl : ∀ b : Nat, b < 2 → 0 ≤ I 85 b ∧ I 85 b ≤ 9) (v i bn : Int) (hvr : rg v) (hi : rg i) (hbn : rg bn) (hS : ShR I) (hE : ∀ k : Nat, k < 6 → I 118 k = -4 → ∀ j, j < 60 → rg (J 120 (60 * k + j))) : KIq X (h + 3) mX12_mixes [.ref 81, zi v, zi i, zi bn] I J (fun z A B => z = mxsZ (fun j => J 120 (60 * v.toNat + j)) (I 118 v.toNat) (I 119 v.toNat) n (I 85) m0 m1 v i bn ∧ (MixR A 0 (mxsM (fun j => J 120 (60 * v.toNat + j)) (I 118 v.toNat) (I 119 v.toNat) n (I 85) m0 m1 v i bn 0) ∧ MixR A 1 (mxsM (fun j => J 120 (60 * v.toNat + j)) (I 118 v.toNat) (I 119 v.toNat) n (I 85) m0 m1 v i bn 1)) ∧ MfR I A ∧ J = B) := by
  by_cases hV : mxsV v bn
  · have hV2 := id hV
    obtain ⟨hv, hb1, hb2, hb3, hb4⟩ := hV2
    by_cases c0 : (I 118 v.toNat) = -1
    · exact mixes_r0 n hn m0 m1 hm0 hm1 v i bn hi hbn hV c0
    · by_cases c4 : (I 118 v.toNat) = -4
      · by_cases e : bn / 10 = 0
        · exact mixes_ri0 n hn m0 m1 hm0 hm1 (hl 0 (by decide)) v i bn hi hbn hV (by omega) hS c4 (hE v.toNat (by omega) c4)
        · exact mixes_ri1 n hn m0 m1 hm0 hm1 (hl 1 (by decide)) v i bn hi hbn hV (by omega) hS c4 (hE v.toNat (by omega) c4)
      · exact mixes_r1 n hn m0 m1 hm0 hm1 v i bn hi hbn hV hS ⟨c0, c4⟩
  · exact mixes_rn n hn m0 m1 hm0 hm1 v i bn hvr hi hbn hV
