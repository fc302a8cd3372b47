/-! the mixes grow: pure -/
def mAdd (n : Nat) (m : Mx) (p w : Int) : Mx := (m.1 + 1, up1 m.2.1 m.1 w, fun i v => if i = m.1 then (dgt n p v).toNat else m.2.2 i v)
def mxU (n : Nat) (m : Mx) (p L w : Int) : Mx := if ¬ (0 ≤ w ∧ w ≤ 9) then m else if w = 0 then (0, m.2.1, m.2.2) else if ¬ okP n p L then m else if m.1 = 8 then m else mAdd n m p w
abbrev okE (E : Nat → Int) (len i : Int) (n : Nat) (L : Int) (m : Mx) (k : Nat) : Prop := (0 ≤ i ∧ i + 2 * (k : Int) + 1 < len) ∧ (1 ≤ E (i.toNat + 2 * k + 1) ∧ E (i.toNat + 2 * k + 1) ≤ 9) ∧ okP n (E (i.toNat + 2 * k)) L ∧ m.1 < 8
def mxsS (E : Nat → Int) (len i : Int) (n : Nat) (L : Int) : Nat → Nat → Mx → Nat × Mx
  | 0, k, m => (k, m)
  | f + 1, k, m => if okE E len i n L m k then mxsS E len i n L f (k + 1) (mAdd n m (E (i.toNat + 2 * k)) (E (i.toNat + 2 * k + 1))) else (k, m)
theorem mxsS_y {E : Nat → Int} {len i : Int} {n cnt k : Nat} {L : Int} {m : Mx} (hk : k < cnt) (h : okE E len i n L m k) : mxsS E len i n L (cnt - k) k m = mxsS E len i n L (cnt - (k + 1)) (k + 1) (mAdd n m (E (i.toNat + 2 * k)) (E (i.toNat + 2 * k + 1))) := by
  rw [show cnt - k = (cnt - (k + 1)) + 1 by omega]
  exact if_pos h
theorem mxsS_n {E : Nat → Int} {len i : Int} {n cnt k : Nat} {L : Int} {m : Mx} (hk : k < cnt) (h : ¬ okE E len i n L m k) : mxsS E len i n L (cnt - k) k m = (k, m) := by
  rw [show cnt - k = (cnt - (k + 1)) + 1 by omega]
  exact if_neg h
theorem mxsS_e {E : Nat → Int} {len i : Int} {n cnt : Nat} {L : Int} {m : Mx} : mxsS E len i n L (cnt - cnt) cnt m = (cnt, m) := by
  rw [Nat.sub_self]; rfl
abbrev mxsV (v bn : Int) : Prop := (0 ≤ v ∧ v ≤ 5) ∧ 1 ≤ bn ∧ bn / 10 ≤ 1 ∧ 1 ≤ bn % 10 ∧ bn % 10 ≤ 8
def mxsZ (E : Nat → Int) (c len : Int) (n : Nat) (Q : Nat → Int) (m0 m1 : Mx) (v i bn : Int) : Int := if mxsV v bn then (if c = -1 then 0 else if c ≠ -4 then -12 else (((mxsS E len i n (Q (bn / 10).toNat) (bn % 10).toNat 0 (mB m0 m1 (bn / 10).toNat)).1 : Nat) : Int)) else -1
def mxsM (E : Nat → Int) (c len : Int) (n : Nat) (Q : Nat → Int) (m0 m1 : Mx) (v i bn : Int) (b : Nat) : Mx := if mxsV v bn ∧ c = -4 ∧ (bn / 10).toNat = b then (mxsS E len i n (Q b) (bn % 10).toNat 0 (mB m0 m1 b)).2 else mB m0 m1 b
def shC (I : IM) (v : Int) : Int := if I (67 + 2 * v.toNat) 0 = 0 then -1 else if I (67 + 2 * v.toNat) 0 = 2 then -2 - I (67 + 2 * v.toNat) 2 else 0
theorem mxsM_n {E : Nat → Int} {c len : Int} {n : Nat} {Q : Nat → Int} {m0 m1 : Mx} {v i bn : Int} {b : Nat} (h : ¬ (mxsV v bn ∧ c = -4 ∧ (bn / 10).toNat = b)) : mxsM E c len n Q m0 m1 v i bn b = mB m0 m1 b := if_neg h
theorem mxsM_y {E : Nat → Int} {c len : Int} {n : Nat} {Q : Nat → Int} {m0 m1 : Mx} {v i bn : Int} {b : Nat} (h : mxsV v bn) (hc : c = -4) (hb : (bn / 10).toNat = b) : mxsM E c len n Q m0 m1 v i bn b = (mxsS E len i n (Q b) (bn % 10).toNat 0 (mB m0 m1 b)).2 := if_pos ⟨h, hc, hb⟩
theorem dg9 {n v : Nat} {p : Int} : (((dgt n p v).toNat : Nat) : Int) = dgt n p v ∧ (dgt n p v).toNat ≤ 9 := by have := dgt_bd n p v; omega
abbrev MfC (I A : IM) (o : Nat) : Prop := ∀ a, a ≠ o → a ≠ o + 1 → a ≠ o + 2 → a ≠ 79 → A a = I a
theorem addC_fr {I : IM} {o : Nat} {g : Nat → Int} {w : Int} : MfC I (addC (upA I 79 g) o w) o := fun a h1 h2 h3 h4 => by simp [addC, upA, h1, h2, h3, h4]
theorem mix79 {I : IM} {o : Nat} {m : Mx} {g : Nat → Int} (ho : o ≠ 79 ∧ o + 1 ≠ 79 ∧ o + 2 ≠ 79) (h : MixC I o m) : MixC (upA I 79 g) o m := MixC_of (by unfold upA; rw [if_neg ho.1]) (by unfold upA; rw [if_neg ho.2.1]) (by unfold upA; rw [if_neg ho.2.2]) h
theorem fr79 {I : IM} {o : Nat} {g : Nat → Int} : MfC I (upA I 79 g) o := fun a h1 h2 h3 h4 => by unfold upA; rw [if_neg h4]
theorem addC_mix14 {I : IM} {m : Mx} {n : Nat} {p w : Int} {g : Nat → Int} (h : MixC I 14 m) (h8 : m.1 < 8) (hw : 1 ≤ w ∧ w ≤ 9) (hg : ∀ v, v < 5 → g v = dgt n p v) : MixC (addC (upA I 79 g) 14 w) 14 (mAdd n m p w) := by
  have h0 := h.1.1
  refine ⟨⟨?_, ?_⟩, fun i hi => ?_⟩
  · show up1 (I 14) 0 (I 14 0 + 1) 0 = _
    rw [up1_self, h0]; rfl
  · show m.1 + 1 ≤ 8
    omega
  · have hi' : i < m.1 + 1 := hi
    by_cases e : i = m.1
    · subst e
      refine ⟨⟨?_, ?_⟩, fun v hv => ⟨?_, ?_⟩⟩
      · show up1 (I 15) (I 14 0).toNat w m.1 = up1 m.2.1 m.1 w m.1
        rw [h0, Int.toNat_natCast, up1_self, up1_self]
      · show 1 ≤ up1 m.2.1 m.1 w m.1 ∧ up1 m.2.1 m.1 w m.1 ≤ 9
        rw [up1_self]; exact hw
      · show va_cpy g (I 16) 0 (I 14 0 * 5).toNat 5 (5 * m.1 + v) = (((if m.1 = m.1 then (dgt n p v).toNat else m.2.2 m.1 v) : Nat) : Int)
        rw [if_pos rfl, h0, show ((m.1 : Int) * 5).toNat = 5 * m.1 by omega, pk_cpy_in (by omega) (by omega), show 0 + (5 * m.1 + v - 5 * m.1) = v by omega, hg v hv]
        exact dg9.1.symm
      · show (if m.1 = m.1 then (dgt n p v).toNat else m.2.2 m.1 v) ≤ 9
        rw [if_pos rfl]; exact dg9.2
    · have hlt : i < m.1 := by omega
      refine ⟨⟨?_, ?_⟩, fun v hv => ?_⟩
      · show up1 (I 15) (I 14 0).toNat w i = up1 m.2.1 m.1 w i
        rw [h0, Int.toNat_natCast, up1_ne e, up1_ne e]; exact (h.2 i hlt).1.1
      · show 1 ≤ up1 m.2.1 m.1 w i ∧ up1 m.2.1 m.1 w i ≤ 9
        rw [up1_ne e]; exact (h.2 i hlt).1.2
      · show va_cpy g (I 16) 0 (I 14 0 * 5).toNat 5 (5 * i + v) = (((if i = m.1 then (dgt n p v).toNat else m.2.2 i v) : Nat) : Int) ∧ (if i = m.1 then (dgt n p v).toNat else m.2.2 i v) ≤ 9
        rw [if_neg e, pk_cpy_out (by rw [h0]; omega)]; exact (h.2 i hlt).2 v hv
theorem addC_mix17 {I : IM} {m : Mx} {n : Nat} {p w : Int} {g : Nat → Int} (h : MixC I 17 m) (h8 : m.1 < 8) (hw : 1 ≤ w ∧ w ≤ 9) (hg : ∀ v, v < 5 → g v = dgt n p v) : MixC (addC (upA I 79 g) 17 w) 17 (mAdd n m p w) := by
  have h0 := h.1.1
  refine ⟨⟨?_, ?_⟩, fun i hi => ?_⟩
  · show up1 (I 17) 0 (I 17 0 + 1) 0 = _
    rw [up1_self, h0]; rfl
  · show m.1 + 1 ≤ 8
    omega
  · have hi' : i < m.1 + 1 := hi
    by_cases e : i = m.1
    · subst e
      refine ⟨⟨?_, ?_⟩, fun v hv => ⟨?_, ?_⟩⟩
      · show up1 (I 18) (I 17 0).toNat w m.1 = up1 m.2.1 m.1 w m.1
        rw [h0, Int.toNat_natCast, up1_self, up1_self]
      · show 1 ≤ up1 m.2.1 m.1 w m.1 ∧ up1 m.2.1 m.1 w m.1 ≤ 9
        rw [up1_self]; exact hw
      · show va_cpy g (I 19) 0 (I 17 0 * 5).toNat 5 (5 * m.1 + v) = (((if m.1 = m.1 then (dgt n p v).toNat else m.2.2 m.1 v) : Nat) : Int)
        rw [if_pos rfl, h0, show ((m.1 : Int) * 5).toNat = 5 * m.1 by omega, pk_cpy_in (by omega) (by omega), show 0 + (5 * m.1 + v - 5 * m.1) = v by omega, hg v hv]
        exact dg9.1.symm
      · show (if m.1 = m.1 then (dgt n p v).toNat else m.2.2 m.1 v) ≤ 9
        rw [if_pos rfl]; exact dg9.2
    · have hlt : i < m.1 := by omega
      refine ⟨⟨?_, ?_⟩, fun v hv => ?_⟩
      · show up1 (I 18) (I 17 0).toNat w i = up1 m.2.1 m.1 w i
        rw [h0, Int.toNat_natCast, up1_ne e, up1_ne e]; exact (h.2 i hlt).1.1
      · show 1 ≤ up1 m.2.1 m.1 w i ∧ up1 m.2.1 m.1 w i ≤ 9
        rw [up1_ne e]; exact (h.2 i hlt).1.2
      · show va_cpy g (I 19) 0 (I 17 0 * 5).toNat 5 (5 * i + v) = (((if i = m.1 then (dgt n p v).toNat else m.2.2 i v) : Nat) : Int) ∧ (if i = m.1 then (dgt n p v).toNat else m.2.2 i v) ≤ 9
        rw [if_neg e, pk_cpy_out (by rw [h0]; omega)]; exact (h.2 i hlt).2 v hv
theorem c_mixU14 {X : pX} {I J : IM} {h : Nat} (n : Nat) (hn : I 6 0 = n ∧ n ≤ 5) (m : Mx) (hm : MixC I 14 m) (p w : Int) (hp : rg p) (hw : rg w) (hl : 0 ≤ I 10 0 ∧ I 10 0 ≤ 9) : KIq X (h + 2) mX11_mix [.ref 0, zi 0, zi p, zi w] I J (fun z A B => z = mixZ (m.1 : Int) n p (I 10 0) 0 w ∧ (MixC A 14 (mxU n m p (I 10 0) w) ∧ MfC I A 14) ∧ J = B) := by
  have h0 := hm.1.1
  have h08 := hm.1.2
  refine KIq.mono (c_mix14 X h I J n hn p w hp hw hl (by omega)) ?_
  rintro z A B ⟨rfl, ⟨g, hg, rfl⟩, rfl⟩
  refine ⟨by rw [h0], ?_, rfl⟩
  have hm79 : MixC (upA I 79 g) 14 m := mix79 (by decide) hm
  unfold mixC mxU
  by_cases c1 : 0 ≤ w ∧ w ≤ 9
  · rw [if_neg (show ¬ ¬ ((0 ≤ (0 : Int) ∧ (0 : Int) ≤ 1) ∧ 0 ≤ w ∧ w ≤ 9) from fun q => q ⟨by decide, c1⟩), if_neg (show ¬ ¬ (0 ≤ w ∧ w ≤ 9) from fun q => q c1)]
    by_cases c2 : w = 0
    · rw [if_pos c2, if_pos c2]
      refine ⟨⟨⟨(by show up1 (I 14) 0 0 0 = ((0 : Nat) : Int); exact up1_self), Nat.zero_le 8⟩, fun i hi => absurd hi (Nat.not_lt_zero i)⟩, fun a h1 h2 h3 h4 => by unfold upA; rw [if_neg h1, if_neg h4]⟩
    · rw [if_neg c2, if_neg c2]
      by_cases c3 : okP n p (I 10 0)
      · rw [if_neg (show ¬ ¬ okP n p (I 10 0) from fun q => q c3), if_neg (show ¬ ¬ okP n p (I 10 0) from fun q => q c3)]
        by_cases c4 : m.1 = 8
        · rw [if_pos (show I 14 0 = 8 by omega), if_pos c4]; exact ⟨hm79, fr79⟩
        · rw [if_neg (show ¬ I 14 0 = 8 by omega), if_neg c4]; exact ⟨addC_mix14 hm (by have := hm.1.2; omega) (by omega) (hg ⟨c1, c2, c3⟩), addC_fr⟩
      · rw [if_pos c3, if_pos c3]; exact ⟨hm79, fr79⟩
  · rw [if_pos (show ¬ ((0 ≤ (0 : Int) ∧ (0 : Int) ≤ 1) ∧ 0 ≤ w ∧ w ≤ 9) from fun q => c1 q.2), if_pos c1]; exact ⟨hm79, fr79⟩
theorem c_mixU17 {X : pX} {I J : IM} {h : Nat} (n : Nat) (hn : I 6 0 = n ∧ n ≤ 5) (m : Mx) (hm : MixC I 17 m) (p w : Int) (hp : rg p) (hw : rg w) (hl : 0 ≤ I 10 1 ∧ I 10 1 ≤ 9) : KIq X (h + 2) mX11_mix [.ref 0, zi 1, zi p, zi w] I J (fun z A B => z = mixZ (m.1 : Int) n p (I 10 1) 1 w ∧ (MixC A 17 (mxU n m p (I 10 1) w) ∧ MfC I A 17) ∧ J = B) := by
  have h0 := hm.1.1
  have h08 := hm.1.2
  refine KIq.mono (c_mix17 X h I J n hn p w hp hw hl (by omega)) ?_
  rintro z A B ⟨rfl, ⟨g, hg, rfl⟩, rfl⟩
  refine ⟨by rw [h0], ?_, rfl⟩
  have hm79 : MixC (upA I 79 g) 17 m := mix79 (by decide) hm
  unfold mixC mxU
  by_cases c1 : 0 ≤ w ∧ w ≤ 9
  · rw [if_neg (show ¬ ¬ ((0 ≤ (1 : Int) ∧ (1 : Int) ≤ 1) ∧ 0 ≤ w ∧ w ≤ 9) from fun q => q ⟨by decide, c1⟩), if_neg (show ¬ ¬ (0 ≤ w ∧ w ≤ 9) from fun q => q c1)]
    by_cases c2 : w = 0
    · rw [if_pos c2, if_pos c2]
      refine ⟨⟨⟨(by show up1 (I 17) 0 0 0 = ((0 : Nat) : Int); exact up1_self), Nat.zero_le 8⟩, fun i hi => absurd hi (Nat.not_lt_zero i)⟩, fun a h1 h2 h3 h4 => by unfold upA; rw [if_neg h1, if_neg h4]⟩
    · rw [if_neg c2, if_neg c2]
      by_cases c3 : okP n p (I 10 1)
      · rw [if_neg (show ¬ ¬ okP n p (I 10 1) from fun q => q c3), if_neg (show ¬ ¬ okP n p (I 10 1) from fun q => q c3)]
        by_cases c4 : m.1 = 8
        · rw [if_pos (show I 17 0 = 8 by omega), if_pos c4]; exact ⟨hm79, fr79⟩
        · rw [if_neg (show ¬ I 17 0 = 8 by omega), if_neg c4]; exact ⟨addC_mix17 hm (by have := hm.1.2; omega) (by omega) (hg ⟨c1, c2, c3⟩), addC_fr⟩
      · rw [if_pos c3, if_pos c3]; exact ⟨hm79, fr79⟩
  · rw [if_pos (show ¬ ((0 ≤ (1 : Int) ∧ (1 : Int) ≤ 1) ∧ 0 ≤ w ∧ w ≤ 9) from fun q => c1 q.2), if_pos c1]; exact ⟨hm79, fr79⟩
set_option maxRecDepth 20000 in
set_option maxHeartbeats 400000 in
theorem mix_cn {X : pX} {I J : IM} {h : Nat} {m : Int} {n : Nat} {L : Int} (b p w : Int) (hb : rg b) (hp : rg p) (hw : rg w) (h01 : b ≠ 0 ∧ b ≠ 1) : KIq X (h + 2) mX11_mix [.ref 0, zi b, zi p, zi w] I J (fun z A B => z = mixZ m n p L b w ∧ I = A ∧ J = B) := by
  show Rz X (h + 2) mX11_mix 0 [some (.ref 0), some (zi b), some (zi p), some (zi w), none] [] I J _
  refine rz_iload_n dX11_mix_0 rfl ?_
  refine rz_cSIq dX11_mix_1 kl_RX11_112 (c_X11_isBaker X _ I J b (by omega)) rfl rfl (Nat.le_of_ble_eq_true rfl) (Nat.le_of_ble_eq_true rfl) ?_
  rintro z1 A1 B1 ⟨⟨rfl, b1⟩ | ⟨rfl, b1⟩, rfl, rfl⟩
  · exfalso; omega
  · refine rz_if_eq (t := 17) dX11_mix_4 rfl (by omega) (fun _ => ?_) (fun q => absurd q (by decide))
    refine rz_iconst dX11_mix_17 ?_
    refine rz_iret dX11_mix_18 rfl ?_
    exact ⟨_, rfl, (if_pos (by omega)).symm, rfl, rfl⟩
set_option maxRecDepth 20000 in
set_option maxHeartbeats 400000 in
theorem c_addFrom0 {X : pX} {I J : IM} {h : Nat} (n : Nat) (hn : I 6 0 = n ∧ n ≤ 5) (m : Mx) (hm : MixC I 14 m) (L : Int) (hL : I 10 0 = L ∧ 0 ≤ L ∧ L ≤ 9) (v : Int) (hv : 0 ≤ v ∧ v ≤ 5) (len : Int) (hlen : I (67 + 2 * v.toNat) 3 = len ∧ 0 ≤ len ∧ len ≤ 60) (hE : ∀ j, j < 60 → rg (J (68 + 2 * v.toNat) j)) (i : Int) (hi : rg i) (k : Nat) (hk : k < 8) : KIq X (h + 2) mX11_addFromRow [.ref 0, .ref (67 + 2 * v.toNat), zi i, zi (k : Int), zi 0] I J (fun z A B => (((z = 1 ∧ okE (J (68 + 2 * v.toNat)) len i n L m k ∧ MixC A 14 (mAdd n m (J (68 + 2 * v.toNat) (i.toNat + 2 * k)) (J (68 + 2 * v.toNat) (i.toNat + 2 * k + 1)))) ∨ (z = 0 ∧ ¬ okE (J (68 + 2 * v.toNat)) len i n L m k ∧ MixC A 14 m)) ∧ MfC I A 14) ∧ J = B) := by
  obtain ⟨rfl, hL9⟩ := hL
  have hl : 0 ≤ I 10 0 ∧ I 10 0 ≤ 9 := hL9
  have h0 := hm.1.1
  have h88 := hm.1.2
  show Rz X (h + 2) mX11_addFromRow 0 [some (.ref 0), some (.ref (67 + 2 * v.toNat)), some (zi i), some (zi (k : Int)), some (zi 0), none, none, none] [] I J _
  refine rz_iload_n dX11_addFromRow_0 rfl ?_
  refine rz_if_lt (t := 12) dX11_addFromRow_1 rfl (by omega) (fun c1 => ?_) (fun c1 => ?_)
  · refine rz_iconst dX11_addFromRow_12 ?_
    refine rz_zret dX11_addFromRow_13 rfl (by decide) ?_
    exact ⟨_, rfl, ⟨Or.inr ⟨rfl, fun q => by have q1 := q.1; have q2 := q.2.1; first | omega | (have := lcZ_lt.mp c49; omega) | (have := lcZ_gt.mp c58; omega), hm⟩, fun _ _ _ _ _ => rfl⟩, rfl⟩
  · refine rz_iload_n dX11_addFromRow_4 rfl ?_
    refine rz_aload_n dX11_addFromRow_5 rfl ?_
    refine rz_getI (z := len) dX11_addFromRow_6 kf_RX11_166 (hd_sh (by omega)) rfl (hlen.1) ?_
    refine rz_icmp_lt (t := 14) dX11_addFromRow_9 rfl (by omega) (by omega) (fun c9 => ?_) (fun c9 => ?_)
    · refine rz_iload_n dX11_addFromRow_14 rfl ?_
      refine rz_iconst dX11_addFromRow_15 ?_
      refine rz_iload_n dX11_addFromRow_16 rfl ?_
      refine rz_imul dX11_addFromRow_17 ?_
      refine rz_iadd dX11_addFromRow_18 ?_
      refine rz_istore dX11_addFromRow_19 (by decide) rfl ?_
      refine rz_iload dX11_addFromRow_21 rfl ?_
      refine rz_iconst dX11_addFromRow_23 ?_
      refine rz_iadd dX11_addFromRow_24 ?_
      refine rz_aload_n dX11_addFromRow_25 rfl ?_
      refine rz_getI (z := len) dX11_addFromRow_26 kf_RX11_166 (hd_sh (by omega)) rfl (hlen.1) ?_
      refine rz_icmp_lt (t := 34) dX11_addFromRow_29 rfl (by omega) (by omega) (fun c29 => ?_) (fun c29 => ?_)
      · refine rz_aload_n dX11_addFromRow_34 rfl ?_
        refine rz_getR dX11_addFromRow_35 kf_RX11_169 (hd_sh (by omega)) rfl (rr_el (by omega)) ?_
        refine rz_iload dX11_addFromRow_38 rfl ?_
        refine rz_iconst dX11_addFromRow_40 ?_
        refine rz_iadd dX11_addFromRow_41 ?_
        refine rz_laldN (k := (i.toNat + 2 * k + 1)) (z := (J (68 + 2 * v.toNat) (i.toNat + 2 * k + 1))) dX11_addFromRow_42 (hd_el (by omega)) (by decide) (by omega) (by omega) rfl ?_
        refine rz_lstore dX11_addFromRow_43 (by decide) rfl ?_
        refine rz_lload dX11_addFromRow_45 rfl ?_
        refine rz_lconst (x := 1) dX11_addFromRow_47 rfl ?_
        refine rz_lcmp dX11_addFromRow_48 (by have := hE (i.toNat + 2 * k + 1) (by omega); omega) (by decide) ?_
        refine rz_if_lt (t := 61) dX11_addFromRow_49 rfl (lcZ_rg _ _) (fun c49 => ?_) (fun c49 => ?_)
        · refine rz_iconst dX11_addFromRow_61 ?_
          refine rz_zret dX11_addFromRow_62 rfl (by decide) ?_
          exact ⟨_, rfl, ⟨Or.inr ⟨rfl, fun q => by have q1 := q.1; have q2 := q.2.1; first | omega | (have := lcZ_lt.mp c49; omega) | (have := lcZ_gt.mp c58; omega), hm⟩, fun _ _ _ _ _ => rfl⟩, rfl⟩
        · refine rz_lload dX11_addFromRow_52 rfl ?_
          refine rz_ldc2 (x := 9) dX11_addFromRow_54 kk_RX11_173 (by decide) ?_
          refine rz_lcmp dX11_addFromRow_57 (by have := hE (i.toNat + 2 * k + 1) (by omega); omega) (by decide) ?_
          refine rz_if_le (t := 63) dX11_addFromRow_58 rfl (lcZ_rg _ _) (fun c58 => ?_) (fun c58 => ?_)
          · have hp81 := hE (i.toNat + 2 * k) (by omega)
            have w49 : ¬ (J (68 + 2 * v.toNat) (i.toNat + 2 * k + 1)) < 1 := fun q => by have := lcZ_lt.mpr q; omega
            have w58 : ¬ 9 < (J (68 + 2 * v.toNat) (i.toNat + 2 * k + 1)) := fun q => by have := lcZ_gt.mpr q; omega
            refine rz_aload_n dX11_addFromRow_63 rfl ?_
            refine rz_getR dX11_addFromRow_64 kf_RX11_21 hd_0 rfl rr_0_1 ?_
            refine rz_aload_n dX11_addFromRow_67 rfl ?_
            refine rz_getR dX11_addFromRow_68 kf_RX11_169 (hd_sh (by omega)) rfl (rr_el (by omega)) ?_
            refine rz_iload dX11_addFromRow_71 rfl ?_
            refine rz_laldN (k := (i.toNat + 2 * k)) (z := (J (68 + 2 * v.toNat) (i.toNat + 2 * k))) dX11_addFromRow_73 (hd_el (by omega)) (by decide) (by omega) (by omega) rfl ?_
            refine rz_l2i dX11_addFromRow_74 ?_
            refine rz_iload dX11_addFromRow_75 rfl ?_
            refine rz_aload_n dX11_addFromRow_77 rfl ?_
            refine rz_getR dX11_addFromRow_78 kf_RX11_81 hd_0 rfl rr_0_11 ?_
            refine rz_cVIq dX11_addFromRow_81 kl_RX11_145 hd_6 ⟨_, _, rfl⟩ (c_X8_read79 X _ I J n hn (J (68 + 2 * v.toNat) (i.toNat + 2 * k)) 0 (by omega) (by omega) hl) rfl rfl (Nat.le_of_ble_eq_true rfl) (Nat.le_of_ble_eq_true rfl) ?_
            rintro z81 _ _ ⟨g81, rfl, rfl, ⟨rfl, b81, k81⟩ | ⟨rfl, b81⟩⟩
            · refine rz_if_eq (t := 111) dX11_addFromRow_84 rfl (by omega) (fun q => absurd q (by decide)) (fun _ => ?_)
              refine rz_aload_n dX11_addFromRow_87 rfl ?_
              refine rz_getR dX11_addFromRow_88 kf_RX11_28 hd_0 rfl rr_0_2 ?_
              refine rz_iload dX11_addFromRow_91 rfl ?_
              refine rz_aald (by decide) dX11_addFromRow_93 hd_13 (by decide) (by decide) rr_13_0 ?_
              refine rz_aload_n dX11_addFromRow_94 rfl ?_
              refine rz_getR dX11_addFromRow_95 kf_RX11_81 hd_0 rfl rr_0_11 ?_
              refine rz_lload dX11_addFromRow_98 rfl ?_
              refine rz_l2i dX11_addFromRow_100 ?_
              refine rz_cVIq dX11_addFromRow_101 kl_RX11_149 hd_14 ⟨_, _, rfl⟩ (c_add14 X _ (upA I 79 g81) J (J (68 + 2 * v.toNat) (i.toNat + 2 * k + 1)) (by show 0 ≤ I 14 0 ∧ I 14 0 ≤ 8; omega)) rfl rfl (Nat.le_of_ble_eq_true rfl) (Nat.le_of_ble_eq_true rfl) ?_
              rintro z101 A101 _ ⟨⟨rfl, b101, rfl⟩ | ⟨rfl, b101, rfl⟩, rfl⟩
              · refine rz_if_eq (t := 111) dX11_addFromRow_104 rfl (by omega) (fun q => absurd q (by decide)) (fun _ => ?_)
                refine rz_iconst dX11_addFromRow_107 ?_
                refine rz_goto (t := 112) dX11_addFromRow_108 rfl ?_
                refine rz_zret dX11_addFromRow_112 rfl (by decide) ?_
                exact ⟨_, rfl, ⟨Or.inl ⟨rfl, ⟨⟨by omega, by omega⟩, ⟨by omega, by omega⟩, b81, by have q : I 14 0 ≠ 8 := b101; omega⟩, addC_mix14 hm (by have q : I 14 0 ≠ 8 := b101; omega) ⟨by omega, by omega⟩ k81⟩, addC_fr⟩, rfl⟩
              · refine rz_if_eq (t := 111) dX11_addFromRow_104 rfl (by omega) (fun _ => ?_) (fun q => absurd q (by decide))
                refine rz_iconst dX11_addFromRow_111 ?_
                refine rz_zret dX11_addFromRow_112 rfl (by decide) ?_
                exact ⟨_, rfl, ⟨Or.inr ⟨rfl, fun q => by first | exact b81 q.2.2.1 | (have q1 : I 14 0 = 8 := b101; have q2 := q.2.2.2; omega), mix79 (by decide) hm⟩, fr79⟩, rfl⟩
            · refine rz_if_eq (t := 111) dX11_addFromRow_84 rfl (by omega) (fun _ => ?_) (fun q => absurd q (by decide))
              refine rz_iconst dX11_addFromRow_111 ?_
              refine rz_zret dX11_addFromRow_112 rfl (by decide) ?_
              exact ⟨_, rfl, ⟨Or.inr ⟨rfl, fun q => by first | exact b81 q.2.2.1 | (have q1 : I 14 0 = 8 := b101; have q2 := q.2.2.2; omega), mix79 (by decide) hm⟩, fr79⟩, rfl⟩
          · refine rz_iconst dX11_addFromRow_61 ?_
            refine rz_zret dX11_addFromRow_62 rfl (by decide) ?_
            exact ⟨_, rfl, ⟨Or.inr ⟨rfl, fun q => by have q1 := q.1; have q2 := q.2.1; first | omega | (have := lcZ_lt.mp c49; omega) | (have := lcZ_gt.mp c58; omega), hm⟩, fun _ _ _ _ _ => rfl⟩, rfl⟩
      · refine rz_iconst dX11_addFromRow_32 ?_
        refine rz_zret dX11_addFromRow_33 rfl (by decide) ?_
        exact ⟨_, rfl, ⟨Or.inr ⟨rfl, fun q => by have q1 := q.1; have q2 := q.2.1; first | omega | (have := lcZ_lt.mp c49; omega) | (have := lcZ_gt.mp c58; omega), hm⟩, fun _ _ _ _ _ => rfl⟩, rfl⟩
    · refine rz_iconst dX11_addFromRow_12 ?_
      refine rz_zret dX11_addFromRow_13 rfl (by decide) ?_
      exact ⟨_, rfl, ⟨Or.inr ⟨rfl, fun q => by have q1 := q.1; have q2 := q.2.1; first | omega | (have := lcZ_lt.mp c49; omega) | (have := lcZ_gt.mp c58; omega), hm⟩, fun _ _ _ _ _ => rfl⟩, rfl⟩
theorem mxsN0 {I : IM} {E : Nat → Int} {c len : Int} {n : Nat} {Q : Nat → Int} {m0 m1 : Mx} {v i bn : Int} (_ : mxsV v bn) (hc : c ≠ -4) (h : MixC I 14 m0) : MixC I 14 (mxsM E c len n Q m0 m1 v i bn 0) := by rw [mxsM_n (fun q => hc q.2.1)]; exact h
theorem mxsN1 {I : IM} {E : Nat → Int} {c len : Int} {n : Nat} {Q : Nat → Int} {m0 m1 : Mx} {v i bn : Int} (_ : mxsV v bn) (hc : c ≠ -4) (h : MixC I 17 m1) : MixC I 17 (mxsM E c len n Q m0 m1 v i bn 1) := by rw [mxsM_n (fun q => hc q.2.1)]; exact h
set_option maxRecDepth 20000 in
set_option maxHeartbeats 400000 in
theorem mixes_c0 {X : pX} {I J : IM} {h : Nat} (n : Nat) (hn : I 6 0 = n ∧ n ≤ 5) (m0 m1 : Mx) (hm0 : MixC I 14 m0) (hm1 : MixC I 17 m1) (hl : 0 ≤ I 10 0 ∧ I 10 0 ≤ 9) (v i bn : Int) (hi : rg i) (hbn : rg bn) (hV : mxsV v bn) (hB : (bn / 10).toNat = 0) (hS : ((0 ≤ I (67 + 2 * v.toNat) 0 ∧ I (67 + 2 * v.toNat) 0 ≤ 2) ∧ 0 ≤ I (67 + 2 * v.toNat) 3 ∧ I (67 + 2 * v.toNat) 3 ≤ 60) ∧ 0 ≤ I (67 + 2 * v.toNat) 2 ∧ I (67 + 2 * v.toNat) 2 ≤ 4) (hE0 : I (67 + 2 * v.toNat) 0 = 2 → I (67 + 2 * v.toNat) 2 = 2 → ∀ j, j < 60 → rg (J (68 + 2 * v.toNat) j)) : KIq X (h + 3) mX11_mixes [.ref 0, zi v, zi i, zi bn] I J (fun z A B => z = mxsZ (J (68 + 2 * v.toNat)) (shC I v) (I (67 + 2 * v.toNat) 3) n (I 10) m0 m1 v i bn ∧ (MixC A 14 (mxsM (J (68 + 2 * v.toNat)) (shC I v) (I (67 + 2 * v.toNat) 3) n (I 10) m0 m1 v i bn 0) ∧ MixC A 17 (mxsM (J (68 + 2 * v.toNat)) (shC I v) (I (67 + 2 * v.toNat) 3) n (I 10) m0 m1 v i bn 1)) ∧ (∀ a, (a < 14 ∨ 19 < a) → a ≠ 79 → A a = I a) ∧ J = B) := by
  obtain ⟨hv, hb1, hb2, hb3, hb4⟩ := id hV
  show Rz X (h + 3) mX11_mixes 0 [some (.ref 0), some (zi v), some (zi i), some (zi bn), none, none, none, none] [] I J _
  refine rz_iload_n dX11_mixes_0 rfl ?_
  refine rz_cSIq dX11_mixes_1 kl_RX11_153 (c_X11_isShelf X _ I J v (by omega)) rfl rfl (Nat.le_of_ble_eq_true rfl) (Nat.le_of_ble_eq_true rfl) ?_
  rintro z1 A1 B1 ⟨⟨rfl, b1⟩ | ⟨rfl, b1⟩, rfl, rfl⟩
  · refine rz_if_eq (t := 39) dX11_mixes_4 rfl (by omega) (fun q => absurd q (by decide)) (fun _ => ?_)
    refine rz_iload_n dX11_mixes_7 rfl ?_
    refine rz_iconst dX11_mixes_8 ?_
    refine rz_icmp_lt (t := 39) dX11_mixes_9 rfl (by omega) (by omega) (fun c9 => ?_) (fun c9 => ?_)
    · exfalso; omega
    · refine rz_iload_n dX11_mixes_12 rfl ?_
      refine rz_bipush dX11_mixes_13 (by decide) ?_
      refine rz_idiv dX11_mixes_15 (by omega) (by omega) ?_
      refine rz_cSIq dX11_mixes_16 kl_RX11_112 (c_X11_isBaker X _ I J (bn / 10) (by omega)) rfl rfl (Nat.le_of_ble_eq_true rfl) (Nat.le_of_ble_eq_true rfl) ?_
      rintro z16 A16 B16 ⟨⟨rfl, b16⟩ | ⟨rfl, b16⟩, rfl, rfl⟩
      · refine rz_if_eq (t := 39) dX11_mixes_19 rfl (by omega) (fun q => absurd q (by decide)) (fun _ => ?_)
        refine rz_iload_n dX11_mixes_22 rfl ?_
        refine rz_bipush dX11_mixes_23 (by decide) ?_
        refine rz_irem dX11_mixes_25 (by omega) (by omega) ?_
        refine rz_iconst dX11_mixes_26 ?_
        refine rz_icmp_lt (t := 39) dX11_mixes_27 rfl (by omega) (by omega) (fun c27 => ?_) (fun c27 => ?_)
        · exfalso; omega
        · refine rz_iload_n dX11_mixes_30 rfl ?_
          refine rz_bipush dX11_mixes_31 (by decide) ?_
          refine rz_irem dX11_mixes_33 (by omega) (by omega) ?_
          refine rz_bipush dX11_mixes_34 (by decide) ?_
          refine rz_icmp_le (t := 41) dX11_mixes_36 rfl (by omega) (by omega) (fun c36 => ?_) (fun c36 => ?_)
          · refine rz_aload_n dX11_mixes_41 rfl ?_
            refine rz_getR dX11_mixes_42 kf_RX11_76 hd_0 rfl rr_0_10 ?_
            refine rz_iload_n dX11_mixes_45 rfl ?_
            refine rz_aald (by decide) dX11_mixes_46 hd_66 (by decide) (by omega) (rr_sh (by omega)) ?_
            refine rz_astore dX11_mixes_47 (by decide) rfl ?_
            refine rz_aload dX11_mixes_49 rfl ?_
            refine rz_getI (z := (I (67 + 2 * v.toNat) 0)) dX11_mixes_51 kf_RX11_156 (hd_sh (by omega)) rfl rfl ?_
            refine rz_if_ne (t := 59) dX11_mixes_54 rfl (by omega) (fun c54 => ?_) (fun c54 => ?_)
            · refine rz_aload dX11_mixes_59 rfl ?_
              refine rz_getI (z := (I (67 + 2 * v.toNat) 0)) dX11_mixes_61 kf_RX11_156 (hd_sh (by omega)) rfl rfl ?_
              refine rz_iconst dX11_mixes_64 ?_
              refine rz_icmp_ne (t := 77) dX11_mixes_65 rfl (by omega) (by omega) (fun c65 => ?_) (fun c65 => ?_)
              · refine rz_bipush dX11_mixes_77 (by decide) ?_
                refine rz_iret dX11_mixes_79 rfl ?_
                have hc : shC I v ≠ -1 ∧ shC I v ≠ -4 := by unfold shC; (repeat' split) <;> omega
                exact ⟨_, rfl, by rw [mxsZ, if_pos hV, if_neg hc.1, if_pos hc.2], ⟨mxsN0 hV hc.2 hm0, mxsN1 hV hc.2 hm1⟩, fun _ _ _ => rfl, rfl⟩
              · refine rz_aload dX11_mixes_68 rfl ?_
                refine rz_getI (z := (I (67 + 2 * v.toNat) 2)) dX11_mixes_70 kf_RX11_159 (hd_sh (by omega)) rfl rfl ?_
                refine rz_iconst dX11_mixes_73 ?_
                refine rz_icmp_eq (t := 80) dX11_mixes_74 rfl (by omega) (by omega) (fun c74 => ?_) (fun c74 => ?_)
                · have hE := hE0 (by omega) (by omega)
                  refine rz_iload_n dX11_mixes_80 rfl ?_
                  refine rz_bipush dX11_mixes_81 (by decide) ?_
                  refine rz_idiv dX11_mixes_83 (by omega) (by omega) ?_
                  refine rz_ieq (y := 0) (by omega) ?_
                  refine rz_istore dX11_mixes_84 (by decide) rfl ?_
                  refine rz_iconst dX11_mixes_86 ?_
                  refine rz_istore (ls' := [some (.ref 0), some (zi v), some (zi i), some (zi bn), some (.ref (67 + 2 * v.toNat)), some (zi 0), some (zi 0), none]) dX11_mixes_87 (by decide) rfl ?_
                  refine rz_iconst dX11_mixes_89 ?_
                  refine rz_istore dX11_mixes_90 (by decide) rfl ?_
                  refine rz_upx (σ := IM × Mx) (Inv := fun k sk => MixC sk.1 14 sk.2 ∧ MfC I sk.1 14 ∧ (mxsS (J (68 + 2 * v.toNat)) (I (67 + 2 * v.toNat) 3) i n (I 10 0) (bn % 10).toNat 0 m0) = (mxsS (J (68 + 2 * v.toNat)) (I (67 + 2 * v.toNat) 3) i n (I 10 0) ((bn % 10).toNat - k) k sk.2)) (ls := fun (k : Nat) sk => [some (.ref 0), some (zi v), some (zi i), some (zi bn), some (.ref (67 + 2 * v.toNat)), some (zi 0), some (zi (k : Int)), some (zi (k : Int))]) (IV := fun (k : Nat) sk => sk.1) (JV := fun (k : Nat) sk => J) ((bn % 10).toNat) ((I, m0)) ⟨hm0, fun _ _ _ _ _ => rfl, by rw [Nat.sub_zero]⟩ ⟨Or.inr rfl, Or.inr rfl, Or.inr rfl, Or.inr rfl, Or.inr rfl, Or.inr rfl, Or.inr rfl, Or.inr rfl, trivial⟩ (rfl) (rfl) ?_ ?_
                  · intro k sk hk qk ihk
                    obtain ⟨qm, qf, qs⟩ := qk
                    refine rz_iload dX11_mixes_92 rfl ?_
                    refine rz_iload_n dX11_mixes_94 rfl ?_
                    refine rz_bipush dX11_mixes_95 (by decide) ?_
                    refine rz_irem dX11_mixes_97 (by omega) (by omega) ?_
                    refine rz_icmp_ge (t := 124) dX11_mixes_98 rfl (by omega) (by omega) (fun c98 => ?_) (fun c98 => ?_)
                    · exfalso; omega
                    · refine rz_aload_n dX11_mixes_101 rfl ?_
                      refine rz_aload dX11_mixes_102 rfl ?_
                      refine rz_iload_n dX11_mixes_104 rfl ?_
                      refine rz_iload dX11_mixes_105 rfl ?_
                      refine rz_iload dX11_mixes_107 rfl ?_
                      refine rz_cVIq dX11_mixes_109 kl_RX11_162 hd_0 ⟨_, _, rfl⟩ (c_addFrom0 (I := sk.1) n ⟨by rw [qf 6 (by decide) (by decide) (by decide) (by decide)]; exact hn.1, hn.2⟩ sk.2 qm (I 10 0) ⟨by rw [qf 10 (by decide) (by decide) (by decide) (by decide)], hl⟩ v hv (I (67 + 2 * v.toNat) 3) ⟨by rw [qf (67 + 2 * v.toNat) (by omega) (by omega) (by omega) (by omega)], hS.1.2⟩ hE i hi k (by omega)) rfl rfl (Nat.le_of_ble_eq_true rfl) (Nat.le_of_ble_eq_true rfl) ?_
                      rintro z109 A109 _ ⟨⟨⟨rfl, b109, m109⟩ | ⟨rfl, b109, m109⟩, f109⟩, rfl⟩
                      · refine rz_if_eq (t := 124) dX11_mixes_112 rfl (by omega) (fun q => absurd q (by decide)) (fun _ => ?_)
                        refine rz_iinc dX11_mixes_115 (by decide) rfl rfl rfl ?_
                        refine rz_iinc dX11_mixes_118 (by decide) rfl rfl rfl ?_
                        refine rz_goto (t := 92) dX11_mixes_121 rfl ?_
                        exact rz_bk (ihk ((A109, mAdd n sk.2 (J (68 + 2 * v.toNat) (i.toNat + 2 * k)) (J (68 + 2 * v.toNat) (i.toNat + 2 * k + 1)))) (⟨m109, fun a h1 h2 h3 h4 => (f109 a h1 h2 h3 h4).trans (qf a h1 h2 h3 h4), qs.trans (mxsS_y hk b109)⟩)) ⟨Or.inr rfl, Or.inr rfl, Or.inr rfl, Or.inr rfl, Or.inr rfl, Or.inr rfl, Or.inr rfl, Or.inr rfl, trivial⟩ (rfl) (rfl)
                      · refine rz_if_eq (t := 124) dX11_mixes_112 rfl (by omega) (fun _ => ?_) (fun q => absurd q (by decide))
                        refine rz_iload dX11_mixes_124 rfl ?_
                        refine rz_iret dX11_mixes_126 rfl ?_
                        have hc : shC I v = -4 := by unfold shC; rw [if_neg c54, if_pos (by omega)]; omega
                        rw [mxsS_n hk b109] at qs
                        have qf2 : MfC I A109 14 := fun a h1 h2 h3 h4 => (f109 a h1 h2 h3 h4).trans (qf a h1 h2 h3 h4)
                        have hZ : mxsZ (J (68 + 2 * v.toNat)) (shC I v) (I (67 + 2 * v.toNat) 3) n (I 10) m0 m1 v i bn = ((((mxsS (J (68 + 2 * v.toNat)) (I (67 + 2 * v.toNat) 3) i n (I 10 0) (bn % 10).toNat 0 m0)).1 : Nat) : Int) := by rw [mxsZ, if_pos hV, hc, if_neg (by decide), if_neg (by decide), hB]; rfl
                        exact ⟨_, rfl, by rw [hZ, qs], ⟨by rw [mxsM_y hV hc hB]; show MixC _ _ ((mxsS (J (68 + 2 * v.toNat)) (I (67 + 2 * v.toNat) 3) i n (I 10 0) (bn % 10).toNat 0 m0)).2; rw [qs]; exact m109, by rw [mxsM_n (fun q => by omega)]; exact MixC_of (qf2 17 (by decide) (by decide) (by decide) (by decide)) (qf2 18 (by decide) (by decide) (by decide) (by decide)) (qf2 19 (by decide) (by decide) (by decide) (by decide)) hm1⟩, fun a h1 h2 => qf2 a (by omega) (by omega) (by omega) h2, rfl⟩
                  · intro sk qk
                    obtain ⟨qm, qf, qs⟩ := qk
                    refine rz_iload dX11_mixes_92 rfl ?_
                    refine rz_iload_n dX11_mixes_94 rfl ?_
                    refine rz_bipush dX11_mixes_95 (by decide) ?_
                    refine rz_irem dX11_mixes_97 (by omega) (by omega) ?_
                    refine rz_icmp_ge (t := 124) dX11_mixes_98 rfl (by omega) (by omega) (fun c98 => ?_) (fun c98 => ?_)
                    · refine rz_iload dX11_mixes_124 rfl ?_
                      refine rz_iret dX11_mixes_126 rfl ?_
                      have hc : shC I v = -4 := by unfold shC; rw [if_neg c54, if_pos (by omega)]; omega
                      rw [mxsS_e] at qs
                      have hZ : mxsZ (J (68 + 2 * v.toNat)) (shC I v) (I (67 + 2 * v.toNat) 3) n (I 10) m0 m1 v i bn = ((((mxsS (J (68 + 2 * v.toNat)) (I (67 + 2 * v.toNat) 3) i n (I 10 0) (bn % 10).toNat 0 m0)).1 : Nat) : Int) := by rw [mxsZ, if_pos hV, hc, if_neg (by decide), if_neg (by decide), hB]; rfl
                      exact ⟨_, rfl, by rw [hZ, qs], ⟨by rw [mxsM_y hV hc hB]; show MixC _ _ ((mxsS (J (68 + 2 * v.toNat)) (I (67 + 2 * v.toNat) 3) i n (I 10 0) (bn % 10).toNat 0 m0)).2; rw [qs]; exact qm, by rw [mxsM_n (fun q => by omega)]; exact MixC_of (qf 17 (by decide) (by decide) (by decide) (by decide)) (qf 18 (by decide) (by decide) (by decide) (by decide)) (qf 19 (by decide) (by decide) (by decide) (by decide)) hm1⟩, fun a h1 h2 => qf a (by omega) (by omega) (by omega) h2, rfl⟩
                    · exfalso; omega
                · refine rz_bipush dX11_mixes_77 (by decide) ?_
                  refine rz_iret dX11_mixes_79 rfl ?_
                  have hc : shC I v ≠ -1 ∧ shC I v ≠ -4 := by unfold shC; (repeat' split) <;> omega
                  exact ⟨_, rfl, by rw [mxsZ, if_pos hV, if_neg hc.1, if_pos hc.2], ⟨mxsN0 hV hc.2 hm0, mxsN1 hV hc.2 hm1⟩, fun _ _ _ => rfl, rfl⟩
            · refine rz_iconst dX11_mixes_57 ?_
              refine rz_iret dX11_mixes_58 rfl ?_
              have hc : shC I v = -1 := by unfold shC; rw [if_pos c54]
              exact ⟨_, rfl, by rw [mxsZ, if_pos hV, if_pos hc], ⟨mxsN0 hV (by rw [hc]; decide) hm0, mxsN1 hV (by rw [hc]; decide) hm1⟩, fun _ _ _ => rfl, rfl⟩
          · exfalso; omega
      · exfalso; omega
  · exfalso; omega
set_option maxRecDepth 20000 in
set_option maxHeartbeats 400000 in
theorem c_addFrom1 {X : pX} {I J : IM} {h : Nat} (n : Nat) (hn : I 6 0 = n ∧ n ≤ 5) (m : Mx) (hm : MixC I 17 m) (L : Int) (hL : I 10 1 = L ∧ 0 ≤ L ∧ L ≤ 9) (v : Int) (hv : 0 ≤ v ∧ v ≤ 5) (len : Int) (hlen : I (67 + 2 * v.toNat) 3 = len ∧ 0 ≤ len ∧ len ≤ 60) (hE : ∀ j, j < 60 → rg (J (68 + 2 * v.toNat) j)) (i : Int) (hi : rg i) (k : Nat) (hk : k < 8) : KIq X (h + 2) mX11_addFromRow [.ref 0, .ref (67 + 2 * v.toNat), zi i, zi (k : Int), zi 1] I J (fun z A B => (((z = 1 ∧ okE (J (68 + 2 * v.toNat)) len i n L m k ∧ MixC A 17 (mAdd n m (J (68 + 2 * v.toNat) (i.toNat + 2 * k)) (J (68 + 2 * v.toNat) (i.toNat + 2 * k + 1)))) ∨ (z = 0 ∧ ¬ okE (J (68 + 2 * v.toNat)) len i n L m k ∧ MixC A 17 m)) ∧ MfC I A 17) ∧ J = B) := by
  obtain ⟨rfl, hL9⟩ := hL
  have hl : 0 ≤ I 10 1 ∧ I 10 1 ≤ 9 := hL9
  have h0 := hm.1.1
  have h88 := hm.1.2
  show Rz X (h + 2) mX11_addFromRow 0 [some (.ref 0), some (.ref (67 + 2 * v.toNat)), some (zi i), some (zi (k : Int)), some (zi 1), none, none, none] [] I J _
  refine rz_iload_n dX11_addFromRow_0 rfl ?_
  refine rz_if_lt (t := 12) dX11_addFromRow_1 rfl (by omega) (fun c1 => ?_) (fun c1 => ?_)
  · refine rz_iconst dX11_addFromRow_12 ?_
    refine rz_zret dX11_addFromRow_13 rfl (by decide) ?_
    exact ⟨_, rfl, ⟨Or.inr ⟨rfl, fun q => by have q1 := q.1; have q2 := q.2.1; first | omega | (have := lcZ_lt.mp c49; omega) | (have := lcZ_gt.mp c58; omega), hm⟩, fun _ _ _ _ _ => rfl⟩, rfl⟩
  · refine rz_iload_n dX11_addFromRow_4 rfl ?_
    refine rz_aload_n dX11_addFromRow_5 rfl ?_
    refine rz_getI (z := len) dX11_addFromRow_6 kf_RX11_166 (hd_sh (by omega)) rfl (hlen.1) ?_
    refine rz_icmp_lt (t := 14) dX11_addFromRow_9 rfl (by omega) (by omega) (fun c9 => ?_) (fun c9 => ?_)
    · refine rz_iload_n dX11_addFromRow_14 rfl ?_
      refine rz_iconst dX11_addFromRow_15 ?_
      refine rz_iload_n dX11_addFromRow_16 rfl ?_
      refine rz_imul dX11_addFromRow_17 ?_
      refine rz_iadd dX11_addFromRow_18 ?_
      refine rz_istore dX11_addFromRow_19 (by decide) rfl ?_
      refine rz_iload dX11_addFromRow_21 rfl ?_
      refine rz_iconst dX11_addFromRow_23 ?_
      refine rz_iadd dX11_addFromRow_24 ?_
      refine rz_aload_n dX11_addFromRow_25 rfl ?_
      refine rz_getI (z := len) dX11_addFromRow_26 kf_RX11_166 (hd_sh (by omega)) rfl (hlen.1) ?_
      refine rz_icmp_lt (t := 34) dX11_addFromRow_29 rfl (by omega) (by omega) (fun c29 => ?_) (fun c29 => ?_)
      · refine rz_aload_n dX11_addFromRow_34 rfl ?_
        refine rz_getR dX11_addFromRow_35 kf_RX11_169 (hd_sh (by omega)) rfl (rr_el (by omega)) ?_
        refine rz_iload dX11_addFromRow_38 rfl ?_
        refine rz_iconst dX11_addFromRow_40 ?_
        refine rz_iadd dX11_addFromRow_41 ?_
        refine rz_laldN (k := (i.toNat + 2 * k + 1)) (z := (J (68 + 2 * v.toNat) (i.toNat + 2 * k + 1))) dX11_addFromRow_42 (hd_el (by omega)) (by decide) (by omega) (by omega) rfl ?_
        refine rz_lstore dX11_addFromRow_43 (by decide) rfl ?_
        refine rz_lload dX11_addFromRow_45 rfl ?_
        refine rz_lconst (x := 1) dX11_addFromRow_47 rfl ?_
        refine rz_lcmp dX11_addFromRow_48 (by have := hE (i.toNat + 2 * k + 1) (by omega); omega) (by decide) ?_
        refine rz_if_lt (t := 61) dX11_addFromRow_49 rfl (lcZ_rg _ _) (fun c49 => ?_) (fun c49 => ?_)
        · refine rz_iconst dX11_addFromRow_61 ?_
          refine rz_zret dX11_addFromRow_62 rfl (by decide) ?_
          exact ⟨_, rfl, ⟨Or.inr ⟨rfl, fun q => by have q1 := q.1; have q2 := q.2.1; first | omega | (have := lcZ_lt.mp c49; omega) | (have := lcZ_gt.mp c58; omega), hm⟩, fun _ _ _ _ _ => rfl⟩, rfl⟩
        · refine rz_lload dX11_addFromRow_52 rfl ?_
          refine rz_ldc2 (x := 9) dX11_addFromRow_54 kk_RX11_173 (by decide) ?_
          refine rz_lcmp dX11_addFromRow_57 (by have := hE (i.toNat + 2 * k + 1) (by omega); omega) (by decide) ?_
          refine rz_if_le (t := 63) dX11_addFromRow_58 rfl (lcZ_rg _ _) (fun c58 => ?_) (fun c58 => ?_)
          · have hp81 := hE (i.toNat + 2 * k) (by omega)
            have w49 : ¬ (J (68 + 2 * v.toNat) (i.toNat + 2 * k + 1)) < 1 := fun q => by have := lcZ_lt.mpr q; omega
            have w58 : ¬ 9 < (J (68 + 2 * v.toNat) (i.toNat + 2 * k + 1)) := fun q => by have := lcZ_gt.mpr q; omega
            refine rz_aload_n dX11_addFromRow_63 rfl ?_
            refine rz_getR dX11_addFromRow_64 kf_RX11_21 hd_0 rfl rr_0_1 ?_
            refine rz_aload_n dX11_addFromRow_67 rfl ?_
            refine rz_getR dX11_addFromRow_68 kf_RX11_169 (hd_sh (by omega)) rfl (rr_el (by omega)) ?_
            refine rz_iload dX11_addFromRow_71 rfl ?_
            refine rz_laldN (k := (i.toNat + 2 * k)) (z := (J (68 + 2 * v.toNat) (i.toNat + 2 * k))) dX11_addFromRow_73 (hd_el (by omega)) (by decide) (by omega) (by omega) rfl ?_
            refine rz_l2i dX11_addFromRow_74 ?_
            refine rz_iload dX11_addFromRow_75 rfl ?_
            refine rz_aload_n dX11_addFromRow_77 rfl ?_
            refine rz_getR dX11_addFromRow_78 kf_RX11_81 hd_0 rfl rr_0_11 ?_
            refine rz_cVIq dX11_addFromRow_81 kl_RX11_145 hd_6 ⟨_, _, rfl⟩ (c_X8_read79 X _ I J n hn (J (68 + 2 * v.toNat) (i.toNat + 2 * k)) 1 (by omega) (by omega) hl) rfl rfl (Nat.le_of_ble_eq_true rfl) (Nat.le_of_ble_eq_true rfl) ?_
            rintro z81 _ _ ⟨g81, rfl, rfl, ⟨rfl, b81, k81⟩ | ⟨rfl, b81⟩⟩
            · refine rz_if_eq (t := 111) dX11_addFromRow_84 rfl (by omega) (fun q => absurd q (by decide)) (fun _ => ?_)
              refine rz_aload_n dX11_addFromRow_87 rfl ?_
              refine rz_getR dX11_addFromRow_88 kf_RX11_28 hd_0 rfl rr_0_2 ?_
              refine rz_iload dX11_addFromRow_91 rfl ?_
              refine rz_aald (by decide) dX11_addFromRow_93 hd_13 (by decide) (by decide) rr_13_1 ?_
              refine rz_aload_n dX11_addFromRow_94 rfl ?_
              refine rz_getR dX11_addFromRow_95 kf_RX11_81 hd_0 rfl rr_0_11 ?_
              refine rz_lload dX11_addFromRow_98 rfl ?_
              refine rz_l2i dX11_addFromRow_100 ?_
              refine rz_cVIq dX11_addFromRow_101 kl_RX11_149 hd_17 ⟨_, _, rfl⟩ (c_add17 X _ (upA I 79 g81) J (J (68 + 2 * v.toNat) (i.toNat + 2 * k + 1)) (by show 0 ≤ I 17 0 ∧ I 17 0 ≤ 8; omega)) rfl rfl (Nat.le_of_ble_eq_true rfl) (Nat.le_of_ble_eq_true rfl) ?_
              rintro z101 A101 _ ⟨⟨rfl, b101, rfl⟩ | ⟨rfl, b101, rfl⟩, rfl⟩
              · refine rz_if_eq (t := 111) dX11_addFromRow_104 rfl (by omega) (fun q => absurd q (by decide)) (fun _ => ?_)
                refine rz_iconst dX11_addFromRow_107 ?_
                refine rz_goto (t := 112) dX11_addFromRow_108 rfl ?_
                refine rz_zret dX11_addFromRow_112 rfl (by decide) ?_
                exact ⟨_, rfl, ⟨Or.inl ⟨rfl, ⟨⟨by omega, by omega⟩, ⟨by omega, by omega⟩, b81, by have q : I 17 0 ≠ 8 := b101; omega⟩, addC_mix17 hm (by have q : I 17 0 ≠ 8 := b101; omega) ⟨by omega, by omega⟩ k81⟩, addC_fr⟩, rfl⟩
              · refine rz_if_eq (t := 111) dX11_addFromRow_104 rfl (by omega) (fun _ => ?_) (fun q => absurd q (by decide))
                refine rz_iconst dX11_addFromRow_111 ?_
                refine rz_zret dX11_addFromRow_112 rfl (by decide) ?_
                exact ⟨_, rfl, ⟨Or.inr ⟨rfl, fun q => by first | exact b81 q.2.2.1 | (have q1 : I 17 0 = 8 := b101; have q2 := q.2.2.2; omega), mix79 (by decide) hm⟩, fr79⟩, rfl⟩
            · refine rz_if_eq (t := 111) dX11_addFromRow_84 rfl (by omega) (fun _ => ?_) (fun q => absurd q (by decide))
              refine rz_iconst dX11_addFromRow_111 ?_
              refine rz_zret dX11_addFromRow_112 rfl (by decide) ?_
              exact ⟨_, rfl, ⟨Or.inr ⟨rfl, fun q => by first | exact b81 q.2.2.1 | (have q1 : I 17 0 = 8 := b101; have q2 := q.2.2.2; omega), mix79 (by decide) hm⟩, fr79⟩, rfl⟩
          · refine rz_iconst dX11_addFromRow_61 ?_
            refine rz_zret dX11_addFromRow_62 rfl (by decide) ?_
            exact ⟨_, rfl, ⟨Or.inr ⟨rfl, fun q => by have q1 := q.1; have q2 := q.2.1; first | omega | (have := lcZ_lt.mp c49; omega) | (have := lcZ_gt.mp c58; omega), hm⟩, fun _ _ _ _ _ => rfl⟩, rfl⟩
      · refine rz_iconst dX11_addFromRow_32 ?_
        refine rz_zret dX11_addFromRow_33 rfl (by decide) ?_
        exact ⟨_, rfl, ⟨Or.inr ⟨rfl, fun q => by have q1 := q.1; have q2 := q.2.1; first | omega | (have := lcZ_lt.mp c49; omega) | (have := lcZ_gt.mp c58; omega), hm⟩, fun _ _ _ _ _ => rfl⟩, rfl⟩
    · refine rz_iconst dX11_addFromRow_12 ?_
      refine rz_zret dX11_addFromRow_13 rfl (by decide) ?_
      exact ⟨_, rfl, ⟨Or.inr ⟨rfl, fun q => by have q1 := q.1; have q2 := q.2.1; first | omega | (have := lcZ_lt.mp c49; omega) | (have := lcZ_gt.mp c58; omega), hm⟩, fun _ _ _ _ _ => rfl⟩, rfl⟩
set_option maxRecDepth 20000 in
set_option maxHeartbeats 400000 in
theorem mixes_c1 {X : pX} {I J : IM} {h : Nat} (n : Nat) (hn : I 6 0 = n ∧ n ≤ 5) (m0 m1 : Mx) (hm0 : MixC I 14 m0) (hm1 : MixC I 17 m1) (hl : 0 ≤ I 10 1 ∧ I 10 1 ≤ 9) (v i bn : Int) (hi : rg i) (hbn : rg bn) (hV : mxsV v bn) (hB : (bn / 10).toNat = 1) (hS : ((0 ≤ I (67 + 2 * v.toNat) 0 ∧ I (67 + 2 * v.toNat) 0 ≤ 2) ∧ 0 ≤ I (67 + 2 * v.toNat) 3 ∧ I (67 + 2 * v.toNat) 3 ≤ 60) ∧ 0 ≤ I (67 + 2 * v.toNat) 2 ∧ I (67 + 2 * v.toNat) 2 ≤ 4) (hE0 : I (67 + 2 * v.toNat) 0 = 2 → I (67 + 2 * v.toNat) 2 = 2 → ∀ j, j < 60 → rg (J (68 + 2 * v.toNat) j)) : KIq X (h + 3) mX11_mixes [.ref 0, zi v, zi i, zi bn] I J (fun z A B => z = mxsZ (J (68 + 2 * v.toNat)) (shC I v) (I (67 + 2 * v.toNat) 3) n (I 10) m0 m1 v i bn ∧ (MixC A 14 (mxsM (J (68 + 2 * v.toNat)) (shC I v) (I (67 + 2 * v.toNat) 3) n (I 10) m0 m1 v i bn 0) ∧ MixC A 17 (mxsM (J (68 + 2 * v.toNat)) (shC I v) (I (67 + 2 * v.toNat) 3) n (I 10) m0 m1 v i bn 1)) ∧ (∀ a, (a < 14 ∨ 19 < a) → a ≠ 79 → A a = I a) ∧ J = B) := by
  obtain ⟨hv, hb1, hb2, hb3, hb4⟩ := id hV
  show Rz X (h + 3) mX11_mixes 0 [some (.ref 0), some (zi v), some (zi i), some (zi bn), none, none, none, none] [] I J _
  refine rz_iload_n dX11_mixes_0 rfl ?_
  refine rz_cSIq dX11_mixes_1 kl_RX11_153 (c_X11_isShelf X _ I J v (by omega)) rfl rfl (Nat.le_of_ble_eq_true rfl) (Nat.le_of_ble_eq_true rfl) ?_
  rintro z1 A1 B1 ⟨⟨rfl, b1⟩ | ⟨rfl, b1⟩, rfl, rfl⟩
  · refine rz_if_eq (t := 39) dX11_mixes_4 rfl (by omega) (fun q => absurd q (by decide)) (fun _ => ?_)
    refine rz_iload_n dX11_mixes_7 rfl ?_
    refine rz_iconst dX11_mixes_8 ?_
    refine rz_icmp_lt (t := 39) dX11_mixes_9 rfl (by omega) (by omega) (fun c9 => ?_) (fun c9 => ?_)
    · exfalso; omega
    · refine rz_iload_n dX11_mixes_12 rfl ?_
      refine rz_bipush dX11_mixes_13 (by decide) ?_
      refine rz_idiv dX11_mixes_15 (by omega) (by omega) ?_
      refine rz_cSIq dX11_mixes_16 kl_RX11_112 (c_X11_isBaker X _ I J (bn / 10) (by omega)) rfl rfl (Nat.le_of_ble_eq_true rfl) (Nat.le_of_ble_eq_true rfl) ?_
      rintro z16 A16 B16 ⟨⟨rfl, b16⟩ | ⟨rfl, b16⟩, rfl, rfl⟩
      · refine rz_if_eq (t := 39) dX11_mixes_19 rfl (by omega) (fun q => absurd q (by decide)) (fun _ => ?_)
        refine rz_iload_n dX11_mixes_22 rfl ?_
        refine rz_bipush dX11_mixes_23 (by decide) ?_
        refine rz_irem dX11_mixes_25 (by omega) (by omega) ?_
        refine rz_iconst dX11_mixes_26 ?_
        refine rz_icmp_lt (t := 39) dX11_mixes_27 rfl (by omega) (by omega) (fun c27 => ?_) (fun c27 => ?_)
        · exfalso; omega
        · refine rz_iload_n dX11_mixes_30 rfl ?_
          refine rz_bipush dX11_mixes_31 (by decide) ?_
          refine rz_irem dX11_mixes_33 (by omega) (by omega) ?_
          refine rz_bipush dX11_mixes_34 (by decide) ?_
          refine rz_icmp_le (t := 41) dX11_mixes_36 rfl (by omega) (by omega) (fun c36 => ?_) (fun c36 => ?_)
          · refine rz_aload_n dX11_mixes_41 rfl ?_
            refine rz_getR dX11_mixes_42 kf_RX11_76 hd_0 rfl rr_0_10 ?_
            refine rz_iload_n dX11_mixes_45 rfl ?_
            refine rz_aald (by decide) dX11_mixes_46 hd_66 (by decide) (by omega) (rr_sh (by omega)) ?_
            refine rz_astore dX11_mixes_47 (by decide) rfl ?_
            refine rz_aload dX11_mixes_49 rfl ?_
            refine rz_getI (z := (I (67 + 2 * v.toNat) 0)) dX11_mixes_51 kf_RX11_156 (hd_sh (by omega)) rfl rfl ?_
            refine rz_if_ne (t := 59) dX11_mixes_54 rfl (by omega) (fun c54 => ?_) (fun c54 => ?_)
            · refine rz_aload dX11_mixes_59 rfl ?_
              refine rz_getI (z := (I (67 + 2 * v.toNat) 0)) dX11_mixes_61 kf_RX11_156 (hd_sh (by omega)) rfl rfl ?_
              refine rz_iconst dX11_mixes_64 ?_
              refine rz_icmp_ne (t := 77) dX11_mixes_65 rfl (by omega) (by omega) (fun c65 => ?_) (fun c65 => ?_)
              · refine rz_bipush dX11_mixes_77 (by decide) ?_
                refine rz_iret dX11_mixes_79 rfl ?_
                have hc : shC I v ≠ -1 ∧ shC I v ≠ -4 := by unfold shC; (repeat' split) <;> omega
                exact ⟨_, rfl, by rw [mxsZ, if_pos hV, if_neg hc.1, if_pos hc.2], ⟨mxsN0 hV hc.2 hm0, mxsN1 hV hc.2 hm1⟩, fun _ _ _ => rfl, rfl⟩
              · refine rz_aload dX11_mixes_68 rfl ?_
                refine rz_getI (z := (I (67 + 2 * v.toNat) 2)) dX11_mixes_70 kf_RX11_159 (hd_sh (by omega)) rfl rfl ?_
                refine rz_iconst dX11_mixes_73 ?_
                refine rz_icmp_eq (t := 80) dX11_mixes_74 rfl (by omega) (by omega) (fun c74 => ?_) (fun c74 => ?_)
                · have hE := hE0 (by omega) (by omega)
                  refine rz_iload_n dX11_mixes_80 rfl ?_
                  refine rz_bipush dX11_mixes_81 (by decide) ?_
                  refine rz_idiv dX11_mixes_83 (by omega) (by omega) ?_
                  refine rz_ieq (y := 1) (by omega) ?_
                  refine rz_istore dX11_mixes_84 (by decide) rfl ?_
                  refine rz_iconst dX11_mixes_86 ?_
                  refine rz_istore (ls' := [some (.ref 0), some (zi v), some (zi i), some (zi bn), some (.ref (67 + 2 * v.toNat)), some (zi 1), some (zi 0), none]) dX11_mixes_87 (by decide) rfl ?_
                  refine rz_iconst dX11_mixes_89 ?_
                  refine rz_istore dX11_mixes_90 (by decide) rfl ?_
                  refine rz_upx (σ := IM × Mx) (Inv := fun k sk => MixC sk.1 17 sk.2 ∧ MfC I sk.1 17 ∧ (mxsS (J (68 + 2 * v.toNat)) (I (67 + 2 * v.toNat) 3) i n (I 10 1) (bn % 10).toNat 0 m1) = (mxsS (J (68 + 2 * v.toNat)) (I (67 + 2 * v.toNat) 3) i n (I 10 1) ((bn % 10).toNat - k) k sk.2)) (ls := fun (k : Nat) sk => [some (.ref 0), some (zi v), some (zi i), some (zi bn), some (.ref (67 + 2 * v.toNat)), some (zi 1), some (zi (k : Int)), some (zi (k : Int))]) (IV := fun (k : Nat) sk => sk.1) (JV := fun (k : Nat) sk => J) ((bn % 10).toNat) ((I, m1)) ⟨hm1, fun _ _ _ _ _ => rfl, by rw [Nat.sub_zero]⟩ ⟨Or.inr rfl, Or.inr rfl, Or.inr rfl, Or.inr rfl, Or.inr rfl, Or.inr rfl, Or.inr rfl, Or.inr rfl, trivial⟩ (rfl) (rfl) ?_ ?_
                  · intro k sk hk qk ihk
                    obtain ⟨qm, qf, qs⟩ := qk
                    refine rz_iload dX11_mixes_92 rfl ?_
                    refine rz_iload_n dX11_mixes_94 rfl ?_
                    refine rz_bipush dX11_mixes_95 (by decide) ?_
                    refine rz_irem dX11_mixes_97 (by omega) (by omega) ?_
                    refine rz_icmp_ge (t := 124) dX11_mixes_98 rfl (by omega) (by omega) (fun c98 => ?_) (fun c98 => ?_)
                    · exfalso; omega
                    · refine rz_aload_n dX11_mixes_101 rfl ?_
                      refine rz_aload dX11_mixes_102 rfl ?_
                      refine rz_iload_n dX11_mixes_104 rfl ?_
                      refine rz_iload dX11_mixes_105 rfl ?_
                      refine rz_iload dX11_mixes_107 rfl ?_
                      refine rz_cVIq dX11_mixes_109 kl_RX11_162 hd_0 ⟨_, _, rfl⟩ (c_addFrom1 (I := sk.1) n ⟨by rw [qf 6 (by decide) (by decide) (by decide) (by decide)]; exact hn.1, hn.2⟩ sk.2 qm (I 10 1) ⟨by rw [qf 10 (by decide) (by decide) (by decide) (by decide)], hl⟩ v hv (I (67 + 2 * v.toNat) 3) ⟨by rw [qf (67 + 2 * v.toNat) (by omega) (by omega) (by omega) (by omega)], hS.1.2⟩ hE i hi k (by omega)) rfl rfl (Nat.le_of_ble_eq_true rfl) (Nat.le_of_ble_eq_true rfl) ?_
                      rintro z109 A109 _ ⟨⟨⟨rfl, b109, m109⟩ | ⟨rfl, b109, m109⟩, f109⟩, rfl⟩
                      · refine rz_if_eq (t := 124) dX11_mixes_112 rfl (by omega) (fun q => absurd q (by decide)) (fun _ => ?_)
                        refine rz_iinc dX11_mixes_115 (by decide) rfl rfl rfl ?_
                        refine rz_iinc dX11_mixes_118 (by decide) rfl rfl rfl ?_
                        refine rz_goto (t := 92) dX11_mixes_121 rfl ?_
                        exact rz_bk (ihk ((A109, mAdd n sk.2 (J (68 + 2 * v.toNat) (i.toNat + 2 * k)) (J (68 + 2 * v.toNat) (i.toNat + 2 * k + 1)))) (⟨m109, fun a h1 h2 h3 h4 => (f109 a h1 h2 h3 h4).trans (qf a h1 h2 h3 h4), qs.trans (mxsS_y hk b109)⟩)) ⟨Or.inr rfl, Or.inr rfl, Or.inr rfl, Or.inr rfl, Or.inr rfl, Or.inr rfl, Or.inr rfl, Or.inr rfl, trivial⟩ (rfl) (rfl)
                      · refine rz_if_eq (t := 124) dX11_mixes_112 rfl (by omega) (fun _ => ?_) (fun q => absurd q (by decide))
                        refine rz_iload dX11_mixes_124 rfl ?_
                        refine rz_iret dX11_mixes_126 rfl ?_
                        have hc : shC I v = -4 := by unfold shC; rw [if_neg c54, if_pos (by omega)]; omega
                        rw [mxsS_n hk b109] at qs
                        have qf2 : MfC I A109 17 := fun a h1 h2 h3 h4 => (f109 a h1 h2 h3 h4).trans (qf a h1 h2 h3 h4)
                        have hZ : mxsZ (J (68 + 2 * v.toNat)) (shC I v) (I (67 + 2 * v.toNat) 3) n (I 10) m0 m1 v i bn = ((((mxsS (J (68 + 2 * v.toNat)) (I (67 + 2 * v.toNat) 3) i n (I 10 1) (bn % 10).toNat 0 m1)).1 : Nat) : Int) := by rw [mxsZ, if_pos hV, hc, if_neg (by decide), if_neg (by decide), hB]; rfl
                        exact ⟨_, rfl, by rw [hZ, qs], ⟨by rw [mxsM_n (fun q => by omega)]; exact MixC_of (qf2 14 (by decide) (by decide) (by decide) (by decide)) (qf2 15 (by decide) (by decide) (by decide) (by decide)) (qf2 16 (by decide) (by decide) (by decide) (by decide)) hm0, by rw [mxsM_y hV hc hB]; show MixC _ _ ((mxsS (J (68 + 2 * v.toNat)) (I (67 + 2 * v.toNat) 3) i n (I 10 1) (bn % 10).toNat 0 m1)).2; rw [qs]; exact m109⟩, fun a h1 h2 => qf2 a (by omega) (by omega) (by omega) h2, rfl⟩
                  · intro sk qk
                    obtain ⟨qm, qf, qs⟩ := qk
                    refine rz_iload dX11_mixes_92 rfl ?_
                    refine rz_iload_n dX11_mixes_94 rfl ?_
                    refine rz_bipush dX11_mixes_95 (by decide) ?_
                    refine rz_irem dX11_mixes_97 (by omega) (by omega) ?_
                    refine rz_icmp_ge (t := 124) dX11_mixes_98 rfl (by omega) (by omega) (fun c98 => ?_) (fun c98 => ?_)
                    · refine rz_iload dX11_mixes_124 rfl ?_
                      refine rz_iret dX11_mixes_126 rfl ?_
                      have hc : shC I v = -4 := by unfold shC; rw [if_neg c54, if_pos (by omega)]; omega
                      rw [mxsS_e] at qs
                      have hZ : mxsZ (J (68 + 2 * v.toNat)) (shC I v) (I (67 + 2 * v.toNat) 3) n (I 10) m0 m1 v i bn = ((((mxsS (J (68 + 2 * v.toNat)) (I (67 + 2 * v.toNat) 3) i n (I 10 1) (bn % 10).toNat 0 m1)).1 : Nat) : Int) := by rw [mxsZ, if_pos hV, hc, if_neg (by decide), if_neg (by decide), hB]; rfl
                      exact ⟨_, rfl, by rw [hZ, qs], ⟨by rw [mxsM_n (fun q => by omega)]; exact MixC_of (qf 14 (by decide) (by decide) (by decide) (by decide)) (qf 15 (by decide) (by decide) (by decide) (by decide)) (qf 16 (by decide) (by decide) (by decide) (by decide)) hm0, by rw [mxsM_y hV hc hB]; show MixC _ _ ((mxsS (J (68 + 2 * v.toNat)) (I (67 + 2 * v.toNat) 3) i n (I 10 1) (bn % 10).toNat 0 m1)).2; rw [qs]; exact qm⟩, fun a h1 h2 => qf a (by omega) (by omega) (by omega) h2, rfl⟩
                    · exfalso; omega
                · refine rz_bipush dX11_mixes_77 (by decide) ?_
                  refine rz_iret dX11_mixes_79 rfl ?_
                  have hc : shC I v ≠ -1 ∧ shC I v ≠ -4 := by unfold shC; (repeat' split) <;> omega
                  exact ⟨_, rfl, by rw [mxsZ, if_pos hV, if_neg hc.1, if_pos hc.2], ⟨mxsN0 hV hc.2 hm0, mxsN1 hV hc.2 hm1⟩, fun _ _ _ => rfl, rfl⟩
            · refine rz_iconst dX11_mixes_57 ?_
              refine rz_iret dX11_mixes_58 rfl ?_
              have hc : shC I v = -1 := by unfold shC; rw [if_pos c54]
              exact ⟨_, rfl, by rw [mxsZ, if_pos hV, if_pos hc], ⟨mxsN0 hV (by rw [hc]; decide) hm0, mxsN1 hV (by rw [hc]; decide) hm1⟩, fun _ _ _ => rfl, rfl⟩
          · exfalso; omega
      · exfalso; omega
  · exfalso; omega
