/-! mixes, what so many loaves gain against one -/
abbrev Mx : Type := Nat × (Nat → Int) × (Nat → Nat → Nat)
def lnN (m : Mx) : Nat := if m.1 = 0 then 1 else m.1
def wtS (m : Mx) (i : Nat) : Int := if m.1 = 0 then 1 else m.2.1 i
def loS (m : Mx) (i v : Nat) : Nat := if m.1 = 0 then 0 else m.2.2 i v
def MixC (I : IM) (o : Nat) (m : Mx) : Prop := (I o 0 = (m.1 : Int) ∧ m.1 ≤ 8) ∧ ∀ i, i < m.1 → (I (o + 1) i = m.2.1 i ∧ 1 ≤ m.2.1 i ∧ m.2.1 i ≤ 9) ∧ ∀ v, v < 5 → I (o + 2) (5 * i + v) = ((m.2.2 i v : Nat) : Int) ∧ m.2.2 i v ≤ 9
def MixR (I : IM) (b : Nat) (m : Mx) : Prop := (I 86 b = (m.1 : Int) ∧ m.1 ≤ 8) ∧ ∀ i, i < m.1 → (I 87 (8 * b + i) = m.2.1 i ∧ 1 ≤ m.2.1 i ∧ m.2.1 i ≤ 9) ∧ ∀ v, v < 5 → I 88 (5 * (8 * b + i) + v) = ((m.2.2 i v : Nat) : Int) ∧ m.2.2 i v ≤ 9
theorem lnN_le {m : Mx} (h : m.1 ≤ 8) : 1 ≤ lnN m ∧ lnN m ≤ 8 := by unfold lnN; split <;> omega
theorem MixC_ln {I : IM} {o : Nat} {m : Mx} (h : MixC I o m) : (0 ≤ I o 0 ∧ I o 0 ≤ 8) ∧ linZ (I o 0) = (lnN m : Int) := by
  have h1 := h.1
  refine ⟨by omega, ?_⟩
  unfold linZ lnN
  by_cases e : m.1 = 0
  · rw [if_pos e, if_pos (by omega)]; rfl
  · rw [if_neg e, if_neg (by omega)]; exact h1.1
theorem MixC_wt {I : IM} {o i : Nat} {m : Mx} (h : MixC I o m) (hi : i < lnN m) : (if I o 0 = 0 then 1 else I (o + 1) i) = wtS m i := by
  have h1 := h.1
  unfold wtS
  by_cases e : m.1 = 0
  · rw [if_pos e, if_pos (by omega)]
  · rw [if_neg e, if_neg (by omega)]
    unfold lnN at hi
    rw [if_neg e] at hi
    exact (h.2 i hi).1.1
theorem MixC_lo {I : IM} {o i v : Nat} {m : Mx} (h : MixC I o m) (hi : i < lnN m) (hv : v < 5) : (if I o 0 = 0 then 0 else I (o + 2) (5 * i + v)) = ((loS m i v : Nat) : Int) := by
  have h1 := h.1
  unfold loS
  by_cases e : m.1 = 0
  · rw [if_pos e, if_pos (by omega)]; rfl
  · rw [if_neg e, if_neg (by omega)]
    unfold lnN at hi
    rw [if_neg e] at hi
    exact ((h.2 i hi).2 v hv).1
theorem MixR_ln {I : IM} {b : Nat} {m : Mx} (h : MixR I b m) : (0 ≤ I 86 b ∧ I 86 b ≤ 8) ∧ linZ (I 86 b) = (lnN m : Int) := by
  have h1 := h.1
  refine ⟨by omega, ?_⟩
  unfold linZ lnN
  by_cases e : m.1 = 0
  · rw [if_pos e, if_pos (by omega)]; rfl
  · rw [if_neg e, if_neg (by omega)]; exact h1.1
theorem MixR_wt {I : IM} {b i : Nat} {m : Mx} (h : MixR I b m) (hi : i < lnN m) : (if I 86 b = 0 then 1 else I 87 (8 * b + i)) = wtS m i := by
  have h1 := h.1
  unfold wtS
  by_cases e : m.1 = 0
  · rw [if_pos e, if_pos (by omega)]
  · rw [if_neg e, if_neg (by omega)]
    unfold lnN at hi
    rw [if_neg e] at hi
    exact (h.2 i hi).1.1
theorem MixR_lo {I : IM} {b i v : Nat} {m : Mx} (h : MixR I b m) (hi : i < lnN m) (hv : v < 5) : (if I 86 b = 0 then 0 else I 88 (5 * (8 * b + i) + v)) = ((loS m i v : Nat) : Int) := by
  have h1 := h.1
  unfold loS
  by_cases e : m.1 = 0
  · rw [if_pos e, if_pos (by omega)]; rfl
  · rw [if_neg e, if_neg (by omega)]
    unfold lnN at hi
    rw [if_neg e] at hi
    exact ((h.2 i hi).2 v hv).1
/-- a mix whose weights and loaves are as they may be -/
def MxOK (m : Mx) : Prop := m.1 ≤ 8 ∧ ∀ i, i < m.1 → (1 ≤ m.2.1 i ∧ m.2.1 i ≤ 9) ∧ ∀ v, v < 5 → m.2.2 i v ≤ 9
theorem MixC_ok {I : IM} {o : Nat} {m : Mx} (h : MixC I o m) : MxOK m := ⟨h.1.2, fun i hi => ⟨(h.2 i hi).1.2, fun v hv => ((h.2 i hi).2 v hv).2⟩⟩
theorem MixR_ok {I : IM} {b : Nat} {m : Mx} (h : MixR I b m) : MxOK m := ⟨h.1.2, fun i hi => ⟨(h.2 i hi).1.2, fun v hv => ((h.2 i hi).2 v hv).2⟩⟩
theorem wtS_rg {m : Mx} {i : Nat} (h : MxOK m) (hi : i < lnN m) : 1 ≤ wtS m i ∧ wtS m i ≤ 9 := by
  unfold wtS
  unfold lnN at hi
  by_cases e : m.1 = 0
  · rw [if_pos e]; omega
  · rw [if_neg e] at hi ⊢; exact (h.2 i hi).1
theorem loS_rg {m : Mx} {i v : Nat} (h : MxOK m) (hi : i < lnN m) (hv : v < 5) : loS m i v ≤ 9 := by
  unfold loS
  unfold lnN at hi
  by_cases e : m.1 = 0
  · rw [if_pos e]; omega
  · rw [if_neg e] at hi ⊢; exact (h.2 i hi).2 v hv
def gF (lw : Lw) (W T U : Nat → Int) (b : Nat) (m : Mx) (i j : Nat) : Int := wtS m i * gnV lw W T U b (j / 10) (j % 10) (loS m i (j / 10))
theorem gF_at {lw : Lw} {W T U : Nat → Int} {b v x i : Nat} {m : Mx} (hx : x ≤ 9) : gF lw W T U b m i (10 * v + x) = wtS m i * gnV lw W T U b v x (loS m i v) := by
  unfold gF
  rw [show (10 * v + x) / 10 = v by omega, show (10 * v + x) % 10 = x by omega]
/-- all that a mix's lines add up to -/
def gS (lw : Lw) (W T U : Nat → Int) (b : Nat) (m : Mx) (v x : Nat) : Int := sumP (fun i => wtS m i * gnV lw W T U b v x (loS m i v)) (lnN m)
theorem pts_rg {lw : Lw} {W T U : Nat → Int} {v a b : Nat} (h : 0 ≤ W v ∧ W v ≤ 9) : -9 ≤ ptsV lw W T U v a b ∧ ptsV lw W T U v a b ≤ 9 := by
  rcases hasV_c (lw := lw) (w := W v) (t := T v) (u := U v) (v := (v : Int)) (a := (a : Int)) (b := (b : Int)) with e | e | e <;> rw [ptsV, e] <;> omega
theorem gn_rg {lw : Lw} {W T U : Nat → Int} {b v x o : Nat} (h : 0 ≤ W v ∧ W v ≤ 9) : -9 ≤ gnV lw W T U b v x o ∧ gnV lw W T U b v x o ≤ 9 := by
  unfold gnV
  have h1 := pts_rg (lw := lw) (T := T) (U := U) (a := x) (b := o) h
  have h2 := pts_rg (lw := lw) (T := T) (U := U) (a := o) (b := x) h
  split <;> omega
theorem mul_rg {w g : Int} (hw : 1 ≤ w ∧ w ≤ 9) (hg : -9 ≤ g ∧ g ≤ 9) : -81 ≤ w * g ∧ w * g ≤ 81 := by
  obtain ⟨w1, w2⟩ := hw
  have : w = 1 ∨ w = 2 ∨ w = 3 ∨ w = 4 ∨ w = 5 ∨ w = 6 ∨ w = 7 ∨ w = 8 ∨ w = 9 := by omega
  rcases this with rfl | rfl | rfl | rfl | rfl | rfl | rfl | rfl | rfl <;> omega
theorem gS_rg {lw : Lw} {W T U : Nat → Int} {b v x : Nat} {m : Mx} (hm : MxOK m) (h : 0 ≤ W v ∧ W v ≤ 9) : -1000 ≤ gS lw W T U b m v x ∧ gS lw W T U b m v x ≤ 1000 := by
  have h1 := sumP_bd (f := fun i => wtS m i * gnV lw W T U b v x (loS m i v)) (n := lnN m) (b := 81) (fun i hi => mul_rg (wtS_rg hm hi) (gn_rg h))
  have h2 := lnN_le hm.1
  unfold gS
  omega
def adN (I : IM) (a p : Nat) (F : Nat → Int) : IM := upA I a (fun j => if j < p then I a j + F j else I a j)
theorem adN_0 {I : IM} {a : Nat} {F : Nat → Int} : adN I a 0 F = I := by
  unfold adN
  simp only [Nat.not_lt_zero, if_false]
  exact upA_id
theorem adN_s {I : IM} {a p : Nat} {F : Nat → Int} {z : Int} (hz : z = I a p + F p) : adN I a (p + 1) F = upA (adN I a p F) a (up1 (adN I a p F a) p z) := by
  unfold adN
  rw [upA_upA]
  congr 1
  funext j
  simp only [up1, upA_self]
  by_cases e : j = p
  · subst e; rw [if_pos (by omega), if_pos rfl, hz]
  · rw [if_neg e]
    by_cases e2 : j < p
    · rw [if_pos e2, if_pos (by omega)]
    · rw [if_neg e2, if_neg (by omega)]
theorem adN_at {I : IM} {a p k : Nat} {F : Nat → Int} (h : p ≤ k) : adN I a p F a k = I a k := by
  show upA I a _ a k = _
  rw [upA_self]
  exact if_neg (by omega)
theorem adM_adN {I : IM} {a v : Nat} {F g : Nat → Int} (hg : ∀ x, x < 10 → g x = F (10 * v + x)) : adM (adN I a (10 * v) F) a v 10 g = adN I a (10 * (v + 1)) F := by
  unfold adM adN
  rw [upA_upA]
  congr 1
  funext j
  simp only [upA_self]
  by_cases e : 10 * v ≤ j ∧ j < 10 * v + 10
  · rw [if_pos e, if_neg (by omega), if_pos (by omega), hg _ (by omega), show 10 * v + (j - 10 * v) = j by omega]
  · rw [if_neg e]
    by_cases e2 : j < 10 * v
    · rw [if_pos e2, if_pos (by omega)]
    · rw [if_neg e2, if_neg (by omega)]
def acM (I : IM) (a n q : Nat) (F : Nat → Nat → Int) : IM := upA I a (fun j => if j < 10 * n then sumP (fun i => F i j) q else I a j)
theorem acM_0 {I : IM} {a n : Nat} {F : Nat → Nat → Int} (h : ∀ j, j < 10 * n → I a j = 0) : acM I a n 0 F = I := by
  unfold acM
  have e : (fun j => if j < 10 * n then sumP (fun i => F i j) 0 else I a j) = I a := by
    funext j
    by_cases q : j < 10 * n
    · rw [if_pos q, h j q]; rfl
    · rw [if_neg q]
  rw [e, upA_id]
theorem acM_s {I : IM} {a n q : Nat} {F : Nat → Nat → Int} : adN (acM I a n q F) a (10 * n) (F q) = acM I a n (q + 1) F := by
  unfold acM adN
  rw [upA_upA]
  congr 1
  funext j
  simp only [upA_self]
  by_cases e : j < 10 * n
  · rw [if_pos e, if_pos e, if_pos e]; rfl
  · rw [if_neg e, if_neg e, if_neg e]
theorem acM_at {I : IM} {lw : Lw} {W T U : Nat → Int} {a n b v x : Nat} {m : Mx} (hv : v < n) (hx : x ≤ 9) : acM I a n (lnN m) (fun i j => gF lw W T U b m i j) a (10 * v + x) = gS lw W T U b m v x := by
  show upA I a _ a _ = _
  rw [upA_self, if_pos (by omega)]
  unfold gS
  exact sumP_congr (fun i hi => gF_at hx)
theorem mx_congr {g g2 : Nat → Nat → Int} {all : Bool} {n : Nat} (h : ∀ v x, v < n → x ≤ 9 → g v x = g2 v x) : ∀ m v left, v + m ≤ n → left ≤ 9 → mx g all m v left = mx g2 all m v left
  | 0, v, left, _, _ => rfl
  | m + 1, v, left, hv, hl => by
    unfold mx
    refine mxF_congr (fun x hx => ?_)
    rw [h v x (by omega) (by omega), mx_congr h m (v + 1) (left - x) (by omega) (by omega)]
theorem fstF_congr {f f2 : Nat → Int} {M : Int} : ∀ (k x : Nat), (∀ y, x ≤ y → y < x + k → f y = f2 y) → fstF f M k x = fstF f2 M k x
  | 0, x, h => rfl
  | k + 1, x, h => by
    unfold fstF
    rw [h x (Nat.le_refl _) (by omega), fstF_congr k (x + 1) (fun y h1 h2 => h y (by omega) (by omega))]
theorem chsR_congr {g g2 : Nat → Nat → Int} {n : Nat} (h : ∀ v x, v < n → x ≤ 9 → g v x = g2 v x) : ∀ m v left, v + m ≤ n → left ≤ 9 → chsR g m v left = chsR g2 m v left
  | 0, v, left, _, _ => rfl
  | m + 1, v, left, hv, hl => by
    have e : fstF (fun x => g v x + mx g false m (v + 1) (left - x)) (mx g false (m + 1) v left) left 0 = fstF (fun x => g2 v x + mx g2 false m (v + 1) (left - x)) (mx g2 false (m + 1) v left) left 0 := by
      rw [mx_congr h (m + 1) v left hv hl]
      refine fstF_congr _ _ (fun y h1 h2 => ?_)
      show g v y + mx g false m (v + 1) (left - y) = _
      rw [h v y (by omega) (by omega), mx_congr h m (v + 1) (left - y) (by omega) (by omega)]
    unfold chsR
    rw [e, chsR_congr h m (v + 1) _ (by omega) (by omega)]
def PtsOK (I : IM) (lw : Lw) (n : Nat) : Prop := ∀ v : Nat, v < n → ∀ a b : Nat, a ≤ 9 → b ≤ 9 → I 11 (100 * v + 10 * a + b) = ptsV lw (I 7) (I 8) (I 9) v a b
set_option maxRecDepth 20000 in
set_option maxHeartbeats 400000 in
theorem c_X9_addGains0 {X : pX} {I J : IM} {h : Nat} (lw : Lw) (n : Nat) (hn : I 6 0 = n ∧ n ≤ 5) (m : Mx) (i : Nat) (hm : MixC I 17 m) (hi : i < lnN m) (hP : PtsOK I lw n) : KV X (h + 1) mX9_addGains [.ref 27, zi 0, .ref 17, zi (i : Int)] I J (adN I 29 (10 * n) (gF lw (I 7) (I 8) (I 9) 0 m i)) J := by
  have hml := MixC_ln hm
  have hmo := MixC_ok hm
  have hi8 := lnN_le hmo.1
  show Rz X (h + 1) mX9_addGains 0 [some (.ref 27), some (zi 0), some (.ref 17), some (zi (i : Int)), none, none, none, none] [] I J _
  refine rz_iconst dX9_addGains_0 ?_
  refine rz_istore dX9_addGains_1 (by decide) rfl ?_
  refine rz_up (ls := fun v : Nat => [some (.ref 27), some (zi 0), some (.ref 17), some (zi (i : Int)), some (zi (v : Int)), none, none, none]) (IV := fun v : Nat => (adN I 29 (10 * v) (gF lw (I 7) (I 8) (I 9) 0 m i))) (JV := fun v : Nat => J) (n) ⟨Or.inr rfl, Or.inr rfl, Or.inr rfl, Or.inr rfl, Or.inr rfl, Or.inl rfl, Or.inl rfl, Or.inl rfl, trivial⟩ (adN_0) (rfl) ?_ ?_
  · intro v hv ihv
    have hl9 := loS_rg hmo hi (show v < 5 by omega)
    refine rz_iload dX9_addGains_3 rfl ?_
    refine rz_aload_n dX9_addGains_5 rfl ?_
    refine rz_getR dX9_addGains_6 kf_RX9_9 hd_27 rfl rr_27_0 ?_
    refine rz_getI (z := (n : Int)) dX9_addGains_9 kf_RX9_39 hd_6 rfl (hn.1) ?_
    refine rz_icmp_ge (t := 127) dX9_addGains_12 rfl (by omega) (by omega) (fun c12 => ?_) (fun c12 => ?_)
    · exfalso; omega
    · refine rz_aload_n dX9_addGains_15 rfl ?_
      refine rz_iload_n dX9_addGains_16 rfl ?_
      refine rz_iload dX9_addGains_17 rfl ?_
      refine rz_cVI dX9_addGains_19 kl_RX9_77 hd_17 ⟨_, _, rfl⟩ (c_loavesAt17 X _ (adN I 29 (10 * v) (gF lw (I 7) (I 8) (I 9) 0 m i)) J i v hml.1 (by omega) (by omega)) rfl rfl (Nat.le_of_ble_eq_true rfl) (Nat.le_of_ble_eq_true rfl) ?_
      refine rz_ieq (y := ((loS m i v : Nat) : Int)) (MixC_lo hm hi (by omega)).symm ?_
      refine rz_istore dX9_addGains_22 (by decide) rfl ?_
      refine rz_iconst dX9_addGains_24 ?_
      refine rz_istore dX9_addGains_25 (by decide) rfl ?_
      refine rz_up (ls := fun x : Nat => [some (.ref 27), some (zi 0), some (.ref 17), some (zi (i : Int)), some (zi (v : Int)), some (zi ((loS m i v : Nat) : Int)), some (zi (x : Int)), none]) (IV := fun x : Nat => (adN I 29 (10 * v + x) (gF lw (I 7) (I 8) (I 9) 0 m i))) (JV := fun x : Nat => J) (10) ⟨Or.inr rfl, Or.inr rfl, Or.inr rfl, Or.inr rfl, Or.inr rfl, Or.inr rfl, Or.inr rfl, Or.inl rfl, trivial⟩ (rfl) (rfl) ?_ ?_
      · intro x hx ihx
        have hwr := wtS_rg hmo hi
        refine rz_iload dX9_addGains_27 rfl ?_
        refine rz_bipush dX9_addGains_29 (by decide) ?_
        refine rz_icmp_gt (t := 121) dX9_addGains_31 rfl (by omega) (by omega) (fun c31 => ?_) (fun c31 => ?_)
        · exfalso; omega
        · refine rz_iload_n dX9_addGains_34 rfl ?_
          refine rz_if_ne (t := 63) dX9_addGains_35 rfl (by omega) (fun q => absurd q (by decide)) (fun _ => ?_)
          refine rz_aload_n dX9_addGains_38 rfl ?_
          refine rz_getR dX9_addGains_39 kf_RX9_9 hd_27 rfl rr_27_0 ?_
          refine rz_getR dX9_addGains_42 kf_RX9_80 hd_6 rfl rr_6_5 ?_
          refine rz_iload dX9_addGains_45 rfl ?_
          refine rz_bipush dX9_addGains_47 (by decide) ?_
          refine rz_imul dX9_addGains_49 ?_
          refine rz_iload dX9_addGains_50 rfl ?_
          refine rz_bipush dX9_addGains_52 (by decide) ?_
          refine rz_imul dX9_addGains_54 ?_
          refine rz_iadd dX9_addGains_55 ?_
          refine rz_iload dX9_addGains_56 rfl ?_
          refine rz_iadd dX9_addGains_58 ?_
          refine rz_ialdN (k := (100 * v + 10 * x + loS m i v)) (z := (ptsV lw (I 7) (I 8) (I 9) v x (loS m i v))) dX9_addGains_59 hd_11 (by decide) (by omega) (by omega) (hP v hv x (loS m i v) (by omega) (by omega)) ?_
          refine rz_goto (t := 86) dX9_addGains_60 rfl ?_
          refine rz_istore dX9_addGains_86 (by decide) rfl ?_
          refine rz_aload_n dX9_addGains_88 rfl ?_
          refine rz_getR dX9_addGains_89 kf_RX9_22 hd_27 rfl rr_27_2 ?_
          refine rz_getR dX9_addGains_92 kf_RX9_54 hd_28 rfl rr_28_0 ?_
          refine rz_iload dX9_addGains_95 rfl ?_
          refine rz_bipush dX9_addGains_97 (by decide) ?_
          refine rz_imul dX9_addGains_99 ?_
          refine rz_iload dX9_addGains_100 rfl ?_
          refine rz_iadd dX9_addGains_102 ?_
          refine rz_dup2 dX9_addGains_103 rfl rfl ?_
          refine rz_ialdN (k := (10 * v + x)) (z := (I 29 (10 * v + x))) dX9_addGains_104 hd_29 (by decide) (by omega) (by omega) (adN_at (Nat.le_refl _)) ?_
          refine rz_aload_n dX9_addGains_105 rfl ?_
          refine rz_iload_n dX9_addGains_106 rfl ?_
          refine rz_cVI dX9_addGains_107 kl_RX9_83 hd_17 ⟨_, _, rfl⟩ (c_weightAt17 X _ (adN I 29 (10 * v + x) (gF lw (I 7) (I 8) (I 9) 0 m i)) J i hml.1 (by omega)) rfl rfl (Nat.le_of_ble_eq_true rfl) (Nat.le_of_ble_eq_true rfl) ?_
          refine rz_ieq (y := wtS m i) (MixC_wt hm hi).symm ?_
          refine rz_iload dX9_addGains_110 rfl ?_
          refine rz_imul dX9_addGains_112 ?_
          refine rz_iadd dX9_addGains_113 ?_
          refine rz_iastN (k := (10 * v + x)) dX9_addGains_114 hd_29 (by decide) (by omega) (by omega) ?_
          refine rz_iinc dX9_addGains_115 (by decide) rfl rfl rfl ?_
          refine rz_goto (t := 27) dX9_addGains_118 rfl ?_
          exact rz_bk ihx ⟨Or.inr rfl, Or.inr rfl, Or.inr rfl, Or.inr rfl, Or.inr rfl, Or.inr rfl, Or.inr rfl, Or.inl rfl, trivial⟩ ((adN_s (p := 10 * v + x) (by rw [gF_at (by omega)]; rfl))) (rfl)
      · skip
        refine rz_iload dX9_addGains_27 rfl ?_
        refine rz_bipush dX9_addGains_29 (by decide) ?_
        refine rz_icmp_gt (t := 121) dX9_addGains_31 rfl (by omega) (by omega) (fun c31 => ?_) (fun c31 => ?_)
        · refine rz_iinc dX9_addGains_121 (by decide) rfl rfl rfl ?_
          refine rz_goto (t := 3) dX9_addGains_124 rfl ?_
          exact rz_bk ihv ⟨Or.inr rfl, Or.inr rfl, Or.inr rfl, Or.inr rfl, Or.inr rfl, Or.inl rfl, Or.inl rfl, Or.inl rfl, trivial⟩ (rfl) (rfl)
        · exfalso; omega
  · skip
    refine rz_iload dX9_addGains_3 rfl ?_
    refine rz_aload_n dX9_addGains_5 rfl ?_
    refine rz_getR dX9_addGains_6 kf_RX9_9 hd_27 rfl rr_27_0 ?_
    refine rz_getI (z := (n : Int)) dX9_addGains_9 kf_RX9_39 hd_6 rfl (hn.1) ?_
    refine rz_icmp_ge (t := 127) dX9_addGains_12 rfl (by omega) (by omega) (fun c12 => ?_) (fun c12 => ?_)
    · refine rz_vret dX9_addGains_127 rfl ?_
      exact ⟨rfl, rfl, rfl⟩
    · exfalso; omega
set_option maxRecDepth 20000 in
set_option maxHeartbeats 400000 in
theorem c_X9_addGains1 {X : pX} {I J : IM} {h : Nat} (lw : Lw) (n : Nat) (hn : I 6 0 = n ∧ n ≤ 5) (m : Mx) (i : Nat) (hm : MixC I 14 m) (hi : i < lnN m) (hP : PtsOK I lw n) : KV X (h + 1) mX9_addGains [.ref 27, zi 1, .ref 14, zi (i : Int)] I J (adN I 29 (10 * n) (gF lw (I 7) (I 8) (I 9) 1 m i)) J := by
  have hml := MixC_ln hm
  have hmo := MixC_ok hm
  have hi8 := lnN_le hmo.1
  show Rz X (h + 1) mX9_addGains 0 [some (.ref 27), some (zi 1), some (.ref 14), some (zi (i : Int)), none, none, none, none] [] I J _
  refine rz_iconst dX9_addGains_0 ?_
  refine rz_istore dX9_addGains_1 (by decide) rfl ?_
  refine rz_up (ls := fun v : Nat => [some (.ref 27), some (zi 1), some (.ref 14), some (zi (i : Int)), some (zi (v : Int)), none, none, none]) (IV := fun v : Nat => (adN I 29 (10 * v) (gF lw (I 7) (I 8) (I 9) 1 m i))) (JV := fun v : Nat => J) (n) ⟨Or.inr rfl, Or.inr rfl, Or.inr rfl, Or.inr rfl, Or.inr rfl, Or.inl rfl, Or.inl rfl, Or.inl rfl, trivial⟩ (adN_0) (rfl) ?_ ?_
  · intro v hv ihv
    have hl9 := loS_rg hmo hi (show v < 5 by omega)
    refine rz_iload dX9_addGains_3 rfl ?_
    refine rz_aload_n dX9_addGains_5 rfl ?_
    refine rz_getR dX9_addGains_6 kf_RX9_9 hd_27 rfl rr_27_0 ?_
    refine rz_getI (z := (n : Int)) dX9_addGains_9 kf_RX9_39 hd_6 rfl (hn.1) ?_
    refine rz_icmp_ge (t := 127) dX9_addGains_12 rfl (by omega) (by omega) (fun c12 => ?_) (fun c12 => ?_)
    · exfalso; omega
    · refine rz_aload_n dX9_addGains_15 rfl ?_
      refine rz_iload_n dX9_addGains_16 rfl ?_
      refine rz_iload dX9_addGains_17 rfl ?_
      refine rz_cVI dX9_addGains_19 kl_RX9_77 hd_14 ⟨_, _, rfl⟩ (c_loavesAt14 X _ (adN I 29 (10 * v) (gF lw (I 7) (I 8) (I 9) 1 m i)) J i v hml.1 (by omega) (by omega)) rfl rfl (Nat.le_of_ble_eq_true rfl) (Nat.le_of_ble_eq_true rfl) ?_
      refine rz_ieq (y := ((loS m i v : Nat) : Int)) (MixC_lo hm hi (by omega)).symm ?_
      refine rz_istore dX9_addGains_22 (by decide) rfl ?_
      refine rz_iconst dX9_addGains_24 ?_
      refine rz_istore dX9_addGains_25 (by decide) rfl ?_
      refine rz_up (ls := fun x : Nat => [some (.ref 27), some (zi 1), some (.ref 14), some (zi (i : Int)), some (zi (v : Int)), some (zi ((loS m i v : Nat) : Int)), some (zi (x : Int)), none]) (IV := fun x : Nat => (adN I 29 (10 * v + x) (gF lw (I 7) (I 8) (I 9) 1 m i))) (JV := fun x : Nat => J) (10) ⟨Or.inr rfl, Or.inr rfl, Or.inr rfl, Or.inr rfl, Or.inr rfl, Or.inr rfl, Or.inr rfl, Or.inl rfl, trivial⟩ (rfl) (rfl) ?_ ?_
      · intro x hx ihx
        have hwr := wtS_rg hmo hi
        refine rz_iload dX9_addGains_27 rfl ?_
        refine rz_bipush dX9_addGains_29 (by decide) ?_
        refine rz_icmp_gt (t := 121) dX9_addGains_31 rfl (by omega) (by omega) (fun c31 => ?_) (fun c31 => ?_)
        · exfalso; omega
        · refine rz_iload_n dX9_addGains_34 rfl ?_
          refine rz_if_ne (t := 63) dX9_addGains_35 rfl (by omega) (fun _ => ?_) (fun q => absurd q (by decide))
          refine rz_aload_n dX9_addGains_63 rfl ?_
          refine rz_getR dX9_addGains_64 kf_RX9_9 hd_27 rfl rr_27_0 ?_
          refine rz_getR dX9_addGains_67 kf_RX9_80 hd_6 rfl rr_6_5 ?_
          refine rz_iload dX9_addGains_70 rfl ?_
          refine rz_bipush dX9_addGains_72 (by decide) ?_
          refine rz_imul dX9_addGains_74 ?_
          refine rz_iload dX9_addGains_75 rfl ?_
          refine rz_bipush dX9_addGains_77 (by decide) ?_
          refine rz_imul dX9_addGains_79 ?_
          refine rz_iadd dX9_addGains_80 ?_
          refine rz_iload dX9_addGains_81 rfl ?_
          refine rz_iadd dX9_addGains_83 ?_
          refine rz_ialdN (k := (100 * v + 10 * loS m i v + x)) (z := (ptsV lw (I 7) (I 8) (I 9) v (loS m i v) x)) dX9_addGains_84 hd_11 (by decide) (by omega) (by omega) (hP v hv (loS m i v) x (by omega) (by omega)) ?_
          refine rz_ineg dX9_addGains_85 ?_
          refine rz_istore dX9_addGains_86 (by decide) rfl ?_
          refine rz_aload_n dX9_addGains_88 rfl ?_
          refine rz_getR dX9_addGains_89 kf_RX9_22 hd_27 rfl rr_27_2 ?_
          refine rz_getR dX9_addGains_92 kf_RX9_54 hd_28 rfl rr_28_0 ?_
          refine rz_iload dX9_addGains_95 rfl ?_
          refine rz_bipush dX9_addGains_97 (by decide) ?_
          refine rz_imul dX9_addGains_99 ?_
          refine rz_iload dX9_addGains_100 rfl ?_
          refine rz_iadd dX9_addGains_102 ?_
          refine rz_dup2 dX9_addGains_103 rfl rfl ?_
          refine rz_ialdN (k := (10 * v + x)) (z := (I 29 (10 * v + x))) dX9_addGains_104 hd_29 (by decide) (by omega) (by omega) (adN_at (Nat.le_refl _)) ?_
          refine rz_aload_n dX9_addGains_105 rfl ?_
          refine rz_iload_n dX9_addGains_106 rfl ?_
          refine rz_cVI dX9_addGains_107 kl_RX9_83 hd_14 ⟨_, _, rfl⟩ (c_weightAt14 X _ (adN I 29 (10 * v + x) (gF lw (I 7) (I 8) (I 9) 1 m i)) J i hml.1 (by omega)) rfl rfl (Nat.le_of_ble_eq_true rfl) (Nat.le_of_ble_eq_true rfl) ?_
          refine rz_ieq (y := wtS m i) (MixC_wt hm hi).symm ?_
          refine rz_iload dX9_addGains_110 rfl ?_
          refine rz_imul dX9_addGains_112 ?_
          refine rz_iadd dX9_addGains_113 ?_
          refine rz_iastN (k := (10 * v + x)) dX9_addGains_114 hd_29 (by decide) (by omega) (by omega) ?_
          refine rz_iinc dX9_addGains_115 (by decide) rfl rfl rfl ?_
          refine rz_goto (t := 27) dX9_addGains_118 rfl ?_
          exact rz_bk ihx ⟨Or.inr rfl, Or.inr rfl, Or.inr rfl, Or.inr rfl, Or.inr rfl, Or.inr rfl, Or.inr rfl, Or.inl rfl, trivial⟩ ((adN_s (p := 10 * v + x) (by rw [gF_at (by omega)]; rfl))) (rfl)
      · skip
        refine rz_iload dX9_addGains_27 rfl ?_
        refine rz_bipush dX9_addGains_29 (by decide) ?_
        refine rz_icmp_gt (t := 121) dX9_addGains_31 rfl (by omega) (by omega) (fun c31 => ?_) (fun c31 => ?_)
        · refine rz_iinc dX9_addGains_121 (by decide) rfl rfl rfl ?_
          refine rz_goto (t := 3) dX9_addGains_124 rfl ?_
          exact rz_bk ihv ⟨Or.inr rfl, Or.inr rfl, Or.inr rfl, Or.inr rfl, Or.inr rfl, Or.inl rfl, Or.inl rfl, Or.inl rfl, trivial⟩ (rfl) (rfl)
        · exfalso; omega
  · skip
    refine rz_iload dX9_addGains_3 rfl ?_
    refine rz_aload_n dX9_addGains_5 rfl ?_
    refine rz_getR dX9_addGains_6 kf_RX9_9 hd_27 rfl rr_27_0 ?_
    refine rz_getI (z := (n : Int)) dX9_addGains_9 kf_RX9_39 hd_6 rfl (hn.1) ?_
    refine rz_icmp_ge (t := 127) dX9_addGains_12 rfl (by omega) (by omega) (fun c12 => ?_) (fun c12 => ?_)
    · refine rz_vret dX9_addGains_127 rfl ?_
      exact ⟨rfl, rfl, rfl⟩
    · exfalso; omega
