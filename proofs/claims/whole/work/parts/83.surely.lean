/-! surely had: the machines -/
def posV (lw : Lw) (W T U : Nat → Int) : Nat → Nat → Nat → Bool := fun v a b => decide (hvV lw W T U v a b = 1)
theorem pos_pts {lw : Lw} {W T U : Nat → Int} {v a b : Nat} (hW : 1 ≤ W v ∧ W v ≤ 9) : (posV lw W T U v a b = true ∧ 0 < ptsV lw W T U v a b) ∨ (posV lw W T U v a b = false ∧ ptsV lw W T U v a b ≤ 0) := by
  unfold posV
  rcases hasV_c (lw := lw) (w := W v) (t := T v) (u := U v) (v := (v : Int)) (a := (a : Int)) (b := (b : Int)) with e | e | e
  · refine Or.inl ⟨decide_eq_true e, ?_⟩
    rw [ptsV, e]; omega
  · refine Or.inr ⟨decide_eq_false (by rw [hvV, e]; decide), ?_⟩
    rw [ptsV, e]; omega
  · refine Or.inr ⟨decide_eq_false (by rw [hvV, e]; decide), ?_⟩
    rw [ptsV, e]; omega
theorem cst_b {pos : Nat → Nat → Nat → Bool} {v a b : Nat} (hb : b < 10) (h : ∀ x, x < b → pos v a x = true) (hp : pos v a b = false) : cst pos v a = b := by
  rcases cst_prop (pos := pos) (v := v) (a := a) with ⟨-, q⟩ | ⟨q1, q2, q3⟩
  · have := q b hb; rw [hp] at this; exact absurd this (by decide)
  · by_cases e : cst pos v a < b
    · have := h _ e; rw [q2] at this; exact absurd this (by decide)
    · by_cases e2 : b < cst pos v a
      · have := q3 b e2; rw [hp] at this; exact absurd this (by decide)
      · omega
theorem cst_99 {pos : Nat → Nat → Nat → Bool} {v a : Nat} (h : ∀ x, x < 10 → pos v a x = true) : cst pos v a = 99 := by
  rcases cst_prop (pos := pos) (v := v) (a := a) with ⟨q, -⟩ | ⟨q1, q2, -⟩
  · exact q
  · have := h _ q1; rw [q2] at this; exact absurd this (by decide)
theorem cst_rg {pos : Nat → Nat → Nat → Bool} {v a : Nat} : cst pos v a ≤ 99 := by
  rcases cst_prop (pos := pos) (v := v) (a := a) with ⟨q, -⟩ | ⟨q, -, -⟩ <;> omega
def CoI (pos : Nat → Nat → Nat → Bool) (p : Nat) (G : Nat → Int) : Prop := ∀ j, j < p → G j = ((cst pos (j / 10) (j % 10) : Nat) : Int)
theorem CoI_s {pos : Nat → Nat → Nat → Bool} {v a : Nat} {G : Nat → Int} {z : Int} (ha : a ≤ 9) (h : CoI pos (10 * v + a) G) (hz : z = ((cst pos v a : Nat) : Int)) : CoI pos (10 * v + (a + 1)) (up1 G (10 * v + a) z) := by
  intro j hj
  by_cases e : j = 10 * v + a
  · subst e; rw [up1_self, hz, show (10 * v + a) / 10 = v by omega, show (10 * v + a) % 10 = a by omega]
  · rw [up1_ne e]; exact h j (by omega)
def CoOK (I : IM) (lw : Lw) (n : Nat) : Prop := ∀ v a : Nat, v < n → a ≤ 9 → I 46 (10 * v + a) = ((cst (posV lw (I 7) (I 8) (I 9)) v a : Nat) : Int)
theorem CoI_e {pos : Nat → Nat → Nat → Bool} {n : Nat} {G : Nat → Int} (h : CoI pos (10 * n) G) : ∀ v a : Nat, v < n → a ≤ 9 → G (10 * v + a) = ((cst pos v a : Nat) : Int) := by
  intro v a hv ha
  rw [h _ (by omega), show (10 * v + a) / 10 = v by omega, show (10 * v + a) % 10 = a by omega]
set_option maxRecDepth 20000 in
set_option maxHeartbeats 400000 in
theorem c_X3_costs {X : pX} {I J : IM} {h : Nat} {lw : Lw} {n : Nat} {m0 m1 : Mx} (hq : CqI I lw n m0 m1) (hW : ∀ v, v < n → 1 ≤ I 7 v ∧ I 7 v ≤ 9) : KVq X (h + 5) mX3_costs [.ref 32] I J (fun A Bj => (QC I lw n A ∧ CoOK A lw n ∧ A 6 0 = n ∧ A 79 = I 79) ∧ J = Bj) := by
  obtain ⟨h1, h2, h3, h4, h5, h6, h7⟩ := hq
  show Rz X (h + 5) mX3_costs 0 [some (.ref 32), none, none, none] [] I J _
  refine rz_aload_n dX3_costs_0 rfl ?_
  refine rz_getR dX3_costs_1 kf_RX3_7 hd_32 rfl rr_32_4 ?_
  refine rz_cVVq dX3_costs_4 kl_RX3_62 hd_6 ⟨_, _, rfl⟩ (c_X8_settle lw h1 n h2 h3 h4) rfl rfl (Nat.le_of_ble_eq_true rfl) (Nat.le_of_ble_eq_true rfl) ?_
  rintro B _ ⟨hB, rfl⟩
  obtain ⟨hf1, hf2⟩ := SetQ_fr hB
  have hnB : B 6 0 = n ∧ n ≤ 5 := ⟨by rw [hf1 6 (by decide) (by decide) (by decide) (by decide)]; exact h2.1, h2.2⟩
  have hPB := SetQ_pts hB
  have e7 := hf1 7 (by decide) (by decide) (by decide) (by decide)
  refine rz_iconst dX3_costs_7 ?_
  refine rz_istore_n dX3_costs_8 (by decide) rfl ?_
  refine rz_upx (σ := Nat → Int) (Inv := fun v sv => CoI (posV lw (B 7) (B 8) (B 9)) (10 * v) sv) (ls := fun (v : Nat) sv => [some (.ref 32), some (zi (v : Int)), none, none]) (IV := fun (v : Nat) sv => (upA B 46 sv)) (JV := fun (v : Nat) sv => J) (n) ((B 46)) (fun j hj => absurd hj (by omega)) ⟨Or.inr rfl, Or.inr rfl, Or.inl rfl, Or.inl rfl, trivial⟩ (upA_id) (rfl) ?_ ?_
  · intro v sv hv qv ihv
    refine rz_iload_n dX3_costs_9 rfl ?_
    refine rz_aload_n dX3_costs_10 rfl ?_
    refine rz_getR dX3_costs_11 kf_RX3_7 hd_32 rfl rr_32_4 ?_
    refine rz_getI (z := (n : Int)) dX3_costs_14 kf_RX3_69 hd_6 rfl (hnB.1) ?_
    refine rz_icmp_ge (t := 99) dX3_costs_17 rfl (by omega) (by omega) (fun c17 => ?_) (fun c17 => ?_)
    · exfalso; omega
    · refine rz_iconst dX3_costs_20 ?_
      refine rz_istore_n dX3_costs_21 (by decide) rfl ?_
      refine rz_upx (σ := Nat → Int) (Inv := fun a sa => CoI (posV lw (B 7) (B 8) (B 9)) (10 * v + a) sa) (ls := fun (a : Nat) sa => [some (.ref 32), some (zi (v : Int)), some (zi (a : Int)), none]) (IV := fun (a : Nat) sa => (upA B 46 sa)) (JV := fun (a : Nat) sa => J) (10) (sv) (by simpa using qv) ⟨Or.inr rfl, Or.inr rfl, Or.inr rfl, Or.inl rfl, trivial⟩ (rfl) (rfl) ?_ ?_
      · intro a sa ha qa iha
        refine rz_iload_n dX3_costs_22 rfl ?_
        refine rz_bipush dX3_costs_23 (by decide) ?_
        refine rz_icmp_gt (t := 93) dX3_costs_25 rfl (by omega) (by omega) (fun c25 => ?_) (fun c25 => ?_)
        · exfalso; omega
        · refine rz_iconst dX3_costs_28 ?_
          refine rz_istore_n dX3_costs_29 (by decide) rfl ?_
          refine rz_upx (σ := Unit) (Inv := fun b sb => ∀ x, x < b → (posV lw (B 7) (B 8) (B 9)) v a x = true) (ls := fun (b : Nat) sb => [some (.ref 32), some (zi (v : Int)), some (zi (a : Int)), some (zi (b : Int))]) (IV := fun (b : Nat) sb => (upA B 46 sa)) (JV := fun (b : Nat) sb => J) (10) (()) (fun x hx => absurd hx (by omega)) ⟨Or.inr rfl, Or.inr rfl, Or.inr rfl, Or.inr rfl, trivial⟩ (rfl) (rfl) ?_ ?_
          · intro b sb hb qb ihb
            have hpb := pos_pts (lw := lw) (W := B 7) (T := B 8) (U := B 9) (v := v) (a := a) (b := b) (by rw [e7]; exact hW v hv)
            have hpr := pts_rg (lw := lw) (W := B 7) (T := B 8) (U := B 9) (v := v) (a := a) (b := b) (by rw [e7]; exact (h3 v hv).1)
            refine rz_iload_n dX3_costs_30 rfl ?_
            refine rz_bipush dX3_costs_31 (by decide) ?_
            refine rz_icmp_gt (t := 64) dX3_costs_33 rfl (by omega) (by omega) (fun c33 => ?_) (fun c33 => ?_)
            · exfalso; omega
            · refine rz_aload_n dX3_costs_36 rfl ?_
              refine rz_getR dX3_costs_37 kf_RX3_7 hd_32 rfl rr_32_4 ?_
              refine rz_getR dX3_costs_40 kf_RX3_98 hd_6 rfl rr_6_5 ?_
              refine rz_iload_n dX3_costs_43 rfl ?_
              refine rz_bipush dX3_costs_44 (by decide) ?_
              refine rz_imul dX3_costs_46 ?_
              refine rz_iload_n dX3_costs_47 rfl ?_
              refine rz_bipush dX3_costs_48 (by decide) ?_
              refine rz_imul dX3_costs_50 ?_
              refine rz_iadd dX3_costs_51 ?_
              refine rz_iload_n dX3_costs_52 rfl ?_
              refine rz_iadd dX3_costs_53 ?_
              refine rz_ialdN (k := (100 * v + 10 * a + b)) (z := (ptsV lw (B 7) (B 8) (B 9) v a b)) dX3_costs_54 hd_11 (by decide) (by omega) (by omega) (hPB v hv a b (by omega) (by omega)) ?_
              refine rz_if_le (t := 64) dX3_costs_55 rfl (by omega) (fun c55 => ?_) (fun c55 => ?_)
              · refine rz_aload_n dX3_costs_64 rfl ?_
                refine rz_getR dX3_costs_65 kf_RX3_51 hd_32 rfl rr_32_12 ?_
                refine rz_iload_n dX3_costs_68 rfl ?_
                refine rz_bipush dX3_costs_69 (by decide) ?_
                refine rz_imul dX3_costs_71 ?_
                refine rz_iload_n dX3_costs_72 rfl ?_
                refine rz_iadd dX3_costs_73 ?_
                refine rz_iload_n dX3_costs_74 rfl ?_
                refine rz_bipush dX3_costs_75 (by decide) ?_
                refine rz_icmp_gt (t := 84) dX3_costs_77 rfl (by omega) (by omega) (fun c77 => ?_) (fun c77 => ?_)
                · refine rz_bipush dX3_costs_84 (by decide) ?_
                  refine rz_iastN (k := (10 * v + a)) dX3_costs_86 hd_46 (by decide) (by omega) (by omega) ?_
                  refine rz_iinc dX3_costs_87 (by decide) rfl rfl rfl ?_
                  refine rz_goto (t := 22) dX3_costs_90 rfl ?_
                  exact rz_bk (iha ((up1 sa (10 * v + a) 99)) ((CoI_s (by omega) qa (by first | (rw [cst_99 (fun x hx => qb x (by omega))]; rfl) | (rw [cst_b (by omega) qb (by rcases hpb with e | e; omega; exact e.1)]))))) ⟨Or.inr rfl, Or.inr rfl, Or.inr rfl, Or.inl rfl, trivial⟩ (upA_upA.symm) (rfl)
                · refine rz_iload_n dX3_costs_80 rfl ?_
                  refine rz_goto (t := 86) dX3_costs_81 rfl ?_
                  refine rz_iastN (k := (10 * v + a)) dX3_costs_86 hd_46 (by decide) (by omega) (by omega) ?_
                  refine rz_iinc dX3_costs_87 (by decide) rfl rfl rfl ?_
                  refine rz_goto (t := 22) dX3_costs_90 rfl ?_
                  exact rz_bk (iha ((up1 sa (10 * v + a) (b : Int))) ((CoI_s (by omega) qa (by first | (rw [cst_99 (fun x hx => qb x (by omega))]; rfl) | (rw [cst_b (by omega) qb (by rcases hpb with e | e; omega; exact e.1)]))))) ⟨Or.inr rfl, Or.inr rfl, Or.inr rfl, Or.inl rfl, trivial⟩ (upA_upA.symm) (rfl)
              · refine rz_iinc dX3_costs_58 (by decide) rfl rfl rfl ?_
                refine rz_goto (t := 30) dX3_costs_61 rfl ?_
                exact rz_bk (ihb (()) ((fun x hx => by by_cases e : x = b; (subst e; rcases hpb with q | q; exact q.1; omega); exact qb x (by omega)))) ⟨Or.inr rfl, Or.inr rfl, Or.inr rfl, Or.inr rfl, trivial⟩ (rfl) (rfl)
          · intro sb qb
            refine rz_iload_n dX3_costs_30 rfl ?_
            refine rz_bipush dX3_costs_31 (by decide) ?_
            refine rz_icmp_gt (t := 64) dX3_costs_33 rfl (by omega) (by omega) (fun _ => ?_) (fun q => absurd q (by decide))
            refine rz_aload_n dX3_costs_64 rfl ?_
            refine rz_getR dX3_costs_65 kf_RX3_51 hd_32 rfl rr_32_12 ?_
            refine rz_iload_n dX3_costs_68 rfl ?_
            refine rz_bipush dX3_costs_69 (by decide) ?_
            refine rz_imul dX3_costs_71 ?_
            refine rz_iload_n dX3_costs_72 rfl ?_
            refine rz_iadd dX3_costs_73 ?_
            refine rz_iload_n dX3_costs_74 rfl ?_
            refine rz_bipush dX3_costs_75 (by decide) ?_
            refine rz_icmp_gt (t := 84) dX3_costs_77 rfl (by omega) (by omega) (fun _ => ?_) (fun q => absurd q (by decide))
            refine rz_bipush dX3_costs_84 (by decide) ?_
            refine rz_iastN (k := (10 * v + a)) dX3_costs_86 hd_46 (by decide) (by omega) (by omega) ?_
            refine rz_iinc dX3_costs_87 (by decide) rfl rfl rfl ?_
            refine rz_goto (t := 22) dX3_costs_90 rfl ?_
            exact rz_bk (iha ((up1 sa (10 * v + a) 99)) ((CoI_s (by omega) qa (by first | (rw [cst_99 (fun x hx => qb x (by omega))]; rfl) | (rw [cst_b (by omega) qb (by rcases hpb with e | e; omega; exact e.1)]))))) ⟨Or.inr rfl, Or.inr rfl, Or.inr rfl, Or.inl rfl, trivial⟩ (upA_upA.symm) (rfl)
      · intro sa qa
        refine rz_iload_n dX3_costs_22 rfl ?_
        refine rz_bipush dX3_costs_23 (by decide) ?_
        refine rz_icmp_gt (t := 93) dX3_costs_25 rfl (by omega) (by omega) (fun c25 => ?_) (fun c25 => ?_)
        · refine rz_iinc dX3_costs_93 (by decide) rfl rfl rfl ?_
          refine rz_goto (t := 9) dX3_costs_96 rfl ?_
          exact rz_bk (ihv (sa) ((by rw [show 10 * (v + 1) = 10 * v + 10 by omega]; exact qa))) ⟨Or.inr rfl, Or.inr rfl, Or.inl rfl, Or.inl rfl, trivial⟩ (rfl) (rfl)
        · exfalso; omega
  · intro sv qv
    refine rz_iload_n dX3_costs_9 rfl ?_
    refine rz_aload_n dX3_costs_10 rfl ?_
    refine rz_getR dX3_costs_11 kf_RX3_7 hd_32 rfl rr_32_4 ?_
    refine rz_getI (z := (n : Int)) dX3_costs_14 kf_RX3_69 hd_6 rfl (hnB.1) ?_
    refine rz_icmp_ge (t := 99) dX3_costs_17 rfl (by omega) (by omega) (fun c17 => ?_) (fun c17 => ?_)
    · refine rz_vret dX3_costs_99 rfl ?_
      exact ⟨rfl, ⟨QC_up (by decide) (QC_set h4 hB), CoI_e qv, hnB.1, hf1 79 (by decide) (by decide) (by decide) (by decide)⟩, rfl⟩
    · exfalso; omega
theorem sumT_add {c : Nat → Nat} {T : Nat → Bool} {v : Nat} (hT : T v = false) : ∀ n, sumP (cosT c (fun u => if u = v then true else T u)) n = sumP (cosT c T) n + (if v < n then ((c v : Nat) : Int) else 0) ∧ sumP (oneT (fun u => if u = v then true else T u)) n = sumP (oneT T) n + (if v < n then 1 else 0)
  | 0 => by simp [sumP]
  | n + 1 => by
    obtain ⟨h1, h2⟩ := sumT_add hT n
    simp only [sumP]
    rw [h1, h2]
    by_cases e : n = v
    · subst e
      have a1 : cosT c (fun u => if u = n then true else T u) n = ((c n : Nat) : Int) := by simp [cosT]
      have a2 : cosT c T n = 0 := by simp [cosT, hT]
      have a3 : oneT (fun u => if u = n then true else T u) n = 1 := by simp [oneT]
      have a4 : oneT T n = 0 := by simp [oneT, hT]
      rw [a1, a2, a3, a4]
      simp
    · have a1 : cosT c (fun u => if u = v then true else T u) n = cosT c T n := by simp [cosT, e]
      have a3 : oneT (fun u => if u = v then true else T u) n = oneT T n := by simp [oneT, e]
      rw [a1, a3]
      by_cases e2 : v < n
      · rw [if_pos e2, if_pos e2, if_pos (by omega), if_pos (by omega)]; omega
      · rw [if_neg e2, if_neg e2, if_neg (by omega), if_neg (by omega)]; omega
def GrS (c : Nat → Nat) (n L p : Nat) (T : Nat → Bool) : Prop := ∃ p0, p0 ≤ p ∧ (L : Int) - sumP (cosT c T) n < p0 ∧ (∀ v, v < n → T v = true → c v ≤ p0) ∧ ∀ v, v < n → T v = false → p0 ≤ c v
def GrO (c : Nat → Nat) (n L p : Nat) (T : Nat → Bool) : Prop := sumP (cosT c T) n ≤ L ∧ ((∀ v, v < n → (T v = true ↔ c v < p)) ∨ GrS c n L p T)
def GrI (c : Nat → Nat) (n L p v : Nat) (T : Nat → Bool) : Prop := sumP (cosT c T) n ≤ L ∧ ((∀ u, u < n → (T u = true ↔ (c u < p ∨ (c u = p ∧ u < v)))) ∨ GrS c n L p T)
theorem GrO_0 {c : Nat → Nat} {n L : Nat} : GrO c n L 0 (fun _ => false) := by
  refine ⟨?_, Or.inl (fun v hv => ⟨fun h => by simp at h, fun h => by omega⟩)⟩
  have : ∀ k, sumP (cosT c (fun _ => false)) k = 0 := fun k => by
    induction k with
    | zero => rfl
    | succ k ih => simp only [sumP]; rw [ih]; simp [cosT]
  rw [this]; omega
theorem GrI_0 {c : Nat → Nat} {n L p : Nat} {T : Nat → Bool} (h : GrO c n L p T) : GrI c n L p 0 T := by
  refine ⟨h.1, h.2.imp (fun h u hu => ?_) id⟩
  rw [h u hu]
  constructor
  · intro q; exact Or.inl q
  · rintro (q | ⟨q, q2⟩)
    · exact q
    · omega
theorem GrI_n {c : Nat → Nat} {n L p : Nat} {T : Nat → Bool} (h : GrI c n L p n T) : GrO c n L (p + 1) T := by
  refine ⟨h.1, h.2.imp (fun h u hu => ?_) (fun ⟨p0, a, b, d, e⟩ => ⟨p0, by omega, b, d, e⟩)⟩
  rw [h u hu]
  omega
theorem GrI_stop {c : Nat → Nat} {n L p v : Nat} {T : Nat → Bool} (h : GrI c n L p v T) (hl : (L : Int) - sumP (cosT c T) n < p) : GrO c n L (p + 1) T := by
  refine ⟨h.1, Or.inr ?_⟩
  rcases h.2 with h | ⟨p0, a, b, d, e⟩
  · refine ⟨p, by omega, hl, fun v hv q => ?_, fun v hv q => ?_⟩
    · have := (h v hv).mp q; omega
    · by_cases w : c v < p
      · have := (h v hv).mpr (Or.inl w); rw [q] at this; exact absurd this (by decide)
      · omega
  · exact ⟨p0, by omega, b, d, e⟩
theorem GrI_live {c : Nat → Nat} {n L p v : Nat} {T : Nat → Bool} (h : GrI c n L p v T) (hl : (p : Int) ≤ (L : Int) - sumP (cosT c T) n) : ∀ u, u < n → (T u = true ↔ (c u < p ∨ (c u = p ∧ u < v))) := by
  rcases h.2 with h | ⟨p0, a, b, -, -⟩
  · exact h
  · omega
theorem GrI_skip {c : Nat → Nat} {n L p v : Nat} {T : Nat → Bool} (hv : v < n) (h : GrI c n L p v T) (hl : (p : Int) ≤ (L : Int) - sumP (cosT c T) n) (hc : c v ≠ p) : GrI c n L p (v + 1) T := by
  refine ⟨h.1, Or.inl (fun u hu => ?_)⟩
  rw [GrI_live h hl u hu]
  by_cases e : u = v
  · subst e; omega
  · omega
theorem GrI_out {c : Nat → Nat} {n L p v : Nat} {T : Nat → Bool} (hv : v < n) (h : GrI c n L p v T) (hl : (p : Int) ≤ (L : Int) - sumP (cosT c T) n) (hc : c v = p) : T v = false := by
  have q := GrI_live h hl v hv
  cases hT : T v with
  | false => rfl
  | true => have := q.mp hT; omega
theorem GrI_take {c : Nat → Nat} {n L p v : Nat} {T : Nat → Bool} (hv : v < n) (h : GrI c n L p v T) (hl : (p : Int) ≤ (L : Int) - sumP (cosT c T) n) (hc : c v = p) : GrI c n L p (v + 1) (fun u => if u = v then true else T u) := by
  have hs := (sumT_add (c := c) (GrI_out hv h hl hc) n).1
  rw [if_pos hv] at hs
  refine ⟨by rw [hs]; omega, Or.inl (fun u hu => ?_)⟩
  have q := GrI_live h hl u hu
  by_cases e : u = v
  · subst e; simp; omega
  · show (if u = v then true else T u) = true ↔ _
    rw [if_neg e, q]; omega
theorem GrO_end {pos : Nat → Nat → Nat → Bool} {r : Nat → Nat} {n L : Nat} {T : Nat → Bool} (hn : n ≤ 5) (hL : L ≤ 9) (h : GrO (fun v => cst pos v (r v)) n L 10 T) : (n : Int) - sumP (oneT T) n = dpS pos r n 0 L := by
  obtain ⟨h1, h2⟩ := h
  rcases h2 with h2 | ⟨p0, -, b, d, e⟩
  · have hs : 0 ≤ sumP (cosT (fun v => cst pos v (r v)) T) n := by
      have : ∀ k, 0 ≤ sumP (cosT (fun v => cst pos v (r v)) T) k := fun k => by
        induction k with
        | zero => exact Int.le_refl _
        | succ k ih => simp only [sumP]; have : 0 ≤ cosT (fun v => cst pos v (r v)) T k := by (unfold cosT; split <;> omega)
                       omega
      exact this n
    exact (greedy (p := 10) hn hL h1 (fun v hv q => by have : cst pos v (r v) < 10 := (h2 v hv).mp q; omega) (fun v hv q => by
      by_cases w : cst pos v (r v) < 10
      · have := (h2 v hv).mpr w; rw [q] at this; exact absurd this (by decide)
      · omega) (by omega)).symm
  · exact (greedy (p := p0) hn hL h1 d e b).symm
theorem sumT_0 {c : Nat → Nat} : ∀ n, sumP (cosT c (fun _ => false)) n = 0
  | 0 => rfl
  | n + 1 => by simp only [sumP]; rw [sumT_0 n]; simp [cosT]
theorem sumO_0 : ∀ n, sumP (oneT (fun _ => false)) n = 0
  | 0 => rfl
  | n + 1 => by simp only [sumP]; rw [sumO_0 n]; simp [oneT]
theorem sumO_rg {T : Nat → Bool} : ∀ n, 0 ≤ sumP (oneT T) n ∧ sumP (oneT T) n ≤ n
  | 0 => by simp [sumP]
  | n + 1 => by
    have := sumO_rg (T := T) n
    have h : oneT T n = 0 ∨ oneT T n = 1 := by unfold oneT; split <;> omega
    simp only [sumP]; omega
theorem sumC_rg {c : Nat → Nat} {T : Nat → Bool} : ∀ n, 0 ≤ sumP (cosT c T) n
  | 0 => Int.le_refl _
  | n + 1 => by
    have := sumC_rg (c := c) (T := T) n
    have h : 0 ≤ cosT c T n := by unfold cosT; split <;> omega
    simp only [sumP]; omega
set_option maxRecDepth 20000 in
set_option maxHeartbeats 400000 in
theorem c_X3_surely {X : pX} {I J : IM} {h : Nat} (lw : Lw) (n : Nat) (hn : I 6 0 = n ∧ n ≤ 5) (a Na L : Nat) (r : Nat → Nat) (ha : HD0[a]? = some (1, 0, Na)) (hNa : n ≤ Na ∧ Na ≤ 2000) (hA : ∀ v, v < n → I a v = ((r v : Nat) : Int) ∧ r v ≤ 9) (hL : I 10 1 = L ∧ L ≤ 9) (hC : CoOK I lw n) : KI X h mX3_surely [.ref 32, .ref a] I J (dpS (posV lw (I 7) (I 8) (I 9)) r n 0 L) I J := by
  show Rz X h mX3_surely 0 [some (.ref 32), some (.ref a), none, none, none, none] [] I J _
  refine rz_aload_n dX3_surely_0 rfl ?_
  refine rz_getR dX3_surely_1 kf_RX3_7 hd_32 rfl rr_32_4 ?_
  refine rz_getR dX3_surely_4 kf_RX3_73 hd_6 rfl rr_6_4 ?_
  refine rz_iconst dX3_surely_7 ?_
  refine rz_iald (z := (L : Int)) dX3_surely_8 hd_10 (by decide) (by omega) hL.1 ?_
  refine rz_istore_n dX3_surely_9 (by decide) rfl ?_
  refine rz_aload_n dX3_surely_10 rfl ?_
  refine rz_getR dX3_surely_11 kf_RX3_7 hd_32 rfl rr_32_4 ?_
  refine rz_getI (z := (n : Int)) dX3_surely_14 kf_RX3_69 hd_6 rfl (hn.1) ?_
  refine rz_istore_n dX3_surely_17 (by decide) rfl ?_
  refine rz_iconst dX3_surely_18 ?_
  refine rz_istore (ls' := [some (.ref 32), some (.ref a), some (zi (L : Int)), some (zi (n : Int)), some (zi 0), none]) dX3_surely_19 (by decide) rfl ?_
  refine rz_upx (σ := Nat → Bool) (Inv := fun p sp => GrO (fun v => cst (posV lw (I 7) (I 8) (I 9)) v (r v)) n L p sp) (ls := fun (p : Nat) sp => [some (.ref 32), some (.ref a), some (zi ((L : Int) - sumP (cosT (fun v => cst (posV lw (I 7) (I 8) (I 9)) v (r v)) sp) n)), some (zi ((n : Int) - sumP (oneT sp) n)), some (zi (p : Int)), none]) (IV := fun (p : Nat) sp => I) (JV := fun (p : Nat) sp => J) (10) ((fun _ => false)) GrO_0 ⟨Or.inr rfl, Or.inr rfl, Or.inr (congrArg (fun z => some (zi z)) (by have : sumP (cosT (fun v => cst (posV lw (I 7) (I 8) (I 9)) v (r v)) (fun _ => false)) n = 0 := sumT_0 n; omega)), Or.inr (congrArg (fun z => some (zi z)) (by have : sumP (oneT (fun _ => false)) n = 0 := sumO_0 n; omega)), Or.inr rfl, Or.inl rfl, trivial⟩ (rfl) (rfl) ?_ ?_
  · intro p sp hp qp ihp
    refine rz_iload dX3_surely_21 rfl ?_
    refine rz_bipush dX3_surely_23 (by decide) ?_
    refine rz_icmp_gt (t := 92) dX3_surely_25 rfl (by omega) (by omega) (fun c25 => ?_) (fun c25 => ?_)
    · exfalso; omega
    · refine rz_iconst dX3_surely_28 ?_
      refine rz_istore dX3_surely_29 (by decide) rfl ?_
      refine rz_upx (σ := Nat → Bool) (Inv := fun v sv => GrI (fun v => cst (posV lw (I 7) (I 8) (I 9)) v (r v)) n L p v sv) (ls := fun (v : Nat) sv => [some (.ref 32), some (.ref a), some (zi ((L : Int) - sumP (cosT (fun v => cst (posV lw (I 7) (I 8) (I 9)) v (r v)) sv) n)), some (zi ((n : Int) - sumP (oneT sv) n)), some (zi (p : Int)), some (zi (v : Int))]) (IV := fun (v : Nat) sv => I) (JV := fun (v : Nat) sv => J) (n) (sp) (GrI_0 qp) ⟨Or.inr rfl, Or.inr rfl, Or.inr rfl, Or.inr rfl, Or.inr rfl, Or.inr rfl, trivial⟩ (rfl) (rfl) ?_ ?_
      · intro v sv hv qv ihv
        have hrv := (hA v hv).2
        have hle := qv.1
        have hcr := cst_rg (pos := posV lw (I 7) (I 8) (I 9)) (v := v) (a := r v)
        have hoT := sumO_rg (T := sv) n
        have hcT := sumC_rg (c := (fun v => cst (posV lw (I 7) (I 8) (I 9)) v (r v))) (T := sv) n
        refine rz_iload dX3_surely_31 rfl ?_
        refine rz_aload_n dX3_surely_33 rfl ?_
        refine rz_getR dX3_surely_34 kf_RX3_7 hd_32 rfl rr_32_4 ?_
        refine rz_getI (z := (n : Int)) dX3_surely_37 kf_RX3_69 hd_6 rfl (hn.1) ?_
        refine rz_icmp_ge (t := 86) dX3_surely_40 rfl (by omega) (by omega) (fun c40 => ?_) (fun c40 => ?_)
        · exfalso; omega
        · refine rz_iload dX3_surely_43 rfl ?_
          refine rz_iload_n dX3_surely_45 rfl ?_
          refine rz_icmp_gt (t := 86) dX3_surely_46 rfl (by omega) (by omega) (fun c46 => ?_) (fun c46 => ?_)
          · refine rz_iinc dX3_surely_86 (by decide) rfl rfl rfl ?_
            refine rz_goto (t := 21) dX3_surely_89 rfl ?_
            exact rz_bk (ihp (sv) ((by first | exact GrI_n qv | exact GrI_stop qv (by omega)))) ⟨Or.inr rfl, Or.inr rfl, Or.inr rfl, Or.inr rfl, Or.inr rfl, Or.inl rfl, trivial⟩ (rfl) (rfl)
          · refine rz_aload_n dX3_surely_49 rfl ?_
            refine rz_getR dX3_surely_50 kf_RX3_51 hd_32 rfl rr_32_12 ?_
            refine rz_iload dX3_surely_53 rfl ?_
            refine rz_bipush dX3_surely_55 (by decide) ?_
            refine rz_imul dX3_surely_57 ?_
            refine rz_aload_n dX3_surely_58 rfl ?_
            refine rz_iload dX3_surely_59 rfl ?_
            refine rz_ialdN (k := v) (z := ((r v : Nat) : Int)) dX3_surely_61 ha (by omega) (by omega) (by omega) (hA v hv).1 ?_
            refine rz_iadd dX3_surely_62 ?_
            refine rz_ialdN (k := (10 * v + r v)) (z := ((cst (posV lw (I 7) (I 8) (I 9)) v (r v) : Nat) : Int)) dX3_surely_63 hd_46 (by decide) (by omega) (by omega) (hC v (r v) hv (hA v hv).2) ?_
            refine rz_iload dX3_surely_64 rfl ?_
            refine rz_icmp_eq (t := 72) dX3_surely_66 rfl (by omega) (by omega) (fun c66 => ?_) (fun c66 => ?_)
            · refine rz_iload_n dX3_surely_72 rfl ?_
              refine rz_iload dX3_surely_73 rfl ?_
              refine rz_isub dX3_surely_75 ?_
              refine rz_istore_n dX3_surely_76 (by decide) rfl ?_
              refine rz_iinc dX3_surely_77 (by decide) rfl rfl rfl ?_
              refine rz_iinc (ls' := [some (.ref 32), some (.ref a), some (zi (((L : Int) - sumP (cosT (fun v => cst (posV lw (I 7) (I 8) (I 9)) v (r v)) sv) n) - (p : Int))), some (zi (((n : Int) - sumP (oneT sv) n) + (-1))), some (zi (p : Int)), some (zi ((v : Int) + 1))]) dX3_surely_80 (by decide) rfl rfl rfl ?_
              refine rz_goto (t := 31) dX3_surely_83 rfl ?_
              exact rz_bk (ihv ((fun u => if u = v then true else sv u)) ((GrI_take hv qv (by omega) (by omega)))) ⟨Or.inr rfl, Or.inr rfl, Or.inr (congrArg (fun z => some (zi z)) (by have e := (sumT_add (c := (fun v => cst (posV lw (I 7) (I 8) (I 9)) v (r v))) (GrI_out hv qv (by omega) (by omega)) n).1; rw [if_pos hv] at e; rw [e]; omega)), Or.inr (congrArg (fun z => some (zi z)) (by have e := (sumT_add (c := (fun v => cst (posV lw (I 7) (I 8) (I 9)) v (r v))) (GrI_out hv qv (by omega) (by omega)) n).2; rw [if_pos hv] at e; rw [e]; omega)), Or.inr rfl, Or.inr rfl, trivial⟩ (rfl) (rfl)
            · refine rz_goto (t := 80) dX3_surely_69 rfl ?_
              refine rz_iinc dX3_surely_80 (by decide) rfl rfl rfl ?_
              refine rz_goto (t := 31) dX3_surely_83 rfl ?_
              exact rz_bk (ihv (sv) ((GrI_skip hv qv (by omega) (by omega)))) ⟨Or.inr rfl, Or.inr rfl, Or.inr rfl, Or.inr rfl, Or.inr rfl, Or.inr rfl, trivial⟩ (rfl) (rfl)
      · intro sv qv
        have hle := qv.1
        have hcT := sumC_rg (c := (fun v => cst (posV lw (I 7) (I 8) (I 9)) v (r v))) (T := sv) n
        refine rz_iload dX3_surely_31 rfl ?_
        refine rz_aload_n dX3_surely_33 rfl ?_
        refine rz_getR dX3_surely_34 kf_RX3_7 hd_32 rfl rr_32_4 ?_
        refine rz_getI (z := (n : Int)) dX3_surely_37 kf_RX3_69 hd_6 rfl (hn.1) ?_
        refine rz_icmp_ge (t := 86) dX3_surely_40 rfl (by omega) (by omega) (fun c40 => ?_) (fun c40 => ?_)
        · refine rz_iinc dX3_surely_86 (by decide) rfl rfl rfl ?_
          refine rz_goto (t := 21) dX3_surely_89 rfl ?_
          exact rz_bk (ihp (sv) ((by first | exact GrI_n qv | exact GrI_stop qv (by omega)))) ⟨Or.inr rfl, Or.inr rfl, Or.inr rfl, Or.inr rfl, Or.inr rfl, Or.inl rfl, trivial⟩ (rfl) (rfl)
        · exfalso; omega
  · intro sp qp
    refine rz_iload dX3_surely_21 rfl ?_
    refine rz_bipush dX3_surely_23 (by decide) ?_
    refine rz_icmp_gt (t := 92) dX3_surely_25 rfl (by omega) (by omega) (fun c25 => ?_) (fun c25 => ?_)
    · refine rz_iload_n dX3_surely_92 rfl ?_
      refine rz_iret dX3_surely_93 rfl ?_
      exact ⟨_, rfl, GrO_end hn.2 hL.2 qp, rfl, rfl⟩
    · exfalso; omega
