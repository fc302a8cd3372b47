/-! the reference's best row; gains -/
def fbM (I : IM) (b g : Int) : IM := upA I 81 (up1 (up1 (I 81) 36 b) 37 g)
abbrev gI (I : IM) (a : Nat) : Nat → Nat → Int := fun v x => I a (10 * v + x)
def FbI (F : List Nat → Int) (L : List (List Nat)) (p : Nat) (b g : Int) : Prop := (p = 0 ∧ b = -1 ∧ g = 0) ∨ ∃ s j, bestL F (L.take p) = some (g, s) ∧ b = ((j : Nat) : Int) ∧ j < p ∧ L[j]? = some s
theorem FbI_s {F : List Nat → Int} {L : List (List Nat)} {p : Nat} {b g : Int} {x : List Nat} (h : FbI F L p b g) (hx : L[p]? = some x) (hb : b < 0 ∨ g < F x) : FbI F L (p + 1) (p : Int) (F x) := by
  have ht : L.take (p + 1) = L.take p ++ [x] := by rw [List.take_add_one, hx]; rfl
  refine Or.inr ⟨x, p, ?_, rfl, by omega, hx⟩
  rw [ht, bestL_snoc]
  rcases h with ⟨h1, h2, h3⟩ | ⟨s, j, h1, h2, h3, h4⟩
  · subst h1; rfl
  · rw [h1]
    show (if g < F x then _ else _) = _
    rw [if_pos (by omega)]
theorem FbI_k {F : List Nat → Int} {L : List (List Nat)} {p : Nat} {b g : Int} {x : List Nat} (h : FbI F L p b g) (hx : L[p]? = some x) (hb : 0 ≤ b) (hg : F x ≤ g) : FbI F L (p + 1) b g := by
  have ht : L.take (p + 1) = L.take p ++ [x] := by rw [List.take_add_one, hx]; rfl
  rcases h with ⟨h1, h2, h3⟩ | ⟨s, j, h1, h2, h3, h4⟩
  · omega
  · refine Or.inr ⟨s, j, ?_, h2, by omega, h4⟩
    rw [ht, bestL_snoc, h1]
    show (if g < F x then _ else _) = _
    rw [if_neg (by omega)]
theorem fb_0 {I : IM} : fbM I (-1) 0 = upA (upA I 81 (up1 (I 81) 36 (-1))) 81 (up1 (upA I 81 (up1 (I 81) 36 (-1)) 81) 37 0) := by unfold fbM; rw [upA_upA]; rfl
theorem fb_s {I : IM} {b g b2 g2 : Int} : fbM I b2 g2 = upA (upA (fbM I b g) 81 (up1 (fbM I b g 81) 36 b2)) 81 (up1 (upA (fbM I b g) 81 (up1 (fbM I b g 81) 36 b2) 81) 37 g2) := by
  unfold fbM
  rw [upA_upA, upA_upA]
  congr 1
  funext j
  simp only [up1, upA_self]
  by_cases h1 : j = 37
  · simp [h1]
  · by_cases h2 : j = 36
    · simp [h2]
    · simp [h1, h2]
abbrev GRg (I : IM) (a n : Nat) : Prop := ∀ v x : Nat, v < n → x ≤ 9 → -100000 ≤ I a (10 * v + x) ∧ I a (10 * v + x) ≤ 100000
theorem getD_le {x : List Nat} (h : ∀ y, y ∈ x → y ≤ 9) (v : Nat) : x.getD v 0 ≤ 9 := by
  rw [List.getD_eq_getElem?_getD]
  cases hv : x[v]? with
  | none => simp
  | some y => exact h y (List.mem_of_getElem? hv)
abbrev RowsOK (n : Nat) (L : List (List Nat)) : Prop := ∀ x, x ∈ L → x.length = n ∧ ∀ y, y ∈ x → y ≤ 9
theorem rowsL_ok {n left : Nat} {all : Bool} (h : left ≤ 9) : RowsOK n (rowsL n left all) := fun x hx => by
  obtain ⟨h1, h2⟩ := rows_ok n left all x hx
  exact ⟨h1, fun y hy => by have := h2 y hy; omega⟩
theorem bestL_mem {α : Type} {F : α → Int} {L : List α} {g : Int} {s : α} : bestL F L = some (g, s) → s ∈ L ∧ g = F s := by
  unfold bestL
  have key : ∀ (L : List α) (b : Option (Int × α)), (∀ q, b = some q → q.1 = F q.2) → ∀ q, L.foldl (bst F) b = some q → (q.2 ∈ L ∨ b = some q) ∧ q.1 = F q.2 := by
    intro L
    induction L with
    | nil => intro b hb q hq; exact ⟨Or.inr hq, hb q hq⟩
    | cons r L ih =>
      intro b hb q hq
      have hb2 : ∀ q, bst F b r = some q → q.1 = F q.2 := by
        intro q hq
        cases b with
        | none => have e : some (F r, r) = some q := hq
                  injection e with e; rw [← e]
        | some z =>
          obtain ⟨z1, z2⟩ := z
          have e : (if z1 < F r then some (F r, r) else some (z1, z2)) = some q := hq
          by_cases h : z1 < F r
          · rw [if_pos h] at e; injection e with e; rw [← e]
          · rw [if_neg h] at e; exact hb q e
      obtain ⟨h1, h2⟩ := ih _ hb2 q hq
      refine ⟨?_, h2⟩
      rcases h1 with h1 | h1
      · exact Or.inl (List.mem_cons_of_mem _ h1)
      · cases b with
        | none => have e : some (F r, r) = some q := h1
                  injection e with e; rw [← e]; exact Or.inl (List.mem_cons_self ..)
        | some z =>
          obtain ⟨z1, z2⟩ := z
          have e : (if z1 < F r then some (F r, r) else some (z1, z2)) = some q := h1
          by_cases h : z1 < F r
          · rw [if_pos h] at e; injection e with e; rw [← e]; exact Or.inl (List.mem_cons_self ..)
          · rw [if_neg h] at e; exact Or.inr e
  intro h
  obtain ⟨h1, h2⟩ := key L none (fun q hq => by simp at hq) (g, s) h
  exact ⟨h1.resolve_right (by simp), h2⟩
theorem FbI_rg {I : IM} {n p : Nat} {L : List (List Nat)} {b g : Int} (hG : GRg I 106 n) (hw : RowsOK n L) (hLL : L.length ≤ 2002) (hn : n ≤ 5) (h : FbI (gainL (gI I 106) 0) L p b g) : -1 ≤ b ∧ b ≤ 2002 ∧ -500000 ≤ g ∧ g ≤ 500000 := by
  rcases h with ⟨h1, h2, h3⟩ | ⟨s, j, h1, h2, h3, h4⟩
  · omega
  · obtain ⟨e1, e2⟩ := bestL_mem h1
    have e3 := (hw s (List.mem_of_mem_take e1)).1
    have e4 := (List.getElem?_eq_some_iff.mp h4).1
    rw [gainL_sum] at e2
    have e5 := sumP_bd (f := fun i => gI I 106 (0 + i) (s.getD i 0)) (n := s.length) (b := 100000) (fun v hv => by rw [Nat.zero_add]; exact hG v _ (by omega) (getD_le (hw s (List.mem_of_mem_take e1)).2 v))
    have e6 : (s.length : Int) ≤ 5 := by omega
    rw [e2]
    omega
set_option maxRecDepth 20000 in
set_option maxHeartbeats 400000 in
theorem c_X12_findBest {X : pX} {I J : IM} {h : Nat} (n : Nat) (hn : I 81 1 = n ∧ n ≤ 5) (L : List (List Nat)) (hL : I 81 33 = L.length) (hLL : L.length ≤ 2002) (hw : RowsOK n L) (hR : RowsAt (I 104) n L) (hG : GRg I 106 n) : KVq X h mX12_findBest [.ref 81] I J (fun A B => (∃ b g, A = fbM I b g ∧ FbI (gainL (gI I 106) 0) L L.length b g) ∧ J = B) := by
  show Rz X h mX12_findBest 0 [some (.ref 81), none, none, none] [] I J _
  refine rz_aload_n dX12_findBest_0 rfl ?_
  refine rz_iconst dX12_findBest_1 ?_
  refine rz_putI dX12_findBest_2 kp_RX12_297 hd_81 rfl ?_
  refine rz_aload_n dX12_findBest_5 rfl ?_
  refine rz_iconst dX12_findBest_6 ?_
  refine rz_putI dX12_findBest_7 kp_RX12_300 hd_81 rfl ?_
  refine rz_iconst dX12_findBest_10 ?_
  refine rz_istore_n dX12_findBest_11 (by decide) rfl ?_
  refine rz_upx (σ := Int × Int) (Inv := fun p sp => FbI (gainL (gI I 106) 0) L p sp.1 sp.2) (ls := fun (p : Nat) sp => [some (.ref 81), some (zi (p : Int)), none, none]) (IV := fun (p : Nat) sp => (fbM I sp.1 sp.2)) (JV := fun (p : Nat) sp => J) (L.length) ((-1, 0)) (Or.inl ⟨rfl, rfl, rfl⟩) ⟨Or.inr rfl, Or.inr rfl, Or.inl rfl, Or.inl rfl, trivial⟩ (fb_0) (rfl) ?_ ?_
  · intro p sp hp qp ihp
    obtain ⟨b, g⟩ := sp
    have qp : FbI (gainL (gI I 106) 0) L p b g := qp
    obtain ⟨x, hx⟩ : ∃ x, L[p]? = some x := ⟨L[p], List.getElem?_eq_getElem hp⟩
    have hxl := hw x (List.mem_of_getElem? hx)
    have hbr : -1 ≤ b ∧ b ≤ 2002 ∧ -500000 ≤ g ∧ g ≤ 500000 := FbI_rg hG hw hLL (by omega) qp
    have hgs : gainL (gI I 106) 0 x = sumP (fun i => I 106 (10 * i + x.getD i 0)) n := by rw [gainL_sum, hxl.1]; exact sumP_congr (fun i hi => by rw [Nat.zero_add])
    have hgr := sumP_bd (f := fun i => I 106 (10 * i + x.getD i 0)) (n := n) (b := 100000) (fun v hv => hG v _ hv (getD_le hxl.2 v))
    refine rz_to (ls' := [some (.ref 81), some (zi (p : Int)), none, none]) (I' := (fbM I b g)) (J' := J) ⟨Or.inr rfl, Or.inr rfl, Or.inl rfl, Or.inl rfl, trivial⟩ rfl rfl ?_
    refine rz_iload_n dX12_findBest_12 rfl ?_
    refine rz_aload_n dX12_findBest_13 rfl ?_
    refine rz_getI (z := (L.length : Int)) dX12_findBest_14 kf_RX12_263 hd_81 rfl (hL) ?_
    refine rz_icmp_ge (t := 95) dX12_findBest_17 rfl (by omega) (by omega) (fun c17 => ?_) (fun c17 => ?_)
    · exfalso; omega
    · refine rz_iconst dX12_findBest_20 ?_
      refine rz_istore_n dX12_findBest_21 (by decide) rfl ?_
      refine rz_iconst dX12_findBest_22 ?_
      refine rz_istore_n dX12_findBest_23 (by decide) rfl ?_
      refine rz_up (ls := fun v : Nat => [some (.ref 81), some (zi (p : Int)), some (zi (sumP (fun i => I 106 (10 * i + x.getD i 0)) v)), some (zi (v : Int))]) (IV := fun v : Nat => (fbM I b g)) (JV := fun v : Nat => J) (n) ⟨Or.inr rfl, Or.inr rfl, Or.inr rfl, Or.inr rfl, trivial⟩ (rfl) (rfl) ?_ ?_
      · intro v hv ihv
        have hx9 : x.getD v 0 ≤ 9 := getD_le hxl.2 v
        refine rz_iload_n dX12_findBest_24 rfl ?_
        refine rz_aload_n dX12_findBest_25 rfl ?_
        refine rz_getI (z := (n : Int)) dX12_findBest_26 kf_RX12_137 hd_81 rfl (hn.1) ?_
        refine rz_icmp_ge (t := 61) dX12_findBest_29 rfl (by omega) (by omega) (fun c29 => ?_) (fun c29 => ?_)
        · exfalso; omega
        · refine rz_iload_n dX12_findBest_32 rfl ?_
          refine rz_aload_n dX12_findBest_33 rfl ?_
          refine rz_getR dX12_findBest_34 kf_RX12_84 hd_81 rfl rr_81_35 ?_
          refine rz_bipush dX12_findBest_37 (by decide) ?_
          refine rz_iload_n dX12_findBest_39 rfl ?_
          refine rz_imul dX12_findBest_40 ?_
          refine rz_aload_n dX12_findBest_41 rfl ?_
          refine rz_getR dX12_findBest_42 kf_RX12_78 hd_81 rfl rr_81_32 ?_
          refine rz_iconst dX12_findBest_45 ?_
          refine rz_iload_n dX12_findBest_46 rfl ?_
          refine rz_imul dX12_findBest_47 ?_
          refine rz_iload_n dX12_findBest_48 rfl ?_
          refine rz_iadd dX12_findBest_49 ?_
          refine rz_baldN (k := (5 * p + v)) (z := ((x.getD v 0 : Nat) : Int)) dX12_findBest_50 hd_104 (by decide) (by omega) (by omega) (hR p x hx v (by omega)) ?_
          refine rz_iadd dX12_findBest_51 ?_
          refine rz_ialdN (k := (10 * v + x.getD v 0)) (z := (I 106 (10 * v + x.getD v 0))) dX12_findBest_52 hd_106 (by decide) (by omega) (by omega) rfl ?_
          refine rz_iadd dX12_findBest_53 ?_
          refine rz_istore_n dX12_findBest_54 (by decide) rfl ?_
          refine rz_iinc dX12_findBest_55 (by decide) rfl rfl rfl ?_
          refine rz_goto (t := 24) dX12_findBest_58 rfl ?_
          exact rz_bk ihv ⟨Or.inr rfl, Or.inr rfl, Or.inr rfl, Or.inr rfl, trivial⟩ (rfl) (rfl)
      · skip
        refine rz_iload_n dX12_findBest_24 rfl ?_
        refine rz_aload_n dX12_findBest_25 rfl ?_
        refine rz_getI (z := (n : Int)) dX12_findBest_26 kf_RX12_137 hd_81 rfl (hn.1) ?_
        refine rz_icmp_ge (t := 61) dX12_findBest_29 rfl (by omega) (by omega) (fun c29 => ?_) (fun c29 => ?_)
        · refine rz_aload_n dX12_findBest_61 rfl ?_
          refine rz_getI (z := b) dX12_findBest_62 kf_RX12_297 hd_81 rfl (rfl) ?_
          refine rz_if_lt (t := 79) dX12_findBest_65 rfl (by omega) (fun c65 => ?_) (fun c65 => ?_)
          · refine rz_aload_n dX12_findBest_79 rfl ?_
            refine rz_iload_n dX12_findBest_80 rfl ?_
            refine rz_putI dX12_findBest_81 kp_RX12_297 hd_81 rfl ?_
            refine rz_aload_n dX12_findBest_84 rfl ?_
            refine rz_iload_n dX12_findBest_85 rfl ?_
            refine rz_putI dX12_findBest_86 kp_RX12_300 hd_81 rfl ?_
            refine rz_iinc dX12_findBest_89 (by decide) rfl rfl rfl ?_
            refine rz_goto (t := 12) dX12_findBest_92 rfl ?_
            exact rz_bk (ihp (((p : Int), sumP (fun i => I 106 (10 * i + x.getD i 0)) n)) ((by rw [← hgs]; exact FbI_s qp hx (by omega)))) ⟨Or.inr rfl, Or.inr rfl, Or.inl rfl, Or.inl rfl, trivial⟩ (fb_s) (rfl)
          · refine rz_iload_n dX12_findBest_68 rfl ?_
            refine rz_aload_n dX12_findBest_69 rfl ?_
            refine rz_getI (z := g) dX12_findBest_70 kf_RX12_300 hd_81 rfl (rfl) ?_
            refine rz_icmp_gt (t := 79) dX12_findBest_73 rfl (by omega) (by omega) (fun c73 => ?_) (fun c73 => ?_)
            · refine rz_aload_n dX12_findBest_79 rfl ?_
              refine rz_iload_n dX12_findBest_80 rfl ?_
              refine rz_putI dX12_findBest_81 kp_RX12_297 hd_81 rfl ?_
              refine rz_aload_n dX12_findBest_84 rfl ?_
              refine rz_iload_n dX12_findBest_85 rfl ?_
              refine rz_putI dX12_findBest_86 kp_RX12_300 hd_81 rfl ?_
              refine rz_iinc dX12_findBest_89 (by decide) rfl rfl rfl ?_
              refine rz_goto (t := 12) dX12_findBest_92 rfl ?_
              exact rz_bk (ihp (((p : Int), sumP (fun i => I 106 (10 * i + x.getD i 0)) n)) ((by rw [← hgs]; exact FbI_s qp hx (by omega)))) ⟨Or.inr rfl, Or.inr rfl, Or.inl rfl, Or.inl rfl, trivial⟩ (fb_s) (rfl)
            · refine rz_goto (t := 89) dX12_findBest_76 rfl ?_
              refine rz_iinc dX12_findBest_89 (by decide) rfl rfl rfl ?_
              refine rz_goto (t := 12) dX12_findBest_92 rfl ?_
              exact rz_bk (ihp ((b, g)) ((FbI_k qp hx (by omega) (by omega)))) ⟨Or.inr rfl, Or.inr rfl, Or.inl rfl, Or.inl rfl, trivial⟩ (rfl) (rfl)
        · exfalso; omega
  · intro sp qp
    refine rz_iload_n dX12_findBest_12 rfl ?_
    refine rz_aload_n dX12_findBest_13 rfl ?_
    refine rz_getI (z := (L.length : Int)) dX12_findBest_14 kf_RX12_263 hd_81 rfl (hL) ?_
    refine rz_icmp_ge (t := 95) dX12_findBest_17 rfl (by omega) (by omega) (fun c17 => ?_) (fun c17 => ?_)
    · refine rz_vret dX12_findBest_95 rfl ?_
      exact ⟨rfl, ⟨_, _, rfl, qp⟩, rfl⟩
    · exfalso; omega
set_option maxRecDepth 20000 in
set_option maxHeartbeats 400000 in
theorem c_X12_noGains {X : pX} {I J : IM} {h : Nat} : KV X h mX12_noGains [.ref 81] I J (fillM I 106 50 0) J := by
  show Rz X h mX12_noGains 0 [some (.ref 81), none] [] I J _
  refine rz_iconst dX12_noGains_0 ?_
  refine rz_istore_n dX12_noGains_1 (by decide) rfl ?_
  refine rz_up (ls := fun q : Nat => [some (.ref 81), some (zi (q : Int))]) (IV := fun q : Nat => (fillM I 106 q 0)) (JV := fun q : Nat => J) (50) ⟨Or.inr rfl, Or.inr rfl, trivial⟩ (fillM_0) (rfl) ?_ ?_
  · intro q hq ihq
    refine rz_iload_n dX12_noGains_2 rfl ?_
    refine rz_bipush dX12_noGains_3 (by decide) ?_
    refine rz_icmp_ge (t := 21) dX12_noGains_5 rfl (by omega) (by omega) (fun c5 => ?_) (fun c5 => ?_)
    · exfalso; omega
    · refine rz_aload_n dX12_noGains_8 rfl ?_
      refine rz_getR dX12_noGains_9 kf_RX12_84 hd_81 rfl rr_81_35 ?_
      refine rz_iload_n dX12_noGains_12 rfl ?_
      refine rz_iconst dX12_noGains_13 ?_
      refine rz_iastN (k := q) dX12_noGains_14 hd_106 (by decide) (by omega) (by omega) ?_
      refine rz_iinc dX12_noGains_15 (by decide) rfl rfl rfl ?_
      refine rz_goto (t := 2) dX12_noGains_18 rfl ?_
      exact rz_bk ihq ⟨Or.inr rfl, Or.inr rfl, trivial⟩ (fillM_step.symm) (rfl)
  · skip
    refine rz_iload_n dX12_noGains_2 rfl ?_
    refine rz_bipush dX12_noGains_3 (by decide) ?_
    refine rz_icmp_ge (t := 21) dX12_noGains_5 rfl (by omega) (by omega) (fun c5 => ?_) (fun c5 => ?_)
    · refine rz_vret dX12_noGains_21 rfl ?_
      exact ⟨rfl, rfl, rfl⟩
    · exfalso; omega
/-- what one line of a mix adds for one village -/
def gnV (lw : Lw) (W T U : Nat → Int) (b : Nat) (v x o : Nat) : Int := if b = 0 then ptsV lw W T U v x o else -ptsV lw W T U v o x
def adM (I : IM) (a v p : Nat) (g : Nat → Int) : IM := upA I a (fun j => if 10 * v ≤ j ∧ j < 10 * v + p then I a j + g (j - 10 * v) else I a j)
theorem adM_0 {I : IM} {a v : Nat} {g : Nat → Int} : adM I a v 0 g = I := by
  unfold adM
  have e : (fun j => if 10 * v ≤ j ∧ j < 10 * v + 0 then I a j + g (j - 10 * v) else I a j) = I a := by
    funext j; rw [if_neg (by omega)]
  rw [e, upA_id]
theorem adM_s {I : IM} {a v p : Nat} {g : Nat → Int} {z : Int} (hz : z = I a (10 * v + p) + g p) : adM I a v (p + 1) g = upA (adM I a v p g) a (up1 (adM I a v p g a) (10 * v + p) z) := by
  unfold adM
  rw [upA_upA]
  congr 1
  funext j
  simp only [up1, upA_self]
  by_cases e : j = 10 * v + p
  · subst e
    rw [if_pos (by omega), if_pos rfl, hz, show 10 * v + p - 10 * v = p by omega]
  · rw [if_neg e]
    by_cases e2 : 10 * v ≤ j ∧ j < 10 * v + p
    · rw [if_pos e2, if_pos (by omega)]
    · rw [if_neg e2, if_neg (by omega)]
theorem adM_at {I : IM} {a v p k : Nat} {g : Nat → Int} (h : ¬ (10 * v ≤ k ∧ k < 10 * v + p)) : adM I a v p g a k = I a k := by
  show upA I a _ a k = _
  rw [upA_self]
  exact if_neg h
/-- has, as it was found -/
def HasR (I : IM) (lw : Lw) (n : Nat) : Prop := ∀ v : Nat, v < n → ∀ a b : Nat, a ≤ 9 → b ≤ 9 → I 102 (100 * v + 10 * a + b) = hvV lw (I 82) (I 83) (I 84) v a b
theorem gn_0 {lw : Lw} {W T U : Nat → Int} {b v p o : Nat} {w y z : Int} (hb : b = 0) (h : z = hvV lw W T U v p o) : y + w * (W v * z) = y + w * gnV lw W T U b v p o := by
  rw [h, gnV, if_pos hb]
theorem gn_1 {lw : Lw} {W T U : Nat → Int} {b v p o : Nat} {w y z : Int} (hb : ¬ b = 0) (h : z = hvV lw W T U v o p) : y + -w * (W v * z) = y + w * gnV lw W T U b v p o := by
  rw [h, gnV, if_neg hb, Int.mul_neg, Int.neg_mul]
set_option maxRecDepth 20000 in
set_option maxHeartbeats 400000 in
theorem c_X12_addGains {X : pX} {I J : IM} {h : Nat} (lw : Lw) (n b v o : Nat) (w : Int) (hn : n ≤ 5) (hb : b < 2) (hv : v < n) (ho : o ≤ 9) (hH : HasR I lw n) : KV X (h + 1) mX12_addGains [.ref 81, zi (b : Int), zi (v : Int), zi (o : Int), zi w] I J (adM I 106 v 10 (fun x => w * gnV lw (I 82) (I 83) (I 84) b v x o)) J := by
  show Rz X (h + 1) mX12_addGains 0 [some (.ref 81), some (zi (b : Int)), some (zi (v : Int)), some (zi (o : Int)), some (zi w), none] [] I J _
  refine rz_iconst dX12_addGains_0 ?_
  refine rz_istore dX12_addGains_1 (by decide) rfl ?_
  refine rz_up (ls := fun p : Nat => [some (.ref 81), some (zi (b : Int)), some (zi (v : Int)), some (zi (o : Int)), some (zi w), some (zi (p : Int))]) (IV := fun p : Nat => (adM I 106 v p (fun x => w * gnV lw (I 82) (I 83) (I 84) b v x o))) (JV := fun p : Nat => J) (10) ⟨Or.inr rfl, Or.inr rfl, Or.inr rfl, Or.inr rfl, Or.inr rfl, Or.inr rfl, trivial⟩ (adM_0) (rfl) ?_ ?_
  · intro p hp ihp
    refine rz_iload dX12_addGains_3 rfl ?_
    refine rz_bipush dX12_addGains_5 (by decide) ?_
    refine rz_icmp_gt (t := 61) dX12_addGains_7 rfl (by omega) (by omega) (fun c7 => ?_) (fun c7 => ?_)
    · exfalso; omega
    · refine rz_aload_n dX12_addGains_10 rfl ?_
      refine rz_getR dX12_addGains_11 kf_RX12_84 hd_81 rfl rr_81_35 ?_
      refine rz_bipush dX12_addGains_14 (by decide) ?_
      refine rz_iload_n dX12_addGains_16 rfl ?_
      refine rz_imul dX12_addGains_17 ?_
      refine rz_iload dX12_addGains_18 rfl ?_
      refine rz_iadd dX12_addGains_20 ?_
      refine rz_dup2 dX12_addGains_21 rfl rfl ?_
      refine rz_ialdN (k := (10 * v + p)) (z := (I 106 (10 * v + p))) dX12_addGains_22 hd_106 (by decide) (by omega) (by omega) (adM_at (by omega)) ?_
      refine rz_iload_n dX12_addGains_23 rfl ?_
      refine rz_if_ne (t := 41) dX12_addGains_24 rfl (by omega) (fun c24 => ?_) (fun c24 => ?_)
      · refine rz_iload dX12_addGains_41 rfl ?_
        refine rz_ineg dX12_addGains_43 ?_
        refine rz_aload_n dX12_addGains_44 rfl ?_
        refine rz_iload_n dX12_addGains_45 rfl ?_
        refine rz_iload_n dX12_addGains_46 rfl ?_
        refine rz_iload dX12_addGains_47 rfl ?_
        refine rz_cVI dX12_addGains_49 kl_RX12_260 hd_81 ⟨_, _, rfl⟩ (c_X12_valueOf X h (adM I 106 v p (fun x => w * gnV lw (I 82) (I 83) (I 84) b v x o)) J v o p (by omega) (by omega) (by omega)) rfl rfl (Nat.le_of_ble_eq_true rfl) (Nat.le_of_ble_eq_true rfl) ?_
        refine rz_imul dX12_addGains_52 ?_
        refine rz_iadd dX12_addGains_53 ?_
        refine rz_iastN (k := (10 * v + p)) dX12_addGains_54 hd_106 (by decide) (by omega) (by omega) ?_
        refine rz_iinc dX12_addGains_55 (by decide) rfl rfl rfl ?_
        refine rz_goto (t := 3) dX12_addGains_58 rfl ?_
        exact rz_bk ihp ⟨Or.inr rfl, Or.inr rfl, Or.inr rfl, Or.inr rfl, Or.inr rfl, Or.inr rfl, trivial⟩ ((adM_s (by first | exact gn_0 (by omega) (hH v hv p o (by omega) ho) | exact gn_1 (by omega) (hH v hv o p ho (by omega))))) (rfl)
      · refine rz_iload dX12_addGains_27 rfl ?_
        refine rz_aload_n dX12_addGains_29 rfl ?_
        refine rz_iload_n dX12_addGains_30 rfl ?_
        refine rz_iload dX12_addGains_31 rfl ?_
        refine rz_iload_n dX12_addGains_33 rfl ?_
        refine rz_cVI dX12_addGains_34 kl_RX12_260 hd_81 ⟨_, _, rfl⟩ ((by have q := c_X12_valueOf X h (adM I 106 v p (fun x => w * gnV lw (I 82) (I 83) (I 84) b v x o)) J v p o (by omega) (by omega) (by omega); exact q)) rfl rfl (Nat.le_of_ble_eq_true rfl) (Nat.le_of_ble_eq_true rfl) ?_
        refine rz_imul dX12_addGains_37 ?_
        refine rz_goto (t := 53) dX12_addGains_38 rfl ?_
        refine rz_iadd dX12_addGains_53 ?_
        refine rz_iastN (k := (10 * v + p)) dX12_addGains_54 hd_106 (by decide) (by omega) (by omega) ?_
        refine rz_iinc dX12_addGains_55 (by decide) rfl rfl rfl ?_
        refine rz_goto (t := 3) dX12_addGains_58 rfl ?_
        exact rz_bk ihp ⟨Or.inr rfl, Or.inr rfl, Or.inr rfl, Or.inr rfl, Or.inr rfl, Or.inr rfl, trivial⟩ ((adM_s (by first | exact gn_0 (by omega) (hH v hv p o (by omega) ho) | exact gn_1 (by omega) (hH v hv o p ho (by omega))))) (rfl)
  · skip
    refine rz_iload dX12_addGains_3 rfl ?_
    refine rz_bipush dX12_addGains_5 (by decide) ?_
    refine rz_icmp_gt (t := 61) dX12_addGains_7 rfl (by omega) (by omega) (fun c7 => ?_) (fun c7 => ?_)
    · refine rz_vret dX12_addGains_61 rfl ?_
      exact ⟨rfl, rfl, rfl⟩
    · exfalso; omega
