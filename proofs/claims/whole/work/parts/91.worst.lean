/-! rest, the class: the worst that may come -/
def wG (b : Nat) (lw : Lw) (W T U : Nat → Int) (r : List Nat) (v x : Nat) : Int := if b = 0 then -(ptsV lw W T U v (r.getD v 0) x) else ptsV lw W T U v x (r.getD v 0)
theorem wG_rg {b : Nat} {lw : Lw} {W T U : Nat → Int} {r : List Nat} {v x : Nat} (hW : 0 ≤ W v ∧ W v ≤ 9) : -9 ≤ wG b lw W T U r v x ∧ wG b lw W T U r v x ≤ 9 := by
  have h1 := pts_rg (lw := lw) (W := W) (T := T) (U := U) (v := v) (a := r.getD v 0) (b := x) hW
  have h2 := pts_rg (lw := lw) (W := W) (T := T) (U := U) (v := v) (a := x) (b := r.getD v 0) hW
  unfold wG
  split <;> omega
def PoI (g : Nat → Nat → Int) (p : Nat) (G : Nat → Int) : Prop := ∀ j, j < p → G j = g (j / 10) (j % 10)
theorem PoI_s {g : Nat → Nat → Int} {v x : Nat} {G : Nat → Int} {z : Int} (hx : x ≤ 9) (h : PoI g (10 * v + x) G) (hz : z = g v x) : PoI g (10 * v + (x + 1)) (up1 G (10 * v + x) z) := by
  intro j hj
  by_cases e : j = 10 * v + x
  · subst e; rw [up1_self, hz, show (10 * v + x) / 10 = v by omega, show (10 * v + x) % 10 = x by omega]
  · rw [up1_ne e]; exact h j (by omega)
theorem PoI_at {g : Nat → Nat → Int} {n v x : Nat} {G : Nat → Int} (h : PoI g (10 * n) G) (hv : v < n) (hx : x ≤ 9) : G (10 * v + x) = g v x := by
  rw [h _ (by omega), show (10 * v + x) / 10 = v by omega, show (10 * v + x) % 10 = x by omega]
theorem wG_GRg {I : IM} {g : Nat → Nat → Int} {n : Nat} {G : Nat → Int} (h : PoI g (10 * n) G) (hg : ∀ v x, v < n → x ≤ 9 → -9 ≤ g v x ∧ g v x ≤ 9) : GRg (upA I 36 G) 36 n := fun v x hv hx => by
  have e : upA I 36 G 36 (10 * v + x) = g v x := PoI_at h hv hx
  rw [e]
  have := hg v x hv hx
  omega
theorem wG_mx {I : IM} {g : Nat → Nat → Int} {n N : Nat} {G : Nat → Int} (h : PoI g (10 * n) G) (hN : N ≤ 9) : mx (gI (upA I 36 G) 36) true n 0 N = mx g true n 0 N := mx_congr (n := n) (fun v x hv hx => PoI_at h hv hx) n 0 N (by omega) hN
set_option maxRecDepth 20000 in
set_option maxHeartbeats 400000 in
theorem c_worst0 {X : pX} {I J : IM} {h : Nat} (lw : Lw) (n : Nat) (hn : I 6 0 = n ∧ n ≤ 5) (hW : ∀ v, v < n → 0 ≤ I 7 v ∧ I 7 v ≤ 9) (N : Nat) (hN : I 10 1 = N ∧ N ≤ 9) (i : Nat) (hi : i < 300) (r : List Nat) (hA : RowA I 40 (i * 5) n r) (hP : PtsOK I lw n) : KIq X (h + 3) mX3_worst [.ref 32, zi 0, zi (i : Int)] I J (fun z A B => z = -(mx (wG 0 lw (I 7) (I 8) (I 9) r) true n 0 N) ∧ (∃ G M, A = upA (upA I 36 G) 37 M) ∧ J = B) := by
  show Rz X (h + 3) mX3_worst 0 [some (.ref 32), some (zi 0), some (zi (i : Int)), none, none, none] [] I J _
  refine rz_iconst dX3_worst_0 ?_
  refine rz_istore_n dX3_worst_1 (by decide) rfl ?_
  refine rz_upx (σ := Nat → Int) (Inv := fun v sv => PoI (wG 0 lw (I 7) (I 8) (I 9) r) (10 * v) sv) (ls := fun (v : Nat) sv => [some (.ref 32), some (zi 0), some (zi (i : Int)), some (zi (v : Int)), none, none]) (IV := fun (v : Nat) sv => (upA I 36 sv)) (JV := fun (v : Nat) sv => J) (n) ((I 36)) (fun j hj => absurd hj (by omega)) ⟨Or.inr rfl, Or.inr rfl, Or.inr rfl, Or.inr rfl, Or.inl rfl, Or.inl rfl, trivial⟩ (upA_id) (rfl) ?_ ?_
  · intro v sv hv qv ihv
    have hr9 := (hA v hv).2
    refine rz_iload_n dX3_worst_2 rfl ?_
    refine rz_aload_n dX3_worst_3 rfl ?_
    refine rz_getR dX3_worst_4 kf_RX3_7 hd_32 rfl rr_32_4 ?_
    refine rz_getI (z := (n : Int)) dX3_worst_7 kf_RX3_69 hd_6 rfl (hn.1) ?_
    refine rz_icmp_ge (t := 114) dX3_worst_10 rfl (by omega) (by omega) (fun c10 => ?_) (fun c10 => ?_)
    · exfalso; omega
    · refine rz_aload_n dX3_worst_13 rfl ?_
      refine rz_getR dX3_worst_14 kf_RX3_35 hd_32 rfl rr_32_8 ?_
      refine rz_iload_n dX3_worst_17 rfl ?_
      refine rz_aald (by decide) dX3_worst_18 hd_39 (by decide) (by decide) rr_39_0 ?_
      refine rz_iload_n dX3_worst_19 rfl ?_
      refine rz_iconst dX3_worst_20 ?_
      refine rz_imul dX3_worst_21 ?_
      refine rz_iload_n dX3_worst_22 rfl ?_
      refine rz_iadd dX3_worst_23 ?_
      refine rz_ialdN (k := (i * 5 + v)) (z := ((r.getD v 0 : Nat) : Int)) dX3_worst_24 hd_40 (by decide) (by omega) (by omega) (hA v hv).1 ?_
      refine rz_istore dX3_worst_25 (by decide) rfl ?_
      refine rz_iconst dX3_worst_27 ?_
      refine rz_istore dX3_worst_28 (by decide) rfl ?_
      refine rz_upx (σ := Nat → Int) (Inv := fun x sx => PoI (wG 0 lw (I 7) (I 8) (I 9) r) (10 * v + x) sx) (ls := fun (x : Nat) sx => [some (.ref 32), some (zi 0), some (zi (i : Int)), some (zi (v : Int)), some (zi ((r.getD v 0 : Nat) : Int)), some (zi (x : Int))]) (IV := fun (x : Nat) sx => (upA I 36 sx)) (JV := fun (x : Nat) sx => J) (10) (sv) (by simpa using qv) ⟨Or.inr rfl, Or.inr rfl, Or.inr rfl, Or.inr rfl, Or.inr rfl, Or.inr rfl, trivial⟩ (rfl) (rfl) ?_ ?_
      · intro x sx hx qx ihx
        have h1r := pts_rg (lw := lw) (W := I 7) (T := I 8) (U := I 9) (v := v) (a := r.getD v 0) (b := x) (hW v hv)
        have h2r := pts_rg (lw := lw) (W := I 7) (T := I 8) (U := I 9) (v := v) (a := x) (b := r.getD v 0) (hW v hv)
        refine rz_iload dX3_worst_30 rfl ?_
        refine rz_bipush dX3_worst_32 (by decide) ?_
        refine rz_icmp_gt (t := 108) dX3_worst_34 rfl (by omega) (by omega) (fun c34 => ?_) (fun c34 => ?_)
        · exfalso; omega
        · refine rz_aload_n dX3_worst_37 rfl ?_
          refine rz_getR dX3_worst_38 kf_RX3_23 hd_32 rfl rr_32_6 ?_
          refine rz_getR dX3_worst_41 kf_RX3_143 hd_35 rfl rr_35_0 ?_
          refine rz_iload_n dX3_worst_44 rfl ?_
          refine rz_bipush dX3_worst_45 (by decide) ?_
          refine rz_imul dX3_worst_47 ?_
          refine rz_iload dX3_worst_48 rfl ?_
          refine rz_iadd dX3_worst_50 ?_
          refine rz_iload_n dX3_worst_51 rfl ?_
          refine rz_if_ne (t := 80) dX3_worst_52 rfl (by omega) (fun q => absurd q (by decide)) (fun _ => ?_)
          refine rz_aload_n dX3_worst_55 rfl ?_
          refine rz_getR dX3_worst_56 kf_RX3_7 hd_32 rfl rr_32_4 ?_
          refine rz_getR dX3_worst_59 kf_RX3_98 hd_6 rfl rr_6_5 ?_
          refine rz_iload_n dX3_worst_62 rfl ?_
          refine rz_bipush dX3_worst_63 (by decide) ?_
          refine rz_imul dX3_worst_65 ?_
          refine rz_iload dX3_worst_66 rfl ?_
          refine rz_bipush dX3_worst_68 (by decide) ?_
          refine rz_imul dX3_worst_70 ?_
          refine rz_iadd dX3_worst_71 ?_
          refine rz_iload dX3_worst_72 rfl ?_
          refine rz_iadd dX3_worst_74 ?_
          refine rz_ialdN (k := (100 * v + 10 * r.getD v 0 + x)) (z := (ptsV lw (I 7) (I 8) (I 9) v (r.getD v 0) x)) dX3_worst_75 hd_11 (by decide) (by omega) (by omega) (hP v hv _ x hr9 (by omega)) ?_
          refine rz_ineg dX3_worst_76 ?_
          refine rz_goto (t := 101) dX3_worst_77 rfl ?_
          refine rz_iastN (k := (10 * v + x)) dX3_worst_101 hd_36 (by decide) (by omega) (by omega) ?_
          refine rz_iinc dX3_worst_102 (by decide) rfl rfl rfl ?_
          refine rz_goto (t := 30) dX3_worst_105 rfl ?_
          exact rz_bk (ihx ((up1 sx (10 * v + x) ((wG 0 lw (I 7) (I 8) (I 9) r) v x))) ((PoI_s (by omega) qx rfl))) ⟨Or.inr rfl, Or.inr rfl, Or.inr rfl, Or.inr rfl, Or.inr rfl, Or.inr rfl, trivial⟩ (upA_upA.symm) (rfl)
      · intro sx qx
        refine rz_iload dX3_worst_30 rfl ?_
        refine rz_bipush dX3_worst_32 (by decide) ?_
        refine rz_icmp_gt (t := 108) dX3_worst_34 rfl (by omega) (by omega) (fun c34 => ?_) (fun c34 => ?_)
        · refine rz_iinc dX3_worst_108 (by decide) rfl rfl rfl ?_
          refine rz_goto (t := 2) dX3_worst_111 rfl ?_
          exact rz_bk (ihv (sx) ((by rw [show 10 * (v + 1) = 10 * v + 10 by omega]; exact qx))) ⟨Or.inr rfl, Or.inr rfl, Or.inr rfl, Or.inr rfl, Or.inl rfl, Or.inl rfl, trivial⟩ (rfl) (rfl)
        · exfalso; omega
  · intro sv qv
    refine rz_iload_n dX3_worst_2 rfl ?_
    refine rz_aload_n dX3_worst_3 rfl ?_
    refine rz_getR dX3_worst_4 kf_RX3_7 hd_32 rfl rr_32_4 ?_
    refine rz_getI (z := (n : Int)) dX3_worst_7 kf_RX3_69 hd_6 rfl (hn.1) ?_
    refine rz_icmp_ge (t := 114) dX3_worst_10 rfl (by omega) (by omega) (fun c10 => ?_) (fun c10 => ?_)
    · refine rz_aload_n dX3_worst_114 rfl ?_
      refine rz_getR dX3_worst_115 kf_RX3_23 hd_32 rfl rr_32_6 ?_
      refine rz_aload_n dX3_worst_118 rfl ?_
      refine rz_getR dX3_worst_119 kf_RX3_7 hd_32 rfl rr_32_4 ?_
      refine rz_getI (z := (n : Int)) dX3_worst_122 kf_RX3_69 hd_6 rfl (hn.1) ?_
      refine rz_aload_n dX3_worst_125 rfl ?_
      refine rz_getR dX3_worst_126 kf_RX3_7 hd_32 rfl rr_32_4 ?_
      refine rz_getR dX3_worst_129 kf_RX3_73 hd_6 rfl rr_6_4 ?_
      refine rz_iconst dX3_worst_132 ?_
      refine rz_iload_n dX3_worst_133 rfl ?_
      refine rz_isub dX3_worst_134 ?_
      refine rz_iald (z := (N : Int)) dX3_worst_135 hd_10 (by decide) (by omega) hN.1 ?_
      refine rz_iconst dX3_worst_136 ?_
      refine rz_cVIq dX3_worst_137 kl_RX3_146 hd_35 ⟨_, _, rfl⟩ (c_solve35 (I := upA I 36 sv) n N true hn.2 hN.2 (wG_GRg qv (fun v x hv hx => wG_rg (hW v hv)))) rfl rfl (Nat.le_of_ble_eq_true rfl) (Nat.le_of_ble_eq_true rfl) ?_
      rintro _ _ _ ⟨rfl, ⟨M, rfl, -⟩, rfl⟩
      refine rz_ieq (y := mx (wG 0 lw (I 7) (I 8) (I 9) r) true n 0 N) (wG_mx qv hN.2).symm ?_
      have hmr := mx_rg (g := (wG 0 lw (I 7) (I 8) (I 9) r)) (all := true) (G := 9) (n := n) (by decide) (fun v x hv hx => (wG_rg (hW v hv)).2) n 0 N (by omega) hN.2
      refine rz_ineg dX3_worst_140 ?_
      refine rz_iret dX3_worst_141 rfl ?_
      exact ⟨_, rfl, rfl, ⟨sv, M, rfl⟩, rfl⟩
    · exfalso; omega
set_option maxRecDepth 20000 in
set_option maxHeartbeats 400000 in
theorem c_worst1 {X : pX} {I J : IM} {h : Nat} (lw : Lw) (n : Nat) (hn : I 6 0 = n ∧ n ≤ 5) (hW : ∀ v, v < n → 0 ≤ I 7 v ∧ I 7 v ≤ 9) (N : Nat) (hN : I 10 0 = N ∧ N ≤ 9) (i : Nat) (hi : i < 300) (r : List Nat) (hA : RowA I 41 (i * 5) n r) (hP : PtsOK I lw n) : KIq X (h + 3) mX3_worst [.ref 32, zi 1, zi (i : Int)] I J (fun z A B => z = -(mx (wG 1 lw (I 7) (I 8) (I 9) r) true n 0 N) ∧ (∃ G M, A = upA (upA I 36 G) 37 M) ∧ J = B) := by
  show Rz X (h + 3) mX3_worst 0 [some (.ref 32), some (zi 1), some (zi (i : Int)), none, none, none] [] I J _
  refine rz_iconst dX3_worst_0 ?_
  refine rz_istore_n dX3_worst_1 (by decide) rfl ?_
  refine rz_upx (σ := Nat → Int) (Inv := fun v sv => PoI (wG 1 lw (I 7) (I 8) (I 9) r) (10 * v) sv) (ls := fun (v : Nat) sv => [some (.ref 32), some (zi 1), some (zi (i : Int)), some (zi (v : Int)), none, none]) (IV := fun (v : Nat) sv => (upA I 36 sv)) (JV := fun (v : Nat) sv => J) (n) ((I 36)) (fun j hj => absurd hj (by omega)) ⟨Or.inr rfl, Or.inr rfl, Or.inr rfl, Or.inr rfl, Or.inl rfl, Or.inl rfl, trivial⟩ (upA_id) (rfl) ?_ ?_
  · intro v sv hv qv ihv
    have hr9 := (hA v hv).2
    refine rz_iload_n dX3_worst_2 rfl ?_
    refine rz_aload_n dX3_worst_3 rfl ?_
    refine rz_getR dX3_worst_4 kf_RX3_7 hd_32 rfl rr_32_4 ?_
    refine rz_getI (z := (n : Int)) dX3_worst_7 kf_RX3_69 hd_6 rfl (hn.1) ?_
    refine rz_icmp_ge (t := 114) dX3_worst_10 rfl (by omega) (by omega) (fun c10 => ?_) (fun c10 => ?_)
    · exfalso; omega
    · refine rz_aload_n dX3_worst_13 rfl ?_
      refine rz_getR dX3_worst_14 kf_RX3_35 hd_32 rfl rr_32_8 ?_
      refine rz_iload_n dX3_worst_17 rfl ?_
      refine rz_aald (by decide) dX3_worst_18 hd_39 (by decide) (by decide) rr_39_1 ?_
      refine rz_iload_n dX3_worst_19 rfl ?_
      refine rz_iconst dX3_worst_20 ?_
      refine rz_imul dX3_worst_21 ?_
      refine rz_iload_n dX3_worst_22 rfl ?_
      refine rz_iadd dX3_worst_23 ?_
      refine rz_ialdN (k := (i * 5 + v)) (z := ((r.getD v 0 : Nat) : Int)) dX3_worst_24 hd_41 (by decide) (by omega) (by omega) (hA v hv).1 ?_
      refine rz_istore dX3_worst_25 (by decide) rfl ?_
      refine rz_iconst dX3_worst_27 ?_
      refine rz_istore dX3_worst_28 (by decide) rfl ?_
      refine rz_upx (σ := Nat → Int) (Inv := fun x sx => PoI (wG 1 lw (I 7) (I 8) (I 9) r) (10 * v + x) sx) (ls := fun (x : Nat) sx => [some (.ref 32), some (zi 1), some (zi (i : Int)), some (zi (v : Int)), some (zi ((r.getD v 0 : Nat) : Int)), some (zi (x : Int))]) (IV := fun (x : Nat) sx => (upA I 36 sx)) (JV := fun (x : Nat) sx => J) (10) (sv) (by simpa using qv) ⟨Or.inr rfl, Or.inr rfl, Or.inr rfl, Or.inr rfl, Or.inr rfl, Or.inr rfl, trivial⟩ (rfl) (rfl) ?_ ?_
      · intro x sx hx qx ihx
        have h1r := pts_rg (lw := lw) (W := I 7) (T := I 8) (U := I 9) (v := v) (a := r.getD v 0) (b := x) (hW v hv)
        have h2r := pts_rg (lw := lw) (W := I 7) (T := I 8) (U := I 9) (v := v) (a := x) (b := r.getD v 0) (hW v hv)
        refine rz_iload dX3_worst_30 rfl ?_
        refine rz_bipush dX3_worst_32 (by decide) ?_
        refine rz_icmp_gt (t := 108) dX3_worst_34 rfl (by omega) (by omega) (fun c34 => ?_) (fun c34 => ?_)
        · exfalso; omega
        · refine rz_aload_n dX3_worst_37 rfl ?_
          refine rz_getR dX3_worst_38 kf_RX3_23 hd_32 rfl rr_32_6 ?_
          refine rz_getR dX3_worst_41 kf_RX3_143 hd_35 rfl rr_35_0 ?_
          refine rz_iload_n dX3_worst_44 rfl ?_
          refine rz_bipush dX3_worst_45 (by decide) ?_
          refine rz_imul dX3_worst_47 ?_
          refine rz_iload dX3_worst_48 rfl ?_
          refine rz_iadd dX3_worst_50 ?_
          refine rz_iload_n dX3_worst_51 rfl ?_
          refine rz_if_ne (t := 80) dX3_worst_52 rfl (by omega) (fun _ => ?_) (fun q => absurd q (by decide))
          refine rz_aload_n dX3_worst_80 rfl ?_
          refine rz_getR dX3_worst_81 kf_RX3_7 hd_32 rfl rr_32_4 ?_
          refine rz_getR dX3_worst_84 kf_RX3_98 hd_6 rfl rr_6_5 ?_
          refine rz_iload_n dX3_worst_87 rfl ?_
          refine rz_bipush dX3_worst_88 (by decide) ?_
          refine rz_imul dX3_worst_90 ?_
          refine rz_iload dX3_worst_91 rfl ?_
          refine rz_bipush dX3_worst_93 (by decide) ?_
          refine rz_imul dX3_worst_95 ?_
          refine rz_iadd dX3_worst_96 ?_
          refine rz_iload dX3_worst_97 rfl ?_
          refine rz_iadd dX3_worst_99 ?_
          refine rz_ialdN (k := (100 * v + 10 * x + r.getD v 0)) (z := (ptsV lw (I 7) (I 8) (I 9) v x (r.getD v 0))) dX3_worst_100 hd_11 (by decide) (by omega) (by omega) (hP v hv x _ (by omega) hr9) ?_
          refine rz_iastN (k := (10 * v + x)) dX3_worst_101 hd_36 (by decide) (by omega) (by omega) ?_
          refine rz_iinc dX3_worst_102 (by decide) rfl rfl rfl ?_
          refine rz_goto (t := 30) dX3_worst_105 rfl ?_
          exact rz_bk (ihx ((up1 sx (10 * v + x) ((wG 1 lw (I 7) (I 8) (I 9) r) v x))) ((PoI_s (by omega) qx rfl))) ⟨Or.inr rfl, Or.inr rfl, Or.inr rfl, Or.inr rfl, Or.inr rfl, Or.inr rfl, trivial⟩ (upA_upA.symm) (rfl)
      · intro sx qx
        refine rz_iload dX3_worst_30 rfl ?_
        refine rz_bipush dX3_worst_32 (by decide) ?_
        refine rz_icmp_gt (t := 108) dX3_worst_34 rfl (by omega) (by omega) (fun c34 => ?_) (fun c34 => ?_)
        · refine rz_iinc dX3_worst_108 (by decide) rfl rfl rfl ?_
          refine rz_goto (t := 2) dX3_worst_111 rfl ?_
          exact rz_bk (ihv (sx) ((by rw [show 10 * (v + 1) = 10 * v + 10 by omega]; exact qx))) ⟨Or.inr rfl, Or.inr rfl, Or.inr rfl, Or.inr rfl, Or.inl rfl, Or.inl rfl, trivial⟩ (rfl) (rfl)
        · exfalso; omega
  · intro sv qv
    refine rz_iload_n dX3_worst_2 rfl ?_
    refine rz_aload_n dX3_worst_3 rfl ?_
    refine rz_getR dX3_worst_4 kf_RX3_7 hd_32 rfl rr_32_4 ?_
    refine rz_getI (z := (n : Int)) dX3_worst_7 kf_RX3_69 hd_6 rfl (hn.1) ?_
    refine rz_icmp_ge (t := 114) dX3_worst_10 rfl (by omega) (by omega) (fun c10 => ?_) (fun c10 => ?_)
    · refine rz_aload_n dX3_worst_114 rfl ?_
      refine rz_getR dX3_worst_115 kf_RX3_23 hd_32 rfl rr_32_6 ?_
      refine rz_aload_n dX3_worst_118 rfl ?_
      refine rz_getR dX3_worst_119 kf_RX3_7 hd_32 rfl rr_32_4 ?_
      refine rz_getI (z := (n : Int)) dX3_worst_122 kf_RX3_69 hd_6 rfl (hn.1) ?_
      refine rz_aload_n dX3_worst_125 rfl ?_
      refine rz_getR dX3_worst_126 kf_RX3_7 hd_32 rfl rr_32_4 ?_
      refine rz_getR dX3_worst_129 kf_RX3_73 hd_6 rfl rr_6_4 ?_
      refine rz_iconst dX3_worst_132 ?_
      refine rz_iload_n dX3_worst_133 rfl ?_
      refine rz_isub dX3_worst_134 ?_
      refine rz_iald (z := (N : Int)) dX3_worst_135 hd_10 (by decide) (by omega) hN.1 ?_
      refine rz_iconst dX3_worst_136 ?_
      refine rz_cVIq dX3_worst_137 kl_RX3_146 hd_35 ⟨_, _, rfl⟩ (c_solve35 (I := upA I 36 sv) n N true hn.2 hN.2 (wG_GRg qv (fun v x hv hx => wG_rg (hW v hv)))) rfl rfl (Nat.le_of_ble_eq_true rfl) (Nat.le_of_ble_eq_true rfl) ?_
      rintro _ _ _ ⟨rfl, ⟨M, rfl, -⟩, rfl⟩
      refine rz_ieq (y := mx (wG 1 lw (I 7) (I 8) (I 9) r) true n 0 N) (wG_mx qv hN.2).symm ?_
      have hmr := mx_rg (g := (wG 1 lw (I 7) (I 8) (I 9) r)) (all := true) (G := 9) (n := n) (by decide) (fun v x hv hx => (wG_rg (hW v hv)).2) n 0 N (by omega) hN.2
      refine rz_ineg dX3_worst_140 ?_
      refine rz_iret dX3_worst_141 rfl ?_
      exact ⟨_, rfl, rfl, ⟨sv, M, rfl⟩, rfl⟩
    · exfalso; omega
