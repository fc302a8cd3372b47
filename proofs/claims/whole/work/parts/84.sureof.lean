/-! surely had: the reference's table, and the calls -/
def dpF (pos : Nat → Nat → Nat → Bool) (r : Nat → Nat) (m v left : Nat) : Nat → Int := fun b => (if pos v (r v) b = true then 1 else 0) + dpS pos r m (v + 1) (left - b)
theorem mnF_rg {f : Nat → Int} {k : Nat} (h : ∀ b, 0 ≤ f b) : 0 ≤ mnF f k ∧ mnF f k ≤ 6 := by
  induction k with
  | zero => show 0 ≤ (6 : Int) ∧ (6 : Int) ≤ 6; omega
  | succ k ih =>
    unfold mnF
    have := h k
    split <;> omega
theorem dpS_rg {pos : Nat → Nat → Nat → Bool} {r : Nat → Nat} : ∀ m v left, 0 ≤ dpS pos r m v left ∧ dpS pos r m v left ≤ 6
  | 0, v, left => by show 0 ≤ (0 : Int) ∧ (0 : Int) ≤ 6; omega
  | m + 1, v, left => by
    unfold dpS
    exact mnF_rg (fun b => by
      have h := dpS_rg (pos := pos) (r := r) m (v + 1) (left - b)
      have h01 : 0 ≤ (if pos v (r v) b = true then (1 : Int) else 0) := by split <;> omega
      show 0 ≤ (if pos v (r v) b = true then (1 : Int) else 0) + _
      omega)
theorem dpF_rg {pos : Nat → Nat → Nat → Bool} {r : Nat → Nat} {m v left b : Nat} : 0 ≤ dpF pos r m v left b ∧ dpF pos r m v left b ≤ 7 := by
  have h := dpS_rg (pos := pos) (r := r) m (v + 1) (left - b)
  have h01 : 0 ≤ (if pos v (r v) b = true then (1 : Int) else 0) ∧ (if pos v (r v) b = true then (1 : Int) else 0) ≤ 1 := by split <;> omega
  unfold dpF
  omega
theorem mnF_y {f : Nat → Int} {k : Nat} {z : Int} (e : f k = z) (h : z < mnF f k) : mnF f (k + 1) = z := by subst e; exact if_pos h
theorem mnF_n {f : Nat → Int} {k : Nat} {z : Int} (e : f k = z) (h : ¬ z < mnF f k) : mnF f (k + 1) = mnF f k := by subst e; exact if_neg h
def DpI (pos : Nat → Nat → Nat → Bool) (r : Nat → Nat) (n k : Nat) (F : Nat → Int) : Prop := ∀ u x, u ≤ n → n ≤ u + k → x ≤ 9 → F (10 * u + x) = dpS pos r (n - u) u x
theorem DpI_0 {pos : Nat → Nat → Nat → Bool} {r : Nat → Nat} {n : Nat} {F : Nat → Int} (h : ∀ x, x < 10 → F (10 * n + x) = 0) : DpI pos r n 0 F := by
  intro u x h1 h2 h3
  obtain rfl : u = n := by omega
  rw [h x (by omega), Nat.sub_self]; rfl
theorem DpI_s {pos : Nat → Nat → Nat → Bool} {r : Nat → Nat} {n k v : Nat} {F : Nat → Int} (hv : v + k + 1 = n) (h : DpI pos r n k F) (h2 : ∀ x, x < 10 → F (10 * v + x) = dpS pos r (k + 1) v x) : DpI pos r n (k + 1) F := by
  intro u x h1 h3 h4
  by_cases e : u = v
  · subst e; rw [h2 x (by omega), show n - u = k + 1 by omega]
  · exact h u x h1 (by omega) h4
theorem DpI_u {pos : Nat → Nat → Nat → Bool} {r : Nat → Nat} {n k v e : Nat} {F : Nat → Int} {z : Int} (hv : v + k + 1 = n) (he : e ≤ 9) (h : DpI pos r n k F) : DpI pos r n k (up1 F (10 * v + e) z) := by
  intro u x h1 h3 h4
  rw [up1_ne (by omega)]; exact h u x h1 h3 h4
theorem HasR_at {I : IM} {lw : Lw} {n v a b : Nat} (h : HasR I lw n) (hv : v < n) (ha : a ≤ 9) (hb : b ≤ 9) : I 102 (100 * v + 10 * a + b) = hvV lw (I 82) (I 83) (I 84) v a b := h v hv a b ha hb
theorem hv_rg3 {lw : Lw} {W T U : Nat → Int} {v a b : Nat} : -1 ≤ hvV lw W T U v a b ∧ hvV lw W T U v a b ≤ 1 := by
  unfold hvV
  rcases hasV_c (lw := lw) (w := W v) (t := T v) (u := U v) (v := (v : Int)) (a := (a : Int)) (b := (b : Int)) with e | e | e <;> omega
set_option maxRecDepth 20000 in
set_option maxHeartbeats 400000 in
theorem c_X12_sureOf {X : pX} {I J : IM} {h : Nat} (lw : Lw) (n : Nat) (hn : I 81 1 = n ∧ n ≤ 5) (a k0 Na L : Nat) (r : Nat → Nat) (ha : HD0[a]? = some (1, 1, Na)) (hNa : 5 * k0 + n ≤ Na ∧ Na ≤ 20000) (hA : ∀ v, v < n → I a (5 * k0 + v) = ((r v : Nat) : Int) ∧ r v ≤ 9) (hane : a ≠ 111) (hL : I 85 1 = L ∧ L ≤ 9) (hH : HasR I lw n) : KIq X h mX12_sureOf [.ref 81, .ref a, zi (k0 : Int)] I J (fun z A B => z = dpS (posV lw (I 82) (I 83) (I 84)) r n 0 L ∧ (∃ F, A = upA I 111 F) ∧ J = B) := by
  show Rz X h mX12_sureOf 0 [some (.ref 81), some (.ref a), some (zi (k0 : Int)), none, none, none, none, none, none] [] I J _
  refine rz_iconst dX12_sureOf_0 ?_
  refine rz_istore_n dX12_sureOf_1 (by decide) rfl ?_
  refine rz_upx (σ := Nat → Int) (Inv := fun l sl => ∀ x, x < l → sl (10 * n + x) = 0) (ls := fun (l : Nat) sl => [some (.ref 81), some (.ref a), some (zi (k0 : Int)), some (zi (l : Int)), none, none, none, none, none]) (IV := fun (l : Nat) sl => (upA I 111 sl)) (JV := fun (l : Nat) sl => J) (10) ((I 111)) (fun x hx => absurd hx (by omega)) ⟨Or.inr rfl, Or.inr rfl, Or.inr rfl, Or.inr rfl, Or.inl rfl, Or.inl rfl, Or.inl rfl, Or.inl rfl, Or.inl rfl, trivial⟩ (upA_id) (rfl) ?_ ?_
  · intro l sl hl ql ihl
    refine rz_iload_n dX12_sureOf_2 rfl ?_
    refine rz_bipush dX12_sureOf_3 (by decide) ?_
    refine rz_icmp_gt (t := 29) dX12_sureOf_5 rfl (by omega) (by omega) (fun c5 => ?_) (fun c5 => ?_)
    · exfalso; omega
    · refine rz_aload_n dX12_sureOf_8 rfl ?_
      refine rz_getR dX12_sureOf_9 kf_RX12_99 hd_81 rfl rr_81_44 ?_
      refine rz_bipush dX12_sureOf_12 (by decide) ?_
      refine rz_aload_n dX12_sureOf_14 rfl ?_
      refine rz_getI (z := (n : Int)) dX12_sureOf_15 kf_RX12_137 hd_81 rfl (hn.1) ?_
      refine rz_imul dX12_sureOf_18 ?_
      refine rz_iload_n dX12_sureOf_19 rfl ?_
      refine rz_iadd dX12_sureOf_20 ?_
      refine rz_iconst dX12_sureOf_21 ?_
      refine rz_iastN (k := (10 * n + l)) dX12_sureOf_22 hd_111 (by decide) (by omega) (by omega) ?_
      refine rz_iinc dX12_sureOf_23 (by decide) rfl rfl rfl ?_
      refine rz_goto (t := 2) dX12_sureOf_26 rfl ?_
      exact rz_bk (ihl ((up1 sl (10 * n + l) 0)) ((fun x hx => by by_cases e : x = l; (subst e; exact up1_self); (rw [up1_ne (by omega)]; exact ql x (by omega))))) ⟨Or.inr rfl, Or.inr rfl, Or.inr rfl, Or.inr rfl, Or.inl rfl, Or.inl rfl, Or.inl rfl, Or.inl rfl, Or.inl rfl, trivial⟩ (upA_upA.symm) (rfl)
  · intro sl ql
    refine rz_iload_n dX12_sureOf_2 rfl ?_
    refine rz_bipush dX12_sureOf_3 (by decide) ?_
    refine rz_icmp_gt (t := 29) dX12_sureOf_5 rfl (by omega) (by omega) (fun c5 => ?_) (fun c5 => ?_)
    · refine rz_aload_n dX12_sureOf_29 rfl ?_
      refine rz_getI (z := (n : Int)) dX12_sureOf_30 kf_RX12_137 hd_81 rfl (hn.1) ?_
      refine rz_iconst dX12_sureOf_33 ?_
      refine rz_isub dX12_sureOf_34 ?_
      refine rz_istore_n dX12_sureOf_35 (by decide) rfl ?_
      refine rz_upx (σ := Nat → Int) (Inv := fun k sk => DpI (posV lw (I 82) (I 83) (I 84)) r n k sk) (ls := fun (k : Nat) sk => [some (.ref 81), some (.ref a), some (zi (k0 : Int)), some (zi ((n : Int) - 1 - (k : Int))), none, none, none, none, none]) (IV := fun (k : Nat) sk => (upA I 111 sk)) (JV := fun (k : Nat) sk => J) (n) (sl) (DpI_0 ql) ⟨Or.inr rfl, Or.inr rfl, Or.inr rfl, Or.inr (congrArg (fun z => some (zi z)) (by omega)), Or.inl rfl, Or.inl rfl, Or.inl rfl, Or.inl rfl, Or.inl rfl, trivial⟩ (rfl) (rfl) ?_ ?_
      · intro k sk hk qk ihk
        refine rz_iload_n dX12_sureOf_36 rfl ?_
        refine rz_if_lt (t := 163) dX12_sureOf_37 rfl (by omega) (fun c37 => ?_) (fun c37 => ?_)
        · exfalso; omega
        · obtain ⟨v, hv⟩ : ∃ v, v + k + 1 = n := ⟨n - 1 - k, by omega⟩
          have hvn : v < n := by omega
          have hrv := (hA v hvn).2
          refine rz_to (ls' := [some (.ref 81), some (.ref a), some (zi (k0 : Int)), some (zi (v : Int)), none, none, none, none, none]) (I' := _) (J' := _) ⟨Or.inr rfl, Or.inr rfl, Or.inr rfl, Or.inr (congrArg (fun z => some (zi z)) (by omega)), Or.inl rfl, Or.inl rfl, Or.inl rfl, Or.inl rfl, Or.inl rfl, trivial⟩ rfl rfl ?_
          refine rz_aload_n dX12_sureOf_40 rfl ?_
          refine rz_iconst dX12_sureOf_41 ?_
          refine rz_iload_n dX12_sureOf_42 rfl ?_
          refine rz_imul dX12_sureOf_43 ?_
          refine rz_iload_n dX12_sureOf_44 rfl ?_
          refine rz_iadd dX12_sureOf_45 ?_
          refine rz_baldN (k := (5 * k0 + v)) (z := ((r v : Nat) : Int)) dX12_sureOf_46 ha (by omega) (by omega) (by omega) ((congrFun (show upA I 111 sk a = I a from if_neg hane) _).trans (hA v hvn).1) ?_
          refine rz_istore dX12_sureOf_47 (by decide) rfl ?_
          refine rz_iconst dX12_sureOf_49 ?_
          refine rz_istore dX12_sureOf_50 (by decide) rfl ?_
          refine rz_upx (σ := Nat → Int) (Inv := fun e se => DpI (posV lw (I 82) (I 83) (I 84)) r n k se ∧ ∀ x, x < e → se (10 * v + x) = dpS (posV lw (I 82) (I 83) (I 84)) r (k + 1) v x) (ls := fun (e : Nat) se => [some (.ref 81), some (.ref a), some (zi (k0 : Int)), some (zi (v : Int)), some (zi ((r v : Nat) : Int)), some (zi (e : Int)), none, none, none]) (IV := fun (e : Nat) se => (upA I 111 se)) (JV := fun (e : Nat) se => J) (10) (sk) ⟨qk, fun x hx => absurd hx (by omega)⟩ ⟨Or.inr rfl, Or.inr rfl, Or.inr rfl, Or.inr rfl, Or.inr rfl, Or.inr rfl, Or.inl rfl, Or.inl rfl, Or.inl rfl, trivial⟩ (rfl) (rfl) ?_ ?_
          · intro e se he qe ihe
            refine rz_iload dX12_sureOf_52 rfl ?_
            refine rz_bipush dX12_sureOf_54 (by decide) ?_
            refine rz_icmp_gt (t := 157) dX12_sureOf_56 rfl (by omega) (by omega) (fun c56 => ?_) (fun c56 => ?_)
            · exfalso; omega
            · refine rz_bipush dX12_sureOf_59 (by decide) ?_
              refine rz_istore dX12_sureOf_61 (by decide) rfl ?_
              refine rz_iconst dX12_sureOf_63 ?_
              refine rz_istore dX12_sureOf_64 (by decide) rfl ?_
              refine rz_up (ls := fun b : Nat => [some (.ref 81), some (.ref a), some (zi (k0 : Int)), some (zi (v : Int)), some (zi ((r v : Nat) : Int)), some (zi (e : Int)), some (zi (mnF (dpF (posV lw (I 82) (I 83) (I 84)) r k v e) b)), some (zi (b : Int)), none]) (IV := fun b : Nat => (upA I 111 se)) (JV := fun b : Nat => J) ((e + 1)) ⟨Or.inr rfl, Or.inr rfl, Or.inr rfl, Or.inr rfl, Or.inr rfl, Or.inr rfl, Or.inr rfl, Or.inr rfl, Or.inl rfl, trivial⟩ (rfl) (rfl) ?_ ?_
              · intro b hb ihb
                have hmr := mnF_rg (f := (dpF (posV lw (I 82) (I 83) (I 84)) r k v e)) (k := b) (fun b => (dpF_rg (b := b)).1)
                have hdr := dpS_rg (pos := (posV lw (I 82) (I 83) (I 84))) (r := r) k (v + 1) (e - b)
                have hhr := hv_rg3 (lw := lw) (W := I 82) (T := I 83) (U := I 84) (v := v) (a := r v) (b := b)
                have hp1 : hvV lw (I 82) (I 83) (I 84) v (r v) b = 1 → (dpF (posV lw (I 82) (I 83) (I 84)) r k v e) b = 1 + dpS (posV lw (I 82) (I 83) (I 84)) r k (v + 1) (e - b) := fun q => by unfold dpF posV; rw [if_pos (decide_eq_true q)]
                have hp0 : hvV lw (I 82) (I 83) (I 84) v (r v) b ≠ 1 → (dpF (posV lw (I 82) (I 83) (I 84)) r k v e) b = 0 + dpS (posV lw (I 82) (I 83) (I 84)) r k (v + 1) (e - b) := fun q => by unfold dpF posV; rw [if_neg (fun q2 => q (of_decide_eq_true q2))]
                refine rz_iload dX12_sureOf_66 rfl ?_
                refine rz_iload dX12_sureOf_68 rfl ?_
                refine rz_icmp_gt (t := 137) dX12_sureOf_70 rfl (by omega) (by omega) (fun c70 => ?_) (fun c70 => ?_)
                · exfalso; omega
                · refine rz_aload_n dX12_sureOf_73 rfl ?_
                  refine rz_getR dX12_sureOf_74 kf_RX12_72 hd_81 rfl rr_81_30 ?_
                  refine rz_bipush dX12_sureOf_77 (by decide) ?_
                  refine rz_iload_n dX12_sureOf_79 rfl ?_
                  refine rz_imul dX12_sureOf_80 ?_
                  refine rz_bipush dX12_sureOf_81 (by decide) ?_
                  refine rz_iload dX12_sureOf_83 rfl ?_
                  refine rz_imul dX12_sureOf_85 ?_
                  refine rz_iadd dX12_sureOf_86 ?_
                  refine rz_iload dX12_sureOf_87 rfl ?_
                  refine rz_iadd dX12_sureOf_89 ?_
                  refine rz_baldN (k := (100 * v + 10 * r v + b)) (z := (hvV lw (I 82) (I 83) (I 84) v (r v) b)) dX12_sureOf_90 hd_102 (by decide) (by omega) (by omega) (HasR_at hH hvn hrv (by omega)) ?_
                  refine rz_iconst dX12_sureOf_91 ?_
                  refine rz_icmp_ne (t := 99) dX12_sureOf_92 rfl (by omega) (by omega) (fun c92 => ?_) (fun c92 => ?_)
                  · refine rz_iconst dX12_sureOf_99 ?_
                    refine rz_aload_n dX12_sureOf_100 rfl ?_
                    refine rz_getR dX12_sureOf_101 kf_RX12_99 hd_81 rfl rr_81_44 ?_
                    refine rz_bipush dX12_sureOf_104 (by decide) ?_
                    refine rz_iload_n dX12_sureOf_106 rfl ?_
                    refine rz_iconst dX12_sureOf_107 ?_
                    refine rz_iadd dX12_sureOf_108 ?_
                    refine rz_imul dX12_sureOf_109 ?_
                    refine rz_iload dX12_sureOf_110 rfl ?_
                    refine rz_iadd dX12_sureOf_112 ?_
                    refine rz_iload dX12_sureOf_113 rfl ?_
                    refine rz_isub dX12_sureOf_115 ?_
                    refine rz_ialdN (k := (10 * (v + 1) + (e - b))) (z := (dpS (posV lw (I 82) (I 83) (I 84)) r k (v + 1) (e - b))) dX12_sureOf_116 hd_111 (by decide) (by omega) (by omega) (by have q := qe.1 (v + 1) (e - b) (by omega) (by omega) (by omega); rw [show n - (v + 1) = k by omega] at q; exact q) ?_
                    refine rz_iadd dX12_sureOf_117 ?_
                    refine rz_istore dX12_sureOf_118 (by decide) rfl ?_
                    refine rz_iload dX12_sureOf_120 rfl ?_
                    refine rz_iload dX12_sureOf_122 rfl ?_
                    refine rz_icmp_ge (t := 131) dX12_sureOf_124 rfl (by omega) (by omega) (fun c124 => ?_) (fun c124 => ?_)
                    · refine rz_iinc dX12_sureOf_131 (by decide) rfl rfl rfl ?_
                      refine rz_goto (t := 66) dX12_sureOf_134 rfl ?_
                      exact rz_bk ihb ⟨Or.inr rfl, Or.inr rfl, Or.inr rfl, Or.inr rfl, Or.inr rfl, Or.inr rfl, Or.inr (congrArg (fun z => some (zi z)) (by first | exact (mnF_y (by first | exact hp1 (by assumption) | exact hp0 (by assumption)) (by omega)) | exact (mnF_n (by first | exact hp1 (by assumption) | exact hp0 (by assumption)) (by omega)))), Or.inr rfl, Or.inl rfl, trivial⟩ (rfl) (rfl)
                    · refine rz_iload dX12_sureOf_127 rfl ?_
                      refine rz_istore dX12_sureOf_129 (by decide) rfl ?_
                      refine rz_iinc (ls' := [some (.ref 81), some (.ref a), some (zi (k0 : Int)), some (zi (v : Int)), some (zi ((r v : Nat) : Int)), some (zi (e : Int)), some (zi (0 + (dpS (posV lw (I 82) (I 83) (I 84)) r k (v + 1) (e - b)))), some (zi ((b : Int) + 1)), some (zi (0 + (dpS (posV lw (I 82) (I 83) (I 84)) r k (v + 1) (e - b))))]) dX12_sureOf_131 (by decide) rfl rfl rfl ?_
                      refine rz_goto (t := 66) dX12_sureOf_134 rfl ?_
                      exact rz_bk ihb ⟨Or.inr rfl, Or.inr rfl, Or.inr rfl, Or.inr rfl, Or.inr rfl, Or.inr rfl, Or.inr (congrArg (fun z => some (zi z)) (by first | exact (mnF_y (by first | exact hp1 (by assumption) | exact hp0 (by assumption)) (by omega)) | exact (mnF_n (by first | exact hp1 (by assumption) | exact hp0 (by assumption)) (by omega)))), Or.inr rfl, Or.inl rfl, trivial⟩ (rfl) (rfl)
                  · refine rz_iconst dX12_sureOf_95 ?_
                    refine rz_goto (t := 100) dX12_sureOf_96 rfl ?_
                    refine rz_aload_n dX12_sureOf_100 rfl ?_
                    refine rz_getR dX12_sureOf_101 kf_RX12_99 hd_81 rfl rr_81_44 ?_
                    refine rz_bipush dX12_sureOf_104 (by decide) ?_
                    refine rz_iload_n dX12_sureOf_106 rfl ?_
                    refine rz_iconst dX12_sureOf_107 ?_
                    refine rz_iadd dX12_sureOf_108 ?_
                    refine rz_imul dX12_sureOf_109 ?_
                    refine rz_iload dX12_sureOf_110 rfl ?_
                    refine rz_iadd dX12_sureOf_112 ?_
                    refine rz_iload dX12_sureOf_113 rfl ?_
                    refine rz_isub dX12_sureOf_115 ?_
                    refine rz_ialdN (k := (10 * (v + 1) + (e - b))) (z := (dpS (posV lw (I 82) (I 83) (I 84)) r k (v + 1) (e - b))) dX12_sureOf_116 hd_111 (by decide) (by omega) (by omega) (by have q := qe.1 (v + 1) (e - b) (by omega) (by omega) (by omega); rw [show n - (v + 1) = k by omega] at q; exact q) ?_
                    refine rz_iadd dX12_sureOf_117 ?_
                    refine rz_istore dX12_sureOf_118 (by decide) rfl ?_
                    refine rz_iload dX12_sureOf_120 rfl ?_
                    refine rz_iload dX12_sureOf_122 rfl ?_
                    refine rz_icmp_ge (t := 131) dX12_sureOf_124 rfl (by omega) (by omega) (fun c124 => ?_) (fun c124 => ?_)
                    · refine rz_iinc dX12_sureOf_131 (by decide) rfl rfl rfl ?_
                      refine rz_goto (t := 66) dX12_sureOf_134 rfl ?_
                      exact rz_bk ihb ⟨Or.inr rfl, Or.inr rfl, Or.inr rfl, Or.inr rfl, Or.inr rfl, Or.inr rfl, Or.inr (congrArg (fun z => some (zi z)) (by first | exact (mnF_y (by first | exact hp1 (by assumption) | exact hp0 (by assumption)) (by omega)) | exact (mnF_n (by first | exact hp1 (by assumption) | exact hp0 (by assumption)) (by omega)))), Or.inr rfl, Or.inl rfl, trivial⟩ (rfl) (rfl)
                    · refine rz_iload dX12_sureOf_127 rfl ?_
                      refine rz_istore dX12_sureOf_129 (by decide) rfl ?_
                      refine rz_iinc (ls' := [some (.ref 81), some (.ref a), some (zi (k0 : Int)), some (zi (v : Int)), some (zi ((r v : Nat) : Int)), some (zi (e : Int)), some (zi (1 + (dpS (posV lw (I 82) (I 83) (I 84)) r k (v + 1) (e - b)))), some (zi ((b : Int) + 1)), some (zi (1 + (dpS (posV lw (I 82) (I 83) (I 84)) r k (v + 1) (e - b))))]) dX12_sureOf_131 (by decide) rfl rfl rfl ?_
                      refine rz_goto (t := 66) dX12_sureOf_134 rfl ?_
                      exact rz_bk ihb ⟨Or.inr rfl, Or.inr rfl, Or.inr rfl, Or.inr rfl, Or.inr rfl, Or.inr rfl, Or.inr (congrArg (fun z => some (zi z)) (by first | exact (mnF_y (by first | exact hp1 (by assumption) | exact hp0 (by assumption)) (by omega)) | exact (mnF_n (by first | exact hp1 (by assumption) | exact hp0 (by assumption)) (by omega)))), Or.inr rfl, Or.inl rfl, trivial⟩ (rfl) (rfl)
              · skip
                refine rz_iload dX12_sureOf_66 rfl ?_
                refine rz_iload dX12_sureOf_68 rfl ?_
                refine rz_icmp_gt (t := 137) dX12_sureOf_70 rfl (by omega) (by omega) (fun c70 => ?_) (fun c70 => ?_)
                · refine rz_aload_n dX12_sureOf_137 rfl ?_
                  refine rz_getR dX12_sureOf_138 kf_RX12_99 hd_81 rfl rr_81_44 ?_
                  refine rz_bipush dX12_sureOf_141 (by decide) ?_
                  refine rz_iload_n dX12_sureOf_143 rfl ?_
                  refine rz_imul dX12_sureOf_144 ?_
                  refine rz_iload dX12_sureOf_145 rfl ?_
                  refine rz_iadd dX12_sureOf_147 ?_
                  refine rz_iload dX12_sureOf_148 rfl ?_
                  refine rz_iastN (k := (10 * v + e)) dX12_sureOf_150 hd_111 (by decide) (by omega) (by omega) ?_
                  refine rz_iinc dX12_sureOf_151 (by decide) rfl rfl rfl ?_
                  refine rz_goto (t := 52) dX12_sureOf_154 rfl ?_
                  exact rz_bk (ihe ((up1 se (10 * v + e) (mnF (dpF (posV lw (I 82) (I 83) (I 84)) r k v e) (e + 1)))) (⟨DpI_u hv (by omega) qe.1, fun x hx => by by_cases q : x = e; (subst q; exact up1_self); (rw [up1_ne (by omega)]; exact qe.2 x (by omega))⟩)) ⟨Or.inr rfl, Or.inr rfl, Or.inr rfl, Or.inr rfl, Or.inr rfl, Or.inr rfl, Or.inl rfl, Or.inl rfl, Or.inl rfl, trivial⟩ (upA_upA.symm) (rfl)
                · exfalso; omega
          · intro se qe
            refine rz_iload dX12_sureOf_52 rfl ?_
            refine rz_bipush dX12_sureOf_54 (by decide) ?_
            refine rz_icmp_gt (t := 157) dX12_sureOf_56 rfl (by omega) (by omega) (fun c56 => ?_) (fun c56 => ?_)
            · refine rz_iinc dX12_sureOf_157 (by decide) rfl rfl rfl ?_
              refine rz_goto (t := 36) dX12_sureOf_160 rfl ?_
              exact rz_bk (ihk (se) ((DpI_s hv qe.1 qe.2))) ⟨Or.inr rfl, Or.inr rfl, Or.inr rfl, Or.inr (congrArg (fun z => some (zi z)) (by omega)), Or.inl rfl, Or.inl rfl, Or.inl rfl, Or.inl rfl, Or.inl rfl, trivial⟩ (rfl) (rfl)
            · exfalso; omega
      · intro sk qk
        refine rz_iload_n dX12_sureOf_36 rfl ?_
        refine rz_if_lt (t := 163) dX12_sureOf_37 rfl (by omega) (fun c37 => ?_) (fun c37 => ?_)
        · refine rz_aload_n dX12_sureOf_163 rfl ?_
          refine rz_getR dX12_sureOf_164 kf_RX12_99 hd_81 rfl rr_81_44 ?_
          refine rz_aload_n dX12_sureOf_167 rfl ?_
          refine rz_getR dX12_sureOf_168 kf_RX12_19 hd_81 rfl rr_81_5 ?_
          refine rz_iconst dX12_sureOf_171 ?_
          refine rz_iald (z := (L : Int)) dX12_sureOf_172 hd_85 (by decide) (by omega) hL.1 ?_
          refine rz_ialdN (k := L) (z := (dpS (posV lw (I 82) (I 83) (I 84)) r n 0 L)) dX12_sureOf_173 hd_111 (by decide) (by omega) (by omega) (by have q := qk 0 L (by omega) (by omega) hL.2; rw [Nat.mul_zero, Nat.zero_add, Nat.sub_zero] at q; exact q) ?_
          refine rz_iret dX12_sureOf_174 rfl ?_
          exact ⟨_, rfl, rfl, ⟨sk, rfl⟩, rfl⟩
        · exfalso; omega
    · exfalso; omega
