/-! ring, the reference: whether one beats the other -/
set_option maxRecDepth 20000 in
set_option maxHeartbeats 400000 in
theorem c_X12_beats {X : pX} {I J : IM} {h : Nat} (lw : Lw) (n : Nat) (hn : I 81 1 = n ∧ n ≤ 5) (hW : ∀ v, v < n → 0 ≤ I 82 v ∧ I 82 v ≤ 9) (i j : Nat) (hi : i < 300) (hj : j < 300) (r q : List Nat) (hA : ∀ v, v < n → I 107 (5 * i + v) = ((r.getD v 0 : Nat) : Int) ∧ r.getD v 0 ≤ 9) (hC : ∀ v, v < n → I 107 (5 * j + v) = ((q.getD v 0 : Nat) : Int) ∧ q.getD v 0 ≤ 9) (hH : HasR I lw n) : KIq X (h + 1) mX12_beats [.ref 81, zi (i : Int), zi (j : Int)] I J (BQ I J (0 < scP lw (I 82) (I 83) (I 84) n r q)) := by
  show Rz X (h + 1) mX12_beats 0 [some (.ref 81), some (zi (i : Int)), some (zi (j : Int)), none, none] [] I J _
  refine rz_iconst dX12_beats_0 ?_
  refine rz_istore_n dX12_beats_1 (by decide) rfl ?_
  refine rz_iconst dX12_beats_2 ?_
  refine rz_istore dX12_beats_3 (by decide) rfl ?_
  refine rz_up (ls := fun v : Nat => [some (.ref 81), some (zi (i : Int)), some (zi (j : Int)), some (zi (sumP (fun v => ptsV lw (I 82) (I 83) (I 84) v (r.getD v 0) (q.getD v 0)) v)), some (zi (v : Int))]) (IV := fun v : Nat => I) (JV := fun v : Nat => J) (n) ⟨Or.inr rfl, Or.inr rfl, Or.inr rfl, Or.inr rfl, Or.inr rfl, trivial⟩ (rfl) (rfl) ?_ ?_
  · intro v hv ihv
    have hr9 := (hA v hv).2
    have hq9 := (hC v hv).2
    have hsb := scP_bd (lw := lw) (T := I 83) (U := I 84) (k := v) (r := r) (q := q) hn.2 (by omega) hW
    have hpr := pts_rg (lw := lw) (W := I 82) (T := I 83) (U := I 84) (v := v) (a := r.getD v 0) (b := q.getD v 0) (hW v hv)
    refine rz_iload dX12_beats_5 rfl ?_
    refine rz_aload_n dX12_beats_7 rfl ?_
    refine rz_getI (z := (n : Int)) dX12_beats_8 kf_RX12_137 hd_81 rfl (hn.1) ?_
    refine rz_icmp_ge (t := 51) dX12_beats_11 rfl (by omega) (by omega) (fun c11 => ?_) (fun c11 => ?_)
    · exfalso; omega
    · refine rz_iload_n dX12_beats_14 rfl ?_
      refine rz_aload_n dX12_beats_15 rfl ?_
      refine rz_iload dX12_beats_16 rfl ?_
      refine rz_aload_n dX12_beats_18 rfl ?_
      refine rz_getR dX12_beats_19 kf_RX12_87 hd_81 rfl rr_81_38 ?_
      refine rz_iconst dX12_beats_22 ?_
      refine rz_iload_n dX12_beats_23 rfl ?_
      refine rz_imul dX12_beats_24 ?_
      refine rz_iload dX12_beats_25 rfl ?_
      refine rz_iadd dX12_beats_27 ?_
      refine rz_baldN (k := (5 * i + v)) (z := ((r.getD v 0 : Nat) : Int)) dX12_beats_28 hd_107 (by decide) (by omega) (by omega) (hA v hv).1 ?_
      refine rz_aload_n dX12_beats_29 rfl ?_
      refine rz_getR dX12_beats_30 kf_RX12_87 hd_81 rfl rr_81_38 ?_
      refine rz_iconst dX12_beats_33 ?_
      refine rz_iload_n dX12_beats_34 rfl ?_
      refine rz_imul dX12_beats_35 ?_
      refine rz_iload dX12_beats_36 rfl ?_
      refine rz_iadd dX12_beats_38 ?_
      refine rz_baldN (k := (5 * j + v)) (z := ((q.getD v 0 : Nat) : Int)) dX12_beats_39 hd_107 (by decide) (by omega) (by omega) (hC v hv).1 ?_
      refine rz_cVI dX12_beats_40 kl_RX12_260 hd_81 ⟨_, _, rfl⟩ (c_X12_valueOf X _ I J v (r.getD v 0) (q.getD v 0) (by omega) (by omega) (by omega)) rfl rfl (Nat.le_of_ble_eq_true rfl) (Nat.le_of_ble_eq_true rfl) ?_
      refine rz_ieq (y := ptsV lw (I 82) (I 83) (I 84) v (r.getD v 0) (q.getD v 0)) (congrArg (fun z => I 82 v * z) (hH v hv _ _ (by omega) (by omega))).symm ?_
      refine rz_iadd dX12_beats_43 ?_
      refine rz_istore_n dX12_beats_44 (by decide) rfl ?_
      refine rz_iinc dX12_beats_45 (by decide) rfl rfl rfl ?_
      refine rz_goto (t := 5) dX12_beats_48 rfl ?_
      exact rz_bk ihv ⟨Or.inr rfl, Or.inr rfl, Or.inr rfl, Or.inr rfl, Or.inr rfl, trivial⟩ (rfl) (rfl)
  · skip
    have hse : scP lw (I 82) (I 83) (I 84) n r q = sumP (fun v => ptsV lw (I 82) (I 83) (I 84) v (r.getD v 0) (q.getD v 0)) n := rfl
    have hsb := scP_bd (lw := lw) (T := I 83) (U := I 84) (k := n) (r := r) (q := q) hn.2 (Nat.le_refl n) hW
    refine rz_iload dX12_beats_5 rfl ?_
    refine rz_aload_n dX12_beats_7 rfl ?_
    refine rz_getI (z := (n : Int)) dX12_beats_8 kf_RX12_137 hd_81 rfl (hn.1) ?_
    refine rz_icmp_ge (t := 51) dX12_beats_11 rfl (by omega) (by omega) (fun c11 => ?_) (fun c11 => ?_)
    · refine rz_iload_n dX12_beats_51 rfl ?_
      refine rz_if_le (t := 59) dX12_beats_52 rfl (by omega) (fun c52 => ?_) (fun c52 => ?_)
      · refine rz_iconst dX12_beats_59 ?_
        refine rz_zret dX12_beats_60 rfl (by decide) ?_
        exact ⟨_, rfl, ⟨Or.inr ⟨rfl, by omega⟩, rfl, rfl⟩⟩
      · refine rz_iconst dX12_beats_55 ?_
        refine rz_goto (t := 60) dX12_beats_56 rfl ?_
        refine rz_zret dX12_beats_60 rfl (by decide) ?_
        exact ⟨_, rfl, ⟨Or.inl ⟨rfl, by omega⟩, rfl, rfl⟩⟩
    · exfalso; omega
