/-! a spy: the reference -/
theorem spR_1 {Y : IM} {n k : Nat} {F : Nat → Nat → Int} {g : Nat → Int} {b q : Int} : fbM (upA Y 106 (acM (fillM (fbM (upA Y 106 g) b q) 106 50 0) 106 n k F 106)) b q = acM (fillM (fbM (upA Y 106 g) b q) 106 50 0) 106 n k F := by
  funext d
  by_cases h1 : d = 106
  · subst h1; rfl
  · by_cases h2 : d = 81
    · subst h2; rfl
    · simp [acM, fillM, fbM, upA, h1, h2]
theorem spR_2 {Y : IM} {n k : Nat} {F : Nat → Nat → Int} {g : Nat → Int} {b q b2 q2 : Int} : fbM (upA Y 106 (acM (fillM (fbM (upA Y 106 g) b q) 106 50 0) 106 n k F 106)) b2 q2 = fbM (acM (fillM (fbM (upA Y 106 g) b q) 106 50 0) 106 n k F) b2 q2 := by
  funext d
  by_cases h1 : d = 106
  · subst h1; rfl
  · by_cases h2 : d = 81
    · subst h2
      funext j
      show up1 (up1 (Y 81) 36 b2) 37 q2 j = up1 (up1 (up1 (up1 (Y 81) 36 b) 37 q) 36 b2) 37 q2 j
      unfold up1
      by_cases e1 : j = 37
      · simp [e1]
      · by_cases e2 : j = 36
        · simp [e2]
        · simp [e1, e2]
    · simp [acM, fillM, fbM, upA, h1, h2]
theorem spR_0 {Y : IM} {n k : Nat} {F : Nat → Nat → Int} {b q : Int} : fbM (upA Y 106 (acM (fillM Y 106 50 0) 106 n k F 106)) b q = fbM (acM (fillM Y 106 50 0) 106 n k F) b q := by
  funext d
  by_cases h1 : d = 106
  · subst h1; rfl
  · by_cases h2 : d = 81
    · subst h2; rfl
    · simp [acM, fillM, fbM, upA, h1, h2]
set_option maxRecDepth 20000 in
set_option maxHeartbeats 400000 in
theorem spy_r {X : pX} {I J : IM} {h : Nat} {lw : Lw} {n : Nat} {m0 m1 : Mx} (hq : RqI I lw n m0 m1) (vil : Nat) (hvl : vil < n) (p : Int) (hp : p = 0 ∨ p = 1) (N : Nat) (hN : I 85 0 = N) (hN9 : N ≤ 9) : KLq X (h + 7) mX12_spy [.ref 81, zi (vil : Int), zi p] I J (fun z A Bj => z = spyZ lw (I 82) (I 83) (I 84) (I 85) n m1 (vil : Int) p ∧ FrR I A ∧ J = Bj) := by
  obtain ⟨h1, h2, h3, h5, h6, h7⟩ := hq
  have h2n := h2.1
  have h25 := h2.2
  show Rz X (h + 7) mX12_spy 0 [some (.ref 81), some (zi (vil : Int)), some (zi p), none, none, none, none, none, none] [] I J _
  refine rz_aload_n dX12_spy_0 rfl ?_
  refine rz_iload_n dX12_spy_1 rfl ?_
  refine rz_cVIq dX12_spy_2 kl_RX12_166 hd_81 ⟨_, _, rfl⟩ (c_X12_isVillage X _ I J (vil : Int) (by omega) (by omega)) rfl rfl (Nat.le_of_ble_eq_true rfl) (Nat.le_of_ble_eq_true rfl) ?_
  rintro z2 A2 B2 ⟨⟨rfl, b2⟩ | ⟨rfl, b2⟩, rfl, rfl⟩
  · refine rz_if_eq (t := 17) dX12_spy_5 rfl (by omega) (fun q => absurd q (by decide)) (fun _ => ?_)
    refine rz_iload_n dX12_spy_8 rfl ?_
    refine rz_iconst dX12_spy_9 ?_
    refine rz_iconst dX12_spy_10 ?_
    refine rz_cSIq dX12_spy_11 kl_RX12_140 (c_X12_in X _ I J p 0 1 (by omega) (by omega) (by omega)) rfl rfl (Nat.le_of_ble_eq_true rfl) (Nat.le_of_ble_eq_true rfl) ?_
    rintro z11 A11 B11 ⟨⟨rfl, b11⟩ | ⟨rfl, b11⟩, rfl, rfl⟩
    · refine rz_if_ne (t := 21) dX12_spy_14 rfl (by omega) (fun _ => ?_) (fun q => absurd q (by decide))
      refine rz_aload_n dX12_spy_21 rfl ?_
      refine rz_cVVq dX12_spy_22 kl_RX12_257 hd_81 ⟨_, _, rfl⟩ (c_X12_findHas lw h1 n h2 h3) rfl rfl (Nat.le_of_ble_eq_true rfl) (Nat.le_of_ble_eq_true rfl) ?_
      rintro B _ ⟨hB, rfl⟩
      have hf := FhQ_fr hB
      have hH := FhQ_has hB
      have hnB : B 81 1 = n ∧ n ≤ 5 := ⟨by rw [hf 81 (by decide) (by decide) (by decide)]; exact h2.1, h2.2⟩
      have hmB : MixR B 1 m1 := MixR_of (hf 86 (by decide) (by decide) (by decide)) (hf 87 (by decide) (by decide) (by decide)) (hf 88 (by decide) (by decide) (by decide)) h6
      have e82 := hf 82 (by decide) (by decide) (by decide)
      have e83 := hf 83 (by decide) (by decide) (by decide)
      have e84 := hf 84 (by decide) (by decide) (by decide)
      have e85 := hf 85 (by decide) (by decide) (by decide)
      have hmo := MixR_ok hmB
      have hl8 := lnN_le hmo.1
      have hrc := rows_cnt n h2.2 N hN9
      refine rz_aload_n dX12_spy_25 rfl ?_
      refine rz_aload_n dX12_spy_26 rfl ?_
      refine rz_getR dX12_spy_27 kf_RX12_19 hd_81 rfl rr_81_5 ?_
      refine rz_iconst dX12_spy_30 ?_
      refine rz_iald (z := (N : Int)) dX12_spy_31 hd_85 (by decide) (by omega) (by show B 85 0 = _; rw [e85]; exact hN) ?_
      refine rz_iconst dX12_spy_32 ?_
      refine rz_cVVq dX12_spy_33 kl_RX12_270 hd_81 ⟨_, _, rfl⟩ ((show KVq X _ mX12_findRows [.ref 81, zi (N : Int), zi 0] B J _ from c_X12_findRows (I := B) n hnB N false hN9 hrc.1)) rfl rfl (Nat.le_of_ble_eq_true rfl) (Nat.le_of_ble_eq_true rfl) ?_
      rintro _ _ ⟨⟨R, W, rfl, hR, hRb⟩, rfl⟩
      refine rz_aload_n dX12_spy_36 rfl ?_
      refine rz_iconst dX12_spy_37 ?_
      refine rz_cVV dX12_spy_38 kl_RX12_319 hd_81 ⟨_, _, rfl⟩ (c_X12_findGains0 (I := (layM B (rowsL n N false).length R W)) lw n hnB m1 hmB hH) rfl rfl (Nat.le_of_ble_eq_true rfl) (Nat.le_of_ble_eq_true rfl) ?_
      have hgs : ∀ v x, v < n → x ≤ 9 → (acM (fillM (layM B (rowsL n N false).length R W) 106 50 0) 106 n (lnN m1) (fun i j => gF lw (B 82) (B 83) (B 84) 0 m1 i j)) 106 (10 * v + x) = gS lw (I 82) (I 83) (I 84) 0 m1 v x := fun v x hv hx => by rw [acM_at hv hx, e82, e83, e84]
      have hGA : GRg (acM (fillM (layM B (rowsL n N false).length R W) 106 50 0) 106 n (lnN m1) (fun i j => gF lw (B 82) (B 83) (B 84) 0 m1 i j)) 106 n := fun v x hv hx => by
        rw [hgs v x hv hx]
        have := gS_rg (lw := lw) (W := I 82) (T := I 83) (U := I 84) (b := 0) (v := v) (x := x) hmo (h3 v hv).1
        omega
      refine rz_aload_n dX12_spy_41 rfl ?_
      refine rz_cVVq dX12_spy_42 kl_RX12_323 hd_81 ⟨_, _, rfl⟩ (c_X12_findBest (I := (acM (fillM (layM B (rowsL n N false).length R W) 106 50 0) 106 n (lnN m1) (fun i j => gF lw (B 82) (B 83) (B 84) 0 m1 i j))) n hnB (rowsL n N false) rfl hrc.1 (rowsL_ok hN9) hR hGA) rfl rfl (Nat.le_of_ble_eq_true rfl) (Nat.le_of_ble_eq_true rfl) ?_
      rintro _ _ ⟨⟨bb, g1, rfl, hFb⟩, rfl⟩
      obtain ⟨hg1, j, rfl, -⟩ := fb_done h2.2 hN9 hGA hFb
      have hg2 : g1 = (mx (gS lw (I 82) (I 83) (I 84) 0 m1) false n 0 N) := hg1.trans (mx_congr (n := n) (fun v x hv hx => hgs v x hv hx) n 0 N (by omega) hN9)
      subst hg2
      have hz2 := mx_bd (lw := lw) (T := I 83) (U := I 84) (b := 0) (N := N) h2.2 hN9 hmo (fun v hv => (h3 v hv).1)
      refine rz_aload_n dX12_spy_45 rfl ?_
      refine rz_getI (z := (mx (gS lw (I 82) (I 83) (I 84) 0 m1) false n 0 N)) dX12_spy_46 kf_RX12_300 hd_81 rfl (rfl) ?_
      refine rz_ineg dX12_spy_49 ?_
      refine rz_i2l dX12_spy_50 (by omega) ?_
      refine rz_lstore_n dX12_spy_51 (by decide) rfl ?_
      refine rz_iconst dX12_spy_52 ?_
      refine rz_istore dX12_spy_53 (by decide) rfl ?_
      refine rz_upx (σ := (Nat → Int) × Int × Int) (Inv := fun s ss => True) (ls := fun (s : Nat) ss => [some (.ref 81), some (zi (vil : Int)), some (zi p), some (zl (-(mx (gS lw (I 82) (I 83) (I 84) 0 m1) false n 0 N) + sumP (spF lw (I 82) (I 83) (I 84) n N m1 vil) s)), none, some (zi (s : Int)), none, none, none]) (IV := fun (s : Nat) ss => (fbM (upA (layM B (rowsL n N false).length R W) 106 ss.1) ss.2.1 ss.2.2)) (JV := fun (s : Nat) ss => J) (10) (((acM (fillM (layM B (rowsL n N false).length R W) 106 50 0) 106 n (lnN m1) (fun i j => gF lw (B 82) (B 83) (B 84) 0 m1 i j)) 106, (j : Int), (mx (gS lw (I 82) (I 83) (I 84) 0 m1) false n 0 N))) trivial ⟨Or.inr rfl, Or.inr rfl, Or.inr rfl, Or.inr (congrArg (fun z => some (zl z)) (Int.add_zero _)), Or.inl rfl, Or.inr rfl, Or.inl rfl, Or.inl rfl, Or.inl rfl, trivial⟩ (spR_0) (rfl) ?_ ?_
      · intro s ss hs qs ihs
        obtain ⟨g, b, q⟩ := ss
        refine rz_to (ls' := [some (.ref 81), some (zi (vil : Int)), some (zi p), some (zl (-(mx (gS lw (I 82) (I 83) (I 84) 0 m1) false n 0 N) + sumP (spF lw (I 82) (I 83) (I 84) n N m1 vil) s)), none, some (zi (s : Int)), none, none, none]) (I' := (fbM (upA (layM B (rowsL n N false).length R W) 106 g) b q)) (J' := J) ⟨Or.inr rfl, Or.inr rfl, Or.inr rfl, Or.inr rfl, Or.inl rfl, Or.inr rfl, Or.inl rfl, Or.inl rfl, Or.inl rfl, trivial⟩ rfl rfl ?_
        refine rz_iload dX12_spy_55 rfl ?_
        refine rz_bipush dX12_spy_57 (by decide) ?_
        refine rz_icmp_gt (t := 174) dX12_spy_59 rfl (by omega) (by omega) (fun c59 => ?_) (fun c59 => ?_)
        · exfalso; omega
        · refine rz_aload_n dX12_spy_62 rfl ?_
          refine rz_cVV dX12_spy_63 kl_RX12_281 hd_81 ⟨_, _, rfl⟩ (c_X12_noGains (I := (fbM (upA (layM B (rowsL n N false).length R W) 106 g) b q))) rfl rfl (Nat.le_of_ble_eq_true rfl) (Nat.le_of_ble_eq_true rfl) ?_
          refine rz_iconst dX12_spy_66 ?_
          refine rz_istore dX12_spy_67 (by decide) rfl ?_
          refine rz_iconst dX12_spy_69 ?_
          refine rz_istore dX12_spy_70 (by decide) rfl ?_
          refine rz_upx (σ := Int) (Inv := fun k sk => (sk = 0 ∧ ∀ i, i < k → loS m1 i vil ≠ s) ∨ sk = 1) (ls := fun (k : Nat) sk => [some (.ref 81), some (zi (vil : Int)), some (zi p), some (zl (-(mx (gS lw (I 82) (I 83) (I 84) 0 m1) false n 0 N) + sumP (spF lw (I 82) (I 83) (I 84) n N m1 vil) s)), none, some (zi (s : Int)), some (zi sk), some (zi (k : Int)), none]) (IV := fun (k : Nat) sk => (acM (fillM (fbM (upA (layM B (rowsL n N false).length R W) 106 g) b q) 106 50 0) 106 n k (fun i j => gFs lw (B 82) (B 83) (B 84) m1 vil s i j))) (JV := fun (k : Nat) sk => J) ((lnN m1)) (0) (Or.inl ⟨rfl, fun i hi => absurd hi (by omega)⟩) ⟨Or.inr rfl, Or.inr rfl, Or.inr rfl, Or.inr rfl, Or.inl rfl, Or.inr rfl, Or.inr rfl, Or.inr rfl, Or.inl rfl, trivial⟩ ((acM_0 (fun j hj => by show (fillM (fbM (upA (layM B (rowsL n N false).length R W) 106 g) b q) 106 50 0) 106 j = 0; unfold fillM; rw [upA_self, if_pos (by omega)]))) (rfl) ?_ ?_
          · intro k sk hk qk ihk
            have hl9 := loS_rg hmo hk (show vil < 5 by omega)
            refine rz_iload dX12_spy_72 rfl ?_
            refine rz_aload_n dX12_spy_74 rfl ?_
            refine rz_iconst dX12_spy_75 ?_
            refine rz_cVI dX12_spy_76 kl_RX12_284 hd_81 ⟨_, _, rfl⟩ (c_X12_mixMany X _ (acM (fillM (fbM (upA (layM B (rowsL n N false).length R W) 106 g) b q) 106 50 0) 106 n k (fun i j => gFs lw (B 82) (B 83) (B 84) m1 vil s i j)) J 1 (by omega) (MixR_ln hmB).1) rfl rfl (Nat.le_of_ble_eq_true rfl) (Nat.le_of_ble_eq_true rfl) ?_
            refine rz_ieq (y := (lnN m1 : Int)) (MixR_ln hmB).2.symm ?_
            refine rz_icmp_ge (t := 148) dX12_spy_79 rfl (by omega) (by omega) (fun c79 => ?_) (fun c79 => ?_)
            · exfalso; omega
            · refine rz_aload_n dX12_spy_82 rfl ?_
              refine rz_iconst dX12_spy_83 ?_
              refine rz_iload dX12_spy_84 rfl ?_
              refine rz_iload_n dX12_spy_86 rfl ?_
              refine rz_cVI dX12_spy_87 kl_RX12_287 hd_81 ⟨_, _, rfl⟩ (c_X12_mixAt X _ (acM (fillM (fbM (upA (layM B (rowsL n N false).length R W) 106 g) b q) 106 50 0) 106 n k (fun i j => gFs lw (B 82) (B 83) (B 84) m1 vil s i j)) J 1 k vil (by omega) (MixR_ln hmB).1 (by omega) (by omega)) rfl rfl (Nat.le_of_ble_eq_true rfl) (Nat.le_of_ble_eq_true rfl) ?_
              refine rz_ieq (y := ((loS m1 k vil : Nat) : Int)) (MixR_lo hmB hk (by omega)).symm ?_
              refine rz_iload dX12_spy_90 rfl ?_
              refine rz_icmp_eq (t := 98) dX12_spy_92 rfl (by omega) (by omega) (fun c92 => ?_) (fun c92 => ?_)
              · refine rz_iconst dX12_spy_98 ?_
                refine rz_istore dX12_spy_99 (by decide) rfl ?_
                refine rz_iconst dX12_spy_101 ?_
                refine rz_istore dX12_spy_102 (by decide) rfl ?_
                refine rz_up (ls := fun v : Nat => [some (.ref 81), some (zi (vil : Int)), some (zi p), some (zl (-(mx (gS lw (I 82) (I 83) (I 84) 0 m1) false n 0 N) + sumP (spF lw (I 82) (I 83) (I 84) n N m1 vil) s)), none, some (zi (s : Int)), some (zi 1), some (zi (k : Int)), some (zi (v : Int))]) (IV := fun v : Nat => (adN (acM (fillM (fbM (upA (layM B (rowsL n N false).length R W) 106 g) b q) 106 50 0) 106 n k (fun i j => gFs lw (B 82) (B 83) (B 84) m1 vil s i j)) 106 (10 * v) (gF lw (B 82) (B 83) (B 84) 0 m1 k))) (JV := fun v : Nat => J) (n) ⟨Or.inr rfl, Or.inr rfl, Or.inr rfl, Or.inr rfl, Or.inl rfl, Or.inr rfl, Or.inr rfl, Or.inr rfl, Or.inr rfl, trivial⟩ (adN_0) (rfl) ?_ ?_
                · intro v hv ihv
                  refine rz_iload dX12_spy_104 rfl ?_
                  refine rz_aload_n dX12_spy_106 rfl ?_
                  refine rz_getI (z := (n : Int)) dX12_spy_107 kf_RX12_137 hd_81 rfl (hnB.1) ?_
                  refine rz_icmp_ge (t := 142) dX12_spy_110 rfl (by omega) (by omega) (fun c110 => ?_) (fun c110 => ?_)
                  · exfalso; omega
                  · refine rz_aload_n dX12_spy_113 rfl ?_
                    refine rz_iconst dX12_spy_114 ?_
                    refine rz_iload dX12_spy_115 rfl ?_
                    refine rz_aload_n dX12_spy_117 rfl ?_
                    refine rz_iconst dX12_spy_118 ?_
                    refine rz_iload dX12_spy_119 rfl ?_
                    refine rz_iload dX12_spy_121 rfl ?_
                    refine rz_cVI dX12_spy_123 kl_RX12_287 hd_81 ⟨_, _, rfl⟩ (c_X12_mixAt X _ (adN (acM (fillM (fbM (upA (layM B (rowsL n N false).length R W) 106 g) b q) 106 50 0) 106 n k (fun i j => gFs lw (B 82) (B 83) (B 84) m1 vil s i j)) 106 (10 * v) (gF lw (B 82) (B 83) (B 84) 0 m1 k)) J 1 k v (by omega) (MixR_ln hmB).1 (by omega) (by omega)) rfl rfl (Nat.le_of_ble_eq_true rfl) (Nat.le_of_ble_eq_true rfl) ?_
                    refine rz_ieq (y := ((loS m1 k v : Nat) : Int)) (MixR_lo hmB hk (by omega)).symm ?_
                    refine rz_aload_n dX12_spy_126 rfl ?_
                    refine rz_iconst dX12_spy_127 ?_
                    refine rz_iload dX12_spy_128 rfl ?_
                    refine rz_cVI dX12_spy_130 kl_RX12_290 hd_81 ⟨_, _, rfl⟩ (c_X12_weightAt X _ (adN (acM (fillM (fbM (upA (layM B (rowsL n N false).length R W) 106 g) b q) 106 50 0) 106 n k (fun i j => gFs lw (B 82) (B 83) (B 84) m1 vil s i j)) 106 (10 * v) (gF lw (B 82) (B 83) (B 84) 0 m1 k)) J 1 k (by omega) (MixR_ln hmB).1 (by omega)) rfl rfl (Nat.le_of_ble_eq_true rfl) (Nat.le_of_ble_eq_true rfl) ?_
                    refine rz_ieq (y := wtS m1 k) (MixR_wt hmB hk).symm ?_
                    refine rz_cVV dX12_spy_133 kl_RX12_293 hd_81 ⟨_, _, rfl⟩ (c_X12_addGains (I := (adN (acM (fillM (fbM (upA (layM B (rowsL n N false).length R W) 106 g) b q) 106 50 0) 106 n k (fun i j => gFs lw (B 82) (B 83) (B 84) m1 vil s i j)) 106 (10 * v) (gF lw (B 82) (B 83) (B 84) 0 m1 k))) lw n 0 v (loS m1 k v) (wtS m1 k) h2.2 (by omega) hv (loS_rg hmo hk (by omega)) (show HasR _ lw n from hH)) rfl rfl (Nat.le_of_ble_eq_true rfl) (Nat.le_of_ble_eq_true rfl) ?_
                    refine rz_iinc dX12_spy_136 (by decide) rfl rfl rfl ?_
                    refine rz_goto (t := 104) dX12_spy_139 rfl ?_
                    exact rz_bk ihv ⟨Or.inr rfl, Or.inr rfl, Or.inr rfl, Or.inr rfl, Or.inl rfl, Or.inr rfl, Or.inr rfl, Or.inr rfl, Or.inr rfl, trivial⟩ ((adM_adN (F := gF lw (B 82) (B 83) (B 84) 0 m1 k) (fun x hx => (gF_at (by omega)).symm)).symm) (rfl)
                · skip
                  refine rz_iload dX12_spy_104 rfl ?_
                  refine rz_aload_n dX12_spy_106 rfl ?_
                  refine rz_getI (z := (n : Int)) dX12_spy_107 kf_RX12_137 hd_81 rfl (hnB.1) ?_
                  refine rz_icmp_ge (t := 142) dX12_spy_110 rfl (by omega) (by omega) (fun c110 => ?_) (fun c110 => ?_)
                  · refine rz_iinc dX12_spy_142 (by decide) rfl rfl rfl ?_
                    refine rz_goto (t := 72) dX12_spy_145 rfl ?_
                    exact rz_bk (ihk (1) ((Or.inr rfl))) ⟨Or.inr rfl, Or.inr rfl, Or.inr rfl, Or.inr rfl, Or.inl rfl, Or.inr rfl, Or.inr rfl, Or.inr rfl, Or.inl rfl, trivial⟩ ((acM_sy (by funext j; exact if_pos (by omega)))) (rfl)
                  · exfalso; omega
              · refine rz_goto (t := 142) dX12_spy_95 rfl ?_
                refine rz_iinc dX12_spy_142 (by decide) rfl rfl rfl ?_
                refine rz_goto (t := 72) dX12_spy_145 rfl ?_
                exact rz_bk (ihk (sk) ((qk.elim (fun e => Or.inl ⟨e.1, fun i hi => by by_cases ei : i = k; (subst ei; omega); exact e.2 i (by omega)⟩) Or.inr))) ⟨Or.inr rfl, Or.inr rfl, Or.inr rfl, Or.inr rfl, Or.inl rfl, Or.inr rfl, Or.inr rfl, Or.inr rfl, Or.inl rfl, trivial⟩ ((acM_sn (fun j => if_neg (by omega)))) (rfl)
          · intro sk qk
            refine rz_iload dX12_spy_72 rfl ?_
            refine rz_aload_n dX12_spy_74 rfl ?_
            refine rz_iconst dX12_spy_75 ?_
            refine rz_cVI dX12_spy_76 kl_RX12_284 hd_81 ⟨_, _, rfl⟩ (c_X12_mixMany X _ (acM (fillM (fbM (upA (layM B (rowsL n N false).length R W) 106 g) b q) 106 50 0) 106 n ((lnN m1)) (fun i j => gFs lw (B 82) (B 83) (B 84) m1 vil s i j)) J 1 (by omega) (MixR_ln hmB).1) rfl rfl (Nat.le_of_ble_eq_true rfl) (Nat.le_of_ble_eq_true rfl) ?_
            refine rz_ieq (y := (lnN m1 : Int)) (MixR_ln hmB).2.symm ?_
            refine rz_icmp_ge (t := 148) dX12_spy_79 rfl (by omega) (by omega) (fun c79 => ?_) (fun c79 => ?_)
            · refine rz_iload dX12_spy_148 rfl ?_
              refine rz_if_ne (t := 156) dX12_spy_150 rfl (by omega) (fun c150 => ?_) (fun c150 => ?_)
              · have hss : ∀ v x, v < n → x ≤ 9 → (acM (fillM (fbM (upA (layM B (rowsL n N false).length R W) 106 g) b q) 106 50 0) 106 n (lnN m1) (fun i j => gFs lw (B 82) (B 83) (B 84) m1 vil s i j)) 106 (10 * v + x) = gSs lw (I 82) (I 83) (I 84) m1 vil s v x := fun v x hv hx => by rw [acM_as hv hx, e82, e83, e84]
                have hGS : GRg (acM (fillM (fbM (upA (layM B (rowsL n N false).length R W) 106 g) b q) 106 50 0) 106 n (lnN m1) (fun i j => gFs lw (B 82) (B 83) (B 84) m1 vil s i j)) 106 n := fun v x hv hx => by
                  rw [hss v x hv hx]
                  have := gSs_rg (lw := lw) (W := I 82) (T := I 83) (U := I 84) (vil := vil) (s := s) (v := v) (x := x) hmo (h3 v hv).1
                  omega
                refine rz_aload_n dX12_spy_156 rfl ?_
                refine rz_cVVq dX12_spy_157 kl_RX12_323 hd_81 ⟨_, _, rfl⟩ (c_X12_findBest (I := (acM (fillM (fbM (upA (layM B (rowsL n N false).length R W) 106 g) b q) 106 50 0) 106 n (lnN m1) (fun i j => gFs lw (B 82) (B 83) (B 84) m1 vil s i j))) n hnB (rowsL n N false) rfl hrc.1 (rowsL_ok hN9) hR hGS) rfl rfl (Nat.le_of_ble_eq_true rfl) (Nat.le_of_ble_eq_true rfl) ?_
                rintro _ _ ⟨⟨b157, g157, rfl, hF157⟩, rfl⟩
                obtain ⟨hq157, j157, rfl, -⟩ := fb_done h2.2 hN9 hGS hF157
                have hq2 : g157 = spF lw (I 82) (I 83) (I 84) n N m1 vil s := hq157.trans (mx_congr (n := n) (fun v x hv hx => hss v x hv hx) n 0 N (by omega) hN9)
                subst hq2
                have hsr := spF_rg (lw := lw) (W := I 82) (T := I 83) (U := I 84) (vil := vil) (s := s) h2.2 hN9 hmo (fun v hv => (h3 v hv).1)
                refine rz_lload_n dX12_spy_160 rfl ?_
                refine rz_aload_n dX12_spy_161 rfl ?_
                refine rz_getI (z := (spF lw (I 82) (I 83) (I 84) n N m1 vil s)) dX12_spy_162 kf_RX12_300 hd_81 rfl (rfl) ?_
                refine rz_i2l dX12_spy_165 (by omega) ?_
                refine rz_ladd dX12_spy_166 ?_
                refine rz_lstore_n dX12_spy_167 (by decide) rfl ?_
                refine rz_iinc dX12_spy_168 (by decide) rfl rfl rfl ?_
                refine rz_goto (t := 55) dX12_spy_171 rfl ?_
                exact rz_bk (ihs (((acM (fillM (fbM (upA (layM B (rowsL n N false).length R W) 106 g) b q) 106 50 0) 106 n (lnN m1) (fun i j => gFs lw (B 82) (B 83) (B 84) m1 vil s i j)) 106, (j157 : Int), spF lw (I 82) (I 83) (I 84) n N m1 vil s)) (trivial)) ⟨Or.inr rfl, Or.inr rfl, Or.inr rfl, Or.inr (congrArg (fun z => some (zl z)) (by exact (Int.add_assoc _ _ _).symm)), Or.inl rfl, Or.inr rfl, Or.inl rfl, Or.inl rfl, Or.inl rfl, trivial⟩ (spR_2) (rfl)
              · refine rz_goto (t := 168) dX12_spy_153 rfl ?_
                refine rz_iinc dX12_spy_168 (by decide) rfl rfl rfl ?_
                refine rz_goto (t := 55) dX12_spy_171 rfl ?_
                exact rz_bk (ihs (((acM (fillM (fbM (upA (layM B (rowsL n N false).length R W) 106 g) b q) 106 50 0) 106 n (lnN m1) (fun i j => gFs lw (B 82) (B 83) (B 84) m1 vil s i j)) 106, b, q)) (trivial)) ⟨Or.inr rfl, Or.inr rfl, Or.inr rfl, Or.inr (congrArg (fun z => some (zl z)) (by simp only [sumP]; rw [spF_0 h2.2 hN9 (fun i hi => (qk.resolve_right (by omega)).2 i hi), Int.add_zero])), Or.inl rfl, Or.inr rfl, Or.inl rfl, Or.inl rfl, Or.inl rfl, trivial⟩ (spR_1) (rfl)
            · exfalso; omega
      · intro ss qs
        refine rz_iload dX12_spy_55 rfl ?_
        refine rz_bipush dX12_spy_57 (by decide) ?_
        refine rz_icmp_gt (t := 174) dX12_spy_59 rfl (by omega) (by omega) (fun c59 => ?_) (fun c59 => ?_)
        · have hz := spy_bd (lw := lw) (W := I 82) (T := I 83) (U := I 84) (n := n) (N := N) (vil := vil) (k := 10) h2.2 hN9 hmo (fun v hv => (h3 v hv).1) (Nat.le_refl _)
          have hwb := whS_rg hmo
          refine rz_lload_n dX12_spy_174 rfl ?_
          refine rz_aload_n dX12_spy_175 rfl ?_
          refine rz_iconst dX12_spy_176 ?_
          refine rz_iconst dX12_spy_177 ?_
          refine rz_cVI dX12_spy_178 kl_RX12_274 hd_81 ⟨_, _, rfl⟩ (c_X12_weights X _ (fbM (upA (layM B (rowsL n N false).length R W) 106 ss.1) ss.2.1 ss.2.2) J 1 1 m1.1 (by omega) (Or.inr rfl) hmB.1) rfl rfl (Nat.le_of_ble_eq_true rfl) (Nat.le_of_ble_eq_true rfl) ?_
          refine rz_ieq (y := whS m1) (MixR_wh hmB).symm ?_
          refine rz_i2l dX12_spy_181 (by omega) ?_
          refine rz_iload_n dX12_spy_182 rfl ?_
          refine rz_cSL dX12_spy_183 kl_RX12_315 (c_X12_part (-(mx (gS lw (I 82) (I 83) (I 84) 0 m1) false n 0 N) + sumP (spF lw (I 82) (I 83) (I 84) n N m1 vil) 10) (whS m1) p (by omega) (by omega) hp) rfl rfl (Nat.le_of_ble_eq_true rfl) (Nat.le_of_ble_eq_true rfl) ?_
          refine rz_lret dX12_spy_186 rfl ?_
          refine ⟨_, rfl, ?_, FrR.trans (FrR_fh hB) (FrR.trans (FrR_lay hRb) (FrR.trans (FrR_up (a := 106) (by decide) (by decide)) FrR_fb)), rfl⟩
          rw [spyZ, if_pos ⟨by omega, hp⟩]
          have e1 : (I 85 0).toNat = N := by omega
          have e2 : ((vil : Nat) : Int).toNat = vil := rfl
          rw [e1, e2]
          unfold spyS
          congr 1
          omega
        · exfalso; omega
    · refine rz_if_ne (t := 21) dX12_spy_14 rfl (by omega) (fun q => absurd q (by decide)) (fun _ => ?_)
      refine rz_ldc2 (x := (-9223372036854775808)) dX12_spy_17 kk_RX12_313 (by decide) ?_
      refine rz_lret dX12_spy_20 rfl ?_
      exfalso; omega
  · refine rz_if_eq (t := 17) dX12_spy_5 rfl (by omega) (fun _ => ?_) (fun q => absurd q (by decide))
    refine rz_ldc2 (x := (-9223372036854775808)) dX12_spy_17 kk_RX12_313 (by decide) ?_
    refine rz_lret dX12_spy_20 rfl ?_
    exfalso; omega
set_option maxRecDepth 20000 in
set_option maxHeartbeats 400000 in
theorem spy_rn {X : pX} {I J : IM} {h : Nat} {lw : Lw} {n : Nat} {m1 : Mx} (hn : I 81 1 = n ∧ n ≤ 5) (vil p : Int) (hv : rg vil) (hp : rg p) (hnv : ¬ ((0 ≤ vil ∧ vil < n) ∧ (p = 0 ∨ p = 1))) : KLq X (h + 7) mX12_spy [.ref 81, zi vil, zi p] I J (fun z A Bj => z = spyZ lw (I 82) (I 83) (I 84) (I 85) n m1 vil p ∧ FrR I A ∧ J = Bj) := by
  have hn1 := hn.1
  have hn2 := hn.2
  show Rz X (h + 7) mX12_spy 0 [some (.ref 81), some (zi vil), some (zi p), none, none, none, none, none, none] [] I J _
  refine rz_aload_n dX12_spy_0 rfl ?_
  refine rz_iload_n dX12_spy_1 rfl ?_
  refine rz_cVIq dX12_spy_2 kl_RX12_166 hd_81 ⟨_, _, rfl⟩ (c_X12_isVillage X _ I J vil (by omega) (by omega)) rfl rfl (Nat.le_of_ble_eq_true rfl) (Nat.le_of_ble_eq_true rfl) ?_
  rintro z2 A2 B2 ⟨⟨rfl, b2⟩ | ⟨rfl, b2⟩, rfl, rfl⟩
  · refine rz_if_eq (t := 17) dX12_spy_5 rfl (by omega) (fun q => absurd q (by decide)) (fun _ => ?_)
    refine rz_iload_n dX12_spy_8 rfl ?_
    refine rz_iconst dX12_spy_9 ?_
    refine rz_iconst dX12_spy_10 ?_
    refine rz_cSIq dX12_spy_11 kl_RX12_140 (c_X12_in X _ I J p 0 1 (by omega) (by omega) (by omega)) rfl rfl (Nat.le_of_ble_eq_true rfl) (Nat.le_of_ble_eq_true rfl) ?_
    rintro z11 A11 B11 ⟨⟨rfl, b11⟩ | ⟨rfl, b11⟩, rfl, rfl⟩
    · refine rz_if_ne (t := 21) dX12_spy_14 rfl (by omega) (fun _ => ?_) (fun q => absurd q (by decide))
      exfalso; omega
    · refine rz_if_ne (t := 21) dX12_spy_14 rfl (by omega) (fun q => absurd q (by decide)) (fun _ => ?_)
      refine rz_ldc2 (x := (-9223372036854775808)) dX12_spy_17 kk_RX12_313 (by decide) ?_
      refine rz_lret dX12_spy_20 rfl ?_
      exact ⟨_, rfl, (if_neg hnv).symm, FrR_refl, rfl⟩
  · refine rz_if_eq (t := 17) dX12_spy_5 rfl (by omega) (fun _ => ?_) (fun q => absurd q (by decide))
    refine rz_ldc2 (x := (-9223372036854775808)) dX12_spy_17 kk_RX12_313 (by decide) ?_
    refine rz_lret dX12_spy_20 rfl ?_
    exact ⟨_, rfl, (if_neg hnv).symm, FrR_refl, rfl⟩
theorem c_X12_spy {X : pX} {I J : IM} {h : Nat} {lw : Lw} {n : Nat} {m0 m1 : Mx} (hq : RqI I lw n m0 m1) (vil p : Int) (hv : rg vil) (hp : rg p) : KLq X (h + 7) mX12_spy [.ref 81, zi vil, zi p] I J (fun z A Bj => z = spyZ lw (I 82) (I 83) (I 84) (I 85) n m1 vil p ∧ FrR I A ∧ J = Bj) := by
  by_cases hc : (0 ≤ vil ∧ vil < n) ∧ (p = 0 ∨ p = 1)
  · obtain ⟨q, rfl⟩ : ∃ q : Nat, vil = (q : Int) := ⟨vil.toNat, by omega⟩
    have h8 := hq.2.2.2.2.2 0 (by decide)
    exact spy_r hq q (by omega) p hc.2 (I 85 0).toNat (by omega) (by omega)
  · exact spy_rn hq.2.1 vil p hv hp hc
