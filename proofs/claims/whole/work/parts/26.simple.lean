set_option maxRecDepth 20000 in
set_option maxHeartbeats 400000 in
theorem c_X7_hasRun (X : pX) (h : Nat) (I J : IM) (o : Nat) (i n : Int) (ho : HD0[o]? = some (0, 7, 0)) (hr : 0 ≤ I o 3 ∧ I o 3 ≤ 60) (hi : rg i) (hn : rg n) : KIq X h mX7_hasRun [.ref o, zi i, zi n] I J (BQ I J (0 ≤ i ∧ 0 ≤ n ∧ i ≤ I o 3 ∧ n ≤ I o 3 - i)) := by
  show Rz X h mX7_hasRun 0 [some (.ref o), some (zi i), some (zi n)] [] I J _
  refine rz_iload_n dX7_hasRun_0 rfl ?_
  refine rz_if_lt (t := 30) dX7_hasRun_1 rfl (by omega) (fun c1 => ?_) (fun c1 => ?_)
  · refine rz_iconst dX7_hasRun_30 ?_
    refine rz_zret dX7_hasRun_31 rfl (by decide) ?_
    exact ⟨_, rfl, Or.inr ⟨rfl, by first | omega | assumption⟩, rfl, rfl⟩
  · refine rz_iload_n dX7_hasRun_4 rfl ?_
    refine rz_if_lt (t := 30) dX7_hasRun_5 rfl (by omega) (fun c5 => ?_) (fun c5 => ?_)
    · refine rz_iconst dX7_hasRun_30 ?_
      refine rz_zret dX7_hasRun_31 rfl (by decide) ?_
      exact ⟨_, rfl, Or.inr ⟨rfl, by first | omega | assumption⟩, rfl, rfl⟩
    · refine rz_iload_n dX7_hasRun_8 rfl ?_
      refine rz_aload_n dX7_hasRun_9 rfl ?_
      refine rz_getI (z := (I o 3)) dX7_hasRun_10 kf_RX7_25 ho rfl rfl ?_
      refine rz_icmp_gt (t := 30) dX7_hasRun_13 rfl (by omega) (by omega) (fun c13 => ?_) (fun c13 => ?_)
      · refine rz_iconst dX7_hasRun_30 ?_
        refine rz_zret dX7_hasRun_31 rfl (by decide) ?_
        exact ⟨_, rfl, Or.inr ⟨rfl, by first | omega | assumption⟩, rfl, rfl⟩
      · refine rz_iload_n dX7_hasRun_16 rfl ?_
        refine rz_aload_n dX7_hasRun_17 rfl ?_
        refine rz_getI (z := (I o 3)) dX7_hasRun_18 kf_RX7_25 ho rfl rfl ?_
        refine rz_iload_n dX7_hasRun_21 rfl ?_
        refine rz_isub dX7_hasRun_22 ?_
        refine rz_icmp_gt (t := 30) dX7_hasRun_23 rfl (by omega) (by omega) (fun c23 => ?_) (fun c23 => ?_)
        · refine rz_iconst dX7_hasRun_30 ?_
          refine rz_zret dX7_hasRun_31 rfl (by decide) ?_
          exact ⟨_, rfl, Or.inr ⟨rfl, by first | omega | assumption⟩, rfl, rfl⟩
        · refine rz_iconst dX7_hasRun_26 ?_
          refine rz_goto (t := 31) dX7_hasRun_27 rfl ?_
          refine rz_zret dX7_hasRun_31 rfl (by decide) ?_
          exact ⟨_, rfl, Or.inl ⟨rfl, by first | omega | assumption⟩, rfl, rfl⟩
def shiZC (I : IM) (v i w j n : Int) : Int := if ¬ ((0 ≤ v ∧ v ≤ 5) ∧ 0 ≤ w ∧ w ≤ 5) then -1 else if I (67 + 2 * v.toNat) 0 = 0 ∨ I (67 + 2 * w.toNat) 0 = 0 then -11 else if I (67 + 2 * v.toNat) 0 ≠ 2 ∨ I (67 + 2 * w.toNat) 0 ≠ 2 ∨ I (67 + 2 * v.toNat) 2 ≠ I (67 + 2 * w.toNat) 2 then -12 else if (0 ≤ i ∧ 0 ≤ n ∧ i ≤ I (67 + 2 * v.toNat) 3 ∧ n ≤ I (67 + 2 * v.toNat) 3 - i) ∧ (0 ≤ j ∧ 0 ≤ n ∧ j ≤ I (67 + 2 * w.toNat) 3 ∧ n ≤ I (67 + 2 * w.toNat) 3 - j) then n else -13
abbrev shiOC (I : IM) (v i w j n : Int) : Prop := ((0 ≤ v ∧ v ≤ 5) ∧ 0 ≤ w ∧ w ≤ 5) ∧ (I (67 + 2 * v.toNat) 0 = 2 ∧ I (67 + 2 * w.toNat) 0 = 2 ∧ I (67 + 2 * v.toNat) 2 = I (67 + 2 * w.toNat) 2) ∧ (0 ≤ i ∧ 0 ≤ n ∧ i ≤ I (67 + 2 * v.toNat) 3 ∧ n ≤ I (67 + 2 * v.toNat) 3 - i) ∧ (0 ≤ j ∧ 0 ≤ n ∧ j ≤ I (67 + 2 * w.toNat) 3 ∧ n ≤ I (67 + 2 * w.toNat) 3 - j)
def shiJC (I J : IM) (v i w j n : Int) : IM := if shiOC I v i w j n then upA J (68 + 2 * w.toNat) (va_cpy (J (68 + 2 * v.toNat)) (J (68 + 2 * w.toNat)) i.toNat j.toNat n.toNat) else J
set_option maxRecDepth 20000 in
set_option maxHeartbeats 400000 in
theorem c_X11_shift (X : pX) (h : Nat) (I J : IM) (v i w j n : Int) (hv : rg v) (hi : rg i) (hw : rg w) (hj : rg j) (hn : rg n) (hS : ∀ k : Nat, k < 6 → ((0 ≤ I (67 + 2 * k) 0 ∧ I (67 + 2 * k) 0 ≤ 2) ∧ 0 ≤ I (67 + 2 * k) 3 ∧ I (67 + 2 * k) 3 ≤ 60) ∧ 0 ≤ I (67 + 2 * k) 2 ∧ I (67 + 2 * k) 2 ≤ 4) : KI X (h + 1) mX11_shift [.ref 0, zi v, zi i, zi w, zi j, zi n] I J (shiZC I v i w j n) I (shiJC I J v i w j n) := by
  show Rz X (h + 1) mX11_shift 0 [some (.ref 0), some (zi v), some (zi i), some (zi w), some (zi j), some (zi n), none, none] [] I J _
  refine rz_iload_n dX11_shift_0 rfl ?_
  refine rz_cSIq dX11_shift_1 kl_RX11_153 (c_X11_isShelf X _ I J v (by omega)) rfl rfl (Nat.le_of_ble_eq_true rfl) (Nat.le_of_ble_eq_true rfl) ?_
  rintro z1 A1 B1 ⟨⟨rfl, b1⟩ | ⟨rfl, b1⟩, rfl, rfl⟩
  · refine rz_if_eq (t := 14) dX11_shift_4 rfl (by omega) (fun q => absurd q (by decide)) (fun _ => ?_)
    refine rz_iload_n dX11_shift_7 rfl ?_
    refine rz_cSIq dX11_shift_8 kl_RX11_153 (c_X11_isShelf X _ I J w (by omega)) rfl rfl (Nat.le_of_ble_eq_true rfl) (Nat.le_of_ble_eq_true rfl) ?_
    rintro z8 A8 B8 ⟨⟨rfl, b8⟩ | ⟨rfl, b8⟩, rfl, rfl⟩
    · refine rz_if_ne (t := 16) dX11_shift_11 rfl (by omega) (fun _ => ?_) (fun q => absurd q (by decide))
      have h7 := hS v.toNat (by omega)
      have h8 := hS w.toNat (by omega)
      refine rz_aload_n dX11_shift_16 rfl ?_
      refine rz_getR dX11_shift_17 kf_RX11_76 hd_0 rfl rr_0_10 ?_
      refine rz_iload_n dX11_shift_20 rfl ?_
      refine rz_aald (by decide) dX11_shift_21 hd_66 (by decide) (by omega) (rr_sh (by omega)) ?_
      refine rz_astore dX11_shift_22 (by decide) rfl ?_
      refine rz_aload_n dX11_shift_24 rfl ?_
      refine rz_getR dX11_shift_25 kf_RX11_76 hd_0 rfl rr_0_10 ?_
      refine rz_iload_n dX11_shift_28 rfl ?_
      refine rz_aald (by decide) dX11_shift_29 hd_66 (by decide) (by omega) (rr_sh (by omega)) ?_
      refine rz_astore dX11_shift_30 (by decide) rfl ?_
      refine rz_aload dX11_shift_32 rfl ?_
      refine rz_getI (z := (I (67 + 2 * v.toNat) 0)) dX11_shift_34 kf_RX11_156 (hd_sh (by omega)) rfl rfl ?_
      refine rz_if_eq (t := 48) dX11_shift_37 rfl (by omega) (fun c37 => ?_) (fun c37 => ?_)
      · refine rz_bipush dX11_shift_48 (by decide) ?_
        refine rz_iret dX11_shift_50 rfl ?_
        exact ⟨_, rfl, by unfold shiZC; (repeat' split) <;> first | rfl | omega, rfl, (if_neg (by omega)).symm⟩
      · refine rz_aload dX11_shift_40 rfl ?_
        refine rz_getI (z := (I (67 + 2 * w.toNat) 0)) dX11_shift_42 kf_RX11_156 (hd_sh (by omega)) rfl rfl ?_
        refine rz_if_ne (t := 51) dX11_shift_45 rfl (by omega) (fun c45 => ?_) (fun c45 => ?_)
        · refine rz_aload dX11_shift_51 rfl ?_
          refine rz_getI (z := (I (67 + 2 * v.toNat) 0)) dX11_shift_53 kf_RX11_156 (hd_sh (by omega)) rfl rfl ?_
          refine rz_iconst dX11_shift_56 ?_
          refine rz_icmp_ne (t := 82) dX11_shift_57 rfl (by omega) (by omega) (fun c57 => ?_) (fun c57 => ?_)
          · refine rz_bipush dX11_shift_82 (by decide) ?_
            refine rz_iret dX11_shift_84 rfl ?_
            exact ⟨_, rfl, by unfold shiZC; (repeat' split) <;> first | rfl | omega, rfl, (if_neg (by omega)).symm⟩
          · refine rz_aload dX11_shift_60 rfl ?_
            refine rz_getI (z := (I (67 + 2 * w.toNat) 0)) dX11_shift_62 kf_RX11_156 (hd_sh (by omega)) rfl rfl ?_
            refine rz_iconst dX11_shift_65 ?_
            refine rz_icmp_ne (t := 82) dX11_shift_66 rfl (by omega) (by omega) (fun c66 => ?_) (fun c66 => ?_)
            · refine rz_bipush dX11_shift_82 (by decide) ?_
              refine rz_iret dX11_shift_84 rfl ?_
              exact ⟨_, rfl, by unfold shiZC; (repeat' split) <;> first | rfl | omega, rfl, (if_neg (by omega)).symm⟩
            · refine rz_aload dX11_shift_69 rfl ?_
              refine rz_getI (z := (I (67 + 2 * v.toNat) 2)) dX11_shift_71 kf_RX11_159 (hd_sh (by omega)) rfl rfl ?_
              refine rz_aload dX11_shift_74 rfl ?_
              refine rz_getI (z := (I (67 + 2 * w.toNat) 2)) dX11_shift_76 kf_RX11_159 (hd_sh (by omega)) rfl rfl ?_
              refine rz_icmp_eq (t := 85) dX11_shift_79 rfl (by omega) (by omega) (fun c79 => ?_) (fun c79 => ?_)
              · refine rz_aload dX11_shift_85 rfl ?_
                refine rz_iload_n dX11_shift_87 rfl ?_
                refine rz_iload dX11_shift_88 rfl ?_
                refine rz_cVIq dX11_shift_90 kl_RX11_341 (hd_sh (by omega)) ⟨_, _, rfl⟩ (c_X7_hasRun X _ I J (67 + 2 * v.toNat) i n (hd_sh (by omega)) (hS _ (by omega)).1.2 (by omega) (by omega)) rfl rfl (Nat.le_of_ble_eq_true rfl) (Nat.le_of_ble_eq_true rfl) ?_
                rintro z90 A90 B90 ⟨⟨rfl, b90⟩ | ⟨rfl, b90⟩, rfl, rfl⟩
                · refine rz_if_eq (t := 108) dX11_shift_93 rfl (by omega) (fun q => absurd q (by decide)) (fun _ => ?_)
                  refine rz_aload dX11_shift_96 rfl ?_
                  refine rz_iload dX11_shift_98 rfl ?_
                  refine rz_iload dX11_shift_100 rfl ?_
                  refine rz_cVIq dX11_shift_102 kl_RX11_341 (hd_sh (by omega)) ⟨_, _, rfl⟩ (c_X7_hasRun X _ I J (67 + 2 * w.toNat) j n (hd_sh (by omega)) (hS _ (by omega)).1.2 (by omega) (by omega)) rfl rfl (Nat.le_of_ble_eq_true rfl) (Nat.le_of_ble_eq_true rfl) ?_
                  rintro z102 A102 B102 ⟨⟨rfl, b102⟩ | ⟨rfl, b102⟩, rfl, rfl⟩
                  · refine rz_if_ne (t := 111) dX11_shift_105 rfl (by omega) (fun _ => ?_) (fun q => absurd q (by decide))
                    refine rz_aload dX11_shift_111 rfl ?_
                    refine rz_getR dX11_shift_113 kf_RX11_169 (hd_sh (by omega)) rfl (rr_el (by omega)) ?_
                    refine rz_iload_n dX11_shift_116 rfl ?_
                    refine rz_aload dX11_shift_117 rfl ?_
                    refine rz_getR dX11_shift_119 kf_RX11_169 (hd_sh (by omega)) rfl (rr_el (by omega)) ?_
                    refine rz_iload dX11_shift_122 rfl ?_
                    refine rz_iload dX11_shift_124 rfl ?_
                    refine rz_copyl dX11_shift_126 kl_RX11_345 (hd_el (by omega)) (hd_el (by omega)) (by decide) (Nat.le_of_ble_eq_true rfl) (by omega) ?_
                    refine rz_iload dX11_shift_129 rfl ?_
                    refine rz_iret dX11_shift_131 rfl ?_
                    exact ⟨_, rfl, by unfold shiZC; (repeat' split) <;> first | rfl | omega, rfl, (if_pos (by omega)).symm⟩
                  · refine rz_if_ne (t := 111) dX11_shift_105 rfl (by omega) (fun q => absurd q (by decide)) (fun _ => ?_)
                    refine rz_bipush dX11_shift_108 (by decide) ?_
                    refine rz_iret dX11_shift_110 rfl ?_
                    exact ⟨_, rfl, by unfold shiZC; (repeat' split) <;> first | rfl | omega, rfl, (if_neg (by omega)).symm⟩
                · refine rz_if_eq (t := 108) dX11_shift_93 rfl (by omega) (fun _ => ?_) (fun q => absurd q (by decide))
                  refine rz_bipush dX11_shift_108 (by decide) ?_
                  refine rz_iret dX11_shift_110 rfl ?_
                  exact ⟨_, rfl, by unfold shiZC; (repeat' split) <;> first | rfl | omega, rfl, (if_neg (by omega)).symm⟩
              · refine rz_bipush dX11_shift_82 (by decide) ?_
                refine rz_iret dX11_shift_84 rfl ?_
                exact ⟨_, rfl, by unfold shiZC; (repeat' split) <;> first | rfl | omega, rfl, (if_neg (by omega)).symm⟩
        · refine rz_bipush dX11_shift_48 (by decide) ?_
          refine rz_iret dX11_shift_50 rfl ?_
          exact ⟨_, rfl, by unfold shiZC; (repeat' split) <;> first | rfl | omega, rfl, (if_neg (by omega)).symm⟩
    · refine rz_if_ne (t := 16) dX11_shift_11 rfl (by omega) (fun q => absurd q (by decide)) (fun _ => ?_)
      refine rz_iconst dX11_shift_14 ?_
      refine rz_iret dX11_shift_15 rfl ?_
      exact ⟨_, rfl, by unfold shiZC; (repeat' split) <;> first | rfl | omega, rfl, (if_neg (by omega)).symm⟩
  · refine rz_if_eq (t := 14) dX11_shift_4 rfl (by omega) (fun _ => ?_) (fun q => absurd q (by decide))
    refine rz_iconst dX11_shift_14 ?_
    refine rz_iret dX11_shift_15 rfl ?_
    exact ⟨_, rfl, by unfold shiZC; (repeat' split) <;> first | rfl | omega, rfl, (if_neg (by omega)).symm⟩
abbrev undP (k o : Int) : Prop := o = 0 ∨ k = o ∨ (o = 1 ∧ (k = 4 ∨ k = 5)) ∨ (o = 2 ∧ k = 3) ∨ (o = 4 ∧ k = 5) ∨ (o = 6 ∧ k = 7)
set_option maxRecDepth 20000 in
set_option maxHeartbeats 400000 in
theorem c_under0 (X : pX) (h : Nat) (I J : IM) (o : Int) (ho : rg o) : KIq X h mX0_isUnder [zi 0, zi o] I J (BQ I J (undP 0 o)) := by
  show Rz X h mX0_isUnder 0 [some (zi 0), some (zi o), none, none] [] I J _
  refine rz_iload_n dX0_isUnder_0 rfl ?_
  refine rz_istore_n dX0_isUnder_1 (by decide) rfl ?_
  refine rz_iconst dX0_isUnder_2 ?_
  refine rz_istore_n dX0_isUnder_3 (by decide) rfl ?_
  refine rz_iload_n dX0_isUnder_4 rfl ?_
  refine rz_bipush dX0_isUnder_5 (by decide) ?_
  refine rz_icmp_ge (t := 33) dX0_isUnder_7 rfl (by omega) (by omega) (fun q => absurd q (by decide)) (fun _ => ?_)
  refine rz_iload_n dX0_isUnder_10 rfl ?_
  refine rz_if_lt (t := 33) dX0_isUnder_11 rfl (by omega) (fun q => absurd q (by decide)) (fun _ => ?_)
  refine rz_iload_n dX0_isUnder_14 rfl ?_
  refine rz_iload_n dX0_isUnder_15 rfl ?_
  refine rz_icmp_ne (t := 21) dX0_isUnder_16 rfl (by omega) (by omega) (fun c16 => ?_) (fun c16 => ?_)
  · refine rz_gets0 dX0_isUnder_21 kf_RX0_29 ?_
    refine rz_iload_n dX0_isUnder_24 rfl ?_
    refine rz_tld0 (z := (-1)) dX0_isUnder_25 (by decide) rfl ?_
    refine rz_istore_n (ls' := [some (zi 0), some (zi o), some (zi (-1)), some (zi 0)]) dX0_isUnder_26 (by decide) rfl ?_
    refine rz_iinc (z := 1) dX0_isUnder_27 (by decide) rfl rfl rfl ?_
    refine rz_goto (t := 4) dX0_isUnder_30 rfl ?_
    refine rz_iload_n dX0_isUnder_4 rfl ?_
    refine rz_bipush dX0_isUnder_5 (by decide) ?_
    refine rz_icmp_ge (t := 33) dX0_isUnder_7 rfl (by omega) (by omega) (fun q => absurd q (by decide)) (fun _ => ?_)
    refine rz_iload_n dX0_isUnder_10 rfl ?_
    refine rz_if_lt (t := 33) dX0_isUnder_11 rfl (by omega) (fun _ => ?_) (fun q => absurd q (by decide))
    refine rz_iconst dX0_isUnder_33 ?_
    refine rz_zret dX0_isUnder_34 rfl (by decide) ?_
    exact ⟨_, rfl, Or.inr ⟨rfl, by first | omega | assumption⟩, rfl, rfl⟩
  · refine rz_iconst dX0_isUnder_19 ?_
    refine rz_zret dX0_isUnder_20 rfl (by decide) ?_
    exact ⟨_, rfl, Or.inl ⟨rfl, by first | omega | assumption⟩, rfl, rfl⟩
set_option maxRecDepth 20000 in
set_option maxHeartbeats 400000 in
theorem c_under1 (X : pX) (h : Nat) (I J : IM) (o : Int) (ho : rg o) : KIq X h mX0_isUnder [zi 1, zi o] I J (BQ I J (undP 1 o)) := by
  show Rz X h mX0_isUnder 0 [some (zi 1), some (zi o), none, none] [] I J _
  refine rz_iload_n dX0_isUnder_0 rfl ?_
  refine rz_istore_n dX0_isUnder_1 (by decide) rfl ?_
  refine rz_iconst dX0_isUnder_2 ?_
  refine rz_istore_n dX0_isUnder_3 (by decide) rfl ?_
  refine rz_iload_n dX0_isUnder_4 rfl ?_
  refine rz_bipush dX0_isUnder_5 (by decide) ?_
  refine rz_icmp_ge (t := 33) dX0_isUnder_7 rfl (by omega) (by omega) (fun q => absurd q (by decide)) (fun _ => ?_)
  refine rz_iload_n dX0_isUnder_10 rfl ?_
  refine rz_if_lt (t := 33) dX0_isUnder_11 rfl (by omega) (fun q => absurd q (by decide)) (fun _ => ?_)
  refine rz_iload_n dX0_isUnder_14 rfl ?_
  refine rz_iload_n dX0_isUnder_15 rfl ?_
  refine rz_icmp_ne (t := 21) dX0_isUnder_16 rfl (by omega) (by omega) (fun c16 => ?_) (fun c16 => ?_)
  · refine rz_gets0 dX0_isUnder_21 kf_RX0_29 ?_
    refine rz_iload_n dX0_isUnder_24 rfl ?_
    refine rz_tld0 (z := 0) dX0_isUnder_25 (by decide) rfl ?_
    refine rz_istore_n (ls' := [some (zi 1), some (zi o), some (zi 0), some (zi 0)]) dX0_isUnder_26 (by decide) rfl ?_
    refine rz_iinc (z := 1) dX0_isUnder_27 (by decide) rfl rfl rfl ?_
    refine rz_goto (t := 4) dX0_isUnder_30 rfl ?_
    refine rz_iload_n dX0_isUnder_4 rfl ?_
    refine rz_bipush dX0_isUnder_5 (by decide) ?_
    refine rz_icmp_ge (t := 33) dX0_isUnder_7 rfl (by omega) (by omega) (fun q => absurd q (by decide)) (fun _ => ?_)
    refine rz_iload_n dX0_isUnder_10 rfl ?_
    refine rz_if_lt (t := 33) dX0_isUnder_11 rfl (by omega) (fun q => absurd q (by decide)) (fun _ => ?_)
    refine rz_iload_n dX0_isUnder_14 rfl ?_
    refine rz_iload_n dX0_isUnder_15 rfl ?_
    refine rz_icmp_ne (t := 21) dX0_isUnder_16 rfl (by omega) (by omega) (fun c16 => ?_) (fun c16 => ?_)
    · refine rz_gets0 dX0_isUnder_21 kf_RX0_29 ?_
      refine rz_iload_n dX0_isUnder_24 rfl ?_
      refine rz_tld0 (z := (-1)) dX0_isUnder_25 (by decide) rfl ?_
      refine rz_istore_n dX0_isUnder_26 (by decide) rfl ?_
      refine rz_iinc (ls' := [some (zi 1), some (zi o), some (zi (-1)), some (zi 2)]) (z := 2) dX0_isUnder_27 (by decide) rfl rfl rfl ?_
      refine rz_goto (t := 4) dX0_isUnder_30 rfl ?_
      refine rz_iload_n dX0_isUnder_4 rfl ?_
      refine rz_bipush dX0_isUnder_5 (by decide) ?_
      refine rz_icmp_ge (t := 33) dX0_isUnder_7 rfl (by omega) (by omega) (fun q => absurd q (by decide)) (fun _ => ?_)
      refine rz_iload_n dX0_isUnder_10 rfl ?_
      refine rz_if_lt (t := 33) dX0_isUnder_11 rfl (by omega) (fun _ => ?_) (fun q => absurd q (by decide))
      refine rz_iconst dX0_isUnder_33 ?_
      refine rz_zret dX0_isUnder_34 rfl (by decide) ?_
      exact ⟨_, rfl, Or.inr ⟨rfl, by first | omega | assumption⟩, rfl, rfl⟩
    · refine rz_iconst dX0_isUnder_19 ?_
      refine rz_zret dX0_isUnder_20 rfl (by decide) ?_
      exact ⟨_, rfl, Or.inl ⟨rfl, by first | omega | assumption⟩, rfl, rfl⟩
  · refine rz_iconst dX0_isUnder_19 ?_
    refine rz_zret dX0_isUnder_20 rfl (by decide) ?_
    exact ⟨_, rfl, Or.inl ⟨rfl, by first | omega | assumption⟩, rfl, rfl⟩
set_option maxRecDepth 20000 in
set_option maxHeartbeats 400000 in
theorem c_under2 (X : pX) (h : Nat) (I J : IM) (o : Int) (ho : rg o) : KIq X h mX0_isUnder [zi 2, zi o] I J (BQ I J (undP 2 o)) := by
  show Rz X h mX0_isUnder 0 [some (zi 2), some (zi o), none, none] [] I J _
  refine rz_iload_n dX0_isUnder_0 rfl ?_
  refine rz_istore_n dX0_isUnder_1 (by decide) rfl ?_
  refine rz_iconst dX0_isUnder_2 ?_
  refine rz_istore_n dX0_isUnder_3 (by decide) rfl ?_
  refine rz_iload_n dX0_isUnder_4 rfl ?_
  refine rz_bipush dX0_isUnder_5 (by decide) ?_
  refine rz_icmp_ge (t := 33) dX0_isUnder_7 rfl (by omega) (by omega) (fun q => absurd q (by decide)) (fun _ => ?_)
  refine rz_iload_n dX0_isUnder_10 rfl ?_
  refine rz_if_lt (t := 33) dX0_isUnder_11 rfl (by omega) (fun q => absurd q (by decide)) (fun _ => ?_)
  refine rz_iload_n dX0_isUnder_14 rfl ?_
  refine rz_iload_n dX0_isUnder_15 rfl ?_
  refine rz_icmp_ne (t := 21) dX0_isUnder_16 rfl (by omega) (by omega) (fun c16 => ?_) (fun c16 => ?_)
  · refine rz_gets0 dX0_isUnder_21 kf_RX0_29 ?_
    refine rz_iload_n dX0_isUnder_24 rfl ?_
    refine rz_tld0 (z := 0) dX0_isUnder_25 (by decide) rfl ?_
    refine rz_istore_n (ls' := [some (zi 2), some (zi o), some (zi 0), some (zi 0)]) dX0_isUnder_26 (by decide) rfl ?_
    refine rz_iinc (z := 1) dX0_isUnder_27 (by decide) rfl rfl rfl ?_
    refine rz_goto (t := 4) dX0_isUnder_30 rfl ?_
    refine rz_iload_n dX0_isUnder_4 rfl ?_
    refine rz_bipush dX0_isUnder_5 (by decide) ?_
    refine rz_icmp_ge (t := 33) dX0_isUnder_7 rfl (by omega) (by omega) (fun q => absurd q (by decide)) (fun _ => ?_)
    refine rz_iload_n dX0_isUnder_10 rfl ?_
    refine rz_if_lt (t := 33) dX0_isUnder_11 rfl (by omega) (fun q => absurd q (by decide)) (fun _ => ?_)
    refine rz_iload_n dX0_isUnder_14 rfl ?_
    refine rz_iload_n dX0_isUnder_15 rfl ?_
    refine rz_icmp_ne (t := 21) dX0_isUnder_16 rfl (by omega) (by omega) (fun c16 => ?_) (fun c16 => ?_)
    · refine rz_gets0 dX0_isUnder_21 kf_RX0_29 ?_
      refine rz_iload_n dX0_isUnder_24 rfl ?_
      refine rz_tld0 (z := (-1)) dX0_isUnder_25 (by decide) rfl ?_
      refine rz_istore_n dX0_isUnder_26 (by decide) rfl ?_
      refine rz_iinc (ls' := [some (zi 2), some (zi o), some (zi (-1)), some (zi 2)]) (z := 2) dX0_isUnder_27 (by decide) rfl rfl rfl ?_
      refine rz_goto (t := 4) dX0_isUnder_30 rfl ?_
      refine rz_iload_n dX0_isUnder_4 rfl ?_
      refine rz_bipush dX0_isUnder_5 (by decide) ?_
      refine rz_icmp_ge (t := 33) dX0_isUnder_7 rfl (by omega) (by omega) (fun q => absurd q (by decide)) (fun _ => ?_)
      refine rz_iload_n dX0_isUnder_10 rfl ?_
      refine rz_if_lt (t := 33) dX0_isUnder_11 rfl (by omega) (fun _ => ?_) (fun q => absurd q (by decide))
      refine rz_iconst dX0_isUnder_33 ?_
      refine rz_zret dX0_isUnder_34 rfl (by decide) ?_
      exact ⟨_, rfl, Or.inr ⟨rfl, by first | omega | assumption⟩, rfl, rfl⟩
    · refine rz_iconst dX0_isUnder_19 ?_
      refine rz_zret dX0_isUnder_20 rfl (by decide) ?_
      exact ⟨_, rfl, Or.inl ⟨rfl, by first | omega | assumption⟩, rfl, rfl⟩
  · refine rz_iconst dX0_isUnder_19 ?_
    refine rz_zret dX0_isUnder_20 rfl (by decide) ?_
    exact ⟨_, rfl, Or.inl ⟨rfl, by first | omega | assumption⟩, rfl, rfl⟩
set_option maxRecDepth 20000 in
set_option maxHeartbeats 400000 in
theorem c_under3 (X : pX) (h : Nat) (I J : IM) (o : Int) (ho : rg o) : KIq X h mX0_isUnder [zi 3, zi o] I J (BQ I J (undP 3 o)) := by
  show Rz X h mX0_isUnder 0 [some (zi 3), some (zi o), none, none] [] I J _
  refine rz_iload_n dX0_isUnder_0 rfl ?_
  refine rz_istore_n dX0_isUnder_1 (by decide) rfl ?_
  refine rz_iconst dX0_isUnder_2 ?_
  refine rz_istore_n dX0_isUnder_3 (by decide) rfl ?_
  refine rz_iload_n dX0_isUnder_4 rfl ?_
  refine rz_bipush dX0_isUnder_5 (by decide) ?_
  refine rz_icmp_ge (t := 33) dX0_isUnder_7 rfl (by omega) (by omega) (fun q => absurd q (by decide)) (fun _ => ?_)
  refine rz_iload_n dX0_isUnder_10 rfl ?_
  refine rz_if_lt (t := 33) dX0_isUnder_11 rfl (by omega) (fun q => absurd q (by decide)) (fun _ => ?_)
  refine rz_iload_n dX0_isUnder_14 rfl ?_
  refine rz_iload_n dX0_isUnder_15 rfl ?_
  refine rz_icmp_ne (t := 21) dX0_isUnder_16 rfl (by omega) (by omega) (fun c16 => ?_) (fun c16 => ?_)
  · refine rz_gets0 dX0_isUnder_21 kf_RX0_29 ?_
    refine rz_iload_n dX0_isUnder_24 rfl ?_
    refine rz_tld0 (z := 2) dX0_isUnder_25 (by decide) rfl ?_
    refine rz_istore_n (ls' := [some (zi 3), some (zi o), some (zi 2), some (zi 0)]) dX0_isUnder_26 (by decide) rfl ?_
    refine rz_iinc (z := 1) dX0_isUnder_27 (by decide) rfl rfl rfl ?_
    refine rz_goto (t := 4) dX0_isUnder_30 rfl ?_
    refine rz_iload_n dX0_isUnder_4 rfl ?_
    refine rz_bipush dX0_isUnder_5 (by decide) ?_
    refine rz_icmp_ge (t := 33) dX0_isUnder_7 rfl (by omega) (by omega) (fun q => absurd q (by decide)) (fun _ => ?_)
    refine rz_iload_n dX0_isUnder_10 rfl ?_
    refine rz_if_lt (t := 33) dX0_isUnder_11 rfl (by omega) (fun q => absurd q (by decide)) (fun _ => ?_)
    refine rz_iload_n dX0_isUnder_14 rfl ?_
    refine rz_iload_n dX0_isUnder_15 rfl ?_
    refine rz_icmp_ne (t := 21) dX0_isUnder_16 rfl (by omega) (by omega) (fun c16 => ?_) (fun c16 => ?_)
    · refine rz_gets0 dX0_isUnder_21 kf_RX0_29 ?_
      refine rz_iload_n dX0_isUnder_24 rfl ?_
      refine rz_tld0 (z := 0) dX0_isUnder_25 (by decide) rfl ?_
      refine rz_istore_n dX0_isUnder_26 (by decide) rfl ?_
      refine rz_iinc (ls' := [some (zi 3), some (zi o), some (zi 0), some (zi 2)]) (z := 2) dX0_isUnder_27 (by decide) rfl rfl rfl ?_
      refine rz_goto (t := 4) dX0_isUnder_30 rfl ?_
      refine rz_iload_n dX0_isUnder_4 rfl ?_
      refine rz_bipush dX0_isUnder_5 (by decide) ?_
      refine rz_icmp_ge (t := 33) dX0_isUnder_7 rfl (by omega) (by omega) (fun q => absurd q (by decide)) (fun _ => ?_)
      refine rz_iload_n dX0_isUnder_10 rfl ?_
      refine rz_if_lt (t := 33) dX0_isUnder_11 rfl (by omega) (fun q => absurd q (by decide)) (fun _ => ?_)
      refine rz_iload_n dX0_isUnder_14 rfl ?_
      refine rz_iload_n dX0_isUnder_15 rfl ?_
      refine rz_icmp_ne (t := 21) dX0_isUnder_16 rfl (by omega) (by omega) (fun c16 => ?_) (fun c16 => ?_)
      · refine rz_gets0 dX0_isUnder_21 kf_RX0_29 ?_
        refine rz_iload_n dX0_isUnder_24 rfl ?_
        refine rz_tld0 (z := (-1)) dX0_isUnder_25 (by decide) rfl ?_
        refine rz_istore_n dX0_isUnder_26 (by decide) rfl ?_
        refine rz_iinc (z := 3) dX0_isUnder_27 (by decide) rfl rfl rfl ?_
        refine rz_goto (t := 4) dX0_isUnder_30 rfl ?_
        refine rz_iload_n dX0_isUnder_4 rfl ?_
        refine rz_bipush dX0_isUnder_5 (by decide) ?_
        refine rz_icmp_ge (t := 33) dX0_isUnder_7 rfl (by omega) (by omega) (fun q => absurd q (by decide)) (fun _ => ?_)
        refine rz_iload_n dX0_isUnder_10 rfl ?_
        refine rz_if_lt (t := 33) dX0_isUnder_11 rfl (by omega) (fun _ => ?_) (fun q => absurd q (by decide))
        refine rz_iconst dX0_isUnder_33 ?_
        refine rz_zret dX0_isUnder_34 rfl (by decide) ?_
        exact ⟨_, rfl, Or.inr ⟨rfl, by first | omega | assumption⟩, rfl, rfl⟩
      · refine rz_iconst dX0_isUnder_19 ?_
        refine rz_zret dX0_isUnder_20 rfl (by decide) ?_
        exact ⟨_, rfl, Or.inl ⟨rfl, by first | omega | assumption⟩, rfl, rfl⟩
    · refine rz_iconst dX0_isUnder_19 ?_
      refine rz_zret dX0_isUnder_20 rfl (by decide) ?_
      exact ⟨_, rfl, Or.inl ⟨rfl, by first | omega | assumption⟩, rfl, rfl⟩
  · refine rz_iconst dX0_isUnder_19 ?_
    refine rz_zret dX0_isUnder_20 rfl (by decide) ?_
    exact ⟨_, rfl, Or.inl ⟨rfl, by first | omega | assumption⟩, rfl, rfl⟩
set_option maxRecDepth 20000 in
set_option maxHeartbeats 400000 in
theorem c_under4 (X : pX) (h : Nat) (I J : IM) (o : Int) (ho : rg o) : KIq X h mX0_isUnder [zi 4, zi o] I J (BQ I J (undP 4 o)) := by
  show Rz X h mX0_isUnder 0 [some (zi 4), some (zi o), none, none] [] I J _
  refine rz_iload_n dX0_isUnder_0 rfl ?_
  refine rz_istore_n dX0_isUnder_1 (by decide) rfl ?_
  refine rz_iconst dX0_isUnder_2 ?_
  refine rz_istore_n dX0_isUnder_3 (by decide) rfl ?_
  refine rz_iload_n dX0_isUnder_4 rfl ?_
  refine rz_bipush dX0_isUnder_5 (by decide) ?_
  refine rz_icmp_ge (t := 33) dX0_isUnder_7 rfl (by omega) (by omega) (fun q => absurd q (by decide)) (fun _ => ?_)
  refine rz_iload_n dX0_isUnder_10 rfl ?_
  refine rz_if_lt (t := 33) dX0_isUnder_11 rfl (by omega) (fun q => absurd q (by decide)) (fun _ => ?_)
  refine rz_iload_n dX0_isUnder_14 rfl ?_
  refine rz_iload_n dX0_isUnder_15 rfl ?_
  refine rz_icmp_ne (t := 21) dX0_isUnder_16 rfl (by omega) (by omega) (fun c16 => ?_) (fun c16 => ?_)
  · refine rz_gets0 dX0_isUnder_21 kf_RX0_29 ?_
    refine rz_iload_n dX0_isUnder_24 rfl ?_
    refine rz_tld0 (z := 1) dX0_isUnder_25 (by decide) rfl ?_
    refine rz_istore_n (ls' := [some (zi 4), some (zi o), some (zi 1), some (zi 0)]) dX0_isUnder_26 (by decide) rfl ?_
    refine rz_iinc (z := 1) dX0_isUnder_27 (by decide) rfl rfl rfl ?_
    refine rz_goto (t := 4) dX0_isUnder_30 rfl ?_
    refine rz_iload_n dX0_isUnder_4 rfl ?_
    refine rz_bipush dX0_isUnder_5 (by decide) ?_
    refine rz_icmp_ge (t := 33) dX0_isUnder_7 rfl (by omega) (by omega) (fun q => absurd q (by decide)) (fun _ => ?_)
    refine rz_iload_n dX0_isUnder_10 rfl ?_
    refine rz_if_lt (t := 33) dX0_isUnder_11 rfl (by omega) (fun q => absurd q (by decide)) (fun _ => ?_)
    refine rz_iload_n dX0_isUnder_14 rfl ?_
    refine rz_iload_n dX0_isUnder_15 rfl ?_
    refine rz_icmp_ne (t := 21) dX0_isUnder_16 rfl (by omega) (by omega) (fun c16 => ?_) (fun c16 => ?_)
    · refine rz_gets0 dX0_isUnder_21 kf_RX0_29 ?_
      refine rz_iload_n dX0_isUnder_24 rfl ?_
      refine rz_tld0 (z := 0) dX0_isUnder_25 (by decide) rfl ?_
      refine rz_istore_n dX0_isUnder_26 (by decide) rfl ?_
      refine rz_iinc (ls' := [some (zi 4), some (zi o), some (zi 0), some (zi 2)]) (z := 2) dX0_isUnder_27 (by decide) rfl rfl rfl ?_
      refine rz_goto (t := 4) dX0_isUnder_30 rfl ?_
      refine rz_iload_n dX0_isUnder_4 rfl ?_
      refine rz_bipush dX0_isUnder_5 (by decide) ?_
      refine rz_icmp_ge (t := 33) dX0_isUnder_7 rfl (by omega) (by omega) (fun q => absurd q (by decide)) (fun _ => ?_)
      refine rz_iload_n dX0_isUnder_10 rfl ?_
      refine rz_if_lt (t := 33) dX0_isUnder_11 rfl (by omega) (fun q => absurd q (by decide)) (fun _ => ?_)
      refine rz_iload_n dX0_isUnder_14 rfl ?_
      refine rz_iload_n dX0_isUnder_15 rfl ?_
      refine rz_icmp_ne (t := 21) dX0_isUnder_16 rfl (by omega) (by omega) (fun c16 => ?_) (fun c16 => ?_)
      · refine rz_gets0 dX0_isUnder_21 kf_RX0_29 ?_
        refine rz_iload_n dX0_isUnder_24 rfl ?_
        refine rz_tld0 (z := (-1)) dX0_isUnder_25 (by decide) rfl ?_
        refine rz_istore_n dX0_isUnder_26 (by decide) rfl ?_
        refine rz_iinc (z := 3) dX0_isUnder_27 (by decide) rfl rfl rfl ?_
        refine rz_goto (t := 4) dX0_isUnder_30 rfl ?_
        refine rz_iload_n dX0_isUnder_4 rfl ?_
        refine rz_bipush dX0_isUnder_5 (by decide) ?_
        refine rz_icmp_ge (t := 33) dX0_isUnder_7 rfl (by omega) (by omega) (fun q => absurd q (by decide)) (fun _ => ?_)
        refine rz_iload_n dX0_isUnder_10 rfl ?_
        refine rz_if_lt (t := 33) dX0_isUnder_11 rfl (by omega) (fun _ => ?_) (fun q => absurd q (by decide))
        refine rz_iconst dX0_isUnder_33 ?_
        refine rz_zret dX0_isUnder_34 rfl (by decide) ?_
        exact ⟨_, rfl, Or.inr ⟨rfl, by first | omega | assumption⟩, rfl, rfl⟩
      · refine rz_iconst dX0_isUnder_19 ?_
        refine rz_zret dX0_isUnder_20 rfl (by decide) ?_
        exact ⟨_, rfl, Or.inl ⟨rfl, by first | omega | assumption⟩, rfl, rfl⟩
    · refine rz_iconst dX0_isUnder_19 ?_
      refine rz_zret dX0_isUnder_20 rfl (by decide) ?_
      exact ⟨_, rfl, Or.inl ⟨rfl, by first | omega | assumption⟩, rfl, rfl⟩
  · refine rz_iconst dX0_isUnder_19 ?_
    refine rz_zret dX0_isUnder_20 rfl (by decide) ?_
    exact ⟨_, rfl, Or.inl ⟨rfl, by first | omega | assumption⟩, rfl, rfl⟩
set_option maxRecDepth 20000 in
set_option maxHeartbeats 400000 in
theorem c_under5 (X : pX) (h : Nat) (I J : IM) (o : Int) (ho : rg o) : KIq X h mX0_isUnder [zi 5, zi o] I J (BQ I J (undP 5 o)) := by
  show Rz X h mX0_isUnder 0 [some (zi 5), some (zi o), none, none] [] I J _
  refine rz_iload_n dX0_isUnder_0 rfl ?_
  refine rz_istore_n dX0_isUnder_1 (by decide) rfl ?_
  refine rz_iconst dX0_isUnder_2 ?_
  refine rz_istore_n dX0_isUnder_3 (by decide) rfl ?_
  refine rz_iload_n dX0_isUnder_4 rfl ?_
  refine rz_bipush dX0_isUnder_5 (by decide) ?_
  refine rz_icmp_ge (t := 33) dX0_isUnder_7 rfl (by omega) (by omega) (fun q => absurd q (by decide)) (fun _ => ?_)
  refine rz_iload_n dX0_isUnder_10 rfl ?_
  refine rz_if_lt (t := 33) dX0_isUnder_11 rfl (by omega) (fun q => absurd q (by decide)) (fun _ => ?_)
  refine rz_iload_n dX0_isUnder_14 rfl ?_
  refine rz_iload_n dX0_isUnder_15 rfl ?_
  refine rz_icmp_ne (t := 21) dX0_isUnder_16 rfl (by omega) (by omega) (fun c16 => ?_) (fun c16 => ?_)
  · refine rz_gets0 dX0_isUnder_21 kf_RX0_29 ?_
    refine rz_iload_n dX0_isUnder_24 rfl ?_
    refine rz_tld0 (z := 4) dX0_isUnder_25 (by decide) rfl ?_
    refine rz_istore_n (ls' := [some (zi 5), some (zi o), some (zi 4), some (zi 0)]) dX0_isUnder_26 (by decide) rfl ?_
    refine rz_iinc (z := 1) dX0_isUnder_27 (by decide) rfl rfl rfl ?_
    refine rz_goto (t := 4) dX0_isUnder_30 rfl ?_
    refine rz_iload_n dX0_isUnder_4 rfl ?_
    refine rz_bipush dX0_isUnder_5 (by decide) ?_
    refine rz_icmp_ge (t := 33) dX0_isUnder_7 rfl (by omega) (by omega) (fun q => absurd q (by decide)) (fun _ => ?_)
    refine rz_iload_n dX0_isUnder_10 rfl ?_
    refine rz_if_lt (t := 33) dX0_isUnder_11 rfl (by omega) (fun q => absurd q (by decide)) (fun _ => ?_)
    refine rz_iload_n dX0_isUnder_14 rfl ?_
    refine rz_iload_n dX0_isUnder_15 rfl ?_
    refine rz_icmp_ne (t := 21) dX0_isUnder_16 rfl (by omega) (by omega) (fun c16 => ?_) (fun c16 => ?_)
    · refine rz_gets0 dX0_isUnder_21 kf_RX0_29 ?_
      refine rz_iload_n dX0_isUnder_24 rfl ?_
      refine rz_tld0 (z := 1) dX0_isUnder_25 (by decide) rfl ?_
      refine rz_istore_n dX0_isUnder_26 (by decide) rfl ?_
      refine rz_iinc (ls' := [some (zi 5), some (zi o), some (zi 1), some (zi 2)]) (z := 2) dX0_isUnder_27 (by decide) rfl rfl rfl ?_
      refine rz_goto (t := 4) dX0_isUnder_30 rfl ?_
      refine rz_iload_n dX0_isUnder_4 rfl ?_
      refine rz_bipush dX0_isUnder_5 (by decide) ?_
      refine rz_icmp_ge (t := 33) dX0_isUnder_7 rfl (by omega) (by omega) (fun q => absurd q (by decide)) (fun _ => ?_)
      refine rz_iload_n dX0_isUnder_10 rfl ?_
      refine rz_if_lt (t := 33) dX0_isUnder_11 rfl (by omega) (fun q => absurd q (by decide)) (fun _ => ?_)
      refine rz_iload_n dX0_isUnder_14 rfl ?_
      refine rz_iload_n dX0_isUnder_15 rfl ?_
      refine rz_icmp_ne (t := 21) dX0_isUnder_16 rfl (by omega) (by omega) (fun c16 => ?_) (fun c16 => ?_)
      · refine rz_gets0 dX0_isUnder_21 kf_RX0_29 ?_
        refine rz_iload_n dX0_isUnder_24 rfl ?_
        refine rz_tld0 (z := 0) dX0_isUnder_25 (by decide) rfl ?_
        refine rz_istore_n dX0_isUnder_26 (by decide) rfl ?_
        refine rz_iinc (z := 3) dX0_isUnder_27 (by decide) rfl rfl rfl ?_
        refine rz_goto (t := 4) dX0_isUnder_30 rfl ?_
        refine rz_iload_n dX0_isUnder_4 rfl ?_
        refine rz_bipush dX0_isUnder_5 (by decide) ?_
        refine rz_icmp_ge (t := 33) dX0_isUnder_7 rfl (by omega) (by omega) (fun q => absurd q (by decide)) (fun _ => ?_)
        refine rz_iload_n dX0_isUnder_10 rfl ?_
        refine rz_if_lt (t := 33) dX0_isUnder_11 rfl (by omega) (fun q => absurd q (by decide)) (fun _ => ?_)
        refine rz_iload_n dX0_isUnder_14 rfl ?_
        refine rz_iload_n dX0_isUnder_15 rfl ?_
        refine rz_icmp_ne (t := 21) dX0_isUnder_16 rfl (by omega) (by omega) (fun c16 => ?_) (fun c16 => ?_)
        · refine rz_gets0 dX0_isUnder_21 kf_RX0_29 ?_
          refine rz_iload_n dX0_isUnder_24 rfl ?_
          refine rz_tld0 (z := (-1)) dX0_isUnder_25 (by decide) rfl ?_
          refine rz_istore_n (ls' := [some (zi 5), some (zi o), some (zi (-1)), some (zi 3)]) dX0_isUnder_26 (by decide) rfl ?_
          refine rz_iinc (z := 4) dX0_isUnder_27 (by decide) rfl rfl rfl ?_
          refine rz_goto (t := 4) dX0_isUnder_30 rfl ?_
          refine rz_iload_n dX0_isUnder_4 rfl ?_
          refine rz_bipush dX0_isUnder_5 (by decide) ?_
          refine rz_icmp_ge (t := 33) dX0_isUnder_7 rfl (by omega) (by omega) (fun q => absurd q (by decide)) (fun _ => ?_)
          refine rz_iload_n dX0_isUnder_10 rfl ?_
          refine rz_if_lt (t := 33) dX0_isUnder_11 rfl (by omega) (fun _ => ?_) (fun q => absurd q (by decide))
          refine rz_iconst dX0_isUnder_33 ?_
          refine rz_zret dX0_isUnder_34 rfl (by decide) ?_
          exact ⟨_, rfl, Or.inr ⟨rfl, by first | omega | assumption⟩, rfl, rfl⟩
        · refine rz_iconst dX0_isUnder_19 ?_
          refine rz_zret dX0_isUnder_20 rfl (by decide) ?_
          exact ⟨_, rfl, Or.inl ⟨rfl, by first | omega | assumption⟩, rfl, rfl⟩
      · refine rz_iconst dX0_isUnder_19 ?_
        refine rz_zret dX0_isUnder_20 rfl (by decide) ?_
        exact ⟨_, rfl, Or.inl ⟨rfl, by first | omega | assumption⟩, rfl, rfl⟩
    · refine rz_iconst dX0_isUnder_19 ?_
      refine rz_zret dX0_isUnder_20 rfl (by decide) ?_
      exact ⟨_, rfl, Or.inl ⟨rfl, by first | omega | assumption⟩, rfl, rfl⟩
  · refine rz_iconst dX0_isUnder_19 ?_
    refine rz_zret dX0_isUnder_20 rfl (by decide) ?_
    exact ⟨_, rfl, Or.inl ⟨rfl, by first | omega | assumption⟩, rfl, rfl⟩
set_option maxRecDepth 20000 in
set_option maxHeartbeats 400000 in
theorem c_under6 (X : pX) (h : Nat) (I J : IM) (o : Int) (ho : rg o) : KIq X h mX0_isUnder [zi 6, zi o] I J (BQ I J (undP 6 o)) := by
  show Rz X h mX0_isUnder 0 [some (zi 6), some (zi o), none, none] [] I J _
  refine rz_iload_n dX0_isUnder_0 rfl ?_
  refine rz_istore_n dX0_isUnder_1 (by decide) rfl ?_
  refine rz_iconst dX0_isUnder_2 ?_
  refine rz_istore_n dX0_isUnder_3 (by decide) rfl ?_
  refine rz_iload_n dX0_isUnder_4 rfl ?_
  refine rz_bipush dX0_isUnder_5 (by decide) ?_
  refine rz_icmp_ge (t := 33) dX0_isUnder_7 rfl (by omega) (by omega) (fun q => absurd q (by decide)) (fun _ => ?_)
  refine rz_iload_n dX0_isUnder_10 rfl ?_
  refine rz_if_lt (t := 33) dX0_isUnder_11 rfl (by omega) (fun q => absurd q (by decide)) (fun _ => ?_)
  refine rz_iload_n dX0_isUnder_14 rfl ?_
  refine rz_iload_n dX0_isUnder_15 rfl ?_
  refine rz_icmp_ne (t := 21) dX0_isUnder_16 rfl (by omega) (by omega) (fun c16 => ?_) (fun c16 => ?_)
  · refine rz_gets0 dX0_isUnder_21 kf_RX0_29 ?_
    refine rz_iload_n dX0_isUnder_24 rfl ?_
    refine rz_tld0 (z := 0) dX0_isUnder_25 (by decide) rfl ?_
    refine rz_istore_n (ls' := [some (zi 6), some (zi o), some (zi 0), some (zi 0)]) dX0_isUnder_26 (by decide) rfl ?_
    refine rz_iinc (z := 1) dX0_isUnder_27 (by decide) rfl rfl rfl ?_
    refine rz_goto (t := 4) dX0_isUnder_30 rfl ?_
    refine rz_iload_n dX0_isUnder_4 rfl ?_
    refine rz_bipush dX0_isUnder_5 (by decide) ?_
    refine rz_icmp_ge (t := 33) dX0_isUnder_7 rfl (by omega) (by omega) (fun q => absurd q (by decide)) (fun _ => ?_)
    refine rz_iload_n dX0_isUnder_10 rfl ?_
    refine rz_if_lt (t := 33) dX0_isUnder_11 rfl (by omega) (fun q => absurd q (by decide)) (fun _ => ?_)
    refine rz_iload_n dX0_isUnder_14 rfl ?_
    refine rz_iload_n dX0_isUnder_15 rfl ?_
    refine rz_icmp_ne (t := 21) dX0_isUnder_16 rfl (by omega) (by omega) (fun c16 => ?_) (fun c16 => ?_)
    · refine rz_gets0 dX0_isUnder_21 kf_RX0_29 ?_
      refine rz_iload_n dX0_isUnder_24 rfl ?_
      refine rz_tld0 (z := (-1)) dX0_isUnder_25 (by decide) rfl ?_
      refine rz_istore_n dX0_isUnder_26 (by decide) rfl ?_
      refine rz_iinc (ls' := [some (zi 6), some (zi o), some (zi (-1)), some (zi 2)]) (z := 2) dX0_isUnder_27 (by decide) rfl rfl rfl ?_
      refine rz_goto (t := 4) dX0_isUnder_30 rfl ?_
      refine rz_iload_n dX0_isUnder_4 rfl ?_
      refine rz_bipush dX0_isUnder_5 (by decide) ?_
      refine rz_icmp_ge (t := 33) dX0_isUnder_7 rfl (by omega) (by omega) (fun q => absurd q (by decide)) (fun _ => ?_)
      refine rz_iload_n dX0_isUnder_10 rfl ?_
      refine rz_if_lt (t := 33) dX0_isUnder_11 rfl (by omega) (fun _ => ?_) (fun q => absurd q (by decide))
      refine rz_iconst dX0_isUnder_33 ?_
      refine rz_zret dX0_isUnder_34 rfl (by decide) ?_
      exact ⟨_, rfl, Or.inr ⟨rfl, by first | omega | assumption⟩, rfl, rfl⟩
    · refine rz_iconst dX0_isUnder_19 ?_
      refine rz_zret dX0_isUnder_20 rfl (by decide) ?_
      exact ⟨_, rfl, Or.inl ⟨rfl, by first | omega | assumption⟩, rfl, rfl⟩
  · refine rz_iconst dX0_isUnder_19 ?_
    refine rz_zret dX0_isUnder_20 rfl (by decide) ?_
    exact ⟨_, rfl, Or.inl ⟨rfl, by first | omega | assumption⟩, rfl, rfl⟩
set_option maxRecDepth 20000 in
set_option maxHeartbeats 400000 in
theorem c_under7 (X : pX) (h : Nat) (I J : IM) (o : Int) (ho : rg o) : KIq X h mX0_isUnder [zi 7, zi o] I J (BQ I J (undP 7 o)) := by
  show Rz X h mX0_isUnder 0 [some (zi 7), some (zi o), none, none] [] I J _
  refine rz_iload_n dX0_isUnder_0 rfl ?_
  refine rz_istore_n dX0_isUnder_1 (by decide) rfl ?_
  refine rz_iconst dX0_isUnder_2 ?_
  refine rz_istore_n dX0_isUnder_3 (by decide) rfl ?_
  refine rz_iload_n dX0_isUnder_4 rfl ?_
  refine rz_bipush dX0_isUnder_5 (by decide) ?_
  refine rz_icmp_ge (t := 33) dX0_isUnder_7 rfl (by omega) (by omega) (fun q => absurd q (by decide)) (fun _ => ?_)
  refine rz_iload_n dX0_isUnder_10 rfl ?_
  refine rz_if_lt (t := 33) dX0_isUnder_11 rfl (by omega) (fun q => absurd q (by decide)) (fun _ => ?_)
  refine rz_iload_n dX0_isUnder_14 rfl ?_
  refine rz_iload_n dX0_isUnder_15 rfl ?_
  refine rz_icmp_ne (t := 21) dX0_isUnder_16 rfl (by omega) (by omega) (fun c16 => ?_) (fun c16 => ?_)
  · refine rz_gets0 dX0_isUnder_21 kf_RX0_29 ?_
    refine rz_iload_n dX0_isUnder_24 rfl ?_
    refine rz_tld0 (z := 6) dX0_isUnder_25 (by decide) rfl ?_
    refine rz_istore_n (ls' := [some (zi 7), some (zi o), some (zi 6), some (zi 0)]) dX0_isUnder_26 (by decide) rfl ?_
    refine rz_iinc (z := 1) dX0_isUnder_27 (by decide) rfl rfl rfl ?_
    refine rz_goto (t := 4) dX0_isUnder_30 rfl ?_
    refine rz_iload_n dX0_isUnder_4 rfl ?_
    refine rz_bipush dX0_isUnder_5 (by decide) ?_
    refine rz_icmp_ge (t := 33) dX0_isUnder_7 rfl (by omega) (by omega) (fun q => absurd q (by decide)) (fun _ => ?_)
    refine rz_iload_n dX0_isUnder_10 rfl ?_
    refine rz_if_lt (t := 33) dX0_isUnder_11 rfl (by omega) (fun q => absurd q (by decide)) (fun _ => ?_)
    refine rz_iload_n dX0_isUnder_14 rfl ?_
    refine rz_iload_n dX0_isUnder_15 rfl ?_
    refine rz_icmp_ne (t := 21) dX0_isUnder_16 rfl (by omega) (by omega) (fun c16 => ?_) (fun c16 => ?_)
    · refine rz_gets0 dX0_isUnder_21 kf_RX0_29 ?_
      refine rz_iload_n dX0_isUnder_24 rfl ?_
      refine rz_tld0 (z := 0) dX0_isUnder_25 (by decide) rfl ?_
      refine rz_istore_n dX0_isUnder_26 (by decide) rfl ?_
      refine rz_iinc (ls' := [some (zi 7), some (zi o), some (zi 0), some (zi 2)]) (z := 2) dX0_isUnder_27 (by decide) rfl rfl rfl ?_
      refine rz_goto (t := 4) dX0_isUnder_30 rfl ?_
      refine rz_iload_n dX0_isUnder_4 rfl ?_
      refine rz_bipush dX0_isUnder_5 (by decide) ?_
      refine rz_icmp_ge (t := 33) dX0_isUnder_7 rfl (by omega) (by omega) (fun q => absurd q (by decide)) (fun _ => ?_)
      refine rz_iload_n dX0_isUnder_10 rfl ?_
      refine rz_if_lt (t := 33) dX0_isUnder_11 rfl (by omega) (fun q => absurd q (by decide)) (fun _ => ?_)
      refine rz_iload_n dX0_isUnder_14 rfl ?_
      refine rz_iload_n dX0_isUnder_15 rfl ?_
      refine rz_icmp_ne (t := 21) dX0_isUnder_16 rfl (by omega) (by omega) (fun c16 => ?_) (fun c16 => ?_)
      · refine rz_gets0 dX0_isUnder_21 kf_RX0_29 ?_
        refine rz_iload_n dX0_isUnder_24 rfl ?_
        refine rz_tld0 (z := (-1)) dX0_isUnder_25 (by decide) rfl ?_
        refine rz_istore_n dX0_isUnder_26 (by decide) rfl ?_
        refine rz_iinc (z := 3) dX0_isUnder_27 (by decide) rfl rfl rfl ?_
        refine rz_goto (t := 4) dX0_isUnder_30 rfl ?_
        refine rz_iload_n dX0_isUnder_4 rfl ?_
        refine rz_bipush dX0_isUnder_5 (by decide) ?_
        refine rz_icmp_ge (t := 33) dX0_isUnder_7 rfl (by omega) (by omega) (fun q => absurd q (by decide)) (fun _ => ?_)
        refine rz_iload_n dX0_isUnder_10 rfl ?_
        refine rz_if_lt (t := 33) dX0_isUnder_11 rfl (by omega) (fun _ => ?_) (fun q => absurd q (by decide))
        refine rz_iconst dX0_isUnder_33 ?_
        refine rz_zret dX0_isUnder_34 rfl (by decide) ?_
        exact ⟨_, rfl, Or.inr ⟨rfl, by first | omega | assumption⟩, rfl, rfl⟩
      · refine rz_iconst dX0_isUnder_19 ?_
        refine rz_zret dX0_isUnder_20 rfl (by decide) ?_
        exact ⟨_, rfl, Or.inl ⟨rfl, by first | omega | assumption⟩, rfl, rfl⟩
    · refine rz_iconst dX0_isUnder_19 ?_
      refine rz_zret dX0_isUnder_20 rfl (by decide) ?_
      exact ⟨_, rfl, Or.inl ⟨rfl, by first | omega | assumption⟩, rfl, rfl⟩
  · refine rz_iconst dX0_isUnder_19 ?_
    refine rz_zret dX0_isUnder_20 rfl (by decide) ?_
    exact ⟨_, rfl, Or.inl ⟨rfl, by first | omega | assumption⟩, rfl, rfl⟩
theorem c_X0_isUnder (X : pX) (h : Nat) (I J : IM) (k o : Int) (ho : rg o) (hk : 0 ≤ k ∧ k ≤ 7) : KIq X h mX0_isUnder [zi k, zi o] I J (BQ I J (undP k o)) := by
  rcases (show k = 0 ∨ k = 1 ∨ k = 2 ∨ k = 3 ∨ k = 4 ∨ k = 5 ∨ k = 6 ∨ k = 7 by omega) with rfl | rfl | rfl | rfl | rfl | rfl | rfl | rfl
  · exact c_under0 X h I J o ho
  · exact c_under1 X h I J o ho
  · exact c_under2 X h I J o ho
  · exact c_under3 X h I J o ho
  · exact c_under4 X h I J o ho
  · exact c_under5 X h I J o ho
  · exact c_under6 X h I J o ho
  · exact c_under7 X h I J o ho
set_option maxRecDepth 20000 in
set_option maxHeartbeats 400000 in
theorem c_X12_isUnder (X : pX) (h : Nat) (I J : IM) (k o : Int) (hk : rg k) (ho : rg o) : KIq X h mX12_isUnder [zi k, zi o] I J (BQ I J (undP k o)) := by
  show Rz X h mX12_isUnder 0 [some (zi k), some (zi o)] [] I J _
  refine rz_iload_n dX12_isUnder_0 rfl ?_
  refine rz_if_eq (t := 56) dX12_isUnder_1 rfl (by omega) (fun c1 => ?_) (fun c1 => ?_)
  · refine rz_iconst dX12_isUnder_56 ?_
    refine rz_goto (t := 61) dX12_isUnder_57 rfl ?_
    refine rz_zret dX12_isUnder_61 rfl (by decide) ?_
    exact ⟨_, rfl, Or.inl ⟨rfl, by first | omega | assumption⟩, rfl, rfl⟩
  · refine rz_iload_n dX12_isUnder_4 rfl ?_
    refine rz_iload_n dX12_isUnder_5 rfl ?_
    refine rz_icmp_eq (t := 56) dX12_isUnder_6 rfl (by omega) (by omega) (fun c6 => ?_) (fun c6 => ?_)
    · refine rz_iconst dX12_isUnder_56 ?_
      refine rz_goto (t := 61) dX12_isUnder_57 rfl ?_
      refine rz_zret dX12_isUnder_61 rfl (by decide) ?_
      exact ⟨_, rfl, Or.inl ⟨rfl, by first | omega | assumption⟩, rfl, rfl⟩
    · refine rz_iload_n dX12_isUnder_9 rfl ?_
      refine rz_iconst dX12_isUnder_10 ?_
      refine rz_icmp_ne (t := 24) dX12_isUnder_11 rfl (by omega) (by omega) (fun c11 => ?_) (fun c11 => ?_)
      · refine rz_iload_n dX12_isUnder_24 rfl ?_
        refine rz_iconst dX12_isUnder_25 ?_
        refine rz_icmp_ne (t := 34) dX12_isUnder_26 rfl (by omega) (by omega) (fun c26 => ?_) (fun c26 => ?_)
        · refine rz_iload_n dX12_isUnder_34 rfl ?_
          refine rz_iconst dX12_isUnder_35 ?_
          refine rz_icmp_ne (t := 44) dX12_isUnder_36 rfl (by omega) (by omega) (fun c36 => ?_) (fun c36 => ?_)
          · refine rz_iload_n dX12_isUnder_44 rfl ?_
            refine rz_bipush dX12_isUnder_45 (by decide) ?_
            refine rz_icmp_ne (t := 60) dX12_isUnder_47 rfl (by omega) (by omega) (fun c47 => ?_) (fun c47 => ?_)
            · refine rz_iconst dX12_isUnder_60 ?_
              refine rz_zret dX12_isUnder_61 rfl (by decide) ?_
              exact ⟨_, rfl, Or.inr ⟨rfl, by first | omega | assumption⟩, rfl, rfl⟩
            · refine rz_iload_n dX12_isUnder_50 rfl ?_
              refine rz_bipush dX12_isUnder_51 (by decide) ?_
              refine rz_icmp_ne (t := 60) dX12_isUnder_53 rfl (by omega) (by omega) (fun c53 => ?_) (fun c53 => ?_)
              · refine rz_iconst dX12_isUnder_60 ?_
                refine rz_zret dX12_isUnder_61 rfl (by decide) ?_
                exact ⟨_, rfl, Or.inr ⟨rfl, by first | omega | assumption⟩, rfl, rfl⟩
              · refine rz_iconst dX12_isUnder_56 ?_
                refine rz_goto (t := 61) dX12_isUnder_57 rfl ?_
                refine rz_zret dX12_isUnder_61 rfl (by decide) ?_
                exact ⟨_, rfl, Or.inl ⟨rfl, by first | omega | assumption⟩, rfl, rfl⟩
          · refine rz_iload_n dX12_isUnder_39 rfl ?_
            refine rz_iconst dX12_isUnder_40 ?_
            refine rz_icmp_eq (t := 56) dX12_isUnder_41 rfl (by omega) (by omega) (fun c41 => ?_) (fun c41 => ?_)
            · refine rz_iconst dX12_isUnder_56 ?_
              refine rz_goto (t := 61) dX12_isUnder_57 rfl ?_
              refine rz_zret dX12_isUnder_61 rfl (by decide) ?_
              exact ⟨_, rfl, Or.inl ⟨rfl, by first | omega | assumption⟩, rfl, rfl⟩
            · refine rz_iload_n dX12_isUnder_44 rfl ?_
              refine rz_bipush dX12_isUnder_45 (by decide) ?_
              refine rz_icmp_ne (t := 60) dX12_isUnder_47 rfl (by omega) (by omega) (fun c47 => ?_) (fun c47 => ?_)
              · refine rz_iconst dX12_isUnder_60 ?_
                refine rz_zret dX12_isUnder_61 rfl (by decide) ?_
                exact ⟨_, rfl, Or.inr ⟨rfl, by first | omega | assumption⟩, rfl, rfl⟩
              · refine rz_iload_n dX12_isUnder_50 rfl ?_
                refine rz_bipush dX12_isUnder_51 (by decide) ?_
                refine rz_icmp_ne (t := 60) dX12_isUnder_53 rfl (by omega) (by omega) (fun c53 => ?_) (fun c53 => ?_)
                · refine rz_iconst dX12_isUnder_60 ?_
                  refine rz_zret dX12_isUnder_61 rfl (by decide) ?_
                  exact ⟨_, rfl, Or.inr ⟨rfl, by first | omega | assumption⟩, rfl, rfl⟩
                · refine rz_iconst dX12_isUnder_56 ?_
                  refine rz_goto (t := 61) dX12_isUnder_57 rfl ?_
                  refine rz_zret dX12_isUnder_61 rfl (by decide) ?_
                  exact ⟨_, rfl, Or.inl ⟨rfl, by first | omega | assumption⟩, rfl, rfl⟩
        · refine rz_iload_n dX12_isUnder_29 rfl ?_
          refine rz_iconst dX12_isUnder_30 ?_
          refine rz_icmp_eq (t := 56) dX12_isUnder_31 rfl (by omega) (by omega) (fun c31 => ?_) (fun c31 => ?_)
          · refine rz_iconst dX12_isUnder_56 ?_
            refine rz_goto (t := 61) dX12_isUnder_57 rfl ?_
            refine rz_zret dX12_isUnder_61 rfl (by decide) ?_
            exact ⟨_, rfl, Or.inl ⟨rfl, by first | omega | assumption⟩, rfl, rfl⟩
          · refine rz_iload_n dX12_isUnder_34 rfl ?_
            refine rz_iconst dX12_isUnder_35 ?_
            refine rz_icmp_ne (t := 44) dX12_isUnder_36 rfl (by omega) (by omega) (fun c36 => ?_) (fun c36 => ?_)
            · refine rz_iload_n dX12_isUnder_44 rfl ?_
              refine rz_bipush dX12_isUnder_45 (by decide) ?_
              refine rz_icmp_ne (t := 60) dX12_isUnder_47 rfl (by omega) (by omega) (fun c47 => ?_) (fun c47 => ?_)
              · refine rz_iconst dX12_isUnder_60 ?_
                refine rz_zret dX12_isUnder_61 rfl (by decide) ?_
                exact ⟨_, rfl, Or.inr ⟨rfl, by first | omega | assumption⟩, rfl, rfl⟩
              · refine rz_iload_n dX12_isUnder_50 rfl ?_
                refine rz_bipush dX12_isUnder_51 (by decide) ?_
                refine rz_icmp_ne (t := 60) dX12_isUnder_53 rfl (by omega) (by omega) (fun c53 => ?_) (fun c53 => ?_)
                · refine rz_iconst dX12_isUnder_60 ?_
                  refine rz_zret dX12_isUnder_61 rfl (by decide) ?_
                  exact ⟨_, rfl, Or.inr ⟨rfl, by first | omega | assumption⟩, rfl, rfl⟩
                · refine rz_iconst dX12_isUnder_56 ?_
                  refine rz_goto (t := 61) dX12_isUnder_57 rfl ?_
                  refine rz_zret dX12_isUnder_61 rfl (by decide) ?_
                  exact ⟨_, rfl, Or.inl ⟨rfl, by first | omega | assumption⟩, rfl, rfl⟩
            · refine rz_iload_n dX12_isUnder_39 rfl ?_
              refine rz_iconst dX12_isUnder_40 ?_
              refine rz_icmp_eq (t := 56) dX12_isUnder_41 rfl (by omega) (by omega) (fun c41 => ?_) (fun c41 => ?_)
              · refine rz_iconst dX12_isUnder_56 ?_
                refine rz_goto (t := 61) dX12_isUnder_57 rfl ?_
                refine rz_zret dX12_isUnder_61 rfl (by decide) ?_
                exact ⟨_, rfl, Or.inl ⟨rfl, by first | omega | assumption⟩, rfl, rfl⟩
              · refine rz_iload_n dX12_isUnder_44 rfl ?_
                refine rz_bipush dX12_isUnder_45 (by decide) ?_
                refine rz_icmp_ne (t := 60) dX12_isUnder_47 rfl (by omega) (by omega) (fun c47 => ?_) (fun c47 => ?_)
                · refine rz_iconst dX12_isUnder_60 ?_
                  refine rz_zret dX12_isUnder_61 rfl (by decide) ?_
                  exact ⟨_, rfl, Or.inr ⟨rfl, by first | omega | assumption⟩, rfl, rfl⟩
                · refine rz_iload_n dX12_isUnder_50 rfl ?_
                  refine rz_bipush dX12_isUnder_51 (by decide) ?_
                  refine rz_icmp_ne (t := 60) dX12_isUnder_53 rfl (by omega) (by omega) (fun c53 => ?_) (fun c53 => ?_)
                  · refine rz_iconst dX12_isUnder_60 ?_
                    refine rz_zret dX12_isUnder_61 rfl (by decide) ?_
                    exact ⟨_, rfl, Or.inr ⟨rfl, by first | omega | assumption⟩, rfl, rfl⟩
                  · refine rz_iconst dX12_isUnder_56 ?_
                    refine rz_goto (t := 61) dX12_isUnder_57 rfl ?_
                    refine rz_zret dX12_isUnder_61 rfl (by decide) ?_
                    exact ⟨_, rfl, Or.inl ⟨rfl, by first | omega | assumption⟩, rfl, rfl⟩
      · refine rz_iload_n dX12_isUnder_14 rfl ?_
        refine rz_iconst dX12_isUnder_15 ?_
        refine rz_icmp_eq (t := 56) dX12_isUnder_16 rfl (by omega) (by omega) (fun c16 => ?_) (fun c16 => ?_)
        · refine rz_iconst dX12_isUnder_56 ?_
          refine rz_goto (t := 61) dX12_isUnder_57 rfl ?_
          refine rz_zret dX12_isUnder_61 rfl (by decide) ?_
          exact ⟨_, rfl, Or.inl ⟨rfl, by first | omega | assumption⟩, rfl, rfl⟩
        · refine rz_iload_n dX12_isUnder_19 rfl ?_
          refine rz_iconst dX12_isUnder_20 ?_
          refine rz_icmp_eq (t := 56) dX12_isUnder_21 rfl (by omega) (by omega) (fun c21 => ?_) (fun c21 => ?_)
          · refine rz_iconst dX12_isUnder_56 ?_
            refine rz_goto (t := 61) dX12_isUnder_57 rfl ?_
            refine rz_zret dX12_isUnder_61 rfl (by decide) ?_
            exact ⟨_, rfl, Or.inl ⟨rfl, by first | omega | assumption⟩, rfl, rfl⟩
          · refine rz_iload_n dX12_isUnder_24 rfl ?_
            refine rz_iconst dX12_isUnder_25 ?_
            refine rz_icmp_ne (t := 34) dX12_isUnder_26 rfl (by omega) (by omega) (fun c26 => ?_) (fun c26 => ?_)
            · refine rz_iload_n dX12_isUnder_34 rfl ?_
              refine rz_iconst dX12_isUnder_35 ?_
              refine rz_icmp_ne (t := 44) dX12_isUnder_36 rfl (by omega) (by omega) (fun c36 => ?_) (fun c36 => ?_)
              · refine rz_iload_n dX12_isUnder_44 rfl ?_
                refine rz_bipush dX12_isUnder_45 (by decide) ?_
                refine rz_icmp_ne (t := 60) dX12_isUnder_47 rfl (by omega) (by omega) (fun c47 => ?_) (fun c47 => ?_)
                · refine rz_iconst dX12_isUnder_60 ?_
                  refine rz_zret dX12_isUnder_61 rfl (by decide) ?_
                  exact ⟨_, rfl, Or.inr ⟨rfl, by first | omega | assumption⟩, rfl, rfl⟩
                · refine rz_iload_n dX12_isUnder_50 rfl ?_
                  refine rz_bipush dX12_isUnder_51 (by decide) ?_
                  refine rz_icmp_ne (t := 60) dX12_isUnder_53 rfl (by omega) (by omega) (fun c53 => ?_) (fun c53 => ?_)
                  · refine rz_iconst dX12_isUnder_60 ?_
                    refine rz_zret dX12_isUnder_61 rfl (by decide) ?_
                    exact ⟨_, rfl, Or.inr ⟨rfl, by first | omega | assumption⟩, rfl, rfl⟩
                  · refine rz_iconst dX12_isUnder_56 ?_
                    refine rz_goto (t := 61) dX12_isUnder_57 rfl ?_
                    refine rz_zret dX12_isUnder_61 rfl (by decide) ?_
                    exact ⟨_, rfl, Or.inl ⟨rfl, by first | omega | assumption⟩, rfl, rfl⟩
              · refine rz_iload_n dX12_isUnder_39 rfl ?_
                refine rz_iconst dX12_isUnder_40 ?_
                refine rz_icmp_eq (t := 56) dX12_isUnder_41 rfl (by omega) (by omega) (fun c41 => ?_) (fun c41 => ?_)
                · refine rz_iconst dX12_isUnder_56 ?_
                  refine rz_goto (t := 61) dX12_isUnder_57 rfl ?_
                  refine rz_zret dX12_isUnder_61 rfl (by decide) ?_
                  exact ⟨_, rfl, Or.inl ⟨rfl, by first | omega | assumption⟩, rfl, rfl⟩
                · refine rz_iload_n dX12_isUnder_44 rfl ?_
                  refine rz_bipush dX12_isUnder_45 (by decide) ?_
                  refine rz_icmp_ne (t := 60) dX12_isUnder_47 rfl (by omega) (by omega) (fun c47 => ?_) (fun c47 => ?_)
                  · refine rz_iconst dX12_isUnder_60 ?_
                    refine rz_zret dX12_isUnder_61 rfl (by decide) ?_
                    exact ⟨_, rfl, Or.inr ⟨rfl, by first | omega | assumption⟩, rfl, rfl⟩
                  · refine rz_iload_n dX12_isUnder_50 rfl ?_
                    refine rz_bipush dX12_isUnder_51 (by decide) ?_
                    refine rz_icmp_ne (t := 60) dX12_isUnder_53 rfl (by omega) (by omega) (fun c53 => ?_) (fun c53 => ?_)
                    · refine rz_iconst dX12_isUnder_60 ?_
                      refine rz_zret dX12_isUnder_61 rfl (by decide) ?_
                      exact ⟨_, rfl, Or.inr ⟨rfl, by first | omega | assumption⟩, rfl, rfl⟩
                    · refine rz_iconst dX12_isUnder_56 ?_
                      refine rz_goto (t := 61) dX12_isUnder_57 rfl ?_
                      refine rz_zret dX12_isUnder_61 rfl (by decide) ?_
                      exact ⟨_, rfl, Or.inl ⟨rfl, by first | omega | assumption⟩, rfl, rfl⟩
            · refine rz_iload_n dX12_isUnder_29 rfl ?_
              refine rz_iconst dX12_isUnder_30 ?_
              refine rz_icmp_eq (t := 56) dX12_isUnder_31 rfl (by omega) (by omega) (fun c31 => ?_) (fun c31 => ?_)
              · refine rz_iconst dX12_isUnder_56 ?_
                refine rz_goto (t := 61) dX12_isUnder_57 rfl ?_
                refine rz_zret dX12_isUnder_61 rfl (by decide) ?_
                exact ⟨_, rfl, Or.inl ⟨rfl, by first | omega | assumption⟩, rfl, rfl⟩
              · refine rz_iload_n dX12_isUnder_34 rfl ?_
                refine rz_iconst dX12_isUnder_35 ?_
                refine rz_icmp_ne (t := 44) dX12_isUnder_36 rfl (by omega) (by omega) (fun c36 => ?_) (fun c36 => ?_)
                · refine rz_iload_n dX12_isUnder_44 rfl ?_
                  refine rz_bipush dX12_isUnder_45 (by decide) ?_
                  refine rz_icmp_ne (t := 60) dX12_isUnder_47 rfl (by omega) (by omega) (fun c47 => ?_) (fun c47 => ?_)
                  · refine rz_iconst dX12_isUnder_60 ?_
                    refine rz_zret dX12_isUnder_61 rfl (by decide) ?_
                    exact ⟨_, rfl, Or.inr ⟨rfl, by first | omega | assumption⟩, rfl, rfl⟩
                  · refine rz_iload_n dX12_isUnder_50 rfl ?_
                    refine rz_bipush dX12_isUnder_51 (by decide) ?_
                    refine rz_icmp_ne (t := 60) dX12_isUnder_53 rfl (by omega) (by omega) (fun c53 => ?_) (fun c53 => ?_)
                    · refine rz_iconst dX12_isUnder_60 ?_
                      refine rz_zret dX12_isUnder_61 rfl (by decide) ?_
                      exact ⟨_, rfl, Or.inr ⟨rfl, by first | omega | assumption⟩, rfl, rfl⟩
                    · refine rz_iconst dX12_isUnder_56 ?_
                      refine rz_goto (t := 61) dX12_isUnder_57 rfl ?_
                      refine rz_zret dX12_isUnder_61 rfl (by decide) ?_
                      exact ⟨_, rfl, Or.inl ⟨rfl, by first | omega | assumption⟩, rfl, rfl⟩
                · refine rz_iload_n dX12_isUnder_39 rfl ?_
                  refine rz_iconst dX12_isUnder_40 ?_
                  refine rz_icmp_eq (t := 56) dX12_isUnder_41 rfl (by omega) (by omega) (fun c41 => ?_) (fun c41 => ?_)
                  · refine rz_iconst dX12_isUnder_56 ?_
                    refine rz_goto (t := 61) dX12_isUnder_57 rfl ?_
                    refine rz_zret dX12_isUnder_61 rfl (by decide) ?_
                    exact ⟨_, rfl, Or.inl ⟨rfl, by first | omega | assumption⟩, rfl, rfl⟩
                  · refine rz_iload_n dX12_isUnder_44 rfl ?_
                    refine rz_bipush dX12_isUnder_45 (by decide) ?_
                    refine rz_icmp_ne (t := 60) dX12_isUnder_47 rfl (by omega) (by omega) (fun c47 => ?_) (fun c47 => ?_)
                    · refine rz_iconst dX12_isUnder_60 ?_
                      refine rz_zret dX12_isUnder_61 rfl (by decide) ?_
                      exact ⟨_, rfl, Or.inr ⟨rfl, by first | omega | assumption⟩, rfl, rfl⟩
                    · refine rz_iload_n dX12_isUnder_50 rfl ?_
                      refine rz_bipush dX12_isUnder_51 (by decide) ?_
                      refine rz_icmp_ne (t := 60) dX12_isUnder_53 rfl (by omega) (by omega) (fun c53 => ?_) (fun c53 => ?_)
                      · refine rz_iconst dX12_isUnder_60 ?_
                        refine rz_zret dX12_isUnder_61 rfl (by decide) ?_
                        exact ⟨_, rfl, Or.inr ⟨rfl, by first | omega | assumption⟩, rfl, rfl⟩
                      · refine rz_iconst dX12_isUnder_56 ?_
                        refine rz_goto (t := 61) dX12_isUnder_57 rfl ?_
                        refine rz_zret dX12_isUnder_61 rfl (by decide) ?_
                        exact ⟨_, rfl, Or.inl ⟨rfl, by first | omega | assumption⟩, rfl, rfl⟩
set_option maxRecDepth 20000 in
set_option maxHeartbeats 400000 in
theorem c_X0_kindOf (X : pX) (h : Nat) (I J : IM) (n : Int) (hn : 0 ≤ n ∧ n < I 63 0) (hb : I 63 0 ≤ 50) : KI X h mX0_kindOf [.ref 63, zi n] I J (I 65 n.toNat) I J := by
  show Rz X h mX0_kindOf 0 [some (.ref 63), some (zi n)] [] I J _
  refine rz_iload_n dX0_kindOf_0 rfl ?_
  refine rz_if_lt (t := 21) dX0_kindOf_1 rfl (by omega) (fun c1 => ?_) (fun c1 => ?_)
  · refine rz_iconst dX0_kindOf_21 ?_
    refine rz_iret dX0_kindOf_22 rfl ?_
    first | exact ⟨_, rfl, rfl, rfl, rfl⟩ | (exfalso; omega)
  · refine rz_iload_n dX0_kindOf_4 rfl ?_
    refine rz_aload_n dX0_kindOf_5 rfl ?_
    refine rz_getI (z := (I 63 0)) dX0_kindOf_6 kf_RX0_16 hd_63 rfl rfl ?_
    refine rz_icmp_ge (t := 21) dX0_kindOf_9 rfl (by omega) (by omega) (fun c9 => ?_) (fun c9 => ?_)
    · refine rz_iconst dX0_kindOf_21 ?_
      refine rz_iret dX0_kindOf_22 rfl ?_
      first | exact ⟨_, rfl, rfl, rfl, rfl⟩ | (exfalso; omega)
    · refine rz_aload_n dX0_kindOf_12 rfl ?_
      refine rz_getR dX0_kindOf_13 kf_RX0_13 hd_63 rfl rr_63_3 ?_
      refine rz_iload_n dX0_kindOf_16 rfl ?_
      refine rz_iald (z := (I 65 (n).toNat)) dX0_kindOf_17 hd_65 (by decide) (by omega) rfl ?_
      refine rz_goto (t := 22) dX0_kindOf_18 rfl ?_
      refine rz_iret dX0_kindOf_22 rfl ?_
      first | exact ⟨_, rfl, rfl, rfl, rfl⟩ | (exfalso; omega)
def takZC (I : IM) (v k : Int) : Int := if ¬ ((0 ≤ v ∧ v ≤ 5) ∧ 0 ≤ k ∧ k ≤ 7) then -1 else if I (67 + 2 * v.toNat) 0 = 0 then -11 else if I (67 + 2 * v.toNat) 0 ≠ 1 then -12 else if undP (I 65 (I (67 + 2 * v.toNat) 1).toNat) k then I 65 (I (67 + 2 * v.toNat) 1).toNat else -12
def takZR (I : IM) (v k : Int) : Int := if ¬ ((0 ≤ v ∧ v ≤ 5) ∧ 0 ≤ k ∧ k ≤ 7) then -1 else if I 118 v.toNat = -1 then -11 else if 0 ≤ I 118 v.toNat ∧ undP (I 116 (I 118 v.toNat).toNat) k then I 116 (I 118 v.toNat).toNat else -12
set_option maxRecDepth 20000 in
set_option maxHeartbeats 400000 in
theorem c_X11_taken (X : pX) (h : Nat) (I J : IM) (v k : Int) (hv : rg v) (hkk : rg k) (hS : ∀ k : Nat, k < 6 → ((0 ≤ I (67 + 2 * k) 0 ∧ I (67 + 2 * k) 0 ≤ 2) ∧ 0 ≤ I (67 + 2 * k) 3 ∧ I (67 + 2 * k) 3 ≤ 60) ∧ 0 ≤ I (67 + 2 * k) 2 ∧ I (67 + 2 * k) 2 ≤ 4) (hb : 0 ≤ I 63 0 ∧ I 63 0 ≤ 50) (hk : ∀ j : Nat, (j : Int) < I 63 0 → 0 ≤ I 65 j ∧ I 65 j ≤ 7) (hs : ∀ v : Nat, v < 6 → I (67 + 2 * v) 0 = 1 → 0 ≤ I (67 + 2 * v) 1 ∧ I (67 + 2 * v) 1 < I 63 0) : KI X (h + 1) mX11_taken [.ref 0, zi v, zi k] I J (takZC I v k) I J := by
  show Rz X (h + 1) mX11_taken 0 [some (.ref 0), some (zi v), some (zi k), none, none] [] I J _
  refine rz_iload_n dX11_taken_0 rfl ?_
  refine rz_cSIq dX11_taken_1 kl_RX11_153 (c_X11_isShelf X _ I J v (by omega)) rfl rfl (Nat.le_of_ble_eq_true rfl) (Nat.le_of_ble_eq_true rfl) ?_
  rintro z1 A1 B1 ⟨⟨rfl, b1⟩ | ⟨rfl, b1⟩, rfl, rfl⟩
  · refine rz_if_eq (t := 14) dX11_taken_4 rfl (by omega) (fun q => absurd q (by decide)) (fun _ => ?_)
    refine rz_iload_n dX11_taken_7 rfl ?_
    refine rz_cSIq dX11_taken_8 kl_RX11_311 (c_X11_isKind X _ I J k (by omega)) rfl rfl (Nat.le_of_ble_eq_true rfl) (Nat.le_of_ble_eq_true rfl) ?_
    rintro z8 A8 B8 ⟨⟨rfl, b8⟩ | ⟨rfl, b8⟩, rfl, rfl⟩
    · refine rz_if_ne (t := 16) dX11_taken_11 rfl (by omega) (fun _ => ?_) (fun q => absurd q (by decide))
      have h7 := hS v.toNat (by omega)
      refine rz_aload_n dX11_taken_16 rfl ?_
      refine rz_getR dX11_taken_17 kf_RX11_76 hd_0 rfl rr_0_10 ?_
      refine rz_iload_n dX11_taken_20 rfl ?_
      refine rz_aald (by decide) dX11_taken_21 hd_66 (by decide) (by omega) (rr_sh (by omega)) ?_
      refine rz_astore_n dX11_taken_22 (by decide) rfl ?_
      refine rz_aload_n dX11_taken_23 rfl ?_
      refine rz_getI (z := (I (67 + 2 * v.toNat) 0)) dX11_taken_24 kf_RX11_156 (hd_sh (by omega)) rfl rfl ?_
      refine rz_if_ne (t := 33) dX11_taken_27 rfl (by omega) (fun c27 => ?_) (fun c27 => ?_)
      · refine rz_aload_n dX11_taken_33 rfl ?_
        refine rz_getI (z := (I (67 + 2 * v.toNat) 0)) dX11_taken_34 kf_RX11_156 (hd_sh (by omega)) rfl rfl ?_
        refine rz_iconst dX11_taken_37 ?_
        refine rz_icmp_eq (t := 44) dX11_taken_38 rfl (by omega) (by omega) (fun c38 => ?_) (fun c38 => ?_)
        · have h8 := hs v.toNat (by omega) c38
          have h9 := hk (I (67 + 2 * v.toNat) 1).toNat (by omega)
          refine rz_aload_n dX11_taken_44 rfl ?_
          refine rz_getR dX11_taken_45 kf_RX11_70 hd_0 rfl rr_0_9 ?_
          refine rz_aload_n dX11_taken_48 rfl ?_
          refine rz_getI (z := (I (67 + 2 * v.toNat) 1)) dX11_taken_49 kf_RX11_351 (hd_sh (by omega)) rfl rfl ?_
          refine rz_cVI dX11_taken_52 kl_RX11_354 hd_63 ⟨_, _, rfl⟩ (c_X0_kindOf X _ I J (I (67 + 2 * v.toNat) 1) (by omega) (by omega)) rfl rfl (Nat.le_of_ble_eq_true rfl) (Nat.le_of_ble_eq_true rfl) ?_
          refine rz_istore dX11_taken_55 (by decide) rfl ?_
          refine rz_iload dX11_taken_57 rfl ?_
          refine rz_iload_n dX11_taken_59 rfl ?_
          refine rz_cSIq dX11_taken_60 kl_RX11_357 (c_X0_isUnder X _ I J (I 65 ((I (67 + 2 * v.toNat) 1)).toNat) k (by omega) (by omega)) rfl rfl (Nat.le_of_ble_eq_true rfl) (Nat.le_of_ble_eq_true rfl) ?_
          rintro z60 A60 B60 ⟨⟨rfl, b60⟩ | ⟨rfl, b60⟩, rfl, rfl⟩
          · refine rz_if_eq (t := 71) dX11_taken_63 rfl (by omega) (fun q => absurd q (by decide)) (fun _ => ?_)
            refine rz_iload dX11_taken_66 rfl ?_
            refine rz_goto (t := 73) dX11_taken_68 rfl ?_
            refine rz_iret dX11_taken_73 rfl ?_
            exact ⟨_, rfl, by unfold takZC; (repeat' split) <;> first | rfl | omega, rfl, rfl⟩
          · refine rz_if_eq (t := 71) dX11_taken_63 rfl (by omega) (fun _ => ?_) (fun q => absurd q (by decide))
            refine rz_bipush dX11_taken_71 (by decide) ?_
            refine rz_iret dX11_taken_73 rfl ?_
            exact ⟨_, rfl, by unfold takZC; (repeat' split) <;> first | rfl | omega, rfl, rfl⟩
        · refine rz_bipush dX11_taken_41 (by decide) ?_
          refine rz_iret dX11_taken_43 rfl ?_
          exact ⟨_, rfl, by unfold takZC; (repeat' split) <;> first | rfl | omega, rfl, rfl⟩
      · refine rz_bipush dX11_taken_30 (by decide) ?_
        refine rz_iret dX11_taken_32 rfl ?_
        exact ⟨_, rfl, by unfold takZC; (repeat' split) <;> first | rfl | omega, rfl, rfl⟩
    · refine rz_if_ne (t := 16) dX11_taken_11 rfl (by omega) (fun q => absurd q (by decide)) (fun _ => ?_)
      refine rz_iconst dX11_taken_14 ?_
      refine rz_iret dX11_taken_15 rfl ?_
      exact ⟨_, rfl, by unfold takZC; (repeat' split) <;> first | rfl | omega, rfl, rfl⟩
  · refine rz_if_eq (t := 14) dX11_taken_4 rfl (by omega) (fun _ => ?_) (fun q => absurd q (by decide))
    refine rz_iconst dX11_taken_14 ?_
    refine rz_iret dX11_taken_15 rfl ?_
    exact ⟨_, rfl, by unfold takZC; (repeat' split) <;> first | rfl | omega, rfl, rfl⟩
set_option maxRecDepth 20000 in
set_option maxHeartbeats 400000 in
theorem c_X12_taken (X : pX) (h : Nat) (I J : IM) (v k : Int) (hv : rg v) (hkk : rg k) (hS : ShR I) (hb : 0 ≤ I 81 51 ∧ I 81 51 ≤ 50) (hk : ∀ j : Nat, (j : Int) < I 81 51 → 0 ≤ I 116 j ∧ I 116 j ≤ 7) (hs : ∀ v : Nat, v < 6 → I 118 v < I 81 51) : KI X (h + 2) mX12_taken [.ref 81, zi v, zi k] I J (takZR I v k) I J := by
  show Rz X (h + 2) mX12_taken 0 [some (.ref 81), some (zi v), some (zi k)] [] I J _
  refine rz_iload_n dX12_taken_0 rfl ?_
  refine rz_cSIq dX12_taken_1 kl_RX12_176 (c_X12_isShelf X _ I J v (by omega)) rfl rfl (Nat.le_of_ble_eq_true rfl) (Nat.le_of_ble_eq_true rfl) ?_
  rintro z1 A1 B1 ⟨⟨rfl, b1⟩ | ⟨rfl, b1⟩, rfl, rfl⟩
  · refine rz_if_eq (t := 17) dX12_taken_4 rfl (by omega) (fun q => absurd q (by decide)) (fun _ => ?_)
    refine rz_iload_n dX12_taken_7 rfl ?_
    refine rz_iconst dX12_taken_8 ?_
    refine rz_bipush dX12_taken_9 (by decide) ?_
    refine rz_cSIq dX12_taken_11 kl_RX12_140 (c_X12_in X _ I J k 0 7 (by omega) (by omega) (by omega)) rfl rfl (Nat.le_of_ble_eq_true rfl) (Nat.le_of_ble_eq_true rfl) ?_
    rintro z11 A11 B11 ⟨⟨rfl, b11⟩ | ⟨rfl, b11⟩, rfl, rfl⟩
    · refine rz_if_ne (t := 19) dX12_taken_14 rfl (by omega) (fun _ => ?_) (fun q => absurd q (by decide))
      have h7 := hS v.toNat (by omega)
      have h8 := hs v.toNat (by omega)
      refine rz_aload_n dX12_taken_19 rfl ?_
      refine rz_getR dX12_taken_20 kf_RX12_120 hd_81 rfl rr_81_55 ?_
      refine rz_iload_n dX12_taken_23 rfl ?_
      refine rz_iald (z := (I 118 (v).toNat)) dX12_taken_24 hd_118 (by decide) (by omega) rfl ?_
      refine rz_iconst dX12_taken_25 ?_
      refine rz_icmp_ne (t := 32) dX12_taken_26 rfl (by omega) (by omega) (fun c26 => ?_) (fun c26 => ?_)
      · refine rz_aload_n dX12_taken_32 rfl ?_
        refine rz_getR dX12_taken_33 kf_RX12_120 hd_81 rfl rr_81_55 ?_
        refine rz_iload_n dX12_taken_36 rfl ?_
        refine rz_iald (z := (I 118 (v).toNat)) dX12_taken_37 hd_118 (by decide) (by omega) rfl ?_
        refine rz_if_lt (t := 73) dX12_taken_38 rfl (by omega) (fun c38 => ?_) (fun c38 => ?_)
        · refine rz_bipush dX12_taken_73 (by decide) ?_
          refine rz_iret dX12_taken_75 rfl ?_
          exact ⟨_, rfl, by unfold takZR; (repeat' split) <;> first | rfl | omega, rfl, rfl⟩
        · have h9 := hk (I 118 v.toNat).toNat (by omega)
          refine rz_aload_n dX12_taken_41 rfl ?_
          refine rz_getR dX12_taken_42 kf_RX12_114 hd_81 rfl rr_81_52 ?_
          refine rz_aload_n dX12_taken_45 rfl ?_
          refine rz_getR dX12_taken_46 kf_RX12_120 hd_81 rfl rr_81_55 ?_
          refine rz_iload_n dX12_taken_49 rfl ?_
          refine rz_iald (z := (I 118 (v).toNat)) dX12_taken_50 hd_118 (by decide) (by omega) rfl ?_
          refine rz_iald (z := (I 116 ((I 118 (v).toNat)).toNat)) dX12_taken_51 hd_116 (by decide) (by omega) rfl ?_
          refine rz_iload_n dX12_taken_52 rfl ?_
          refine rz_cSIq dX12_taken_53 kl_RX12_386 (c_X12_isUnder X _ I J (I 116 ((I 118 (v).toNat)).toNat) k (by omega) (by omega)) rfl rfl (Nat.le_of_ble_eq_true rfl) (Nat.le_of_ble_eq_true rfl) ?_
          rintro z53 A53 B53 ⟨⟨rfl, b53⟩ | ⟨rfl, b53⟩, rfl, rfl⟩
          · refine rz_if_eq (t := 73) dX12_taken_56 rfl (by omega) (fun q => absurd q (by decide)) (fun _ => ?_)
            refine rz_aload_n dX12_taken_59 rfl ?_
            refine rz_getR dX12_taken_60 kf_RX12_114 hd_81 rfl rr_81_52 ?_
            refine rz_aload_n dX12_taken_63 rfl ?_
            refine rz_getR dX12_taken_64 kf_RX12_120 hd_81 rfl rr_81_55 ?_
            refine rz_iload_n dX12_taken_67 rfl ?_
            refine rz_iald (z := (I 118 (v).toNat)) dX12_taken_68 hd_118 (by decide) (by omega) rfl ?_
            refine rz_iald (z := (I 116 ((I 118 (v).toNat)).toNat)) dX12_taken_69 hd_116 (by decide) (by omega) rfl ?_
            refine rz_goto (t := 75) dX12_taken_70 rfl ?_
            refine rz_iret dX12_taken_75 rfl ?_
            exact ⟨_, rfl, by unfold takZR; (repeat' split) <;> first | rfl | omega, rfl, rfl⟩
          · refine rz_if_eq (t := 73) dX12_taken_56 rfl (by omega) (fun _ => ?_) (fun q => absurd q (by decide))
            refine rz_bipush dX12_taken_73 (by decide) ?_
            refine rz_iret dX12_taken_75 rfl ?_
            exact ⟨_, rfl, by unfold takZR; (repeat' split) <;> first | rfl | omega, rfl, rfl⟩
      · refine rz_bipush dX12_taken_29 (by decide) ?_
        refine rz_iret dX12_taken_31 rfl ?_
        exact ⟨_, rfl, by unfold takZR; (repeat' split) <;> first | rfl | omega, rfl, rfl⟩
    · refine rz_if_ne (t := 19) dX12_taken_14 rfl (by omega) (fun q => absurd q (by decide)) (fun _ => ?_)
      refine rz_iconst dX12_taken_17 ?_
      refine rz_iret dX12_taken_18 rfl ?_
      exact ⟨_, rfl, by unfold takZR; (repeat' split) <;> first | rfl | omega, rfl, rfl⟩
  · refine rz_if_eq (t := 17) dX12_taken_4 rfl (by omega) (fun _ => ?_) (fun q => absurd q (by decide))
    refine rz_iconst dX12_taken_17 ?_
    refine rz_iret dX12_taken_18 rfl ?_
    exact ⟨_, rfl, by unfold takZR; (repeat' split) <;> first | rfl | omega, rfl, rfl⟩
def feedM (I : IM) (t : Int) : IM := upA (upA I 2 (up1 (I 2) (I 1 0).toNat t)) 1 (up1 (I 1) 0 (I 1 0 + 1))
def feedZ (n t : Int) : Int := if 0 ≤ t ∧ t ≤ 255 then (if n < 120 then n + 1 else -3) else -1
def feedC (I : IM) (t : Int) : IM := if (0 ≤ t ∧ t ≤ 255) ∧ I 1 0 < 120 then feedM I t else I
def feedR (I : IM) (t : Int) : IM := if (0 ≤ t ∧ t ≤ 255) ∧ I 81 17 < 120 then upA (upA I 94 (up1 (I 94) (I 81 17).toNat (t.bmod 256))) 81 (up1 (I 81) 17 (I 81 17 + 1)) else I
theorem take_q {I J A B : IM} {z : Int} {t : Int} (h : (z = 1 ∧ I 1 0 < 120 ∧ A = feedM I t) ∨ (z = 0 ∧ ¬ I 1 0 < 120 ∧ I = A)) (hB : B = J) : ((z = 1 ∧ I 1 0 < 120 ∧ A = feedM I t) ∨ (z = 0 ∧ ¬ I 1 0 < 120 ∧ I = A)) ∧ B = J := ⟨h, hB⟩
set_option maxRecDepth 20000 in
set_option maxHeartbeats 400000 in
theorem c_X4_take (X : pX) (h : Nat) (I J : IM) (t : Int) (ht : 0 ≤ I 1 0 ∧ I 1 0 ≤ 120) : KIq X h mX4_take [.ref 1, zi t] I J (fun z A B => ((z = 1 ∧ I 1 0 < 120 ∧ A = feedM I t) ∨ (z = 0 ∧ ¬ I 1 0 < 120 ∧ I = A)) ∧ J = B) := by
  show Rz X h mX4_take 0 [some (.ref 1), some (zi t)] [] I J _
  refine rz_aload_n dX4_take_0 rfl ?_
  refine rz_getI (z := (I 1 0)) dX4_take_1 kf_RX4_22 hd_1 rfl rfl ?_
  refine rz_bipush dX4_take_4 (by decide) ?_
  refine rz_icmp_lt (t := 11) dX4_take_6 rfl (by omega) (by omega) (fun c6 => ?_) (fun c6 => ?_)
  · refine rz_aload_n dX4_take_11 rfl ?_
    refine rz_getR dX4_take_12 kf_RX4_9 hd_1 rfl rr_1_1 ?_
    refine rz_aload_n dX4_take_15 rfl ?_
    refine rz_getI (z := (I 1 0)) dX4_take_16 kf_RX4_22 hd_1 rfl rfl ?_
    refine rz_iload_n dX4_take_19 rfl ?_
    refine rz_iast dX4_take_20 hd_2 (by decide) (by omega) ?_
    refine rz_aload_n dX4_take_21 rfl ?_
    refine rz_dup dX4_take_22 rfl ?_
    refine rz_getI (z := (I 1 0)) dX4_take_23 kf_RX4_22 hd_1 rfl rfl ?_
    refine rz_iconst dX4_take_26 ?_
    refine rz_iadd dX4_take_27 ?_
    refine rz_putI dX4_take_28 kp_RX4_22 hd_1 rfl ?_
    refine rz_iconst dX4_take_31 ?_
    refine rz_zret dX4_take_32 rfl (by decide) ?_
    exact ⟨_, rfl, Or.inl ⟨rfl, by omega, rfl⟩, rfl⟩
  · refine rz_iconst dX4_take_9 ?_
    refine rz_zret dX4_take_10 rfl (by decide) ?_
    exact ⟨_, rfl, Or.inr ⟨rfl, by omega, rfl⟩, rfl⟩
set_option maxRecDepth 20000 in
set_option maxHeartbeats 400000 in
theorem c_X11_feed (X : pX) (h : Nat) (I J : IM) (t : Int) (htt : rg t) (ht : 0 ≤ I 1 0 ∧ I 1 0 ≤ 120) : KI X (h + 1) mX11_feed [.ref 0, zi t] I J (feedZ (I 1 0) t) (feedC I t) J := by
  show Rz X (h + 1) mX11_feed 0 [some (.ref 0), some (zi t)] [] I J _
  refine rz_iload_n dX11_feed_0 rfl ?_
  refine rz_if_lt (t := 11) dX11_feed_1 rfl (by omega) (fun c1 => ?_) (fun c1 => ?_)
  · refine rz_iconst dX11_feed_11 ?_
    refine rz_iret dX11_feed_12 rfl ?_
    exact ⟨_, rfl, (if_neg (by omega)).symm, (if_neg (by omega)).symm, rfl⟩
  · refine rz_iload_n dX11_feed_4 rfl ?_
    refine rz_sipush dX11_feed_5 (by decide) ?_
    refine rz_icmp_le (t := 13) dX11_feed_8 rfl (by omega) (by omega) (fun c8 => ?_) (fun c8 => ?_)
    · refine rz_aload_n dX11_feed_13 rfl ?_
      refine rz_getR dX11_feed_14 kf_RX11_10 hd_0 rfl rr_0_0 ?_
      refine rz_iload_n dX11_feed_17 rfl ?_
      refine rz_cVIq dX11_feed_18 kl_RX11_175 hd_1 ⟨_, _, rfl⟩ (c_X4_take X _ I J t (by omega)) rfl rfl (Nat.le_of_ble_eq_true rfl) (Nat.le_of_ble_eq_true rfl) ?_
      rintro z18 A18 _ ⟨⟨rfl, b18, rfl⟩ | ⟨rfl, b18, rfl⟩, rfl⟩
      · refine rz_if_eq (t := 34) dX11_feed_21 rfl (by omega) (fun q => absurd q (by decide)) (fun _ => ?_)
        refine rz_aload_n dX11_feed_24 rfl ?_
        refine rz_getR dX11_feed_25 kf_RX11_10 hd_0 rfl rr_0_0 ?_
        refine rz_getI (z := ((feedM I t) 1 0)) dX11_feed_28 kf_RX11_178 hd_1 rfl rfl ?_
        refine rz_goto (t := 36) dX11_feed_31 rfl ?_
        refine rz_iret dX11_feed_36 rfl ?_
        exact ⟨_, rfl, by rw [feedZ, if_pos (by omega), if_pos (by omega)]; rfl, (if_pos (by omega)).symm, rfl⟩
      · refine rz_if_eq (t := 34) dX11_feed_21 rfl (by omega) (fun _ => ?_) (fun q => absurd q (by decide))
        refine rz_bipush dX11_feed_34 (by decide) ?_
        refine rz_iret dX11_feed_36 rfl ?_
        exact ⟨_, rfl, by rw [feedZ, if_pos (by omega), if_neg (by omega)], (if_neg (by omega)).symm, rfl⟩
    · refine rz_iconst dX11_feed_11 ?_
      refine rz_iret dX11_feed_12 rfl ?_
      exact ⟨_, rfl, (if_neg (by omega)).symm, (if_neg (by omega)).symm, rfl⟩
set_option maxRecDepth 20000 in
set_option maxHeartbeats 400000 in
theorem c_X12_feed (X : pX) (h : Nat) (I J : IM) (t : Int) (htt : rg t) (ht : 0 ≤ I 81 17 ∧ I 81 17 ≤ 120) : KI X (h + 1) mX12_feed [.ref 81, zi t] I J (feedZ (I 81 17) t) (feedR I t) J := by
  show Rz X (h + 1) mX12_feed 0 [some (.ref 81), some (zi t)] [] I J _
  refine rz_iload_n dX12_feed_0 rfl ?_
  refine rz_iconst dX12_feed_1 ?_
  refine rz_sipush dX12_feed_2 (by decide) ?_
  refine rz_cSIq dX12_feed_5 kl_RX12_140 (c_X12_in X _ I J t 0 255 (by omega) (by omega) (by omega)) rfl rfl (Nat.le_of_ble_eq_true rfl) (Nat.le_of_ble_eq_true rfl) ?_
  rintro z5 A5 B5 ⟨⟨rfl, b5⟩ | ⟨rfl, b5⟩, rfl, rfl⟩
  · refine rz_if_ne (t := 13) dX12_feed_8 rfl (by omega) (fun _ => ?_) (fun q => absurd q (by decide))
    refine rz_aload_n dX12_feed_13 rfl ?_
    refine rz_getI (z := (I 81 17)) dX12_feed_14 kf_RX12_179 hd_81 rfl rfl ?_
    refine rz_bipush dX12_feed_17 (by decide) ?_
    refine rz_icmp_ne (t := 25) dX12_feed_19 rfl (by omega) (by omega) (fun c19 => ?_) (fun c19 => ?_)
    · refine rz_aload_n dX12_feed_25 rfl ?_
      refine rz_getR dX12_feed_26 kf_RX12_47 hd_81 rfl rr_81_16 ?_
      refine rz_aload_n dX12_feed_29 rfl ?_
      refine rz_getI (z := (I 81 17)) dX12_feed_30 kf_RX12_179 hd_81 rfl rfl ?_
      refine rz_iload_n dX12_feed_33 rfl ?_
      refine rz_i2bw dX12_feed_34 ?_
      refine rz_bast dX12_feed_35 hd_94 (by decide) (by omega) (by have := bm8r t; omega) ?_
      refine rz_aload_n dX12_feed_36 rfl ?_
      refine rz_dup dX12_feed_37 rfl ?_
      refine rz_getI (z := (I 81 17)) dX12_feed_38 kf_RX12_179 hd_81 rfl rfl ?_
      refine rz_iconst dX12_feed_41 ?_
      refine rz_iadd dX12_feed_42 ?_
      refine rz_putI dX12_feed_43 kp_RX12_179 hd_81 rfl ?_
      refine rz_aload_n dX12_feed_46 rfl ?_
      refine rz_getI (z := ((I 81 17) + 1)) dX12_feed_47 kf_RX12_179 hd_81 rfl rfl ?_
      refine rz_iret dX12_feed_50 rfl ?_
      exact ⟨_, rfl, by rw [feedZ, if_pos (by omega), if_pos (by omega)], (if_pos (by omega)).symm, rfl⟩
    · refine rz_bipush dX12_feed_22 (by decide) ?_
      refine rz_iret dX12_feed_24 rfl ?_
      exact ⟨_, rfl, by rw [feedZ, if_pos (by omega), if_neg (by omega)], (if_neg (by omega)).symm, rfl⟩
  · refine rz_if_ne (t := 13) dX12_feed_8 rfl (by omega) (fun q => absurd q (by decide)) (fun _ => ?_)
    refine rz_iconst dX12_feed_11 ?_
    refine rz_iret dX12_feed_12 rfl ?_
    exact ⟨_, rfl, (if_neg (by omega)).symm, (if_neg (by omega)).symm, rfl⟩
def addM (I : IM) (k : Int) : IM := upA (upA I 65 (up1 (I 65) (I 63 0).toNat k)) 63 (up1 (I 63) 0 (I 63 0 + 1))
def bodyZ (n k : Int) : Int := if 0 ≤ k ∧ k ≤ 7 then (if n < 50 then n else -3) else -1
def bodyC (I : IM) (k : Int) : IM := if (0 ≤ k ∧ k ≤ 7) ∧ I 63 0 < 50 then addM I k else I
def bodyR (I : IM) (k : Int) : IM := if (0 ≤ k ∧ k ≤ 7) ∧ I 81 51 < 50 then upA (upA I 116 (up1 (I 116) (I 81 51).toNat k)) 81 (up1 (I 81) 51 (I 81 51 + 1)) else I
set_option maxRecDepth 20000 in
set_option maxHeartbeats 400000 in
theorem c_X0_add (X : pX) (h : Nat) (I J : IM) (t : Int) (ht : 0 ≤ I 63 0 ∧ I 63 0 ≤ 50) : KIq X h mX0_add [.ref 63, zi t] I J (fun z A B => ((z = 1 ∧ I 63 0 < 50 ∧ A = addM I t) ∨ (z = 0 ∧ ¬ I 63 0 < 50 ∧ I = A)) ∧ J = B) := by
  show Rz X h mX0_add 0 [some (.ref 63), some (zi t)] [] I J _
  refine rz_aload_n dX0_add_0 rfl ?_
  refine rz_getI (z := (I 63 0)) dX0_add_1 kf_RX0_16 hd_63 rfl rfl ?_
  refine rz_bipush dX0_add_4 (by decide) ?_
  refine rz_icmp_lt (t := 11) dX0_add_6 rfl (by omega) (by omega) (fun c6 => ?_) (fun c6 => ?_)
  · refine rz_aload_n dX0_add_11 rfl ?_
    refine rz_getR dX0_add_12 kf_RX0_13 hd_63 rfl rr_63_3 ?_
    refine rz_aload_n dX0_add_15 rfl ?_
    refine rz_getI (z := (I 63 0)) dX0_add_16 kf_RX0_16 hd_63 rfl rfl ?_
    refine rz_iload_n dX0_add_19 rfl ?_
    refine rz_iast dX0_add_20 hd_65 (by decide) (by omega) ?_
    refine rz_aload_n dX0_add_21 rfl ?_
    refine rz_dup dX0_add_22 rfl ?_
    refine rz_getI (z := (I 63 0)) dX0_add_23 kf_RX0_16 hd_63 rfl rfl ?_
    refine rz_iconst dX0_add_26 ?_
    refine rz_iadd dX0_add_27 ?_
    refine rz_putI dX0_add_28 kp_RX0_16 hd_63 rfl ?_
    refine rz_iconst dX0_add_31 ?_
    refine rz_zret dX0_add_32 rfl (by decide) ?_
    exact ⟨_, rfl, Or.inl ⟨rfl, by omega, rfl⟩, rfl⟩
  · refine rz_iconst dX0_add_9 ?_
    refine rz_zret dX0_add_10 rfl (by decide) ?_
    exact ⟨_, rfl, Or.inr ⟨rfl, by omega, rfl⟩, rfl⟩
set_option maxRecDepth 20000 in
set_option maxHeartbeats 400000 in
theorem c_X11_body (X : pX) (h : Nat) (I J : IM) (t : Int) (htt : rg t) (ht : 0 ≤ I 63 0 ∧ I 63 0 ≤ 50) : KI X (h + 1) mX11_body [.ref 0, zi t] I J (bodyZ (I 63 0) t) (bodyC I t) J := by
  show Rz X (h + 1) mX11_body 0 [some (.ref 0), some (zi t)] [] I J _
  refine rz_iload_n dX11_body_0 rfl ?_
  refine rz_cSIq dX11_body_1 kl_RX11_311 (c_X11_isKind X _ I J t (by omega)) rfl rfl (Nat.le_of_ble_eq_true rfl) (Nat.le_of_ble_eq_true rfl) ?_
  rintro z1 A1 B1 ⟨⟨rfl, b1⟩ | ⟨rfl, b1⟩, rfl, rfl⟩
  · refine rz_if_ne (t := 9) dX11_body_4 rfl (by omega) (fun _ => ?_) (fun q => absurd q (by decide))
    refine rz_aload_n dX11_body_9 rfl ?_
    refine rz_getR dX11_body_10 kf_RX11_70 hd_0 rfl rr_0_9 ?_
    refine rz_iload_n dX11_body_13 rfl ?_
    refine rz_cVIq dX11_body_14 kl_RX11_314 hd_63 ⟨_, _, rfl⟩ (c_X0_add X _ I J t (by omega)) rfl rfl (Nat.le_of_ble_eq_true rfl) (Nat.le_of_ble_eq_true rfl) ?_
    rintro z14 A14 _ ⟨⟨rfl, b14, rfl⟩ | ⟨rfl, b14, rfl⟩, rfl⟩
    · refine rz_if_eq (t := 32) dX11_body_17 rfl (by omega) (fun q => absurd q (by decide)) (fun _ => ?_)
      refine rz_aload_n dX11_body_20 rfl ?_
      refine rz_getR dX11_body_21 kf_RX11_70 hd_0 rfl rr_0_9 ?_
      refine rz_getI (z := ((addM I t) 63 0)) dX11_body_24 kf_RX11_316 hd_63 rfl rfl ?_
      refine rz_iconst dX11_body_27 ?_
      refine rz_isub dX11_body_28 ?_
      refine rz_goto (t := 34) dX11_body_29 rfl ?_
      refine rz_iret dX11_body_34 rfl ?_
      exact ⟨_, rfl, by rw [bodyZ, if_pos (by omega), if_pos (by omega)]; show I 63 0 + 1 - 1 = _; omega, (if_pos (by omega)).symm, rfl⟩
    · refine rz_if_eq (t := 32) dX11_body_17 rfl (by omega) (fun _ => ?_) (fun q => absurd q (by decide))
      refine rz_bipush dX11_body_32 (by decide) ?_
      refine rz_iret dX11_body_34 rfl ?_
      exact ⟨_, rfl, by rw [bodyZ, if_pos (by omega), if_neg (by omega)], (if_neg (by omega)).symm, rfl⟩
  · refine rz_if_ne (t := 9) dX11_body_4 rfl (by omega) (fun q => absurd q (by decide)) (fun _ => ?_)
    refine rz_iconst dX11_body_7 ?_
    refine rz_iret dX11_body_8 rfl ?_
    exact ⟨_, rfl, (if_neg (by omega)).symm, (if_neg (by omega)).symm, rfl⟩
set_option maxRecDepth 20000 in
set_option maxHeartbeats 400000 in
theorem c_X12_body (X : pX) (h : Nat) (I J : IM) (t : Int) (htt : rg t) (ht : 0 ≤ I 81 51 ∧ I 81 51 ≤ 50) : KI X (h + 1) mX12_body [.ref 81, zi t] I J (bodyZ (I 81 51) t) (bodyR I t) J := by
  show Rz X (h + 1) mX12_body 0 [some (.ref 81), some (zi t)] [] I J _
  refine rz_iload_n dX12_body_0 rfl ?_
  refine rz_iconst dX12_body_1 ?_
  refine rz_bipush dX12_body_2 (by decide) ?_
  refine rz_cSIq dX12_body_4 kl_RX12_140 (c_X12_in X _ I J t 0 7 (by omega) (by omega) (by omega)) rfl rfl (Nat.le_of_ble_eq_true rfl) (Nat.le_of_ble_eq_true rfl) ?_
  rintro z4 A4 B4 ⟨⟨rfl, b4⟩ | ⟨rfl, b4⟩, rfl, rfl⟩
  · refine rz_if_ne (t := 12) dX12_body_7 rfl (by omega) (fun _ => ?_) (fun q => absurd q (by decide))
    refine rz_aload_n dX12_body_12 rfl ?_
    refine rz_getI (z := (I 81 51)) dX12_body_13 kf_RX12_374 hd_81 rfl rfl ?_
    refine rz_bipush dX12_body_16 (by decide) ?_
    refine rz_icmp_ne (t := 24) dX12_body_18 rfl (by omega) (by omega) (fun c18 => ?_) (fun c18 => ?_)
    · refine rz_aload_n dX12_body_24 rfl ?_
      refine rz_getR dX12_body_25 kf_RX12_114 hd_81 rfl rr_81_52 ?_
      refine rz_aload_n dX12_body_28 rfl ?_
      refine rz_getI (z := (I 81 51)) dX12_body_29 kf_RX12_374 hd_81 rfl rfl ?_
      refine rz_iload_n dX12_body_32 rfl ?_
      refine rz_iast dX12_body_33 hd_116 (by decide) (by omega) ?_
      refine rz_aload_n dX12_body_34 rfl ?_
      refine rz_dup dX12_body_35 rfl ?_
      refine rz_getI (z := (I 81 51)) dX12_body_36 kf_RX12_374 hd_81 rfl rfl ?_
      refine rz_iconst dX12_body_39 ?_
      refine rz_iadd dX12_body_40 ?_
      refine rz_putI dX12_body_41 kp_RX12_374 hd_81 rfl ?_
      refine rz_aload_n dX12_body_44 rfl ?_
      refine rz_getI (z := ((I 81 51) + 1)) dX12_body_45 kf_RX12_374 hd_81 rfl rfl ?_
      refine rz_iconst dX12_body_48 ?_
      refine rz_isub dX12_body_49 ?_
      refine rz_iret dX12_body_50 rfl ?_
      exact ⟨_, rfl, by rw [bodyZ, if_pos (by omega), if_pos (by omega)]; omega, (if_pos (by omega)).symm, rfl⟩
    · refine rz_bipush dX12_body_21 (by decide) ?_
      refine rz_iret dX12_body_23 rfl ?_
      exact ⟨_, rfl, by rw [bodyZ, if_pos (by omega), if_neg (by omega)], (if_neg (by omega)).symm, rfl⟩
  · refine rz_if_ne (t := 12) dX12_body_7 rfl (by omega) (fun q => absurd q (by decide)) (fun _ => ?_)
    refine rz_iconst dX12_body_10 ?_
    refine rz_iret dX12_body_11 rfl ?_
    exact ⟨_, rfl, (if_neg (by omega)).symm, (if_neg (by omega)).symm, rfl⟩
set_option maxRecDepth 20000 in
set_option maxHeartbeats 400000 in
theorem c_X0_kept (X : pX) (h : Nat) (I J : IM) (hr : 0 ≤ I 63 1 ∧ I 63 1 ≤ 100) : KI X (h + 1) mX0_kept [.ref 63] I J (min (I 63 1) 24) I J := by
  show Rz X (h + 1) mX0_kept 0 [some (.ref 63)] [] I J _
  refine rz_aload_n dX0_kept_0 rfl ?_
  refine rz_getI (z := (I 63 1)) dX0_kept_1 kf_RX0_20 hd_63 rfl rfl ?_
  refine rz_bipush dX0_kept_4 (by decide) ?_
  refine rz_mmin dX0_kept_6 kl_RX0_23 (Nat.le_of_ble_eq_true rfl) (by omega) (by omega) ?_
  refine rz_iret dX0_kept_9 rfl ?_
  exact ⟨_, rfl, rfl, rfl, rfl⟩
def traZ (n : Int) (g : Nat → Int) (t : Int) : Int := if 0 ≤ t ∧ t < n ∧ t < 24 then g t.toNat else -1
def cntZ (a b c d e t : Int) : Int := if t = 0 then a else if t = 1 then b else if t = 2 then c else if t = 3 then d else if t = 4 then e else -1
set_option maxRecDepth 20000 in
set_option maxHeartbeats 400000 in
theorem c_X11_trace (X : pX) (h : Nat) (I J : IM) (t : Int) (ht : rg t) (hr : 0 ≤ I 63 1 ∧ I 63 1 ≤ 100) : KI X (h + 2) mX11_trace [.ref 0, zi t] I J (traZ (I 63 1) (I 64) t) I J := by
  show Rz X (h + 2) mX11_trace 0 [some (.ref 0), some (zi t)] [] I J _
  refine rz_iload_n dX11_trace_0 rfl ?_
  refine rz_if_lt (t := 27) dX11_trace_1 rfl (by omega) (fun c1 => ?_) (fun c1 => ?_)
  · refine rz_iconst dX11_trace_27 ?_
    refine rz_iret dX11_trace_28 rfl ?_
    exact ⟨_, rfl, by unfold traZ; (repeat' split) <;> first | rfl | omega, rfl, rfl⟩
  · refine rz_iload_n dX11_trace_4 rfl ?_
    refine rz_aload_n dX11_trace_5 rfl ?_
    refine rz_getR dX11_trace_6 kf_RX11_70 hd_0 rfl rr_0_9 ?_
    refine rz_cVI dX11_trace_9 kl_RX11_320 hd_63 ⟨_, _, rfl⟩ (c_X0_kept X _ I J (by omega)) rfl rfl (Nat.le_of_ble_eq_true rfl) (Nat.le_of_ble_eq_true rfl) ?_
    refine rz_icmp_ge (t := 27) dX11_trace_12 rfl (by omega) (by omega) (fun c12 => ?_) (fun c12 => ?_)
    · refine rz_iconst dX11_trace_27 ?_
      refine rz_iret dX11_trace_28 rfl ?_
      exact ⟨_, rfl, by unfold traZ; (repeat' split) <;> first | rfl | omega, rfl, rfl⟩
    · refine rz_aload_n dX11_trace_15 rfl ?_
      refine rz_getR dX11_trace_16 kf_RX11_70 hd_0 rfl rr_0_9 ?_
      refine rz_getR dX11_trace_19 kf_RX11_323 hd_63 rfl rr_63_2 ?_
      refine rz_iload_n dX11_trace_22 rfl ?_
      refine rz_iald (z := (I 64 (t).toNat)) dX11_trace_23 hd_64 (by decide) (by omega) rfl ?_
      refine rz_goto (t := 28) dX11_trace_24 rfl ?_
      refine rz_iret dX11_trace_28 rfl ?_
      exact ⟨_, rfl, by unfold traZ; (repeat' split) <;> first | rfl | omega, rfl, rfl⟩
set_option maxRecDepth 20000 in
set_option maxHeartbeats 400000 in
theorem c_X12_trace (X : pX) (h : Nat) (I J : IM) (t : Int) (ht : rg t) (hr : 0 ≤ I 81 53 ∧ I 81 53 ≤ 100) : KI X h mX12_trace [.ref 81, zi t] I J (traZ (I 81 53) (I 117) t) I J := by
  show Rz X h mX12_trace 0 [some (.ref 81), some (zi t)] [] I J _
  refine rz_iload_n dX12_trace_0 rfl ?_
  refine rz_if_lt (t := 27) dX12_trace_1 rfl (by omega) (fun c1 => ?_) (fun c1 => ?_)
  · refine rz_iconst dX12_trace_27 ?_
    refine rz_iret dX12_trace_28 rfl ?_
    exact ⟨_, rfl, by unfold traZ; (repeat' split) <;> first | rfl | omega, rfl, rfl⟩
  · refine rz_iload_n dX12_trace_4 rfl ?_
    refine rz_aload_n dX12_trace_5 rfl ?_
    refine rz_getI (z := (I 81 53)) dX12_trace_6 kf_RX12_377 hd_81 rfl rfl ?_
    refine rz_icmp_ge (t := 27) dX12_trace_9 rfl (by omega) (by omega) (fun c9 => ?_) (fun c9 => ?_)
    · refine rz_iconst dX12_trace_27 ?_
      refine rz_iret dX12_trace_28 rfl ?_
      exact ⟨_, rfl, by unfold traZ; (repeat' split) <;> first | rfl | omega, rfl, rfl⟩
    · refine rz_iload_n dX12_trace_12 rfl ?_
      refine rz_bipush dX12_trace_13 (by decide) ?_
      refine rz_icmp_ge (t := 27) dX12_trace_15 rfl (by omega) (by omega) (fun c15 => ?_) (fun c15 => ?_)
      · refine rz_iconst dX12_trace_27 ?_
        refine rz_iret dX12_trace_28 rfl ?_
        exact ⟨_, rfl, by unfold traZ; (repeat' split) <;> first | rfl | omega, rfl, rfl⟩
      · refine rz_aload_n dX12_trace_18 rfl ?_
        refine rz_getR dX12_trace_19 kf_RX12_117 hd_81 rfl rr_81_54 ?_
        refine rz_iload_n dX12_trace_22 rfl ?_
        refine rz_iald (z := (I 117 (t).toNat)) dX12_trace_23 hd_117 (by decide) (by omega) rfl ?_
        refine rz_goto (t := 28) dX12_trace_24 rfl ?_
        refine rz_iret dX12_trace_28 rfl ?_
        exact ⟨_, rfl, by unfold traZ; (repeat' split) <;> first | rfl | omega, rfl, rfl⟩
set_option maxRecDepth 20000 in
set_option maxHeartbeats 400000 in
theorem c_X11_count (X : pX) (h : Nat) (I J : IM) (t : Int) (ht : rg t) : KI X h mX11_count [.ref 0, zi t] I J (cntZ (I 6 0) (I 1 0) (I 58 1) (I 63 0) (I 63 1) t) I J := by
  show Rz X h mX11_count 0 [some (.ref 0), some (zi t)] [] I J _
  refine rz_iload_n dX11_count_0 rfl ?_
  by_cases s1_0 : t = 0
  · subst s1_0
    refine rz_tableIn (t := 36) dX11_count_1 (by omega) (by decide) rfl rfl ?_
    refine rz_aload_n dX11_count_36 rfl ?_
    refine rz_getR dX11_count_37 kf_RX11_21 hd_0 rfl rr_0_1 ?_
    refine rz_getI (z := (I 6 0)) dX11_count_40 kf_RX11_88 hd_6 rfl rfl ?_
    refine rz_iret dX11_count_43 rfl ?_
    exact ⟨_, rfl, by simp [cntZ, *], rfl, rfl⟩
  by_cases s1_1 : t = 1
  · subst s1_1
    refine rz_tableIn (t := 44) dX11_count_1 (by omega) (by decide) rfl rfl ?_
    refine rz_aload_n dX11_count_44 rfl ?_
    refine rz_getR dX11_count_45 kf_RX11_10 hd_0 rfl rr_0_0 ?_
    refine rz_getI (z := (I 1 0)) dX11_count_48 kf_RX11_178 hd_1 rfl rfl ?_
    refine rz_iret dX11_count_51 rfl ?_
    exact ⟨_, rfl, by simp [cntZ, *], rfl, rfl⟩
  by_cases s1_2 : t = 2
  · subst s1_2
    refine rz_tableIn (t := 52) dX11_count_1 (by omega) (by decide) rfl rfl ?_
    refine rz_aload_n dX11_count_52 rfl ?_
    refine rz_getR dX11_count_53 kf_RX11_63 hd_0 rfl rr_0_8 ?_
    refine rz_getI (z := (I 58 1)) dX11_count_56 kf_RX11_301 hd_58 rfl rfl ?_
    refine rz_iret dX11_count_59 rfl ?_
    exact ⟨_, rfl, by simp [cntZ, *], rfl, rfl⟩
  by_cases s1_3 : t = 3
  · subst s1_3
    refine rz_tableIn (t := 60) dX11_count_1 (by omega) (by decide) rfl rfl ?_
    refine rz_aload_n dX11_count_60 rfl ?_
    refine rz_getR dX11_count_61 kf_RX11_70 hd_0 rfl rr_0_9 ?_
    refine rz_getI (z := (I 63 0)) dX11_count_64 kf_RX11_316 hd_63 rfl rfl ?_
    refine rz_iret dX11_count_67 rfl ?_
    exact ⟨_, rfl, by simp [cntZ, *], rfl, rfl⟩
  by_cases s1_4 : t = 4
  · subst s1_4
    refine rz_tableIn (t := 68) dX11_count_1 (by omega) (by decide) rfl rfl ?_
    refine rz_aload_n dX11_count_68 rfl ?_
    refine rz_getR dX11_count_69 kf_RX11_70 hd_0 rfl rr_0_9 ?_
    refine rz_getI (z := (I 63 1)) dX11_count_72 kf_RX11_360 hd_63 rfl rfl ?_
    refine rz_iret dX11_count_75 rfl ?_
    exact ⟨_, rfl, by simp [cntZ, *], rfl, rfl⟩
  refine rz_tableOut (t := 76) dX11_count_1 (by omega) (by omega) rfl ?_
  refine rz_iconst dX11_count_76 ?_
  refine rz_iret dX11_count_77 rfl ?_
  exact ⟨_, rfl, by simp [cntZ, *], rfl, rfl⟩
set_option maxRecDepth 20000 in
set_option maxHeartbeats 400000 in
theorem c_X12_count (X : pX) (h : Nat) (I J : IM) (t : Int) (ht : rg t) : KI X h mX12_count [.ref 81, zi t] I J (cntZ (I 81 1) (I 81 17) (I 81 9) (I 81 51) (I 81 53) t) I J := by
  show Rz X h mX12_count 0 [some (.ref 81), some (zi t)] [] I J _
  refine rz_iload_n dX12_count_0 rfl ?_
  by_cases s1_0 : t = 0
  · subst s1_0
    refine rz_tableIn (t := 36) dX12_count_1 (by omega) (by decide) rfl rfl ?_
    refine rz_aload_n dX12_count_36 rfl ?_
    refine rz_getI (z := (I 81 1)) dX12_count_37 kf_RX12_137 hd_81 rfl rfl ?_
    refine rz_iret dX12_count_40 rfl ?_
    exact ⟨_, rfl, by simp [cntZ, *], rfl, rfl⟩
  by_cases s1_1 : t = 1
  · subst s1_1
    refine rz_tableIn (t := 41) dX12_count_1 (by omega) (by decide) rfl rfl ?_
    refine rz_aload_n dX12_count_41 rfl ?_
    refine rz_getI (z := (I 81 17)) dX12_count_42 kf_RX12_179 hd_81 rfl rfl ?_
    refine rz_iret dX12_count_45 rfl ?_
    exact ⟨_, rfl, by simp [cntZ, *], rfl, rfl⟩
  by_cases s1_2 : t = 2
  · subst s1_2
    refine rz_tableIn (t := 46) dX12_count_1 (by omega) (by decide) rfl rfl ?_
    refine rz_aload_n dX12_count_46 rfl ?_
    refine rz_getI (z := (I 81 9)) dX12_count_47 kf_RX12_151 hd_81 rfl rfl ?_
    refine rz_iret dX12_count_50 rfl ?_
    exact ⟨_, rfl, by simp [cntZ, *], rfl, rfl⟩
  by_cases s1_3 : t = 3
  · subst s1_3
    refine rz_tableIn (t := 51) dX12_count_1 (by omega) (by decide) rfl rfl ?_
    refine rz_aload_n dX12_count_51 rfl ?_
    refine rz_getI (z := (I 81 51)) dX12_count_52 kf_RX12_374 hd_81 rfl rfl ?_
    refine rz_iret dX12_count_55 rfl ?_
    exact ⟨_, rfl, by simp [cntZ, *], rfl, rfl⟩
  by_cases s1_4 : t = 4
  · subst s1_4
    refine rz_tableIn (t := 56) dX12_count_1 (by omega) (by decide) rfl rfl ?_
    refine rz_aload_n dX12_count_56 rfl ?_
    refine rz_getI (z := (I 81 53)) dX12_count_57 kf_RX12_377 hd_81 rfl rfl ?_
    refine rz_iret dX12_count_60 rfl ?_
    exact ⟨_, rfl, by simp [cntZ, *], rfl, rfl⟩
  refine rz_tableOut (t := 61) dX12_count_1 (by omega) (by omega) rfl ?_
  refine rz_iconst dX12_count_61 ?_
  refine rz_iret dX12_count_62 rfl ?_
  exact ⟨_, rfl, by simp [cntZ, *], rfl, rfl⟩
