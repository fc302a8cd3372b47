/-! the reference's shelves -/
def whyZ (I : IM) (v i : Int) : Int := if ¬ (0 ≤ v ∧ v ≤ 5) then -1 else if I 118 v.toNat = -1 then -11 else if 0 ≤ I 118 v.toNat then -12 else if 0 ≤ i ∧ i ≤ I 119 v.toNat - 1 then 0 else -13
theorem whyZ_rg (I : IM) (v i : Int) : -20 ≤ whyZ I v i ∧ whyZ I v i ≤ 0 := by unfold whyZ; (repeat' split) <;> omega
theorem whyZ_0 {I : IM} {v i : Int} : 0 ≤ whyZ I v i ↔ (0 ≤ v ∧ v ≤ 5) ∧ I 118 v.toNat < -1 ∧ 0 ≤ i ∧ i < I 119 v.toNat := by unfold whyZ; (repeat' split) <;> omega
/-- n places of array a from b on get z -/
def fillF (J : IM) (a b n : Nat) (z : Int) : IM := upA J a (fun j => if b ≤ j ∧ j < b + n then z else J a j)
theorem fillF_0 {J : IM} {a b : Nat} {z : Int} : fillF J a b 0 z = J := by
  unfold fillF
  have e : (fun j => if b ≤ j ∧ j < b + 0 then z else J a j) = J a := by
    funext j; rw [if_neg (by omega)]
  rw [e]; exact upA_id
theorem fillF_step {J : IM} {a b n : Nat} {z : Int} : fillF J a b (n + 1) z = upA (fillF J a b n z) a (up1 (fillF J a b n z a) (b + n) z) := by
  unfold fillF
  rw [upA_upA]
  congr 1
  funext j
  simp only [up1, upA_self]
  by_cases h : j = b + n
  · subst h; simp
  · by_cases h2 : b ≤ j ∧ j < b + n
    · simp [h, h2, show j < b + (n + 1) by omega]
    · rw [if_neg h, if_neg (show ¬ (b ≤ j ∧ j < b + (n + 1)) by omega), if_neg h2]
/-- n places of array a from b on get f 0, f 1, .. -/
def copF (J : IM) (a b n : Nat) (f : Nat → Int) : IM := upA J a (fun j => if b ≤ j ∧ j < b + n then f (j - b) else J a j)
theorem copF_0 {J : IM} {a b : Nat} {f : Nat → Int} : copF J a b 0 f = J := by
  unfold copF
  have e : (fun j => if b ≤ j ∧ j < b + 0 then f (j - b) else J a j) = J a := by
    funext j; rw [if_neg (by omega)]
  rw [e]; exact upA_id
theorem copF_step {J : IM} {a b n : Nat} {f : Nat → Int} {z : Int} (hz : f n = z) : copF J a b (n + 1) f = upA (copF J a b n f) a (up1 (copF J a b n f a) (b + n) z) := by
  unfold copF
  rw [upA_upA]
  congr 1
  funext j
  simp only [up1, upA_self]
  by_cases h : j = b + n
  · subst h; simp [hz]
  · by_cases h2 : b ≤ j ∧ j < b + n
    · simp [h, h2, show j < b + (n + 1) by omega]
    · rw [if_neg h, if_neg (show ¬ (b ≤ j ∧ j < b + (n + 1)) by omega), if_neg h2]
def ShR (I : IM) : Prop := ∀ k : Nat, k < 6 → (-6 ≤ I 118 k ∧ I 118 k ≤ 49) ∧ 0 ≤ I 119 k ∧ I 119 k ≤ 60
set_option maxRecDepth 20000 in
set_option maxHeartbeats 400000 in
theorem c_X12_isShelf (X : pX) (h : Nat) (I J : IM) (n : Int) (hn : rg n) : KIq X (h + 1) mX12_isShelf [zi n] I J (BQ I J (0 ≤ n ∧ n ≤ 5)) := by
  show Rz X (h + 1) mX12_isShelf 0 [some (zi n)] [] I J _
  refine rz_iload_n dX12_isShelf_0 rfl ?_
  refine rz_iconst dX12_isShelf_1 ?_
  refine rz_iconst dX12_isShelf_2 ?_
  refine rz_cSIq dX12_isShelf_3 kl_RX12_140 (c_X12_in X _ I J n 0 5 (by omega) (by omega) (by omega)) rfl rfl (Nat.le_of_ble_eq_true rfl) (Nat.le_of_ble_eq_true rfl) ?_
  rintro z3 A3 B3 ⟨⟨rfl, b3⟩ | ⟨rfl, b3⟩, rfl, rfl⟩
  · refine rz_zret dX12_isShelf_6 rfl (by decide) ?_
    exact ⟨_, rfl, Or.inl ⟨rfl, by first | omega | assumption⟩, rfl, rfl⟩
  · refine rz_zret dX12_isShelf_6 rfl (by decide) ?_
    exact ⟨_, rfl, Or.inr ⟨rfl, by first | omega | assumption⟩, rfl, rfl⟩
set_option maxRecDepth 20000 in
set_option maxHeartbeats 400000 in
theorem c_X12_isBody (X : pX) (h : Nat) (I J : IM) (n : Int) (hn : rg n) (hb : 0 ≤ I 81 51 ∧ I 81 51 ≤ 50) : KIq X (h + 1) mX12_isBody [.ref 81, zi n] I J (BQ I J (0 ≤ n ∧ n ≤ I 81 51 - 1)) := by
  show Rz X (h + 1) mX12_isBody 0 [some (.ref 81), some (zi n)] [] I J _
  refine rz_iload_n dX12_isBody_0 rfl ?_
  refine rz_iconst dX12_isBody_1 ?_
  refine rz_aload_n dX12_isBody_2 rfl ?_
  refine rz_getI (z := (I 81 51)) dX12_isBody_3 kf_RX12_374 hd_81 rfl rfl ?_
  refine rz_iconst dX12_isBody_6 ?_
  refine rz_isub dX12_isBody_7 ?_
  refine rz_cSIq dX12_isBody_8 kl_RX12_140 (c_X12_in X _ I J n 0 ((I 81 51) - 1) (by omega) (by omega) (by omega)) rfl rfl (Nat.le_of_ble_eq_true rfl) (Nat.le_of_ble_eq_true rfl) ?_
  rintro z8 A8 B8 ⟨⟨rfl, b8⟩ | ⟨rfl, b8⟩, rfl, rfl⟩
  · refine rz_zret dX12_isBody_11 rfl (by decide) ?_
    exact ⟨_, rfl, Or.inl ⟨rfl, by first | omega | assumption⟩, rfl, rfl⟩
  · refine rz_zret dX12_isBody_11 rfl (by decide) ?_
    exact ⟨_, rfl, Or.inr ⟨rfl, by first | omega | assumption⟩, rfl, rfl⟩
set_option maxRecDepth 20000 in
set_option maxHeartbeats 400000 in
theorem c_X12_whyNoPlace (X : pX) (h : Nat) (I J : IM) (v i : Int) (hv : rg v) (hi : rg i) (hS : ShR I) : KI X (h + 2) mX12_whyNoPlace [.ref 81, zi v, zi i] I J (whyZ I v i) I J := by
  show Rz X (h + 2) mX12_whyNoPlace 0 [some (.ref 81), some (zi v), some (zi i)] [] I J _
  refine rz_iload_n dX12_whyNoPlace_0 rfl ?_
  refine rz_cSIq dX12_whyNoPlace_1 kl_RX12_176 (c_X12_isShelf X _ I J v (by omega)) rfl rfl (Nat.le_of_ble_eq_true rfl) (Nat.le_of_ble_eq_true rfl) ?_
  rintro z1 A1 B1 ⟨⟨rfl, b1⟩ | ⟨rfl, b1⟩, rfl, rfl⟩
  · refine rz_if_ne (t := 9) dX12_whyNoPlace_4 rfl (by omega) (fun _ => ?_) (fun q => absurd q (by decide))
    have h9 := hS v.toNat (by omega)
    refine rz_aload_n dX12_whyNoPlace_9 rfl ?_
    refine rz_getR dX12_whyNoPlace_10 kf_RX12_120 hd_81 rfl rr_81_55 ?_
    refine rz_iload_n dX12_whyNoPlace_13 rfl ?_
    refine rz_iald (z := (I 118 (v).toNat)) dX12_whyNoPlace_14 hd_118 (by decide) (by omega) rfl ?_
    refine rz_iconst dX12_whyNoPlace_15 ?_
    refine rz_icmp_ne (t := 22) dX12_whyNoPlace_16 rfl (by omega) (by omega) (fun c16 => ?_) (fun c16 => ?_)
    · refine rz_aload_n dX12_whyNoPlace_22 rfl ?_
      refine rz_getR dX12_whyNoPlace_23 kf_RX12_120 hd_81 rfl rr_81_55 ?_
      refine rz_iload_n dX12_whyNoPlace_26 rfl ?_
      refine rz_iald (z := (I 118 (v).toNat)) dX12_whyNoPlace_27 hd_118 (by decide) (by omega) rfl ?_
      refine rz_if_lt (t := 34) dX12_whyNoPlace_28 rfl (by omega) (fun c28 => ?_) (fun c28 => ?_)
      · refine rz_iload_n dX12_whyNoPlace_34 rfl ?_
        refine rz_iconst dX12_whyNoPlace_35 ?_
        refine rz_aload_n dX12_whyNoPlace_36 rfl ?_
        refine rz_getR dX12_whyNoPlace_37 kf_RX12_123 hd_81 rfl rr_81_56 ?_
        refine rz_iload_n dX12_whyNoPlace_40 rfl ?_
        refine rz_iald (z := (I 119 (v).toNat)) dX12_whyNoPlace_41 hd_119 (by decide) (by omega) rfl ?_
        refine rz_iconst dX12_whyNoPlace_42 ?_
        refine rz_isub dX12_whyNoPlace_43 ?_
        refine rz_cSIq dX12_whyNoPlace_44 kl_RX12_140 (c_X12_in X _ I J i 0 ((I 119 (v).toNat) - 1) (by omega) (by omega) (by omega)) rfl rfl (Nat.le_of_ble_eq_true rfl) (Nat.le_of_ble_eq_true rfl) ?_
        rintro z44 A44 B44 ⟨⟨rfl, b44⟩ | ⟨rfl, b44⟩, rfl, rfl⟩
        · refine rz_if_eq (t := 54) dX12_whyNoPlace_47 rfl (by omega) (fun q => absurd q (by decide)) (fun _ => ?_)
          refine rz_iconst dX12_whyNoPlace_50 ?_
          refine rz_goto (t := 56) dX12_whyNoPlace_51 rfl ?_
          refine rz_iret dX12_whyNoPlace_56 rfl ?_
          exact ⟨_, rfl, by unfold whyZ; (repeat' split) <;> first | rfl | omega, rfl, rfl⟩
        · refine rz_if_eq (t := 54) dX12_whyNoPlace_47 rfl (by omega) (fun _ => ?_) (fun q => absurd q (by decide))
          refine rz_bipush dX12_whyNoPlace_54 (by decide) ?_
          refine rz_iret dX12_whyNoPlace_56 rfl ?_
          exact ⟨_, rfl, by unfold whyZ; (repeat' split) <;> first | rfl | omega, rfl, rfl⟩
      · refine rz_bipush dX12_whyNoPlace_31 (by decide) ?_
        refine rz_iret dX12_whyNoPlace_33 rfl ?_
        exact ⟨_, rfl, by unfold whyZ; (repeat' split) <;> first | rfl | omega, rfl, rfl⟩
    · refine rz_bipush dX12_whyNoPlace_19 (by decide) ?_
      refine rz_iret dX12_whyNoPlace_21 rfl ?_
      exact ⟨_, rfl, by unfold whyZ; (repeat' split) <;> first | rfl | omega, rfl, rfl⟩
  · refine rz_if_ne (t := 9) dX12_whyNoPlace_4 rfl (by omega) (fun q => absurd q (by decide)) (fun _ => ?_)
    refine rz_iconst dX12_whyNoPlace_7 ?_
    refine rz_iret dX12_whyNoPlace_8 rfl ?_
    exact ⟨_, rfl, by unfold whyZ; (repeat' split) <;> first | rfl | omega, rfl, rfl⟩
def putZR (I : IM) (v i : Int) : Int := if whyZ I v i < 0 then whyZ I v i else 1
def putJR (I J : IM) (v i x : Int) : IM := if whyZ I v i < 0 then J else upA J 120 (up1 (J 120) (60 * v + i).toNat (lowZ (-2 - I 118 v.toNat) x))
def elemZR (I J : IM) (v i : Int) : Int := if whyZ I v i < 0 then -9223372036854775808 else J 120 (60 * v + i).toNat
set_option maxRecDepth 20000 in
set_option maxHeartbeats 400000 in
theorem c_X12_put (X : pX) (h : Nat) (I J : IM) (v i x : Int) (hv : rg v) (hi : rg i) (hx : rl x) (hS : ShR I) : KI X (h + 3) mX12_put [.ref 81, zi v, zi i, zl x] I J (putZR I v i) I (putJR I J v i x) := by
  show Rz X (h + 3) mX12_put 0 [some (.ref 81), some (zi v), some (zi i), some (zl x), none, none, none] [] I J _
  refine rz_aload_n dX12_put_0 rfl ?_
  refine rz_iload_n dX12_put_1 rfl ?_
  refine rz_iload_n dX12_put_2 rfl ?_
  refine rz_cVI dX12_put_3 kl_RX12_422 hd_81 ⟨_, _, rfl⟩ (c_X12_whyNoPlace X _ I J v i (by omega) (by omega) hS) rfl rfl (Nat.le_of_ble_eq_true rfl) (Nat.le_of_ble_eq_true rfl) ?_
  refine rz_istore dX12_put_6 (by decide) rfl ?_
  have h8 := whyZ_rg I v i
  refine rz_iload dX12_put_8 rfl ?_
  refine rz_if_ge (t := 16) dX12_put_10 rfl (by omega) (fun c10 => ?_) (fun c10 => ?_)
  · have h9 := whyZ_0.mp c10
    have h7 := hS v.toNat (by omega)
    refine rz_bipush dX12_put_16 (by decide) ?_
    refine rz_aload_n dX12_put_18 rfl ?_
    refine rz_getR dX12_put_19 kf_RX12_120 hd_81 rfl rr_81_55 ?_
    refine rz_iload_n dX12_put_22 rfl ?_
    refine rz_iald (z := (I 118 (v).toNat)) dX12_put_23 hd_118 (by decide) (by omega) rfl ?_
    refine rz_isub dX12_put_24 ?_
    refine rz_istore dX12_put_25 (by decide) rfl ?_
    refine rz_aload_n dX12_put_27 rfl ?_
    refine rz_getR dX12_put_28 kf_RX12_126 hd_81 rfl rr_81_57 ?_
    refine rz_bipush dX12_put_31 (by decide) ?_
    refine rz_iload_n dX12_put_33 rfl ?_
    refine rz_imul dX12_put_34 ?_
    refine rz_iload_n dX12_put_35 rfl ?_
    refine rz_iadd dX12_put_36 ?_
    refine rz_iload dX12_put_37 rfl ?_
    refine rz_if_ne (t := 49) dX12_put_39 rfl (by omega) (fun c39 => ?_) (fun c39 => ?_)
    · refine rz_iload dX12_put_49 rfl ?_
      refine rz_iconst dX12_put_51 ?_
      refine rz_icmp_ne (t := 62) dX12_put_52 rfl (by omega) (by omega) (fun c52 => ?_) (fun c52 => ?_)
      · refine rz_iload dX12_put_62 rfl ?_
        refine rz_iconst dX12_put_64 ?_
        refine rz_icmp_ne (t := 74) dX12_put_65 rfl (by omega) (by omega) (fun c65 => ?_) (fun c65 => ?_)
        · refine rz_iload dX12_put_74 rfl ?_
          refine rz_iconst dX12_put_76 ?_
          refine rz_icmp_ne (t := 84) dX12_put_77 rfl (by omega) (by omega) (fun c77 => ?_) (fun c77 => ?_)
          · refine rz_lload_n dX12_put_84 rfl ?_
            refine rz_lconst (x := 0) dX12_put_85 rfl ?_
            refine rz_lcmp dX12_put_86 (by omega) (by omega) ?_
            refine rz_if_eq (t := 94) dX12_put_87 rfl (lcZ_rg _ _) (fun c87 => ?_) (fun c87 => ?_)
            · refine rz_lconst (x := 0) dX12_put_94 rfl ?_
              refine rz_last dX12_put_95 hd_120 (by decide) (by omega) ?_
              refine rz_iconst dX12_put_96 ?_
              refine rz_iret dX12_put_97 rfl ?_
              exact ⟨_, rfl, (if_neg (by omega)).symm, rfl, by rw [putJR, if_neg (by omega)]; first | rw [low_0 (by omega)] | rw [low_1 (by omega)] | rw [low_2 (by omega)] | rw [low_3 (by omega)] | rw [low_4 (by omega) (lcZ_0.mp (by assumption))] | rw [low_5 (by omega) (fun q => by have q2 := lcZ_0.mpr q; contradiction)]⟩
            · refine rz_lconst (x := 1) dX12_put_90 rfl ?_
              refine rz_goto (t := 95) dX12_put_91 rfl ?_
              refine rz_last dX12_put_95 hd_120 (by decide) (by omega) ?_
              refine rz_iconst dX12_put_96 ?_
              refine rz_iret dX12_put_97 rfl ?_
              exact ⟨_, rfl, (if_neg (by omega)).symm, rfl, by rw [putJR, if_neg (by omega)]; first | rw [low_0 (by omega)] | rw [low_1 (by omega)] | rw [low_2 (by omega)] | rw [low_3 (by omega)] | rw [low_4 (by omega) (lcZ_0.mp (by assumption))] | rw [low_5 (by omega) (fun q => by have q2 := lcZ_0.mpr q; contradiction)]⟩
          · refine rz_lload_n dX12_put_80 rfl ?_
            refine rz_goto (t := 95) dX12_put_81 rfl ?_
            refine rz_last dX12_put_95 hd_120 (by decide) (by omega) ?_
            refine rz_iconst dX12_put_96 ?_
            refine rz_iret dX12_put_97 rfl ?_
            exact ⟨_, rfl, (if_neg (by omega)).symm, rfl, by rw [putJR, if_neg (by omega)]; first | rw [low_0 (by omega)] | rw [low_1 (by omega)] | rw [low_2 (by omega)] | rw [low_3 (by omega)] | rw [low_4 (by omega) (lcZ_0.mp (by assumption))] | rw [low_5 (by omega) (fun q => by have q2 := lcZ_0.mpr q; contradiction)]⟩
        · refine rz_lload_n dX12_put_68 rfl ?_
          refine rz_l2iw dX12_put_69 ?_
          refine rz_i2l dX12_put_70 (bm32r x) ?_
          refine rz_goto (t := 95) dX12_put_71 rfl ?_
          refine rz_last dX12_put_95 hd_120 (by decide) (by omega) ?_
          refine rz_iconst dX12_put_96 ?_
          refine rz_iret dX12_put_97 rfl ?_
          exact ⟨_, rfl, (if_neg (by omega)).symm, rfl, by rw [putJR, if_neg (by omega)]; first | rw [low_0 (by omega)] | rw [low_1 (by omega)] | rw [low_2 (by omega)] | rw [low_3 (by omega)] | rw [low_4 (by omega) (lcZ_0.mp (by assumption))] | rw [low_5 (by omega) (fun q => by have q2 := lcZ_0.mpr q; contradiction)]⟩
      · refine rz_lload_n dX12_put_55 rfl ?_
        refine rz_l2i dX12_put_56 ?_
        refine rz_i2sw dX12_put_57 ?_
        refine rz_i2l dX12_put_58 (by have := bm16r x; omega) ?_
        refine rz_goto (t := 95) dX12_put_59 rfl ?_
        refine rz_last dX12_put_95 hd_120 (by decide) (by omega) ?_
        refine rz_iconst dX12_put_96 ?_
        refine rz_iret dX12_put_97 rfl ?_
        exact ⟨_, rfl, (if_neg (by omega)).symm, rfl, by rw [putJR, if_neg (by omega)]; first | rw [low_0 (by omega)] | rw [low_1 (by omega)] | rw [low_2 (by omega)] | rw [low_3 (by omega)] | rw [low_4 (by omega) (lcZ_0.mp (by assumption))] | rw [low_5 (by omega) (fun q => by have q2 := lcZ_0.mpr q; contradiction)]⟩
    · refine rz_lload_n dX12_put_42 rfl ?_
      refine rz_l2i dX12_put_43 ?_
      refine rz_i2bw dX12_put_44 ?_
      refine rz_i2l dX12_put_45 (by have := bm8r x; omega) ?_
      refine rz_goto (t := 95) dX12_put_46 rfl ?_
      refine rz_last dX12_put_95 hd_120 (by decide) (by omega) ?_
      refine rz_iconst dX12_put_96 ?_
      refine rz_iret dX12_put_97 rfl ?_
      exact ⟨_, rfl, (if_neg (by omega)).symm, rfl, by rw [putJR, if_neg (by omega)]; first | rw [low_0 (by omega)] | rw [low_1 (by omega)] | rw [low_2 (by omega)] | rw [low_3 (by omega)] | rw [low_4 (by omega) (lcZ_0.mp (by assumption))] | rw [low_5 (by omega) (fun q => by have q2 := lcZ_0.mpr q; contradiction)]⟩
  · refine rz_iload dX12_put_13 rfl ?_
    refine rz_iret dX12_put_15 rfl ?_
    exact ⟨_, rfl, (if_pos c10).symm, rfl, (if_pos c10).symm⟩
set_option maxRecDepth 20000 in
set_option maxHeartbeats 400000 in
theorem c_X12_element (X : pX) (h : Nat) (I J : IM) (v i : Int) (hv : rg v) (hi : rg i) (hS : ShR I) : KL X (h + 3) mX12_element [.ref 81, zi v, zi i] I J (elemZR I J v i) I J := by
  show Rz X (h + 3) mX12_element 0 [some (.ref 81), some (zi v), some (zi i)] [] I J _
  refine rz_aload_n dX12_element_0 rfl ?_
  refine rz_iload_n dX12_element_1 rfl ?_
  refine rz_iload_n dX12_element_2 rfl ?_
  refine rz_cVI dX12_element_3 kl_RX12_422 hd_81 ⟨_, _, rfl⟩ (c_X12_whyNoPlace X _ I J v i (by omega) (by omega) hS) rfl rfl (Nat.le_of_ble_eq_true rfl) (Nat.le_of_ble_eq_true rfl) ?_
  refine rz_if_ge (t := 15) dX12_element_6 rfl (by have := whyZ_rg I v i; omega) (fun c6 => ?_) (fun c6 => ?_)
  · have h9 := whyZ_0.mp c6
    have h7 := hS v.toNat (by omega)
    refine rz_aload_n dX12_element_15 rfl ?_
    refine rz_getR dX12_element_16 kf_RX12_126 hd_81 rfl rr_81_57 ?_
    refine rz_bipush dX12_element_19 (by decide) ?_
    refine rz_iload_n dX12_element_21 rfl ?_
    refine rz_imul dX12_element_22 ?_
    refine rz_iload_n dX12_element_23 rfl ?_
    refine rz_iadd dX12_element_24 ?_
    refine rz_lald (z := (J 120 (((60 * v) + i)).toNat)) dX12_element_25 hd_120 (by decide) (by omega) rfl ?_
    refine rz_lret dX12_element_26 rfl ?_
    exact ⟨_, rfl, (if_neg (by omega)).symm, rfl, rfl⟩
  · refine rz_ldc2 (x := (-9223372036854775808)) dX12_element_9 kk_RX12_313 (by decide) ?_
    refine rz_goto (t := 26) dX12_element_12 rfl ?_
    refine rz_lret dX12_element_26 rfl ?_
    exact ⟨_, rfl, (if_pos c6).symm, rfl, rfl⟩
abbrev keepOR (b v n : Int) : Prop := (0 ≤ v ∧ v ≤ 5) ∧ (n = -1 ∨ (0 ≤ n ∧ n ≤ b - 1))
def keepR (I : IM) (v n : Int) : IM := if keepOR (I 81 51) v n then upA I 118 (up1 (I 118) v.toNat n) else I
def rowR (I : IM) (v s n : Int) : IM := if rowOK v s n ∧ 0 ≤ n then upA (upA I 118 (up1 (I 118) v.toNat (-2 - s))) 119 (up1 (I 119) v.toNat n) else I
def rowJR (J : IM) (v s n : Int) : IM := if rowOK v s n ∧ 0 ≤ n then fillF J 120 (60 * v).toNat 60 0 else J
set_option maxRecDepth 20000 in
set_option maxHeartbeats 400000 in
theorem c_X12_keep (X : pX) (h : Nat) (I J : IM) (v n : Int) (hv : rg v) (hn : rg n) (hb : 0 ≤ I 81 51 ∧ I 81 51 ≤ 50) : KI X (h + 2) mX12_keep [.ref 81, zi v, zi n] I J (if keepOR (I 81 51) v n then 1 else -1) (keepR I v n) J := by
  show Rz X (h + 2) mX12_keep 0 [some (.ref 81), some (zi v), some (zi n)] [] I J _
  refine rz_iload_n dX12_keep_0 rfl ?_
  refine rz_cSIq dX12_keep_1 kl_RX12_176 (c_X12_isShelf X _ I J v (by omega)) rfl rfl (Nat.le_of_ble_eq_true rfl) (Nat.le_of_ble_eq_true rfl) ?_
  rintro z1 A1 B1 ⟨⟨rfl, b1⟩ | ⟨rfl, b1⟩, rfl, rfl⟩
  · refine rz_if_eq (t := 20) dX12_keep_4 rfl (by omega) (fun q => absurd q (by decide)) (fun _ => ?_)
    refine rz_iload_n dX12_keep_7 rfl ?_
    refine rz_iconst dX12_keep_8 ?_
    refine rz_icmp_eq (t := 22) dX12_keep_9 rfl (by omega) (by omega) (fun c9 => ?_) (fun c9 => ?_)
    · refine rz_aload_n dX12_keep_22 rfl ?_
      refine rz_getR dX12_keep_23 kf_RX12_120 hd_81 rfl rr_81_55 ?_
      refine rz_iload_n dX12_keep_26 rfl ?_
      refine rz_iload_n dX12_keep_27 rfl ?_
      refine rz_iast dX12_keep_28 hd_118 (by decide) (by omega) ?_
      refine rz_iconst dX12_keep_29 ?_
      refine rz_iret dX12_keep_30 rfl ?_
      exact ⟨_, rfl, (if_pos (by omega)).symm, (if_pos (by omega)).symm, rfl⟩
    · refine rz_aload_n dX12_keep_12 rfl ?_
      refine rz_iload_n dX12_keep_13 rfl ?_
      refine rz_cVIq dX12_keep_14 kl_RX12_416 hd_81 ⟨_, _, rfl⟩ (c_X12_isBody X _ I J n (by omega) (by omega)) rfl rfl (Nat.le_of_ble_eq_true rfl) (Nat.le_of_ble_eq_true rfl) ?_
      rintro z14 A14 B14 ⟨⟨rfl, b14⟩ | ⟨rfl, b14⟩, rfl, rfl⟩
      · refine rz_if_ne (t := 22) dX12_keep_17 rfl (by omega) (fun _ => ?_) (fun q => absurd q (by decide))
        refine rz_aload_n dX12_keep_22 rfl ?_
        refine rz_getR dX12_keep_23 kf_RX12_120 hd_81 rfl rr_81_55 ?_
        refine rz_iload_n dX12_keep_26 rfl ?_
        refine rz_iload_n dX12_keep_27 rfl ?_
        refine rz_iast dX12_keep_28 hd_118 (by decide) (by omega) ?_
        refine rz_iconst dX12_keep_29 ?_
        refine rz_iret dX12_keep_30 rfl ?_
        exact ⟨_, rfl, (if_pos (by omega)).symm, (if_pos (by omega)).symm, rfl⟩
      · refine rz_if_ne (t := 22) dX12_keep_17 rfl (by omega) (fun q => absurd q (by decide)) (fun _ => ?_)
        refine rz_iconst dX12_keep_20 ?_
        refine rz_iret dX12_keep_21 rfl ?_
        exact ⟨_, rfl, (if_neg (by omega)).symm, (if_neg (by omega)).symm, rfl⟩
  · refine rz_if_eq (t := 20) dX12_keep_4 rfl (by omega) (fun _ => ?_) (fun q => absurd q (by decide))
    refine rz_iconst dX12_keep_20 ?_
    refine rz_iret dX12_keep_21 rfl ?_
    exact ⟨_, rfl, (if_neg (by omega)).symm, (if_neg (by omega)).symm, rfl⟩
set_option maxRecDepth 20000 in
set_option maxHeartbeats 400000 in
theorem c_X12_row (X : pX) (h : Nat) (I J : IM) (v s n : Int) (hv : rg v) (hs : rg s) (hn : rg n) : KI X (h + 2) mX12_row [.ref 81, zi v, zi s, zi n] I J (rowZ v s n) (rowR I v s n) (rowJR J v s n) := by
  show Rz X (h + 2) mX12_row 0 [some (.ref 81), some (zi v), some (zi s), some (zi n), none] [] I J _
  refine rz_iload_n dX12_row_0 rfl ?_
  refine rz_cSIq dX12_row_1 kl_RX12_176 (c_X12_isShelf X _ I J v (by omega)) rfl rfl (Nat.le_of_ble_eq_true rfl) (Nat.le_of_ble_eq_true rfl) ?_
  rintro z1 A1 B1 ⟨⟨rfl, b1⟩ | ⟨rfl, b1⟩, rfl, rfl⟩
  · refine rz_if_eq (t := 22) dX12_row_4 rfl (by omega) (fun q => absurd q (by decide)) (fun _ => ?_)
    refine rz_iload_n dX12_row_7 rfl ?_
    refine rz_iconst dX12_row_8 ?_
    refine rz_iconst dX12_row_9 ?_
    refine rz_cSIq dX12_row_10 kl_RX12_140 (c_X12_in X _ I J s 0 4 (by omega) (by omega) (by omega)) rfl rfl (Nat.le_of_ble_eq_true rfl) (Nat.le_of_ble_eq_true rfl) ?_
    rintro z10 A10 B10 ⟨⟨rfl, b10⟩ | ⟨rfl, b10⟩, rfl, rfl⟩
    · refine rz_if_eq (t := 22) dX12_row_13 rfl (by omega) (fun q => absurd q (by decide)) (fun _ => ?_)
      refine rz_iload_n dX12_row_16 rfl ?_
      refine rz_bipush dX12_row_17 (by decide) ?_
      refine rz_icmp_le (t := 24) dX12_row_19 rfl (by omega) (by omega) (fun c19 => ?_) (fun c19 => ?_)
      · refine rz_iload_n dX12_row_24 rfl ?_
        refine rz_if_ge (t := 31) dX12_row_25 rfl (by omega) (fun c25 => ?_) (fun c25 => ?_)
        · refine rz_aload_n dX12_row_31 rfl ?_
          refine rz_getR dX12_row_32 kf_RX12_120 hd_81 rfl rr_81_55 ?_
          refine rz_iload_n dX12_row_35 rfl ?_
          refine rz_bipush dX12_row_36 (by decide) ?_
          refine rz_iload_n dX12_row_38 rfl ?_
          refine rz_isub dX12_row_39 ?_
          refine rz_iast dX12_row_40 hd_118 (by decide) (by omega) ?_
          refine rz_aload_n dX12_row_41 rfl ?_
          refine rz_getR dX12_row_42 kf_RX12_123 hd_81 rfl rr_81_56 ?_
          refine rz_iload_n dX12_row_45 rfl ?_
          refine rz_iload_n dX12_row_46 rfl ?_
          refine rz_iast dX12_row_47 hd_119 (by decide) (by omega) ?_
          refine rz_bipush dX12_row_48 (by decide) ?_
          refine rz_iload_n dX12_row_50 rfl ?_
          refine rz_imul dX12_row_51 ?_
          refine rz_istore dX12_row_52 (by decide) rfl ?_
          refine rz_up (ls := fun q : Nat => [some (.ref 81), some (zi v), some (zi s), some (zi n), some (zi (60 * v + (q : Int)))]) (IV := fun q : Nat => (upA (upA I 118 (up1 (I 118) v.toNat (-2 - s))) 119 (up1 (I 119) v.toNat n))) (JV := fun q : Nat => (fillF J 120 (60 * v).toNat q 0)) (60) ⟨Or.inr rfl, Or.inr rfl, Or.inr rfl, Or.inr rfl, Or.inr (congrArg (fun z => some (zi z)) (by omega)), trivial⟩ (rfl) (fillF_0) ?_ ?_
          · intro q hq ihq
            refine rz_iload dX12_row_54 rfl ?_
            refine rz_bipush dX12_row_56 (by decide) ?_
            refine rz_iload_n dX12_row_58 rfl ?_
            refine rz_imul dX12_row_59 ?_
            refine rz_bipush dX12_row_60 (by decide) ?_
            refine rz_iadd dX12_row_62 ?_
            refine rz_icmp_ge (t := 80) dX12_row_63 rfl (by omega) (by omega) (fun c63 => ?_) (fun c63 => ?_)
            · exfalso; omega
            · refine rz_aload_n dX12_row_66 rfl ?_
              refine rz_getR dX12_row_67 kf_RX12_126 hd_81 rfl rr_81_57 ?_
              refine rz_iload dX12_row_70 rfl ?_
              refine rz_lconst (x := 0) dX12_row_72 rfl ?_
              refine rz_lastN (k := ((60 * v).toNat + q)) dX12_row_73 hd_120 (by decide) (by omega) (by omega) ?_
              refine rz_iinc dX12_row_74 (by decide) rfl rfl rfl ?_
              refine rz_goto (t := 54) dX12_row_77 rfl ?_
              exact rz_bk ihq ⟨Or.inr rfl, Or.inr rfl, Or.inr rfl, Or.inr rfl, Or.inr (congrArg (fun z => some (zi z)) (by omega)), trivial⟩ (rfl) (fillF_step)
          · skip
            refine rz_iload dX12_row_54 rfl ?_
            refine rz_bipush dX12_row_56 (by decide) ?_
            refine rz_iload_n dX12_row_58 rfl ?_
            refine rz_imul dX12_row_59 ?_
            refine rz_bipush dX12_row_60 (by decide) ?_
            refine rz_iadd dX12_row_62 ?_
            refine rz_icmp_ge (t := 80) dX12_row_63 rfl (by omega) (by omega) (fun c63 => ?_) (fun c63 => ?_)
            · refine rz_iconst dX12_row_80 ?_
              refine rz_iret dX12_row_81 rfl ?_
              exact ⟨_, rfl, by rw [rowZ, if_pos (by omega), if_neg (by omega)], (if_pos (by omega)).symm, (if_pos (by omega)).symm⟩
            · exfalso; omega
        · refine rz_bipush dX12_row_28 (by decide) ?_
          refine rz_iret dX12_row_30 rfl ?_
          exact ⟨_, rfl, by rw [rowZ, if_pos (by omega), if_pos c25], (if_neg (by omega)).symm, (if_neg (by omega)).symm⟩
      · refine rz_iconst dX12_row_22 ?_
        refine rz_iret dX12_row_23 rfl ?_
        exact ⟨_, rfl, (if_neg (by omega)).symm, (if_neg (by omega)).symm, (if_neg (by omega)).symm⟩
    · refine rz_if_eq (t := 22) dX12_row_13 rfl (by omega) (fun _ => ?_) (fun q => absurd q (by decide))
      refine rz_iconst dX12_row_22 ?_
      refine rz_iret dX12_row_23 rfl ?_
      exact ⟨_, rfl, (if_neg (by omega)).symm, (if_neg (by omega)).symm, (if_neg (by omega)).symm⟩
  · refine rz_if_eq (t := 22) dX12_row_4 rfl (by omega) (fun _ => ?_) (fun q => absurd q (by decide))
    refine rz_iconst dX12_row_22 ?_
    refine rz_iret dX12_row_23 rfl ?_
    exact ⟨_, rfl, (if_neg (by omega)).symm, (if_neg (by omega)).symm, (if_neg (by omega)).symm⟩
def shiZR (I : IM) (v i w j n : Int) : Int := if ¬ ((0 ≤ v ∧ v ≤ 5) ∧ 0 ≤ w ∧ w ≤ 5) then -1 else if I 118 v.toNat = -1 ∨ I 118 w.toNat = -1 then -11 else if 0 ≤ I 118 v.toNat ∨ I 118 v.toNat ≠ I 118 w.toNat then -12 else if 0 ≤ n ∧ 0 ≤ i ∧ 0 ≤ j ∧ i ≤ I 119 v.toNat - n ∧ j ≤ I 119 w.toNat - n then n else -13
abbrev shiOK (I : IM) (v i w j n : Int) : Prop := ((0 ≤ v ∧ v ≤ 5) ∧ 0 ≤ w ∧ w ≤ 5) ∧ (I 118 v.toNat < -1 ∧ I 118 v.toNat = I 118 w.toNat) ∧ 0 ≤ n ∧ 0 ≤ i ∧ 0 ≤ j ∧ i ≤ I 119 v.toNat - n ∧ j ≤ I 119 w.toNat - n
abbrev shiF (J : IM) (v i : Int) : Nat → Int := fun t => J 120 ((60 * v + i).toNat + t)
def shiJR (I J : IM) (v i w j n : Int) : IM := if shiOK I v i w j n then copF (copF J 121 0 n.toNat (shiF J v i)) 120 (60 * w + j).toNat n.toNat (shiF J v i) else J
theorem copF_in {J : IM} {a n k : Nat} {f : Nat → Int} (h : k < n) : copF J a 0 n f a k = f k := by
  unfold copF; rw [upA_self]; show (if 0 ≤ k ∧ k < 0 + n then _ else _) = _; rw [if_pos (by omega)]; rfl
set_option maxRecDepth 20000 in
set_option maxHeartbeats 400000 in
theorem c_X12_shift (X : pX) (h : Nat) (I J : IM) (v i w j n : Int) (hv : rg v) (hi : rg i) (hw : rg w) (hj : rg j) (hn : rg n) (hS : ShR I) : KI X (h + 2) mX12_shift [.ref 81, zi v, zi i, zi w, zi j, zi n] I J (shiZR I v i w j n) I (shiJR I J v i w j n) := by
  show Rz X (h + 2) mX12_shift 0 [some (.ref 81), some (zi v), some (zi i), some (zi w), some (zi j), some (zi n), none] [] I J _
  refine rz_iload_n dX12_shift_0 rfl ?_
  refine rz_cSIq dX12_shift_1 kl_RX12_176 (c_X12_isShelf X _ I J v (by omega)) rfl rfl (Nat.le_of_ble_eq_true rfl) (Nat.le_of_ble_eq_true rfl) ?_
  rintro z1 A1 B1 ⟨⟨rfl, b1⟩ | ⟨rfl, b1⟩, rfl, rfl⟩
  · refine rz_if_eq (t := 14) dX12_shift_4 rfl (by omega) (fun q => absurd q (by decide)) (fun _ => ?_)
    refine rz_iload_n dX12_shift_7 rfl ?_
    refine rz_cSIq dX12_shift_8 kl_RX12_176 (c_X12_isShelf X _ I J w (by omega)) rfl rfl (Nat.le_of_ble_eq_true rfl) (Nat.le_of_ble_eq_true rfl) ?_
    rintro z8 A8 B8 ⟨⟨rfl, b8⟩ | ⟨rfl, b8⟩, rfl, rfl⟩
    · refine rz_if_ne (t := 16) dX12_shift_11 rfl (by omega) (fun _ => ?_) (fun q => absurd q (by decide))
      have h7 := hS v.toNat (by omega)
      have h8 := hS w.toNat (by omega)
      refine rz_aload_n dX12_shift_16 rfl ?_
      refine rz_getR dX12_shift_17 kf_RX12_120 hd_81 rfl rr_81_55 ?_
      refine rz_iload_n dX12_shift_20 rfl ?_
      refine rz_iald (z := (I 118 (v).toNat)) dX12_shift_21 hd_118 (by decide) (by omega) rfl ?_
      refine rz_iconst dX12_shift_22 ?_
      refine rz_icmp_eq (t := 36) dX12_shift_23 rfl (by omega) (by omega) (fun c23 => ?_) (fun c23 => ?_)
      · refine rz_bipush dX12_shift_36 (by decide) ?_
        refine rz_iret dX12_shift_38 rfl ?_
        exact ⟨_, rfl, by unfold shiZR; (repeat' split) <;> first | rfl | omega, rfl, (if_neg (by omega)).symm⟩
      · refine rz_aload_n dX12_shift_26 rfl ?_
        refine rz_getR dX12_shift_27 kf_RX12_120 hd_81 rfl rr_81_55 ?_
        refine rz_iload_n dX12_shift_30 rfl ?_
        refine rz_iald (z := (I 118 (w).toNat)) dX12_shift_31 hd_118 (by decide) (by omega) rfl ?_
        refine rz_iconst dX12_shift_32 ?_
        refine rz_icmp_ne (t := 39) dX12_shift_33 rfl (by omega) (by omega) (fun c33 => ?_) (fun c33 => ?_)
        · refine rz_aload_n dX12_shift_39 rfl ?_
          refine rz_getR dX12_shift_40 kf_RX12_120 hd_81 rfl rr_81_55 ?_
          refine rz_iload_n dX12_shift_43 rfl ?_
          refine rz_iald (z := (I 118 (v).toNat)) dX12_shift_44 hd_118 (by decide) (by omega) rfl ?_
          refine rz_if_ge (t := 63) dX12_shift_45 rfl (by omega) (fun c45 => ?_) (fun c45 => ?_)
          · refine rz_bipush dX12_shift_63 (by decide) ?_
            refine rz_iret dX12_shift_65 rfl ?_
            exact ⟨_, rfl, by unfold shiZR; (repeat' split) <;> first | rfl | omega, rfl, (if_neg (by omega)).symm⟩
          · refine rz_aload_n dX12_shift_48 rfl ?_
            refine rz_getR dX12_shift_49 kf_RX12_120 hd_81 rfl rr_81_55 ?_
            refine rz_iload_n dX12_shift_52 rfl ?_
            refine rz_iald (z := (I 118 (v).toNat)) dX12_shift_53 hd_118 (by decide) (by omega) rfl ?_
            refine rz_aload_n dX12_shift_54 rfl ?_
            refine rz_getR dX12_shift_55 kf_RX12_120 hd_81 rfl rr_81_55 ?_
            refine rz_iload_n dX12_shift_58 rfl ?_
            refine rz_iald (z := (I 118 (w).toNat)) dX12_shift_59 hd_118 (by decide) (by omega) rfl ?_
            refine rz_icmp_eq (t := 66) dX12_shift_60 rfl (by omega) (by omega) (fun c60 => ?_) (fun c60 => ?_)
            · refine rz_iload dX12_shift_66 rfl ?_
              refine rz_if_lt (t := 107) dX12_shift_68 rfl (by omega) (fun c68 => ?_) (fun c68 => ?_)
              · refine rz_bipush dX12_shift_107 (by decide) ?_
                refine rz_iret dX12_shift_109 rfl ?_
                exact ⟨_, rfl, by unfold shiZR; (repeat' split) <;> first | rfl | omega, rfl, (if_neg (by omega)).symm⟩
              · refine rz_iload_n dX12_shift_71 rfl ?_
                refine rz_if_lt (t := 107) dX12_shift_72 rfl (by omega) (fun c72 => ?_) (fun c72 => ?_)
                · refine rz_bipush dX12_shift_107 (by decide) ?_
                  refine rz_iret dX12_shift_109 rfl ?_
                  exact ⟨_, rfl, by unfold shiZR; (repeat' split) <;> first | rfl | omega, rfl, (if_neg (by omega)).symm⟩
                · refine rz_iload dX12_shift_75 rfl ?_
                  refine rz_if_lt (t := 107) dX12_shift_77 rfl (by omega) (fun c77 => ?_) (fun c77 => ?_)
                  · refine rz_bipush dX12_shift_107 (by decide) ?_
                    refine rz_iret dX12_shift_109 rfl ?_
                    exact ⟨_, rfl, by unfold shiZR; (repeat' split) <;> first | rfl | omega, rfl, (if_neg (by omega)).symm⟩
                  · refine rz_iload_n dX12_shift_80 rfl ?_
                    refine rz_aload_n dX12_shift_81 rfl ?_
                    refine rz_getR dX12_shift_82 kf_RX12_123 hd_81 rfl rr_81_56 ?_
                    refine rz_iload_n dX12_shift_85 rfl ?_
                    refine rz_iald (z := (I 119 (v).toNat)) dX12_shift_86 hd_119 (by decide) (by omega) rfl ?_
                    refine rz_iload dX12_shift_87 rfl ?_
                    refine rz_isub dX12_shift_89 ?_
                    refine rz_icmp_gt (t := 107) dX12_shift_90 rfl (by omega) (by omega) (fun c90 => ?_) (fun c90 => ?_)
                    · refine rz_bipush dX12_shift_107 (by decide) ?_
                      refine rz_iret dX12_shift_109 rfl ?_
                      exact ⟨_, rfl, by unfold shiZR; (repeat' split) <;> first | rfl | omega, rfl, (if_neg (by omega)).symm⟩
                    · refine rz_iload dX12_shift_93 rfl ?_
                      refine rz_aload_n dX12_shift_95 rfl ?_
                      refine rz_getR dX12_shift_96 kf_RX12_123 hd_81 rfl rr_81_56 ?_
                      refine rz_iload_n dX12_shift_99 rfl ?_
                      refine rz_iald (z := (I 119 (w).toNat)) dX12_shift_100 hd_119 (by decide) (by omega) rfl ?_
                      refine rz_iload dX12_shift_101 rfl ?_
                      refine rz_isub dX12_shift_103 ?_
                      refine rz_icmp_le (t := 110) dX12_shift_104 rfl (by omega) (by omega) (fun c104 => ?_) (fun c104 => ?_)
                      · refine rz_iconst dX12_shift_110 ?_
                        refine rz_istore dX12_shift_111 (by decide) rfl ?_
                        refine rz_up (ls := fun q : Nat => [some (.ref 81), some (zi v), some (zi i), some (zi w), some (zi j), some (zi n), some (zi (q : Int))]) (IV := fun q : Nat => I) (JV := fun q : Nat => (copF J 121 0 q (shiF J v i))) (n.toNat) ⟨Or.inr rfl, Or.inr rfl, Or.inr rfl, Or.inr rfl, Or.inr rfl, Or.inr rfl, Or.inr rfl, trivial⟩ (rfl) (copF_0) ?_ ?_
                        · intro q hq ihq
                          refine rz_iload dX12_shift_113 rfl ?_
                          refine rz_iload dX12_shift_115 rfl ?_
                          refine rz_icmp_ge (t := 147) dX12_shift_117 rfl (by omega) (by omega) (fun c117 => ?_) (fun c117 => ?_)
                          · exfalso; omega
                          · refine rz_aload_n dX12_shift_120 rfl ?_
                            refine rz_getR dX12_shift_121 kf_RX12_130 hd_81 rfl rr_81_58 ?_
                            refine rz_iload dX12_shift_124 rfl ?_
                            refine rz_aload_n dX12_shift_126 rfl ?_
                            refine rz_getR dX12_shift_127 kf_RX12_126 hd_81 rfl rr_81_57 ?_
                            refine rz_bipush dX12_shift_130 (by decide) ?_
                            refine rz_iload_n dX12_shift_132 rfl ?_
                            refine rz_imul dX12_shift_133 ?_
                            refine rz_iload_n dX12_shift_134 rfl ?_
                            refine rz_iadd dX12_shift_135 ?_
                            refine rz_iload dX12_shift_136 rfl ?_
                            refine rz_iadd dX12_shift_138 ?_
                            refine rz_laldN (k := ((60 * v + i).toNat + q)) (z := (J 120 ((60 * v + i).toNat + q))) dX12_shift_139 hd_120 (by decide) (by omega) (by omega) rfl ?_
                            refine rz_lastN (k := q) dX12_shift_140 hd_121 (by decide) (by omega) (by omega) ?_
                            refine rz_iinc dX12_shift_141 (by decide) rfl rfl rfl ?_
                            refine rz_goto (t := 113) dX12_shift_144 rfl ?_
                            exact rz_bk ihq ⟨Or.inr rfl, Or.inr rfl, Or.inr rfl, Or.inr rfl, Or.inr rfl, Or.inr rfl, Or.inr rfl, trivial⟩ (rfl) ((by rw [copF_step rfl, Nat.zero_add]))
                        · skip
                          refine rz_iload dX12_shift_113 rfl ?_
                          refine rz_iload dX12_shift_115 rfl ?_
                          refine rz_icmp_ge (t := 147) dX12_shift_117 rfl (by omega) (by omega) (fun c117 => ?_) (fun c117 => ?_)
                          · refine rz_iconst dX12_shift_147 ?_
                            refine rz_istore dX12_shift_148 (by decide) rfl ?_
                            refine rz_up (ls := fun q : Nat => [some (.ref 81), some (zi v), some (zi i), some (zi w), some (zi j), some (zi n), some (zi (q : Int))]) (IV := fun q : Nat => I) (JV := fun q : Nat => (copF (copF J 121 0 n.toNat (shiF J v i)) 120 (60 * w + j).toNat q (shiF J v i))) (n.toNat) ⟨Or.inr rfl, Or.inr rfl, Or.inr rfl, Or.inr rfl, Or.inr rfl, Or.inr rfl, Or.inr rfl, trivial⟩ (rfl) (copF_0) ?_ ?_
                            · intro q hq ihq
                              refine rz_iload dX12_shift_150 rfl ?_
                              refine rz_iload dX12_shift_152 rfl ?_
                              refine rz_icmp_ge (t := 185) dX12_shift_154 rfl (by omega) (by omega) (fun c154 => ?_) (fun c154 => ?_)
                              · exfalso; omega
                              · refine rz_aload_n dX12_shift_157 rfl ?_
                                refine rz_getR dX12_shift_158 kf_RX12_126 hd_81 rfl rr_81_57 ?_
                                refine rz_bipush dX12_shift_161 (by decide) ?_
                                refine rz_iload_n dX12_shift_163 rfl ?_
                                refine rz_imul dX12_shift_164 ?_
                                refine rz_iload dX12_shift_165 rfl ?_
                                refine rz_iadd dX12_shift_167 ?_
                                refine rz_iload dX12_shift_168 rfl ?_
                                refine rz_iadd dX12_shift_170 ?_
                                refine rz_aload_n dX12_shift_171 rfl ?_
                                refine rz_getR dX12_shift_172 kf_RX12_130 hd_81 rfl rr_81_58 ?_
                                refine rz_iload dX12_shift_175 rfl ?_
                                refine rz_laldN (k := q) (z := ((copF J 121 0 (n.toNat) (shiF J v i)) 121 q)) dX12_shift_177 hd_121 (by decide) (by omega) (by omega) rfl ?_
                                refine rz_lastN (k := ((60 * w + j).toNat + q)) dX12_shift_178 hd_120 (by decide) (by omega) (by omega) ?_
                                refine rz_iinc dX12_shift_179 (by decide) rfl rfl rfl ?_
                                refine rz_goto (t := 150) dX12_shift_182 rfl ?_
                                exact rz_bk ihq ⟨Or.inr rfl, Or.inr rfl, Or.inr rfl, Or.inr rfl, Or.inr rfl, Or.inr rfl, Or.inr rfl, trivial⟩ (rfl) ((copF_step (copF_in hq).symm))
                            · skip
                              refine rz_iload dX12_shift_150 rfl ?_
                              refine rz_iload dX12_shift_152 rfl ?_
                              refine rz_icmp_ge (t := 185) dX12_shift_154 rfl (by omega) (by omega) (fun c154 => ?_) (fun c154 => ?_)
                              · refine rz_iload dX12_shift_185 rfl ?_
                                refine rz_iret dX12_shift_187 rfl ?_
                                exact ⟨_, rfl, by unfold shiZR; (repeat' split) <;> first | rfl | omega, rfl, (if_pos (by omega)).symm⟩
                              · exfalso; omega
                          · exfalso; omega
                      · refine rz_bipush dX12_shift_107 (by decide) ?_
                        refine rz_iret dX12_shift_109 rfl ?_
                        exact ⟨_, rfl, by unfold shiZR; (repeat' split) <;> first | rfl | omega, rfl, (if_neg (by omega)).symm⟩
            · refine rz_bipush dX12_shift_63 (by decide) ?_
              refine rz_iret dX12_shift_65 rfl ?_
              exact ⟨_, rfl, by unfold shiZR; (repeat' split) <;> first | rfl | omega, rfl, (if_neg (by omega)).symm⟩
        · refine rz_bipush dX12_shift_36 (by decide) ?_
          refine rz_iret dX12_shift_38 rfl ?_
          exact ⟨_, rfl, by unfold shiZR; (repeat' split) <;> first | rfl | omega, rfl, (if_neg (by omega)).symm⟩
    · refine rz_if_ne (t := 16) dX12_shift_11 rfl (by omega) (fun q => absurd q (by decide)) (fun _ => ?_)
      refine rz_iconst dX12_shift_14 ?_
      refine rz_iret dX12_shift_15 rfl ?_
      exact ⟨_, rfl, by unfold shiZR; (repeat' split) <;> first | rfl | omega, rfl, (if_neg (by omega)).symm⟩
  · refine rz_if_eq (t := 14) dX12_shift_4 rfl (by omega) (fun _ => ?_) (fun q => absurd q (by decide))
    refine rz_iconst dX12_shift_14 ?_
    refine rz_iret dX12_shift_15 rfl ?_
    exact ⟨_, rfl, by unfold shiZR; (repeat' split) <;> first | rfl | omega, rfl, (if_neg (by omega)).symm⟩
