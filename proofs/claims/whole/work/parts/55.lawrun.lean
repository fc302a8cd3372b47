/-! the class works out a law -/
theorem c_X4_popx {X : pX} {I J : IM} {h n : Nat} {F : Nat → Int} {x : Int} (hx : F n = x) (hn : n < 40) : KI X h mX4_pop [.ref 1] (encW I (n + 1) F) J x (encW I n F) J := by
  subst hx; exact c_X4_pop hn
set_option maxRecDepth 20000 in
set_option maxHeartbeats 400000 in
theorem W_push {X : pX} {I J : IM} {h i N : Nat} {a b w t v : Int} {F : Nat → Int} {P : Option Value → IM → IM → Prop} (hN : I 1 7 = N ∧ N ≤ 121) (hi : i < N) {c : Int} {st : List Int} (hc : I 4 i = c) (hv : (0 ≤ c ∧ c ≤ 9999) ∨ namC (-c)) (hn : st.length < 40) (hF : StK F st) (K : ∀ F2, StK F2 (stp (faV a b w t v) c st) → Rz X (h + 2) mX4_worked 11 [some (.ref 1), some (zi a), some (zi b), some (zi w), some (zi t), some (zi v), some (zi 0), some (zi ((i + 1 : Nat) : Int)), none, none] [] (encW I (stp (faV a b w t v) c st).length F2) J P) : Rz X (h + 2) mX4_worked 11 [some (.ref 1), some (zi a), some (zi b), some (zi w), some (zi t), some (zi v), some (zi 0), some (zi (i : Int)), none, none] [] (encW I st.length F) J P := by
  refine rz_iload dX4_worked_11 rfl ?_
  refine rz_aload_n dX4_worked_13 rfl ?_
  refine rz_getI (z := (N : Int)) dX4_worked_14 kf_RX4_26 hd_1 rfl (hN.1) ?_
  refine rz_icmp_ge (t := 202) dX4_worked_17 rfl (by omega) (by omega) (fun c17 => ?_) (fun c17 => ?_)
  · exfalso; omega
  · refine rz_aload_n dX4_worked_20 rfl ?_
    refine rz_getR dX4_worked_21 kf_RX4_16 hd_1 rfl rr_1_6 ?_
    refine rz_iload dX4_worked_24 rfl ?_
    refine rz_ialdN (k := i) (z := c) dX4_worked_26 hd_4 (by decide) (by omega) (by omega) hc ?_
    refine rz_istore dX4_worked_27 (by decide) rfl ?_
    refine rz_iload dX4_worked_29 rfl ?_
    refine rz_if_eq (t := 51) dX4_worked_31 rfl (by omega) (fun _ => ?_) (fun q => absurd q (by decide))
    refine rz_iload dX4_worked_51 rfl ?_
    refine rz_bipush dX4_worked_53 (by decide) ?_
    refine rz_icmp_ne (t := 63) dX4_worked_55 rfl (by omega) (by omega) (fun c55 => ?_) (fun c55 => ?_)
    · refine rz_iload dX4_worked_63 rfl ?_
      refine rz_bipush dX4_worked_65 (by decide) ?_
      refine rz_icmp_ne (t := 87) dX4_worked_67 rfl (by omega) (by omega) (fun c67 => ?_) (fun c67 => ?_)
      · refine rz_iload dX4_worked_87 rfl ?_
        refine rz_if_lt (t := 101) dX4_worked_89 rfl (by omega) (fun c89 => ?_) (fun c89 => ?_)
        · refine rz_iload dX4_worked_101 rfl ?_
          refine rz_ineg dX4_worked_103 ?_
          refine rz_cSIq dX4_worked_104 kl_RX4_86 (c_X4_isName X _ (encW I st.length F) J (-c) (by omega)) rfl rfl (Nat.le_of_ble_eq_true rfl) (Nat.le_of_ble_eq_true rfl) ?_
          rintro z104 A104 B104 ⟨⟨rfl, b104⟩ | ⟨rfl, b104⟩, rfl, rfl⟩
          · refine rz_if_eq (t := 130) dX4_worked_107 rfl (by omega) (fun q => absurd q (by decide)) (fun _ => ?_)
            refine rz_aload_n dX4_worked_110 rfl ?_
            refine rz_iload dX4_worked_111 rfl ?_
            refine rz_ineg dX4_worked_113 ?_
            refine rz_iload_n dX4_worked_114 rfl ?_
            refine rz_iload_n dX4_worked_115 rfl ?_
            refine rz_iload_n dX4_worked_116 rfl ?_
            refine rz_iload dX4_worked_117 rfl ?_
            refine rz_iload dX4_worked_119 rfl ?_
            refine rz_cSI dX4_worked_121 kl_RX4_102 (c_X4_named X _ (encW I st.length F) J (-c) a b w t v (by omega) (by assumption)) rfl rfl (Nat.le_of_ble_eq_true rfl) (Nat.le_of_ble_eq_true rfl) ?_
            refine rz_cVV dX4_worked_124 kl_RX4_99 hd_1 ⟨_, _, rfl⟩ (c_X4_push (n := st.length) (by omega)) rfl rfl (Nat.le_of_ble_eq_true rfl) (Nat.le_of_ble_eq_true rfl) ?_
            refine rz_goto (t := 196) dX4_worked_127 rfl ?_
            refine rz_iinc dX4_worked_196 (by decide) rfl rfl rfl ?_
            refine rz_goto (t := 11) dX4_worked_199 rfl ?_
            have K2 := K (up1 F st.length (faV a b w t v (-c))) (by rw [stp_f (by assumption)]; exact StK_push hF)
            rw [stp_f (by assumption)] at K2
            exact rz_bk K2 ⟨Or.inr rfl, Or.inr rfl, Or.inr rfl, Or.inr rfl, Or.inr rfl, Or.inr rfl, Or.inr rfl, Or.inr rfl, Or.inl rfl, Or.inl rfl, trivial⟩ rfl rfl
          · exfalso; omega
        · refine rz_aload_n dX4_worked_92 rfl ?_
          refine rz_iload dX4_worked_93 rfl ?_
          refine rz_cVV dX4_worked_95 kl_RX4_99 hd_1 ⟨_, _, rfl⟩ (c_X4_push (n := st.length) (by omega)) rfl rfl (Nat.le_of_ble_eq_true rfl) (Nat.le_of_ble_eq_true rfl) ?_
          refine rz_goto (t := 196) dX4_worked_98 rfl ?_
          refine rz_iinc dX4_worked_196 (by decide) rfl rfl rfl ?_
          refine rz_goto (t := 11) dX4_worked_199 rfl ?_
          have K2 := K (up1 F st.length c) (by rw [stp_n (by assumption)]; exact StK_push hF)
          rw [stp_n (by assumption)] at K2
          exact rz_bk K2 ⟨Or.inr rfl, Or.inr rfl, Or.inr rfl, Or.inr rfl, Or.inr rfl, Or.inr rfl, Or.inr rfl, Or.inr rfl, Or.inl rfl, Or.inl rfl, trivial⟩ rfl rfl
      · exfalso; omega
    · exfalso; omega
set_option maxRecDepth 20000 in
set_option maxHeartbeats 400000 in
theorem W_neg {X : pX} {I J : IM} {h i N : Nat} {a b w t v : Int} {F : Nat → Int} {P : Option Value → IM → IM → Prop} (hN : I 1 7 = N ∧ N ≤ 121) (hi : i < N) {x : Int} {r : List Int} (hc : I 4 i = -1) (hx : rg x) (hn : r.length < 40) (hF : StK F (x :: r)) (K : ∀ F2, StK F2 (stp (faV a b w t v) (-1) (x :: r)) → Rz X (h + 2) mX4_worked 11 [some (.ref 1), some (zi a), some (zi b), some (zi w), some (zi t), some (zi v), some (zi 0), some (zi ((i + 1 : Nat) : Int)), none, none] [] (encW I (stp (faV a b w t v) (-1) (x :: r)).length F2) J P) : Rz X (h + 2) mX4_worked 11 [some (.ref 1), some (zi a), some (zi b), some (zi w), some (zi t), some (zi v), some (zi 0), some (zi (i : Int)), none, none] [] (encW I (r.length + 1) F) J P := by
  refine rz_iload dX4_worked_11 rfl ?_
  refine rz_aload_n dX4_worked_13 rfl ?_
  refine rz_getI (z := (N : Int)) dX4_worked_14 kf_RX4_26 hd_1 rfl (hN.1) ?_
  refine rz_icmp_ge (t := 202) dX4_worked_17 rfl (by omega) (by omega) (fun c17 => ?_) (fun c17 => ?_)
  · exfalso; omega
  · refine rz_aload_n dX4_worked_20 rfl ?_
    refine rz_getR dX4_worked_21 kf_RX4_16 hd_1 rfl rr_1_6 ?_
    refine rz_iload dX4_worked_24 rfl ?_
    refine rz_ialdN (k := i) (z := (-1)) dX4_worked_26 hd_4 (by decide) (by omega) (by omega) hc ?_
    refine rz_istore dX4_worked_27 (by decide) rfl ?_
    refine rz_iload dX4_worked_29 rfl ?_
    refine rz_if_eq (t := 51) dX4_worked_31 rfl (by omega) (fun _ => ?_) (fun q => absurd q (by decide))
    refine rz_iload dX4_worked_51 rfl ?_
    refine rz_bipush dX4_worked_53 (by decide) ?_
    refine rz_icmp_ne (t := 63) dX4_worked_55 rfl (by omega) (by omega) (fun _ => ?_) (fun q => absurd q (by decide))
    refine rz_iload dX4_worked_63 rfl ?_
    refine rz_bipush dX4_worked_65 (by decide) ?_
    refine rz_icmp_ne (t := 87) dX4_worked_67 rfl (by omega) (by omega) (fun _ => ?_) (fun q => absurd q (by decide))
    refine rz_iload dX4_worked_87 rfl ?_
    refine rz_if_lt (t := 101) dX4_worked_89 rfl (by omega) (fun _ => ?_) (fun q => absurd q (by decide))
    refine rz_iload dX4_worked_101 rfl ?_
    refine rz_ineg dX4_worked_103 ?_
    refine rz_cSIq dX4_worked_104 kl_RX4_86 (c_X4_isName X _ (encW I (r.length + 1) F) J (-(-1)) (by omega)) rfl rfl (Nat.le_of_ble_eq_true rfl) (Nat.le_of_ble_eq_true rfl) ?_
    rintro z104 A104 B104 ⟨⟨rfl, b104⟩ | ⟨rfl, b104⟩, rfl, rfl⟩
    · exact absurd b104 (by decide)
    · refine rz_if_eq (t := 130) dX4_worked_107 rfl (by omega) (fun _ => ?_) (fun q => absurd q (by decide))
      refine rz_iload dX4_worked_130 rfl ?_
      refine rz_iconst dX4_worked_132 ?_
      refine rz_icmp_ne (t := 148) dX4_worked_133 rfl (by omega) (by omega) (fun q => absurd q (by decide)) (fun _ => ?_)
      refine rz_aload_n dX4_worked_136 rfl ?_
      refine rz_aload_n dX4_worked_137 rfl ?_
      refine rz_cVI dX4_worked_138 kl_RX4_96 hd_1 ⟨_, _, rfl⟩ (c_X4_popx (n := r.length) hF.1 (by omega)) rfl rfl (Nat.le_of_ble_eq_true rfl) (Nat.le_of_ble_eq_true rfl) ?_
      refine rz_ineg dX4_worked_141 ?_
      refine rz_wr ?_
      refine rz_cVV dX4_worked_142 kl_RX4_99 hd_1 ⟨_, _, rfl⟩ (c_X4_push (n := r.length) (by omega)) rfl rfl (Nat.le_of_ble_eq_true rfl) (Nat.le_of_ble_eq_true rfl) ?_
      refine rz_goto (t := 196) dX4_worked_145 rfl ?_
      refine rz_iinc dX4_worked_196 (by decide) rfl rfl rfl ?_
      refine rz_goto (t := 11) dX4_worked_199 rfl ?_
      have K2 := K (up1 F r.length (wr (-x))) (StK_push hF.2)
      exact rz_bk K2 ⟨Or.inr rfl, Or.inr rfl, Or.inr rfl, Or.inr rfl, Or.inr rfl, Or.inr rfl, Or.inr rfl, Or.inr rfl, Or.inl rfl, Or.inl rfl, trivial⟩ rfl rfl
set_option maxRecDepth 20000 in
set_option maxHeartbeats 400000 in
theorem W_not {X : pX} {I J : IM} {h i N : Nat} {a b w t v : Int} {F : Nat → Int} {P : Option Value → IM → IM → Prop} (hN : I 1 7 = N ∧ N ≤ 121) (hi : i < N) {x : Int} {r : List Int} (hc : I 4 i = -33) (hx : rg x) (hn : r.length < 40) (hF : StK F (x :: r)) (K : ∀ F2, StK F2 (stp (faV a b w t v) (-33) (x :: r)) → Rz X (h + 2) mX4_worked 11 [some (.ref 1), some (zi a), some (zi b), some (zi w), some (zi t), some (zi v), some (zi 0), some (zi ((i + 1 : Nat) : Int)), none, none] [] (encW I (stp (faV a b w t v) (-33) (x :: r)).length F2) J P) : Rz X (h + 2) mX4_worked 11 [some (.ref 1), some (zi a), some (zi b), some (zi w), some (zi t), some (zi v), some (zi 0), some (zi (i : Int)), none, none] [] (encW I (r.length + 1) F) J P := by
  refine rz_iload dX4_worked_11 rfl ?_
  refine rz_aload_n dX4_worked_13 rfl ?_
  refine rz_getI (z := (N : Int)) dX4_worked_14 kf_RX4_26 hd_1 rfl (hN.1) ?_
  refine rz_icmp_ge (t := 202) dX4_worked_17 rfl (by omega) (by omega) (fun c17 => ?_) (fun c17 => ?_)
  · exfalso; omega
  · refine rz_aload_n dX4_worked_20 rfl ?_
    refine rz_getR dX4_worked_21 kf_RX4_16 hd_1 rfl rr_1_6 ?_
    refine rz_iload dX4_worked_24 rfl ?_
    refine rz_ialdN (k := i) (z := (-33)) dX4_worked_26 hd_4 (by decide) (by omega) (by omega) hc ?_
    refine rz_istore dX4_worked_27 (by decide) rfl ?_
    refine rz_iload dX4_worked_29 rfl ?_
    refine rz_if_eq (t := 51) dX4_worked_31 rfl (by omega) (fun _ => ?_) (fun q => absurd q (by decide))
    refine rz_iload dX4_worked_51 rfl ?_
    refine rz_bipush dX4_worked_53 (by decide) ?_
    refine rz_icmp_ne (t := 63) dX4_worked_55 rfl (by omega) (by omega) (fun _ => ?_) (fun q => absurd q (by decide))
    refine rz_iload dX4_worked_63 rfl ?_
    refine rz_bipush dX4_worked_65 (by decide) ?_
    refine rz_icmp_ne (t := 87) dX4_worked_67 rfl (by omega) (by omega) (fun _ => ?_) (fun q => absurd q (by decide))
    refine rz_iload dX4_worked_87 rfl ?_
    refine rz_if_lt (t := 101) dX4_worked_89 rfl (by omega) (fun _ => ?_) (fun q => absurd q (by decide))
    refine rz_iload dX4_worked_101 rfl ?_
    refine rz_ineg dX4_worked_103 ?_
    refine rz_cSIq dX4_worked_104 kl_RX4_86 (c_X4_isName X _ (encW I (r.length + 1) F) J (-(-33)) (by omega)) rfl rfl (Nat.le_of_ble_eq_true rfl) (Nat.le_of_ble_eq_true rfl) ?_
    rintro z104 A104 B104 ⟨⟨rfl, b104⟩ | ⟨rfl, b104⟩, rfl, rfl⟩
    · exact absurd b104 (by decide)
    · refine rz_if_eq (t := 130) dX4_worked_107 rfl (by omega) (fun _ => ?_) (fun q => absurd q (by decide))
      refine rz_iload dX4_worked_130 rfl ?_
      refine rz_iconst dX4_worked_132 ?_
      refine rz_icmp_ne (t := 148) dX4_worked_133 rfl (by omega) (by omega) (fun _ => ?_) (fun q => absurd q (by decide))
      refine rz_iload dX4_worked_148 rfl ?_
      refine rz_bipush dX4_worked_150 (by decide) ?_
      refine rz_icmp_ne (t := 174) dX4_worked_152 rfl (by omega) (by omega) (fun q => absurd q (by decide)) (fun _ => ?_)
      refine rz_aload_n dX4_worked_155 rfl ?_
      refine rz_aload_n dX4_worked_156 rfl ?_
      refine rz_cVI dX4_worked_157 kl_RX4_96 hd_1 ⟨_, _, rfl⟩ (c_X4_popx (n := r.length) hF.1 (by omega)) rfl rfl (Nat.le_of_ble_eq_true rfl) (Nat.le_of_ble_eq_true rfl) ?_
      refine rz_if_ne (t := 167) dX4_worked_160 rfl (by omega) (fun c160 => ?_) (fun c160 => ?_)
      · refine rz_iconst dX4_worked_167 ?_
        refine rz_cVV dX4_worked_168 kl_RX4_99 hd_1 ⟨_, _, rfl⟩ (c_X4_push (n := r.length) (by omega)) rfl rfl (Nat.le_of_ble_eq_true rfl) (Nat.le_of_ble_eq_true rfl) ?_
        refine rz_goto (t := 196) dX4_worked_171 rfl ?_
        refine rz_iinc dX4_worked_196 (by decide) rfl rfl rfl ?_
        refine rz_goto (t := 11) dX4_worked_199 rfl ?_
        have K2 := K (up1 F r.length 0) (by rw [stp_33]; first | (rw [if_pos (by assumption)]; exact StK_push hF.2) | (rw [if_neg (by assumption)]; exact StK_push hF.2))
        exact rz_bk K2 ⟨Or.inr rfl, Or.inr rfl, Or.inr rfl, Or.inr rfl, Or.inr rfl, Or.inr rfl, Or.inr rfl, Or.inr rfl, Or.inl rfl, Or.inl rfl, trivial⟩ rfl rfl
      · refine rz_iconst dX4_worked_163 ?_
        refine rz_goto (t := 168) dX4_worked_164 rfl ?_
        refine rz_cVV dX4_worked_168 kl_RX4_99 hd_1 ⟨_, _, rfl⟩ (c_X4_push (n := r.length) (by omega)) rfl rfl (Nat.le_of_ble_eq_true rfl) (Nat.le_of_ble_eq_true rfl) ?_
        refine rz_goto (t := 196) dX4_worked_171 rfl ?_
        refine rz_iinc dX4_worked_196 (by decide) rfl rfl rfl ?_
        refine rz_goto (t := 11) dX4_worked_199 rfl ?_
        have K2 := K (up1 F r.length 1) (by rw [stp_33]; first | (rw [if_pos (by assumption)]; exact StK_push hF.2) | (rw [if_neg (by assumption)]; exact StK_push hF.2))
        exact rz_bk K2 ⟨Or.inr rfl, Or.inr rfl, Or.inr rfl, Or.inr rfl, Or.inr rfl, Or.inr rfl, Or.inr rfl, Or.inr rfl, Or.inl rfl, Or.inl rfl, trivial⟩ rfl rfl
set_option maxRecDepth 20000 in
set_option maxHeartbeats 400000 in
theorem W_bin {X : pX} {I J : IM} {h i N : Nat} {a b w t v : Int} {F : Nat → Int} {P : Option Value → IM → IM → Prop} (hN : I 1 7 = N ∧ N ≤ 121) (hi : i < N) {c x y : Int} {r : List Int} (hc : I 4 i = c) (hv : binC (-c)) (hx : rg x) (hy : rg y) (hn : r.length + 1 < 40) (hF : StK F (y :: x :: r)) (K : ∀ F2, StK F2 (stp (faV a b w t v) c (y :: x :: r)) → Rz X (h + 2) mX4_worked 11 [some (.ref 1), some (zi a), some (zi b), some (zi w), some (zi t), some (zi v), some (zi 0), some (zi ((i + 1 : Nat) : Int)), none, none] [] (encW I (stp (faV a b w t v) c (y :: x :: r)).length F2) J P) : Rz X (h + 2) mX4_worked 11 [some (.ref 1), some (zi a), some (zi b), some (zi w), some (zi t), some (zi v), some (zi 0), some (zi (i : Int)), none, none] [] (encW I ((r.length + 1) + 1) F) J P := by
  refine rz_iload dX4_worked_11 rfl ?_
  refine rz_aload_n dX4_worked_13 rfl ?_
  refine rz_getI (z := (N : Int)) dX4_worked_14 kf_RX4_26 hd_1 rfl (hN.1) ?_
  refine rz_icmp_ge (t := 202) dX4_worked_17 rfl (by omega) (by omega) (fun c17 => ?_) (fun c17 => ?_)
  · exfalso; omega
  · refine rz_aload_n dX4_worked_20 rfl ?_
    refine rz_getR dX4_worked_21 kf_RX4_16 hd_1 rfl rr_1_6 ?_
    refine rz_iload dX4_worked_24 rfl ?_
    refine rz_ialdN (k := i) (z := c) dX4_worked_26 hd_4 (by decide) (by omega) (by omega) hc ?_
    refine rz_istore dX4_worked_27 (by decide) rfl ?_
    refine rz_iload dX4_worked_29 rfl ?_
    refine rz_if_eq (t := 51) dX4_worked_31 rfl (by omega) (fun _ => ?_) (fun q => absurd q (by decide))
    refine rz_iload dX4_worked_51 rfl ?_
    refine rz_bipush dX4_worked_53 (by decide) ?_
    refine rz_icmp_ne (t := 63) dX4_worked_55 rfl (by omega) (by omega) (fun c55 => ?_) (fun c55 => ?_)
    · refine rz_iload dX4_worked_63 rfl ?_
      refine rz_bipush dX4_worked_65 (by decide) ?_
      refine rz_icmp_ne (t := 87) dX4_worked_67 rfl (by omega) (by omega) (fun c67 => ?_) (fun c67 => ?_)
      · refine rz_iload dX4_worked_87 rfl ?_
        refine rz_if_lt (t := 101) dX4_worked_89 rfl (by omega) (fun c89 => ?_) (fun c89 => ?_)
        · refine rz_iload dX4_worked_101 rfl ?_
          refine rz_ineg dX4_worked_103 ?_
          refine rz_cSIq dX4_worked_104 kl_RX4_86 (c_X4_isName X _ (encW I ((r.length + 1) + 1) F) J (-c) (by omega)) rfl rfl (Nat.le_of_ble_eq_true rfl) (Nat.le_of_ble_eq_true rfl) ?_
          rintro z104 A104 B104 ⟨⟨rfl, b104⟩ | ⟨rfl, b104⟩, rfl, rfl⟩
          · exfalso; omega
          · refine rz_if_eq (t := 130) dX4_worked_107 rfl (by omega) (fun _ => ?_) (fun q => absurd q (by decide))
            refine rz_iload dX4_worked_130 rfl ?_
            refine rz_iconst dX4_worked_132 ?_
            refine rz_icmp_ne (t := 148) dX4_worked_133 rfl (by omega) (by omega) (fun c133 => ?_) (fun c133 => ?_)
            · refine rz_iload dX4_worked_148 rfl ?_
              refine rz_bipush dX4_worked_150 (by decide) ?_
              refine rz_icmp_ne (t := 174) dX4_worked_152 rfl (by omega) (by omega) (fun c152 => ?_) (fun c152 => ?_)
              · refine rz_aload_n dX4_worked_174 rfl ?_
                refine rz_cVI dX4_worked_175 kl_RX4_96 hd_1 ⟨_, _, rfl⟩ (c_X4_popx (n := (r.length + 1)) hF.1 (by omega)) rfl rfl (Nat.le_of_ble_eq_true rfl) (Nat.le_of_ble_eq_true rfl) ?_
                refine rz_istore dX4_worked_178 (by decide) rfl ?_
                refine rz_aload_n dX4_worked_180 rfl ?_
                refine rz_iload dX4_worked_181 rfl ?_
                refine rz_ineg dX4_worked_183 ?_
                refine rz_aload_n dX4_worked_184 rfl ?_
                refine rz_cVI dX4_worked_185 kl_RX4_96 hd_1 ⟨_, _, rfl⟩ (c_X4_popx (n := r.length) hF.2.1 (by omega)) rfl rfl (Nat.le_of_ble_eq_true rfl) (Nat.le_of_ble_eq_true rfl) ?_
                refine rz_iload dX4_worked_188 rfl ?_
                refine rz_cSI dX4_worked_190 kl_RX4_106 (c_X4_joined X _ (encW I r.length F) J (-c) x y (by assumption) (by assumption) (by assumption)) rfl rfl (Nat.le_of_ble_eq_true rfl) (Nat.le_of_ble_eq_true rfl) ?_
                refine rz_cVV dX4_worked_193 kl_RX4_99 hd_1 ⟨_, _, rfl⟩ (c_X4_push (n := r.length) (by omega)) rfl rfl (Nat.le_of_ble_eq_true rfl) (Nat.le_of_ble_eq_true rfl) ?_
                refine rz_iinc (ls' := [some (.ref 1), some (zi a), some (zi b), some (zi w), some (zi t), some (zi v), some (zi 0), some (zi ((i : Int) + 1)), some (zi c), some (zi y)]) dX4_worked_196 (by decide) rfl rfl rfl ?_
                refine rz_goto (t := 11) dX4_worked_199 rfl ?_
                have K2 := K (up1 F r.length (bop (-c) x y)) (by rw [stp_b hv]; exact StK_push hF.2.2)
                rw [stp_b hv] at K2
                exact rz_bk K2 ⟨Or.inr rfl, Or.inr rfl, Or.inr rfl, Or.inr rfl, Or.inr rfl, Or.inr rfl, Or.inr rfl, Or.inr rfl, Or.inl rfl, Or.inl rfl, trivial⟩ rfl rfl
              · exfalso; omega
            · exfalso; omega
        · exfalso; omega
      · exfalso; omega
    · exfalso; omega
set_option maxRecDepth 20000 in
set_option maxHeartbeats 400000 in
theorem W_skip {X : pX} {I J : IM} {h i N : Nat} {a b w t v : Int} {F : Nat → Int} {P : Option Value → IM → IM → Prop} (hN : I 1 7 = N ∧ N ≤ 121) (hi : i < N) {c : Int} (hc : I 4 i = c) (hr : rg c) (hv : c ≠ -59) (K : Rz X (h + 2) mX4_worked 11 [some (.ref 1), some (zi a), some (zi b), some (zi w), some (zi t), some (zi v), some (zi 1), some (zi ((i + 1 : Nat) : Int)), none, none] [] (encW I 0 F) J P) : Rz X (h + 2) mX4_worked 11 [some (.ref 1), some (zi a), some (zi b), some (zi w), some (zi t), some (zi v), some (zi 1), some (zi (i : Int)), none, none] [] (encW I 0 F) J P := by
  refine rz_iload dX4_worked_11 rfl ?_
  refine rz_aload_n dX4_worked_13 rfl ?_
  refine rz_getI (z := (N : Int)) dX4_worked_14 kf_RX4_26 hd_1 rfl (hN.1) ?_
  refine rz_icmp_ge (t := 202) dX4_worked_17 rfl (by omega) (by omega) (fun c17 => ?_) (fun c17 => ?_)
  · exfalso; omega
  · refine rz_aload_n dX4_worked_20 rfl ?_
    refine rz_getR dX4_worked_21 kf_RX4_16 hd_1 rfl rr_1_6 ?_
    refine rz_iload dX4_worked_24 rfl ?_
    refine rz_ialdN (k := i) (z := c) dX4_worked_26 hd_4 (by decide) (by omega) (by omega) hc ?_
    refine rz_istore dX4_worked_27 (by decide) rfl ?_
    refine rz_iload dX4_worked_29 rfl ?_
    refine rz_if_eq (t := 51) dX4_worked_31 rfl (by omega) (fun q => absurd q (by decide)) (fun _ => ?_)
    refine rz_iload dX4_worked_34 rfl ?_
    refine rz_bipush dX4_worked_36 (by decide) ?_
    refine rz_icmp_eq (t := 45) dX4_worked_38 rfl (by omega) (by omega) (fun c38 => ?_) (fun c38 => ?_)
    · refine rz_iconst dX4_worked_45 ?_
      refine rz_istore dX4_worked_46 (by decide) rfl ?_
      refine rz_goto (t := 196) dX4_worked_48 rfl ?_
      refine rz_iinc (ls' := [some (.ref 1), some (zi a), some (zi b), some (zi w), some (zi t), some (zi v), some (zi 0), some (zi ((i : Int) + 1)), some (zi c), none]) dX4_worked_196 (by decide) rfl rfl rfl ?_
      refine rz_goto (t := 11) dX4_worked_199 rfl ?_
      exact absurd (by assumption) hv
    · refine rz_iconst dX4_worked_41 ?_
      refine rz_goto (t := 46) dX4_worked_42 rfl ?_
      refine rz_istore dX4_worked_46 (by decide) rfl ?_
      refine rz_goto (t := 196) dX4_worked_48 rfl ?_
      refine rz_iinc (ls' := [some (.ref 1), some (zi a), some (zi b), some (zi w), some (zi t), some (zi v), some (zi 1), some (zi ((i : Int) + 1)), some (zi c), none]) dX4_worked_196 (by decide) rfl rfl rfl ?_
      refine rz_goto (t := 11) dX4_worked_199 rfl ?_
      exact rz_bk K ⟨Or.inr rfl, Or.inr rfl, Or.inr rfl, Or.inr rfl, Or.inr rfl, Or.inr rfl, Or.inr rfl, Or.inr rfl, Or.inl rfl, Or.inl rfl, trivial⟩ rfl rfl
set_option maxRecDepth 20000 in
set_option maxHeartbeats 400000 in
theorem W_skE {X : pX} {I J : IM} {h i N : Nat} {a b w t v : Int} {F : Nat → Int} {P : Option Value → IM → IM → Prop} (hN : I 1 7 = N ∧ N ≤ 121) (hi : i < N) (hc : I 4 i = -59) (K : Rz X (h + 2) mX4_worked 11 [some (.ref 1), some (zi a), some (zi b), some (zi w), some (zi t), some (zi v), some (zi 0), some (zi ((i + 1 : Nat) : Int)), none, none] [] (encW I 0 F) J P) : Rz X (h + 2) mX4_worked 11 [some (.ref 1), some (zi a), some (zi b), some (zi w), some (zi t), some (zi v), some (zi 1), some (zi (i : Int)), none, none] [] (encW I 0 F) J P := by
  refine rz_iload dX4_worked_11 rfl ?_
  refine rz_aload_n dX4_worked_13 rfl ?_
  refine rz_getI (z := (N : Int)) dX4_worked_14 kf_RX4_26 hd_1 rfl (hN.1) ?_
  refine rz_icmp_ge (t := 202) dX4_worked_17 rfl (by omega) (by omega) (fun c17 => ?_) (fun c17 => ?_)
  · exfalso; omega
  · refine rz_aload_n dX4_worked_20 rfl ?_
    refine rz_getR dX4_worked_21 kf_RX4_16 hd_1 rfl rr_1_6 ?_
    refine rz_iload dX4_worked_24 rfl ?_
    refine rz_ialdN (k := i) (z := (-59)) dX4_worked_26 hd_4 (by decide) (by omega) (by omega) hc ?_
    refine rz_istore dX4_worked_27 (by decide) rfl ?_
    refine rz_iload dX4_worked_29 rfl ?_
    refine rz_if_eq (t := 51) dX4_worked_31 rfl (by omega) (fun q => absurd q (by decide)) (fun _ => ?_)
    refine rz_iload dX4_worked_34 rfl ?_
    refine rz_bipush dX4_worked_36 (by decide) ?_
    refine rz_icmp_eq (t := 45) dX4_worked_38 rfl (by omega) (by omega) (fun _ => ?_) (fun q => absurd q (by decide))
    refine rz_iconst dX4_worked_45 ?_
    refine rz_istore dX4_worked_46 (by decide) rfl ?_
    refine rz_goto (t := 196) dX4_worked_48 rfl ?_
    refine rz_iinc (ls' := [some (.ref 1), some (zi a), some (zi b), some (zi w), some (zi t), some (zi v), some (zi 0), some (zi ((i : Int) + 1)), some (zi (-59)), none]) dX4_worked_196 (by decide) rfl rfl rfl ?_
    refine rz_goto (t := 11) dX4_worked_199 rfl ?_
    exact rz_bk K ⟨Or.inr rfl, Or.inr rfl, Or.inr rfl, Or.inr rfl, Or.inr rfl, Or.inr rfl, Or.inr rfl, Or.inr rfl, Or.inl rfl, Or.inl rfl, trivial⟩ rfl rfl
set_option maxRecDepth 20000 in
set_option maxHeartbeats 400000 in
theorem W_if {X : pX} {I J : IM} {h i N : Nat} {a b w t v : Int} {F : Nat → Int} {P : Option Value → IM → IM → Prop} (hN : I 1 7 = N ∧ N ≤ 121) (hi : i < N) {x : Int} (hc : I 4 i = -63) (hx : rg x) (hF : StK F [x]) (K0 : x = 0 → Rz X (h + 2) mX4_worked 11 [some (.ref 1), some (zi a), some (zi b), some (zi w), some (zi t), some (zi v), some (zi 1), some (zi ((i + 1 : Nat) : Int)), none, none] [] (encW I 0 F) J P) (K1 : x ≠ 0 → Rz X (h + 2) mX4_worked 11 [some (.ref 1), some (zi a), some (zi b), some (zi w), some (zi t), some (zi v), some (zi 0), some (zi ((i + 1 : Nat) : Int)), none, none] [] (encW I 0 F) J P) : Rz X (h + 2) mX4_worked 11 [some (.ref 1), some (zi a), some (zi b), some (zi w), some (zi t), some (zi v), some (zi 0), some (zi (i : Int)), none, none] [] (encW I (0 + 1) F) J P := by
  refine rz_iload dX4_worked_11 rfl ?_
  refine rz_aload_n dX4_worked_13 rfl ?_
  refine rz_getI (z := (N : Int)) dX4_worked_14 kf_RX4_26 hd_1 rfl (hN.1) ?_
  refine rz_icmp_ge (t := 202) dX4_worked_17 rfl (by omega) (by omega) (fun c17 => ?_) (fun c17 => ?_)
  · exfalso; omega
  · refine rz_aload_n dX4_worked_20 rfl ?_
    refine rz_getR dX4_worked_21 kf_RX4_16 hd_1 rfl rr_1_6 ?_
    refine rz_iload dX4_worked_24 rfl ?_
    refine rz_ialdN (k := i) (z := (-63)) dX4_worked_26 hd_4 (by decide) (by omega) (by omega) hc ?_
    refine rz_istore dX4_worked_27 (by decide) rfl ?_
    refine rz_iload dX4_worked_29 rfl ?_
    refine rz_if_eq (t := 51) dX4_worked_31 rfl (by omega) (fun _ => ?_) (fun q => absurd q (by decide))
    refine rz_iload dX4_worked_51 rfl ?_
    refine rz_bipush dX4_worked_53 (by decide) ?_
    refine rz_icmp_ne (t := 63) dX4_worked_55 rfl (by omega) (by omega) (fun _ => ?_) (fun q => absurd q (by decide))
    refine rz_iload dX4_worked_63 rfl ?_
    refine rz_bipush dX4_worked_65 (by decide) ?_
    refine rz_icmp_ne (t := 87) dX4_worked_67 rfl (by omega) (by omega) (fun q => absurd q (by decide)) (fun _ => ?_)
    refine rz_aload_n dX4_worked_70 rfl ?_
    refine rz_cVI dX4_worked_71 kl_RX4_96 hd_1 ⟨_, _, rfl⟩ (c_X4_popx (n := 0) hF.1 (by omega)) rfl rfl (Nat.le_of_ble_eq_true rfl) (Nat.le_of_ble_eq_true rfl) ?_
    refine rz_if_ne (t := 81) dX4_worked_74 rfl (by omega) (fun c74 => ?_) (fun c74 => ?_)
    · refine rz_iconst dX4_worked_81 ?_
      refine rz_istore dX4_worked_82 (by decide) rfl ?_
      refine rz_goto (t := 196) dX4_worked_84 rfl ?_
      refine rz_iinc (ls' := [some (.ref 1), some (zi a), some (zi b), some (zi w), some (zi t), some (zi v), some (zi 0), some (zi ((i : Int) + 1)), some (zi (-63)), none]) dX4_worked_196 (by decide) rfl rfl rfl ?_
      refine rz_goto (t := 11) dX4_worked_199 rfl ?_
      exact rz_bk (K1 (by assumption)) ⟨Or.inr rfl, Or.inr rfl, Or.inr rfl, Or.inr rfl, Or.inr rfl, Or.inr rfl, Or.inr rfl, Or.inr rfl, Or.inl rfl, Or.inl rfl, trivial⟩ rfl rfl
    · refine rz_iconst dX4_worked_77 ?_
      refine rz_goto (t := 82) dX4_worked_78 rfl ?_
      refine rz_istore dX4_worked_82 (by decide) rfl ?_
      refine rz_goto (t := 196) dX4_worked_84 rfl ?_
      refine rz_iinc (ls' := [some (.ref 1), some (zi a), some (zi b), some (zi w), some (zi t), some (zi v), some (zi 1), some (zi ((i : Int) + 1)), some (zi (-63)), none]) dX4_worked_196 (by decide) rfl rfl rfl ?_
      refine rz_goto (t := 11) dX4_worked_199 rfl ?_
      exact rz_bk (K0 (by assumption)) ⟨Or.inr rfl, Or.inr rfl, Or.inr rfl, Or.inr rfl, Or.inr rfl, Or.inr rfl, Or.inr rfl, Or.inr rfl, Or.inl rfl, Or.inl rfl, trivial⟩ rfl rfl
set_option maxRecDepth 20000 in
set_option maxHeartbeats 400000 in
theorem W_end {X : pX} {I J : IM} {h i N : Nat} {a b w t v : Int} {F : Nat → Int} {P : Option Value → IM → IM → Prop} (hN : I 1 7 = N ∧ N ≤ 121) (hi : i < N) {x : Int} (hc : I 4 i = -59) (hx : rg x) (hF : StK F [x]) (K : P (some (zi x)) (encW I 0 F) J) : Rz X (h + 2) mX4_worked 11 [some (.ref 1), some (zi a), some (zi b), some (zi w), some (zi t), some (zi v), some (zi 0), some (zi (i : Int)), none, none] [] (encW I (0 + 1) F) J P := by
  refine rz_iload dX4_worked_11 rfl ?_
  refine rz_aload_n dX4_worked_13 rfl ?_
  refine rz_getI (z := (N : Int)) dX4_worked_14 kf_RX4_26 hd_1 rfl (hN.1) ?_
  refine rz_icmp_ge (t := 202) dX4_worked_17 rfl (by omega) (by omega) (fun c17 => ?_) (fun c17 => ?_)
  · exfalso; omega
  · refine rz_aload_n dX4_worked_20 rfl ?_
    refine rz_getR dX4_worked_21 kf_RX4_16 hd_1 rfl rr_1_6 ?_
    refine rz_iload dX4_worked_24 rfl ?_
    refine rz_ialdN (k := i) (z := (-59)) dX4_worked_26 hd_4 (by decide) (by omega) (by omega) hc ?_
    refine rz_istore dX4_worked_27 (by decide) rfl ?_
    refine rz_iload dX4_worked_29 rfl ?_
    refine rz_if_eq (t := 51) dX4_worked_31 rfl (by omega) (fun _ => ?_) (fun q => absurd q (by decide))
    refine rz_iload dX4_worked_51 rfl ?_
    refine rz_bipush dX4_worked_53 (by decide) ?_
    refine rz_icmp_ne (t := 63) dX4_worked_55 rfl (by omega) (by omega) (fun q => absurd q (by decide)) (fun _ => ?_)
    refine rz_aload_n dX4_worked_58 rfl ?_
    refine rz_cVI dX4_worked_59 kl_RX4_96 hd_1 ⟨_, _, rfl⟩ (c_X4_popx (n := 0) hF.1 (by omega)) rfl rfl (Nat.le_of_ble_eq_true rfl) (Nat.le_of_ble_eq_true rfl) ?_
    refine rz_iret dX4_worked_62 rfl ?_
    exact K
set_option maxRecDepth 20000 in
set_option maxHeartbeats 400000 in
theorem W_fin {X : pX} {I J : IM} {h N : Nat} {a b w t v : Int} {F : Nat → Int} {P : Option Value → IM → IM → Prop} (hN : I 1 7 = N ∧ N ≤ 121) (K : P (some (zi 0)) (encW I 0 F) J) : Rz X (h + 2) mX4_worked 11 [some (.ref 1), some (zi a), some (zi b), some (zi w), some (zi t), some (zi v), some (zi 0), some (zi (N : Int)), none, none] [] (encW I 0 F) J P := by
  refine rz_iload dX4_worked_11 rfl ?_
  refine rz_aload_n dX4_worked_13 rfl ?_
  refine rz_getI (z := (N : Int)) dX4_worked_14 kf_RX4_26 hd_1 rfl (hN.1) ?_
  refine rz_icmp_ge (t := 202) dX4_worked_17 rfl (by omega) (by omega) (fun c17 => ?_) (fun c17 => ?_)
  · refine rz_iconst dX4_worked_202 ?_
    refine rz_iret dX4_worked_203 rfl ?_
    exact K
  · exfalso; omega
def At (M : Nat → Int) (i : Nat) (l : List Int) : Prop := ∀ k, k < l.length → M (i + k) = l.getD k 0
theorem At_app {M : Nat → Int} {i : Nat} {l1 l2 : List Int} (h : At M i (l1 ++ l2)) : At M i l1 ∧ At M (i + l1.length) l2 := by
  refine ⟨fun k hk => ?_, fun k hk => ?_⟩
  · rw [h k (by rw [List.length_append]; omega)]
    simp [List.getElem?_append_left hk]
  · rw [Nat.add_assoc, h (l1.length + k) (by rw [List.length_append]; omega)]
    simp [List.getElem?_append_right (Nat.le_add_right l1.length k)]
theorem At_one {M : Nat → Int} {i : Nat} {c : Int} {l : List Int} (h : At M i (c :: l)) : M i = c ∧ At M (i + 1) l := by
  refine ⟨h 0 (by simp), fun k hk => ?_⟩
  have := h (k + 1) (by simp; omega)
  rw [show i + 1 + k = i + (k + 1) by omega, this]
  simp
theorem hts_ok : ∀ (l : List Int) (h B x : Nat), hts l h B = some x → ∀ c, c ∈ l → ((0 ≤ c ∧ c ≤ 9999) ∨ namC (-c)) ∨ (c = -33 ∨ c = -1) ∨ binC (-c)
  | [], h, B, x, e, c, hc => absurd hc (by simp)
  | d :: l, h, B, x, e, c, hc => by
    have hst : (List.replicate h (0 : Int)).length = h := List.length_replicate
    rcases List.mem_cons.mp hc with e1 | e1
    · subst e1
      rw [← hst] at e
      rcases hts_cases e with ⟨h1, -, -⟩ | ⟨h1, -, -⟩ | ⟨h1, -, -⟩
      · exact Or.inl h1
      · exact Or.inr (Or.inl h1)
      · exact Or.inr (Or.inr h1)
    · rw [← hst] at e
      rcases hts_cases e with ⟨-, -, h3⟩ | ⟨-, -, h3⟩ | ⟨-, -, h3⟩ <;> exact hts_ok l _ _ _ h3 c e1
theorem seg_ok {l : List Int} {d : Nat} (h : Seg d l) : ∀ c, c ∈ l → rg c ∧ c ≠ -59 ∧ c ≠ -63 := fun c hc => by
  rcases hts_ok _ _ _ _ (h 0) c hc with q | q | q <;> omega
section WR
variable {X : pX} {I J : IM} {h N : Nat} {a b w t v : Int} {P : Option Value → IM → IM → Prop}
theorem W_runs (hN : I 1 7 = N ∧ N ≤ 121) (hfa : ∀ n, rg (faV a b w t v n)) : ∀ (l st : List Int) (i : Nat) (F : Nat → Int) (x : Nat), hts l st.length 40 = some x → st.length ≤ 40 → At (I 4) i l → i + l.length ≤ N → StR st → StK F st → (∀ F2, StK F2 (runS (faV a b w t v) l st) → Rz X (h + 2) mX4_worked 11 [some (.ref 1), some (zi a), some (zi b), some (zi w), some (zi t), some (zi v), some (zi 0), some (zi ((i + l.length : Nat) : Int)), none, none] [] (encW I (runS (faV a b w t v) l st).length F2) J P) → Rz X (h + 2) mX4_worked 11 [some (.ref 1), some (zi a), some (zi b), some (zi w), some (zi t), some (zi v), some (zi 0), some (zi (i : Int)), none, none] [] (encW I st.length F) J P
  | [], st, i, F, x, e, hl, hA, hi, hs, hF, K => by
    have e0 : i + ([] : List Int).length = i := rfl
    have K2 := K F hF
    rw [e0] at K2
    exact K2
  | c :: l, st, i, F, x, e, hl, hA, hi, hs, hF, K => by
    obtain ⟨h0, hA'⟩ := At_one hA
    have hln : (c :: l).length = l.length + 1 := rfl
    have hlt : i < N := by omega
    have hl2 : (stp (faV a b w t v) c st).length ≤ 40 := by
      rcases hts_cases e with ⟨h1, h2, h3⟩ | ⟨h1, ⟨y, r, rfl⟩, h3⟩ | ⟨h1, ⟨z, y, r, rfl⟩, h3⟩
      · rcases h1 with q | q
        · rw [stp_n q.1]; exact h2
        · rw [stp_f q]; exact h2
      · rcases h1 with rfl | rfl <;> exact hl
      · rw [stp_b h1]; exact Nat.le_trans (Nat.le_succ _) hl
    have K2 : ∀ F2, StK F2 (stp (faV a b w t v) c st) → Rz X (h + 2) mX4_worked 11 [some (.ref 1), some (zi a), some (zi b), some (zi w), some (zi t), some (zi v), some (zi 0), some (zi ((i + 1 : Nat) : Int)), none, none] [] (encW I (stp (faV a b w t v) c st).length F2) J P := fun F2 h2 =>
      W_runs hN hfa l _ (i + 1) F2 x (stp_len e) hl2 hA' (by omega) (stp_rg hfa e hs) h2 (fun F3 h3 => by
        have q := K F3 h3
        rw [show i + (c :: l).length = i + 1 + l.length by rw [hln]; omega] at q
        exact q)
    rcases hts_cases e with ⟨h1, h2, h3⟩ | ⟨h1, ⟨y, r, rfl⟩, h3⟩ | ⟨h1, ⟨z, y, r, rfl⟩, h3⟩
    · exact W_push hN hlt h0 h1 h2 hF K2
    · have hl3 : r.length + 1 ≤ 40 := hl
      rcases h1 with rfl | rfl
      · exact W_not hN hlt h0 (hs y (List.mem_cons_self ..)) (by omega) hF K2
      · exact W_neg hN hlt h0 (hs y (List.mem_cons_self ..)) (by omega) hF K2
    · have hl3 : r.length + 1 + 1 ≤ 40 := hl
      exact W_bin hN hlt h0 h1 (hs y (List.mem_cons_of_mem _ (List.mem_cons_self ..))) (hs z (List.mem_cons_self ..)) (by omega) hF K2
theorem W_seg (hN : I 1 7 = N ∧ N ≤ 121) (hfa : ∀ n, rg (faV a b w t v n)) {l : List Int} {i : Nat} {F : Nat → Int} (hl : Seg 36 l) (hA : At (I 4) i l) (hi : i + l.length ≤ N) (K : ∀ F2, StK F2 [exV (faV a b w t v) l] → Rz X (h + 2) mX4_worked 11 [some (.ref 1), some (zi a), some (zi b), some (zi w), some (zi t), some (zi v), some (zi 0), some (zi ((i + l.length : Nat) : Int)), none, none] [] (encW I (0 + 1) F2) J P) : Rz X (h + 2) mX4_worked 11 [some (.ref 1), some (zi a), some (zi b), some (zi w), some (zi t), some (zi v), some (zi 0), some (zi (i : Int)), none, none] [] (encW I 0 F) J P :=
  W_runs hN hfa l [] i F 1 (hts_mono _ _ _ _ _ (by decide) (hl 0)) (by simp) hA hi (fun x hx => absurd hx (by simp)) trivial (fun F2 h2 => by
    rw [seg_run hl] at h2 ⊢
    exact K F2 h2)
theorem W_skips (hN : I 1 7 = N ∧ N ≤ 121) : ∀ (l : List Int) (i : Nat) (F : Nat → Int), (∀ c, c ∈ l → rg c ∧ c ≠ -59 ∧ c ≠ -63) → At (I 4) i l → i + l.length ≤ N → Rz X (h + 2) mX4_worked 11 [some (.ref 1), some (zi a), some (zi b), some (zi w), some (zi t), some (zi v), some (zi 1), some (zi ((i + l.length : Nat) : Int)), none, none] [] (encW I 0 F) J P → Rz X (h + 2) mX4_worked 11 [some (.ref 1), some (zi a), some (zi b), some (zi w), some (zi t), some (zi v), some (zi 1), some (zi (i : Int)), none, none] [] (encW I 0 F) J P
  := by
  intro l
  induction l with
  | nil =>
    intro i F hc hA hi K
    have e : i + ([] : List Int).length = i := rfl
    rw [e] at K
    exact K
  | cons c l ih =>
    intro i F hc hA hi K
    obtain ⟨h0, hA'⟩ := At_one hA
    have hln : (c :: l).length = l.length + 1 := rfl
    obtain ⟨r1, r2, -⟩ := hc c (List.mem_cons_self ..)
    rw [show i + (c :: l).length = i + 1 + l.length by rw [hln]; omega] at K
    exact W_skip hN (by omega) h0 r1 r2 (ih (i + 1) F (fun x hx => hc x (List.mem_cons_of_mem _ hx)) hA' (by omega) K)
theorem W_all (hN : I 1 7 = N ∧ N ≤ 121) (hfa : ∀ n, rg (faV a b w t v n)) : ∀ (pg : List (List Int × List Int)) (i : Nat) (F : Nat → Int), PgOK pg → At (I 4) i (codeC pg) → i + (codeC pg).length = N → (∀ F2, P (some (zi (giv (faV a b w t v) pg))) (encW I 0 F2) J) → Rz X (h + 2) mX4_worked 11 [some (.ref 1), some (zi a), some (zi b), some (zi w), some (zi t), some (zi v), some (zi 0), some (zi (i : Int)), none, none] [] (encW I 0 F) J P
  | [], i, F, hp, hA, hi, K => by
    have e : i = N := hi
    subst e
    exact W_fin hN (K F)
  | x :: r, i, F, hp, hA, hi, K => by
    have hc : codeC (x :: r) = lineC x ++ codeC r := rfl
    rw [hc] at hA hi
    rw [List.length_append] at hi
    obtain ⟨hA1, hA2⟩ := At_app hA
    obtain ⟨hx1, hx2⟩ := hp x (List.mem_cons_self ..)
    have hp' : PgOK r := fun y hy => hp y (List.mem_cons_of_mem _ hy)
    by_cases h1 : x.1 = []
    · have hl : lineC x = x.2 ++ [-59] := by unfold lineC; rw [if_pos h1]; rfl
      rw [hl] at hA1 hi
      rw [List.length_append] at hi
      have hi2 : [(-59 : Int)].length = 1 := rfl
      obtain ⟨hB1, hB2⟩ := At_app hA1
      refine W_seg hN hfa hx2 hB1 (by omega) (fun F2 h2 => ?_)
      refine W_end hN (by omega) (At_one hB2).1 (exV_rg hfa hx2) h2 ?_
      have q := K F2
      unfold giv at q
      rw [if_pos (Or.inl h1)] at q
      exact q
    · have hx1' : Seg 36 x.1 := hx1.resolve_left h1
      have hl : lineC x = x.1 ++ ([-63] ++ (x.2 ++ [-59])) := by unfold lineC; rw [if_neg h1]; simp
      have hll : (lineC x).length = x.1.length + (1 + (x.2.length + 1)) := by rw [hl]; simp; omega
      rw [hl] at hA1
      obtain ⟨hB1, hB2⟩ := At_app hA1
      obtain ⟨hC1, hC2⟩ := At_app hB2
      obtain ⟨hD1, hD2⟩ := At_app hC2
      have hi1 : [(-63 : Int)].length = 1 := rfl
      rw [hi1] at hC2 hD1 hD2
      refine W_seg hN hfa hx1' hB1 (by omega) (fun F2 h2 => ?_)
      refine W_if hN (by omega) (At_one hC1).1 (exV_rg hfa hx1') h2 (fun h0 => ?_) (fun h0 => ?_)
      · refine W_skips hN x.2 (i + x.1.length + 1) F2 (seg_ok hx2) hD1 (by omega) ?_
        refine W_skE hN (by omega) (At_one hD2).1 ?_
        have e : i + (lineC x).length = i + x.1.length + 1 + x.2.length + 1 := by omega
        rw [e] at hA2
        refine W_all hN hfa r (i + x.1.length + 1 + x.2.length + 1) F2 hp' hA2 (by omega) (fun F3 => ?_)
        have q := K F3
        unfold giv at q
        rw [if_neg (fun z => z.elim (fun z => h1 z) (fun z => z h0))] at q
        exact q
      · refine W_seg hN hfa hx2 hD1 (by omega) (fun F3 h3 => ?_)
        refine W_end hN (by omega) (At_one hD2).1 (exV_rg hfa hx2) h3 ?_
        have q := K F3
        unfold giv at q
        rw [if_pos (Or.inr h0)] at q
        exact q
end WR
