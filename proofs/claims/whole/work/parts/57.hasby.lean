/-! the reference works out a law -/
def At2 (I : IM) (i : Nat) (l : List Int) : Prop := ∀ k, k < l.length → I 95 (i + k) = actC (l.getD k 0) ∧ I 96 (i + k) = withC (l.getD k 0)
theorem At2_one {I : IM} {i : Nat} {c : Int} {l : List Int} (h : At2 I i (c :: l)) : (I 95 i = actC c ∧ I 96 i = withC c) ∧ At2 I (i + 1) l := by
  refine ⟨h 0 (by simp), fun k hk => ?_⟩
  have := h (k + 1) (by simp; omega)
  rw [show i + 1 + k = i + (k + 1) by omega, this.1, this.2]
  simp
theorem At2_app {I : IM} {i : Nat} {l1 l2 : List Int} (h : At2 I i (l1 ++ l2)) : At2 I i l1 ∧ At2 I (i + l1.length) l2 := by
  refine ⟨fun k hk => ?_, fun k hk => ?_⟩
  · have := h k (by rw [List.length_append]; omega)
    rw [this.1, this.2]
    simp [List.getElem?_append_left hk]
  · have := h (l1.length + k) (by rw [List.length_append]; omega)
    rw [Nat.add_assoc, this.1, this.2]
    simp [List.getElem?_append_right (Nat.le_add_right l1.length k)]
section VR
variable {X : pX} {I J : IM} {h : Nat} {a b w t v fi en : Int} {P : Option Value → IM → IM → Prop}
theorem V_runs (hen : 0 ≤ en ∧ en ≤ 130) (hq : FacR I a b w t v) (hfa : ∀ n, rg (faV a b w t v n)) : ∀ (l st : List Int) (k : Nat) (F : Nat → Int) (x : Nat), hts l st.length 120 = some x → st.length ≤ 120 → At2 I k l → ((k + l.length : Nat) : Int) ≤ en → StR st → StK F st → (∀ F2, StK F2 (runS (faV a b w t v) l st) → Rz X (h + 1) mX12_worked 12 [some (.ref 81), some (zi 0), some (zi fi), some (zi en), some (zi ((runS (faV a b w t v) l st).length : Int)), some (zi ((k + l.length : Nat) : Int)), none] [] (encP I F2) J P) → Rz X (h + 1) mX12_worked 12 [some (.ref 81), some (zi 0), some (zi fi), some (zi en), some (zi (st.length : Int)), some (zi (k : Int)), none] [] (encP I F) J P := by
  intro l
  induction l with
  | nil =>
    intro st k F x e hl hA hi hs hF K
    have e0 : k + ([] : List Int).length = k := rfl
    have K2 := K F hF
    rw [e0] at K2
    exact K2
  | cons c l ih =>
    intro st k F x e hl hA hi hs hF K
    obtain ⟨⟨h0, h01⟩, hA'⟩ := At2_one hA
    have hln : (c :: l).length = l.length + 1 := rfl
    have hlt : (k : Int) < en := by rw [hln] at hi; omega
    have hl2 : (stp (faV a b w t v) c st).length ≤ 120 := by
      rcases hts_cases e with ⟨h1, h2, h3⟩ | ⟨h1, ⟨y, r, rfl⟩, h3⟩ | ⟨h1, ⟨z, y, r, rfl⟩, h3⟩
      · rcases h1 with q | q
        · rw [stp_n q.1]; exact h2
        · rw [stp_f q]; exact h2
      · rcases h1 with rfl | rfl <;> exact hl
      · rw [stp_b h1]; exact Nat.le_trans (Nat.le_succ _) hl
    rw [show k + (c :: l).length = k + 1 + l.length by rw [hln]; omega] at K hi
    have K2 : ∀ F2, StK F2 (stp (faV a b w t v) c st) → Rz X (h + 1) mX12_worked 12 [some (.ref 81), some (zi 0), some (zi fi), some (zi en), some (zi ((stp (faV a b w t v) c st).length : Int)), some (zi ((k + 1 : Nat) : Int)), none] [] (encP I F2) J P := fun F2 h2 => ih _ (k + 1) F2 x (stp_len e) hl2 hA' hi (stp_rg hfa e hs) h2 K
    rcases hts_cases e with ⟨h1, h2, h3⟩ | ⟨h1, ⟨y, r, rfl⟩, h3⟩ | ⟨h1, ⟨z, y, r, rfl⟩, h3⟩
    · rcases h1 with q | q
      · exact V_num hen hlt h0 h01 q.1 (by omega) hF K2
      · exact V_nam hen hlt hq h0 h01 q (by omega) hF K2
    · have hl3 : r.length + 1 ≤ 120 := hl
      rcases h1 with rfl | rfl
      · exact V_not hen hlt h0 (hs y (List.mem_cons_self ..)) (by omega) hF K2
      · exact V_neg hen hlt h0 (hs y (List.mem_cons_self ..)) (by omega) hF K2
    · have hl3 : r.length + 1 + 1 ≤ 120 := hl
      exact V_bin hen hlt h0 h1 (hs y (List.mem_cons_of_mem _ (List.mem_cons_self ..))) (hs z (List.mem_cons_self ..)) (by omega) hF K2
end VR
set_option maxRecDepth 20000 in
set_option maxHeartbeats 400000 in
theorem V_end {X : pX} {I J : IM} {h fi : Nat} {F2 : Nat → Int} {l : List Int} {q z : Int} (hen : fi + l.length ≤ 130) (hz : F2 0 = z) : Rz X (h + 1) mX12_worked 12 [some (.ref 81), some (zi 0), some (zi (fi : Int)), some (zi ((fi + l.length : Nat) : Int)), some (zi q), some (zi ((fi + l.length : Nat) : Int)), none] [] (encP I F2) J (fun r A B => ∃ z2, r = some (zi z2) ∧ z2 = z ∧ (∃ F2, A = encP I F2) ∧ J = B) := by
  refine rz_iload dX12_worked_12 rfl ?_
  refine rz_sipush dX12_worked_14 (by decide) ?_
  refine rz_iload_n dX12_worked_17 rfl ?_
  refine rz_imul dX12_worked_18 ?_
  refine rz_iload_n dX12_worked_19 rfl ?_
  refine rz_iadd dX12_worked_20 ?_
  refine rz_icmp_ge (t := 188) dX12_worked_21 rfl (by omega) (by omega) (fun c21 => ?_) (fun c21 => ?_)
  · refine rz_aload_n dX12_worked_188 rfl ?_
    refine rz_getR dX12_worked_189 kf_RX12_69 hd_81 rfl rr_81_28 ?_
    refine rz_iconst dX12_worked_192 ?_
    refine rz_iald (z := z) dX12_worked_193 hd_101 (by decide) (by omega) hz ?_
    refine rz_iret dX12_worked_194 rfl ?_
    exact ⟨_, rfl, rfl, ⟨F2, rfl⟩, rfl⟩
  · exfalso; omega
set_option maxRecDepth 20000 in
set_option maxHeartbeats 400000 in
theorem c_X12_worked {X : pX} {I J : IM} {h fi : Nat} {a b w t v : Int} {F : Nat → Int} {l : List Int} (hl : Seg 36 l) (hA : At2 I fi l) (hen : fi + l.length ≤ 130) (hq : FacR I a b w t v) (hfa : ∀ n, rg (faV a b w t v n)) : KIq X (h + 1) mX12_worked [.ref 81, zi 0, zi (fi : Int), zi ((fi + l.length : Nat) : Int)] (encP I F) J (fun z A B => z = exV (faV a b w t v) l ∧ (∃ F2, A = encP I F2) ∧ J = B) := by
  show Rz X (h + 1) mX12_worked 0 [some (.ref 81), some (zi 0), some (zi (fi : Int)), some (zi ((fi + l.length : Nat) : Int)), none, none, none] [] (encP I F) J _
  refine rz_iconst dX12_worked_0 ?_
  refine rz_istore dX12_worked_1 (by decide) rfl ?_
  refine rz_sipush dX12_worked_3 (by decide) ?_
  refine rz_iload_n dX12_worked_6 rfl ?_
  refine rz_imul dX12_worked_7 ?_
  refine rz_iload_n dX12_worked_8 rfl ?_
  refine rz_iadd dX12_worked_9 ?_
  refine rz_istore dX12_worked_10 (by decide) rfl ?_
  refine rz_to (ls' := [some (.ref 81), some (zi 0), some (zi (fi : Int)), some (zi ((fi + l.length : Nat) : Int)), some (zi (([] : List Int).length : Int)), some (zi (fi : Int)), none]) (I' := encP I F) (J' := J) ⟨Or.inr rfl, Or.inr rfl, Or.inr rfl, Or.inr rfl, Or.inr rfl, Or.inr (congrArg (fun z => some (zi z)) (by omega)), Or.inl rfl, trivial⟩ rfl rfl ?_
  refine V_runs (by omega) hq hfa l [] fi F 1 (hts_mono _ _ _ _ _ (by decide) (hl 0)) (by simp) hA (by omega) (fun x hx => absurd hx (by simp)) trivial (fun F2 h2 => ?_)
  rw [seg_run hl] at h2 ⊢
  exact V_end hen h2.1
set_option maxRecDepth 20000 in
set_option maxHeartbeats 400000 in
theorem G_line {X : pX} {I J : IM} {h g k m : Nat} {a b w t v : Int} {F : Nat → Int} {P : Option Value → IM → IM → Prop} {x : List Int × List Int} (hq : FacR I a b w t v) (hfa : ∀ n, rg (faV a b w t v n)) (hm : I 97 0 = m ∧ m ≤ 61) (hk : k < m) (hx : LnOK x) (h8 : I 98 k = ((g + x.1.length : Nat) : Int)) (h9 : I 99 k = ((g + x.1.length + x.2.length : Nat) : Int)) (hT : At2 I g x.1) (hV : At2 I (g + x.1.length) x.2) (hb : g + x.1.length + x.2.length ≤ 121) (KV : ∀ F2, (x.1 = [] ∨ exV (faV a b w t v) x.1 ≠ 0) → P (some (zi (exV (faV a b w t v) x.2))) (encP I F2) J) (KN : ∀ F2, x.1 ≠ [] → exV (faV a b w t v) x.1 = 0 → Rz X (h + 2) mX12_gives 7 [some (.ref 81), some (zi 0), some (zi ((g + x.1.length + x.2.length : Nat) : Int)), some (zi ((k + 1 : Nat) : Int))] [] (encP I F2) J P) : Rz X (h + 2) mX12_gives 7 [some (.ref 81), some (zi 0), some (zi (g : Int)), some (zi (k : Int))] [] (encP I F) J P := by
  refine rz_iload_n dX12_gives_7 rfl ?_
  refine rz_bipush dX12_gives_8 (by decide) ?_
  refine rz_iload_n dX12_gives_10 rfl ?_
  refine rz_imul dX12_gives_11 ?_
  refine rz_aload_n dX12_gives_12 rfl ?_
  refine rz_getR dX12_gives_13 kf_RX12_56 hd_81 rfl rr_81_24 ?_
  refine rz_iload_n dX12_gives_16 rfl ?_
  refine rz_iald (z := (m : Int)) dX12_gives_17 hd_97 (by decide) (by omega) hm.1 ?_
  refine rz_iadd dX12_gives_18 ?_
  refine rz_icmp_ge (t := 78) dX12_gives_19 rfl (by omega) (by omega) (fun c19 => ?_) (fun c19 => ?_)
  · exfalso; omega
  · refine rz_aload_n dX12_gives_22 rfl ?_
    refine rz_getR dX12_gives_23 kf_RX12_59 hd_81 rfl rr_81_25 ?_
    refine rz_iload_n dX12_gives_26 rfl ?_
    refine rz_saldN (k := k) (z := ((g + x.1.length : Nat) : Int)) dX12_gives_27 hd_98 (by decide) (by omega) (by omega) h8 ?_
    refine rz_iload_n dX12_gives_28 rfl ?_
    refine rz_icmp_eq (t := 47) dX12_gives_29 rfl (by omega) (by omega) (fun c29 => ?_) (fun c29 => ?_)
    · refine rz_aload_n dX12_gives_47 rfl ?_
      refine rz_iload_n dX12_gives_48 rfl ?_
      refine rz_aload_n dX12_gives_49 rfl ?_
      refine rz_getR dX12_gives_50 kf_RX12_59 hd_81 rfl rr_81_25 ?_
      refine rz_iload_n dX12_gives_53 rfl ?_
      refine rz_saldN (k := k) (z := ((g + x.1.length : Nat) : Int)) dX12_gives_54 hd_98 (by decide) (by omega) (by omega) h8 ?_
      refine rz_aload_n dX12_gives_55 rfl ?_
      refine rz_getR dX12_gives_56 kf_RX12_63 hd_81 rfl rr_81_26 ?_
      refine rz_iload_n dX12_gives_59 rfl ?_
      refine rz_saldN (k := k) (z := ((g + x.1.length + x.2.length : Nat) : Int)) dX12_gives_60 hd_99 (by decide) (by omega) (by omega) h9 ?_
      refine rz_cVIq dX12_gives_61 kl_RX12_240 hd_81 ⟨_, _, rfl⟩ ((show KIq X (h + 1) mX12_worked [.ref 81, zi 0, zi ((g + x.1.length : Nat) : Int), zi ((g + x.1.length + x.2.length : Nat) : Int)] (encP I F) J _ from c_X12_worked hx.2 hV (by omega) hq hfa)) rfl rfl (Nat.le_of_ble_eq_true rfl) (Nat.le_of_ble_eq_true rfl) ?_
      rintro _ _ _ ⟨rfl, ⟨F61, rfl⟩, rfl⟩
      refine rz_iret dX12_gives_64 rfl ?_
      first
        | exact KV _ (Or.inl (List.eq_nil_of_length_eq_zero (by omega)))
        | exact KV _ (Or.inr (by assumption))
    · have ht : x.1 ≠ [] := fun q => by rw [q] at c29; exact c29 rfl
      have ht2 : Seg 36 x.1 := hx.1.resolve_left ht
      have hr1 := exV_rg hfa ht2
      refine rz_aload_n dX12_gives_32 rfl ?_
      refine rz_iload_n dX12_gives_33 rfl ?_
      refine rz_iload_n dX12_gives_34 rfl ?_
      refine rz_aload_n dX12_gives_35 rfl ?_
      refine rz_getR dX12_gives_36 kf_RX12_59 hd_81 rfl rr_81_25 ?_
      refine rz_iload_n dX12_gives_39 rfl ?_
      refine rz_saldN (k := k) (z := ((g + x.1.length : Nat) : Int)) dX12_gives_40 hd_98 (by decide) (by omega) (by omega) h8 ?_
      refine rz_cVIq dX12_gives_41 kl_RX12_240 hd_81 ⟨_, _, rfl⟩ ((show KIq X (h + 1) mX12_worked [.ref 81, zi 0, zi (g : Int), zi ((g + x.1.length : Nat) : Int)] (encP I F) J _ from c_X12_worked ht2 hT (by omega) hq hfa)) rfl rfl (Nat.le_of_ble_eq_true rfl) (Nat.le_of_ble_eq_true rfl) ?_
      rintro _ _ _ ⟨rfl, ⟨F41, rfl⟩, rfl⟩
      refine rz_if_eq (t := 65) dX12_gives_44 rfl (by omega) (fun c44 => ?_) (fun c44 => ?_)
      · refine rz_aload_n dX12_gives_65 rfl ?_
        refine rz_getR dX12_gives_66 kf_RX12_63 hd_81 rfl rr_81_26 ?_
        refine rz_iload_n dX12_gives_69 rfl ?_
        refine rz_saldN (k := k) (z := ((g + x.1.length + x.2.length : Nat) : Int)) dX12_gives_70 hd_99 (by decide) (by omega) (by omega) h9 ?_
        refine rz_istore_n dX12_gives_71 (by decide) rfl ?_
        refine rz_iinc dX12_gives_72 (by decide) rfl rfl rfl ?_
        refine rz_goto (t := 7) dX12_gives_75 rfl ?_
        exact rz_bk (KN _ ht (by assumption)) ⟨Or.inr rfl, Or.inr rfl, Or.inr rfl, Or.inr rfl, trivial⟩ rfl rfl
      · refine rz_aload_n dX12_gives_47 rfl ?_
        refine rz_iload_n dX12_gives_48 rfl ?_
        refine rz_aload_n dX12_gives_49 rfl ?_
        refine rz_getR dX12_gives_50 kf_RX12_59 hd_81 rfl rr_81_25 ?_
        refine rz_iload_n dX12_gives_53 rfl ?_
        refine rz_saldN (k := k) (z := ((g + x.1.length : Nat) : Int)) dX12_gives_54 hd_98 (by decide) (by omega) (by omega) h8 ?_
        refine rz_aload_n dX12_gives_55 rfl ?_
        refine rz_getR dX12_gives_56 kf_RX12_63 hd_81 rfl rr_81_26 ?_
        refine rz_iload_n dX12_gives_59 rfl ?_
        refine rz_saldN (k := k) (z := ((g + x.1.length + x.2.length : Nat) : Int)) dX12_gives_60 hd_99 (by decide) (by omega) (by omega) h9 ?_
        refine rz_cVIq dX12_gives_61 kl_RX12_240 hd_81 ⟨_, _, rfl⟩ ((show KIq X (h + 1) mX12_worked [.ref 81, zi 0, zi ((g + x.1.length : Nat) : Int), zi ((g + x.1.length + x.2.length : Nat) : Int)] (encP I F41) J _ from c_X12_worked hx.2 hV (by omega) hq hfa)) rfl rfl (Nat.le_of_ble_eq_true rfl) (Nat.le_of_ble_eq_true rfl) ?_
        rintro _ _ _ ⟨rfl, ⟨F61, rfl⟩, rfl⟩
        refine rz_iret dX12_gives_64 rfl ?_
        first
          | exact KV _ (Or.inl (List.eq_nil_of_length_eq_zero (by omega)))
          | exact KV _ (Or.inr (by assumption))
set_option maxRecDepth 20000 in
set_option maxHeartbeats 400000 in
theorem G_fin {X : pX} {I J : IM} {h g m : Nat} {F : Nat → Int} {P : Option Value → IM → IM → Prop} (hm : I 97 0 = m ∧ m ≤ 61) (K : P (some (zi 0)) (encP I F) J) : Rz X (h + 2) mX12_gives 7 [some (.ref 81), some (zi 0), some (zi (g : Int)), some (zi (m : Int))] [] (encP I F) J P := by
  refine rz_iload_n dX12_gives_7 rfl ?_
  refine rz_bipush dX12_gives_8 (by decide) ?_
  refine rz_iload_n dX12_gives_10 rfl ?_
  refine rz_imul dX12_gives_11 ?_
  refine rz_aload_n dX12_gives_12 rfl ?_
  refine rz_getR dX12_gives_13 kf_RX12_56 hd_81 rfl rr_81_24 ?_
  refine rz_iload_n dX12_gives_16 rfl ?_
  refine rz_iald (z := (m : Int)) dX12_gives_17 hd_97 (by decide) (by omega) hm.1 ?_
  refine rz_iadd dX12_gives_18 ?_
  refine rz_icmp_ge (t := 78) dX12_gives_19 rfl (by omega) (by omega) (fun c19 => ?_) (fun c19 => ?_)
  · refine rz_iconst dX12_gives_78 ?_
    refine rz_iret dX12_gives_79 rfl ?_
    exact K
  · exfalso; omega
/-- the lines from one on -/
def LnAt (I : IM) : Nat → Nat → List (List Int × List Int) → Prop
  | _, _, [] => True
  | k, g, x :: r => I 98 k = ((g + x.1.length : Nat) : Int) ∧ I 99 k = ((g + x.1.length + x.2.length : Nat) : Int) ∧ At2 I g x.1 ∧ At2 I (g + x.1.length) x.2 ∧ LnAt I (k + 1) (g + x.1.length + x.2.length) r
theorem codeR_cons {x : List Int × List Int} {r : List (List Int × List Int)} : codeR (x :: r) = x.1 ++ (x.2 ++ codeR r) := by
  show (x.1 ++ x.2) ++ codeR r = _
  rw [List.append_assoc]
theorem LnAt_of {I : IM} : ∀ (r p : List (List Int × List Int)), At2 I 0 (codeR (p ++ r)) → (∀ k x, (p ++ r)[k]? = some x → I 98 k = ((codeR ((p ++ r).take k)).length : Int) + x.1.length ∧ I 99 k = ((codeR ((p ++ r).take (k + 1))).length : Int)) → LnAt I p.length (codeR p).length r
  | [], p, _, _ => trivial
  | x :: r, p, hA, hl => by
    have e1 : p ++ x :: r = (p ++ [x]) ++ r := by simp
    have hc : codeR (p ++ x :: r) = codeR p ++ (x.1 ++ (x.2 ++ codeR r)) := by
      show (p ++ x :: r).flatMap _ = _
      rw [List.flatMap_append]
      exact congrArg _ codeR_cons
    have hx : (p ++ x :: r)[p.length]? = some x := by simp
    obtain ⟨h8, h9⟩ := hl p.length x hx
    have t1 : (p ++ x :: r).take p.length = p := by simp
    have t2 : (p ++ x :: r).take (p.length + 1) = p ++ [x] := by rw [List.take_add_one, t1, hx]; rfl
    rw [t1] at h8
    rw [t2, codeR_app] at h9
    have ih := LnAt_of r (p ++ [x]) (by rw [← e1]; exact hA) (by rw [← e1]; exact hl)
    rw [hc] at hA
    obtain ⟨-, hA1⟩ := At2_app hA
    obtain ⟨hA2, hA3⟩ := At2_app hA1
    obtain ⟨hA4, -⟩ := At2_app hA3
    rw [Nat.zero_add] at hA2 hA4
    refine ⟨by rw [h8]; simp, by rw [h9]; simp; omega, hA2, hA4, ?_⟩
    rw [codeR_app] at ih
    have e2 : (codeR p ++ (x.1 ++ x.2)).length = (codeR p).length + x.1.length + x.2.length := by simp; omega
    have e3 : (p ++ [x]).length = p.length + 1 := by simp
    rw [e2, e3] at ih
    exact ih
theorem LawR_at {I : IM} {pg : List (List Int × List Int)} (h : LawR I pg) : LnAt I 0 0 pg := by
  have hA : At2 I 0 (codeR pg) := fun k hk => by rw [Nat.zero_add]; exact h.2.1 k hk
  exact LnAt_of pg [] hA h.2.2
theorem G_all {X : pX} {I J : IM} {h m : Nat} {a b w t v : Int} {P : Option Value → IM → IM → Prop} (hq : FacR I a b w t v) (hfa : ∀ n, rg (faV a b w t v n)) (hm : I 97 0 = m ∧ m ≤ 61) : ∀ (r : List (List Int × List Int)) (k g : Nat) (F : Nat → Int), PgOK r → LnAt I k g r → k + r.length = m → g + (codeR r).length ≤ 121 → (∀ F2, P (some (zi (giv (faV a b w t v) r))) (encP I F2) J) → Rz X (h + 2) mX12_gives 7 [some (.ref 81), some (zi 0), some (zi (g : Int)), some (zi (k : Int))] [] (encP I F) J P := by
  intro r
  induction r with
  | nil =>
    intro k g F hp hl hk hg K
    have e : k = m := hk
    subst e
    exact G_fin hm (K F)
  | cons x r ih =>
    intro k g F hp hl hk hg K
    obtain ⟨h8, h9, hT, hV, hl2⟩ := hl
    have hln : (x :: r).length = r.length + 1 := rfl
    rw [codeR_cons, List.length_append, List.length_append] at hg
    refine G_line hq hfa hm (by omega) (hp x (List.mem_cons_self ..)) h8 h9 hT hV (by omega) (fun F2 h0 => ?_) (fun F2 h0 h1 => ?_)
    · have q := K F2
      unfold giv at q
      rw [if_pos h0] at q
      exact q
    · refine ih (k + 1) _ F2 (fun y hy => hp y (List.mem_cons_of_mem _ hy)) hl2 (by omega) (by omega) (fun F3 => ?_)
      have q := K F3
      unfold giv at q
      rw [if_neg (fun z => z.elim (fun z => h0 z) (fun z => z h1))] at q
      exact q
set_option maxRecDepth 20000 in
set_option maxHeartbeats 400000 in
theorem c_X12_gives {X : pX} {I J : IM} {h : Nat} {a b w t v : Int} {F : Nat → Int} {pg : List (List Int × List Int)} (hp : PgOK pg) (hl : LawR I pg) (hm : pg.length ≤ 61) (hc : (codeR pg).length ≤ 121) (hq : FacR I a b w t v) (hfa : ∀ n, rg (faV a b w t v n)) : KIq X (h + 2) mX12_gives [.ref 81, zi 0] (encP I F) J (fun z A B => z = giv (faV a b w t v) pg ∧ (∃ F2, A = encP I F2) ∧ J = B) := by
  show Rz X (h + 2) mX12_gives 0 [some (.ref 81), some (zi 0), none, none] [] (encP I F) J _
  refine rz_iconst dX12_gives_0 ?_
  refine rz_istore_n dX12_gives_1 (by decide) rfl ?_
  refine rz_bipush dX12_gives_2 (by decide) ?_
  refine rz_iload_n dX12_gives_4 rfl ?_
  refine rz_imul dX12_gives_5 ?_
  refine rz_istore_n dX12_gives_6 (by decide) rfl ?_
  refine rz_to (ls' := [some (.ref 81), some (zi 0), some (zi ((0 : Nat) : Int)), some (zi ((0 : Nat) : Int))]) (I' := encP I F) (J' := J) ⟨Or.inr rfl, Or.inr rfl, Or.inr rfl, Or.inr rfl, trivial⟩ rfl rfl ?_
  exact G_all hq hfa ⟨hl.1, hm⟩ pg 0 0 F hp (LawR_at hl) (by omega) (by omega) (fun F2 => ⟨_, rfl, rfl, ⟨F2, rfl⟩, rfl⟩)
