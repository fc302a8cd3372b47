/-! the constructors -/
theorem str2 : ("[" ++ (FieldType.array .int).toString) = "[[I" := by decide +kernel
def IUs : List (IM → IM) := [(fun I => upA I 10 (up1 (I 10) 0 (6))), (fun I => upA I 10 (up1 (I 10) 1 (6))), (fun I => upA I 85 (up1 (I 85) 0 (6))), (fun I => upA I 85 (up1 (I 85) 1 (6))), (fun I => upA I 118 (up1 (I 118) 0 (-1))), (fun I => upA I 118 (up1 (I 118) 1 (-1))), (fun I => upA I 118 (up1 (I 118) 2 (-1))), (fun I => upA I 118 (up1 (I 118) 3 (-1))), (fun I => upA I 118 (up1 (I 118) 4 (-1))), (fun I => upA I 118 (up1 (I 118) 5 (-1)))]
def IU (n : Nat) : IM := (IUs.take n).foldl (fun I f => f I) (fun _ _ => 0)
def Cs (n k j : Nat) (X : pX) : pM := (HD0.take n, fun a k => iz (IU j a k), fun _ _ => lz 0, RU k, X)
theorem cs_len {n : Nat} (hn : n ≤ 122) : (HD0.take n).length = n := by
  rw [List.length_take]; show min n 122 = n; omega
theorem cs_take {n : Nat} {q : pHd} (hq : HD0[n]? = some q) : HD0.take n ++ [q] = HD0.take (n + 1) := by
  rw [List.take_add_one, hq]; rfl
theorem cs_at {n a : Nat} {q : pHd} (ha : a < n) (hq : HD0[a]? = some q) : (HD0.take n)[a]? = some q := by
  rw [List.getElem?_take_of_lt ha]; exact hq
section RCs
variable {h : Nat} {mi : MI} {pc : Nat} {ls : List (Option Value)} {st : List Value} {X : pX} {Q : Option Value → pM → Prop} {a b n k j : Nat} {i x z : Int}
theorem rc_new {idx ci : Nat} {C : String} {T : u_T} (hd : decode mi.2.1 pc = .ok (.new idx, 3)) (hc : vwCl[ci]? = some (C, T, nF ci)) (K : ClK ci) (hw : Cond.classLink mi.1.cls idx C ∈ gT ∧ Cond.instantiable C (nF ci) ∈ gT ∧ Cond.initialized C ∈ gT) (hdf : ∀ j, j < nF ci → defaultValue (fTy ci j) = if (fTy ci j).isReference = true then .null else .int 0)
    (hq : HD0[n]? = some (0, ci, 0)) (hn : n ≤ 122) (hl : okL n ls = true) (hst : okS n st = true) (kk : Rn h mi (pc + 3) ls (.ref n :: st) (Cs (n + 1) k j X) Q) : Rn h mi pc ls st (Cs n k j X) Q := by
  have e := cs_len hn
  refine rn_new hd hc K hw hdf (by omega) (by rw [e]; exact hl) (by rw [e]; exact hst) ?_
  rw [e, cs_take hq]; exact kk
theorem rc_newarr {at' : ArrayType} {ty : FieldType} {t0 t N : Nat} (hd : decode mi.2.1 pc = .ok (.newarray at', 2)) (hty : newarray.typeOf at' = ty) (ht : pTys[t]? = some ty) (ho : ∀ C, ty ≠ .object C) (h12 : (t0 = 1 ∧ defaultValue ty = .int 0) ∨ (t0 = 2 ∧ defaultValue ty = .long 0)) (hw : Cond.arrayClass ty ∈ gT) (hi : (0 ≤ x ∧ x ≤ 100000) ∧ x.toNat = N) (hb : N * componentBytes ty ≤ 536870912)
    (hq : HD0[n]? = some (t0, t, N)) (hn : n ≤ 122) (hl : okL n ls = true) (hst : okS n st = true) (kk : Rn h mi (pc + 2) ls (.ref n :: st) (Cs (n + 1) k j X) Q) : Rn h mi pc ls (zi x :: st) (Cs n k j X) Q := by
  have e := cs_len hn
  have e2 := iz_toInt (z := x) (by omega)
  refine rn_newarr hd hty ht ho h12 hw (by rw [e2]; exact ⟨hi.1.1, hi.2⟩) hb (by omega) (by rw [e]; exact hl) (by rw [e]; exact hst) ?_
  rw [e, cs_take hq]; exact kk
theorem rc_anewarr {idx t N : Nat} {C : String} (hd : decode mi.2.1 pc = .ok (.anewarray idx, 3)) (ht : t = 6 ∧ C = RX5 ∨ t = 7 ∧ C = RX6 ∨ t = 8 ∧ C = RX7) (hw : Cond.classLink mi.1.cls idx C ∈ gT) (hi : (0 ≤ x ∧ x ≤ 100000) ∧ x.toNat = N)
    (hq : HD0[n]? = some (3, t, N)) (hn : n ≤ 122) (hl : okL n ls = true) (hst : okS n st = true) (kk : Rn h mi (pc + 3) ls (.ref n :: st) (Cs (n + 1) k j X) Q) : Rn h mi pc ls (zi x :: st) (Cs n k j X) Q := by
  have e := cs_len hn
  have e2 := iz_toInt (z := x) (by omega)
  refine rn_anewarr hd ht hw (by rw [e2]; exact ⟨hi.1.1, hi.2⟩) (by omega) (by omega) (by rw [e]; exact hl) (by rw [e]; exact hst) ?_
  rw [e, cs_take hq]; exact kk
theorem rc_multi {idx K : Nat} {y : Int} (hd : decode mi.2.1 pc = .ok (.multianewarray idx 2, 4)) (hw : Cond.classLink mi.1.cls idx ("[" ++ (FieldType.array .int).toString) ∈ gT ∧ Cond.arrayClass .int ∈ gT) (hy : y = 2) (hi : (0 ≤ x ∧ x ≤ 100000) ∧ x.toNat = K)
    (hq : HD0[n]? = some (3, 5, 2) ∧ HD0[n + 1]? = some (1, 0, K) ∧ HD0[n + 2]? = some (1, 0, K)) (hn : n ≤ 122) (hR : RU (k + 1) = upA (RU k) n (fun i => if i < 2 then some (n + 1 + i) else none)) (hl : okL n ls = true) (hst : okS n st = true) (kk : Rn h mi (pc + 4) ls (.ref n :: st) (Cs (n + 3) (k + 1) j X) Q) : Rn h mi pc ls (zi x :: zi y :: st) (Cs n k j X) Q := by
  have e := cs_len hn
  have e2 := iz_toInt (z := x) (by omega)
  have e3 := iz_toInt (z := y) (by omega)
  refine rn_multi hd hw (by rw [e3]; exact hy) (by rw [e2]; exact ⟨hi.1.1, hi.2⟩) (by omega) (by omega) (by rw [e]; exact hl) (by rw [e]; exact hst) ?_
  have e4 : HD0.take n ++ [(3, 5, 2), (1, 0, K), (1, 0, K)] = HD0.take (n + 3) := by
    rw [← cs_take (n := n + 2) hq.2.2, ← cs_take (n := n + 1) hq.2.1, ← cs_take hq.1, List.append_assoc, List.append_assoc]; rfl
  rw [e, e4, ← hR]; exact kk
theorem rc_putR {idx ci f t zz : Nat} (hd : decode mi.2.1 pc = .ok (.putfield idx, 3)) (F : FlK mi.1.cls idx ci f true) (hi : mi.1.name = "<init>") (ht : t < n) (hn : n ≤ 122) (ha : a < n) (hh : HD0[a]? = some (0, ci, zz)) (hr : (fTy ci f).isReference = true) (hv : ∀ q, narrow (fTy ci f) (.ref q) = .ref q ∧ fits (fTy ci f) (.ref q) = true) (hR : RU (k + 1) = upA (RU k) a (up1 (RU k a) f (some t))) (kk : Rn h mi (pc + 3) ls st (Cs n (k + 1) j X) Q) : Rn h mi pc ls (.ref t :: .ref a :: st) (Cs n k j X) Q :=
  rn_putR hd F hi (by rw [cs_len hn]; exact ht) (cs_at ha hh) hr hv (by rw [← hR]; exact kk)
theorem rc_aast {t m ci zz : Nat} (hd : decode mi.2.1 pc = .ok (.aastore, 1)) (ht : t = 6 ∧ ci = 5 ∨ t = 7 ∧ ci = 6 ∨ t = 8 ∧ ci = 7) (ha : a < n) (hb : b < n) (hh : HD0[a]? = some (3, t, m)) (hbh : HD0[b]? = some (0, ci, zz)) (hi : (0 ≤ i ∧ i < m) ∧ i ≤ 100000) (hR : RU (k + 1) = upA (RU k) a (up1 (RU k a) i.toNat (some b))) (kk : Rn h mi (pc + 1) ls st (Cs n (k + 1) j X) Q) : Rn h mi pc ls (.ref b :: zi i :: .ref a :: st) (Cs n k j X) Q := by
  have e2 := iz_toInt (z := i) (by omega)
  exact rn_aastore hd ht (cs_at ha hh) (cs_at hb hbh) (by rw [e2]; exact hi.1) (by rw [e2, ← hR]; exact kk)
theorem rc_iast {m : Nat} (hd : decode mi.2.1 pc = .ok (.iastore, 1)) (ha : a < n) (hh : HD0[a]? = some (1, 0, m)) (hi : (0 ≤ i ∧ i < m) ∧ i ≤ 100000) (hR : IU (j + 1) = upA (IU j) a (up1 (IU j a) i.toNat z)) (kk : Rn h mi (pc + 1) ls st (Cs n k (j + 1) X) Q) : Rn h mi pc ls (zi z :: zi i :: .ref a :: st) (Cs n k j X) Q := by
  have e2 := iz_toInt (z := i) (by omega)
  refine rn_iastore hd (cs_at ha hh) (by rw [e2]; exact hi.1) ?_
  rw [e2, st_up1, st_upI, ← hR]; exact kk
theorem rc_getR {idx ci f t zz : Nat} (hd : decode mi.2.1 pc = .ok (.getfield idx, 3)) (F : FlR mi.1.cls idx ci f) (ha : a < n) (hh : HD0[a]? = some (0, ci, zz)) (hr : (fTy ci f).isReference = true) (hR : RU k a f = some t) (kk : Rn h mi (pc + 3) ls (.ref t :: st) (Cs n k j X) Q) : Rn h mi pc ls (.ref a :: st) (Cs n k j X) Q := rn_getR hd F (cs_at ha hh) hr hR kk
theorem rc_call {mi' : MI} {As rest : List Value} {n0 n' k' j' : Nat} {idx : Nat} (hd : decode mi.2.1 pc = .ok (.invokespecial idx, 3)) (K : LkI mi.1.cls idx mi' n0) (hA : As.length = n0) (hn : n ≤ 122) (hs : st = As.reverse ++ .ref b :: rest) (hst : (rest.map fun v => v.category).sum ≤ 8) (hv : (entL0 (.ref b :: As)).length ≤ mi'.2.2.1) (hl : okL n ls = true) (hst2 : okS n rest = true)
    (E : MtV h mi' (.ref b :: As) (Cs n k j X) (fun M' => M' = Cs n' k' j' X)) (kk : Rn (h + 1) mi (pc + 3) ls rest (Cs n' k' j' X) Q) : Rn (h + 1) mi pc ls st (Cs n k j X) Q := by
  subst hs
  refine rn_callI As hd K hA hst hv (fun r M' _ => Or.inr ⟨fun i a h => ?_, fun a h => ?_⟩) E ?_ ?_
  · have q := okL_at hl i a h
    rw [← cs_len hn] at q; exact q
  · have q := okS_at hst2 a h
    rw [← cs_len hn] at q; exact q
  · rintro r M' ⟨e, -⟩; exact Or.inl e
  · rintro r M' ⟨rfl, rfl⟩; exact kk
end RCs
theorem df_0 : ∀ j, j < nF 0 → defaultValue (fTy 0 j) = if (fTy 0 j).isReference = true then .null else .int 0 := by decide +kernel
theorem df_1 : ∀ j, j < nF 1 → defaultValue (fTy 1 j) = if (fTy 1 j).isReference = true then .null else .int 0 := by decide +kernel
theorem df_2 : ∀ j, j < nF 2 → defaultValue (fTy 2 j) = if (fTy 2 j).isReference = true then .null else .int 0 := by decide +kernel
theorem df_3 : ∀ j, j < nF 3 → defaultValue (fTy 3 j) = if (fTy 3 j).isReference = true then .null else .int 0 := by decide +kernel
theorem df_4 : ∀ j, j < nF 4 → defaultValue (fTy 4 j) = if (fTy 4 j).isReference = true then .null else .int 0 := by decide +kernel
theorem df_5 : ∀ j, j < nF 5 → defaultValue (fTy 5 j) = if (fTy 5 j).isReference = true then .null else .int 0 := by decide +kernel
theorem df_6 : ∀ j, j < nF 6 → defaultValue (fTy 6 j) = if (fTy 6 j).isReference = true then .null else .int 0 := by decide +kernel
theorem df_7 : ∀ j, j < nF 7 → defaultValue (fTy 7 j) = if (fTy 7 j).isReference = true then .null else .int 0 := by decide +kernel
theorem df_8 : ∀ j, j < nF 8 → defaultValue (fTy 8 j) = if (fTy 8 j).isReference = true then .null else .int 0 := by decide +kernel
theorem df_9 : ∀ j, j < nF 9 → defaultValue (fTy 9 j) = if (fTy 9 j).isReference = true then .null else .int 0 := by decide +kernel
theorem df_10 : ∀ j, j < nF 10 → defaultValue (fTy 10 j) = if (fTy 10 j).isReference = true then .null else .int 0 := by decide +kernel
theorem df_11 : ∀ j, j < nF 11 → defaultValue (fTy 11 j) = if (fTy 11 j).isReference = true then .null else .int 0 := by decide +kernel
theorem df_12 : ∀ j, j < nF 12 → defaultValue (fTy 12 j) = if (fTy 12 j).isReference = true then .null else .int 0 := by decide +kernel
set_option maxRecDepth 20000 in
set_option maxHeartbeats 4000000 in
theorem ct_1_X4_init (X : pX) (h : Nat) : MtV (h + 1) mX4_init [.ref 1] (Cs 2 0 0 X) (fun M' => M' = Cs 6 4 0 X) := by
  show Rn (h + 1) mX4_init 0 [some (.ref 1)] [] (Cs 2 0 0 X) _
  refine rn_aload_n dX4_init_0 rfl ?_
  refine rn_objinit (Nat.succ_le_succ (Nat.zero_le _)) dX4_init_1 kl_RX4_1 (by decide) ?_
  refine rn_aload_n dX4_init_4 rfl ?_
  refine rn_bipush (v := iz (120)) dX4_init_5 (by decide) ?_
  refine rc_newarr (ty := .int) (t0 := 1) (t := 0) (N := 120) dX4_init_7 rfl rfl (fun C q => by cases q) (by decide) ka_int (by decide) (by decide) hd_2 (by decide) rfl rfl ?_
  refine rc_putR dX4_init_9 kp_RX4_9 rfl (by decide) (by decide) (by decide) hd_1 rfl (fun q => ⟨rfl, rfl⟩) rfl ?_
  refine rn_aload_n dX4_init_12 rfl ?_
  refine rn_bipush (v := iz (121)) dX4_init_13 (by decide) ?_
  refine rc_newarr (ty := .int) (t0 := 1) (t := 0) (N := 121) dX4_init_15 rfl rfl (fun C q => by cases q) (by decide) ka_int (by decide) (by decide) hd_3 (by decide) rfl rfl ?_
  refine rc_putR dX4_init_17 kp_RX4_13 rfl (by decide) (by decide) (by decide) hd_1 rfl (fun q => ⟨rfl, rfl⟩) rfl ?_
  refine rn_aload_n dX4_init_20 rfl ?_
  refine rn_bipush (v := iz (121)) dX4_init_21 (by decide) ?_
  refine rc_newarr (ty := .int) (t0 := 1) (t := 0) (N := 121) dX4_init_23 rfl rfl (fun C q => by cases q) (by decide) ka_int (by decide) (by decide) hd_4 (by decide) rfl rfl ?_
  refine rc_putR dX4_init_25 kp_RX4_16 rfl (by decide) (by decide) (by decide) hd_1 rfl (fun q => ⟨rfl, rfl⟩) rfl ?_
  refine rn_aload_n dX4_init_28 rfl ?_
  refine rn_bipush (v := iz (40)) dX4_init_29 (by decide) ?_
  refine rc_newarr (ty := .int) (t0 := 1) (t := 0) (N := 40) dX4_init_31 rfl rfl (fun C q => by cases q) (by decide) ka_int (by decide) (by decide) hd_5 (by decide) rfl rfl ?_
  refine rc_putR dX4_init_33 kp_RX4_19 rfl (by decide) (by decide) (by decide) hd_1 rfl (fun q => ⟨rfl, rfl⟩) rfl ?_
  exact rn_return dX4_init_36 rfl ⟨rfl, rfl⟩
set_option maxRecDepth 20000 in
set_option maxHeartbeats 4000000 in
theorem ct_2_X8_init (X : pX) (h : Nat) : MtV (h + 1) mX8_init [.ref 6, .ref 1] (Cs 7 5 0 X) (fun M' => M' = Cs 13 12 2 X) := by
  show Rn (h + 1) mX8_init 0 [some (.ref 6), some (.ref 1)] [] (Cs 7 5 0 X) _
  refine rn_aload_n dX8_init_0 rfl ?_
  refine rn_objinit (Nat.succ_le_succ (Nat.zero_le _)) dX8_init_1 kl_RX8_3 (by decide) ?_
  refine rn_aload_n dX8_init_4 rfl ?_
  refine rn_iconst (v := iz (5)) dX8_init_5 rfl ?_
  refine rc_newarr (ty := .int) (t0 := 1) (t := 0) (N := 5) dX8_init_6 rfl rfl (fun C q => by cases q) (by decide) ka_int (by decide) (by decide) hd_7 (by decide) rfl rfl ?_
  refine rc_putR dX8_init_8 kp_RX8_11 rfl (by decide) (by decide) (by decide) hd_6 rfl (fun q => ⟨rfl, rfl⟩) rfl ?_
  refine rn_aload_n dX8_init_11 rfl ?_
  refine rn_iconst (v := iz (5)) dX8_init_12 rfl ?_
  refine rc_newarr (ty := .int) (t0 := 1) (t := 0) (N := 5) dX8_init_13 rfl rfl (fun C q => by cases q) (by decide) ka_int (by decide) (by decide) hd_8 (by decide) rfl rfl ?_
  refine rc_putR dX8_init_15 kp_RX8_15 rfl (by decide) (by decide) (by decide) hd_6 rfl (fun q => ⟨rfl, rfl⟩) rfl ?_
  refine rn_aload_n dX8_init_18 rfl ?_
  refine rn_iconst (v := iz (5)) dX8_init_19 rfl ?_
  refine rc_newarr (ty := .int) (t0 := 1) (t := 0) (N := 5) dX8_init_20 rfl rfl (fun C q => by cases q) (by decide) ka_int (by decide) (by decide) hd_9 (by decide) rfl rfl ?_
  refine rc_putR dX8_init_22 kp_RX8_18 rfl (by decide) (by decide) (by decide) hd_6 rfl (fun q => ⟨rfl, rfl⟩) rfl ?_
  refine rn_aload_n dX8_init_25 rfl ?_
  refine rn_iconst (v := iz (2)) dX8_init_26 rfl ?_
  refine rc_newarr (ty := .int) (t0 := 1) (t := 0) (N := 2) dX8_init_27 rfl rfl (fun C q => by cases q) (by decide) ka_int (by decide) (by decide) hd_10 (by decide) rfl rfl ?_
  refine rn_dup dX8_init_29 rfl ?_
  refine rn_iconst (v := iz (0)) dX8_init_30 rfl ?_
  refine rn_bipush (v := iz (6)) dX8_init_31 (by decide) ?_
  refine rc_iast dX8_init_33 (by decide) hd_10 (by decide) rfl ?_
  refine rn_dup dX8_init_34 rfl ?_
  refine rn_iconst (v := iz (1)) dX8_init_35 rfl ?_
  refine rn_bipush (v := iz (6)) dX8_init_36 (by decide) ?_
  refine rc_iast dX8_init_38 (by decide) hd_10 (by decide) rfl ?_
  refine rc_putR dX8_init_39 kp_RX8_21 rfl (by decide) (by decide) (by decide) hd_6 rfl (fun q => ⟨rfl, rfl⟩) rfl ?_
  refine rn_aload_n dX8_init_42 rfl ?_
  refine rn_sipush (v := iz (500)) dX8_init_43 (by decide) ?_
  refine rc_newarr (ty := .int) (t0 := 1) (t := 0) (N := 500) dX8_init_46 rfl rfl (fun C q => by cases q) (by decide) ka_int (by decide) (by decide) hd_11 (by decide) rfl rfl ?_
  refine rc_putR dX8_init_48 kp_RX8_24 rfl (by decide) (by decide) (by decide) hd_6 rfl (fun q => ⟨rfl, rfl⟩) rfl ?_
  refine rn_aload_n dX8_init_51 rfl ?_
  refine rn_iconst (v := iz (5)) dX8_init_52 rfl ?_
  refine rc_newarr (ty := .boolean) (t0 := 1) (t := 3) (N := 5) dX8_init_53 rfl rfl (fun C q => by cases q) (by decide) ka_boolean (by decide) (by decide) hd_12 (by decide) rfl rfl ?_
  refine rc_putR dX8_init_55 kp_RX8_27 rfl (by decide) (by decide) (by decide) hd_6 rfl (fun q => ⟨rfl, rfl⟩) rfl ?_
  refine rn_aload_n dX8_init_58 rfl ?_
  refine rn_aload_n dX8_init_59 rfl ?_
  refine rc_putR dX8_init_60 kp_RX8_31 rfl (by decide) (by decide) (by decide) hd_6 rfl (fun q => ⟨rfl, rfl⟩) rfl ?_
  exact rn_return dX8_init_63 rfl ⟨rfl, rfl⟩
set_option maxRecDepth 20000 in
set_option maxHeartbeats 4000000 in
theorem ct_3_X5_init (X : pX) (h : Nat) : MtV (h + 1) mX5_init [.ref 14] (Cs 15 13 2 X) (fun M' => M' = Cs 17 15 2 X) := by
  show Rn (h + 1) mX5_init 0 [some (.ref 14)] [] (Cs 15 13 2 X) _
  refine rn_aload_n dX5_init_0 rfl ?_
  refine rn_objinit (Nat.succ_le_succ (Nat.zero_le _)) dX5_init_1 kl_RX5_1 (by decide) ?_
  refine rn_aload_n dX5_init_4 rfl ?_
  refine rn_bipush (v := iz (8)) dX5_init_5 (by decide) ?_
  refine rc_newarr (ty := .int) (t0 := 1) (t := 0) (N := 8) dX5_init_7 rfl rfl (fun C q => by cases q) (by decide) ka_int (by decide) (by decide) hd_15 (by decide) rfl rfl ?_
  refine rc_putR dX5_init_9 kp_RX5_9 rfl (by decide) (by decide) (by decide) hd_14 rfl (fun q => ⟨rfl, rfl⟩) rfl ?_
  refine rn_aload_n dX5_init_12 rfl ?_
  refine rn_bipush (v := iz (40)) dX5_init_13 (by decide) ?_
  refine rc_newarr (ty := .int) (t0 := 1) (t := 0) (N := 40) dX5_init_15 rfl rfl (fun C q => by cases q) (by decide) ka_int (by decide) (by decide) hd_16 (by decide) rfl rfl ?_
  refine rc_putR dX5_init_17 kp_RX5_15 rfl (by decide) (by decide) (by decide) hd_14 rfl (fun q => ⟨rfl, rfl⟩) rfl ?_
  exact rn_return dX5_init_20 rfl ⟨rfl, rfl⟩
set_option maxRecDepth 20000 in
set_option maxHeartbeats 4000000 in
theorem ct_4_X5_init (X : pX) (h : Nat) : MtV (h + 1) mX5_init [.ref 17] (Cs 18 16 2 X) (fun M' => M' = Cs 20 18 2 X) := by
  show Rn (h + 1) mX5_init 0 [some (.ref 17)] [] (Cs 18 16 2 X) _
  refine rn_aload_n dX5_init_0 rfl ?_
  refine rn_objinit (Nat.succ_le_succ (Nat.zero_le _)) dX5_init_1 kl_RX5_1 (by decide) ?_
  refine rn_aload_n dX5_init_4 rfl ?_
  refine rn_bipush (v := iz (8)) dX5_init_5 (by decide) ?_
  refine rc_newarr (ty := .int) (t0 := 1) (t := 0) (N := 8) dX5_init_7 rfl rfl (fun C q => by cases q) (by decide) ka_int (by decide) (by decide) hd_18 (by decide) rfl rfl ?_
  refine rc_putR dX5_init_9 kp_RX5_9 rfl (by decide) (by decide) (by decide) hd_17 rfl (fun q => ⟨rfl, rfl⟩) rfl ?_
  refine rn_aload_n dX5_init_12 rfl ?_
  refine rn_bipush (v := iz (40)) dX5_init_13 (by decide) ?_
  refine rc_newarr (ty := .int) (t0 := 1) (t := 0) (N := 40) dX5_init_15 rfl rfl (fun C q => by cases q) (by decide) ka_int (by decide) (by decide) hd_19 (by decide) rfl rfl ?_
  refine rc_putR dX5_init_17 kp_RX5_15 rfl (by decide) (by decide) (by decide) hd_17 rfl (fun q => ⟨rfl, rfl⟩) rfl ?_
  exact rn_return dX5_init_20 rfl ⟨rfl, rfl⟩
set_option maxRecDepth 20000 in
set_option maxHeartbeats 4000000 in
theorem ct_5_X5_init (X : pX) (h : Nat) : MtV (h + 1) mX5_init [.ref 21] (Cs 22 20 2 X) (fun M' => M' = Cs 24 22 2 X) := by
  show Rn (h + 1) mX5_init 0 [some (.ref 21)] [] (Cs 22 20 2 X) _
  refine rn_aload_n dX5_init_0 rfl ?_
  refine rn_objinit (Nat.succ_le_succ (Nat.zero_le _)) dX5_init_1 kl_RX5_1 (by decide) ?_
  refine rn_aload_n dX5_init_4 rfl ?_
  refine rn_bipush (v := iz (8)) dX5_init_5 (by decide) ?_
  refine rc_newarr (ty := .int) (t0 := 1) (t := 0) (N := 8) dX5_init_7 rfl rfl (fun C q => by cases q) (by decide) ka_int (by decide) (by decide) hd_22 (by decide) rfl rfl ?_
  refine rc_putR dX5_init_9 kp_RX5_9 rfl (by decide) (by decide) (by decide) hd_21 rfl (fun q => ⟨rfl, rfl⟩) rfl ?_
  refine rn_aload_n dX5_init_12 rfl ?_
  refine rn_bipush (v := iz (40)) dX5_init_13 (by decide) ?_
  refine rc_newarr (ty := .int) (t0 := 1) (t := 0) (N := 40) dX5_init_15 rfl rfl (fun C q => by cases q) (by decide) ka_int (by decide) (by decide) hd_23 (by decide) rfl rfl ?_
  refine rc_putR dX5_init_17 kp_RX5_15 rfl (by decide) (by decide) (by decide) hd_21 rfl (fun q => ⟨rfl, rfl⟩) rfl ?_
  exact rn_return dX5_init_20 rfl ⟨rfl, rfl⟩
set_option maxRecDepth 20000 in
set_option maxHeartbeats 4000000 in
theorem ct_6_X5_init (X : pX) (h : Nat) : MtV (h + 1) mX5_init [.ref 24] (Cs 25 23 2 X) (fun M' => M' = Cs 27 25 2 X) := by
  show Rn (h + 1) mX5_init 0 [some (.ref 24)] [] (Cs 25 23 2 X) _
  refine rn_aload_n dX5_init_0 rfl ?_
  refine rn_objinit (Nat.succ_le_succ (Nat.zero_le _)) dX5_init_1 kl_RX5_1 (by decide) ?_
  refine rn_aload_n dX5_init_4 rfl ?_
  refine rn_bipush (v := iz (8)) dX5_init_5 (by decide) ?_
  refine rc_newarr (ty := .int) (t0 := 1) (t := 0) (N := 8) dX5_init_7 rfl rfl (fun C q => by cases q) (by decide) ka_int (by decide) (by decide) hd_25 (by decide) rfl rfl ?_
  refine rc_putR dX5_init_9 kp_RX5_9 rfl (by decide) (by decide) (by decide) hd_24 rfl (fun q => ⟨rfl, rfl⟩) rfl ?_
  refine rn_aload_n dX5_init_12 rfl ?_
  refine rn_bipush (v := iz (40)) dX5_init_13 (by decide) ?_
  refine rc_newarr (ty := .int) (t0 := 1) (t := 0) (N := 40) dX5_init_15 rfl rfl (fun C q => by cases q) (by decide) ka_int (by decide) (by decide) hd_26 (by decide) rfl rfl ?_
  refine rc_putR dX5_init_17 kp_RX5_15 rfl (by decide) (by decide) (by decide) hd_24 rfl (fun q => ⟨rfl, rfl⟩) rfl ?_
  exact rn_return dX5_init_20 rfl ⟨rfl, rfl⟩
set_option maxRecDepth 20000 in
set_option maxHeartbeats 4000000 in
theorem ct_7_X6_init (X : pX) (h : Nat) : MtV (h + 1) mX6_init [.ref 28] (Cs 29 29 2 X) (fun M' => M' = Cs 31 31 2 X) := by
  show Rn (h + 1) mX6_init 0 [some (.ref 28)] [] (Cs 29 29 2 X) _
  refine rn_aload_n dX6_init_0 rfl ?_
  refine rn_objinit (Nat.succ_le_succ (Nat.zero_le _)) dX6_init_1 kl_RX6_1 (by decide) ?_
  refine rn_aload_n dX6_init_4 rfl ?_
  refine rn_bipush (v := iz (50)) dX6_init_5 (by decide) ?_
  refine rc_newarr (ty := .int) (t0 := 1) (t := 0) (N := 50) dX6_init_7 rfl rfl (fun C q => by cases q) (by decide) ka_int (by decide) (by decide) hd_29 (by decide) rfl rfl ?_
  refine rc_putR dX6_init_9 kp_RX6_9 rfl (by decide) (by decide) (by decide) hd_28 rfl (fun q => ⟨rfl, rfl⟩) rfl ?_
  refine rn_aload_n dX6_init_12 rfl ?_
  refine rn_bipush (v := iz (60)) dX6_init_13 (by decide) ?_
  refine rc_newarr (ty := .int) (t0 := 1) (t := 0) (N := 60) dX6_init_15 rfl rfl (fun C q => by cases q) (by decide) ka_int (by decide) (by decide) hd_30 (by decide) rfl rfl ?_
  refine rc_putR dX6_init_17 kp_RX6_15 rfl (by decide) (by decide) (by decide) hd_28 rfl (fun q => ⟨rfl, rfl⟩) rfl ?_
  exact rn_return dX6_init_20 rfl ⟨rfl, rfl⟩
set_option maxRecDepth 20000 in
set_option maxHeartbeats 4000000 in
theorem ct_8_X9_init (X : pX) (h : Nat) : MtV (h + 2) mX9_init [.ref 27, .ref 6, .ref 13] (Cs 28 27 2 X) (fun M' => M' = Cs 32 33 2 X) := by
  show Rn (h + 2) mX9_init 0 [some (.ref 27), some (.ref 6), some (.ref 13)] [] (Cs 28 27 2 X) _
  refine rn_aload_n dX9_init_0 rfl ?_
  refine rn_objinit (Nat.succ_le_succ (Nat.zero_le _)) dX9_init_1 kl_RX9_3 (by decide) ?_
  refine rn_aload_n dX9_init_4 rfl ?_
  refine rn_aload_n dX9_init_5 rfl ?_
  refine rc_putR dX9_init_6 kp_RX9_9 rfl (by decide) (by decide) (by decide) hd_27 rfl (fun q => ⟨rfl, rfl⟩) rfl ?_
  refine rn_aload_n dX9_init_9 rfl ?_
  refine rn_aload_n dX9_init_10 rfl ?_
  refine rc_putR dX9_init_11 kp_RX9_15 rfl (by decide) (by decide) (by decide) hd_27 rfl (fun q => ⟨rfl, rfl⟩) rfl ?_
  refine rn_aload_n dX9_init_14 rfl ?_
  refine rc_new dX9_init_15 rfl kC_6 kn_RX9_19 df_6 hd_28 (by decide) rfl rfl ?_
  refine rn_dup dX9_init_18 rfl ?_
  refine rc_call dX9_init_19 kl_RX9_21 rfl (by decide) rfl (by decide) (by decide) rfl rfl (ct_7_X6_init X _) ?_
  refine rc_putR dX9_init_22 kp_RX9_22 rfl (by decide) (by decide) (by decide) hd_27 rfl (fun q => ⟨rfl, rfl⟩) rfl ?_
  refine rn_aload_n dX9_init_25 rfl ?_
  refine rn_iconst (v := iz (5)) dX9_init_26 rfl ?_
  refine rc_newarr (ty := .int) (t0 := 1) (t := 0) (N := 5) dX9_init_27 rfl rfl (fun C q => by cases q) (by decide) ka_int (by decide) (by decide) hd_31 (by decide) rfl rfl ?_
  refine rc_putR dX9_init_29 kp_RX9_28 rfl (by decide) (by decide) (by decide) hd_27 rfl (fun q => ⟨rfl, rfl⟩) rfl ?_
  exact rn_return dX9_init_32 rfl ⟨rfl, rfl⟩
set_option maxRecDepth 20000 in
set_option maxHeartbeats 4000000 in
theorem ct_9_X10_init (X : pX) (h : Nat) : MtV (h + 1) mX10_init [.ref 33] (Cs 34 35 2 X) (fun M' => M' = Cs 35 36 2 X) := by
  show Rn (h + 1) mX10_init 0 [some (.ref 33)] [] (Cs 34 35 2 X) _
  refine rn_aload_n dX10_init_0 rfl ?_
  refine rn_objinit (Nat.succ_le_succ (Nat.zero_le _)) dX10_init_1 kl_RX10_1 (by decide) ?_
  refine rn_aload_n dX10_init_4 rfl ?_
  refine rn_iconst (v := iz (5)) dX10_init_5 rfl ?_
  refine rc_newarr (ty := .int) (t0 := 1) (t := 0) (N := 5) dX10_init_6 rfl rfl (fun C q => by cases q) (by decide) ka_int (by decide) (by decide) hd_34 (by decide) rfl rfl ?_
  refine rc_putR dX10_init_8 kp_RX10_9 rfl (by decide) (by decide) (by decide) hd_33 rfl (fun q => ⟨rfl, rfl⟩) rfl ?_
  exact rn_return dX10_init_11 rfl ⟨rfl, rfl⟩
set_option maxRecDepth 20000 in
set_option maxHeartbeats 4000000 in
theorem ct_10_X6_init (X : pX) (h : Nat) : MtV (h + 1) mX6_init [.ref 35] (Cs 36 37 2 X) (fun M' => M' = Cs 38 39 2 X) := by
  show Rn (h + 1) mX6_init 0 [some (.ref 35)] [] (Cs 36 37 2 X) _
  refine rn_aload_n dX6_init_0 rfl ?_
  refine rn_objinit (Nat.succ_le_succ (Nat.zero_le _)) dX6_init_1 kl_RX6_1 (by decide) ?_
  refine rn_aload_n dX6_init_4 rfl ?_
  refine rn_bipush (v := iz (50)) dX6_init_5 (by decide) ?_
  refine rc_newarr (ty := .int) (t0 := 1) (t := 0) (N := 50) dX6_init_7 rfl rfl (fun C q => by cases q) (by decide) ka_int (by decide) (by decide) hd_36 (by decide) rfl rfl ?_
  refine rc_putR dX6_init_9 kp_RX6_9 rfl (by decide) (by decide) (by decide) hd_35 rfl (fun q => ⟨rfl, rfl⟩) rfl ?_
  refine rn_aload_n dX6_init_12 rfl ?_
  refine rn_bipush (v := iz (60)) dX6_init_13 (by decide) ?_
  refine rc_newarr (ty := .int) (t0 := 1) (t := 0) (N := 60) dX6_init_15 rfl rfl (fun C q => by cases q) (by decide) ka_int (by decide) (by decide) hd_37 (by decide) rfl rfl ?_
  refine rc_putR dX6_init_17 kp_RX6_15 rfl (by decide) (by decide) (by decide) hd_35 rfl (fun q => ⟨rfl, rfl⟩) rfl ?_
  exact rn_return dX6_init_20 rfl ⟨rfl, rfl⟩
set_option maxRecDepth 20000 in
set_option maxHeartbeats 4000000 in
theorem ct_11_X3_init (X : pX) (h : Nat) : MtV (h + 2) mX3_init [.ref 32, .ref 6] (Cs 33 34 2 X) (fun M' => M' = Cs 47 48 2 X) := by
  show Rn (h + 2) mX3_init 0 [some (.ref 32), some (.ref 6)] [] (Cs 33 34 2 X) _
  refine rn_aload_n dX3_init_0 rfl ?_
  refine rn_objinit (Nat.succ_le_succ (Nat.zero_le _)) dX3_init_1 kl_RX3_1 (by decide) ?_
  refine rn_aload_n dX3_init_4 rfl ?_
  refine rn_aload_n dX3_init_5 rfl ?_
  refine rc_putR dX3_init_6 kp_RX3_7 rfl (by decide) (by decide) (by decide) hd_32 rfl (fun q => ⟨rfl, rfl⟩) rfl ?_
  refine rn_aload_n dX3_init_9 rfl ?_
  refine rc_new dX3_init_10 rfl kC_10 kn_RX3_13 df_10 hd_33 (by decide) rfl rfl ?_
  refine rn_dup dX3_init_13 rfl ?_
  refine rc_call dX3_init_14 kl_RX3_15 rfl (by decide) rfl (by decide) (by decide) rfl rfl (ct_9_X10_init X _) ?_
  refine rc_putR dX3_init_17 kp_RX3_16 rfl (by decide) (by decide) (by decide) hd_32 rfl (fun q => ⟨rfl, rfl⟩) rfl ?_
  refine rn_aload_n dX3_init_20 rfl ?_
  refine rc_new dX3_init_21 rfl kC_6 kn_RX3_20 df_6 hd_35 (by decide) rfl rfl ?_
  refine rn_dup dX3_init_24 rfl ?_
  refine rc_call dX3_init_25 kl_RX3_22 rfl (by decide) rfl (by decide) (by decide) rfl rfl (ct_10_X6_init X _) ?_
  refine rc_putR dX3_init_28 kp_RX3_23 rfl (by decide) (by decide) (by decide) hd_32 rfl (fun q => ⟨rfl, rfl⟩) rfl ?_
  refine rn_aload_n dX3_init_31 rfl ?_
  refine rn_iconst (v := iz (2)) dX3_init_32 rfl ?_
  refine rc_newarr (ty := .int) (t0 := 1) (t := 0) (N := 2) dX3_init_33 rfl rfl (fun C q => by cases q) (by decide) ka_int (by decide) (by decide) hd_38 (by decide) rfl rfl ?_
  refine rc_putR dX3_init_35 kp_RX3_27 rfl (by decide) (by decide) (by decide) hd_32 rfl (fun q => ⟨rfl, rfl⟩) rfl ?_
  refine rn_aload_n dX3_init_38 rfl ?_
  refine rn_iconst (v := iz (2)) dX3_init_39 rfl ?_
  refine rn_sipush (v := iz (1500)) dX3_init_40 (by decide) ?_
  refine rc_multi (K := 1500) dX3_init_43 ⟨(by rw [str2]; exact kn_RX3_33), ka_int⟩ rfl (by decide) ⟨hd_39, hd_40, hd_41⟩ (by decide) rfl rfl rfl ?_
  refine rc_putR dX3_init_47 kp_RX3_35 rfl (by decide) (by decide) (by decide) hd_32 rfl (fun q => ⟨rfl, rfl⟩) rfl ?_
  refine rn_aload_n dX3_init_50 rfl ?_
  refine rn_iconst (v := iz (3)) dX3_init_51 rfl ?_
  refine rc_newarr (ty := .int) (t0 := 1) (t := 0) (N := 3) dX3_init_52 rfl rfl (fun C q => by cases q) (by decide) ka_int (by decide) (by decide) hd_42 (by decide) rfl rfl ?_
  refine rc_putR dX3_init_54 kp_RX3_38 rfl (by decide) (by decide) (by decide) hd_32 rfl (fun q => ⟨rfl, rfl⟩) rfl ?_
  refine rn_aload_n dX3_init_57 rfl ?_
  refine rn_iconst (v := iz (2)) dX3_init_58 rfl ?_
  refine rc_newarr (ty := .int) (t0 := 1) (t := 0) (N := 2) dX3_init_59 rfl rfl (fun C q => by cases q) (by decide) ka_int (by decide) (by decide) hd_43 (by decide) rfl rfl ?_
  refine rc_putR dX3_init_61 kp_RX3_41 rfl (by decide) (by decide) (by decide) hd_32 rfl (fun q => ⟨rfl, rfl⟩) rfl ?_
  refine rn_aload_n dX3_init_64 rfl ?_
  refine rn_sipush (v := iz (1500)) dX3_init_65 (by decide) ?_
  refine rc_newarr (ty := .long) (t0 := 2) (t := 4) (N := 1500) dX3_init_68 rfl rfl (fun C q => by cases q) (by decide) ka_long (by decide) (by decide) hd_44 (by decide) rfl rfl ?_
  refine rc_putR dX3_init_70 kp_RX3_44 rfl (by decide) (by decide) (by decide) hd_32 rfl (fun q => ⟨rfl, rfl⟩) rfl ?_
  refine rn_aload_n dX3_init_73 rfl ?_
  refine rn_sipush (v := iz (1500)) dX3_init_74 (by decide) ?_
  refine rc_newarr (ty := .long) (t0 := 2) (t := 4) (N := 1500) dX3_init_77 rfl rfl (fun C q => by cases q) (by decide) ka_long (by decide) (by decide) hd_45 (by decide) rfl rfl ?_
  refine rc_putR dX3_init_79 kp_RX3_48 rfl (by decide) (by decide) (by decide) hd_32 rfl (fun q => ⟨rfl, rfl⟩) rfl ?_
  refine rn_aload_n dX3_init_82 rfl ?_
  refine rn_bipush (v := iz (50)) dX3_init_83 (by decide) ?_
  refine rc_newarr (ty := .int) (t0 := 1) (t := 0) (N := 50) dX3_init_85 rfl rfl (fun C q => by cases q) (by decide) ka_int (by decide) (by decide) hd_46 (by decide) rfl rfl ?_
  refine rc_putR dX3_init_87 kp_RX3_51 rfl (by decide) (by decide) (by decide) hd_32 rfl (fun q => ⟨rfl, rfl⟩) rfl ?_
  exact rn_return dX3_init_90 rfl ⟨rfl, rfl⟩
set_option maxRecDepth 20000 in
set_option maxHeartbeats 4000000 in
theorem ct_12_X6_init (X : pX) (h : Nat) : MtV (h + 1) mX6_init [.ref 49] (Cs 50 51 2 X) (fun M' => M' = Cs 52 53 2 X) := by
  show Rn (h + 1) mX6_init 0 [some (.ref 49)] [] (Cs 50 51 2 X) _
  refine rn_aload_n dX6_init_0 rfl ?_
  refine rn_objinit (Nat.succ_le_succ (Nat.zero_le _)) dX6_init_1 kl_RX6_1 (by decide) ?_
  refine rn_aload_n dX6_init_4 rfl ?_
  refine rn_bipush (v := iz (50)) dX6_init_5 (by decide) ?_
  refine rc_newarr (ty := .int) (t0 := 1) (t := 0) (N := 50) dX6_init_7 rfl rfl (fun C q => by cases q) (by decide) ka_int (by decide) (by decide) hd_50 (by decide) rfl rfl ?_
  refine rc_putR dX6_init_9 kp_RX6_9 rfl (by decide) (by decide) (by decide) hd_49 rfl (fun q => ⟨rfl, rfl⟩) rfl ?_
  refine rn_aload_n dX6_init_12 rfl ?_
  refine rn_bipush (v := iz (60)) dX6_init_13 (by decide) ?_
  refine rc_newarr (ty := .int) (t0 := 1) (t := 0) (N := 60) dX6_init_15 rfl rfl (fun C q => by cases q) (by decide) ka_int (by decide) (by decide) hd_51 (by decide) rfl rfl ?_
  refine rc_putR dX6_init_17 kp_RX6_15 rfl (by decide) (by decide) (by decide) hd_49 rfl (fun q => ⟨rfl, rfl⟩) rfl ?_
  exact rn_return dX6_init_20 rfl ⟨rfl, rfl⟩
set_option maxRecDepth 20000 in
set_option maxHeartbeats 4000000 in
theorem ct_13_X6_init (X : pX) (h : Nat) : MtV (h + 1) mX6_init [.ref 52] (Cs 53 54 2 X) (fun M' => M' = Cs 55 56 2 X) := by
  show Rn (h + 1) mX6_init 0 [some (.ref 52)] [] (Cs 53 54 2 X) _
  refine rn_aload_n dX6_init_0 rfl ?_
  refine rn_objinit (Nat.succ_le_succ (Nat.zero_le _)) dX6_init_1 kl_RX6_1 (by decide) ?_
  refine rn_aload_n dX6_init_4 rfl ?_
  refine rn_bipush (v := iz (50)) dX6_init_5 (by decide) ?_
  refine rc_newarr (ty := .int) (t0 := 1) (t := 0) (N := 50) dX6_init_7 rfl rfl (fun C q => by cases q) (by decide) ka_int (by decide) (by decide) hd_53 (by decide) rfl rfl ?_
  refine rc_putR dX6_init_9 kp_RX6_9 rfl (by decide) (by decide) (by decide) hd_52 rfl (fun q => ⟨rfl, rfl⟩) rfl ?_
  refine rn_aload_n dX6_init_12 rfl ?_
  refine rn_bipush (v := iz (60)) dX6_init_13 (by decide) ?_
  refine rc_newarr (ty := .int) (t0 := 1) (t := 0) (N := 60) dX6_init_15 rfl rfl (fun C q => by cases q) (by decide) ka_int (by decide) (by decide) hd_54 (by decide) rfl rfl ?_
  refine rc_putR dX6_init_17 kp_RX6_15 rfl (by decide) (by decide) (by decide) hd_52 rfl (fun q => ⟨rfl, rfl⟩) rfl ?_
  exact rn_return dX6_init_20 rfl ⟨rfl, rfl⟩
set_option maxRecDepth 20000 in
set_option maxHeartbeats 4000000 in
theorem ct_14_X2_init (X : pX) (h : Nat) : MtV (h + 2) mX2_init [.ref 47, .ref 6, .ref 13] (Cs 48 49 2 X) (fun M' => M' = Cs 58 60 2 X) := by
  show Rn (h + 2) mX2_init 0 [some (.ref 47), some (.ref 6), some (.ref 13)] [] (Cs 48 49 2 X) _
  refine rn_aload_n dX2_init_0 rfl ?_
  refine rn_objinit (Nat.succ_le_succ (Nat.zero_le _)) dX2_init_1 kl_RX2_1 (by decide) ?_
  refine rn_aload_n dX2_init_4 rfl ?_
  refine rn_aload_n dX2_init_5 rfl ?_
  refine rc_putR dX2_init_6 kp_RX2_7 rfl (by decide) (by decide) (by decide) hd_47 rfl (fun q => ⟨rfl, rfl⟩) rfl ?_
  refine rn_aload_n dX2_init_9 rfl ?_
  refine rn_aload_n dX2_init_10 rfl ?_
  refine rc_putR dX2_init_11 kp_RX2_13 rfl (by decide) (by decide) (by decide) hd_47 rfl (fun q => ⟨rfl, rfl⟩) rfl ?_
  refine rn_aload_n dX2_init_14 rfl ?_
  refine rn_iconst (v := iz (2)) dX2_init_15 rfl ?_
  refine rc_anewarr (t := 7) (N := 2) dX2_init_16 (by decide) kn_RX2_17.1 (by decide) hd_48 (by decide) rfl rfl ?_
  refine rn_dup dX2_init_19 rfl ?_
  refine rn_iconst (v := iz (0)) dX2_init_20 rfl ?_
  refine rc_new dX2_init_21 rfl kC_6 kn_RX2_17 df_6 hd_49 (by decide) rfl rfl ?_
  refine rn_dup dX2_init_24 rfl ?_
  refine rc_call dX2_init_25 kl_RX2_19 rfl (by decide) rfl (by decide) (by decide) rfl rfl (ct_12_X6_init X _) ?_
  refine rc_aast dX2_init_28 (by decide) (by decide) (by decide) hd_48 hd_49 (by decide) rfl ?_
  refine rn_dup dX2_init_29 rfl ?_
  refine rn_iconst (v := iz (1)) dX2_init_30 rfl ?_
  refine rc_new dX2_init_31 rfl kC_6 kn_RX2_17 df_6 hd_52 (by decide) rfl rfl ?_
  refine rn_dup dX2_init_34 rfl ?_
  refine rc_call dX2_init_35 kl_RX2_19 rfl (by decide) rfl (by decide) (by decide) rfl rfl (ct_13_X6_init X _) ?_
  refine rc_aast dX2_init_38 (by decide) (by decide) (by decide) hd_48 hd_52 (by decide) rfl ?_
  refine rc_putR dX2_init_39 kp_RX2_20 rfl (by decide) (by decide) (by decide) hd_47 rfl (fun q => ⟨rfl, rfl⟩) rfl ?_
  refine rn_aload_n dX2_init_42 rfl ?_
  refine rn_iconst (v := iz (2)) dX2_init_43 rfl ?_
  refine rn_iconst (v := iz (5)) dX2_init_44 rfl ?_
  refine rc_multi (K := 5) dX2_init_45 ⟨(by rw [str2]; exact kn_RX2_26), ka_int⟩ rfl (by decide) ⟨hd_55, hd_56, hd_57⟩ (by decide) rfl rfl rfl ?_
  refine rc_putR dX2_init_49 kp_RX2_28 rfl (by decide) (by decide) (by decide) hd_47 rfl (fun q => ⟨rfl, rfl⟩) rfl ?_
  exact rn_return dX2_init_52 rfl ⟨rfl, rfl⟩
set_option maxRecDepth 20000 in
set_option maxHeartbeats 4000000 in
theorem ct_15_X1_init (X : pX) (h : Nat) : MtV (h + 1) mX1_init [.ref 58] (Cs 59 61 2 X) (fun M' => M' = Cs 63 65 2 X) := by
  show Rn (h + 1) mX1_init 0 [some (.ref 58)] [] (Cs 59 61 2 X) _
  refine rn_aload_n dX1_init_0 rfl ?_
  refine rn_objinit (Nat.succ_le_succ (Nat.zero_le _)) dX1_init_1 kl_RX1_1 (by decide) ?_
  refine rn_aload_n dX1_init_4 rfl ?_
  refine rn_bipush (v := iz (40)) dX1_init_5 (by decide) ?_
  refine rc_newarr (ty := .int) (t0 := 1) (t := 0) (N := 40) dX1_init_7 rfl rfl (fun C q => by cases q) (by decide) ka_int (by decide) (by decide) hd_59 (by decide) rfl rfl ?_
  refine rc_putR dX1_init_9 kp_RX1_9 rfl (by decide) (by decide) (by decide) hd_58 rfl (fun q => ⟨rfl, rfl⟩) rfl ?_
  refine rn_aload_n dX1_init_12 rfl ?_
  refine rn_bipush (v := iz (40)) dX1_init_13 (by decide) ?_
  refine rc_newarr (ty := .int) (t0 := 1) (t := 0) (N := 40) dX1_init_15 rfl rfl (fun C q => by cases q) (by decide) ka_int (by decide) (by decide) hd_60 (by decide) rfl rfl ?_
  refine rc_putR dX1_init_17 kp_RX1_13 rfl (by decide) (by decide) (by decide) hd_58 rfl (fun q => ⟨rfl, rfl⟩) rfl ?_
  refine rn_aload_n dX1_init_20 rfl ?_
  refine rn_bipush (v := iz (40)) dX1_init_21 (by decide) ?_
  refine rc_newarr (ty := .int) (t0 := 1) (t := 0) (N := 40) dX1_init_23 rfl rfl (fun C q => by cases q) (by decide) ka_int (by decide) (by decide) hd_61 (by decide) rfl rfl ?_
  refine rc_putR dX1_init_25 kp_RX1_16 rfl (by decide) (by decide) (by decide) hd_58 rfl (fun q => ⟨rfl, rfl⟩) rfl ?_
  refine rn_aload_n dX1_init_28 rfl ?_
  refine rn_bipush (v := iz (40)) dX1_init_29 (by decide) ?_
  refine rc_newarr (ty := .int) (t0 := 1) (t := 0) (N := 40) dX1_init_31 rfl rfl (fun C q => by cases q) (by decide) ka_int (by decide) (by decide) hd_62 (by decide) rfl rfl ?_
  refine rc_putR dX1_init_33 kp_RX1_19 rfl (by decide) (by decide) (by decide) hd_58 rfl (fun q => ⟨rfl, rfl⟩) rfl ?_
  exact rn_return dX1_init_36 rfl ⟨rfl, rfl⟩
set_option maxRecDepth 20000 in
set_option maxHeartbeats 4000000 in
theorem ct_16_X0_init (X : pX) (h : Nat) : MtV (h + 1) mX0_init [.ref 63] (Cs 64 66 2 X) (fun M' => M' = Cs 66 68 2 X) := by
  show Rn (h + 1) mX0_init 0 [some (.ref 63)] [] (Cs 64 66 2 X) _
  refine rn_aload_n dX0_init_0 rfl ?_
  refine rn_objinit (Nat.succ_le_succ (Nat.zero_le _)) dX0_init_1 kl_RX0_1 (by decide) ?_
  refine rn_aload_n dX0_init_4 rfl ?_
  refine rn_bipush (v := iz (24)) dX0_init_5 (by decide) ?_
  refine rc_newarr (ty := .int) (t0 := 1) (t := 0) (N := 24) dX0_init_7 rfl rfl (fun C q => by cases q) (by decide) ka_int (by decide) (by decide) hd_64 (by decide) rfl rfl ?_
  refine rc_putR dX0_init_9 kp_RX0_9 rfl (by decide) (by decide) (by decide) hd_63 rfl (fun q => ⟨rfl, rfl⟩) rfl ?_
  refine rn_aload_n dX0_init_12 rfl ?_
  refine rn_bipush (v := iz (50)) dX0_init_13 (by decide) ?_
  refine rc_newarr (ty := .int) (t0 := 1) (t := 0) (N := 50) dX0_init_15 rfl rfl (fun C q => by cases q) (by decide) ka_int (by decide) (by decide) hd_65 (by decide) rfl rfl ?_
  refine rc_putR dX0_init_17 kp_RX0_13 rfl (by decide) (by decide) (by decide) hd_63 rfl (fun q => ⟨rfl, rfl⟩) rfl ?_
  exact rn_return dX0_init_20 rfl ⟨rfl, rfl⟩
set_option maxRecDepth 20000 in
set_option maxHeartbeats 4000000 in
theorem ct_17_X7_init (X : pX) (h : Nat) : MtV (h + 1) mX7_init [.ref 67] (Cs 68 70 2 X) (fun M' => M' = Cs 69 71 2 X) := by
  show Rn (h + 1) mX7_init 0 [some (.ref 67)] [] (Cs 68 70 2 X) _
  refine rn_aload_n dX7_init_0 rfl ?_
  refine rn_objinit (Nat.succ_le_succ (Nat.zero_le _)) dX7_init_1 kl_RX7_3 (by decide) ?_
  refine rn_aload_n dX7_init_4 rfl ?_
  refine rn_bipush (v := iz (60)) dX7_init_5 (by decide) ?_
  refine rc_newarr (ty := .long) (t0 := 2) (t := 4) (N := 60) dX7_init_7 rfl rfl (fun C q => by cases q) (by decide) ka_long (by decide) (by decide) hd_68 (by decide) rfl rfl ?_
  refine rc_putR dX7_init_9 kp_RX7_11 rfl (by decide) (by decide) (by decide) hd_67 rfl (fun q => ⟨rfl, rfl⟩) rfl ?_
  exact rn_return dX7_init_12 rfl ⟨rfl, rfl⟩
set_option maxRecDepth 20000 in
set_option maxHeartbeats 4000000 in
theorem ct_18_X7_init (X : pX) (h : Nat) : MtV (h + 1) mX7_init [.ref 69] (Cs 70 72 2 X) (fun M' => M' = Cs 71 73 2 X) := by
  show Rn (h + 1) mX7_init 0 [some (.ref 69)] [] (Cs 70 72 2 X) _
  refine rn_aload_n dX7_init_0 rfl ?_
  refine rn_objinit (Nat.succ_le_succ (Nat.zero_le _)) dX7_init_1 kl_RX7_3 (by decide) ?_
  refine rn_aload_n dX7_init_4 rfl ?_
  refine rn_bipush (v := iz (60)) dX7_init_5 (by decide) ?_
  refine rc_newarr (ty := .long) (t0 := 2) (t := 4) (N := 60) dX7_init_7 rfl rfl (fun C q => by cases q) (by decide) ka_long (by decide) (by decide) hd_70 (by decide) rfl rfl ?_
  refine rc_putR dX7_init_9 kp_RX7_11 rfl (by decide) (by decide) (by decide) hd_69 rfl (fun q => ⟨rfl, rfl⟩) rfl ?_
  exact rn_return dX7_init_12 rfl ⟨rfl, rfl⟩
set_option maxRecDepth 20000 in
set_option maxHeartbeats 4000000 in
theorem ct_19_X7_init (X : pX) (h : Nat) : MtV (h + 1) mX7_init [.ref 71] (Cs 72 74 2 X) (fun M' => M' = Cs 73 75 2 X) := by
  show Rn (h + 1) mX7_init 0 [some (.ref 71)] [] (Cs 72 74 2 X) _
  refine rn_aload_n dX7_init_0 rfl ?_
  refine rn_objinit (Nat.succ_le_succ (Nat.zero_le _)) dX7_init_1 kl_RX7_3 (by decide) ?_
  refine rn_aload_n dX7_init_4 rfl ?_
  refine rn_bipush (v := iz (60)) dX7_init_5 (by decide) ?_
  refine rc_newarr (ty := .long) (t0 := 2) (t := 4) (N := 60) dX7_init_7 rfl rfl (fun C q => by cases q) (by decide) ka_long (by decide) (by decide) hd_72 (by decide) rfl rfl ?_
  refine rc_putR dX7_init_9 kp_RX7_11 rfl (by decide) (by decide) (by decide) hd_71 rfl (fun q => ⟨rfl, rfl⟩) rfl ?_
  exact rn_return dX7_init_12 rfl ⟨rfl, rfl⟩
set_option maxRecDepth 20000 in
set_option maxHeartbeats 4000000 in
theorem ct_20_X7_init (X : pX) (h : Nat) : MtV (h + 1) mX7_init [.ref 73] (Cs 74 76 2 X) (fun M' => M' = Cs 75 77 2 X) := by
  show Rn (h + 1) mX7_init 0 [some (.ref 73)] [] (Cs 74 76 2 X) _
  refine rn_aload_n dX7_init_0 rfl ?_
  refine rn_objinit (Nat.succ_le_succ (Nat.zero_le _)) dX7_init_1 kl_RX7_3 (by decide) ?_
  refine rn_aload_n dX7_init_4 rfl ?_
  refine rn_bipush (v := iz (60)) dX7_init_5 (by decide) ?_
  refine rc_newarr (ty := .long) (t0 := 2) (t := 4) (N := 60) dX7_init_7 rfl rfl (fun C q => by cases q) (by decide) ka_long (by decide) (by decide) hd_74 (by decide) rfl rfl ?_
  refine rc_putR dX7_init_9 kp_RX7_11 rfl (by decide) (by decide) (by decide) hd_73 rfl (fun q => ⟨rfl, rfl⟩) rfl ?_
  exact rn_return dX7_init_12 rfl ⟨rfl, rfl⟩
set_option maxRecDepth 20000 in
set_option maxHeartbeats 4000000 in
theorem ct_21_X7_init (X : pX) (h : Nat) : MtV (h + 1) mX7_init [.ref 75] (Cs 76 78 2 X) (fun M' => M' = Cs 77 79 2 X) := by
  show Rn (h + 1) mX7_init 0 [some (.ref 75)] [] (Cs 76 78 2 X) _
  refine rn_aload_n dX7_init_0 rfl ?_
  refine rn_objinit (Nat.succ_le_succ (Nat.zero_le _)) dX7_init_1 kl_RX7_3 (by decide) ?_
  refine rn_aload_n dX7_init_4 rfl ?_
  refine rn_bipush (v := iz (60)) dX7_init_5 (by decide) ?_
  refine rc_newarr (ty := .long) (t0 := 2) (t := 4) (N := 60) dX7_init_7 rfl rfl (fun C q => by cases q) (by decide) ka_long (by decide) (by decide) hd_76 (by decide) rfl rfl ?_
  refine rc_putR dX7_init_9 kp_RX7_11 rfl (by decide) (by decide) (by decide) hd_75 rfl (fun q => ⟨rfl, rfl⟩) rfl ?_
  exact rn_return dX7_init_12 rfl ⟨rfl, rfl⟩
set_option maxRecDepth 20000 in
set_option maxHeartbeats 4000000 in
theorem ct_22_X7_init (X : pX) (h : Nat) : MtV (h + 1) mX7_init [.ref 77] (Cs 78 80 2 X) (fun M' => M' = Cs 79 81 2 X) := by
  show Rn (h + 1) mX7_init 0 [some (.ref 77)] [] (Cs 78 80 2 X) _
  refine rn_aload_n dX7_init_0 rfl ?_
  refine rn_objinit (Nat.succ_le_succ (Nat.zero_le _)) dX7_init_1 kl_RX7_3 (by decide) ?_
  refine rn_aload_n dX7_init_4 rfl ?_
  refine rn_bipush (v := iz (60)) dX7_init_5 (by decide) ?_
  refine rc_newarr (ty := .long) (t0 := 2) (t := 4) (N := 60) dX7_init_7 rfl rfl (fun C q => by cases q) (by decide) ka_long (by decide) (by decide) hd_78 (by decide) rfl rfl ?_
  refine rc_putR dX7_init_9 kp_RX7_11 rfl (by decide) (by decide) (by decide) hd_77 rfl (fun q => ⟨rfl, rfl⟩) rfl ?_
  exact rn_return dX7_init_12 rfl ⟨rfl, rfl⟩
set_option maxRecDepth 20000 in
set_option maxHeartbeats 4000000 in
theorem ct_23_X11_init (X : pX) (h : Nat) : MtV (h + 3) mX11_init [.ref 0] (Cs 1 0 0 X) (fun M' => M' = Cs 81 84 2 X) := by
  show Rn (h + 3) mX11_init 0 [some (.ref 0), none] [] (Cs 1 0 0 X) _
  refine rn_aload_n dX11_init_0 rfl ?_
  refine rn_objinit (Nat.succ_le_succ (Nat.zero_le _)) dX11_init_1 kl_RX11_1 (by decide) ?_
  refine rn_aload_n dX11_init_4 rfl ?_
  refine rc_new dX11_init_5 rfl kC_4 kn_RX11_7 df_4 hd_1 (by decide) rfl rfl ?_
  refine rn_dup dX11_init_8 rfl ?_
  refine rc_call dX11_init_9 kl_RX11_9 rfl (by decide) rfl (by decide) (by decide) rfl rfl (ct_1_X4_init X _) ?_
  refine rc_putR dX11_init_12 kp_RX11_10 rfl (by decide) (by decide) (by decide) hd_0 rfl (fun q => ⟨rfl, rfl⟩) rfl ?_
  refine rn_aload_n dX11_init_15 rfl ?_
  refine rc_new dX11_init_16 rfl kC_8 kn_RX11_16 df_8 hd_6 (by decide) rfl rfl ?_
  refine rn_dup dX11_init_19 rfl ?_
  refine rn_aload_n dX11_init_20 rfl ?_
  refine rc_getR (t := 1) dX11_init_21 kf_RX11_10 (by decide) hd_0 rfl (by decide +kernel) ?_
  refine rc_call dX11_init_24 kl_RX11_18 rfl (by decide) rfl (by decide) (by decide) rfl rfl (ct_2_X8_init X _) ?_
  refine rc_putR dX11_init_27 kp_RX11_21 rfl (by decide) (by decide) (by decide) hd_0 rfl (fun q => ⟨rfl, rfl⟩) rfl ?_
  refine rn_aload_n dX11_init_30 rfl ?_
  refine rn_iconst (v := iz (2)) dX11_init_31 rfl ?_
  refine rc_anewarr (t := 6) (N := 2) dX11_init_32 (by decide) kn_RX11_25.1 (by decide) hd_13 (by decide) rfl rfl ?_
  refine rn_dup dX11_init_35 rfl ?_
  refine rn_iconst (v := iz (0)) dX11_init_36 rfl ?_
  refine rc_new dX11_init_37 rfl kC_5 kn_RX11_25 df_5 hd_14 (by decide) rfl rfl ?_
  refine rn_dup dX11_init_40 rfl ?_
  refine rc_call dX11_init_41 kl_RX11_27 rfl (by decide) rfl (by decide) (by decide) rfl rfl (ct_3_X5_init X _) ?_
  refine rc_aast dX11_init_44 (by decide) (by decide) (by decide) hd_13 hd_14 (by decide) rfl ?_
  refine rn_dup dX11_init_45 rfl ?_
  refine rn_iconst (v := iz (1)) dX11_init_46 rfl ?_
  refine rc_new dX11_init_47 rfl kC_5 kn_RX11_25 df_5 hd_17 (by decide) rfl rfl ?_
  refine rn_dup dX11_init_50 rfl ?_
  refine rc_call dX11_init_51 kl_RX11_27 rfl (by decide) rfl (by decide) (by decide) rfl rfl (ct_4_X5_init X _) ?_
  refine rc_aast dX11_init_54 (by decide) (by decide) (by decide) hd_13 hd_17 (by decide) rfl ?_
  refine rc_putR dX11_init_55 kp_RX11_28 rfl (by decide) (by decide) (by decide) hd_0 rfl (fun q => ⟨rfl, rfl⟩) rfl ?_
  refine rn_aload_n dX11_init_58 rfl ?_
  refine rn_iconst (v := iz (2)) dX11_init_59 rfl ?_
  refine rc_anewarr (t := 6) (N := 2) dX11_init_60 (by decide) kn_RX11_25.1 (by decide) hd_20 (by decide) rfl rfl ?_
  refine rn_dup dX11_init_63 rfl ?_
  refine rn_iconst (v := iz (0)) dX11_init_64 rfl ?_
  refine rc_new dX11_init_65 rfl kC_5 kn_RX11_25 df_5 hd_21 (by decide) rfl rfl ?_
  refine rn_dup dX11_init_68 rfl ?_
  refine rc_call dX11_init_69 kl_RX11_27 rfl (by decide) rfl (by decide) (by decide) rfl rfl (ct_5_X5_init X _) ?_
  refine rc_aast dX11_init_72 (by decide) (by decide) (by decide) hd_20 hd_21 (by decide) rfl ?_
  refine rn_dup dX11_init_73 rfl ?_
  refine rn_iconst (v := iz (1)) dX11_init_74 rfl ?_
  refine rc_new dX11_init_75 rfl kC_5 kn_RX11_25 df_5 hd_24 (by decide) rfl rfl ?_
  refine rn_dup dX11_init_78 rfl ?_
  refine rc_call dX11_init_79 kl_RX11_27 rfl (by decide) rfl (by decide) (by decide) rfl rfl (ct_6_X5_init X _) ?_
  refine rc_aast dX11_init_82 (by decide) (by decide) (by decide) hd_20 hd_24 (by decide) rfl ?_
  refine rc_putR dX11_init_83 kp_RX11_32 rfl (by decide) (by decide) (by decide) hd_0 rfl (fun q => ⟨rfl, rfl⟩) rfl ?_
  refine rn_aload_n dX11_init_86 rfl ?_
  refine rc_new dX11_init_87 rfl kC_9 kn_RX11_35 df_9 hd_27 (by decide) rfl rfl ?_
  refine rn_dup dX11_init_90 rfl ?_
  refine rn_aload_n dX11_init_91 rfl ?_
  refine rc_getR (t := 6) dX11_init_92 kf_RX11_21 (by decide) hd_0 rfl (by decide +kernel) ?_
  refine rn_aload_n dX11_init_95 rfl ?_
  refine rc_getR (t := 13) dX11_init_96 kf_RX11_28 (by decide) hd_0 rfl (by decide +kernel) ?_
  refine rc_call dX11_init_99 kl_RX11_37 rfl (by decide) rfl (by decide) (by decide) rfl rfl (ct_8_X9_init X _) ?_
  refine rc_putR dX11_init_102 kp_RX11_40 rfl (by decide) (by decide) (by decide) hd_0 rfl (fun q => ⟨rfl, rfl⟩) rfl ?_
  refine rn_aload_n dX11_init_105 rfl ?_
  refine rc_new dX11_init_106 rfl kC_3 kn_RX11_44 df_3 hd_32 (by decide) rfl rfl ?_
  refine rn_dup dX11_init_109 rfl ?_
  refine rn_aload_n dX11_init_110 rfl ?_
  refine rc_getR (t := 6) dX11_init_111 kf_RX11_21 (by decide) hd_0 rfl (by decide +kernel) ?_
  refine rc_call dX11_init_114 kl_RX11_46 rfl (by decide) rfl (by decide) (by decide) rfl rfl (ct_11_X3_init X _) ?_
  refine rc_putR dX11_init_117 kp_RX11_49 rfl (by decide) (by decide) (by decide) hd_0 rfl (fun q => ⟨rfl, rfl⟩) rfl ?_
  refine rn_aload_n dX11_init_120 rfl ?_
  refine rc_new dX11_init_121 rfl kC_2 kn_RX11_53 df_2 hd_47 (by decide) rfl rfl ?_
  refine rn_dup dX11_init_124 rfl ?_
  refine rn_aload_n dX11_init_125 rfl ?_
  refine rc_getR (t := 6) dX11_init_126 kf_RX11_21 (by decide) hd_0 rfl (by decide +kernel) ?_
  refine rn_aload_n dX11_init_129 rfl ?_
  refine rc_getR (t := 13) dX11_init_130 kf_RX11_28 (by decide) hd_0 rfl (by decide +kernel) ?_
  refine rc_call dX11_init_133 kl_RX11_55 rfl (by decide) rfl (by decide) (by decide) rfl rfl (ct_14_X2_init X _) ?_
  refine rc_putR dX11_init_136 kp_RX11_56 rfl (by decide) (by decide) (by decide) hd_0 rfl (fun q => ⟨rfl, rfl⟩) rfl ?_
  refine rn_aload_n dX11_init_139 rfl ?_
  refine rc_new dX11_init_140 rfl kC_1 kn_RX11_60 df_1 hd_58 (by decide) rfl rfl ?_
  refine rn_dup dX11_init_143 rfl ?_
  refine rc_call dX11_init_144 kl_RX11_62 rfl (by decide) rfl (by decide) (by decide) rfl rfl (ct_15_X1_init X _) ?_
  refine rc_putR dX11_init_147 kp_RX11_63 rfl (by decide) (by decide) (by decide) hd_0 rfl (fun q => ⟨rfl, rfl⟩) rfl ?_
  refine rn_aload_n dX11_init_150 rfl ?_
  refine rc_new dX11_init_151 rfl kC_0 kn_RX11_67 df_0 hd_63 (by decide) rfl rfl ?_
  refine rn_dup dX11_init_154 rfl ?_
  refine rc_call dX11_init_155 kl_RX11_69 rfl (by decide) rfl (by decide) (by decide) rfl rfl (ct_16_X0_init X _) ?_
  refine rc_putR dX11_init_158 kp_RX11_70 rfl (by decide) (by decide) (by decide) hd_0 rfl (fun q => ⟨rfl, rfl⟩) rfl ?_
  refine rn_aload_n dX11_init_161 rfl ?_
  refine rn_bipush (v := iz (6)) dX11_init_162 (by decide) ?_
  refine rc_anewarr (t := 8) (N := 6) dX11_init_164 (by decide) kn_RX11_74.1 (by decide) hd_66 (by decide) rfl rfl ?_
  refine rc_putR dX11_init_167 kp_RX11_76 rfl (by decide) (by decide) (by decide) hd_0 rfl (fun q => ⟨rfl, rfl⟩) rfl ?_
  refine rn_iconst (v := iz (0)) dX11_init_170 rfl ?_
  refine rn_istore_n dX11_init_171 (by decide) rfl ?_
  refine rn_iload_n dX11_init_172 rfl ?_
  refine rn_bipush (v := iz (6)) dX11_init_173 (by decide) ?_
  refine rn_icmp_ge (t := 197) dX11_init_175 rfl (fun q => absurd q (by decide)) (fun _ => ?_)
  refine rn_aload_n dX11_init_178 rfl ?_
  refine rc_getR (t := 66) dX11_init_179 kf_RX11_76 (by decide) hd_0 rfl (by decide +kernel) ?_
  refine rn_iload_n dX11_init_182 rfl ?_
  refine rc_new dX11_init_183 rfl kC_7 kn_RX11_74 df_7 hd_67 (by decide) rfl rfl ?_
  refine rn_dup dX11_init_186 rfl ?_
  refine rc_call dX11_init_187 kl_RX11_80 rfl (by decide) rfl (by decide) (by decide) rfl rfl (ct_17_X7_init X _) ?_
  refine rc_aast dX11_init_190 (by decide) (by decide) (by decide) hd_66 hd_67 (by decide) rfl ?_
  refine rn_iinc dX11_init_191 (by decide) rfl (v := iz (1)) (by decide) rfl ?_
  refine rn_goto (t := 172) dX11_init_194 rfl ?_
  refine rn_iload_n dX11_init_172 rfl ?_
  refine rn_bipush (v := iz (6)) dX11_init_173 (by decide) ?_
  refine rn_icmp_ge (t := 197) dX11_init_175 rfl (fun q => absurd q (by decide)) (fun _ => ?_)
  refine rn_aload_n dX11_init_178 rfl ?_
  refine rc_getR (t := 66) dX11_init_179 kf_RX11_76 (by decide) hd_0 rfl (by decide +kernel) ?_
  refine rn_iload_n dX11_init_182 rfl ?_
  refine rc_new dX11_init_183 rfl kC_7 kn_RX11_74 df_7 hd_69 (by decide) rfl rfl ?_
  refine rn_dup dX11_init_186 rfl ?_
  refine rc_call dX11_init_187 kl_RX11_80 rfl (by decide) rfl (by decide) (by decide) rfl rfl (ct_18_X7_init X _) ?_
  refine rc_aast dX11_init_190 (by decide) (by decide) (by decide) hd_66 hd_69 (by decide) rfl ?_
  refine rn_iinc dX11_init_191 (by decide) rfl (v := iz (2)) (by decide) rfl ?_
  refine rn_goto (t := 172) dX11_init_194 rfl ?_
  refine rn_iload_n dX11_init_172 rfl ?_
  refine rn_bipush (v := iz (6)) dX11_init_173 (by decide) ?_
  refine rn_icmp_ge (t := 197) dX11_init_175 rfl (fun q => absurd q (by decide)) (fun _ => ?_)
  refine rn_aload_n dX11_init_178 rfl ?_
  refine rc_getR (t := 66) dX11_init_179 kf_RX11_76 (by decide) hd_0 rfl (by decide +kernel) ?_
  refine rn_iload_n dX11_init_182 rfl ?_
  refine rc_new dX11_init_183 rfl kC_7 kn_RX11_74 df_7 hd_71 (by decide) rfl rfl ?_
  refine rn_dup dX11_init_186 rfl ?_
  refine rc_call dX11_init_187 kl_RX11_80 rfl (by decide) rfl (by decide) (by decide) rfl rfl (ct_19_X7_init X _) ?_
  refine rc_aast dX11_init_190 (by decide) (by decide) (by decide) hd_66 hd_71 (by decide) rfl ?_
  refine rn_iinc dX11_init_191 (by decide) rfl (v := iz (3)) (by decide) rfl ?_
  refine rn_goto (t := 172) dX11_init_194 rfl ?_
  refine rn_iload_n dX11_init_172 rfl ?_
  refine rn_bipush (v := iz (6)) dX11_init_173 (by decide) ?_
  refine rn_icmp_ge (t := 197) dX11_init_175 rfl (fun q => absurd q (by decide)) (fun _ => ?_)
  refine rn_aload_n dX11_init_178 rfl ?_
  refine rc_getR (t := 66) dX11_init_179 kf_RX11_76 (by decide) hd_0 rfl (by decide +kernel) ?_
  refine rn_iload_n dX11_init_182 rfl ?_
  refine rc_new dX11_init_183 rfl kC_7 kn_RX11_74 df_7 hd_73 (by decide) rfl rfl ?_
  refine rn_dup dX11_init_186 rfl ?_
  refine rc_call dX11_init_187 kl_RX11_80 rfl (by decide) rfl (by decide) (by decide) rfl rfl (ct_20_X7_init X _) ?_
  refine rc_aast dX11_init_190 (by decide) (by decide) (by decide) hd_66 hd_73 (by decide) rfl ?_
  refine rn_iinc dX11_init_191 (by decide) rfl (v := iz (4)) (by decide) rfl ?_
  refine rn_goto (t := 172) dX11_init_194 rfl ?_
  refine rn_iload_n dX11_init_172 rfl ?_
  refine rn_bipush (v := iz (6)) dX11_init_173 (by decide) ?_
  refine rn_icmp_ge (t := 197) dX11_init_175 rfl (fun q => absurd q (by decide)) (fun _ => ?_)
  refine rn_aload_n dX11_init_178 rfl ?_
  refine rc_getR (t := 66) dX11_init_179 kf_RX11_76 (by decide) hd_0 rfl (by decide +kernel) ?_
  refine rn_iload_n dX11_init_182 rfl ?_
  refine rc_new dX11_init_183 rfl kC_7 kn_RX11_74 df_7 hd_75 (by decide) rfl rfl ?_
  refine rn_dup dX11_init_186 rfl ?_
  refine rc_call dX11_init_187 kl_RX11_80 rfl (by decide) rfl (by decide) (by decide) rfl rfl (ct_21_X7_init X _) ?_
  refine rc_aast dX11_init_190 (by decide) (by decide) (by decide) hd_66 hd_75 (by decide) rfl ?_
  refine rn_iinc dX11_init_191 (by decide) rfl (v := iz (5)) (by decide) rfl ?_
  refine rn_goto (t := 172) dX11_init_194 rfl ?_
  refine rn_iload_n dX11_init_172 rfl ?_
  refine rn_bipush (v := iz (6)) dX11_init_173 (by decide) ?_
  refine rn_icmp_ge (t := 197) dX11_init_175 rfl (fun q => absurd q (by decide)) (fun _ => ?_)
  refine rn_aload_n dX11_init_178 rfl ?_
  refine rc_getR (t := 66) dX11_init_179 kf_RX11_76 (by decide) hd_0 rfl (by decide +kernel) ?_
  refine rn_iload_n dX11_init_182 rfl ?_
  refine rc_new dX11_init_183 rfl kC_7 kn_RX11_74 df_7 hd_77 (by decide) rfl rfl ?_
  refine rn_dup dX11_init_186 rfl ?_
  refine rc_call dX11_init_187 kl_RX11_80 rfl (by decide) rfl (by decide) (by decide) rfl rfl (ct_22_X7_init X _) ?_
  refine rc_aast dX11_init_190 (by decide) (by decide) (by decide) hd_66 hd_77 (by decide) rfl ?_
  refine rn_iinc dX11_init_191 (by decide) rfl (v := iz (6)) (by decide) rfl ?_
  refine rn_goto (t := 172) dX11_init_194 rfl ?_
  refine rn_iload_n dX11_init_172 rfl ?_
  refine rn_bipush (v := iz (6)) dX11_init_173 (by decide) ?_
  refine rn_icmp_ge (t := 197) dX11_init_175 rfl (fun _ => ?_) (fun q => absurd q (by decide))
  refine rn_aload_n dX11_init_197 rfl ?_
  refine rn_iconst (v := iz (5)) dX11_init_198 rfl ?_
  refine rc_newarr (ty := .int) (t0 := 1) (t := 0) (N := 5) dX11_init_199 rfl rfl (fun C q => by cases q) (by decide) ka_int (by decide) (by decide) hd_79 (by decide) rfl rfl ?_
  refine rc_putR dX11_init_201 kp_RX11_81 rfl (by decide) (by decide) (by decide) hd_0 rfl (fun q => ⟨rfl, rfl⟩) rfl ?_
  refine rn_aload_n dX11_init_204 rfl ?_
  refine rn_iconst (v := iz (5)) dX11_init_205 rfl ?_
  refine rc_newarr (ty := .int) (t0 := 1) (t := 0) (N := 5) dX11_init_206 rfl rfl (fun C q => by cases q) (by decide) ka_int (by decide) (by decide) hd_80 (by decide) rfl rfl ?_
  refine rc_putR dX11_init_208 kp_RX11_85 rfl (by decide) (by decide) (by decide) hd_0 rfl (fun q => ⟨rfl, rfl⟩) rfl ?_
  exact rn_return dX11_init_211 rfl ⟨rfl, rfl⟩
set_option maxRecDepth 20000 in
set_option maxHeartbeats 4000000 in
theorem ct_24_X12_init (X : pX) (h : Nat) : MtV (h + 1) mX12_init [.ref 81] (Cs 82 84 2 X) (fun M' => M' = Cs 122 124 10 X) := by
  show Rn (h + 1) mX12_init 0 [some (.ref 81)] [] (Cs 82 84 2 X) _
  refine rn_aload_n dX12_init_0 rfl ?_
  refine rn_objinit (Nat.succ_le_succ (Nat.zero_le _)) dX12_init_1 kl_RX12_1 (by decide) ?_
  refine rn_aload_n dX12_init_4 rfl ?_
  refine rn_iconst (v := iz (5)) dX12_init_5 rfl ?_
  refine rc_newarr (ty := .int) (t0 := 1) (t := 0) (N := 5) dX12_init_6 rfl rfl (fun C q => by cases q) (by decide) ka_int (by decide) (by decide) hd_82 (by decide) rfl rfl ?_
  refine rc_putR dX12_init_8 kp_RX12_7 rfl (by decide) (by decide) (by decide) hd_81 rfl (fun q => ⟨rfl, rfl⟩) rfl ?_
  refine rn_aload_n dX12_init_11 rfl ?_
  refine rn_iconst (v := iz (5)) dX12_init_12 rfl ?_
  refine rc_newarr (ty := .int) (t0 := 1) (t := 0) (N := 5) dX12_init_13 rfl rfl (fun C q => by cases q) (by decide) ka_int (by decide) (by decide) hd_83 (by decide) rfl rfl ?_
  refine rc_putR dX12_init_15 kp_RX12_13 rfl (by decide) (by decide) (by decide) hd_81 rfl (fun q => ⟨rfl, rfl⟩) rfl ?_
  refine rn_aload_n dX12_init_18 rfl ?_
  refine rn_iconst (v := iz (5)) dX12_init_19 rfl ?_
  refine rc_newarr (ty := .int) (t0 := 1) (t := 0) (N := 5) dX12_init_20 rfl rfl (fun C q => by cases q) (by decide) ka_int (by decide) (by decide) hd_84 (by decide) rfl rfl ?_
  refine rc_putR dX12_init_22 kp_RX12_16 rfl (by decide) (by decide) (by decide) hd_81 rfl (fun q => ⟨rfl, rfl⟩) rfl ?_
  refine rn_aload_n dX12_init_25 rfl ?_
  refine rn_iconst (v := iz (2)) dX12_init_26 rfl ?_
  refine rc_newarr (ty := .int) (t0 := 1) (t := 0) (N := 2) dX12_init_27 rfl rfl (fun C q => by cases q) (by decide) ka_int (by decide) (by decide) hd_85 (by decide) rfl rfl ?_
  refine rn_dup dX12_init_29 rfl ?_
  refine rn_iconst (v := iz (0)) dX12_init_30 rfl ?_
  refine rn_bipush (v := iz (6)) dX12_init_31 (by decide) ?_
  refine rc_iast dX12_init_33 (by decide) hd_85 (by decide) rfl ?_
  refine rn_dup dX12_init_34 rfl ?_
  refine rn_iconst (v := iz (1)) dX12_init_35 rfl ?_
  refine rn_bipush (v := iz (6)) dX12_init_36 (by decide) ?_
  refine rc_iast dX12_init_38 (by decide) hd_85 (by decide) rfl ?_
  refine rc_putR dX12_init_39 kp_RX12_19 rfl (by decide) (by decide) (by decide) hd_81 rfl (fun q => ⟨rfl, rfl⟩) rfl ?_
  refine rn_aload_n dX12_init_42 rfl ?_
  refine rn_iconst (v := iz (2)) dX12_init_43 rfl ?_
  refine rc_newarr (ty := .int) (t0 := 1) (t := 0) (N := 2) dX12_init_44 rfl rfl (fun C q => by cases q) (by decide) ka_int (by decide) (by decide) hd_86 (by decide) rfl rfl ?_
  refine rc_putR dX12_init_46 kp_RX12_22 rfl (by decide) (by decide) (by decide) hd_81 rfl (fun q => ⟨rfl, rfl⟩) rfl ?_
  refine rn_aload_n dX12_init_49 rfl ?_
  refine rn_bipush (v := iz (16)) dX12_init_50 (by decide) ?_
  refine rc_newarr (ty := .int) (t0 := 1) (t := 0) (N := 16) dX12_init_52 rfl rfl (fun C q => by cases q) (by decide) ka_int (by decide) (by decide) hd_87 (by decide) rfl rfl ?_
  refine rc_putR dX12_init_54 kp_RX12_25 rfl (by decide) (by decide) (by decide) hd_81 rfl (fun q => ⟨rfl, rfl⟩) rfl ?_
  refine rn_aload_n dX12_init_57 rfl ?_
  refine rn_bipush (v := iz (80)) dX12_init_58 (by decide) ?_
  refine rc_newarr (ty := .byte) (t0 := 1) (t := 1) (N := 80) dX12_init_60 rfl rfl (fun C q => by cases q) (by decide) ka_byte (by decide) (by decide) hd_88 (by decide) rfl rfl ?_
  refine rc_putR dX12_init_62 kp_RX12_28 rfl (by decide) (by decide) (by decide) hd_81 rfl (fun q => ⟨rfl, rfl⟩) rfl ?_
  refine rn_aload_n dX12_init_65 rfl ?_
  refine rn_bipush (v := iz (40)) dX12_init_66 (by decide) ?_
  refine rc_newarr (ty := .int) (t0 := 1) (t := 0) (N := 40) dX12_init_68 rfl rfl (fun C q => by cases q) (by decide) ka_int (by decide) (by decide) hd_89 (by decide) rfl rfl ?_
  refine rc_putR dX12_init_70 kp_RX12_32 rfl (by decide) (by decide) (by decide) hd_81 rfl (fun q => ⟨rfl, rfl⟩) rfl ?_
  refine rn_aload_n dX12_init_73 rfl ?_
  refine rn_bipush (v := iz (40)) dX12_init_74 (by decide) ?_
  refine rc_newarr (ty := .int) (t0 := 1) (t := 0) (N := 40) dX12_init_76 rfl rfl (fun C q => by cases q) (by decide) ka_int (by decide) (by decide) hd_90 (by decide) rfl rfl ?_
  refine rc_putR dX12_init_78 kp_RX12_35 rfl (by decide) (by decide) (by decide) hd_81 rfl (fun q => ⟨rfl, rfl⟩) rfl ?_
  refine rn_aload_n dX12_init_81 rfl ?_
  refine rn_bipush (v := iz (40)) dX12_init_82 (by decide) ?_
  refine rc_newarr (ty := .int) (t0 := 1) (t := 0) (N := 40) dX12_init_84 rfl rfl (fun C q => by cases q) (by decide) ka_int (by decide) (by decide) hd_91 (by decide) rfl rfl ?_
  refine rc_putR dX12_init_86 kp_RX12_38 rfl (by decide) (by decide) (by decide) hd_81 rfl (fun q => ⟨rfl, rfl⟩) rfl ?_
  refine rn_aload_n dX12_init_89 rfl ?_
  refine rn_bipush (v := iz (40)) dX12_init_90 (by decide) ?_
  refine rc_newarr (ty := .int) (t0 := 1) (t := 0) (N := 40) dX12_init_92 rfl rfl (fun C q => by cases q) (by decide) ka_int (by decide) (by decide) hd_92 (by decide) rfl rfl ?_
  refine rc_putR dX12_init_94 kp_RX12_41 rfl (by decide) (by decide) (by decide) hd_81 rfl (fun q => ⟨rfl, rfl⟩) rfl ?_
  refine rn_aload_n dX12_init_97 rfl ?_
  refine rn_iconst (v := iz (5)) dX12_init_98 rfl ?_
  refine rc_newarr (ty := .int) (t0 := 1) (t := 0) (N := 5) dX12_init_99 rfl rfl (fun C q => by cases q) (by decide) ka_int (by decide) (by decide) hd_93 (by decide) rfl rfl ?_
  refine rc_putR dX12_init_101 kp_RX12_44 rfl (by decide) (by decide) (by decide) hd_81 rfl (fun q => ⟨rfl, rfl⟩) rfl ?_
  refine rn_aload_n dX12_init_104 rfl ?_
  refine rn_bipush (v := iz (120)) dX12_init_105 (by decide) ?_
  refine rc_newarr (ty := .byte) (t0 := 1) (t := 1) (N := 120) dX12_init_107 rfl rfl (fun C q => by cases q) (by decide) ka_byte (by decide) (by decide) hd_94 (by decide) rfl rfl ?_
  refine rc_putR dX12_init_109 kp_RX12_47 rfl (by decide) (by decide) (by decide) hd_81 rfl (fun q => ⟨rfl, rfl⟩) rfl ?_
  refine rn_aload_n dX12_init_112 rfl ?_
  refine rn_sipush (v := iz (260)) dX12_init_113 (by decide) ?_
  refine rc_newarr (ty := .byte) (t0 := 1) (t := 1) (N := 260) dX12_init_116 rfl rfl (fun C q => by cases q) (by decide) ka_byte (by decide) (by decide) hd_95 (by decide) rfl rfl ?_
  refine rc_putR dX12_init_118 kp_RX12_50 rfl (by decide) (by decide) (by decide) hd_81 rfl (fun q => ⟨rfl, rfl⟩) rfl ?_
  refine rn_aload_n dX12_init_121 rfl ?_
  refine rn_sipush (v := iz (260)) dX12_init_122 (by decide) ?_
  refine rc_newarr (ty := .int) (t0 := 1) (t := 0) (N := 260) dX12_init_125 rfl rfl (fun C q => by cases q) (by decide) ka_int (by decide) (by decide) hd_96 (by decide) rfl rfl ?_
  refine rc_putR dX12_init_127 kp_RX12_53 rfl (by decide) (by decide) (by decide) hd_81 rfl (fun q => ⟨rfl, rfl⟩) rfl ?_
  refine rn_aload_n dX12_init_130 rfl ?_
  refine rn_iconst (v := iz (2)) dX12_init_131 rfl ?_
  refine rc_newarr (ty := .int) (t0 := 1) (t := 0) (N := 2) dX12_init_132 rfl rfl (fun C q => by cases q) (by decide) ka_int (by decide) (by decide) hd_97 (by decide) rfl rfl ?_
  refine rc_putR dX12_init_134 kp_RX12_56 rfl (by decide) (by decide) (by decide) hd_81 rfl (fun q => ⟨rfl, rfl⟩) rfl ?_
  refine rn_aload_n dX12_init_137 rfl ?_
  refine rn_bipush (v := iz (122)) dX12_init_138 (by decide) ?_
  refine rc_newarr (ty := .short) (t0 := 1) (t := 2) (N := 122) dX12_init_140 rfl rfl (fun C q => by cases q) (by decide) ka_short (by decide) (by decide) hd_98 (by decide) rfl rfl ?_
  refine rc_putR dX12_init_142 kp_RX12_59 rfl (by decide) (by decide) (by decide) hd_81 rfl (fun q => ⟨rfl, rfl⟩) rfl ?_
  refine rn_aload_n dX12_init_145 rfl ?_
  refine rn_bipush (v := iz (122)) dX12_init_146 (by decide) ?_
  refine rc_newarr (ty := .short) (t0 := 1) (t := 2) (N := 122) dX12_init_148 rfl rfl (fun C q => by cases q) (by decide) ka_short (by decide) (by decide) hd_99 (by decide) rfl rfl ?_
  refine rc_putR dX12_init_150 kp_RX12_63 rfl (by decide) (by decide) (by decide) hd_81 rfl (fun q => ⟨rfl, rfl⟩) rfl ?_
  refine rn_aload_n dX12_init_153 rfl ?_
  refine rn_iconst (v := iz (5)) dX12_init_154 rfl ?_
  refine rc_newarr (ty := .int) (t0 := 1) (t := 0) (N := 5) dX12_init_155 rfl rfl (fun C q => by cases q) (by decide) ka_int (by decide) (by decide) hd_100 (by decide) rfl rfl ?_
  refine rc_putR dX12_init_157 kp_RX12_66 rfl (by decide) (by decide) (by decide) hd_81 rfl (fun q => ⟨rfl, rfl⟩) rfl ?_
  refine rn_aload_n dX12_init_160 rfl ?_
  refine rn_sipush (v := iz (130)) dX12_init_161 (by decide) ?_
  refine rc_newarr (ty := .int) (t0 := 1) (t := 0) (N := 130) dX12_init_164 rfl rfl (fun C q => by cases q) (by decide) ka_int (by decide) (by decide) hd_101 (by decide) rfl rfl ?_
  refine rc_putR dX12_init_166 kp_RX12_69 rfl (by decide) (by decide) (by decide) hd_81 rfl (fun q => ⟨rfl, rfl⟩) rfl ?_
  refine rn_aload_n dX12_init_169 rfl ?_
  refine rn_sipush (v := iz (500)) dX12_init_170 (by decide) ?_
  refine rc_newarr (ty := .byte) (t0 := 1) (t := 1) (N := 500) dX12_init_173 rfl rfl (fun C q => by cases q) (by decide) ka_byte (by decide) (by decide) hd_102 (by decide) rfl rfl ?_
  refine rc_putR dX12_init_175 kp_RX12_72 rfl (by decide) (by decide) (by decide) hd_81 rfl (fun q => ⟨rfl, rfl⟩) rfl ?_
  refine rn_aload_n dX12_init_178 rfl ?_
  refine rn_iconst (v := iz (5)) dX12_init_179 rfl ?_
  refine rc_newarr (ty := .int) (t0 := 1) (t := 0) (N := 5) dX12_init_180 rfl rfl (fun C q => by cases q) (by decide) ka_int (by decide) (by decide) hd_103 (by decide) rfl rfl ?_
  refine rc_putR dX12_init_182 kp_RX12_75 rfl (by decide) (by decide) (by decide) hd_81 rfl (fun q => ⟨rfl, rfl⟩) rfl ?_
  refine rn_aload_n dX12_init_185 rfl ?_
  refine rn_sipush (v := iz (10010)) dX12_init_186 (by decide) ?_
  refine rc_newarr (ty := .byte) (t0 := 1) (t := 1) (N := 10010) dX12_init_189 rfl rfl (fun C q => by cases q) (by decide) ka_byte (by decide) (by decide) hd_104 (by decide) rfl rfl ?_
  refine rc_putR dX12_init_191 kp_RX12_78 rfl (by decide) (by decide) (by decide) hd_81 rfl (fun q => ⟨rfl, rfl⟩) rfl ?_
  refine rn_aload_n dX12_init_194 rfl ?_
  refine rn_iconst (v := iz (5)) dX12_init_195 rfl ?_
  refine rc_newarr (ty := .int) (t0 := 1) (t := 0) (N := 5) dX12_init_196 rfl rfl (fun C q => by cases q) (by decide) ka_int (by decide) (by decide) hd_105 (by decide) rfl rfl ?_
  refine rc_putR dX12_init_198 kp_RX12_81 rfl (by decide) (by decide) (by decide) hd_81 rfl (fun q => ⟨rfl, rfl⟩) rfl ?_
  refine rn_aload_n dX12_init_201 rfl ?_
  refine rn_bipush (v := iz (50)) dX12_init_202 (by decide) ?_
  refine rc_newarr (ty := .int) (t0 := 1) (t := 0) (N := 50) dX12_init_204 rfl rfl (fun C q => by cases q) (by decide) ka_int (by decide) (by decide) hd_106 (by decide) rfl rfl ?_
  refine rc_putR dX12_init_206 kp_RX12_84 rfl (by decide) (by decide) (by decide) hd_81 rfl (fun q => ⟨rfl, rfl⟩) rfl ?_
  refine rn_aload_n dX12_init_209 rfl ?_
  refine rn_sipush (v := iz (1500)) dX12_init_210 (by decide) ?_
  refine rc_newarr (ty := .byte) (t0 := 1) (t := 1) (N := 1500) dX12_init_213 rfl rfl (fun C q => by cases q) (by decide) ka_byte (by decide) (by decide) hd_107 (by decide) rfl rfl ?_
  refine rc_putR dX12_init_215 kp_RX12_87 rfl (by decide) (by decide) (by decide) hd_81 rfl (fun q => ⟨rfl, rfl⟩) rfl ?_
  refine rn_aload_n dX12_init_218 rfl ?_
  refine rn_sipush (v := iz (1500)) dX12_init_219 (by decide) ?_
  refine rc_newarr (ty := .byte) (t0 := 1) (t := 1) (N := 1500) dX12_init_222 rfl rfl (fun C q => by cases q) (by decide) ka_byte (by decide) (by decide) hd_108 (by decide) rfl rfl ?_
  refine rc_putR dX12_init_224 kp_RX12_90 rfl (by decide) (by decide) (by decide) hd_81 rfl (fun q => ⟨rfl, rfl⟩) rfl ?_
  refine rn_aload_n dX12_init_227 rfl ?_
  refine rn_iconst (v := iz (5)) dX12_init_228 rfl ?_
  refine rc_newarr (ty := .byte) (t0 := 1) (t := 1) (N := 5) dX12_init_229 rfl rfl (fun C q => by cases q) (by decide) ka_byte (by decide) (by decide) hd_109 (by decide) rfl rfl ?_
  refine rc_putR dX12_init_231 kp_RX12_93 rfl (by decide) (by decide) (by decide) hd_81 rfl (fun q => ⟨rfl, rfl⟩) rfl ?_
  refine rn_aload_n dX12_init_234 rfl ?_
  refine rn_sipush (v := iz (300)) dX12_init_235 (by decide) ?_
  refine rc_newarr (ty := .int) (t0 := 1) (t := 0) (N := 300) dX12_init_238 rfl rfl (fun C q => by cases q) (by decide) ka_int (by decide) (by decide) hd_110 (by decide) rfl rfl ?_
  refine rc_putR dX12_init_240 kp_RX12_96 rfl (by decide) (by decide) (by decide) hd_81 rfl (fun q => ⟨rfl, rfl⟩) rfl ?_
  refine rn_aload_n dX12_init_243 rfl ?_
  refine rn_bipush (v := iz (60)) dX12_init_244 (by decide) ?_
  refine rc_newarr (ty := .int) (t0 := 1) (t := 0) (N := 60) dX12_init_246 rfl rfl (fun C q => by cases q) (by decide) ka_int (by decide) (by decide) hd_111 (by decide) rfl rfl ?_
  refine rc_putR dX12_init_248 kp_RX12_99 rfl (by decide) (by decide) (by decide) hd_81 rfl (fun q => ⟨rfl, rfl⟩) rfl ?_
  refine rn_aload_n dX12_init_251 rfl ?_
  refine rn_sipush (v := iz (310)) dX12_init_252 (by decide) ?_
  refine rc_newarr (ty := .byte) (t0 := 1) (t := 1) (N := 310) dX12_init_255 rfl rfl (fun C q => by cases q) (by decide) ka_byte (by decide) (by decide) hd_112 (by decide) rfl rfl ?_
  refine rc_putR dX12_init_257 kp_RX12_102 rfl (by decide) (by decide) (by decide) hd_81 rfl (fun q => ⟨rfl, rfl⟩) rfl ?_
  refine rn_aload_n dX12_init_260 rfl ?_
  refine rn_iconst (v := iz (2)) dX12_init_261 rfl ?_
  refine rc_newarr (ty := .int) (t0 := 1) (t := 0) (N := 2) dX12_init_262 rfl rfl (fun C q => by cases q) (by decide) ka_int (by decide) (by decide) hd_113 (by decide) rfl rfl ?_
  refine rc_putR dX12_init_264 kp_RX12_105 rfl (by decide) (by decide) (by decide) hd_81 rfl (fun q => ⟨rfl, rfl⟩) rfl ?_
  refine rn_aload_n dX12_init_267 rfl ?_
  refine rn_bipush (v := iz (16)) dX12_init_268 (by decide) ?_
  refine rc_newarr (ty := .int) (t0 := 1) (t := 0) (N := 16) dX12_init_270 rfl rfl (fun C q => by cases q) (by decide) ka_int (by decide) (by decide) hd_114 (by decide) rfl rfl ?_
  refine rc_putR dX12_init_272 kp_RX12_108 rfl (by decide) (by decide) (by decide) hd_81 rfl (fun q => ⟨rfl, rfl⟩) rfl ?_
  refine rn_aload_n dX12_init_275 rfl ?_
  refine rn_bipush (v := iz (80)) dX12_init_276 (by decide) ?_
  refine rc_newarr (ty := .byte) (t0 := 1) (t := 1) (N := 80) dX12_init_278 rfl rfl (fun C q => by cases q) (by decide) ka_byte (by decide) (by decide) hd_115 (by decide) rfl rfl ?_
  refine rc_putR dX12_init_280 kp_RX12_111 rfl (by decide) (by decide) (by decide) hd_81 rfl (fun q => ⟨rfl, rfl⟩) rfl ?_
  refine rn_aload_n dX12_init_283 rfl ?_
  refine rn_bipush (v := iz (50)) dX12_init_284 (by decide) ?_
  refine rc_newarr (ty := .int) (t0 := 1) (t := 0) (N := 50) dX12_init_286 rfl rfl (fun C q => by cases q) (by decide) ka_int (by decide) (by decide) hd_116 (by decide) rfl rfl ?_
  refine rc_putR dX12_init_288 kp_RX12_114 rfl (by decide) (by decide) (by decide) hd_81 rfl (fun q => ⟨rfl, rfl⟩) rfl ?_
  refine rn_aload_n dX12_init_291 rfl ?_
  refine rn_bipush (v := iz (24)) dX12_init_292 (by decide) ?_
  refine rc_newarr (ty := .int) (t0 := 1) (t := 0) (N := 24) dX12_init_294 rfl rfl (fun C q => by cases q) (by decide) ka_int (by decide) (by decide) hd_117 (by decide) rfl rfl ?_
  refine rc_putR dX12_init_296 kp_RX12_117 rfl (by decide) (by decide) (by decide) hd_81 rfl (fun q => ⟨rfl, rfl⟩) rfl ?_
  refine rn_aload_n dX12_init_299 rfl ?_
  refine rn_bipush (v := iz (6)) dX12_init_300 (by decide) ?_
  refine rc_newarr (ty := .int) (t0 := 1) (t := 0) (N := 6) dX12_init_302 rfl rfl (fun C q => by cases q) (by decide) ka_int (by decide) (by decide) hd_118 (by decide) rfl rfl ?_
  refine rn_dup dX12_init_304 rfl ?_
  refine rn_iconst (v := iz (0)) dX12_init_305 rfl ?_
  refine rn_iconst (v := iz (-1)) dX12_init_306 rfl ?_
  refine rc_iast dX12_init_307 (by decide) hd_118 (by decide) rfl ?_
  refine rn_dup dX12_init_308 rfl ?_
  refine rn_iconst (v := iz (1)) dX12_init_309 rfl ?_
  refine rn_iconst (v := iz (-1)) dX12_init_310 rfl ?_
  refine rc_iast dX12_init_311 (by decide) hd_118 (by decide) rfl ?_
  refine rn_dup dX12_init_312 rfl ?_
  refine rn_iconst (v := iz (2)) dX12_init_313 rfl ?_
  refine rn_iconst (v := iz (-1)) dX12_init_314 rfl ?_
  refine rc_iast dX12_init_315 (by decide) hd_118 (by decide) rfl ?_
  refine rn_dup dX12_init_316 rfl ?_
  refine rn_iconst (v := iz (3)) dX12_init_317 rfl ?_
  refine rn_iconst (v := iz (-1)) dX12_init_318 rfl ?_
  refine rc_iast dX12_init_319 (by decide) hd_118 (by decide) rfl ?_
  refine rn_dup dX12_init_320 rfl ?_
  refine rn_iconst (v := iz (4)) dX12_init_321 rfl ?_
  refine rn_iconst (v := iz (-1)) dX12_init_322 rfl ?_
  refine rc_iast dX12_init_323 (by decide) hd_118 (by decide) rfl ?_
  refine rn_dup dX12_init_324 rfl ?_
  refine rn_iconst (v := iz (5)) dX12_init_325 rfl ?_
  refine rn_iconst (v := iz (-1)) dX12_init_326 rfl ?_
  refine rc_iast dX12_init_327 (by decide) hd_118 (by decide) rfl ?_
  refine rc_putR dX12_init_328 kp_RX12_120 rfl (by decide) (by decide) (by decide) hd_81 rfl (fun q => ⟨rfl, rfl⟩) rfl ?_
  refine rn_aload_n dX12_init_331 rfl ?_
  refine rn_bipush (v := iz (6)) dX12_init_332 (by decide) ?_
  refine rc_newarr (ty := .int) (t0 := 1) (t := 0) (N := 6) dX12_init_334 rfl rfl (fun C q => by cases q) (by decide) ka_int (by decide) (by decide) hd_119 (by decide) rfl rfl ?_
  refine rc_putR dX12_init_336 kp_RX12_123 rfl (by decide) (by decide) (by decide) hd_81 rfl (fun q => ⟨rfl, rfl⟩) rfl ?_
  refine rn_aload_n dX12_init_339 rfl ?_
  refine rn_sipush (v := iz (360)) dX12_init_340 (by decide) ?_
  refine rc_newarr (ty := .long) (t0 := 2) (t := 4) (N := 360) dX12_init_343 rfl rfl (fun C q => by cases q) (by decide) ka_long (by decide) (by decide) hd_120 (by decide) rfl rfl ?_
  refine rc_putR dX12_init_345 kp_RX12_126 rfl (by decide) (by decide) (by decide) hd_81 rfl (fun q => ⟨rfl, rfl⟩) rfl ?_
  refine rn_aload_n dX12_init_348 rfl ?_
  refine rn_bipush (v := iz (60)) dX12_init_349 (by decide) ?_
  refine rc_newarr (ty := .long) (t0 := 2) (t := 4) (N := 60) dX12_init_351 rfl rfl (fun C q => by cases q) (by decide) ka_long (by decide) (by decide) hd_121 (by decide) rfl rfl ?_
  refine rc_putR dX12_init_353 kp_RX12_130 rfl (by decide) (by decide) (by decide) hd_81 rfl (fun q => ⟨rfl, rfl⟩) rfl ?_
  exact rn_return dX12_init_356 rfl ⟨rfl, rfl⟩
set_option maxRecDepth 20000 in
set_option maxHeartbeats 4000000 in
theorem ct_law (X : pX) (h : Nat) (Q : Option Value → pM → Prop) (k : Rn (h + 4) mL_law 16 [some (.ref 1000), some (.ref 0), some (.ref 81), none] [] (Cs 122 124 10 X) Q) : Rn (h + 4) mL_law 0 [some (.ref 1000), none, none, none] [] (Cs 0 0 0 X) Q := by
  refine rc_new dL_law_0 rfl kC_11 kn_RL_7 df_11 hd_0 (by decide) rfl rfl ?_
  refine rn_dup dL_law_3 rfl ?_
  refine rc_call dL_law_4 kl_RL_9 rfl (by decide) rfl (by decide) (by decide) rfl rfl (ct_23_X11_init X _) ?_
  refine rn_astore_n dL_law_7 (by decide) rfl ?_
  refine rc_new dL_law_8 rfl kC_12 kn_RL_10 df_12 hd_81 (by decide) rfl rfl ?_
  refine rn_dup dL_law_11 rfl ?_
  refine rc_call dL_law_12 kl_RL_12 rfl (by decide) rfl (by decide) (by decide) rfl rfl (ct_24_X12_init X _) ?_
  refine rn_astore_n dL_law_15 (by decide) rfl ?_
  exact k
def I00 : IM := IU 10
def J00 : IM := fun _ _ => 0
theorem ct_end (X : pX) : Cs 122 124 10 X = St X I00 J00 := rfl
theorem ct_start (L : Nat) (xs : Nat → Int32) : M00 L xs = Cs 0 0 0 (L, xs) := rfl
