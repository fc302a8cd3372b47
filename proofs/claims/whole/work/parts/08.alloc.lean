/-! what makes cells -/
theorem cellE_al {cy : Nat → ClassId} {α α' : Nat → Nat} {I : Nat → Nat → Int32} {J : Nat → Nat → Int64} {R : Nat → Nat → Option Nat} {a : Nat} (h : pHd) (hα : ∀ k b, R a k = some b → α' b = α b) : cellE cy α' I J R a h = cellE cy α I J R a h := by
  have e : ∀ k, (R a k).map α' = (R a k).map α := by
    intro k
    cases hk : R a k with
    | none => rfl
    | some b => simp [hα k b hk]
  unfold cellE fV
  simp only [e]
theorem pW_push {cy : Nat → ClassId} {α : Nat → Nat} {hs : List pHd} {I : Nat → Nat → Int32} {J : Nat → Nat → Int64} {R : Nat → Nat → Option Nat} {X : pX} {h0 : pHd} {q : Nat} (hz : pZ (hs, I, J, R, X)) :
    pW cy (fun a => if a = hs.length then q else α a) (hs ++ [h0], I, J, R, X) = pW cy α (hs, I, J, R, X) ++ [(q, cellE cy α I J R hs.length h0)] := by
  have hα : ∀ a k b, R a k = some b → (fun a => if a = hs.length then q else α a) b = α b := fun a k b hb => by
    have h1 : b < hs.length := hz.2 a k b hb
    show (if b = hs.length then q else α b) = α b
    rw [if_neg (by omega)]
  apply List.ext_getElem?
  intro i
  simp only [pW, List.getElem?_mapIdx]
  by_cases hi : i < hs.length
  · rw [List.getElem?_append_left hi, List.getElem?_append_left (by simpa using hi), List.getElem?_mapIdx]
    cases hs[i]? with
    | none => rfl
    | some x =>
      simp only [Option.map_some]
      rw [cellE_al x (hα i), if_neg (by omega)]
  · rw [List.getElem?_append_right (by omega), List.getElem?_append_right (by simpa using hi)]
    simp only [List.length_mapIdx]
    by_cases h2 : i - hs.length = 0
    · have h3 : i = hs.length := by omega
      subst h3
      simp only [Nat.sub_self, List.getElem?_cons_zero, Option.map_some, if_true]
      rw [cellE_al h0 (hα _)]
    · rw [List.getElem?_eq_none (by simp; omega), List.getElem?_eq_none (by simp; omega)]
      rfl
theorem pZ_push {hs : List pHd} {I : Nat → Nat → Int32} {J : Nat → Nat → Int64} {R : Nat → Nat → Option Nat} {X : pX} {h0 : pHd} (hz : pZ (hs, I, J, R, X)) : pZ (hs ++ [h0], I, J, R, X) := by
  refine ⟨fun a ha => hz.1 a ?_, fun a k b hb => ?_⟩
  · have h1 : (hs ++ [h0]).length ≤ a := ha
    rw [List.length_append] at h1
    show hs.length ≤ a
    omega
  · have h1 : b < hs.length := hz.2 a k b hb
    show b < (hs ++ [h0]).length
    rw [List.length_append]; omega
/-- the references of a list of locals, of a stack, are below n -/
def okL (n : Nat) : List (Option Value) → Bool
  | [] => true
  | some (.ref a) :: t => (decide (a < n) || decide (1000 ≤ a)) && okL n t
  | _ :: t => okL n t
def okS (n : Nat) : List Value → Bool
  | [] => true
  | .ref a :: t => decide (a < n) && okS n t
  | _ :: t => okS n t
theorem okL_at {n : Nat} : ∀ {ls : List (Option Value)}, okL n ls = true → ∀ (i a : Nat), ls[i]? = some (some (Value.ref a)) → a < n ∨ 1000 ≤ a
  | [], _, i, a, h => by simp at h
  | o :: t, hk, i, a, h => by
    cases i with
    | zero =>
      rw [List.getElem?_cons_zero] at h
      cases h
      simp only [okL, Bool.and_eq_true, Bool.or_eq_true, decide_eq_true_eq] at hk
      exact hk.1
    | succ i =>
      rw [List.getElem?_cons_succ] at h
      refine okL_at (ls := t) ?_ i a h
      cases o with
      | none => exact hk
      | some v => cases v <;> simp only [okL, Bool.and_eq_true] at hk <;> first | exact hk.2 | exact hk
theorem okS_at {n : Nat} : ∀ {st : List Value}, okS n st = true → ∀ (a : Nat), Value.ref a ∈ st → a < n
  | [], _, a, h => by cases h
  | v :: t, hk, a, h => by
    rcases List.mem_cons.mp h with e | h1
    · subst e
      simp only [okS, Bool.and_eq_true, decide_eq_true_eq] at hk
      exact hk.1
    · refine okS_at (st := t) ?_ a h1
      cases v <;> simp only [okS, Bool.and_eq_true] at hk <;> first | exact hk.2 | exact hk
theorem rn_A {h : Nat} {mi : MI} {pc pc' : Nat} {ls : List (Option Value)} {st st' : List Value} {hs : List pHd} {I : Nat → Nat → Int32} {J : Nat → Nat → Int64} {R : Nat → Nat → Option Nat} {X : pX} {Q : Option Value → pM → Prop} {h0 : pHd}
    (step : ∀ (p : Program) (l : Launch) (e : Env) (Rm : Room) (s : State) (m : MethodId) (args : Array Value) (below : List Frame) (meth : Method) (c : Code) (D : va_G) (cy : Nat → ClassId) (b0 : Nat) (α : Nat → Nat) (H : Heap) (locs : List Loc) (cells slots : Nat) (Qs : State → Prop) (lsA : Array Slot),
      Cx p s m args meth c D cy b0 α X mi → Wd D cy b0 α (hs, I, J, R, X) H → va_S (fun q => b0 ≤ q) s.heap H locs → LR α lsA mi.2.2.1 ls → (1 ≤ h → 1 ≤ Rm.frames ∧ 64 ≤ Rm.locals) → cells + 1 ≤ Rm.cells → slots + hsz h0 ≤ Rm.slots → ((∀ k, I hs.length k = 0) ∧ (∀ k, J hs.length k = 0) ∧ ∀ k, R hs.length k = none) →
      (∀ (q : Nat) (H1 : Heap), va_P D vwCl (pW cy α (hs, I, J, R, X) ++ [(q, cellE cy α I J R hs.length h0)]) H1 → va_D (fun q => b0 ≤ q) (pW cy α (hs, I, J, R, X) ++ [(q, cellE cy α I J R hs.length h0)]) → va_S (fun q => b0 ≤ q) s.heap H1 locs → W p l e Rm s m args below meth c H1 locs (cells + 1) (slots + hsz h0) Qs (F0 m pc' lsA (.ref q :: st'.map (re α)))) →
      W p l e Rm s m args below meth c H locs cells slots Qs (F0 m pc lsA (st.map (re α))))
    (h1000 : hs.length < 1000) (hl : okL hs.length ls = true) (hst : okS hs.length st' = true)
    (k : Rn h mi pc' ls (.ref hs.length :: st') (hs ++ [h0], I, J, R, X) Q) : Rn h mi pc ls st (hs, I, J, R, X) Q := by
  obtain ⟨r, M', q, c1, c2, c3, Y⟩ := k
  have n1 : cnt (hs ++ [h0], I, J, R, X) = cnt (hs, I, J, R, X) + 1 := by simp [cnt]
  have n2 : slt (hs ++ [h0], I, J, R, X) = slt (hs, I, J, R, X) + hsz h0 := by simp [slt]
  have n3 : cnt (hs, I, J, R, X) = hs.length := rfl
  refine ⟨r, M', q, by omega, by omega, ⟨c3.1, by have := c3.2; omega⟩, ?_⟩
  intro p l e Rm s m args below meth c D cy b0 α H locs cells slots Qs lsA C hf hlo hc hs0 hW hS hL hE
  refine step p l e Rm s m args below meth c D cy b0 α H locs cells slots Qs lsA C hW hS hL (fun h1 => ⟨by omega, by omega⟩) (by omega) (by omega) (hW.2.2.1 _ (Nat.le_refl _)) (fun qa H1 hP hD hS1 => ?_)
  rw [← pW_push (h0 := h0) (q := qa) hW.2.2] at hP hD
  have hα : ∀ a, a < hs.length → (fun a => if a = hs.length then qa else α a) a = α a := fun a ha => if_neg (by omega)
  have hα2 : ∀ a, 1000 ≤ a → (fun a => if a = hs.length then qa else α a) a = α a := fun a ha => if_neg (by omega)
  have est : (Value.ref qa :: st'.map (re α)) = ((.ref hs.length :: st').map (re (fun a => if a = hs.length then qa else α a))) := by
    rw [List.map_cons]
    congr 1
    · simp [re]
    · apply List.map_congr_left
      intro v hv
      cases v <;> first | rfl | (simp only [re]; rw [if_neg (by have := okS_at hst _ hv; omega)])
  rw [est]
  obtain ⟨g1, g2, g3, g4, g5, g6, g7, g8, g9, g10, g11, g12⟩ := C
  refine Y p l e Rm s m args below meth c D cy b0 _ H1 locs _ _ Qs lsA ⟨g1, g2, g3, g4, g5, g6, g7, g8, g9, g10, FG.al hα2 g11, g12⟩ hf hlo (by omega) (by omega) ⟨hP, hD, pZ_push hW.2.2⟩ hS1 (hL.al (fun i a hi => (okL_at hl i a hi).elim (hα a) (hα2 a))) ?_
  intro H' locs' α' pc2 lsA' hr hα' hW' hS'
  have z1 : cells + 1 + (cnt M' - cnt (hs ++ [h0], I, J, R, X)) = cells + (cnt M' - cnt (hs, I, J, R, X)) := by omega
  have z2 : slots + hsz h0 + (slt M' - slt (hs ++ [h0], I, J, R, X)) = slots + (slt M' - slt (hs, I, J, R, X)) := by omega
  rw [z1, z2]
  refine hE H' locs' α' pc2 lsA' hr (fun a ha => ?_) hW' hS'
  have h5 := hα' a (by omega)
  rw [h5]
  exact if_neg (by omega)
section RA
variable {h : Nat} {mi : MI} {pc : Nat} {ls : List (Option Value)} {st : List Value} {hs : List pHd} {I : Nat → Nat → Int32} {J : Nat → Nat → Int64} {R : Nat → Nat → Option Nat} {X : pX} {Q : Option Value → pM → Prop} {a n : Nat} {i x : Int32}
theorem rn_new {idx ci : Nat} {C : String} {T : u_T} (hd : decode mi.2.1 pc = .ok (.new idx, 3)) (hc : vwCl[ci]? = some (C, T, nF ci)) (K : ClK ci) (hw : Cond.classLink mi.1.cls idx C ∈ gT ∧ Cond.instantiable C (nF ci) ∈ gT ∧ Cond.initialized C ∈ gT) (hdf : ∀ j, j < nF ci → defaultValue (fTy ci j) = if (fTy ci j).isReference = true then .null else .int 0)
    (h1000 : hs.length < 1000) (hl : okL hs.length ls = true) (hst : okS hs.length st = true) (k : Rn h mi (pc + 3) ls (.ref hs.length :: st) (hs ++ [(0, ci, 0)], I, J, R, X) Q) : Rn h mi pc ls st (hs, I, J, R, X) Q := by
  obtain ⟨C', T', hc', hin, hty, -⟩ := K
  have e0 := Option.some.inj (hc.symm.trans hc')
  injection e0 with e1 e2
  injection e2 with e3 e4
  subst e1; subst e3
  refine rn_A (fun p l e Rm s m args below meth c D cy b0 α H locs cells slots Qs lsA Cc Wh S L HR hc1 hs1 hz kk => ?_) h1000 hl hst k
  have w := Cc.2.2.2.2.2.1
  refine va_new Cc.1 Cc.2.1 w hin (fTy ci) hty Cc.2.2.2.2.1 (w _ hw.1) (w _ hw.2.1) (w _ hw.2.2) Cc.2.2.2.2.2.2.2.2.1 Wh.1 Wh.2.1 S (fun q hq => Nat.le_trans Cc.2.2.2.2.2.2.2.2.2.1 hq) hc (fs := (List.range (nF ci)).map (fV α I R hs.length ci)) ?_ hc1 hs1 hd (fun q H1 hP hD hS1 => kk q H1 hP hD hS1)
  intro j hj
  rw [hdf j hj]
  have e : vp_V ((List.range (nF ci)).map (fV α I R hs.length ci)) j = fV α I R hs.length ci j := by
    unfold vp_V
    rw [List.getD_eq_getElem?_getD, fV_at hj]; rfl
  rw [e]
  unfold fV
  rw [hz.1 j, hz.2.2 j]
  rfl
theorem rn_newarr {at' : ArrayType} {ty : FieldType} {t0 t N : Nat} (hd : decode mi.2.1 pc = .ok (.newarray at', 2)) (hty : newarray.typeOf at' = ty) (ht : pTys[t]? = some ty) (ho : ∀ C, ty ≠ .object C) (h12 : (t0 = 1 ∧ defaultValue ty = .int 0) ∨ (t0 = 2 ∧ defaultValue ty = .long 0)) (hw : Cond.arrayClass ty ∈ gT) (hi : 0 ≤ i.toInt ∧ i.toInt.toNat = N) (hb : N * componentBytes ty ≤ 536870912)
    (h1000 : hs.length < 1000) (hl : okL hs.length ls = true) (hst : okS hs.length st = true) (k : Rn h mi (pc + 2) ls (.ref hs.length :: st) (hs ++ [(t0, t, N)], I, J, R, X) Q) : Rn h mi pc ls (.int i :: st) (hs, I, J, R, X) Q := by
  have nn : ¬ i < 0 := fun q => by rw [Int32.lt_iff_toInt_lt, Int32.toInt_zero] at q; omega
  have hsz0 : hsz (t0, t, N) = N := by rcases h12 with ⟨rfl, -⟩ | ⟨rfl, -⟩ <;> rfl
  subst hty
  refine rn_A (h0 := (t0, t, N)) (fun p l e Rm s m args below meth c D cy b0 α H locs cells slots Qs lsA Cc Wh S L HR hc1 hs1 hz kk => ?_) h1000 hl hst k
  rw [hsz0] at hs1 kk
  have w := Cc.2.2.2.2.2.1
  have hA : ∀ q, s.heap.size ≤ q → b0 ≤ q := fun q hq => Nat.le_trans Cc.2.2.2.2.2.2.2.2.2.1 hq
  have hfin : ∀ (a0 : vp_A), (∀ cA : ClassId, vp_cell cA a0 = arrV cA N (fun _ => defaultValue (newarray.typeOf at'))) → (∀ q : Nat, cellE cy α I J R hs.length (t0, t, N) = .inl (cy t, a0)) →
      W p l e Rm s m args below meth c H locs cells slots Qs (F0 m pc lsA ((.int i :: st).map (re α))) := by
    intro a0 ha0 hce
    refine va_newa Cc.1 Cc.2.1 (w _ hw) rfl Cc.2.2.2.2.2.2.2.2.1 Wh.1 Wh.2.1 S hA ha0 nn hi.2 hb hc1 hs1 hd (fun q cA H1 hK hP hD hS1 => ?_)
    have hlen : (tysOf cy).length = 9 := by simp [tysOf, pTys]
    have r1 := (hK.2 9 (cA, newarray.typeOf at') (by rw [List.getElem?_append_right (by omega), hlen]; rfl)).2
    have r2 := (Cc.2.2.2.2.2.2.2.2.1.2 t _ (tys_at ht)).2
    have hcc : cA = cy t := by
      cases hty2 : newarray.typeOf at' with
      | object C => exact absurd hty2 (ho C)
      | _ => rw [hty2] at r1 r2; exact Option.some.inj (Eq.trans (Eq.symm r1) r2)
    subst hcc
    rw [← hce 0] at hP hD
    exact kk q H1 hP hD hS1
  rcases h12 with ⟨rfl, hdv⟩ | ⟨rfl, hdv⟩
  · refine hfin (N, .inl (I hs.length)) (fun cA => ?_) (fun _ => rfl)
    rw [vp_cell_i, hdv]
    congr 1
    funext j
    rw [hz.1 j]
  · refine hfin (N, .inr (.inl (J hs.length))) (fun cA => ?_) (fun _ => rfl)
    rw [vp_cell_l, hdv]
    congr 1
    funext j
    rw [hz.2.1 j]
theorem rn_anewarr {idx t N : Nat} {C : String} (hd : decode mi.2.1 pc = .ok (.anewarray idx, 3)) (ht : t = 6 ∧ C = RX5 ∨ t = 7 ∧ C = RX6 ∨ t = 8 ∧ C = RX7) (hw : Cond.classLink mi.1.cls idx C ∈ gT) (hi : 0 ≤ i.toInt ∧ i.toInt.toNat = N) (hb : N * 4 ≤ 536870912)
    (h1000 : hs.length < 1000) (hl : okL hs.length ls = true) (hst : okS hs.length st = true) (k : Rn h mi (pc + 3) ls (.ref hs.length :: st) (hs ++ [(3, t, N)], I, J, R, X) Q) : Rn h mi pc ls (.int i :: st) (hs, I, J, R, X) Q := by
  have nn : ¬ i < 0 := fun q => by rw [Int32.lt_iff_toInt_lt, Int32.toInt_zero] at q; omega
  refine rn_A (h0 := (3, t, N)) (fun p l e Rm s m args below meth c D cy b0 α H locs cells slots Qs lsA Cc Wh S L HR hc1 hs1 hz kk => ?_) h1000 hl hst k
  have w := Cc.2.2.2.2.2.1
  have hA : ∀ q, s.heap.size ≤ q → b0 ≤ q := fun q hq => Nat.le_trans Cc.2.2.2.2.2.2.2.2.2.1 hq
  have hAO := Cc.2.2.2.2.2.2.2.2.2.2.1.2.2.2
  have hao : va_AO C s := by
    rcases ht with ⟨-, rfl⟩ | ⟨-, rfl⟩ | ⟨-, rfl⟩
    · exact hAO.1
    · exact hAO.2.1
    · exact hAO.2.2.1
  have hpt : pTys[t]? = some (.object C) := by rcases ht with ⟨rfl, rfl⟩ | ⟨rfl, rfl⟩ | ⟨rfl, rfl⟩ <;> rfl
  refine va_newq Cc.1 Cc.2.1 Cc.2.2.2.2.1 (w _ hw) hao Cc.2.2.2.2.2.2.2.2.1 Wh.1 Wh.2.1 S hA nn hi.2 hb hc1 hs1 hd (fun q cA H1 hK hP hD hS1 => ?_)
  have hlen : (tysOf cy).length = 9 := by simp [tysOf, pTys]
  obtain ⟨kA, comp, -, -, -, r1⟩ := (hK.2 9 (cA, .object C) (by rw [List.getElem?_append_right (by omega), hlen]; rfl)).2
  obtain ⟨kA2, comp2, -, -, -, r2⟩ := (Cc.2.2.2.2.2.2.2.2.1.2 t _ (tys_at hpt)).2
  have hcc : cA = cy t := Option.some.inj (r1.symm.trans r2)
  subst hcc
  have hce : (.inl (cy t, N, .inr (.inr (.inr (.inr (fun _ => none))))) : va_E) = cellE cy α I J R hs.length (3, t, N) := by
    simp [cellE, hz.2.2]
  rw [hce] at hP hD
  exact kk q H1 hP hD hS1
theorem rn_aastore {t b ci z : Nat} (hd : decode mi.2.1 pc = .ok (.aastore, 1)) (ht : t = 6 ∧ ci = 5 ∨ t = 7 ∧ ci = 6 ∨ t = 8 ∧ ci = 7) (hh : hs[a]? = some (3, t, n)) (hbh : hs[b]? = some (0, ci, z)) (hi : 0 ≤ i.toInt ∧ i.toInt < n) (k : Rn h mi (pc + 1) ls st (hs, I, J, upA R a (up1 (R a) i.toInt.toNat (some b)), X) Q) : Rn h mi pc ls (.ref b :: .int i :: .ref a :: st) (hs, I, J, R, X) Q := by
  obtain ⟨r, hty, hcl⟩ : ∃ r : vw_C, pTys[t]? = some (.object r.1) ∧ vwCl[ci]? = some r := by
    rcases ht with ⟨rfl, rfl⟩ | ⟨rfl, rfl⟩ | ⟨rfl, rfl⟩
    · exact ⟨(RX5, TX5, 3), rfl, rfl⟩
    · exact ⟨(RX6, TX6, 2), rfl, rfl⟩
    · exact ⟨(RX7, TX7, 5), rfl, rfl⟩
  refine rn_M (fun p l e Rm s m args below meth c D cy b0 α H locs cells slots Qs lsA Cc Wh S L HR z => ?_) (fun hz => (pZ_up (hlt_of hh) hz).2.2 _ (up1_ok (hlt_of hbh) (hz.2 a))) k
  refine va_astq (r := r) Cc.1 Cc.2.1 Cc.2.2.2.2.2.2.2.2.1 Wh.1 Wh.2.1 S a t b ci (pW_get hh) (tys_at hty) (pW_get hbh) hcl (pin_of hi) hd (fun H1 locs1 hP hD hS => ?_)
  have e : (.inl (cy t, n, .inr (.inr (.inr (.inr (va_up (fun k => (R a k).map α) i.toNatClampNeg (some (α b))))))) : va_E) = cellE cy α I J (upA R a (up1 (R a) i.toInt.toNat (some b))) a (3, t, n) := by
    rw [← ce3]
    congr 7
    funext j
    by_cases hj : j = i.toInt.toNat
    · subst hj
      simp only [va_up, up1]
      rw [if_pos (show i.toInt.toNat = i.toNatClampNeg from rfl)]; simp
    · simp only [va_up, up1]
      rw [if_neg (show ¬ j = i.toNatClampNeg from hj), if_neg hj]
  dsimp only at hP hD
  rw [e, pW_set hh (fun b hb => ⟨rfl, rfl, upA_ne hb⟩)] at hP hD
  exact z H1 locs1 hP hD hS
theorem rn_objinit {idx b : Nat} (h1 : 1 ≤ h) (hd : decode mi.2.1 pc = .ok (.invokespecial idx, 3)) (hw : Cond.methodLink mi.1.cls idx objectInit ∈ gT ∧ Cond.instanceMethod objectInit ∈ gT ∧ Cond.code objectInit ⟨#[0xb1]⟩ 1 none ∈ gT) (hst : (st.map fun v => v.category).sum ≤ 8) (k : Rn h mi (pc + 3) ls st (hs, I, J, R, X) Q) : Rn h mi pc ls (.ref b :: st) (hs, I, J, R, X) Q := by
  refine rn_0 (fun p l e Rm s m args below meth c D cy b0 α H locs cells slots Qs lsA Cc Wh S L HR z => ?_) k
  have w := Cc.2.2.2.2.2.1
  refine W.objInit Cc.1 Cc.2.1 Cc.2.2.2.2.1 (w _ hw.1) (w _ hw.2.1) (w _ hw.2.2) rfl (by rw [Cc.2.2.1]; exact L.1) rfl hd (HR h1).1 ?_ z
  have h3 := st_room (α := α) hst
  have h4 := (HR h1).2
  show 2 * 0 + _ + 12 ≤ _
  omega
end RA
