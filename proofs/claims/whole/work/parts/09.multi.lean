theorem zz_wide : True := by
  have _h := @Jvm.Stand.multianewarray2F
  trivial
def va_AOA (ty : FieldType) (U : State) : Prop := (Cond.arrayOver (.array ty)).before #[] U = true
theorem va_AOA.use {ty : FieldType} {A : Array Value} {U : State} (h : va_AOA ty U) : (Cond.arrayOver (.array ty)).before A U = true := h
/-! ===== BEGIN new T[n][m]: the outer array a place, the inner ones among the pooled ===== -/
/-- f, but v at every address of l -/
def vr_up {α : Type} (f : Nat → α) (l : List Nat) (v : α) : Nat → α := fun a => if a ∈ l then v else f a
theorem vr_up_in {α : Type} {f : Nat → α} {l : List Nat} {v : α} {a : Nat} (h : a ∈ l) : vr_up f l v a = v := if_pos h
theorem vr_up_ne {α : Type} {f : Nat → α} {l : List Nat} {v : α} {a : Nat} (h : a ∉ l) : vr_up f l v a = f a := if_neg h
theorem vr_rows {L l : List Nat} {f : Nat → va_E} {e : va_E} (h : ∀ a, a ∈ l → a ∉ L) : va_pl L f ++ l.map (fun a => (a, e)) = va_pl (L ++ l) (vr_up f l e) := by
  unfold va_pl
  rw [List.map_append]
  congr 1
  · apply List.map_congr_left
    intro a ha
    rw [vr_up_ne (fun q => h a q ha)]
  · apply List.map_congr_left
    intro a ha
    rw [vr_up_in ha]
theorem vr_lay {X rows : va_W} {x : Nat × va_E} {pl : va_W} {D : va_G} {cl : List vw_C} {H : Heap} (hP : va_P D cl (((X ++ pl) ++ [x]) ++ rows) H) : va_P D cl ((X ++ [x]) ++ (pl ++ rows)) H := by
  rw [List.append_assoc (X ++ pl)] at hP
  have h := va_P.swap hP
  rw [← List.append_assoc X] at h
  have h2 := va_P.swap h
  rw [List.append_assoc (X ++ [x])] at h2
  exact h2
theorem vr_layD {X rows : va_W} {x : Nat × va_E} {pl : va_W} {A : Nat → Prop} (hD : va_D A (((X ++ pl) ++ [x]) ++ rows)) : va_D A ((X ++ [x]) ++ (pl ++ rows)) := by
  rw [List.append_assoc (X ++ pl)] at hD
  have h := va_D.swap hD
  rw [← List.append_assoc X] at h
  have h2 := va_D.swap h
  rw [List.append_assoc (X ++ [x])] at h2
  exact h2
theorem vr_outer (c : ClassId) (N h0 : Nat) : ∀ i : Nat, Jvm.Free.Multi.outerC c N h0 i = arrV c N (fun j => va_rf (if j < i then some (h0 + 1 + j) else none))
  | 0 => by
    show ({ cls := c, slots := Array.replicate N .null, vm := .none } : Cell) = _
    rw [arrV_new]
    refine congrArg (arrV c N) (funext fun j => ?_)
    simp [va_rf]
  | i + 1 => by
    show (Jvm.Free.Multi.outerC c N h0 i).setSlot i (.ref (h0 + 1 + i)) = _
    rw [vr_outer c N h0 i, arrV_store]
    refine congrArg (arrV c N) (funext fun j => ?_)
    by_cases e : j = i
    · subst e
      simp [updV, va_rf]
    · by_cases h : j < i
      · simp [updV, e, h, Nat.lt_succ_of_lt h]
      · simp [updV, e, h, show ¬ j < i + 1 by omega]
section VGM
variable {p : Program} {l : Launch} {e : Env} {R : Room} {s : State} {m : MethodId} {args : Array Value} {below : List Frame} {meth : Method} {c : Code} {H : Heap} {locs : List Loc} {cells slots : Nat} {Q : State → Prop}
variable {cc : ByteArray} {pc : Nat} {ls : Array Slot} {rest : List Value} {D : va_G} {cl : List vw_C} {A : Nat → Prop} {a : Nat} {tys : List (ClassId × FieldType)} {ws : va_W} {H0 : Heap}
theorem va_mna {X : va_W} {L : List Nat} {f : Nat → va_E} {cc : ByteArray} (hexec : p.tables.exec = Jvm.exec) (hb : c.code = cc) {own : String} {index : Nat} {ty : FieldType} {cy : ClassId} (hown : s.vm.findClass own = some m.cls) (hclink : (Cond.classLink own index ("[" ++ (FieldType.array ty).toString)).before args s = true) (hover : va_AOA ty s) (harr : (Cond.arrayClass ty).before args s = true) (hcy : s.vm.findClass (FieldType.array ty).toString = some cy)
    (hK : va_K D cl tys s) (hP : va_P D cl (X ++ va_pl L f) H) (hD : va_D A (X ++ va_pl L f)) (hS : va_S A H0 H locs) (hA : ∀ q, H0.size ≤ q → A q) {n k : Int32} {N' K' : Nat} {z : vp_A} (hn : ¬ n < 0) (hk : ¬ k < 0) (hN : n.toNatClampNeg = N') (hM : k.toNatClampNeg = K')
    (hb1 : N' * 4 ≤ 536870912) (hb2 : K' * componentBytes ty ≤ 536870912) (hb3 : K' ≤ 536870912) (hdf : fits ty (defaultValue ty) = true) (hdd : (defaultValue ty).isDefault = true) (hcells : cells + (1 + N') ≤ R.cells) (hslots : slots + (N' + N' * K') ≤ R.slots) (hz : ∀ c : ClassId, Jvm.Free.Multi.innerC c K' (defaultValue ty) = vp_cell c z) (hdg : decode cc pc = .ok (.multianewarray index 2, 4))
    (kk : ∀ (q : Nat) (r : Nat → Nat) (cA : ClassId) (H1 : Heap), (∀ i j : Nat, i < N' → j < N' → r i = r j → i = j) → (∀ i : Nat, i < N' → r i ∉ L) → va_K D cl (tys ++ [(cA, .array ty)]) s →
      va_P D cl ((X ++ [(q, .inl (cA, N', .inr (.inr (.inr (.inr (fun i => if i < N' then some (r i) else none))))))]) ++ va_pl (L ++ (List.range N').map r) (vr_up f ((List.range N').map r) (.inl (cy, z)))) H1 → va_D A ((X ++ [(q, .inl (cA, N', .inr (.inr (.inr (.inr (fun i => if i < N' then some (r i) else none))))))]) ++ va_pl (L ++ (List.range N').map r) (vr_up f ((List.range N').map r) (.inl (cy, z)))) → va_S A H0 H1 locs →
      W p l e R s m args below meth c H1 locs (cells + 1 + N') (slots + N' + N' * K') Q (F0 m (pc + 4) ls (.ref q :: rest))) : W p l e R s m args below meth c H locs cells slots Q (F0 m pc ls (.int k :: .int n :: rest)) := by
  subst hN
  subst hM
  intro T hT Xs
  obtain ⟨vm₁, cA, comp, -, fA, fC, hO, -, X', step⟩ := Xs.multianewarray2F hexec hown hclink (va_AOA.use hover) harr (g := F0 m pc ls (.int k :: .int n :: rest)) rfl (by rw [hb]; exact hdg) rfl hn hk hb1 hb2 hb3 hdf hdd hcells hslots
  have ec : some cy = some comp := hcy.symm.trans fC
  cases ec
  generalize hF : Jvm.Free.Multi.fill (T.setVm vm₁) cA cy n.toNatClampNeg k.toNatClampNeg (defaultValue ty) n.toNatClampNeg = F at X' step
  have hTh : (T.setVm vm₁).heap = H := hT
  obtain ⟨f1, f2, -, -⟩ := Jvm.Free.Multi.fill_facts (T.setVm vm₁) cA cy n.toNatClampNeg k.toNatClampNeg (defaultValue ty) n.toNatClampNeg
  rw [hF, hTh] at f1 f2
  have hold : ∀ x : Nat, x < H.size → F.heap[x]? = H[x]? := fun x hx => by
    have := Jvm.Free.Multi.fill_old (T.setVm vm₁) cA cy n.toNatClampNeg k.toNatClampNeg (defaultValue ty) (a := x) (by rw [hTh]; exact hx) n.toNatClampNeg
    rw [hF, hTh] at this
    exact this
  have hrow : ∀ j : Nat, j < n.toNatClampNeg → F.heap[H.size + 1 + j]? = some (vp_cell cy z) := fun j hj => by
    have := Jvm.Free.Multi.fill_inner (T.setVm vm₁) cA cy n.toNatClampNeg k.toNatClampNeg (defaultValue ty) n.toNatClampNeg j hj
    rw [hF, hTh, hz] at this
    exact this
  have hout : Jvm.Free.Multi.outerC cA n.toNatClampNeg H.size n.toNatClampNeg = vp_cell cA (n.toNatClampNeg, .inr (.inr (.inr (.inr (fun i => if i < n.toNatClampNeg then some (H.size + 1 + i) else none))))) := by
    rw [vp_cell_q]
    exact vr_outer cA n.toNatClampNeg H.size n.toNatClampNeg
  rw [hout] at f2
  have hlt : ∀ a, a ∈ L → a < H.size := fun a ha => by
    obtain ⟨k9, hk9⟩ := va_pl_get (X := X) (f := f) ha
    exact (hP k9 _ hk9).lt
  have hnl : ∀ i : Nat, i < n.toNatClampNeg → H.size + 1 + i ∉ L := fun i _ h => by
    have := hlt _ h
    omega
  have hnm : ∀ a, a ∈ (List.range n.toNatClampNeg).map (fun i => H.size + 1 + i) → a ∉ L := fun a ha h => by
    obtain ⟨i, -, rfl⟩ := List.mem_map.mp ha
    have := hlt _ h
    omega
  have hP0 : va_P D cl (X ++ va_pl L f) F.heap := hP.kept (fun k9 x hx => hold x.1 ((hP k9 x hx).lt))
  have hP1 : va_P D cl ((X ++ va_pl L f) ++ [(H.size, .inl (cA, n.toNatClampNeg, .inr (.inr (.inr (.inr (fun i => if i < n.toNatClampNeg then some (H.size + 1 + i) else none))))))]) F.heap := hP0.app (fun k9 x hx => by
    have h0 : k9 < 1 := (List.getElem?_eq_some_iff.mp hx).1
    rw [show k9 = 0 by omega] at hx
    cases hx
    exact f2)
  have hP2 : va_P D cl (((X ++ va_pl L f) ++ [(H.size, .inl (cA, n.toNatClampNeg, .inr (.inr (.inr (.inr (fun i => if i < n.toNatClampNeg then some (H.size + 1 + i) else none))))))]) ++ ((List.range n.toNatClampNeg).map (fun i => H.size + 1 + i)).map (fun a => (a, .inl (cy, z)))) F.heap := hP1.app (fun k9 x hx => by
    obtain ⟨a, ha, rfl⟩ := List.mem_map.mp (List.mem_of_getElem? hx)
    obtain ⟨i, hi, rfl⟩ := List.mem_map.mp ha
    exact hrow i (List.mem_range.mp hi))
  have hD2 : va_D A (((X ++ va_pl L f) ++ [(H.size, .inl (cA, n.toNatClampNeg, .inr (.inr (.inr (.inr (fun i => if i < n.toNatClampNeg then some (H.size + 1 + i) else none))))))]) ++ ((List.range n.toNatClampNeg).map (fun i => H.size + 1 + i)).map (fun a => (a, .inl (cy, z)))) := by
    have hD1 := hD.push (e := .inl (cA, n.toNatClampNeg, .inr (.inr (.inr (.inr (fun i => if i < n.toNatClampNeg then some (H.size + 1 + i) else none)))))) hP rfl (hA _ hS.1)
    generalize hW1 : (X ++ va_pl L f) ++ [(H.size, .inl (cA, n.toNatClampNeg, .inr (.inr (.inr (.inr (fun i => if i < n.toNatClampNeg then some (H.size + 1 + i) else none))))))] = W1 at hD1 hP1 ⊢
    have hle : ∀ (k9 : Nat) (x : Nat × va_E), W1[k9]? = some x → x.1 ≤ H.size := fun k9 x hx => by
      rw [← hW1] at hx
      by_cases hl : k9 < (X ++ va_pl L f).length
      · rw [List.getElem?_append_left hl] at hx
        exact Nat.le_of_lt ((hP k9 x hx).lt)
      · rw [List.getElem?_append_right (by omega)] at hx
        have h0 : k9 - (X ++ va_pl L f).length < 1 := (List.getElem?_eq_some_iff.mp hx).1
        rw [show k9 - (X ++ va_pl L f).length = 0 by omega] at hx
        cases hx
        exact Nat.le_refl _
    have hr : ∀ (k9 : Nat) (x : Nat × va_E), (((List.range n.toNatClampNeg).map (fun i => H.size + 1 + i)).map (fun a => ((a, .inl (cy, z)) : Nat × va_E)))[k9]? = some x → x.1 = H.size + 1 + k9 := fun k9 x hx => by
      rw [List.getElem?_map, List.getElem?_map] at hx
      by_cases h9 : k9 < n.toNatClampNeg
      · rw [List.getElem?_range h9] at hx
        cases hx
        rfl
      · have hn0 : (List.range n.toNatClampNeg)[k9]? = none := List.getElem?_eq_none (by rw [List.length_range]; omega)
        rw [hn0] at hx
        cases hx
    refine ⟨fun i j x y hi hj hxy => ?_, fun k9 x hx => ?_⟩
    · by_cases h1 : i < W1.length <;> by_cases h2 : j < W1.length
      · rw [List.getElem?_append_left h1] at hi
        rw [List.getElem?_append_left h2] at hj
        exact hD1.1 i j x y hi hj hxy
      · rw [List.getElem?_append_left h1] at hi
        rw [List.getElem?_append_right (by omega)] at hj
        have := hle _ _ hi
        have := hr _ _ hj
        omega
      · rw [List.getElem?_append_right (by omega)] at hi
        rw [List.getElem?_append_left h2] at hj
        have := hle _ _ hj
        have := hr _ _ hi
        omega
      · rw [List.getElem?_append_right (by omega)] at hi hj
        have := hr _ _ hi
        have := hr _ _ hj
        omega
    · by_cases h1 : k9 < W1.length
      · rw [List.getElem?_append_left h1] at hx
        exact hD1.2 k9 x hx
      · rw [List.getElem?_append_right (by omega)] at hx
        have := hr _ _ hx
        exact hA _ (by have := hS.1; omega)
  have hAr : ArrOfT s cA (.array ty) := fun N9 z9 => by
    obtain ⟨-, k9, hk9, cm9, hkk9⟩ := (hO 0 0 0).1
    exact ⟨(fun q hq => by cases hq), k9, hk9, cm9, hkk9⟩
  have hK2 : va_K D cl (tys ++ [(cA, .array ty)]) s := ⟨hK.1, fun k9 x hx => by
    by_cases hl : k9 < tys.length
    · rw [List.getElem?_append_left hl] at hx
      exact hK.2 k9 x hx
    · rw [List.getElem?_append_right (by omega)] at hx
      have h0 : k9 - tys.length < 1 := (List.getElem?_eq_some_iff.mp hx).1
      rw [show k9 - tys.length = 0 by omega] at hx
      cases hx
      exact ⟨hAr, fA⟩⟩
  obtain ⟨t, a1, b1⟩ := kk H.size (fun i => H.size + 1 + i) cA F.heap (fun i j _ _ h => by have h9 : H.size + 1 + i = H.size + 1 + j := h; omega) hnl hK2 (by rw [← vr_rows hnm]; exact vr_lay hP2) (by rw [← vr_rows hnm]; exact vr_layD hD2) ⟨by rw [f1]; have := hS.1; omega, fun x h1 h2 => (hold x (Nat.lt_of_lt_of_le h1 hS.1)).trans (hS.2.1 x h1 h2), hS.2.2⟩ F rfl X'
  refine ⟨t, step t ?_, b1⟩
  have e : T.heap.size = H.size := by rw [hT]
  rw [e]
  exact a1
end VGM
/-! ===== END ===== -/
/-! new int[2][K] -/
theorem pW_push3 {cy : Nat → ClassId} {α : Nat → Nat} {hs : List pHd} {I : Nat → Nat → Int32} {J : Nat → Nat → Int64} {R : Nat → Nat → Option Nat} {X : pX} {K q r0 r1 : Nat} (hz : pZ (hs, I, J, R, X)) (h1 : ∀ k, I (hs.length + 1) k = 0) :
    pW cy (fun a => if a = hs.length then q else if a = hs.length + 1 then r0 else if a = hs.length + 2 then r1 else α a) (hs ++ [(3, 5, 2), (1, 0, K), (1, 0, K)], I, J, upA R hs.length (fun i => if i < 2 then some (hs.length + 1 + i) else none), X) =
      pW cy α (hs, I, J, R, X) ++ [(q, .inl (cy 5, 2, .inr (.inr (.inr (.inr (fun i => if i < 2 then some (if i = 0 then r0 else r1) else none)))))), (r0, .inl (cy 0, K, .inl (fun _ => 0))), (r1, .inl (cy 0, K, .inl (fun _ => 0)))] := by
  have hI : ∀ a, hs.length ≤ a → I a = fun _ => 0 := fun a ha => funext fun k => (hz.1 a ha).1 k
  apply List.ext_getElem?
  intro i
  simp only [pW, List.getElem?_mapIdx]
  by_cases hi : i < hs.length
  · rw [List.getElem?_append_left hi, List.getElem?_append_left (by simpa using hi), List.getElem?_mapIdx]
    cases hs[i]? with
    | none => rfl
    | some x =>
      simp only [Option.map_some]
      rw [if_neg (by omega), if_neg (by omega), if_neg (by omega)]
      rw [cellE_congr (I' := I) (I := I) (J' := J) (J := J) (R' := upA R hs.length (fun i => if i < 2 then some (hs.length + 1 + i) else none)) (R := R) x rfl rfl (upA_ne (by omega))]
      rw [cellE_al x (fun k b hb => ?_)]
      have h1 : b < hs.length := hz.2 i k b hb
      show (if b = hs.length then q else if b = hs.length + 1 then r0 else if b = hs.length + 2 then r1 else α b) = α b
      rw [if_neg (by omega), if_neg (by omega), if_neg (by omega)]
  · rw [List.getElem?_append_right (by omega), List.getElem?_append_right (by simpa using hi)]
    simp only [List.length_mapIdx]
    rcases (show i = hs.length ∨ i = hs.length + 1 ∨ i = hs.length + 2 ∨ hs.length + 3 ≤ i by omega) with rfl | rfl | rfl | h3
    · simp only [Nat.sub_self, List.getElem?_cons_zero, Option.map_some, if_true]
      congr 2
      simp only [cellE, upA_self]
      congr 7
      funext j
      by_cases hj : j < 2
      · rcases (show j = 0 ∨ j = 1 by omega) with rfl | rfl
        · simp
        · simp; omega
      · simp [hj]
    · rw [show hs.length + 1 - hs.length = 1 by omega]
      simp only [List.getElem?_cons_succ, List.getElem?_cons_zero, Option.map_some]
      rw [if_neg (by omega), if_pos trivial]
      congr 2
      simp only [cellE]
      rw [hI _ (by omega)]
    · rw [show hs.length + 2 - hs.length = 2 by omega]
      simp only [List.getElem?_cons_succ, List.getElem?_cons_zero, Option.map_some]
      rw [if_neg (by omega), if_neg (by omega), if_pos trivial]
      congr 2
      simp only [cellE]
      rw [hI _ (by omega)]
    · rw [List.getElem?_eq_none (by simp; omega), List.getElem?_eq_none (by simp; omega)]
      rfl

theorem rn_multi {h : Nat} {mi : MI} {pc : Nat} {ls : List (Option Value)} {st : List Value} {hs : List pHd} {I : Nat → Nat → Int32} {J : Nat → Nat → Int64} {R : Nat → Nat → Option Nat} {X : pX} {Q : Option Value → pM → Prop} {idx K : Nat} {k2 n2 : Int32}
    (hd : decode mi.2.1 pc = .ok (.multianewarray idx 2, 4)) (hw : Cond.classLink mi.1.cls idx ("[" ++ (FieldType.array .int).toString) ∈ gT ∧ Cond.arrayClass .int ∈ gT) (hn : n2.toInt = 2) (hk : 0 ≤ k2.toInt ∧ k2.toInt.toNat = K) (hK : K ≤ 10000000)
    (h1000 : hs.length + 2 < 1000) (hl : okL hs.length ls = true) (hst : okS hs.length st = true)
    (k : Rn h mi (pc + 4) ls (.ref hs.length :: st) (hs ++ [(3, 5, 2), (1, 0, K), (1, 0, K)], I, J, upA R hs.length (fun i => if i < 2 then some (hs.length + 1 + i) else none), X) Q) : Rn h mi pc ls (.int k2 :: .int n2 :: st) (hs, I, J, R, X) Q := by
  obtain ⟨r, M', q, c1, c2, c3, Y⟩ := k
  have m1 : cnt (hs ++ [(3, 5, 2), (1, 0, K), (1, 0, K)], I, J, upA R hs.length (fun i => if i < 2 then some (hs.length + 1 + i) else none), X) = cnt (hs, I, J, R, X) + 3 := by simp [cnt]
  have m2 : slt (hs ++ [(3, 5, 2), (1, 0, K), (1, 0, K)], I, J, upA R hs.length (fun i => if i < 2 then some (hs.length + 1 + i) else none), X) = slt (hs, I, J, R, X) + (2 + 2 * K) := by simp [slt, hsz]; omega
  have n3 : cnt (hs, I, J, R, X) = hs.length := rfl
  refine ⟨r, M', q, by omega, by omega, ⟨c3.1, by have := c3.2; omega⟩, ?_⟩
  intro p l e Rm s m args below meth c D cy b0 α H locs cells slots Qs lsA C hf hlo hc hs0 hW hS hL hE
  have w := C.2.2.2.2.2.1
  have hA : ∀ q, s.heap.size ≤ q → b0 ≤ q := fun q hq => Nat.le_trans C.2.2.2.2.2.2.2.2.2.1 hq
  have nn : ∀ z : Int32, 0 ≤ z.toInt → ¬ z < 0 := fun z hz q => by rw [Int32.lt_iff_toInt_lt, Int32.toInt_zero] at q; omega
  have hcy : s.vm.findClass (FieldType.array .int).toString = some (cy 0) := (C.2.2.2.2.2.2.2.2.1.2 0 _ (tys_at rfl)).2
  have hP0 : va_P D vwCl (pW cy α (hs, I, J, R, X) ++ va_pl [] (fun _ => .inr (0, []))) H := by
    have e0 : pW cy α (hs, I, J, R, X) ++ va_pl [] (fun _ => .inr (0, [])) = pW cy α (hs, I, J, R, X) := List.append_nil _
    rw [e0]; exact hW.1
  have hD0 : va_D (fun q => b0 ≤ q) (pW cy α (hs, I, J, R, X) ++ va_pl [] (fun _ => .inr (0, []))) := by
    have e0 : pW cy α (hs, I, J, R, X) ++ va_pl [] (fun _ => .inr (0, [])) = pW cy α (hs, I, J, R, X) := List.append_nil _
    rw [e0]; exact hW.2.1
  refine va_mna (z := (K, .inl (fun _ => 0))) C.1 C.2.1 C.2.2.2.2.1 (w _ hw.1) C.2.2.2.2.2.2.2.2.2.2.1.2.2.2.2.2.2 (w _ hw.2) hcy C.2.2.2.2.2.2.2.2.1 hP0 hD0 hS hA (nn _ (by omega)) (nn _ hk.1) (show n2.toInt.toNat = 2 by omega) (show k2.toInt.toNat = K from hk.2) (by omega) (by show K * 4 ≤ _; omega) (by omega) rfl rfl (by omega) (by omega) ?_ hd (fun qa rr cA H1 hinj _ hKs hP hD hS1 => ?_)
  · intro c
    show ({ cls := c, slots := Array.replicate K _, vm := .none } : Cell) = _
    rw [vp_cell_i, arrV_new]
    rfl
  have hlen : (tysOf cy).length = 9 := by simp [tysOf, pTys]
  have r1 : s.vm.findClass ("[" ++ (FieldType.array .int).toString) = some cA := (hKs.2 9 (cA, .array .int) (by rw [List.getElem?_append_right (by omega), hlen]; rfl)).2
  have r2 : s.vm.findClass ("[" ++ (FieldType.array .int).toString) = some (cy 5) := (C.2.2.2.2.2.2.2.2.1.2 5 _ (tys_at rfl)).2
  have hcc : cA = cy 5 := Option.some.inj (r1.symm.trans r2)
  subst hcc
  have ew : (pW cy α (hs, I, J, R, X) ++ [(qa, .inl (cy 5, 2, .inr (.inr (.inr (.inr (fun i => if i < 2 then some (rr i) else none))))))]) ++ va_pl ([] ++ (List.range 2).map rr) (vr_up (fun _ => .inr (0, [])) ((List.range 2).map rr) (.inl (cy 0, (K, .inl (fun _ => 0))))) =
      pW cy (fun a => if a = hs.length then qa else if a = hs.length + 1 then rr 0 else if a = hs.length + 2 then rr 1 else α a) (hs ++ [(3, 5, 2), (1, 0, K), (1, 0, K)], I, J, upA R hs.length (fun i => if i < 2 then some (hs.length + 1 + i) else none), X) := by
    rw [pW_push3 hW.2.2 (fun k => (hW.2.2.1 (hs.length + 1) (Nat.le_succ _)).1 k), List.append_assoc]
    congr 1
    have er : (List.range 2).map rr = [rr 0, rr 1] := rfl
    rw [er, List.nil_append]
    simp only [va_pl, List.map_cons, List.map_nil, List.singleton_append]
    rw [vr_up_in (by simp), vr_up_in (by simp)]
    congr 1
    congr 8
    funext i
    by_cases hi : i < 2
    · rcases (show i = 0 ∨ i = 1 by omega) with rfl | rfl <;> simp
    · simp [hi]
  rw [ew] at hP hD
  have hα2 : ∀ a, 1000 ≤ a → (fun a => if a = hs.length then qa else if a = hs.length + 1 then rr 0 else if a = hs.length + 2 then rr 1 else α a) a = α a := fun a ha => by
    show (if a = hs.length then qa else if a = hs.length + 1 then rr 0 else if a = hs.length + 2 then rr 1 else α a) = α a
    rw [if_neg (by omega), if_neg (by omega), if_neg (by omega)]
  have hα1 : ∀ a, a < hs.length → (fun a => if a = hs.length then qa else if a = hs.length + 1 then rr 0 else if a = hs.length + 2 then rr 1 else α a) a = α a := fun a ha => by
    show (if a = hs.length then qa else if a = hs.length + 1 then rr 0 else if a = hs.length + 2 then rr 1 else α a) = α a
    rw [if_neg (by omega), if_neg (by omega), if_neg (by omega)]
  have hα3 : ∀ a, hs.length + 3 ≤ a → (fun a => if a = hs.length then qa else if a = hs.length + 1 then rr 0 else if a = hs.length + 2 then rr 1 else α a) a = α a := fun a ha => by
    show (if a = hs.length then qa else if a = hs.length + 1 then rr 0 else if a = hs.length + 2 then rr 1 else α a) = α a
    rw [if_neg (by omega), if_neg (by omega), if_neg (by omega)]
  have est : (Value.ref qa :: st.map (re α)) = ((.ref hs.length :: st).map (re (fun a => if a = hs.length then qa else if a = hs.length + 1 then rr 0 else if a = hs.length + 2 then rr 1 else α a))) := by
    rw [List.map_cons]
    congr 1
    · simp [re]
    · apply List.map_congr_left
      intro v hv
      cases v <;> first | rfl | (simp only [re]; have h7 := okS_at hst _ hv; rw [if_neg (by omega), if_neg (by omega), if_neg (by omega)])
  rw [est]
  obtain ⟨g1, g2, g3, g4, g5, g6, g7, g8, g9, g10, g11, g12⟩ := C
  refine Y p l e Rm s m args below meth c D cy b0 _ H1 locs _ _ Qs lsA ⟨g1, g2, g3, g4, g5, g6, g7, g8, g9, g10, FG.al hα2 g11, g12⟩ hf hlo (by omega) (by omega) ⟨hP, hD, ?_⟩ hS1 (hL.al (fun i a hi => (okL_at hl i a hi).elim (hα1 a) (hα2 a))) ?_
  · refine ⟨fun a ha => ?_, fun a j b hb => ?_⟩
    · have h1 : (hs ++ [(3, 5, 2), (1, 0, K), (1, 0, K)]).length ≤ a := ha
      rw [List.length_append] at h1
      have h2 : hs.length + 3 ≤ a := h1
      have h3 := hW.2.2.1 a (by show hs.length ≤ a; omega)
      dsimp only at h3 ⊢
      rw [upA_ne (by omega)]
      exact h3
    · show b < (hs ++ [(3, 5, 2), (1, 0, K), (1, 0, K)]).length
      rw [List.length_append]
      show b < hs.length + 3
      dsimp only at hb
      by_cases ha : a = hs.length
      · subst ha
        rw [upA_self] at hb
        split at hb
        · cases hb; omega
        · cases hb
      · rw [upA_ne ha] at hb
        have h1 : b < hs.length := hW.2.2.2 a j b hb
        omega
  intro H' locs' α' pc2 lsA' hr hα' hW' hS'
  have z1 : cells + 1 + 2 + (cnt M' - cnt (hs ++ [(3, 5, 2), (1, 0, K), (1, 0, K)], I, J, upA R hs.length (fun i => if i < 2 then some (hs.length + 1 + i) else none), X)) = cells + (cnt M' - cnt (hs, I, J, R, X)) := by omega
  have z2 : slots + 2 + 2 * K + (slt M' - slt (hs ++ [(3, 5, 2), (1, 0, K), (1, 0, K)], I, J, upA R hs.length (fun i => if i < 2 then some (hs.length + 1 + i) else none), X)) = slots + (slt M' - slt (hs, I, J, R, X)) := by omega
  rw [z1, z2]
  refine hE H' locs' α' pc2 lsA' hr (fun a ha => ?_) hW' hS'
  have h5 := hα' a (by omega)
  rw [h5]
  rcases ha with h6 | h6
  · exact hα1 a h6
  · exact hα3 a (by omega)

/-! java.lang.Math -/
theorem rn_0c {h : Nat} {mi : MI} {pc pc' : Nat} {ls : List (Option Value)} {st st' : List Value} {M : pM} {Q : Option Value → pM → Prop} (h1 : 1 ≤ h) (hst : (st'.map fun v => v.category).sum ≤ 8)
    (step : ∀ (p : Program) (l : Launch) (e : Env) (R : Room) (s : State) (m : MethodId) (args : Array Value) (below : List Frame) (meth : Method) (c : Code) (D : va_G) (cy : Nat → ClassId) (b0 : Nat) (α : Nat → Nat) (H : Heap) (locs : List Loc) (cells slots : Nat) (Qs : State → Prop) (lsA : Array Slot),
      Cx p s m args meth c D cy b0 α M.2.2.2.2 mi → c.maxLocals = lsA.size → 1 ≤ R.frames → 64 ≤ R.locals → cells ≤ R.cells → slots ≤ R.slots →
      W p l e R s m args below meth c H locs cells slots Qs (F0 m pc' lsA (st'.map (re α))) → W p l e R s m args below meth c H locs cells slots Qs (F0 m pc lsA (st.map (re α))))
    (k : Rn h mi pc' ls st' M Q) : Rn h mi pc ls st M Q := by
  obtain ⟨r, M', q, c1, c2, c3, X⟩ := k
  refine ⟨r, M', q, c1, c2, c3, ?_⟩
  intro p l e R s m args below meth c D cy b0 α H locs cells slots Qs lsA C hf hl hc hs hW hS hL hE
  exact step p l e R s m args below meth c D cy b0 α H locs cells slots Qs lsA C (by rw [C.2.2.1, hL.1]) (by omega) (by omega) (by omega) (by omega) (X p l e R s m args below meth c D cy b0 α H locs cells slots Qs lsA C hf hl hc hs hW hS hL hE)
def MxK (own : String) (idx : Nat) : Prop := Cond.methodLink own idx Lib.Math.max.name ∈ gT ∧ Cond.static Lib.Math.max.name ∈ gT ∧ Cond.initialized "java/lang/Math" ∈ gT ∧ Cond.code Lib.Math.max.name Lib.Math.max.code 2 (some .int) ∈ gT
def MnK (own : String) (idx : Nat) : Prop := Cond.methodLink own idx Lib.Math.min.name ∈ gT ∧ Cond.static Lib.Math.min.name ∈ gT ∧ Cond.initialized "java/lang/Math" ∈ gT ∧ Cond.code Lib.Math.min.name Lib.Math.min.code 2 (some .int) ∈ gT
def MaK (own : String) (idx : Nat) : Prop := Cond.methodLink own idx Lib.MathLoose.abs_long.x ∈ gT ∧ Cond.static Lib.MathLoose.abs_long.x ∈ gT ∧ Cond.initialized "java/lang/Math" ∈ gT ∧ Cond.code Lib.MathLoose.abs_long.x Lib.MathLoose.abs_long.code 2 (some .long) ∈ gT
theorem mx_room {α : Nat → Nat} {st : List Value} (hst : (st.map fun v => v.category).sum ≤ 8) {n : Nat} (hn : 64 ≤ n) : ((st.map (re α)).map fun v => v.category).sum + 13 ≤ n := by
  have := st_room (α := α) hst
  omega
theorem rn_mmax {h : Nat} {mi : MI} {pc : Nat} {ls : List (Option Value)} {st : List Value} {M : pM} {Q : Option Value → pM → Prop} {idx : Nat} {x y : Int32} (h1 : 1 ≤ h) (hd : decode mi.2.1 pc = .ok (.invokestatic idx, 3)) (K : MxK mi.1.cls idx) (hst : (st.map fun v => v.category).sum ≤ 7) (k : Rn h mi (pc + 3) ls (.int (if x < y then y else x) :: st) M Q) : Rn h mi pc ls (.int y :: .int x :: st) M Q :=
  rn_0c h1 (by show 1 + (st.map fun v => v.category).sum ≤ 8; omega) (fun _ _ _ _ _ _ _ _ _ _ _ _ _ _ _ _ _ _ _ _ C hm hf hl hc hs z => va_mmax C.1 C.2.1 hm C.2.2.2.2.1 (C.2.2.2.2.2.1 _ K.1) (C.2.2.2.2.2.1 _ K.2.1) (C.2.2.2.2.2.1 _ K.2.2.1) (C.2.2.2.2.2.1 _ K.2.2.2) hf (mx_room (Nat.le_succ_of_le hst) hl) hc hs hd z) k
theorem rn_mmin {h : Nat} {mi : MI} {pc : Nat} {ls : List (Option Value)} {st : List Value} {M : pM} {Q : Option Value → pM → Prop} {idx : Nat} {x y : Int32} (h1 : 1 ≤ h) (hd : decode mi.2.1 pc = .ok (.invokestatic idx, 3)) (K : MnK mi.1.cls idx) (hst : (st.map fun v => v.category).sum ≤ 7) (k : Rn h mi (pc + 3) ls (.int (if y < x then y else x) :: st) M Q) : Rn h mi pc ls (.int y :: .int x :: st) M Q :=
  rn_0c h1 (by show 1 + (st.map fun v => v.category).sum ≤ 8; omega) (fun _ _ _ _ _ _ _ _ _ _ _ _ _ _ _ _ _ _ _ _ C hm hf hl hc hs z => va_mmin C.1 C.2.1 hm C.2.2.2.2.1 (C.2.2.2.2.2.1 _ K.1) (C.2.2.2.2.2.1 _ K.2.1) (C.2.2.2.2.2.1 _ K.2.2.1) (C.2.2.2.2.2.1 _ K.2.2.2) hf (mx_room (Nat.le_succ_of_le hst) hl) hc hs hd z) k
theorem rn_labs {h : Nat} {mi : MI} {pc : Nat} {ls : List (Option Value)} {st : List Value} {M : pM} {Q : Option Value → pM → Prop} {idx : Nat} {x : Int64} (h1 : 1 ≤ h) (hd : decode mi.2.1 pc = .ok (.invokestatic idx, 3)) (K : MaK mi.1.cls idx) (hst : (st.map fun v => v.category).sum ≤ 6) (k : Rn h mi (pc + 3) ls (.long (if 0 < x then x else -x) :: st) M Q) : Rn h mi pc ls (.long x :: st) M Q :=
  rn_0c h1 (by show 2 + (st.map fun v => v.category).sum ≤ 8; omega) (fun _ _ _ _ _ _ _ _ _ _ _ _ _ _ _ _ _ _ _ _ C hm hf hl hc hs z => va_mabs_long C.1 C.2.1 hm C.2.2.2.2.1 (C.2.2.2.2.2.1 _ K.1) (C.2.2.2.2.2.1 _ K.2.1) (C.2.2.2.2.2.1 _ K.2.2.1) (C.2.2.2.2.2.1 _ K.2.2.2) hf (mx_room (Nat.le_trans hst (by omega)) hl) hc hs hd z) k
