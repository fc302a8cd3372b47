/-! locals that are written -/
def stL (ls : List (Option Value)) (i : Nat) (v : Value) : List (Option Value) :=
  let l1 := match i with
    | 0 => ls
    | j + 1 => match ls[j]? with
      | some (some w) => if w.category = 2 then ls.set j none else ls
      | _ => ls
  if v.category = 2 then (l1.set i (some v)).set (i + 1) none else l1.set i (some v)
theorem stL_get {ls : List (Option Value)} {i : Nat} {v : Value} {j : Nat} {w : Value} (hh : (stL ls i v)[j]? = some (some w)) : (j = i ∧ w = v) ∨ (j ≠ i ∧ ls[j]? = some (some w) ∧ ¬ (j + 1 = i ∧ w.category = 2) ∧ (v.category = 2 → j ≠ i + 1)) := by
  have key : ∀ l1 : List (Option Value), (∀ (j : Nat) (w : Value), l1[j]? = some (some w) → ls[j]? = some (some w) ∧ ¬ (j + 1 = i ∧ w.category = 2)) →
      (if v.category = 2 then (l1.set i (some v)).set (i + 1) none else l1.set i (some v))[j]? = some (some w) → (j = i ∧ w = v) ∨ (j ≠ i ∧ ls[j]? = some (some w) ∧ ¬ (j + 1 = i ∧ w.category = 2) ∧ (v.category = 2 → j ≠ i + 1)) := by
    intro l1 h1 h2
    by_cases hji : j = i
    · subst hji
      left
      refine ⟨rfl, ?_⟩
      split at h2
      · rw [List.getElem?_set_ne (by omega), List.getElem?_set] at h2
        simp at h2
        exact h2.2.symm
      · rw [List.getElem?_set] at h2
        simp at h2
        exact h2.2.symm
    · right
      split at h2
      · next hv =>
        by_cases hj2 : j = i + 1
        · subst hj2
          rw [List.getElem?_set] at h2
          simp at h2
        · rw [List.getElem?_set_ne (by omega), List.getElem?_set_ne (by omega)] at h2
          exact ⟨hji, (h1 j w h2).1, (h1 j w h2).2, fun _ => hj2⟩
      · next hv =>
        rw [List.getElem?_set_ne (by omega)] at h2
        exact ⟨hji, (h1 j w h2).1, (h1 j w h2).2, fun q => absurd q hv⟩
  refine key _ ?_ hh
  intro j w h2
  cases i with
  | zero => exact ⟨h2, by omega⟩
  | succ i0 =>
    cases hc : ls[i0]? with
    | none =>
      simp only [hc] at h2
      refine ⟨h2, fun q => ?_⟩
      rw [show j = i0 by omega, hc] at h2
      cases h2
    | some o =>
      cases o with
      | none =>
        simp only [hc] at h2
        refine ⟨h2, fun q => ?_⟩
        rw [show j = i0 by omega, hc] at h2
        cases h2
      | some u =>
        simp only [hc] at h2
        split at h2
        · next hu =>
          by_cases hj : j = i0
          · subst hj
            rw [List.getElem?_set] at h2
            simp at h2
          · rw [List.getElem?_set_ne (by omega)] at h2
            exact ⟨h2, by omega⟩
        · next hu =>
          refine ⟨h2, fun q => ?_⟩
          rw [show j = i0 by omega, hc] at h2
          cases h2
          exact hu q.2
def lvOf (α : Nat → Nat) (ls : List (Option Value)) : List (Nat × Value) := (List.range ls.length).filterMap (fun i => match ls[i]? with
  | some (some v) => some (i, re α v)
  | _ => none)
theorem lvOf_in {α : Nat → Nat} {ls : List (Option Value)} {i : Nat} {v : Value} (h : ls[i]? = some (some v)) : (i, re α v) ∈ lvOf α ls :=
  List.mem_filterMap.mpr ⟨i, List.mem_range.mpr (List.getElem?_eq_some_iff.mp h).1, by simp only [h]⟩
theorem LR.has {α : Nat → Nat} {lsA : Array Slot} {nL : Nat} {ls : List (Option Value)} (h : LR α lsA nL ls) : lv_has lsA nL (lvOf α ls) := by
  refine ⟨h.1, h.2.1, fun q hq => ?_⟩
  obtain ⟨i, -, hi⟩ := List.mem_filterMap.mp hq
  split at hi
  · next v hv =>
    cases hi
    exact h.2.2 _ _ hv
  · cases hi
theorem LR.st1 {α : Nat → Nat} {lsA : Array Slot} {nL : Nat} {ls : List (Option Value)} {i : Nat} {v : Value} (hc : v.category = 1) (h : lv_has lsA nL ((i, re α v) :: (lvOf α ls).filter (fun q => !(q.1 == i) && !(q.1 + 1 == i && q.2.category == 2)))) : LR α lsA nL (stL ls i v) := by
  refine ⟨h.1, h.2.1, fun j w hj => ?_⟩
  rcases stL_get hj with ⟨rfl, rfl⟩ | ⟨h1, h2, h3, -⟩
  · exact h.2.2 _ List.mem_cons_self
  · refine h.2.2 (j, re α w) (List.mem_cons_of_mem _ (List.mem_filter.mpr ⟨lvOf_in h2, ?_⟩))
    simp only [re_cat]
    by_cases h4 : j + 1 = i
    · have : ¬ w.category = 2 := fun q => h3 ⟨h4, q⟩
      simp [h1, this]
    · simp [h1, h4]
theorem LR.st2 {α : Nat → Nat} {lsA : Array Slot} {nL : Nat} {ls : List (Option Value)} {i : Nat} {v : Value} (hc : v.category = 2) (h : lv_has lsA nL ((i, re α v) :: (lvOf α ls).filter (fun q => !(q.1 == i) && (!(q.1 == i + 1) && !(q.1 + 1 == i && q.2.category == 2))))) : LR α lsA nL (stL ls i v) := by
  refine ⟨h.1, h.2.1, fun j w hj => ?_⟩
  rcases stL_get hj with ⟨rfl, rfl⟩ | ⟨h1, h2, h3, h5⟩
  · exact h.2.2 _ List.mem_cons_self
  · refine h.2.2 (j, re α w) (List.mem_cons_of_mem _ (List.mem_filter.mpr ⟨lvOf_in h2, ?_⟩))
    simp only [re_cat]
    have h6 := h5 hc
    by_cases h4 : j + 1 = i
    · have : ¬ w.category = 2 := fun q => h3 ⟨h4, q⟩
      simp [h1, this, h6]
    · simp [h1, h4, h6]
/-- a row that writes a local -/
theorem rn_L {h : Nat} {mi : MI} {pc pc' : Nat} {ls ls' : List (Option Value)} {st st' : List Value} {M : pM} {Q : Option Value → pM → Prop}
    (step : ∀ (p : Program) (l : Launch) (e : Env) (R : Room) (s : State) (m : MethodId) (args : Array Value) (below : List Frame) (meth : Method) (c : Code) (D : va_G) (cy : Nat → ClassId) (b0 : Nat) (α : Nat → Nat) (H : Heap) (locs : List Loc) (cells slots : Nat) (Qs : State → Prop) (lsA : Array Slot),
      Cx p s m args meth c D cy b0 α M.2.2.2.2 mi → LR α lsA mi.2.2.1 ls →
      (∀ lsB, LR α lsB mi.2.2.1 ls' → W p l e R s m args below meth c H locs cells slots Qs (F0 m pc' lsB (st'.map (re α)))) → W p l e R s m args below meth c H locs cells slots Qs (F0 m pc lsA (st.map (re α))))
    (k : Rn h mi pc' ls' st' M Q) : Rn h mi pc ls st M Q := by
  obtain ⟨r, M', q, c1, c2, c3, X⟩ := k
  refine ⟨r, M', q, c1, c2, c3, ?_⟩
  intro p l e R s m args below meth c D cy b0 α H locs cells slots Qs lsA C hf hl hc hs hW hS hL hE
  exact step p l e R s m args below meth c D cy b0 α H locs cells slots Qs lsA C hL (fun lsB hB => X p l e R s m args below meth c D cy b0 α H locs cells slots Qs lsB C hf hl hc hs hW hS hB hE)
section RL0
variable {h : Nat} {mi : MI} {pc : Nat} {ls ls' : List (Option Value)} {st : List Value} {M : pM} {Q : Option Value → pM → Prop}
theorem rn_istore_n {j : Fin 4} {x : Int32} (hd : decode mi.2.1 pc = .ok (.istore_n j, 1)) (hn : (j : Nat) < mi.2.2.1) (hl : stL ls j (.int x) = ls') (k : Rn h mi (pc + 1) ls' st M Q) : Rn h mi pc ls (.int x :: st) M Q := by
  subst hl
  exact rn_L (fun _ _ _ _ _ _ _ _ _ _ _ _ _ _ _ _ _ _ _ _ C L z => lv_istore_n C.1 C.2.1 hd rfl L.has hn rfl (fun lsB hB => z lsB (LR.st1 rfl hB))) k
theorem rn_istore {j : Nat} {x : Int32} (hd : decode mi.2.1 pc = .ok (.istore j, 2)) (hn : j < mi.2.2.1) (hl : stL ls j (.int x) = ls') (k : Rn h mi (pc + 2) ls' st M Q) : Rn h mi pc ls (.int x :: st) M Q := by
  subst hl
  exact rn_L (fun _ _ _ _ _ _ _ _ _ _ _ _ _ _ _ _ _ _ _ _ C L z => lv_istore C.1 C.2.1 hd L.has hn rfl (fun lsB hB => z lsB (LR.st1 rfl hB))) k
theorem rn_astore_n {j : Fin 4} {x : Nat} (hd : decode mi.2.1 pc = .ok (.astore_n j, 1)) (hn : (j : Nat) < mi.2.2.1) (hl : stL ls j (.ref x) = ls') (k : Rn h mi (pc + 1) ls' st M Q) : Rn h mi pc ls (.ref x :: st) M Q := by
  subst hl
  exact rn_L (fun _ _ _ _ _ _ _ _ _ _ _ _ _ α _ _ _ _ _ _ C L z => lv_astore_n C.1 C.2.1 hd rfl L.has hn rfl (fun lsB hB => z lsB (LR.st1 (v := .ref x) rfl hB))) k
theorem rn_astore {j : Nat} {x : Nat} (hd : decode mi.2.1 pc = .ok (.astore j, 2)) (hn : j < mi.2.2.1) (hl : stL ls j (.ref x) = ls') (k : Rn h mi (pc + 2) ls' st M Q) : Rn h mi pc ls (.ref x :: st) M Q := by
  subst hl
  exact rn_L (fun _ _ _ _ _ _ _ _ _ _ _ _ _ α _ _ _ _ _ _ C L z => lv_astore C.1 C.2.1 hd L.has hn rfl (fun lsB hB => z lsB (LR.st1 (v := .ref x) rfl hB))) k
theorem rn_lstore_n {j : Fin 4} {x : Int64} (hd : decode mi.2.1 pc = .ok (.lstore_n j, 1)) (hn : (j : Nat) + 1 < mi.2.2.1) (hl : stL ls j (.long x) = ls') (k : Rn h mi (pc + 1) ls' st M Q) : Rn h mi pc ls (.long x :: st) M Q := by
  subst hl
  exact rn_L (fun _ _ _ _ _ _ _ _ _ _ _ _ _ _ _ _ _ _ _ _ C L z => lv_lstore_n C.1 C.2.1 hd rfl L.has hn rfl (fun lsB hB => z lsB (LR.st2 rfl hB))) k
theorem rn_lstore {j : Nat} {x : Int64} (hd : decode mi.2.1 pc = .ok (.lstore j, 2)) (hn : j + 1 < mi.2.2.1) (hl : stL ls j (.long x) = ls') (k : Rn h mi (pc + 2) ls' st M Q) : Rn h mi pc ls (.long x :: st) M Q := by
  subst hl
  exact rn_L (fun _ _ _ _ _ _ _ _ _ _ _ _ _ _ _ _ _ _ _ _ C L z => lv_lstore C.1 C.2.1 hd L.has hn rfl (fun lsB hB => z lsB (LR.st2 rfl hB))) k
theorem rn_iinc {j : Nat} {n : Int} {x v : Int32} (hd : decode mi.2.1 pc = .ok (.iinc j n, 3)) (hn : j < mi.2.2.1) (hx : ls[j]? = some (some (.int x))) (hv : x + Int32.ofInt n = v) (hl : stL ls j (.int v) = ls') (k : Rn h mi (pc + 3) ls' st M Q) : Rn h mi pc ls st M Q := by
  subst hl
  refine rn_L (fun _ _ _ _ _ _ _ _ _ _ _ _ _ α _ _ _ _ _ _ C L z => ?_) k
  obtain ⟨i, hi⟩ := List.getElem?_of_mem (lvOf_in (α := α) hx)
  exact lv_iinc C.1 C.2.1 hd L.has hi hv hn rfl (fun lsB hB => z lsB (LR.st1 rfl hB))
/-- fewer locals known -/
theorem rn_wk (hl : ∀ (i : Nat) (v : Value), ls'[i]? = some (some v) → ls[i]? = some (some v)) (k : Rn h mi pc ls' st M Q) : Rn h mi pc ls st M Q :=
  rn_L (fun _ _ _ _ _ _ _ _ _ _ _ _ _ _ _ _ _ _ _ lsA _ L z => z lsA ⟨L.1, L.2.1, fun i v hv => L.2.2 i v (hl i v hv)⟩) k
/-- n locals at the front are forgotten where the second list has none -/
theorem rn_fg (hl : (ls.zip ls').all (fun q => q.2.isNone || q.1.isSome) = true ∧ ls'.length = ls.length) (he : ∀ (i : Nat), i < ls.length → (ls'[i]? = some none ∨ ls'[i]? = ls[i]?)) (k : Rn h mi pc ls' st M Q) : Rn h mi pc ls st M Q := by
  refine rn_wk (fun i v hv => ?_) k
  have hi : i < ls'.length := (List.getElem?_eq_some_iff.mp hv).1
  rcases he i (by omega) with q | q
  · rw [q] at hv; cases hv
  · rw [← q]; exact hv
end RL0
/-! cells -/
def up1 {β : Type} (f : Nat → β) (k : Nat) (x : β) : Nat → β := fun j => if j = k then x else f j
theorem tys_at {cy : Nat → ClassId} {t : Nat} {ty : FieldType} (h : pTys[t]? = some ty) : (tysOf cy)[t]? = some (cy t, ty) := by
  simp [tysOf, List.getElem?_mapIdx, h]
theorem cellE_congr {cy : Nat → ClassId} {α : Nat → Nat} {I I' : Nat → Nat → Int32} {J J' : Nat → Nat → Int64} {R R' : Nat → Nat → Option Nat} {a : Nat} (h : pHd) (h1 : I' a = I a) (h2 : J' a = J a) (h3 : R' a = R a) : cellE cy α I' J' R' a h = cellE cy α I J R a h := by
  unfold cellE fV
  rw [h1, h2, h3]
theorem pW_get {cy : Nat → ClassId} {α : Nat → Nat} {hs : List pHd} {I : Nat → Nat → Int32} {J : Nat → Nat → Int64} {R : Nat → Nat → Option Nat} {X : pX} {a : Nat} {h : pHd} (hh : hs[a]? = some h) : (pW cy α (hs, I, J, R, X))[a]? = some (α a, cellE cy α I J R a h) := by
  simp [pW, List.getElem?_mapIdx, hh]
theorem pW_set {cy : Nat → ClassId} {α : Nat → Nat} {hs : List pHd} {I I' : Nat → Nat → Int32} {J J' : Nat → Nat → Int64} {R R' : Nat → Nat → Option Nat} {X : pX} {a : Nat} {h : pHd} (hh : hs[a]? = some h) (ho : ∀ b, b ≠ a → I' b = I b ∧ J' b = J b ∧ R' b = R b) :
    (pW cy α (hs, I, J, R, X)).set a (α a, cellE cy α I' J' R' a h) = pW cy α (hs, I', J', R', X) := by
  apply List.ext_getElem?
  intro b
  have hl : a < (pW cy α (hs, I, J, R, X)).length := by
    have := (List.getElem?_eq_some_iff.mp hh).1
    simpa [pW] using this
  by_cases hb : b = a
  · subst hb
    rw [List.getElem?_set_self hl, pW_get hh]
  · rw [List.getElem?_set_ne (Ne.symm hb)]
    simp only [pW, List.getElem?_mapIdx]
    cases hs[b]? with
    | none => rfl
    | some x =>
      obtain ⟨e1, e2, e3⟩ := ho b hb
      simp only [Option.map_some]
      rw [cellE_congr x e1 e2 e3]
theorem upA_ne {β : Type} {f : Nat → Nat → β} {a b : Nat} {g : Nat → β} (h : b ≠ a) : upA f a g b = f b := if_neg h
theorem upA_self {β : Type} {f : Nat → Nat → β} {a : Nat} {g : Nat → β} : upA f a g a = g := if_pos rfl
theorem pZ_up {hs : List pHd} {I : Nat → Nat → Int32} {J : Nat → Nat → Int64} {R : Nat → Nat → Option Nat} {X : pX} {a : Nat} (ha : a < hs.length) (h : pZ (hs, I, J, R, X)) :
    (∀ g, pZ (hs, upA I a g, J, R, X)) ∧ (∀ g, pZ (hs, I, upA J a g, R, X)) ∧ ∀ g : Nat → Option Nat, (∀ k b, g k = some b → b < hs.length) → pZ (hs, I, J, upA R a g, X) := by
  obtain ⟨h, hr⟩ := h
  refine ⟨fun g => ⟨fun b hb => ?_, hr⟩, fun g => ⟨fun b hb => ?_, hr⟩, fun g hg => ⟨fun b hb => ?_, fun b k c hc => ?_⟩⟩
  · have hb' : hs.length ≤ b := hb
    have h1 := h b hb
    dsimp only at h1 ⊢
    rw [upA_ne (by omega)]
    exact h1
  · have hb' : hs.length ≤ b := hb
    have h1 := h b hb
    dsimp only at h1 ⊢
    rw [upA_ne (by omega)]
    exact h1
  · have hb' : hs.length ≤ b := hb
    have h1 := h b hb
    dsimp only at h1 ⊢
    rw [upA_ne (by omega)]
    exact h1
  · dsimp only at hc
    by_cases hba : b = a
    · subst hba
      rw [upA_self] at hc
      exact hg k c hc
    · rw [upA_ne hba] at hc
      exact hr b k c hc
/-- a row that changes the contents of cells, but makes none -/
theorem rn_M {h : Nat} {mi : MI} {pc pc' : Nat} {ls : List (Option Value)} {st st' : List Value} {hs : List pHd} {I I' : Nat → Nat → Int32} {J J' : Nat → Nat → Int64} {R R' : Nat → Nat → Option Nat} {X : pX} {Q : Option Value → pM → Prop}
    (step : ∀ (p : Program) (l : Launch) (e : Env) (Rm : Room) (s : State) (m : MethodId) (args : Array Value) (below : List Frame) (meth : Method) (c : Code) (D : va_G) (cy : Nat → ClassId) (b0 : Nat) (α : Nat → Nat) (H : Heap) (locs : List Loc) (cells slots : Nat) (Qs : State → Prop) (lsA : Array Slot),
      Cx p s m args meth c D cy b0 α X mi → Wd D cy b0 α (hs, I, J, R, X) H → va_S (fun q => b0 ≤ q) s.heap H locs → LR α lsA mi.2.2.1 ls → (1 ≤ h → 1 ≤ Rm.frames ∧ 64 ≤ Rm.locals) →
      (∀ (H1 : Heap) (locs1 : List Loc), va_P D vwCl (pW cy α (hs, I', J', R', X)) H1 → va_D (fun q => b0 ≤ q) (pW cy α (hs, I', J', R', X)) → va_S (fun q => b0 ≤ q) s.heap H1 locs1 → W p l e Rm s m args below meth c H1 locs1 cells slots Qs (F0 m pc' lsA (st'.map (re α)))) →
      W p l e Rm s m args below meth c H locs cells slots Qs (F0 m pc lsA (st.map (re α))))
    (hz : pZ (hs, I, J, R, X) → pZ (hs, I', J', R', X))
    (k : Rn h mi pc' ls st' (hs, I', J', R', X) Q) : Rn h mi pc ls st (hs, I, J, R, X) Q := by
  obtain ⟨r, M', q, c1, c2, c3, Y⟩ := k
  refine ⟨r, M', q, c1, c2, c3, ?_⟩
  intro p l e Rm s m args below meth c D cy b0 α H locs cells slots Qs lsA C hf hl hc hs hW hS hL hE
  exact step p l e Rm s m args below meth c D cy b0 α H locs cells slots Qs lsA C hW hS hL (fun h1 => ⟨by omega, by omega⟩)
    (fun H1 locs1 hP hD hS1 => Y p l e Rm s m args below meth c D cy b0 α H1 locs1 cells slots Qs lsA C hf hl hc hs ⟨hP, hD, hz hW.2.2⟩ hS1 hL hE)
theorem pin_of {x : Int32} {n : Nat} (h : 0 ≤ x.toInt ∧ x.toInt < n) : vp_in x n := vp_in_iff.mpr h
section RM
variable {h : Nat} {mi : MI} {pc : Nat} {ls : List (Option Value)} {st : List Value} {hs : List pHd} {I : Nat → Nat → Int32} {J : Nat → Nat → Int64} {R : Nat → Nat → Option Nat} {X : pX} {Q : Option Value → pM → Prop} {a n : Nat} {i x : Int32}
theorem rn_iaload (hd : decode mi.2.1 pc = .ok (.iaload, 1)) (hh : hs[a]? = some (1, 0, n)) (hi : 0 ≤ i.toInt ∧ i.toInt < n) (k : Rn h mi (pc + 1) ls (.int (I a i.toInt.toNat) :: st) (hs, I, J, R, X) Q) : Rn h mi pc ls (.int i :: .ref a :: st) (hs, I, J, R, X) Q :=
  rn_0 (fun _ _ _ _ _ _ _ _ _ _ _ _ _ _ _ _ _ _ _ _ C Wh _ _ _ z => va_iald C.1 C.2.1 C.2.2.2.2.2.2.2.2.1 Wh.1 a 0 (pW_get hh) (tys_at rfl) (pin_of hi) hd z) k
theorem rn_baload (hd : decode mi.2.1 pc = .ok (.baload, 1)) (hh : hs[a]? = some (1, 1, n)) (hi : 0 ≤ i.toInt ∧ i.toInt < n) (k : Rn h mi (pc + 1) ls (.int (I a i.toInt.toNat) :: st) (hs, I, J, R, X) Q) : Rn h mi pc ls (.int i :: .ref a :: st) (hs, I, J, R, X) Q :=
  rn_0 (fun _ _ _ _ _ _ _ _ _ _ _ _ _ _ _ _ _ _ _ _ C Wh _ _ _ z => va_bald C.1 C.2.1 C.2.2.2.2.2.2.2.2.1 Wh.1 a 1 (pW_get hh) (tys_at rfl) (pin_of hi) hd z) k
theorem rn_saload (hd : decode mi.2.1 pc = .ok (.saload, 1)) (hh : hs[a]? = some (1, 2, n)) (hi : 0 ≤ i.toInt ∧ i.toInt < n) (k : Rn h mi (pc + 1) ls (.int (I a i.toInt.toNat) :: st) (hs, I, J, R, X) Q) : Rn h mi pc ls (.int i :: .ref a :: st) (hs, I, J, R, X) Q :=
  rn_0 (fun _ _ _ _ _ _ _ _ _ _ _ _ _ _ _ _ _ _ _ _ C Wh _ _ _ z => va_sald C.1 C.2.1 C.2.2.2.2.2.2.2.2.1 Wh.1 a 2 (pW_get hh) (tys_at rfl) (pin_of hi) hd z) k
theorem rn_zaload (hd : decode mi.2.1 pc = .ok (.baload, 1)) (hh : hs[a]? = some (1, 3, n)) (hi : 0 ≤ i.toInt ∧ i.toInt < n) (k : Rn h mi (pc + 1) ls (.int (I a i.toInt.toNat) :: st) (hs, I, J, R, X) Q) : Rn h mi pc ls (.int i :: .ref a :: st) (hs, I, J, R, X) Q :=
  rn_0 (fun _ _ _ _ _ _ _ _ _ _ _ _ _ _ _ _ _ _ _ _ C Wh _ _ _ z => va_zald C.1 C.2.1 C.2.2.2.2.2.2.2.2.1 Wh.1 a 3 (pW_get hh) (tys_at rfl) (pin_of hi) hd z) k
theorem rn_laload (hd : decode mi.2.1 pc = .ok (.laload, 1)) (hh : hs[a]? = some (2, 4, n)) (hi : 0 ≤ i.toInt ∧ i.toInt < n) (k : Rn h mi (pc + 1) ls (.long (J a i.toInt.toNat) :: st) (hs, I, J, R, X) Q) : Rn h mi pc ls (.int i :: .ref a :: st) (hs, I, J, R, X) Q :=
  rn_0 (fun _ _ _ _ _ _ _ _ _ _ _ _ _ _ _ _ _ _ _ _ C Wh _ _ _ z => va_lald C.1 C.2.1 C.2.2.2.2.2.2.2.2.1 Wh.1 a 4 (pW_get hh) (tys_at rfl) (pin_of hi) hd z) k
theorem re_rf (α : Nat → Nat) (b : Nat) : va_rf ((some b).map α) = re α (.ref b) := rfl
theorem rn_aaload {t b : Nat} (ht : 5 ≤ t ∧ t < 9) (hd : decode mi.2.1 pc = .ok (.aaload, 1)) (hh : hs[a]? = some (3, t, n)) (hi : 0 ≤ i.toInt ∧ i.toInt < n) (hr : R a i.toInt.toNat = some b) (k : Rn h mi (pc + 1) ls (.ref b :: st) (hs, I, J, R, X) Q) : Rn h mi pc ls (.int i :: .ref a :: st) (hs, I, J, R, X) Q := by
  obtain ⟨ty, hty, hrf⟩ : ∃ ty : FieldType, pTys[t]? = some ty ∧ ty.isReference = true := by
    rcases (show t = 5 ∨ t = 6 ∨ t = 7 ∨ t = 8 by omega) with rfl | rfl | rfl | rfl <;> exact ⟨_, rfl, rfl⟩
  refine rn_0 (fun _ _ _ _ _ _ _ _ _ _ _ cy _ α _ _ _ _ _ _ C Wh _ _ _ z => ?_) k
  have hlt : i.toInt.toNat < n := by omega
  have e0 := Wh.1 a _ (pW_get hh)
  refine W.aald (v := re α (.ref b)) (ty := ty) C.1 C.2.1 e0 ((C.2.2.2.2.2.2.2.2.1.2 t _ (tys_at hty)).1 n (fun j => va_rf ((R a j).map α))) hrf (fun q => by cases q) ?_ ?_ rfl rfl hd z
  · show ¬ (i < 0 ∨ (arrV _ _ _).slots.size ≤ _)
    rw [arrV_size]; exact pin_of hi
  · show (arrV _ _ _).slots[_]? = _
    rw [arrV_read _ _ (show i.toNatClampNeg < n from hlt)]
    show some (va_rf ((R a i.toInt.toNat).map α)) = _
    rw [hr]; rfl
end RM
