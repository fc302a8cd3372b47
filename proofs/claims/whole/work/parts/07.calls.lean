/-! contracts over the machine, out of the pure judgement; calls; what makes cells -/
def wsM (mi : MI) : List Cond := Cond.code mi.1 mi.2.1 mi.2.2.1 mi.2.2.2 :: gT
def Qof (D : va_G) (cy : Nat → ClassId) (b0 : Nat) (α : Nat → Nat) (n : Nat) (M' : pM) (r : Option Value) : Array Value → State → Outcome → State → Prop := match r with
  | none => va_Qv (fun α' : Nat → Nat => ∀ a, a < n ∨ cnt M' ≤ a → α' a = α a) (fun α' t => Wd D cy b0 α' M' t.heap) (fun q => b0 ≤ q)
  | some (.int v) => va_Qi (fun x (α' : Nat → Nat) => x = v ∧ ∀ a, a < n ∨ cnt M' ≤ a → α' a = α a) (fun α' t => Wd D cy b0 α' M' t.heap) (fun q => b0 ≤ q)
  | some (.long v) => va_Ql (fun x (α' : Nat → Nat) => x = v ∧ ∀ a, a < n ∨ cnt M' ≤ a → α' a = α a) (fun α' t => Wd D cy b0 α' M' t.heap) (fun q => b0 ≤ q)
  | _ => fun _ _ _ _ => True
def PcM (D : va_G) (cy : Nat → ClassId) (b0 : Nat) (α : Nat → Nat) (M : pM) (vs : List Value) : Array Value → State → Prop :=
  va_Pc (vs.map (re α)) (fun U => b0 ≤ U.heap.size ∧ Wd D cy b0 α M U.heap ∧ va_K D vwCl (tysOf cy) U ∧ FG b0 α M.2.2.2.2 U U.heap ∧ va_Nw nwW U)
def rmM (h : Nat) (M M' : pM) : Room := { frames := h, cells := cnt M' - cnt M, slots := slt M' - slt M, locals := 64 * h }
def MetC (h : Nat) (mi : MI) (vs : List Value) (M : pM) (r : Option Value) (M' : pM) : Prop :=
  ∀ (l : Launch) (D : va_G) (cy : Nat → ClassId) (b0 : Nat) (α : Nat → Nat), Met l mi.1 (wsM mi) (rmM h M M') (PcM D cy b0 α M vs) (Qof D cy b0 α (cnt M) M' r) (cnt M' - cnt M) (slt M' - slt M) (fun q => b0 ≤ q)
theorem entL_at {vs : List Value} {n i : Nat} {v : Value} (hv : (entL vs n)[i]? = some (some v)) : (i, v) ∈ lv_args 0 vs := by
  have h1 : (entL0 vs)[i]? = some (some v) := by
    unfold entL at hv
    by_cases hi : i < (entL0 vs).length
    · rwa [List.getElem?_append_left hi] at hv
    · rw [List.getElem?_append_right (by omega)] at hv
      have := List.eq_of_mem_replicate (List.mem_of_getElem? hv)
      cases this
  have key : ∀ (vs : List Value) (i j : Nat), (entL0 vs)[i]? = some (some v) → (j + i, v) ∈ lv_args j vs := by
    intro vs
    induction vs with
    | nil => intro i j hh; simp [entL0] at hh
    | cons w t ih =>
      intro i j hh
      unfold entL0 at hh
      unfold lv_args
      by_cases hc : w.category = 2
      · rw [if_pos hc] at hh ⊢
        match i, hh with
        | 0, hh => cases hh; exact List.mem_cons_self
        | 1, hh => cases hh
        | k + 2, hh =>
          refine List.mem_cons_of_mem _ ?_
          have h3 := ih k (j + 2) (by simpa using hh)
          rw [show j + (k + 2) = j + 2 + k by omega]
          exact h3
      · rw [if_neg hc] at hh ⊢
        match i, hh with
        | 0, hh => cases hh; exact List.mem_cons_self
        | k + 1, hh =>
          refine List.mem_cons_of_mem _ ?_
          have h3 := ih k (j + 1) (by simpa using hh)
          rw [show j + (k + 1) = j + 1 + k by omega]
          exact h3
  simpa using key vs i 0 h1
theorem lv_args_re {α : Nat → Nat} {vs : List Value} {i : Nat} {v : Value} : ∀ (j : Nat), (i, v) ∈ lv_args j vs → (i, re α v) ∈ lv_args j (vs.map (re α)) := by
  induction vs with
  | nil => intro j hh; cases hh
  | cons w t ih =>
    intro j hh
    rw [List.map_cons]
    unfold lv_args at hh ⊢
    rw [re_cat]
    rcases List.mem_cons.mp hh with e | e
    · cases e; exact List.mem_cons_self
    · exact List.mem_cons_of_mem _ (ih _ e)
theorem lg_len {α : Nat → Nat} : ∀ (vs : List Value), (lg_sl (vs.map (re α))).length = (entL0 vs).length
  | [] => rfl
  | v :: t => by
    have ih := lg_len (α := α) t
    simp only [lg_sl, List.map_cons, List.flatMap_cons, List.length_append, re_cat] at ih ⊢
    unfold entL0
    by_cases hc : v.category = 2
    · simp only [hc, if_true, List.length_cons, List.length_nil]; omega
    · simp only [hc, if_false, List.length_cons, List.length_nil]; omega
set_option maxHeartbeats 4000000 in
theorem met_of {h : Nat} {mi : MI} {vs : List Value} {M M' : pM} {r : Option Value} (hp : plainName mi.1.cls = true) (hn : (entL0 vs).length ≤ mi.2.2.1) (K : RnX h mi 0 (entL vs mi.2.2.1) [] M r M') : MetC h mi vs M r M' := by
  intro l D cy b0 α
  refine Met.ofW (cc := mi.2.1) (maxL := mi.2.2.1) (ret := mi.2.2.2) hp rfl ?_
  intro p e s m args below meth c s₁ B hml hv
  obtain ⟨rfl, hb0, hW, hK, hG, hN⟩ := hv
  have hts := atoms_spec (ws := wsM mi) B.pre
  have C : Cx p s m (vs.map (re α)).toArray meth c D cy b0 α M.2.2.2.2 mi := ⟨B.exec, B.bytes, hml, B.returns, findClass_of_methodNamed B.named, fun w hw => hts w (List.mem_cons_of_mem _ hw), B.notSynchronized, fun _ => (name_of_methodNamed B.named B.method).1, hK, hb0, hG, hN⟩
  have hl := lv_entry (vs.map (re α)) (n := mi.2.2.1) (by rw [lg_len]; exact hn)
  rw [lg_entry_eq]
  generalize (lg_sl (vs.map (re α)) ++ List.replicate (mi.2.2.1 - (lg_sl (vs.map (re α))).length) Slot.unset).toArray = lsA at hl ⊢
  have hL : LR α lsA mi.2.2.1 (entL vs mi.2.2.1) := ⟨hl.1, hl.2.1, fun i v hv => hl.2.2 _ (lv_args_re 0 (entL_at hv))⟩
  refine K p l e _ s m _ below meth c D cy b0 α s.heap [] 0 0 _ lsA C (Nat.le_refl _) (Nat.le_refl _) (by show 0 + (cnt M' - cnt M) ≤ cnt M' - cnt M; omega) (by show 0 + (slt M' - slt M) ≤ slt M' - slt M; omega) hW va_S.rf hL ?_
  intro H' locs' α' pc' lsA' hr hα hW' hS'
  rw [Nat.zero_add, Nat.zero_add]
  rcases hr with ⟨v, ty, rfl, hd, hty, hnr⟩ | ⟨v, rfl, hd, hty⟩ | ⟨rfl, hd, hty⟩
  · exact W.zret C.1 C.2.1 (C.2.2.2.1.trans hty) hnr (fun t ht hWm => ⟨⟨v, α', rfl, ⟨rfl, hα⟩, by show Wd _ _ _ _ _ t.heap; rw [ht]; exact hW'⟩, hS'.F ht⟩) hS'.2.2 hd C.2.2.2.2.2.2.1
  · exact W.lret C.1 C.2.1 (C.2.2.2.1.trans hty) (fun t ht hWm => ⟨⟨v, α', rfl, ⟨rfl, hα⟩, by show Wd _ _ _ _ _ t.heap; rw [ht]; exact hW'⟩, hS'.F ht⟩) hS'.2.2 hd C.2.2.2.2.2.2.1
  · exact W.vret C.1 C.2.1 (C.2.2.2.1.trans hty) (fun t ht hWm => ⟨⟨α', rfl, hα, by show Wd _ _ _ _ _ t.heap; rw [ht]; exact hW'⟩, hS'.F ht⟩) hS'.2.2 hd C.2.2.2.2.2.2.1
/-! returns -/
section RE
variable {h : Nat} {mi : MI} {pc : Nat} {ls : List (Option Value)} {M : pM} {Q : Option Value → pM → Prop}
theorem rn_end {r : Option Value} (hr : retI mi pc r) (ha : ∀ a, r ≠ some (.ref a)) (hq : Q r M) : Rn h mi pc ls r.toList M Q := by
  refine ⟨r, M, hq, Nat.le_refl _, Nat.le_refl _, ⟨rfl, Or.inl rfl⟩, ?_⟩
  intro p l e R s m args below meth c D cy b0 α H locs cells slots Qs lsA C hf hl hc hs hW hS hL hE
  have k := hE H locs α pc lsA hr (fun _ _ => rfl) hW hS
  rw [Nat.sub_self, Nat.sub_self] at k
  exact k
theorem rn_ireturn {x : Int32} {ty : FieldType} (hd : decode mi.2.1 pc = .ok (.ireturn, 1)) (ht : mi.2.2.2 = some ty) (hn : narrow ty (.int x) = .int x) (hq : Q (some (.int x)) M) : Rn h mi pc ls [.int x] M Q :=
  rn_end (r := some (.int x)) (Or.inl ⟨x, ty, rfl, hd, ht, hn⟩) (fun a q => by cases q) hq
theorem rn_lreturn {x : Int64} (hd : decode mi.2.1 pc = .ok (.lreturn, 1)) (ht : mi.2.2.2 = some .long) (hq : Q (some (.long x)) M) : Rn h mi pc ls [.long x] M Q :=
  rn_end (r := some (.long x)) (Or.inr (Or.inl ⟨x, rfl, hd, ht⟩)) (fun a q => by cases q) hq
theorem rn_return (hd : decode mi.2.1 pc = .ok (.return_, 1)) (ht : mi.2.2.2 = none) (hq : Q none M) : Rn h mi pc ls [] M Q :=
  rn_end (r := none) (Or.inr (Or.inr ⟨rfl, hd, ht⟩)) (fun a q => by cases q) hq
end RE
/-! calls -/
/-- a method of ours, as the tables have it; n: its parameters -/
def MiK (mi : MI) (n : Nat) : Prop := Cond.code mi.1 mi.2.1 mi.2.2.1 mi.2.2.2 ∈ gT ∧ Cond.initialized mi.1.cls ∈ gT ∧ plainName mi.1.cls = true ∧ mi.2.2.1 ≤ 40 ∧ (mi.1.cls ≠ "java/lang/invoke/MethodHandle" ∧ mi.1.cls ≠ "java/lang/invoke/VarHandle" ∧ (parseMethodDescriptor mi.1.desc).map (fun d => d.parameters.length) = some n)
def LkV (own : String) (idx : Nat) (mi : MI) (n : Nat) : Prop := MiK mi n ∧ Cond.methodLink own idx mi.1 ∈ gT ∧ Cond.instanceMethod mi.1 ∈ gT ∧ Cond.selects mi.1.cls mi.1 mi.1 ∈ gT
def LkS (own : String) (idx : Nat) (mi : MI) (n : Nat) : Prop := MiK mi n ∧ Cond.methodLink own idx mi.1 ∈ gT ∧ Cond.static mi.1 ∈ gT
def LkI (own : String) (idx : Nat) (mi : MI) (n : Nat) : Prop := MiK mi n ∧ Cond.methodLink own idx mi.1 ∈ gT ∧ Cond.instanceMethod mi.1 ∈ gT ∧ mi.1.name = "<init>" ∧ mi.2.2.2 = none
def LkN (own : String) (idx : Nat) (mi : MI) (n : Nat) (host : String) : Prop := MiK mi n ∧ Cond.methodLinkNest own idx mi.1 host = nwW ∧ Cond.static mi.1 ∈ gT
theorem good_ws {mi : MI} {n : Nat} (K : MiK mi n) : GoodIn gT (wsM mi) := by
  intro w hw
  have hg : ∀ w ∈ gT, (w.onTables && w.keeps) = true ∨ ∃ ty, w = .arrayClass ty := fun w h => good_of_word (List.mem_filter.mp h).2
  rcases List.mem_cons.mp hw with rfl | h1
  · exact ⟨K.1, hg _ K.1⟩
  · exact ⟨h1, hg _ h1⟩
theorem pcM_blind {D : va_G} {cy : Nat → ClassId} {b0 : Nat} {α : Nat → Nat} {M : pM} {vs : List Value} : FrameBlind (PcM D cy b0 α M vs) := by
  intro a U g mk q
  obtain ⟨q0, q1, q2, q3, q4, q5⟩ := q
  exact ⟨q0, q1, q2, va_K.moved (u := U) (U := U.calling g mk a) (Vm.Alike.refl U.vm) q3, FG.moved (u := U) (U := U.calling g mk a) (Vm.Alike.refl U.vm) q4, va_Nw.same (u := U) (U := U.calling g mk a) rfl rfl q5⟩
/-- how a call goes on: what is common to its kinds -/
theorem rn_call {h : Nat} {mi mi' : MI} {pc : Nat} {ls : List (Option Value)} {st rest vs : List Value} {M : pM} {Q Q' : Option Value → pM → Prop} {n : Nat} (K : MiK mi' n)
    (hv : (entL0 vs).length ≤ mi'.2.2.1)
    (step : ∀ (r : Option Value) (M' : pM), MetC h mi' vs M r M' → ∀ (p : Program) (l : Launch) (e : Env) (Rm : Room) (s : State) (m : MethodId) (args : Array Value) (below : List Frame) (meth : Method) (c : Code) (D : va_G) (cy : Nat → ClassId) (b0 : Nat) (α : Nat → Nat) (H : Heap) (locs : List Loc) (cells slots : Nat) (lsA : Array Slot),
      Cx p s m args meth c D cy b0 α M.2.2.2.2 mi → h + 1 ≤ Rm.frames → 64 * (h + 1) ≤ Rm.locals → cells + (cnt M' - cnt M) ≤ Rm.cells → slots + (slt M' - slt M) ≤ Rm.slots → Wd D cy b0 α M H → va_S (fun q => b0 ≤ q) s.heap H locs → LR α lsA mi.2.2.1 ls →
      va_Run p l e Rm s m args below meth c H locs cells slots (cnt M' - cnt M) (slt M' - slt M) (F0 m pc lsA (st.map (re α))) (rest.map (re α)) (Qof D cy b0 α (cnt M) M' r (vs.map (re α)).toArray) (fun q => b0 ≤ q))
    (href : ∀ r M', Q' r M' → cnt M' = cnt M ∨ ((∀ (i a : Nat), ls[i]? = some (some (Value.ref a)) → a < cnt M ∨ 1000 ≤ a) ∧ ∀ a, Value.ref a ∈ rest → a < cnt M))
    (E : Mt h mi' vs M Q') (hri : ∀ r M', Q' r M' → r = none ∨ (∃ v, r = some (.int v)) ∨ ∃ v, r = some (.long v))
    (k : ∀ r M', Q' r M' → Rn (h + 1) mi (pc + 3) ls (r.toList ++ rest) M' Q) : Rn (h + 1) mi pc ls st M Q := by
  obtain ⟨r, M1, hq, e1, e2, e3, X1⟩ := E
  obtain ⟨r2, M2, hq2, f1, f2, f3, X2⟩ := k r M1 hq
  have hR := href r M1 hq
  refine ⟨r2, M2, hq2, Nat.le_trans e1 f1, Nat.le_trans e2 f2, ⟨f3.1.trans e3.1, by have := e3.2; have := f3.2; omega⟩, ?_⟩
  intro p l e R s m args below meth c D cy b0 α H locs cells slots Qs lsA C hf hlo hc hs hW hS hL hE
  have run := step r M1 (met_of K.2.2.1 hv X1) p l e R s m args below meth c D cy b0 α H locs cells slots lsA C hf hlo (by omega) (by omega) hW hS hL
  have go : ∀ (α' : Nat → Nat) (t : State) (H1 : Heap) (locs1 : List Loc) (rr : Option Value), r = rr → t.heap = H1 → s.vm.Alike t.vm → (∀ a, a < cnt M ∨ cnt M1 ≤ a → α' a = α a) → Wd D cy b0 α' M1 t.heap → H.size ≤ H1.size → (∀ q : Nat, q < H.size → ¬ b0 ≤ q → H1[q]? = H[q]?) → va_S (fun q => b0 ≤ q) s.heap H1 locs1 →
      W p l e R s m args below meth c H1 locs1 (cells + (cnt M1 - cnt M)) (slots + (slt M1 - slt M)) Qs (F0 m (pc + 3) lsA ((r.toList ++ rest).map (re α'))) := by
    intro α' t H1 locs1 rr _ ht hvm hα hW1 hz hk hS1
    rw [ht] at hW1
    obtain ⟨g1, g2, g3, g4, g5, g6, g7, g8, g9, g10, g11, g12⟩ := C
    refine X2 p l e R s m args below meth c D cy b0 α' H1 locs1 _ _ Qs lsA ⟨g1, g2, g3, g4, g5, g6, g7, g8, g9, g10, by rw [e3.1]; exact FG.al (fun a ha => hα a (by have := e3.2; omega)) g11, g12⟩ hf hlo (by omega) (by omega) hW1 hS1 (hL.al (fun i a hi => hα a (hR.elim (fun q => by omega) (fun q => by have h1 := q.1 i a hi; have h2 := e3.2; omega)))) ?_
    intro H' locs' α2 pc' lsA' hr hα2 hW2 hS2
    have k2 := hE H' locs' α2 pc' lsA' hr (fun a ha => (hα2 a (by omega)).trans (hα a (by omega))) hW2 hS2
    have z1 : cells + (cnt M1 - cnt M) + (cnt M2 - cnt M1) = cells + (cnt M2 - cnt M) := by omega
    have z2 : slots + (slt M1 - slt M) + (slt M2 - slt M1) = slots + (slt M2 - slt M) := by omega
    rw [z1, z2]
    exact k2
  have hrest : ∀ α' : Nat → Nat, (∀ a, a < cnt M ∨ cnt M1 ≤ a → α' a = α a) → rest.map (re α') = rest.map (re α) := by
    intro α' hα
    apply List.map_congr_left
    intro v hv
    cases v <;> first | rfl | (simp only [re]; rw [hα _ (hR.elim (fun q => by omega) (fun q => Or.inl (q.2 _ hv)))])
  rcases hri r M1 hq with rfl | ⟨v, rfl⟩ | ⟨v, rfl⟩
  · refine va_callv (S := Nat → Nat) (a := (vs.map (re α)).toArray) run hS (fun q _ z => z) (fun q z => z) (fun u t H1 locs1 ht hvm hpu hB hz hk hS1 => ?_)
    have := go u t H1 locs1 none rfl ht hvm hpu hB hz hk hS1
    rw [← hrest u hpu]
    exact this
  · refine va_calli (S := Nat → Nat) (a := (vs.map (re α)).toArray) run hS (fun q _ z => z) (fun q z => z) (fun x u t H1 locs1 ht hvm hpu hB hz hk hS1 => ?_)
    have := go u t H1 locs1 _ rfl ht hvm hpu.2 hB hz hk hS1
    rw [← hrest u hpu.2, hpu.1]
    exact this
  · refine va_calll (S := Nat → Nat) (a := (vs.map (re α)).toArray) run hS (fun q _ z => z) (fun q z => z) (fun x u t H1 locs1 ht hvm hpu hB hz hk hS1 => ?_)
    have := go u t H1 locs1 _ rfl ht hvm hpu.2 hB hz hk hS1
    rw [← hrest u hpu.2, hpu.1]
    exact this
theorem callB_M {h : Nat} {mi mi' : MI} {n idx : Nat} {M M' : pM} {Rm : Room} {s : State} {args : Array Value} (K : MiK mi' n) (hts : ∀ w ∈ gT, w.before args s = true) (hlk : Cond.methodLink mi.1.cls idx mi'.1 ∈ gT) (hf : h + 1 ≤ Rm.frames) (hl : 64 * (h + 1) ≤ Rm.locals) :
    CallB Rm s args mi.1.cls idx mi'.1 mi'.2.1 mi'.2.2.1 mi'.2.2.2 (wsM mi') (rmM h M M') (cnt M' - cnt M) (slt M' - slt M) n :=
  callB_of n hts (good_ws K) rfl rfl rfl (hts _ K.2.1) (hts _ hlk) K.2.2.2.2 ⟨hf, by have := K.2.2.2.1; show 8 + (mi'.2.2.1 + 11) + 64 * h ≤ Rm.locals; omega⟩
theorem st_room {α : Nat → Nat} {rest : List Value} (hst : (rest.map fun v => v.category).sum ≤ 8) : ((rest.map (re α)).map fun v => v.category).sum ≤ 8 := by
  rw [List.map_map]
  have : rest.map ((fun v => v.category) ∘ re α) = rest.map fun v => v.category := List.map_congr_left (fun v _ => re_cat α v)
  rw [this]; exact hst
section RC
variable {h : Nat} {mi mi' : MI} {pc : Nat} {ls : List (Option Value)} {rest : List Value} {M : pM} {Q Q' : Option Value → pM → Prop} {n idx b ci z : Nat}
theorem rn_callV (As : List Value) (hd : decode mi.2.1 pc = .ok (.invokevirtual idx, 3)) (K : LkV mi.1.cls idx mi' n) (hA : As.length = n) (hh : M.1[b]? = some (0, ci, z)) (hci : ∃ T N, vwCl[ci]? = some (mi'.1.cls, T, N)) (hst : (rest.map fun v => v.category).sum ≤ 8) (hv : (entL0 (.ref b :: As)).length ≤ mi'.2.2.1)
    (href : ∀ r M', Q' r M' → cnt M' = cnt M ∨ ((∀ (i a : Nat), ls[i]? = some (some (Value.ref a)) → a < cnt M ∨ 1000 ≤ a) ∧ ∀ a, Value.ref a ∈ rest → a < cnt M))
    (E : Mt h mi' (.ref b :: As) M Q') (hri : ∀ r M', Q' r M' → r = none ∨ (∃ v, r = some (.int v)) ∨ ∃ v, r = some (.long v))
    (k : ∀ r M', Q' r M' → Rn (h + 1) mi (pc + 3) ls (r.toList ++ rest) M' Q) : Rn (h + 1) mi pc ls (As.reverse ++ .ref b :: rest) M Q := by
  refine rn_call K.1 hv ?_ href E hri k
  intro r M' hM p l e Rm s m args below meth c D cy b0 α H locs cells slots lsA C hf hlo hc hs hW hS hL
  have hts := C.2.2.2.2.2.1
  obtain ⟨T, N, hT⟩ := hci
  obtain ⟨hs0, I, J, R, X⟩ := M
  have hrec : ∃ cell : Cell, H[α b]? = some cell ∧ cell.vm.isStatics = false ∧ s.vm.findClass mi'.1.cls = some cell.cls := va_recv C.2.2.2.2.2.2.2.2.1 hW.1 hT (pW_get hh)
  have hb : (α b) = α b := rfl
  exact va_runV (b := α b) (As := As.map (re α)) ⟨C.1, C.2.1, C.2.2.1, C.2.2.2.2.1, hts⟩ (hM l D cy b0 α) ⟨callB_M K.1 hts K.2.1 hf hlo, hts _ K.2.2.1, hts _ K.2.2.2⟩
    ⟨pcM_blind, hrec, fun U hU hWm => ⟨rfl, by rw [hU]; have := C.2.2.2.2.2.2.2.2.2.1; have := hS.1; omega, by rw [hU]; exact hW, va_K.moved hWm.alike C.2.2.2.2.2.2.2.2.1, by rw [hU]; exact (C.2.2.2.2.2.2.2.2.2.2.1.moved hWm.alike).kept hS.2.1, va_Nw.warmM hWm C.2.2.2.2.2.2.2.2.2.2.2⟩⟩
    rfl (by rw [List.length_map]; exact hA) hL.1 (by show (List.map (re α) (As.reverse ++ .ref b :: rest)) = _; rw [List.map_append, List.map_reverse]; rfl) (lv_room (st_room hst)) hd ⟨hc, hs⟩
theorem rn_callI (As : List Value) (hd : decode mi.2.1 pc = .ok (.invokespecial idx, 3)) (K : LkI mi.1.cls idx mi' n) (hA : As.length = n) (hst : (rest.map fun v => v.category).sum ≤ 8) (hv : (entL0 (.ref b :: As)).length ≤ mi'.2.2.1)
    (href : ∀ r M', Q' r M' → cnt M' = cnt M ∨ ((∀ (i a : Nat), ls[i]? = some (some (Value.ref a)) → a < cnt M ∨ 1000 ≤ a) ∧ ∀ a, Value.ref a ∈ rest → a < cnt M))
    (E : Mt h mi' (.ref b :: As) M Q') (hri : ∀ r M', Q' r M' → r = none ∨ (∃ v, r = some (.int v)) ∨ ∃ v, r = some (.long v))
    (k : ∀ r M', Q' r M' → Rn (h + 1) mi (pc + 3) ls (r.toList ++ rest) M' Q) : Rn (h + 1) mi pc ls (As.reverse ++ .ref b :: rest) M Q := by
  refine rn_call K.1 hv ?_ href E hri k
  intro r M' hM p l e Rm s m args below meth c D cy b0 α H locs cells slots lsA C hf hlo hc hs hW hS hL
  have hts := C.2.2.2.2.2.1
  have cb := callB_M (M := M) (M' := M') K.1 hts K.2.1 hf hlo
  rw [K.2.2.2.2] at cb
  exact va_runI (b := α b) (As := As.map (re α)) ⟨C.1, C.2.1, C.2.2.1, C.2.2.2.2.1, hts⟩ (hM l D cy b0 α) ⟨cb, K.2.2.2.1, hts _ K.2.2.1⟩
    ⟨pcM_blind, fun U hU hWm => ⟨rfl, by rw [hU]; have := C.2.2.2.2.2.2.2.2.2.1; have := hS.1; omega, by rw [hU]; exact hW, va_K.moved hWm.alike C.2.2.2.2.2.2.2.2.1, by rw [hU]; exact (C.2.2.2.2.2.2.2.2.2.2.1.moved hWm.alike).kept hS.2.1, va_Nw.warmM hWm C.2.2.2.2.2.2.2.2.2.2.2⟩⟩
    rfl (by rw [List.length_map]; exact hA) hL.1 (by show (List.map (re α) (As.reverse ++ .ref b :: rest)) = _; rw [List.map_append, List.map_reverse]; rfl) (lv_room (st_room hst)) hd ⟨hc, hs⟩
theorem rn_callS (As : List Value) (hd : decode mi.2.1 pc = .ok (.invokestatic idx, 3)) (K : LkS mi.1.cls idx mi' n) (hA : As.length = n) (hst : (rest.map fun v => v.category).sum ≤ 8) (hv : (entL0 As).length ≤ mi'.2.2.1)
    (href : ∀ r M', Q' r M' → cnt M' = cnt M ∨ ((∀ (i a : Nat), ls[i]? = some (some (Value.ref a)) → a < cnt M ∨ 1000 ≤ a) ∧ ∀ a, Value.ref a ∈ rest → a < cnt M))
    (E : Mt h mi' As M Q') (hri : ∀ r M', Q' r M' → r = none ∨ (∃ v, r = some (.int v)) ∨ ∃ v, r = some (.long v))
    (k : ∀ r M', Q' r M' → Rn (h + 1) mi (pc + 3) ls (r.toList ++ rest) M' Q) : Rn (h + 1) mi pc ls (As.reverse ++ rest) M Q := by
  refine rn_call K.1 hv ?_ href E hri k
  intro r M' hM p l e Rm s m args below meth c D cy b0 α H locs cells slots lsA C hf hlo hc hs hW hS hL
  have hts := C.2.2.2.2.2.1
  exact va_runS (As := As.map (re α)) ⟨C.1, C.2.1, C.2.2.1, C.2.2.2.2.1, hts⟩ (hM l D cy b0 α) ⟨callB_M K.1 hts K.2.1 hf hlo, hts _ K.2.2⟩
    ⟨pcM_blind, fun U hU hWm => ⟨rfl, by rw [hU]; have := C.2.2.2.2.2.2.2.2.2.1; have := hS.1; omega, by rw [hU]; exact hW, va_K.moved hWm.alike C.2.2.2.2.2.2.2.2.1, by rw [hU]; exact (C.2.2.2.2.2.2.2.2.2.2.1.moved hWm.alike).kept hS.2.1, va_Nw.warmM hWm C.2.2.2.2.2.2.2.2.2.2.2⟩⟩
    rfl (by rw [List.length_map]; exact hA) hL.1 (by show (List.map (re α) (As.reverse ++ rest)) = _; rw [List.map_append, List.map_reverse]) (lv_room (st_room hst)) hd ⟨hc, hs⟩
theorem rn_callN {host : String} (As : List Value) (hd : decode mi.2.1 pc = .ok (.invokestatic idx, 3)) (K : LkN mi.1.cls idx mi' n host) (hA : As.length = n) (hst : (rest.map fun v => v.category).sum ≤ 8) (hv : (entL0 As).length ≤ mi'.2.2.1)
    (href : ∀ r M', Q' r M' → cnt M' = cnt M ∨ ((∀ (i a : Nat), ls[i]? = some (some (Value.ref a)) → a < cnt M ∨ 1000 ≤ a) ∧ ∀ a, Value.ref a ∈ rest → a < cnt M))
    (E : Mt h mi' As M Q') (hri : ∀ r M', Q' r M' → r = none ∨ (∃ v, r = some (.int v)) ∨ ∃ v, r = some (.long v))
    (k : ∀ r M', Q' r M' → Rn (h + 1) mi (pc + 3) ls (r.toList ++ rest) M' Q) : Rn (h + 1) mi pc ls (As.reverse ++ rest) M Q := by
  refine rn_call K.1 hv ?_ href E hri k
  intro r M' hM p l e Rm s m args below meth c D cy b0 α H locs cells slots lsA C hf hlo hc hs hW hS hL
  have hts := C.2.2.2.2.2.1
  exact va_runSN (As := As.map (re α)) ⟨C.1, C.2.1, C.2.2.1, C.2.2.2.2.1, hts⟩ (hM l D cy b0 α)
    ⟨va_cnB n hts (good_ws K.1) rfl rfl rfl (by rw [K.2.1]; exact C.2.2.2.2.2.2.2.2.2.2.2) (hts _ K.1.2.1) K.1.2.2.2.2 ⟨hf, by have := K.1.2.2.2.1; show 8 + (mi'.2.2.1 + 11) + 64 * h ≤ Rm.locals; omega⟩, hts _ K.2.2, trivial⟩
    ⟨pcM_blind, fun U hU hWm => ⟨rfl, by rw [hU]; have := C.2.2.2.2.2.2.2.2.2.1; have := hS.1; omega, by rw [hU]; exact hW, va_K.moved hWm.alike C.2.2.2.2.2.2.2.2.1, by rw [hU]; exact (C.2.2.2.2.2.2.2.2.2.2.1.moved hWm.alike).kept hS.2.1, va_Nw.warmM hWm C.2.2.2.2.2.2.2.2.2.2.2⟩⟩
    rfl (by rw [List.length_map]; exact hA) hL.1 (by show (List.map (re α) (As.reverse ++ rest)) = _; rw [List.map_append, List.map_reverse]) (lv_room (st_room hst)) hd ⟨hc, hs⟩
end RC
