/-! THE PURE MACHINE: a state is headers of cells, contents of ints, longs, references, the script; a judgement Rn over it, sound by its making -/
abbrev MI : Type := MethodName × ByteArray × Nat × Option FieldType
abbrev pHd : Type := Nat × Nat × Nat
abbrev pX : Type := Nat × (Nat → Int32)
abbrev pM : Type := List pHd × (Nat → Nat → Int32) × (Nat → Nat → Int64) × (Nat → Nat → Option Nat) × pX
def fTy (c : Nat) : Nat → FieldType := match c with
  | 0 => tyX0 | 1 => tyX1 | 2 => tyX2 | 3 => tyX3 | 4 => tyX4 | 5 => tyX5 | 6 => tyX6 | 7 => tyX7 | 8 => tyX8 | 9 => tyX9 | 10 => tyX10 | 11 => tyX11 | _ => tyX12
def nF (c : Nat) : Nat := match c with
  | 0 => 5 | 1 => 6 | 2 => 4 | 3 => 13 | 4 => 10 | 5 => 3 | 6 => 2 | 7 => 5 | 8 => 8 | 9 => 4 | 10 => 2 | 11 => 13 | _ => 59
def pTys : List FieldType := [.int, .byte, .short, .boolean, .long, .array .int, .object RX5, .object RX6, .object RX7]
def tysOf (cy : Nat → ClassId) : List (ClassId × FieldType) := pTys.mapIdx (fun i t => (cy i, t))
def re (α : Nat → Nat) (v : Value) : Value := match v with
  | .ref a => .ref (α a)
  | v => v
def upA {β : Type} (f : Nat → Nat → β) (a : Nat) (g : Nat → β) : Nat → Nat → β := fun b => if b = a then g else f b
def fV (α : Nat → Nat) (I : Nat → Nat → Int32) (R : Nat → Nat → Option Nat) (a c k : Nat) : Value := if (fTy c k).isReference = true then va_rf ((R a k).map α) else .int (I a k)
def cellE (cy : Nat → ClassId) (α : Nat → Nat) (I : Nat → Nat → Int32) (J : Nat → Nat → Int64) (R : Nat → Nat → Option Nat) (a : Nat) (h : pHd) : va_E := match h.1 with
  | 0 => .inr (h.2.1, (List.range (nF h.2.1)).map (fV α I R a h.2.1))
  | 1 => .inl (cy h.2.1, h.2.2, .inl (I a))
  | 2 => .inl (cy h.2.1, h.2.2, .inr (.inl (J a)))
  | _ => .inl (cy h.2.1, h.2.2, .inr (.inr (.inr (.inr (fun k => (R a k).map α)))))
def pW (cy : Nat → ClassId) (α : Nat → Nat) (M : pM) : va_W := M.1.mapIdx (fun a h => (α a, cellE cy α M.2.1 M.2.2.1 M.2.2.2.1 a h))
def pZ (M : pM) : Prop := (∀ a, M.1.length ≤ a → (∀ k, M.2.1 a k = 0) ∧ (∀ k, M.2.2.1 a k = 0) ∧ ∀ k, M.2.2.2.1 a k = none) ∧ ∀ a k b, M.2.2.2.1 a k = some b → b < M.1.length
def Wd (D : va_G) (cy : Nat → ClassId) (b0 : Nat) (α : Nat → Nat) (M : pM) (H : Heap) : Prop := va_P D vwCl (pW cy α M) H ∧ va_D (fun q => b0 ≤ q) (pW cy α M) ∧ pZ M
def tAB : List Int32 := [-1, 0, 0, 2, 1, 4, 0, 6]
def tBD : List Int32 := [1, 10, 11, 2, 20, 0, 0, 0, 0, 30, 0, 0, 0, 41, 40, 0, 0, 0, 0, 50, 0, 0, 60, 61, 70, 0, 0, 0, 81, 80, 0, 0]
/-- the good words of the tables -/
def gT : List Cond := lw_tbl.filter goodWord
theorem gm {w : Cond} (h : w ∈ lw_tbl) (g : goodWord w = true) : w ∈ gT := List.mem_filter.mpr ⟨h, g⟩
def nwW : Cond := .methodLinkNest RX8 39 yX11_isBaker RX11
def va_AOI (U : State) : Prop := (Cond.arrayOver (.array .int)).before #[] U = true
theorem va_AOI.moved {u U : State} (hvm : u.vm.Alike U.vm) (h : va_AOI u) : va_AOI U := by
  obtain ⟨comp, c, k, h1, h2, h3, h4, h5⟩ : ∃ comp c k, u.vm.findClass (FieldType.array .int).toString = some comp ∧ (u.vm.classes.findIdx? fun (x : Class) => match x.kind with | .array component _ => component == comp | _ => false) = some c ∧ u.vm.classes[c]? = some k ∧ k.kind = .array comp (.array .int) ∧ u.vm.findClass ("[" ++ (FieldType.array .int).toString) = some c := by
    unfold va_AOI Cond.before at h
    simp only [Cond.holds, Cond.value, beq_iff_eq] at h
    cases hc : u.vm.findClass (FieldType.array .int).toString with
    | none => simp [hc] at h
    | some comp =>
      simp only [hc, Option.bind_some, Option.bind_eq_some_iff, Option.map_eq_some_iff] at h
      obtain ⟨c, hi, k, hk, hb⟩ := h
      obtain ⟨hlt, hp, -⟩ := Array.findIdx?_eq_some_iff_getElem.mp hi
      have hkk : u.vm.classes[c] = k := (Array.getElem?_eq_some_iff.mp hk).2
      rw [hkk] at hp
      cases hkind : k.kind with
      | array component ty =>
        rw [hkind] at hb hp
        simp at hb hp
        exact ⟨comp, c, k, rfl, hi, hk, by rw [hkind, hp, hb.1], hb.2⟩
      | _ => rw [hkind] at hb; simp at hb
  obtain ⟨k', hk', he⟩ := hvm.2.2 _ _ h3
  have hi : (U.vm.classes.findIdx? fun (x : Class) => match x.kind with | .array component _ => component == comp | _ => false) = some c := by
    exact (Vm.Alike.findIdx?_eqK hvm _ (fun _ => rfl)).trans h2
  have hkind : k'.kind = .array comp (.array .int) := by rw [he]; exact h4
  have f1 : U.vm.findClass (FieldType.array .int).toString = some comp := by rw [hvm.findClass]; exact h1
  have f2 : U.vm.findClass ("[" ++ (FieldType.array .int).toString) = some c := by rw [hvm.findClass]; exact h5
  unfold va_AOI Cond.before
  simp only [Cond.holds, Cond.value, f1, Option.bind_some, beq_iff_eq]
  rw [Option.bind_eq_some_iff]
  refine ⟨c, hi, ?_⟩
  simp [hk', hkind, f2]
def AO4 (U : State) : Prop := va_AO RX5 U ∧ va_AO RX6 U ∧ va_AO RX7 U ∧ va_AOI U
theorem AO4.moved {u U : State} (hv : u.vm.Alike U.vm) (h : AO4 u) : AO4 U := ⟨h.1.moved hv, h.2.1.moved hv, h.2.2.1.moved hv, h.2.2.2.moved hv⟩
def FG (b0 : Nat) (α : Nat → Nat) (X : pX) (U : State) (H : Heap) : Prop :=
  (va_X (α 1000) X.1 X.2 U H ∧ α 1000 < b0) ∧
  (va_Z "NineCarts$Acts" "ABOVE" "[I" (.ref (α 1001)) (fun q => b0 ≤ q) U H ∧ va_T .int (α 1001) 8 (fun j => .int (tAB.getD j 0)) (fun q => b0 ≤ q) U H) ∧
  (va_Z "NineCarts$Acts" "BODIES" "[I" (.ref (α 1002)) (fun q => b0 ≤ q) U H ∧ va_T .int (α 1002) 32 (fun j => .int (tBD.getD j 0)) (fun q => b0 ≤ q) U H) ∧ AO4 U
theorem FG.moved {b0 : Nat} {α : Nat → Nat} {X : pX} {u U : State} {H : Heap} (hv : u.vm.Alike U.vm) (h : FG b0 α X u H) : FG b0 α X U H :=
  ⟨⟨h.1.1.moved hv, h.1.2⟩, ⟨h.2.1.1.moved hv, h.2.1.2.moved hv⟩, ⟨h.2.2.1.1.moved hv, h.2.2.1.2.moved hv⟩, h.2.2.2.moved hv⟩
theorem FG.kept {b0 : Nat} {α : Nat → Nat} {X : pX} {U : State} {H H1 : Heap} (h : FG b0 α X U H) (hq : ∀ a : Nat, a < H.size → ¬ b0 ≤ a → H1[a]? = H[a]?) : FG b0 α X U H1 := by
  obtain ⟨⟨h1, h2⟩, ⟨h3, h4⟩, ⟨h5, h6⟩, h7⟩ := h
  have hb : α 1000 < H.size := by
    obtain ⟨scr, e, -⟩ := h1
    exact (Array.getElem?_eq_some_iff.mp e).1
  exact ⟨⟨h1.kept (hq _ hb (by omega)), h2⟩, ⟨h3.kept hq, h4.kept hq⟩, ⟨h5.kept hq, h6.kept hq⟩, h7⟩
theorem FG.al {b0 : Nat} {α α' : Nat → Nat} {X : pX} {U : State} {H : Heap} (ha : ∀ a, 1000 ≤ a → α' a = α a) (h : FG b0 α X U H) : FG b0 α' X U H := by
  unfold FG
  rw [ha 1000 (Nat.le_refl _), ha 1001 (by omega), ha 1002 (by omega)]
  exact h
/-- the machine around an activation of a method -/
def Cx (p : Program) (s : State) (m : MethodId) (args : Array Value) (meth : Method) (c : Code) (D : va_G) (cy : Nat → ClassId) (b0 : Nat) (α : Nat → Nat) (X : pX) (mi : MI) : Prop :=
  p.tables.exec = Jvm.exec ∧ c.code = mi.2.1 ∧ c.maxLocals = mi.2.2.1 ∧ meth.sig.returnType = mi.2.2.2 ∧ s.vm.findClass mi.1.cls = some m.cls ∧ (∀ w ∈ gT, w.before args s = true) ∧ meth.locks = false ∧ (mi.1.name = "<init>" → meth.name = mi.1.name) ∧ va_K D vwCl (tysOf cy) s ∧ b0 ≤ s.heap.size ∧ FG b0 α X s s.heap ∧ va_Nw nwW s
def LR (α : Nat → Nat) (lsA : Array Slot) (nL : Nat) (ls : List (Option Value)) : Prop := lsA.size = nL ∧ lv_wf lsA ∧ ∀ (i : Nat) (v : Value), ls[i]? = some (some v) → lsA[i]? = some (.val (re α v))
theorem LR.al {α α' : Nat → Nat} {lsA : Array Slot} {nL : Nat} {ls : List (Option Value)} (h : LR α lsA nL ls) (ha : ∀ (i a : Nat), ls[i]? = some (some (Value.ref a)) → α' a = α a) : LR α' lsA nL ls := by
  refine ⟨h.1, h.2.1, fun i v hv => ?_⟩
  rw [h.2.2 i v hv]
  cases v <;> first | rfl | (simp only [re]; rw [ha i _ hv])
/-- where a method may return r -/
def retI (mi : MI) (pc : Nat) (r : Option Value) : Prop :=
  (∃ v ty, r = some (.int v) ∧ decode mi.2.1 pc = .ok (.ireturn, 1) ∧ mi.2.2.2 = some ty ∧ narrow ty (.int v) = .int v) ∨
  (∃ v, r = some (.long v) ∧ decode mi.2.1 pc = .ok (.lreturn, 1) ∧ mi.2.2.2 = some .long) ∨
  (r = none ∧ decode mi.2.1 pc = .ok (.return_, 1) ∧ mi.2.2.2 = none)
def hsz (h : pHd) : Nat := if h.1 = 0 then nF h.2.1 else h.2.2
def cnt (M : pM) : Nat := M.1.length
def slt (M : pM) : Nat := (M.1.map hsz).sum
/-- references held: none to a cell that isn't there -/
def okR (n : Nat) (v : Value) : Prop := ∀ a, v = .ref a → a < n ∨ 1000 ≤ a
def RnX (h : Nat) (mi : MI) (pc : Nat) (ls : List (Option Value)) (st : List Value) (M : pM) (r : Option Value) (M' : pM) : Prop :=
  ∀ (p : Program) (l : Launch) (e : Env) (R : Room) (s : State) (m : MethodId) (args : Array Value) (below : List Frame) (meth : Method) (c : Code) (D : va_G) (cy : Nat → ClassId) (b0 : Nat) (α : Nat → Nat) (H : Heap) (locs : List Loc) (cells slots : Nat) (Qs : State → Prop) (lsA : Array Slot),
    Cx p s m args meth c D cy b0 α M.2.2.2.2 mi → h ≤ R.frames → 64 * h ≤ R.locals → cells + (cnt M' - cnt M) ≤ R.cells → slots + (slt M' - slt M) ≤ R.slots → Wd D cy b0 α M H → va_S (fun q => b0 ≤ q) s.heap H locs → LR α lsA mi.2.2.1 ls →
    (∀ (H' : Heap) (locs' : List Loc) (α' : Nat → Nat) (pc' : Nat) (lsA' : Array Slot), retI mi pc' r → (∀ a, a < cnt M ∨ cnt M' ≤ a → α' a = α a) → Wd D cy b0 α' M' H' → va_S (fun q => b0 ≤ q) s.heap H' locs' →
      W p l e R s m args below meth c H' locs' (cells + (cnt M' - cnt M)) (slots + (slt M' - slt M)) Qs (F0 m pc' lsA' (r.toList.map (re α')))) →
    W p l e R s m args below meth c H locs cells slots Qs (F0 m pc lsA (st.map (re α)))
def Rn (h : Nat) (mi : MI) (pc : Nat) (ls : List (Option Value)) (st : List Value) (M : pM) (Q : Option Value → pM → Prop) : Prop :=
  ∃ r M', Q r M' ∧ cnt M ≤ cnt M' ∧ slt M ≤ slt M' ∧ (M'.2.2.2.2 = M.2.2.2.2 ∧ (cnt M' = cnt M ∨ cnt M' ≤ 1000)) ∧ RnX h mi pc ls st M r M'
def entL0 : List Value → List (Option Value)
  | [] => []
  | v :: r => if v.category = 2 then some v :: none :: entL0 r else some v :: entL0 r
def entL (vs : List Value) (n : Nat) : List (Option Value) := entL0 vs ++ List.replicate (n - (entL0 vs).length) none
/-- a method from its entry -/
def Mt (h : Nat) (mi : MI) (vs : List Value) (M : pM) (Q : Option Value → pM → Prop) : Prop := Rn h mi 0 (entL vs mi.2.2.1) [] M Q
def MtI (h : Nat) (mi : MI) (vs : List Value) (M : pM) (Q : Int32 → pM → Prop) : Prop := Mt h mi vs M (fun r M' => ∃ v, r = some (.int v) ∧ Q v M')
def MtL (h : Nat) (mi : MI) (vs : List Value) (M : pM) (Q : Int64 → pM → Prop) : Prop := Mt h mi vs M (fun r M' => ∃ v, r = some (.long v) ∧ Q v M')
def MtV (h : Nat) (mi : MI) (vs : List Value) (M : pM) (Q : pM → Prop) : Prop := Mt h mi vs M (fun r M' => r = none ∧ Q M')
theorem Rn.mono {h : Nat} {mi : MI} {pc : Nat} {ls : List (Option Value)} {st : List Value} {M : pM} {Q Q' : Option Value → pM → Prop} (k : Rn h mi pc ls st M Q) (hQ : ∀ r M', Q r M' → Q' r M') : Rn h mi pc ls st M Q' := by
  obtain ⟨r, M', q, k⟩ := k
  exact ⟨r, M', hQ r M' q, k⟩
theorem MtI.mono {h : Nat} {mi : MI} {vs : List Value} {M : pM} {Q Q' : Int32 → pM → Prop} (k : MtI h mi vs M Q) (hQ : ∀ r M', Q r M' → Q' r M') : MtI h mi vs M Q' :=
  Rn.mono k (fun r M' ⟨v, e, q⟩ => ⟨v, e, hQ v M' q⟩)
theorem MtL.mono {h : Nat} {mi : MI} {vs : List Value} {M : pM} {Q Q' : Int64 → pM → Prop} (k : MtL h mi vs M Q) (hQ : ∀ r M', Q r M' → Q' r M') : MtL h mi vs M Q' :=
  Rn.mono k (fun r M' ⟨v, e, q⟩ => ⟨v, e, hQ v M' q⟩)
theorem MtV.mono {h : Nat} {mi : MI} {vs : List Value} {M : pM} {Q Q' : pM → Prop} (k : MtV h mi vs M Q) (hQ : ∀ M', Q M' → Q' M') : MtV h mi vs M Q' :=
  Rn.mono k (fun r M' ⟨e, q⟩ => ⟨e, hQ M' q⟩)
/-! rows of one instruction that touch neither memory nor locals -/
theorem rn_0 {h : Nat} {mi : MI} {pc pc' : Nat} {ls : List (Option Value)} {st st' : List Value} {M : pM} {Q : Option Value → pM → Prop}
    (step : ∀ (p : Program) (l : Launch) (e : Env) (R : Room) (s : State) (m : MethodId) (args : Array Value) (below : List Frame) (meth : Method) (c : Code) (D : va_G) (cy : Nat → ClassId) (b0 : Nat) (α : Nat → Nat) (H : Heap) (locs : List Loc) (cells slots : Nat) (Qs : State → Prop) (lsA : Array Slot),
      Cx p s m args meth c D cy b0 α M.2.2.2.2 mi → Wd D cy b0 α M H → va_S (fun q => b0 ≤ q) s.heap H locs → LR α lsA mi.2.2.1 ls → (1 ≤ h → 1 ≤ R.frames ∧ 64 ≤ R.locals) →
      W p l e R s m args below meth c H locs cells slots Qs (F0 m pc' lsA (st'.map (re α))) → W p l e R s m args below meth c H locs cells slots Qs (F0 m pc lsA (st.map (re α))))
    (k : Rn h mi pc' ls st' M Q) : Rn h mi pc ls st M Q := by
  obtain ⟨r, M', q, c1, c2, c3, X⟩ := k
  refine ⟨r, M', q, c1, c2, c3, ?_⟩
  intro p l e R s m args below meth c D cy b0 α H locs cells slots Qs lsA C hf hl hc hs hW hS hL hE
  exact step p l e R s m args below meth c D cy b0 α H locs cells slots Qs lsA C hW hS hL (fun h1 => ⟨by omega, by omega⟩) (X p l e R s m args below meth c D cy b0 α H locs cells slots Qs lsA C hf hl hc hs hW hS hL hE)
section R0
variable {h : Nat} {mi : MI} {pc : Nat} {ls : List (Option Value)} {st : List Value} {M : pM} {Q : Option Value → pM → Prop}
theorem rn_iconst {n : Int} {v : Int32} (hd : decode mi.2.1 pc = .ok (.iconst n, 1)) (hv : Int32.ofInt n = v) (k : Rn h mi (pc + 1) ls (.int v :: st) M Q) : Rn h mi pc ls st M Q :=
  rn_0 (fun _ _ _ _ _ _ _ _ _ _ _ _ _ _ _ _ _ _ _ _ C _ _ _ _ z => lv_iconst C.1 C.2.1 hd hv z) k
theorem rn_bipush {n : Int} {v : Int32} (hd : decode mi.2.1 pc = .ok (.bipush n, 2)) (hv : (Int8.ofInt n).toInt32 = v) (k : Rn h mi (pc + 2) ls (.int v :: st) M Q) : Rn h mi pc ls st M Q :=
  rn_0 (fun _ _ _ _ _ _ _ _ _ _ _ _ _ _ _ _ _ _ _ _ C _ _ _ _ z => lv_bipush C.1 C.2.1 hd hv z) k
theorem rn_sipush {n : Int} {v : Int32} (hd : decode mi.2.1 pc = .ok (.sipush n, 3)) (hv : (Int16.ofInt n).toInt32 = v) (k : Rn h mi (pc + 3) ls (.int v :: st) M Q) : Rn h mi pc ls st M Q :=
  rn_0 (fun _ _ _ _ _ _ _ _ _ _ _ _ _ _ _ _ _ _ _ _ C _ _ _ _ z => lv_sipush C.1 C.2.1 hd hv z) k
theorem rn_lconst {n : Fin 2} {v : Int64} (hd : decode mi.2.1 pc = .ok (.lconst n, 1)) (hv : Int64.ofNat (n : Nat) = v) (k : Rn h mi (pc + 1) ls (.long v :: st) M Q) : Rn h mi pc ls st M Q :=
  rn_0 (fun _ _ _ _ _ _ _ _ _ _ _ _ _ _ _ _ _ _ _ _ C _ _ _ _ z => lv_lconst C.1 C.2.1 hd hv z) k
theorem rn_ldc {i : Nat} {v : Int32} (hd : decode mi.2.1 pc = .ok (.ldc i, 2)) (hw : Cond.constant mi.1.cls i v ∈ gT) (k : Rn h mi (pc + 2) ls (.int v :: st) M Q) : Rn h mi pc ls st M Q :=
  rn_0 (fun _ _ _ _ _ _ _ _ _ _ _ _ _ _ _ _ _ _ _ _ C _ _ _ _ z => lv_ldc C.1 C.2.1 C.2.2.2.2.1 (C.2.2.2.2.2.1 _ hw) hd z) k
theorem rn_ldcw {i : Nat} {v : Int32} (hd : decode mi.2.1 pc = .ok (.ldc_w i, 3)) (hw : Cond.constant mi.1.cls i v ∈ gT) (k : Rn h mi (pc + 3) ls (.int v :: st) M Q) : Rn h mi pc ls st M Q :=
  rn_0 (fun _ _ _ _ _ _ _ _ _ _ _ _ _ _ _ _ _ _ _ _ C _ _ _ _ z => lv_ldcw C.1 C.2.1 C.2.2.2.2.1 (C.2.2.2.2.2.1 _ hw) hd z) k
theorem rn_ldc2 {i : Nat} {v : Int64} (hd : decode mi.2.1 pc = .ok (.ldc2_w i, 3)) (hw : Cond.constantLong mi.1.cls i v ∈ gT) (k : Rn h mi (pc + 3) ls (.long v :: st) M Q) : Rn h mi pc ls st M Q :=
  rn_0 (fun _ _ _ _ _ _ _ _ _ _ _ _ _ _ _ _ _ _ _ _ C _ _ _ _ z => lv_ldc2 C.1 C.2.1 C.2.2.2.2.1 (C.2.2.2.2.2.1 _ hw) hd z) k
theorem rn_iload_n {j : Fin 4} {x : Int32} (hd : decode mi.2.1 pc = .ok (.iload_n j, 1)) (hl : ls[(j : Nat)]? = some (some (.int x))) (k : Rn h mi (pc + 1) ls (.int x :: st) M Q) : Rn h mi pc ls st M Q :=
  rn_0 (fun _ _ _ _ _ _ _ _ _ _ _ _ _ _ _ _ _ _ _ _ C _ _ L _ z => lv_iload_n C.1 C.2.1 hd rfl (L.2.2 _ _ hl) z) k
theorem rn_iload {j : Nat} {x : Int32} (hd : decode mi.2.1 pc = .ok (.iload j, 2)) (hl : ls[j]? = some (some (.int x))) (k : Rn h mi (pc + 2) ls (.int x :: st) M Q) : Rn h mi pc ls st M Q :=
  rn_0 (fun _ _ _ _ _ _ _ _ _ _ _ _ _ _ _ _ _ _ _ _ C _ _ L _ z => lv_iload C.1 C.2.1 hd (L.2.2 _ _ hl) z) k
theorem rn_lload_n {j : Fin 4} {x : Int64} (hd : decode mi.2.1 pc = .ok (.lload_n j, 1)) (hl : ls[(j : Nat)]? = some (some (.long x))) (k : Rn h mi (pc + 1) ls (.long x :: st) M Q) : Rn h mi pc ls st M Q :=
  rn_0 (fun _ _ _ _ _ _ _ _ _ _ _ _ _ _ _ _ _ _ _ _ C _ _ L _ z => lv_lload_n C.1 C.2.1 hd rfl (L.2.2 _ _ hl) z) k
theorem rn_lload {j : Nat} {x : Int64} (hd : decode mi.2.1 pc = .ok (.lload j, 2)) (hl : ls[j]? = some (some (.long x))) (k : Rn h mi (pc + 2) ls (.long x :: st) M Q) : Rn h mi pc ls st M Q :=
  rn_0 (fun _ _ _ _ _ _ _ _ _ _ _ _ _ _ _ _ _ _ _ _ C _ _ L _ z => lv_lload C.1 C.2.1 hd (L.2.2 _ _ hl) z) k
theorem rn_aload_n {j : Fin 4} {x : Nat} (hd : decode mi.2.1 pc = .ok (.aload_n j, 1)) (hl : ls[(j : Nat)]? = some (some (.ref x))) (k : Rn h mi (pc + 1) ls (.ref x :: st) M Q) : Rn h mi pc ls st M Q :=
  rn_0 (fun _ _ _ _ _ _ _ _ _ _ _ _ _ _ _ _ _ _ _ _ C _ _ L _ z => lv_aload_n C.1 C.2.1 hd rfl (L.2.2 _ _ hl) z) k
theorem rn_aload {j : Nat} {x : Nat} (hd : decode mi.2.1 pc = .ok (.aload j, 2)) (hl : ls[j]? = some (some (.ref x))) (k : Rn h mi (pc + 2) ls (.ref x :: st) M Q) : Rn h mi pc ls st M Q :=
  rn_0 (fun _ _ _ _ _ _ _ _ _ _ _ _ _ _ _ _ _ _ _ _ C _ _ L _ z => lv_aload C.1 C.2.1 hd (L.2.2 _ _ hl) z) k
theorem rn_iadd {x y : Int32} (hd : decode mi.2.1 pc = .ok (.iadd, 1)) (k : Rn h mi (pc + 1) ls (.int (x + y) :: st) M Q) : Rn h mi pc ls (.int y :: .int x :: st) M Q :=
  rn_0 (fun _ _ _ _ _ _ _ _ _ _ _ _ _ _ _ _ _ _ _ _ C _ _ _ _ z => lv_iadd C.1 C.2.1 hd z) k
theorem rn_isub {x y : Int32} (hd : decode mi.2.1 pc = .ok (.isub, 1)) (k : Rn h mi (pc + 1) ls (.int (x - y) :: st) M Q) : Rn h mi pc ls (.int y :: .int x :: st) M Q :=
  rn_0 (fun _ _ _ _ _ _ _ _ _ _ _ _ _ _ _ _ _ _ _ _ C _ _ _ _ z => lv_isub C.1 C.2.1 hd z) k
theorem rn_imul {x y : Int32} (hd : decode mi.2.1 pc = .ok (.imul, 1)) (k : Rn h mi (pc + 1) ls (.int (x * y) :: st) M Q) : Rn h mi pc ls (.int y :: .int x :: st) M Q :=
  rn_0 (fun _ _ _ _ _ _ _ _ _ _ _ _ _ _ _ _ _ _ _ _ C _ _ _ _ z => lv_imul C.1 C.2.1 hd z) k
theorem rn_idiv {x y : Int32} (hd : decode mi.2.1 pc = .ok (.idiv, 1)) (hn : ¬ y = 0) (k : Rn h mi (pc + 1) ls (.int (x / y) :: st) M Q) : Rn h mi pc ls (.int y :: .int x :: st) M Q :=
  rn_0 (fun _ _ _ _ _ _ _ _ _ _ _ _ _ _ _ _ _ _ _ _ C _ _ _ _ z => lv_idiv C.1 C.2.1 hd hn z) k
theorem rn_irem {x y : Int32} (hd : decode mi.2.1 pc = .ok (.irem, 1)) (hn : ¬ y = 0) (k : Rn h mi (pc + 1) ls (.int (x - x / y * y) :: st) M Q) : Rn h mi pc ls (.int y :: .int x :: st) M Q :=
  rn_0 (fun _ _ _ _ _ _ _ _ _ _ _ _ _ _ _ _ _ _ _ _ C _ _ _ _ z => lv_irem C.1 C.2.1 hd hn z) k
theorem rn_ineg {x : Int32} (hd : decode mi.2.1 pc = .ok (.ineg, 1)) (k : Rn h mi (pc + 1) ls (.int (-x) :: st) M Q) : Rn h mi pc ls (.int x :: st) M Q :=
  rn_0 (fun _ _ _ _ _ _ _ _ _ _ _ _ _ _ _ _ _ _ _ _ C _ _ _ _ z => lv_ineg C.1 C.2.1 hd z) k
theorem rn_iand {x y : Int32} (hd : decode mi.2.1 pc = .ok (.iand, 1)) (k : Rn h mi (pc + 1) ls (.int (x &&& y) :: st) M Q) : Rn h mi pc ls (.int y :: .int x :: st) M Q :=
  rn_0 (fun _ _ _ _ _ _ _ _ _ _ _ _ _ _ _ _ _ _ _ _ C _ _ _ _ z => lv_iand C.1 C.2.1 hd z) k
theorem rn_ixor {x y : Int32} (hd : decode mi.2.1 pc = .ok (.ixor, 1)) (k : Rn h mi (pc + 1) ls (.int (x ^^^ y) :: st) M Q) : Rn h mi pc ls (.int y :: .int x :: st) M Q :=
  rn_0 (fun _ _ _ _ _ _ _ _ _ _ _ _ _ _ _ _ _ _ _ _ C _ _ _ _ z => lv_ixor C.1 C.2.1 hd z) k
theorem rn_ladd {x y : Int64} (hd : decode mi.2.1 pc = .ok (.ladd, 1)) (k : Rn h mi (pc + 1) ls (.long (x + y) :: st) M Q) : Rn h mi pc ls (.long y :: .long x :: st) M Q :=
  rn_0 (fun _ _ _ _ _ _ _ _ _ _ _ _ _ _ _ _ _ _ _ _ C _ _ _ _ z => lv_ladd C.1 C.2.1 hd z) k
theorem rn_lmul {x y : Int64} (hd : decode mi.2.1 pc = .ok (.lmul, 1)) (k : Rn h mi (pc + 1) ls (.long (x * y) :: st) M Q) : Rn h mi pc ls (.long y :: .long x :: st) M Q :=
  rn_0 (fun _ _ _ _ _ _ _ _ _ _ _ _ _ _ _ _ _ _ _ _ C _ _ _ _ z => lv_lmul C.1 C.2.1 hd z) k
theorem rn_land {x y : Int64} (hd : decode mi.2.1 pc = .ok (.land, 1)) (k : Rn h mi (pc + 1) ls (.long (x &&& y) :: st) M Q) : Rn h mi pc ls (.long y :: .long x :: st) M Q :=
  rn_0 (fun _ _ _ _ _ _ _ _ _ _ _ _ _ _ _ _ _ _ _ _ C _ _ _ _ z => lv_land C.1 C.2.1 hd z) k
theorem rn_lor {x y : Int64} (hd : decode mi.2.1 pc = .ok (.lor, 1)) (k : Rn h mi (pc + 1) ls (.long (x ||| y) :: st) M Q) : Rn h mi pc ls (.long y :: .long x :: st) M Q :=
  rn_0 (fun _ _ _ _ _ _ _ _ _ _ _ _ _ _ _ _ _ _ _ _ C _ _ _ _ z => lv_lor C.1 C.2.1 hd z) k
theorem rn_ldiv {x y : Int64} (hd : decode mi.2.1 pc = .ok (.ldiv, 1)) (hn : ¬ y = 0) (k : Rn h mi (pc + 1) ls (.long (x / y) :: st) M Q) : Rn h mi pc ls (.long y :: .long x :: st) M Q :=
  rn_0 (fun _ _ _ _ _ _ _ _ _ _ _ _ _ _ _ _ _ _ _ _ C _ _ _ _ z => lv_ldiv C.1 C.2.1 hd hn z) k
theorem rn_lrem {x y : Int64} (hd : decode mi.2.1 pc = .ok (.lrem, 1)) (hn : ¬ y = 0) (k : Rn h mi (pc + 1) ls (.long (x - x / y * y) :: st) M Q) : Rn h mi pc ls (.long y :: .long x :: st) M Q :=
  rn_0 (fun _ _ _ _ _ _ _ _ _ _ _ _ _ _ _ _ _ _ _ _ C _ _ _ _ z => lv_lrem C.1 C.2.1 hd hn z) k
theorem rn_lneg {x : Int64} (hd : decode mi.2.1 pc = .ok (.lneg, 1)) (k : Rn h mi (pc + 1) ls (.long (-x) :: st) M Q) : Rn h mi pc ls (.long x :: st) M Q :=
  rn_0 (fun _ _ _ _ _ _ _ _ _ _ _ _ _ _ _ _ _ _ _ _ C _ _ _ _ z => lv_lneg C.1 C.2.1 hd z) k
theorem rn_lshl {x : Int64} {y : Int32} (hd : decode mi.2.1 pc = .ok (.lshl, 1)) (k : Rn h mi (pc + 1) ls (.long (x <<< (y.toInt64 &&& 63)) :: st) M Q) : Rn h mi pc ls (.int y :: .long x :: st) M Q :=
  rn_0 (fun _ _ _ _ _ _ _ _ _ _ _ _ _ _ _ _ _ _ _ _ C _ _ _ _ z => lv_lshl C.1 C.2.1 hd rfl z) k
theorem rn_lushr {x : Int64} {y : Int32} (hd : decode mi.2.1 pc = .ok (.lushr, 1)) (k : Rn h mi (pc + 1) ls (.long (x.toUInt64 >>> (y.toInt64.toUInt64 &&& Int64.toUInt64 63)).toInt64 :: st) M Q) : Rn h mi pc ls (.int y :: .long x :: st) M Q :=
  rn_0 (fun _ _ _ _ _ _ _ _ _ _ _ _ _ _ _ _ _ _ _ _ C _ _ _ _ z => lv_lushr C.1 C.2.1 hd rfl z) k
theorem rn_lcmp {x y : Int64} (hd : decode mi.2.1 pc = .ok (.lcmp, 1)) (k : Rn h mi (pc + 1) ls (.int (lg_cmp x y) :: st) M Q) : Rn h mi pc ls (.long y :: .long x :: st) M Q :=
  rn_0 (fun _ _ _ _ _ _ _ _ _ _ _ _ _ _ _ _ _ _ _ _ C _ _ _ _ z => W.lcmp C.1 C.2.1 hd z) k
theorem rn_i2l {x : Int32} (hd : decode mi.2.1 pc = .ok (.i2l, 1)) (k : Rn h mi (pc + 1) ls (.long x.toInt64 :: st) M Q) : Rn h mi pc ls (.int x :: st) M Q :=
  rn_0 (fun _ _ _ _ _ _ _ _ _ _ _ _ _ _ _ _ _ _ _ _ C _ _ _ _ z => lv_i2l C.1 C.2.1 hd rfl z) k
theorem rn_l2i {x : Int64} (hd : decode mi.2.1 pc = .ok (.l2i, 1)) (k : Rn h mi (pc + 1) ls (.int x.toInt32 :: st) M Q) : Rn h mi pc ls (.long x :: st) M Q :=
  rn_0 (fun _ _ _ _ _ _ _ _ _ _ _ _ _ _ _ _ _ _ _ _ C _ _ _ _ z => lv_l2i C.1 C.2.1 hd rfl z) k
theorem rn_i2b {x : Int32} (hd : decode mi.2.1 pc = .ok (.i2b, 1)) (k : Rn h mi (pc + 1) ls (.int x.toInt8.toInt32 :: st) M Q) : Rn h mi pc ls (.int x :: st) M Q :=
  rn_0 (fun _ _ _ _ _ _ _ _ _ _ _ _ _ _ _ _ _ _ _ _ C _ _ _ _ z => lv_i2b C.1 C.2.1 hd rfl z) k
theorem rn_i2s {x : Int32} (hd : decode mi.2.1 pc = .ok (.i2s, 1)) (k : Rn h mi (pc + 1) ls (.int x.toInt16.toInt32 :: st) M Q) : Rn h mi pc ls (.int x :: st) M Q :=
  rn_0 (fun _ _ _ _ _ _ _ _ _ _ _ _ _ _ _ _ _ _ _ _ C _ _ _ _ z => lv_i2s C.1 C.2.1 hd rfl z) k
theorem re_cat (α : Nat → Nat) (v : Value) : (re α v).category = v.category := by cases v <;> rfl
theorem rn_dup {v : Value} (hd : decode mi.2.1 pc = .ok (.dup, 1)) (hv : v.category = 1) (k : Rn h mi (pc + 1) ls (v :: v :: st) M Q) : Rn h mi pc ls (v :: st) M Q :=
  rn_0 (fun _ _ _ _ _ _ _ _ _ _ _ _ _ _ _ _ _ _ _ _ C _ _ _ _ z => lv_dup C.1 C.2.1 hd (by rw [re_cat]; exact hv) z) k
theorem rn_pop {v : Value} (hd : decode mi.2.1 pc = .ok (.pop, 1)) (hv : v.category = 1) (k : Rn h mi (pc + 1) ls st M Q) : Rn h mi pc ls (v :: st) M Q :=
  rn_0 (fun _ _ _ _ _ _ _ _ _ _ _ _ _ _ _ _ _ _ _ _ C _ _ _ _ z => lv_pop C.1 C.2.1 hd (by rw [re_cat]; exact hv) z) k
theorem rn_dup2 {v w : Value} (hd : decode mi.2.1 pc = .ok (.dup2, 1)) (hv : v.category = 1) (hw : w.category = 1) (k : Rn h mi (pc + 1) ls (v :: w :: v :: w :: st) M Q) : Rn h mi pc ls (v :: w :: st) M Q :=
  rn_0 (fun _ _ _ _ _ _ _ _ _ _ _ _ _ _ _ _ _ _ _ _ C _ _ _ _ z => lv_dup2_11 C.1 C.2.1 hd (by rw [re_cat]; exact hv) (by rw [re_cat]; exact hw) z) k
theorem rn_goto {off : Int} {t : Nat} (hd : decode mi.2.1 pc = .ok (.goto off, 3)) (ht : (pc : Int) + off = (t : Int)) (k : Rn h mi t ls st M Q) : Rn h mi pc ls st M Q :=
  rn_0 (fun _ _ _ _ _ _ _ _ _ _ _ _ _ _ _ _ _ _ _ _ C _ _ _ _ z => lv_goto C.1 C.2.1 hd ht z) k
theorem rn_tableIn {df lo hi : Int} {offs : Array Int} {len : Nat} {x : Int32} {off : Int} {t : Nat} (hd : decode mi.2.1 pc = .ok (.tableswitch df lo hi offs, len)) (h1 : ¬ x.toInt < lo) (h2 : ¬ hi < x.toInt) (ho : offs[(x.toInt - lo).toNat]? = some off) (ht : (pc : Int) + off = (t : Int)) (k : Rn h mi t ls st M Q) : Rn h mi pc ls (.int x :: st) M Q :=
  rn_0 (fun _ _ _ _ _ _ _ _ _ _ _ _ _ _ _ _ _ _ _ _ C _ _ _ _ z => lv_tableIn C.1 C.2.1 hd h1 h2 ho ht z) k
theorem rn_tableOut {df lo hi : Int} {offs : Array Int} {len : Nat} {x : Int32} {t : Nat} (hd : decode mi.2.1 pc = .ok (.tableswitch df lo hi offs, len)) (hx : x.toInt < lo ∨ hi < x.toInt) (ht : (pc : Int) + df = (t : Int)) (k : Rn h mi t ls st M Q) : Rn h mi pc ls (.int x :: st) M Q :=
  rn_0 (fun _ _ _ _ _ _ _ _ _ _ _ _ _ _ _ _ _ _ _ _ C _ _ _ _ z => lv_tableOut C.1 C.2.1 hd hx ht z) k
theorem rn_lookup {df : Int} {ps : Array (Int × Int)} {len : Nat} {x : Int32} {off : Int} {t : Nat} (hd : decode mi.2.1 pc = .ok (.lookupswitch df ps, len)) (hp : (ps.toList.zip (ps.toList.drop 1)).all (fun (a, next) => a.1 < next.1) = true) (ho : Op.lookupswitch.offset ps.toList df x.toInt = off) (ht : (pc : Int) + off = (t : Int)) (k : Rn h mi t ls st M Q) : Rn h mi pc ls (.int x :: st) M Q :=
  rn_0 (fun _ _ _ _ _ _ _ _ _ _ _ _ _ _ _ _ _ _ _ _ C _ _ _ _ z => lv_lookup C.1 C.2.1 hd hp ho ht z) k
end R0
/-! branches: what is known is said of toInt -/
section RB
variable {h : Nat} {mi : MI} {pc : Nat} {ls : List (Option Value)} {st : List Value} {M : pM} {Q : Option Value → pM → Prop}
theorem rn_icmp_eq {x y : Int32} {off : Int} {t : Nat} (hd : decode mi.2.1 pc = .ok (.if_icmp .eq off, 3)) (ht : (pc : Int) + off = (t : Int)) (kt : x = y → Rn h mi t ls st M Q) (kf : x ≠ y → Rn h mi (pc + 3) ls st M Q) : Rn h mi pc ls (.int y :: .int x :: st) M Q := by
  by_cases hc : x = y
  · exact rn_0 (fun _ _ _ _ _ _ _ _ _ _ _ _ _ _ _ _ _ _ _ _ C _ _ _ _ z => lv_icmp_eq C.1 C.2.1 hd ht (fun _ => z) (fun q => absurd hc q)) (kt hc)
  · exact rn_0 (fun _ _ _ _ _ _ _ _ _ _ _ _ _ _ _ _ _ _ _ _ C _ _ _ _ z => lv_icmp_eq C.1 C.2.1 hd ht (fun q => absurd q hc) (fun _ => z)) (kf hc)
theorem rn_icmp_ne {x y : Int32} {off : Int} {t : Nat} (hd : decode mi.2.1 pc = .ok (.if_icmp .ne off, 3)) (ht : (pc : Int) + off = (t : Int)) (kt : x ≠ y → Rn h mi t ls st M Q) (kf : x = y → Rn h mi (pc + 3) ls st M Q) : Rn h mi pc ls (.int y :: .int x :: st) M Q := by
  by_cases hc : x = y
  · exact rn_0 (fun _ _ _ _ _ _ _ _ _ _ _ _ _ _ _ _ _ _ _ _ C _ _ _ _ z => lv_icmp_ne C.1 C.2.1 hd ht (fun q => absurd hc q) (fun _ => z)) (kf hc)
  · exact rn_0 (fun _ _ _ _ _ _ _ _ _ _ _ _ _ _ _ _ _ _ _ _ C _ _ _ _ z => lv_icmp_ne C.1 C.2.1 hd ht (fun _ => z) (fun q => absurd q hc)) (kt hc)
theorem rn_icmp_lt {x y : Int32} {off : Int} {t : Nat} (hd : decode mi.2.1 pc = .ok (.if_icmp .lt off, 3)) (ht : (pc : Int) + off = (t : Int)) (kt : x.toInt < y.toInt → Rn h mi t ls st M Q) (kf : y.toInt ≤ x.toInt → Rn h mi (pc + 3) ls st M Q) : Rn h mi pc ls (.int y :: .int x :: st) M Q := by
  by_cases hc : x < y
  · exact rn_0 (fun _ _ _ _ _ _ _ _ _ _ _ _ _ _ _ _ _ _ _ _ C _ _ _ _ z => lv_icmp_lt C.1 C.2.1 hd ht (fun _ => z) (fun q => absurd hc q)) (kt (by have q := hc; rw [Int32.lt_iff_toInt_lt] at q; omega))
  · exact rn_0 (fun _ _ _ _ _ _ _ _ _ _ _ _ _ _ _ _ _ _ _ _ C _ _ _ _ z => lv_icmp_lt C.1 C.2.1 hd ht (fun q => absurd q hc) (fun _ => z)) (kf (by have q := hc; rw [Int32.lt_iff_toInt_lt] at q; omega))
theorem rn_icmp_ge {x y : Int32} {off : Int} {t : Nat} (hd : decode mi.2.1 pc = .ok (.if_icmp .ge off, 3)) (ht : (pc : Int) + off = (t : Int)) (kt : y.toInt ≤ x.toInt → Rn h mi t ls st M Q) (kf : x.toInt < y.toInt → Rn h mi (pc + 3) ls st M Q) : Rn h mi pc ls (.int y :: .int x :: st) M Q := by
  by_cases hc : y ≤ x
  · exact rn_0 (fun _ _ _ _ _ _ _ _ _ _ _ _ _ _ _ _ _ _ _ _ C _ _ _ _ z => lv_icmp_ge C.1 C.2.1 hd ht (fun _ => z) (fun q => absurd hc q)) (kt (by have q := hc; rw [Int32.le_iff_toInt_le] at q; omega))
  · exact rn_0 (fun _ _ _ _ _ _ _ _ _ _ _ _ _ _ _ _ _ _ _ _ C _ _ _ _ z => lv_icmp_ge C.1 C.2.1 hd ht (fun q => absurd q hc) (fun _ => z)) (kf (by have q := hc; rw [Int32.le_iff_toInt_le] at q; omega))
theorem rn_icmp_gt {x y : Int32} {off : Int} {t : Nat} (hd : decode mi.2.1 pc = .ok (.if_icmp .gt off, 3)) (ht : (pc : Int) + off = (t : Int)) (kt : y.toInt < x.toInt → Rn h mi t ls st M Q) (kf : x.toInt ≤ y.toInt → Rn h mi (pc + 3) ls st M Q) : Rn h mi pc ls (.int y :: .int x :: st) M Q := by
  by_cases hc : y < x
  · exact rn_0 (fun _ _ _ _ _ _ _ _ _ _ _ _ _ _ _ _ _ _ _ _ C _ _ _ _ z => lv_icmp_gt C.1 C.2.1 hd ht (fun _ => z) (fun q => absurd hc q)) (kt (by have q := hc; rw [Int32.lt_iff_toInt_lt] at q; omega))
  · exact rn_0 (fun _ _ _ _ _ _ _ _ _ _ _ _ _ _ _ _ _ _ _ _ C _ _ _ _ z => lv_icmp_gt C.1 C.2.1 hd ht (fun q => absurd q hc) (fun _ => z)) (kf (by have q := hc; rw [Int32.lt_iff_toInt_lt] at q; omega))
theorem rn_icmp_le {x y : Int32} {off : Int} {t : Nat} (hd : decode mi.2.1 pc = .ok (.if_icmp .le off, 3)) (ht : (pc : Int) + off = (t : Int)) (kt : x.toInt ≤ y.toInt → Rn h mi t ls st M Q) (kf : y.toInt < x.toInt → Rn h mi (pc + 3) ls st M Q) : Rn h mi pc ls (.int y :: .int x :: st) M Q := by
  by_cases hc : x ≤ y
  · exact rn_0 (fun _ _ _ _ _ _ _ _ _ _ _ _ _ _ _ _ _ _ _ _ C _ _ _ _ z => lv_icmp_le C.1 C.2.1 hd ht (fun _ => z) (fun q => absurd hc q)) (kt (by have q := hc; rw [Int32.le_iff_toInt_le] at q; omega))
  · exact rn_0 (fun _ _ _ _ _ _ _ _ _ _ _ _ _ _ _ _ _ _ _ _ C _ _ _ _ z => lv_icmp_le C.1 C.2.1 hd ht (fun q => absurd q hc) (fun _ => z)) (kf (by have q := hc; rw [Int32.le_iff_toInt_le] at q; omega))
theorem rn_if_eq {x : Int32} {off : Int} {t : Nat} (hd : decode mi.2.1 pc = .ok (.ifCond .eq off, 3)) (ht : (pc : Int) + off = (t : Int)) (kt : x = 0 → Rn h mi t ls st M Q) (kf : x ≠ 0 → Rn h mi (pc + 3) ls st M Q) : Rn h mi pc ls (.int x :: st) M Q := by
  by_cases hc : x = 0
  · exact rn_0 (fun _ _ _ _ _ _ _ _ _ _ _ _ _ _ _ _ _ _ _ _ C _ _ _ _ z => lv_if_eq C.1 C.2.1 hd ht (fun _ => z) (fun q => absurd hc q)) (kt hc)
  · exact rn_0 (fun _ _ _ _ _ _ _ _ _ _ _ _ _ _ _ _ _ _ _ _ C _ _ _ _ z => lv_if_eq C.1 C.2.1 hd ht (fun q => absurd q hc) (fun _ => z)) (kf hc)
theorem rn_if_ne {x : Int32} {off : Int} {t : Nat} (hd : decode mi.2.1 pc = .ok (.ifCond .ne off, 3)) (ht : (pc : Int) + off = (t : Int)) (kt : x ≠ 0 → Rn h mi t ls st M Q) (kf : x = 0 → Rn h mi (pc + 3) ls st M Q) : Rn h mi pc ls (.int x :: st) M Q := by
  by_cases hc : x = 0
  · exact rn_0 (fun _ _ _ _ _ _ _ _ _ _ _ _ _ _ _ _ _ _ _ _ C _ _ _ _ z => lv_if_ne C.1 C.2.1 hd ht (fun q => absurd hc q) (fun _ => z)) (kf hc)
  · exact rn_0 (fun _ _ _ _ _ _ _ _ _ _ _ _ _ _ _ _ _ _ _ _ C _ _ _ _ z => lv_if_ne C.1 C.2.1 hd ht (fun _ => z) (fun q => absurd q hc)) (kt hc)
theorem rn_if_lt {x : Int32} {off : Int} {t : Nat} (hd : decode mi.2.1 pc = .ok (.ifCond .lt off, 3)) (ht : (pc : Int) + off = (t : Int)) (kt : x.toInt < (0 : Int) → Rn h mi t ls st M Q) (kf : (0 : Int) ≤ x.toInt → Rn h mi (pc + 3) ls st M Q) : Rn h mi pc ls (.int x :: st) M Q := by
  by_cases hc : x < 0
  · exact rn_0 (fun _ _ _ _ _ _ _ _ _ _ _ _ _ _ _ _ _ _ _ _ C _ _ _ _ z => lv_if_lt C.1 C.2.1 hd ht (fun _ => z) (fun q => absurd hc q)) (kt (by have q := hc; rw [Int32.lt_iff_toInt_lt, Int32.toInt_zero] at q; omega))
  · exact rn_0 (fun _ _ _ _ _ _ _ _ _ _ _ _ _ _ _ _ _ _ _ _ C _ _ _ _ z => lv_if_lt C.1 C.2.1 hd ht (fun q => absurd q hc) (fun _ => z)) (kf (by have q := hc; rw [Int32.lt_iff_toInt_lt, Int32.toInt_zero] at q; omega))
theorem rn_if_ge {x : Int32} {off : Int} {t : Nat} (hd : decode mi.2.1 pc = .ok (.ifCond .ge off, 3)) (ht : (pc : Int) + off = (t : Int)) (kt : (0 : Int) ≤ x.toInt → Rn h mi t ls st M Q) (kf : x.toInt < (0 : Int) → Rn h mi (pc + 3) ls st M Q) : Rn h mi pc ls (.int x :: st) M Q := by
  by_cases hc : 0 ≤ x
  · exact rn_0 (fun _ _ _ _ _ _ _ _ _ _ _ _ _ _ _ _ _ _ _ _ C _ _ _ _ z => lv_if_ge C.1 C.2.1 hd ht (fun _ => z) (fun q => absurd hc q)) (kt (by have q := hc; rw [Int32.le_iff_toInt_le, Int32.toInt_zero] at q; omega))
  · exact rn_0 (fun _ _ _ _ _ _ _ _ _ _ _ _ _ _ _ _ _ _ _ _ C _ _ _ _ z => lv_if_ge C.1 C.2.1 hd ht (fun q => absurd q hc) (fun _ => z)) (kf (by have q := hc; rw [Int32.le_iff_toInt_le, Int32.toInt_zero] at q; omega))
theorem rn_if_gt {x : Int32} {off : Int} {t : Nat} (hd : decode mi.2.1 pc = .ok (.ifCond .gt off, 3)) (ht : (pc : Int) + off = (t : Int)) (kt : (0 : Int) < x.toInt → Rn h mi t ls st M Q) (kf : x.toInt ≤ (0 : Int) → Rn h mi (pc + 3) ls st M Q) : Rn h mi pc ls (.int x :: st) M Q := by
  by_cases hc : 0 < x
  · exact rn_0 (fun _ _ _ _ _ _ _ _ _ _ _ _ _ _ _ _ _ _ _ _ C _ _ _ _ z => lv_if_gt C.1 C.2.1 hd ht (fun _ => z) (fun q => absurd hc q)) (kt (by have q := hc; rw [Int32.lt_iff_toInt_lt, Int32.toInt_zero] at q; omega))
  · exact rn_0 (fun _ _ _ _ _ _ _ _ _ _ _ _ _ _ _ _ _ _ _ _ C _ _ _ _ z => lv_if_gt C.1 C.2.1 hd ht (fun q => absurd q hc) (fun _ => z)) (kf (by have q := hc; rw [Int32.lt_iff_toInt_lt, Int32.toInt_zero] at q; omega))
theorem rn_if_le {x : Int32} {off : Int} {t : Nat} (hd : decode mi.2.1 pc = .ok (.ifCond .le off, 3)) (ht : (pc : Int) + off = (t : Int)) (kt : x.toInt ≤ (0 : Int) → Rn h mi t ls st M Q) (kf : (0 : Int) < x.toInt → Rn h mi (pc + 3) ls st M Q) : Rn h mi pc ls (.int x :: st) M Q := by
  by_cases hc : x ≤ 0
  · exact rn_0 (fun _ _ _ _ _ _ _ _ _ _ _ _ _ _ _ _ _ _ _ _ C _ _ _ _ z => lv_if_le C.1 C.2.1 hd ht (fun _ => z) (fun q => absurd hc q)) (kt (by have q := hc; rw [Int32.le_iff_toInt_le, Int32.toInt_zero] at q; omega))
  · exact rn_0 (fun _ _ _ _ _ _ _ _ _ _ _ _ _ _ _ _ _ _ _ _ C _ _ _ _ z => lv_if_le C.1 C.2.1 hd ht (fun q => absurd q hc) (fun _ => z)) (kf (by have q := hc; rw [Int32.le_iff_toInt_le, Int32.toInt_zero] at q; omega))
end RB
