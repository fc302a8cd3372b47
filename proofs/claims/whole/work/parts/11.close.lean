/-! the law's walk out of the pure run -/
def M00 (L : Nat) (xs : Nat → Int32) : pM := ([], fun _ _ => 0, fun _ _ => 0, fun _ _ => none, (L, xs))
def R_law : String := "NineCartsLaw"
def lw_P (b : Addr) (xs : List Int32) (args : Array Value) (s : State) : Prop := args = #[.ref b] ∧ s.IntsAt b xs ∧ xs.length ≤ 3072 ∧ (Jvm.Cond.and given_1 narrow_1).before args s = true
def lw_Q (_ : Array Value) (s : State) (o : Outcome) (t : State) : Prop := o = .returned (some (.int 1)) ∧ Framed s o t [] 600000 7302250
def lw_Z (below : List Frame) (a : Array Value) (s : State) : State → Prop := fun t => ∃ o, t.status = .running ∧ Ended t below o ∧ lw_Q a s o t
/-- the law's own end, with 1 on the stack, nothing written that was there before, its room as the claim has it -/
theorem lw_ret {p : Program} {l : Launch} {e : Env} {s : State} {m : MethodId} {below : List Frame} {meth : Method} {c : Code} {b : Nat} (hx : p.tables.exec = Jvm.exec) (hb : c.code = code) (hr : meth.sig.returnType = ret) (hlocks : meth.locks = false) {pc : Nat} {H : Heap} {ls : Array Slot} (hdg : decode code pc = .ok (.ireturn, 1)) : W p l e room_1 s m #[Value.ref b] below meth c H [] 600000 7302250 (lw_Z below #[Value.ref b] s) (F0 m pc ls [.int 1]) := by
  intro T hT X
  obtain ⟨fs, hret, hrun, hended, hW, hframe⟩ := X.leave (v := some (.int 1)) (hlocks := hlocks) (fun h => by rw [hr] at h; cases h)
  have hmeth' : T.vm.method? m = some meth := X.method'
  refine ⟨T.setFrames fs, ?_, .returned (some (.int 1)), hrun, hended, rfl, ⟨_, rfl⟩, hW, hframe⟩
  jvm_step X.here [X.here.top, hx, hb, hdg, hmeth', hr, ret, narrow_b1]
  (try refine ⟨rfl, ?_⟩); (try refine ⟨rfl, ?_⟩)
  first | (intro acts; rw [hret _ acts rfl rfl rfl]) | rw [hret _ _ rfl rfl rfl]
  exact Steps.refl _
/-- what holds at the law's entry: the machine, the code, the tables' words (any of lw_tbl by 'hts w (by decide +kernel)'), the script of L ints xs at the cell b, what the Statement gives of the start (any of its parts by flat_of_before) -/
def lw_At (p : Program) (s : State) (m : MethodId) (meth : Method) (c : Code) (b L : Nat) (xs : Nat → Int32) : Prop :=
  p.tables.exec = Jvm.exec ∧ c.code = code ∧ meth.sig.returnType = ret ∧ c.maxLocals = 4 ∧ s.vm.findClass R_law = some m.cls ∧ (∀ w ∈ lw_tbl, w.before #[Value.ref b] s = true) ∧ va_X b L xs s s.heap ∧ b < s.heap.size ∧ meth.locks = false ∧ (Jvm.Cond.and given_1 narrow_1).before #[Value.ref b] s = true
theorem cy_arr {s : State} {args : Array Value} {ty : FieldType} (ho : ∀ C, ty ≠ .object C) (h : (Cond.arrayClass ty).before args s = true) : ∃ c : ClassId, ArrOfT s c ty ∧ va_RA s c ty := by
  obtain ⟨c, k, comp, h1, h2, h3⟩ := Cond.arrayClass_spec h
  refine ⟨c, fun n z => ⟨fun k h => (by cases h), k, h2, comp, h3⟩, ?_⟩
  cases ty with
  | object C => exact absurd rfl (ho C)
  | _ => exact h1
theorem cy_obj {s : State} {args : Array Value} {C : String} (h : (Cond.arrayOver (.object C)).before args s = true) : ∃ c : ClassId, ArrOfT s c (.object C) ∧ va_RA s c (.object C) := by
  obtain ⟨comp, c, k, h1, h2, h3, h4, h5⟩ := Cond.arrayOver_spec h
  exact ⟨c, fun n z => ⟨fun k h => (by cases h), k, h3, comp, h4⟩, k, comp, h3, h4, h1, h5⟩
theorem cy_int {s : State} (h : va_AOI s) : ∃ c : ClassId, ArrOfT s c (.array .int) ∧ va_RA s c (.array .int) := by
  obtain ⟨comp, c, k, h1, h3, h4, h5⟩ := Cond.arrayOver_specA h
  exact ⟨c, fun n z => ⟨fun k h => (by cases h), k, h3, comp, h4⟩, h5⟩
theorem tab_T {s : State} {args : Array Value} {n : String} {N : Nat} {f : Nat → Int32} {b0 : Nat} (hb : b0 = s.heap.size) (hN : N < 2 ^ 31) (hl : (Cond.laysStatic "NineCarts$Acts" n "[I").before args s = true) (hini : (Cond.initialized "NineCarts$Acts").before args s = true) (ha : (Cond.arrayOf (.static "NineCarts$Acts" n "[I") .int).before args s = true) (hlen : (Cond.eq (.length (.static "NineCarts$Acts" n "[I")) (.int (Int32.ofNat N))).before args s = true)
    (hel : ∀ j, j < N → (Cond.eq (.elem (.static "NineCarts$Acts" n "[I") (.int (Int32.ofNat j))) (.int (f j))).before args s = true) : ∃ t : Nat, va_Z "NineCarts$Acts" n "[I" (.ref t) (fun q => b0 ≤ q) s s.heap ∧ va_T .int t N (fun j => .int (f j)) (fun q => b0 ≤ q) s s.heap := by
  have hA : ∀ a : Nat, a < s.heap.size → ¬ (fun q => b0 ≤ q) a := fun a ha => by show ¬ b0 ≤ a; omega
  obtain ⟨t, h1, h2⟩ := va_Tof (A := fun q => b0 ≤ q) (f := fun j => .int (f j)) hN ha (va_eqt hlen) (fun j hj => va_eqt (hel j hj)) hA
  exact ⟨t, va_Zref hl hini h1 hA, h2⟩
set_option maxRecDepth 100000 in
set_option maxHeartbeats 4000000 in
theorem whole_open (hrun : ∀ (L : Nat) (xs : Nat → Int32), L ≤ 3072 → Rn 500 mL_law 0 (entL [.ref 1000] 4) [] (M00 L xs) (fun r M' => r = some (.int 1) ∧ cnt M' ≤ 600000 ∧ slt M' ≤ 7302250))
    {p : Program} {e : Env} {s : State} {m : MethodId} {below : List Frame} {meth : Method} {c : Code} (l : Launch) {b L : Nat} {xs : Nat → Int32} (hL : L ≤ 3072) (C0 : lw_At p s m meth c b L xs) : W p l e room_1 s m #[Value.ref b] below meth c s.heap [] 0 0 (lw_Z below #[Value.ref b] s) (entryFrame m ([Value.ref b] : List Value).toArray 4) := by
  obtain ⟨hx, hb, hr, hml, hown, hts, hX, hbl, hlocks, hgv⟩ := id C0
  have hg : ∀ w ∈ gT, w.before #[Value.ref b] s = true := fun w hw => hts w (List.mem_filter.mp hw).1
  have hfl := flat_of_before _ hgv
  -- classes
  have hD : ∀ k : Nat, ∃ (cC : ClassId) (iS : Nat → Nat), ∀ q : vw_C, vwCl[k]? = some q → u_Kn s q.1 q.2.1 q.2.2 cC iS := by
    have go : ∀ ci : Nat, ClK ci → Cond.instantiable (match vwCl[ci]? with | some q => q.1 | none => "") (nF ci) ∈ gT → ∃ (cC : ClassId) (iS : Nat → Nat), ∀ q : vw_C, vwCl[ci]? = some q → u_Kn s q.1 q.2.1 q.2.2 cC iS := by
      intro ci hc hi
      obtain ⟨C, T, h1, h2, -, -⟩ := hc
      rw [h1] at hi
      obtain ⟨cC, iS, hk⟩ := u_known (C := C) (T := T) (N := nF ci) (n := nF ci) hg h2 (hg _ hi)
      refine ⟨cC, iS, fun q hq => ?_⟩
      rw [h1] at hq
      cases hq
      exact hk
    intro k
    match k with
    | 0 => exact go 0 kC_0 kI_0
    | 1 => exact go 1 kC_1 kI_1
    | 2 => exact go 2 kC_2 kI_2
    | 3 => exact go 3 kC_3 kI_3
    | 4 => exact go 4 kC_4 kI_4
    | 5 => exact go 5 kC_5 kI_5
    | 6 => exact go 6 kC_6 kI_6
    | 7 => exact go 7 kC_7 kI_7
    | 8 => exact go 8 kC_8 kI_8
    | 9 => exact go 9 kC_9 kI_9
    | 10 => exact go 10 kC_10 kI_10
    | 11 => exact go 11 kC_11 kI_11
    | 12 => exact go 12 kC_12 kI_12
    | k + 13 => exact ⟨0, fun _ => 0, fun q hq => by simp [vwCl] at hq⟩
  have hAO : AO4 s := ⟨va_AO.of (hts (.arrayOver (.object RX5)) (by decide +kernel)), va_AO.of (hts (.arrayOver (.object RX6)) (by decide +kernel)), va_AO.of (hts (.arrayOver (.object RX7)) (by decide +kernel)), hts (.arrayOver (.array .int)) (by decide +kernel)⟩
  obtain ⟨y0, hy0⟩ := cy_arr (ty := .int) (fun C h => by cases h) (hg _ ka_int)
  obtain ⟨y1, hy1⟩ := cy_arr (ty := .byte) (fun C h => by cases h) (hg _ ka_byte)
  obtain ⟨y2, hy2⟩ := cy_arr (ty := .short) (fun C h => by cases h) (hg _ ka_short)
  obtain ⟨y3, hy3⟩ := cy_arr (ty := .boolean) (fun C h => by cases h) (hg _ ka_boolean)
  obtain ⟨y4, hy4⟩ := cy_arr (ty := .long) (fun C h => by cases h) (hg _ ka_long)
  obtain ⟨y5, hy5⟩ := cy_int hAO.2.2.2
  obtain ⟨y6, hy6⟩ := cy_obj (va_AO.use (A := #[]) hAO.1)
  obtain ⟨y7, hy7⟩ := cy_obj (va_AO.use (A := #[]) hAO.2.1)
  obtain ⟨y8, hy8⟩ := cy_obj (va_AO.use (A := #[]) hAO.2.2.1)
  obtain ⟨tA, zA, tAt⟩ := tab_T (s := s) (n := "ABOVE") (N := 8) (f := fun j => tAB.getD j 0) rfl (by decide) (hts (.laysStatic "NineCarts$Acts" "ABOVE" "[I") (by decide +kernel)) (hts (.initialized "NineCarts$Acts") (by decide +kernel)) (hfl (.arrayOf (.static "NineCarts$Acts" "ABOVE" "[I") .int) (by decide +kernel)) (hfl (.eq (.length (.static "NineCarts$Acts" "ABOVE" "[I")) (.int (Int32.ofNat 8))) (by decide +kernel))
    (fun j hj => hfl _ ((show ∀ j, j < 8 → (Cond.eq (.elem (.static "NineCarts$Acts" "ABOVE" "[I") (.int (Int32.ofNat j))) (.int (tAB.getD j 0))) ∈ flatC (Jvm.Cond.and given_1 narrow_1) from by decide +kernel) j hj))
  obtain ⟨tB, zB, tBt⟩ := tab_T (s := s) (n := "BODIES") (N := 32) (f := fun j => tBD.getD j 0) rfl (by decide) (hts (.laysStatic "NineCarts$Acts" "BODIES" "[I") (by decide +kernel)) (hts (.initialized "NineCarts$Acts") (by decide +kernel)) (hfl (.arrayOf (.static "NineCarts$Acts" "BODIES" "[I") .int) (by decide +kernel)) (hfl (.eq (.length (.static "NineCarts$Acts" "BODIES" "[I")) (.int (Int32.ofNat 32))) (by decide +kernel))
    (fun j hj => hfl _ ((show ∀ j, j < 32 → (Cond.eq (.elem (.static "NineCarts$Acts" "BODIES" "[I") (.int (Int32.ofNat j))) (.int (tBD.getD j 0))) ∈ flatC (Jvm.Cond.and given_1 narrow_1) from by decide +kernel) j hj))
  have hK : va_K (fun k => Classical.choose (hD k), fun k => Classical.choose (Classical.choose_spec (hD k))) vwCl (tysOf (fun t => ([y0, y1, y2, y3, y4, y5, y6, y7, y8] : List ClassId).getD t 0)) s := by
    refine ⟨fun k q hq => Classical.choose_spec (Classical.choose_spec (hD k)) q hq, fun k q hq => ?_⟩
    match k with
    | 0 => cases hq; exact hy0
    | 1 => cases hq; exact hy1
    | 2 => cases hq; exact hy2
    | 3 => cases hq; exact hy3
    | 4 => cases hq; exact hy4
    | 5 => cases hq; exact hy5
    | 6 => cases hq; exact hy6
    | 7 => cases hq; exact hy7
    | 8 => cases hq; exact hy8
    | k + 9 => simp [tysOf, pTys] at hq
  obtain ⟨r, M', ⟨rfl, hc1, hs1⟩, c1, c2, c3, Y⟩ := hrun L xs hL
  have hl := lv_entry ([.ref b]) (n := 4) (Nat.le_of_ble_eq_true rfl)
  rw [lg_entry_eq]
  generalize (lg_sl ([.ref b]) ++ List.replicate (4 - (lg_sl ([.ref b])).length) Slot.unset).toArray = lsA at hl ⊢
  refine Y p l e room_1 s m #[Value.ref b] below meth c _ _ s.heap.size (fun a => if a = 1000 then b else if a = 1001 then tA else tB) s.heap [] 0 0 _ lsA ⟨hx, hb, hml, hr, hown, hg, hlocks, fun h => absurd h (by decide), hK, Nat.le_refl _, ⟨⟨hX, hbl⟩, ⟨zA, tAt⟩, ⟨zB, tBt⟩, hAO⟩, va_Nw.of rfl (hts nwW (by decide +kernel))⟩ (by decide) (by decide) ?_ ?_ ?_ va_S.rf ?_ ?_
  · show 0 + (cnt M' - 0) ≤ 600000; omega
  · show 0 + (slt M' - 0) ≤ 7302250; omega
  · exact ⟨fun k q h => by simp [pW, M00] at h, ⟨fun i j p q h => by simp [pW, M00] at h, fun k q h => by simp [pW, M00] at h⟩, fun a _ => ⟨fun _ => rfl, fun _ => rfl, fun _ => rfl⟩, fun a k b h => by cases h⟩
  · refine ⟨hl.1, hl.2.1, fun i v hv => ?_⟩
    match i with
    | 0 => cases hv; exact hl.2.2 (0, .ref b) List.mem_cons_self
    | 1 => cases hv
    | 2 => cases hv
    | 3 => cases hv
    | i + 4 => cases hv
  · intro H' locs' α' pc' lsA' hret hα hW' hS'
    rcases hret with ⟨v, ty, e1, hd, -⟩ | ⟨v, e1, -⟩ | ⟨e1, -⟩
    · cases e1
      refine va_forget (fun q hq => hS'.2.2 q hq) ?_
      refine W.widen (k := 600000) (n := 7302250) (by show 0 + (cnt M' - 0) ≤ 600000; omega) (by show 0 + (slt M' - 0) ≤ 7302250; omega) ?_
      exact lw_ret hx hb hr hlocks hd
    · cases e1
    · cases e1
