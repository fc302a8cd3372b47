/-! stores, fields, statics, the script -/
theorem up1_ok {f : Nat → Option Nat} {k t n : Nat} (ht : t < n) (hf : ∀ j b, f j = some b → b < n) : ∀ j b, up1 f k (some t) j = some b → b < n := by
  intro j b hb
  by_cases hj : j = k
  · simp only [up1, hj, if_true] at hb
    cases hb
    exact ht
  · simp only [up1, if_neg hj] at hb
    exact hf j b hb
section RS
variable {h : Nat} {mi : MI} {pc : Nat} {ls : List (Option Value)} {st : List Value} {hs : List pHd} {I : Nat → Nat → Int32} {J : Nat → Nat → Int64} {R : Nat → Nat → Option Nat} {X : pX} {Q : Option Value → pM → Prop} {a n : Nat} {i x : Int32}
theorem hlt_of {a : Nat} {q : pHd} (hh : hs[a]? = some q) : a < hs.length := (List.getElem?_eq_some_iff.mp hh).1
theorem ce1 {cy : Nat → ClassId} {α : Nat → Nat} {t : Nat} {g : Nat → Int32} : (.inl (cy t, n, .inl g) : va_E) = cellE cy α (upA I a g) J R a (1, t, n) := by simp [cellE, upA]
theorem ce2 {cy : Nat → ClassId} {α : Nat → Nat} {t : Nat} {g : Nat → Int64} : (.inl (cy t, n, .inr (.inl g)) : va_E) = cellE cy α I (upA J a g) R a (2, t, n) := by simp [cellE, upA]
theorem ce3 {cy : Nat → ClassId} {α : Nat → Nat} {t : Nat} {g : Nat → Option Nat} : (.inl (cy t, n, .inr (.inr (.inr (.inr (fun k => (g k).map α))))) : va_E) = cellE cy α I J (upA R a g) a (3, t, n) := by simp [cellE, upA]
theorem rn_iastore (hd : decode mi.2.1 pc = .ok (.iastore, 1)) (hh : hs[a]? = some (1, 0, n)) (hi : 0 ≤ i.toInt ∧ i.toInt < n) (k : Rn h mi (pc + 1) ls st (hs, upA I a (up1 (I a) i.toInt.toNat x), J, R, X) Q) : Rn h mi pc ls (.int x :: .int i :: .ref a :: st) (hs, I, J, R, X) Q := by
  refine rn_M (fun _ _ _ _ _ _ _ _ _ _ _ cy _ α _ _ _ _ _ _ C Wh S _ _ z => ?_) (fun hz => (pZ_up (hlt_of hh) hz).1 _) k
  refine va_iast C.1 C.2.1 C.2.2.2.2.2.2.2.2.1 Wh.1 Wh.2.1 S a 0 (pW_get hh) (tys_at rfl) (pin_of hi) hd (fun H1 locs1 hP hD hS => ?_)
  rw [show (.inl (cy 0, n, .inl (upd (I a) i.toNatClampNeg x)) : va_E) = cellE cy α (upA I a (up1 (I a) i.toInt.toNat x)) J R a (1, 0, n) from ce1, pW_set hh (fun b hb => ⟨upA_ne hb, rfl, rfl⟩)] at hP hD
  exact z H1 locs1 hP hD hS
theorem rn_bastore (hd : decode mi.2.1 pc = .ok (.bastore, 1)) (hh : hs[a]? = some (1, 1, n)) (hi : 0 ≤ i.toInt ∧ i.toInt < n) (k : Rn h mi (pc + 1) ls st (hs, upA I a (up1 (I a) i.toInt.toNat x.toInt8.toInt32), J, R, X) Q) : Rn h mi pc ls (.int x :: .int i :: .ref a :: st) (hs, I, J, R, X) Q := by
  refine rn_M (fun _ _ _ _ _ _ _ _ _ _ _ cy _ α _ _ _ _ _ _ C Wh S _ _ z => ?_) (fun hz => (pZ_up (hlt_of hh) hz).1 _) k
  refine va_bast C.1 C.2.1 C.2.2.2.2.2.2.2.2.1 Wh.1 Wh.2.1 S a 1 (pW_get hh) (tys_at rfl) (pin_of hi) hd (fun H1 locs1 hP hD hS => ?_)
  rw [vp_nar_byte, show (.inl (cy 1, n, .inl (upd (I a) i.toNatClampNeg x.toInt8.toInt32)) : va_E) = cellE cy α (upA I a (up1 (I a) i.toInt.toNat x.toInt8.toInt32)) J R a (1, 1, n) from ce1, pW_set hh (fun b hb => ⟨upA_ne hb, rfl, rfl⟩)] at hP hD
  exact z H1 locs1 hP hD hS
theorem rn_sastore (hd : decode mi.2.1 pc = .ok (.sastore, 1)) (hh : hs[a]? = some (1, 2, n)) (hi : 0 ≤ i.toInt ∧ i.toInt < n) (k : Rn h mi (pc + 1) ls st (hs, upA I a (up1 (I a) i.toInt.toNat x.toInt16.toInt32), J, R, X) Q) : Rn h mi pc ls (.int x :: .int i :: .ref a :: st) (hs, I, J, R, X) Q := by
  refine rn_M (fun _ _ _ _ _ _ _ _ _ _ _ cy _ α _ _ _ _ _ _ C Wh S _ _ z => ?_) (fun hz => (pZ_up (hlt_of hh) hz).1 _) k
  refine va_sast C.1 C.2.1 C.2.2.2.2.2.2.2.2.1 Wh.1 Wh.2.1 S a 2 (pW_get hh) (tys_at rfl) (pin_of hi) hd (fun H1 locs1 hP hD hS => ?_)
  rw [vp_nar_short, show (.inl (cy 2, n, .inl (upd (I a) i.toNatClampNeg x.toInt16.toInt32)) : va_E) = cellE cy α (upA I a (up1 (I a) i.toInt.toNat x.toInt16.toInt32)) J R a (1, 2, n) from ce1, pW_set hh (fun b hb => ⟨upA_ne hb, rfl, rfl⟩)] at hP hD
  exact z H1 locs1 hP hD hS
theorem rn_zastore (hd : decode mi.2.1 pc = .ok (.bastore, 1)) (hh : hs[a]? = some (1, 3, n)) (hi : 0 ≤ i.toInt ∧ i.toInt < n) (hx : vp_nar .boolean x = x) (k : Rn h mi (pc + 1) ls st (hs, upA I a (up1 (I a) i.toInt.toNat x), J, R, X) Q) : Rn h mi pc ls (.int x :: .int i :: .ref a :: st) (hs, I, J, R, X) Q := by
  refine rn_M (fun _ _ _ _ _ _ _ _ _ _ _ cy _ α _ _ _ _ _ _ C Wh S _ _ z => ?_) (fun hz => (pZ_up (hlt_of hh) hz).1 _) k
  refine va_zast C.1 C.2.1 C.2.2.2.2.2.2.2.2.1 Wh.1 Wh.2.1 S a 3 (pW_get hh) (tys_at rfl) (pin_of hi) hd (fun H1 locs1 hP hD hS => ?_)
  rw [hx, show (.inl (cy 3, n, .inl (upd (I a) i.toNatClampNeg x)) : va_E) = cellE cy α (upA I a (up1 (I a) i.toInt.toNat x)) J R a (1, 3, n) from ce1, pW_set hh (fun b hb => ⟨upA_ne hb, rfl, rfl⟩)] at hP hD
  exact z H1 locs1 hP hD hS
theorem rn_lastore {y : Int64} (hd : decode mi.2.1 pc = .ok (.lastore, 1)) (hh : hs[a]? = some (2, 4, n)) (hi : 0 ≤ i.toInt ∧ i.toInt < n) (k : Rn h mi (pc + 1) ls st (hs, I, upA J a (up1 (J a) i.toInt.toNat y), R, X) Q) : Rn h mi pc ls (.long y :: .int i :: .ref a :: st) (hs, I, J, R, X) Q := by
  refine rn_M (fun _ _ _ _ _ _ _ _ _ _ _ cy _ α _ _ _ _ _ _ C Wh S _ _ z => ?_) (fun hz => (pZ_up (hlt_of hh) hz).2.1 _) k
  refine va_last C.1 C.2.1 C.2.2.2.2.2.2.2.2.1 Wh.1 Wh.2.1 S a 4 (pW_get hh) (tys_at rfl) (pin_of hi) hd (fun H1 locs1 hP hD hS => ?_)
  rw [show (.inl (cy 4, n, .inr (.inl (vp_updL (J a) i.toNatClampNeg y))) : va_E) = cellE cy α I (upA J a (up1 (J a) i.toInt.toNat y)) R a (2, 4, n) from ce2, pW_set hh (fun b hb => ⟨rfl, upA_ne hb, rfl⟩)] at hP hD
  exact z H1 locs1 hP hD hS
theorem rn_alen {q : pHd} {t : Nat} (hd : decode mi.2.1 pc = .ok (.arraylength, 1)) (hh : hs[a]? = some (t + 1, q.1, n)) (ht : t < 2) (hq : q.1 < 5) (k : Rn h mi (pc + 1) ls (.int (Int32.ofNat n) :: st) (hs, I, J, R, X) Q) : Rn h mi pc ls (.ref a :: st) (hs, I, J, R, X) Q := by
  obtain ⟨ty, hty⟩ : ∃ ty, pTys[q.1]? = some ty := by
    rcases (show q.1 = 0 ∨ q.1 = 1 ∨ q.1 = 2 ∨ q.1 = 3 ∨ q.1 = 4 by omega) with e | e | e | e | e <;> rw [e] <;> exact ⟨_, rfl⟩
  rcases (show t = 0 ∨ t = 1 by omega) with rfl | rfl
  · exact rn_0 (fun _ _ _ _ _ _ _ _ _ _ _ _ _ _ _ _ _ _ _ _ C Wh _ _ _ z => va_alen (x := (n, .inl (I a))) C.1 C.2.1 C.2.2.2.2.2.2.2.2.1 Wh.1 a q.1 (pW_get hh) (tys_at hty) rfl hd z) k
  · exact rn_0 (fun _ _ _ _ _ _ _ _ _ _ _ _ _ _ _ _ _ _ _ _ C Wh _ _ _ z => va_alen (x := (n, .inr (.inl (J a)))) C.1 C.2.1 C.2.2.2.2.2.2.2.2.1 Wh.1 a q.1 (pW_get hh) (tys_at hty) rfl hd z) k
/-! fields -/
def ClK (ci : Nat) : Prop := ∃ C T, vwCl[ci]? = some (C, T, nF ci) ∧ (∀ w ∈ u_ws C T (nF ci), w ∈ gT) ∧ (∀ k, k < nF ci → parseFieldDescriptor (T k).2.2.1 = some (fTy ci k)) ∧ ∀ a, a < nF ci → ∀ b, b < nF ci → a ≠ b → (T a).2.1 ≠ (T b).2.1
/-- entry idx of class own's pool is field k of class ci; fin: it is final -/
def FlK (own : String) (idx ci k : Nat) (fin : Bool) : Prop := ClK ci ∧ k < nF ci ∧ ∀ C T N, vwCl[ci]? = some (C, T, N) → (Cond.fieldLink own idx (T k).1 (T k).2.1 (T k).2.2.1 ∈ gT ∧ (T k).2.2.2 = fin ∧ (fin = true → (T k).1 = own))
/-- the same, to read it -/
def FlR (own : String) (idx ci k : Nat) : Prop := ClK ci ∧ k < nF ci ∧ ∀ C T N, vwCl[ci]? = some (C, T, N) → Cond.fieldLink own idx (T k).1 (T k).2.1 (T k).2.2.1 ∈ gT
theorem fV_at {α : Nat → Nat} {ci k : Nat} (hk : k < nF ci) : ((List.range (nF ci)).map (fV α I R a ci))[k]? = some (fV α I R a ci k) := by
  rw [List.getElem?_map, List.getElem?_range hk]; rfl
theorem rn_getI {idx ci k : Nat} {z : Nat} (hd : decode mi.2.1 pc = .ok (.getfield idx, 3)) (F : FlR mi.1.cls idx ci k) (hh : hs[a]? = some (0, ci, z)) (hr : (fTy ci k).isReference = false) (kk : Rn h mi (pc + 3) ls (.int (I a k) :: st) (hs, I, J, R, X) Q) : Rn h mi pc ls (.ref a :: st) (hs, I, J, R, X) Q := by
  obtain ⟨⟨CC, T, hc, hin, -, -⟩, hk, hF⟩ := F
  refine rn_0 (fun _ _ _ _ _ _ args _ _ _ _ _ _ α _ _ _ _ _ _ C Wh _ _ _ z => ?_) kk
  refine va_get C.1 C.2.1 C.2.2.2.2.2.1 hin C.2.2.2.2.1 C.2.2.2.2.2.2.2.2.1 Wh.1 a (pW_get hh) hc k hk (C.2.2.2.2.2.1 _ (hF _ _ _ hc)) (fun _ q => q) (fV_at hk) hd ?_
  rw [show fV α I R a ci k = .int (I a k) from by unfold fV; rw [hr]; rfl]
  exact z
theorem rn_getR {idx ci k t : Nat} {z : Nat} (hd : decode mi.2.1 pc = .ok (.getfield idx, 3)) (F : FlR mi.1.cls idx ci k) (hh : hs[a]? = some (0, ci, z)) (hr : (fTy ci k).isReference = true) (hR : R a k = some t) (kk : Rn h mi (pc + 3) ls (.ref t :: st) (hs, I, J, R, X) Q) : Rn h mi pc ls (.ref a :: st) (hs, I, J, R, X) Q := by
  obtain ⟨⟨CC, T, hc, hin, -, -⟩, hk, hF⟩ := F
  refine rn_0 (fun _ _ _ _ _ _ args _ _ _ _ _ _ α _ _ _ _ _ _ C Wh _ _ _ z => ?_) kk
  refine va_get C.1 C.2.1 C.2.2.2.2.2.1 hin C.2.2.2.2.1 C.2.2.2.2.2.2.2.2.1 Wh.1 a (pW_get hh) hc k hk (C.2.2.2.2.2.1 _ (hF _ _ _ hc)) (fun _ q => q) (fV_at hk) hd ?_
  rw [show fV α I R a ci k = re α (.ref t) from by unfold fV; rw [hr, hR]; rfl]
  exact z
theorem fs_setI {α : Nat → Nat} {ci k : Nat} (hr : (fTy ci k).isReference = false) : ((List.range (nF ci)).map (fV α I R a ci)).set k (.int x) = (List.range (nF ci)).map (fV α (upA I a (up1 (I a) k x)) R a ci) := by
  apply List.ext_getElem?
  intro j
  by_cases hj : j = k
  · subst hj
    by_cases hl : j < nF ci
    · rw [List.getElem?_set_self (by simpa using hl), List.getElem?_map, List.getElem?_range hl]
      simp [fV, hr, upA, up1]
    · rw [List.getElem?_eq_none (by simp; omega), List.getElem?_eq_none (by simp; omega)]
  · rw [List.getElem?_set_ne (Ne.symm hj), List.getElem?_map, List.getElem?_map]
    by_cases hl : j < nF ci
    · rw [List.getElem?_range hl]
      simp [fV, upA, up1, hj]
    · rw [List.getElem?_eq_none (by simp; omega)]; rfl
theorem fs_setR {α : Nat → Nat} {ci k : Nat} {v : Option Nat} (hr : (fTy ci k).isReference = true) : ((List.range (nF ci)).map (fV α I R a ci)).set k (va_rf (v.map α)) = (List.range (nF ci)).map (fV α I (upA R a (up1 (R a) k v)) a ci) := by
  apply List.ext_getElem?
  intro j
  by_cases hj : j = k
  · subst hj
    by_cases hl : j < nF ci
    · rw [List.getElem?_set_self (by simpa using hl), List.getElem?_map, List.getElem?_range hl]
      simp [fV, hr, upA, up1]
    · rw [List.getElem?_eq_none (by simp; omega), List.getElem?_eq_none (by simp; omega)]
  · rw [List.getElem?_set_ne (Ne.symm hj), List.getElem?_map, List.getElem?_map]
    by_cases hl : j < nF ci
    · rw [List.getElem?_range hl]
      simp [fV, upA, up1, hj]
    · rw [List.getElem?_eq_none (by simp; omega)]; rfl
theorem ce0 {cy : Nat → ClassId} {α : Nat → Nat} {ci z : Nat} : (.inr (ci, (List.range (nF ci)).map (fV α I R a ci)) : va_E) = cellE cy α I J R a (0, ci, z) := rfl
theorem rn_putI {idx ci k : Nat} {zz : Nat} (hd : decode mi.2.1 pc = .ok (.putfield idx, 3)) (F : FlK mi.1.cls idx ci k false) (hh : hs[a]? = some (0, ci, zz)) (hr : (fTy ci k).isReference = false) (hv : narrow (fTy ci k) (.int x) = .int x ∧ fits (fTy ci k) (.int x) = true) (kk : Rn h mi (pc + 3) ls st (hs, upA I a (up1 (I a) k x), J, R, X) Q) : Rn h mi pc ls (.int x :: .ref a :: st) (hs, I, J, R, X) Q := by
  obtain ⟨⟨CC, T, hc, hin, hty, hnm⟩, hk, hF⟩ := F
  refine rn_M (fun _ _ _ _ _ _ _ _ _ _ _ cy _ α _ _ _ _ _ _ C Wh S _ _ z => ?_) (fun hz => (pZ_up (hlt_of hh) hz).1 _) kk
  refine va_put C.1 C.2.1 C.2.2.2.2.2.1 hin (fTy ci) hty hnm C.2.2.2.2.1 C.2.2.2.2.2.2.2.2.1 Wh.1 Wh.2.1 S a (pW_get hh) hc k hk (C.2.2.2.2.2.1 _ (hF _ _ _ hc).1) (fun _ q => q) (hF _ _ _ hc).2.1 (hty k hk) hv.1 hv.2 (by simpa using hk) hd (fun H1 locs1 hP hD hS => ?_)
  dsimp only [re] at hP hD
  rw [fs_setI hr, ce0 (cy := cy) (J := J) (z := zz), pW_set hh (fun b hb => ⟨upA_ne hb, rfl, rfl⟩)] at hP hD
  exact z H1 locs1 hP hD hS
theorem rn_putR {idx ci k t : Nat} {zz : Nat} (hd : decode mi.2.1 pc = .ok (.putfield idx, 3)) (F : FlK mi.1.cls idx ci k true) (hi : mi.1.name = "<init>") (ht : t < hs.length) (hh : hs[a]? = some (0, ci, zz)) (hr : (fTy ci k).isReference = true) (hv : ∀ q, narrow (fTy ci k) (.ref q) = .ref q ∧ fits (fTy ci k) (.ref q) = true) (kk : Rn h mi (pc + 3) ls st (hs, I, J, upA R a (up1 (R a) k (some t)), X) Q) : Rn h mi pc ls (.ref t :: .ref a :: st) (hs, I, J, R, X) Q := by
  obtain ⟨⟨CC, T, hc, hin, hty, hnm⟩, hk, hF⟩ := F
  refine rn_M (fun _ _ _ _ _ _ _ _ _ _ _ cy _ α _ _ _ _ _ _ C Wh S _ _ z => ?_) (fun hz => (pZ_up (hlt_of hh) hz).2.2 _ (up1_ok ht (hz.2 a))) kk
  refine va_putF C.1 C.2.1 C.2.2.2.2.2.1 hin (fTy ci) hty hnm C.2.2.2.2.1 C.2.2.2.2.2.2.2.2.1 Wh.1 Wh.2.1 S a (pW_get hh) hc k hk (C.2.2.2.2.2.1 _ (hF _ _ _ hc).1) (fun _ q => q) (hF _ _ _ hc).2.1 ((C.2.2.2.2.2.2.2.1 hi).trans hi) ((hF _ _ _ hc).2.2 rfl) (hty k hk) (hv _).1 (hv _).2 (by simpa using hk) hd (fun H1 locs1 hP hD hS => ?_)
  dsimp only [re] at hP hD
  rw [show (Value.ref (α t)) = va_rf ((some t).map α) from rfl, fs_setR hr, ce0 (cy := cy) (J := J) (z := zz), pW_set hh (fun b hb => ⟨rfl, rfl, upA_ne hb⟩)] at hP hD
  exact z H1 locs1 hP hD hS
/-! statics and the script -/
theorem rn_gets0 {idx : Nat} (hd : decode mi.2.1 pc = .ok (.getstatic idx, 3)) (hw : Cond.fieldLink mi.1.cls idx "NineCarts$Acts" "ABOVE" "[I" ∈ gT) (kk : Rn h mi (pc + 3) ls (.ref 1001 :: st) (hs, I, J, R, X) Q) : Rn h mi pc ls st (hs, I, J, R, X) Q :=
  rn_0 (fun _ _ _ _ _ _ _ _ _ _ _ _ _ _ _ _ _ _ _ _ C _ S _ _ z => va_gets C.1 C.2.1 C.2.2.2.2.2.2.2.2.2.2.1.2.1.1 S C.2.2.2.2.1 (C.2.2.2.2.2.1 _ hw) (fun _ q => q) hd z) kk
theorem rn_gets1 {idx : Nat} (hd : decode mi.2.1 pc = .ok (.getstatic idx, 3)) (hw : Cond.fieldLink mi.1.cls idx "NineCarts$Acts" "BODIES" "[I" ∈ gT) (kk : Rn h mi (pc + 3) ls (.ref 1002 :: st) (hs, I, J, R, X) Q) : Rn h mi pc ls st (hs, I, J, R, X) Q :=
  rn_0 (fun _ _ _ _ _ _ _ _ _ _ _ _ _ _ _ _ _ _ _ _ C _ S _ _ z => va_gets C.1 C.2.1 C.2.2.2.2.2.2.2.2.2.2.1.2.2.1.1 S C.2.2.2.2.1 (C.2.2.2.2.2.1 _ hw) (fun _ q => q) hd z) kk
theorem rn_tld0 (hd : decode mi.2.1 pc = .ok (.iaload, 1)) (hi : 0 ≤ i.toInt ∧ i.toInt < 8) (kk : Rn h mi (pc + 1) ls (.int (tAB.getD i.toInt.toNat 0) :: st) (hs, I, J, R, X) Q) : Rn h mi pc ls (.int i :: .ref 1001 :: st) (hs, I, J, R, X) Q :=
  rn_0 (fun _ _ _ _ _ _ _ _ _ _ _ _ _ _ _ _ _ _ _ _ C _ S _ _ z => va_ti C.1 C.2.1 C.2.2.2.2.2.2.2.2.2.2.1.2.1.2 S (pin_of (n := 8) hi) rfl hd z) kk
theorem rn_tld1 (hd : decode mi.2.1 pc = .ok (.iaload, 1)) (hi : 0 ≤ i.toInt ∧ i.toInt < 32) (kk : Rn h mi (pc + 1) ls (.int (tBD.getD i.toInt.toNat 0) :: st) (hs, I, J, R, X) Q) : Rn h mi pc ls (.int i :: .ref 1002 :: st) (hs, I, J, R, X) Q :=
  rn_0 (fun _ _ _ _ _ _ _ _ _ _ _ _ _ _ _ _ _ _ _ _ C _ S _ _ z => va_ti C.1 C.2.1 C.2.2.2.2.2.2.2.2.2.2.1.2.2.1.2 S (pin_of (n := 32) hi) rfl hd z) kk
theorem rn_sld (hd : decode mi.2.1 pc = .ok (.iaload, 1)) (hi : 0 ≤ i.toInt ∧ i.toInt < X.1) (kk : Rn h mi (pc + 1) ls (.int (X.2 i.toInt.toNat) :: st) (hs, I, J, R, X) Q) : Rn h mi pc ls (.int i :: .ref 1000 :: st) (hs, I, J, R, X) Q :=
  rn_0 (fun _ _ _ _ s _ _ _ _ _ _ _ b0 α _ _ _ _ _ _ C _ S _ _ z => va_sld C.1 C.2.1 C.2.2.2.2.2.2.2.2.2.2.1.1.1 (by have h1 := C.2.2.2.2.2.2.2.2.2.2.1.1.2; have h2 := C.2.2.2.2.2.2.2.2.2.1; omega) (by have h1 := C.2.2.2.2.2.2.2.2.2.2.1.1.2; omega) S (pin_of hi) hd z) kk
theorem rn_slen (hd : decode mi.2.1 pc = .ok (.arraylength, 1)) (kk : Rn h mi (pc + 1) ls (.int (Int32.ofNat X.1) :: st) (hs, I, J, R, X) Q) : Rn h mi pc ls (.ref 1000 :: st) (hs, I, J, R, X) Q :=
  rn_0 (fun _ _ _ _ s _ _ _ _ _ _ _ b0 α _ _ _ _ _ _ C _ S _ _ z => va_slen C.1 C.2.1 C.2.2.2.2.2.2.2.2.2.2.1.1.1 (by have h1 := C.2.2.2.2.2.2.2.2.2.2.1.1.2; have h2 := C.2.2.2.2.2.2.2.2.2.1; omega) (by have h1 := C.2.2.2.2.2.2.2.2.2.2.1.1.2; omega) S hd z) kk
/-! System.arraycopy -/
def AcK (own : String) (idx : Nat) : Prop := Cond.methodLink own idx arraycopyName ∈ gT ∧ Cond.native arraycopyName ∈ gT ∧ Cond.static arraycopyName ∈ gT ∧ Cond.initialized "java/lang/System" ∈ gT
theorem rn_copyi {idx b n2 : Nat} {sp dp len : Int32} (h1 : 1 ≤ h) (hd : decode mi.2.1 pc = .ok (.invokestatic idx, 3)) (K : AcK mi.1.cls idx) (ha : hs[a]? = some (1, 0, n)) (hb : hs[b]? = some (1, 0, n2)) (hst : (st.map fun v => v.category).sum ≤ 8)
    (hsp : 0 ≤ sp.toInt ∧ 0 ≤ dp.toInt ∧ 0 ≤ len.toInt ∧ sp.toInt + len.toInt ≤ n ∧ dp.toInt + len.toInt ≤ n2) (kk : Rn h mi (pc + 3) ls st (hs, upA I b (va_cpy (I a) (I b) sp.toInt.toNat dp.toInt.toNat len.toInt.toNat), J, R, X) Q) : Rn h mi pc ls (.int len :: .int dp :: .ref b :: .int sp :: .ref a :: st) (hs, I, J, R, X) Q := by
  have nn : ∀ z : Int32, 0 ≤ z.toInt → ¬ z < 0 := fun z hz q => by
    rw [Int32.lt_iff_toInt_lt, Int32.toInt_zero] at q; omega
  refine rn_M (fun _ _ _ _ _ _ _ _ _ _ _ cy _ α _ _ _ _ _ _ C Wh S L HR z => ?_) (fun hz => (pZ_up (hlt_of hb) hz).1 _) kk
  have w := C.2.2.2.2.2.1
  refine va_copyi C.1 C.2.1 (by rw [C.2.2.1, L.1]) C.2.2.2.2.1 (w _ K.1) (w _ K.2.1) (w _ K.2.2.1) (w _ K.2.2.2) C.2.2.2.2.2.2.2.2.1 Wh.1 Wh.2.1 S a b 0 0 (pW_get ha) (pW_get hb) (tys_at rfl) (tys_at rfl) rfl (nn _ hsp.1) (nn _ hsp.2.1) (nn _ hsp.2.2.1) (by show sp.toInt.toNat + len.toInt.toNat ≤ n; omega) (by show dp.toInt.toNat + len.toInt.toNat ≤ n2; omega) (fun _ _ => rfl) (HR h1).1 ?_ hd (fun H1 locs1 hP hD hS => ?_)
  · have h2 := (HR h1).2
    have h3 : ((st.map (re α)).map fun v => v.category).sum = (st.map fun v => v.category).sum := by
      rw [List.map_map]; congr 1; apply List.map_congr_left; intro v _; exact re_cat α v
    have h4 : nativeFrameWords "java/lang/System" "arraycopy" 5 ≤ 40 := by decide
    omega
  · rw [show (.inl (cy 0, n2, .inl (va_cpy (I a) (I b) sp.toNatClampNeg dp.toNatClampNeg len.toNatClampNeg)) : va_E) = cellE cy α (upA I b (va_cpy (I a) (I b) sp.toInt.toNat dp.toInt.toNat len.toInt.toNat)) J R b (1, 0, n2) from ce1, pW_set hb (fun b hb => ⟨upA_ne hb, rfl, rfl⟩)] at hP hD
    exact z H1 locs1 hP hD hS
theorem rn_copyl {idx b n2 : Nat} {sp dp len : Int32} (h1 : 1 ≤ h) (hd : decode mi.2.1 pc = .ok (.invokestatic idx, 3)) (K : AcK mi.1.cls idx) (ha : hs[a]? = some (2, 4, n)) (hb : hs[b]? = some (2, 4, n2)) (hst : (st.map fun v => v.category).sum ≤ 8)
    (hsp : 0 ≤ sp.toInt ∧ 0 ≤ dp.toInt ∧ 0 ≤ len.toInt ∧ sp.toInt + len.toInt ≤ n ∧ dp.toInt + len.toInt ≤ n2) (kk : Rn h mi (pc + 3) ls st (hs, I, upA J b (va_cpy (J a) (J b) sp.toInt.toNat dp.toInt.toNat len.toInt.toNat), R, X) Q) : Rn h mi pc ls (.int len :: .int dp :: .ref b :: .int sp :: .ref a :: st) (hs, I, J, R, X) Q := by
  have nn : ∀ z : Int32, 0 ≤ z.toInt → ¬ z < 0 := fun z hz q => by
    rw [Int32.lt_iff_toInt_lt, Int32.toInt_zero] at q; omega
  refine rn_M (fun _ _ _ _ _ _ _ _ _ _ _ cy _ α _ _ _ _ _ _ C Wh S L HR z => ?_) (fun hz => (pZ_up (hlt_of hb) hz).2.1 _) kk
  have w := C.2.2.2.2.2.1
  refine va_copyl C.1 C.2.1 (by rw [C.2.2.1, L.1]) C.2.2.2.2.1 (w _ K.1) (w _ K.2.1) (w _ K.2.2.1) (w _ K.2.2.2) C.2.2.2.2.2.2.2.2.1 Wh.1 Wh.2.1 S a b 4 4 (pW_get ha) (pW_get hb) (tys_at rfl) (tys_at rfl) rfl (nn _ hsp.1) (nn _ hsp.2.1) (nn _ hsp.2.2.1) (by show sp.toInt.toNat + len.toInt.toNat ≤ n; omega) (by show dp.toInt.toNat + len.toInt.toNat ≤ n2; omega) (fun _ _ => rfl) (HR h1).1 ?_ hd (fun H1 locs1 hP hD hS => ?_)
  · have h2 := (HR h1).2
    have h3 : ((st.map (re α)).map fun v => v.category).sum = (st.map fun v => v.category).sum := by
      rw [List.map_map]; congr 1; apply List.map_congr_left; intro v _; exact re_cat α v
    have h4 : nativeFrameWords "java/lang/System" "arraycopy" 5 ≤ 40 := by decide
    omega
  · rw [show (.inl (cy 4, n2, .inr (.inl (va_cpy (J a) (J b) sp.toNatClampNeg dp.toNatClampNeg len.toNatClampNeg))) : va_E) = cellE cy α I (upA J b (va_cpy (J a) (J b) sp.toInt.toNat dp.toInt.toNat len.toInt.toNat)) R b (2, 4, n2) from ce2, pW_set hb (fun b hb => ⟨rfl, upA_ne hb, rfl⟩)] at hP hD
    exact z H1 locs1 hP hD hS
end RS
