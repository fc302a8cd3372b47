/-! how a text is read: a state is (place, fault, steps); the tape T of length L -/
abbrev PS : Type := Nat × Int × List Int
def nxS (T : Nat → Int) (L : Nat) (s : PS) : Int := if s.2.1 < 0 ∧ s.1 < L then T s.1 else -1
def adS (s : PS) : PS := (s.1 + 1, s.2.1, s.2.2)
def flS (s : PS) : PS := if s.2.1 < 0 then (s.1, (s.1 : Int), s.2.2) else s
def emS (c : Int) (s : PS) : PS := if s.2.1 < 0 then (s.1, s.2.1, s.2.2 ++ [c]) else s
abbrev digC (c : Int) : Prop := 48 ≤ c ∧ c ≤ 57
abbrev namC (c : Int) : Prop := c = 97 ∨ c = 98 ∨ c = 119 ∨ c = 116 ∨ c = 118
def nmS (T : Nat → Int) (L : Nat) : Nat → Int → PS → PS
  | 0, v, s => emS v s
  | k + 1, v, s => if digC (nxS T L s) then nmS T L k (v * 10 + nxS T L s - 48) (adS s) else emS v s
/-- sub, and again behind each sign of P -/
def lsS (T : Nat → Int) (L : Nat) (sub : PS → PS) (P : Int → Bool) : Nat → PS → PS
  | 0, s => s
  | k + 1, s => if P (nxS T L s) = true then lsS T L sub P k (emS (-(nxS T L s)) (sub (adS s))) else s
def proC (c : Int) : Bool := c == 42 || c == 47 || c == 37
def sumC (c : Int) : Bool := c == 43 || c == 45
def cmpC (c : Int) : Bool := c == 60 || c == 61 || c == 62
def andC (c : Int) : Bool := c == 38
def orC (c : Int) : Bool := c == 124
def prS (T : Nat → Int) (L : Nat) (op : PS → PS) (s : PS) : PS := lsS T L op proC 120 (op s)
def suS (T : Nat → Int) (L : Nat) (op : PS → PS) (s : PS) : PS := lsS T L (prS T L op) sumC 120 (prS T L op s)
def coS (T : Nat → Int) (L : Nat) (op : PS → PS) (s : PS) : PS := lsS T L (suS T L op) cmpC 1 (suS T L op s)
def boS (T : Nat → Int) (L : Nat) (op : PS → PS) (s : PS) : PS := lsS T L (coS T L op) andC 120 (coS T L op s)
def eiS (T : Nat → Int) (L : Nat) (op : PS → PS) (s : PS) : PS := lsS T L (boS T L op) orC 120 (boS T L op s)
/-- an operand, r depths being left -/
def opS (T : Nat → Int) (L : Nat) : Nat → PS → PS
  | 0, s => if digC (nxS T L s) then nmS T L 4 0 s else if namC (nxS T L s) then emS (-(nxS T L s)) (adS s) else flS s
  | r + 1, s => if digC (nxS T L s) then nmS T L 4 0 s else if namC (nxS T L s) then emS (-(nxS T L s)) (adS s)
      else if nxS T L s = 40 then (if nxS T L (eiS T L (opS T L r) (adS s)) = 41 then adS (eiS T L (opS T L r) (adS s)) else flS (eiS T L (opS T L r) (adS s)))
      else if nxS T L s = 33 then emS (-33) (opS T L r (adS s)) else if nxS T L s = 45 then emS (-1) (opS T L r (adS s)) else flS s
/-- what holds of a reader: places go on, no more steps than letters, behind a fault nothing -/
def GdS (L : Nat) (op : PS → PS) : Prop := ∀ s : PS, s.1 ≤ L → (op s).1 ≤ L ∧ s.1 ≤ (op s).1 ∧ ((op s).2.2.length + s.1 ≤ (op s).1 + s.2.2.length) ∧ (s.2.1 < 0 → (op s).2.1 = s.2.1 ∨ (0 ≤ (op s).2.1 ∧ (op s).2.1 ≤ L)) ∧ (0 ≤ s.2.1 → op s = s)
theorem nxS_ne {T : Nat → Int} {L : Nat} {s : PS} (h : nxS T L s ≠ -1) : s.2.1 < 0 ∧ s.1 < L ∧ nxS T L s = T s.1 := by
  unfold nxS at h ⊢
  split at h
  · rename_i q; exact ⟨q.1, q.2, by rw [if_pos q]⟩
  · exact absurd rfl h
theorem emS_1 (c : Int) (s : PS) : (emS c s).1 = s.1 := by unfold emS; split <;> rfl
theorem emS_2 (c : Int) (s : PS) : (emS c s).2.1 = s.2.1 := by unfold emS; split <;> rfl
theorem emS_3 (c : Int) (s : PS) : (emS c s).2.2.length ≤ s.2.2.length + 1 := by unfold emS; split <;> simp
theorem emS_f {c : Int} {s : PS} (h : 0 ≤ s.2.1) : emS c s = s := if_neg (by omega)
theorem flS_f {s : PS} (h : 0 ≤ s.2.1) : flS s = s := if_neg (by omega)
theorem nxS_f {T : Nat → Int} {L : Nat} {s : PS} (h : 0 ≤ s.2.1) : nxS T L s = -1 := if_neg (by omega)
theorem fl_gd {L : Nat} : GdS L flS := by
  intro s hs
  unfold flS
  split
  · exact ⟨hs, Nat.le_refl _, by simp; omega, fun _ => Or.inr ⟨by simp, by simp; omega⟩, fun q => by omega⟩
  · exact ⟨hs, Nat.le_refl _, by omega, fun q => by omega, fun _ => rfl⟩
theorem ls_gd {T : Nat → Int} {L : Nat} {sub : PS → PS} {P : Int → Bool} (hP : P (-1) = false) (hg : GdS L sub) : ∀ k, GdS L (lsS T L sub P k)
  | 0 => fun s hs => ⟨hs, Nat.le_refl _, by show s.2.2.length + s.1 ≤ s.1 + s.2.2.length; omega, fun _ => Or.inl rfl, fun _ => rfl⟩
  | k + 1 => by
    intro s hs
    unfold lsS
    by_cases h : P (nxS T L s) = true
    · rw [if_pos h]
      have hn : nxS T L s ≠ -1 := fun e => by rw [e, hP] at h; exact absurd h (by decide)
      obtain ⟨h1, h2, -⟩ := nxS_ne hn
      have g1 := hg (adS s) (show s.1 + 1 ≤ L by omega)
      have g2 := ls_gd (T := T) hP hg k (emS (-(nxS T L s)) (sub (adS s))) (by rw [emS_1]; exact g1.1)
      rw [emS_1, emS_2] at g2
      have e3 := emS_3 (-(nxS T L s)) (sub (adS s))
      have a1 : (adS s).1 = s.1 + 1 := rfl
      have a2 : (adS s).2.1 = s.2.1 := rfl
      have a3 : (adS s).2.2 = s.2.2 := rfl
      rw [a1, a2, a3] at g1
      obtain ⟨p1, p2, p3, p4, p5⟩ := g1
      obtain ⟨q1, q2, q3, q4, q5⟩ := g2
      refine ⟨q1, by omega, by omega, fun _ => ?_, fun q => by omega⟩
      rcases p4 h1 with e | e
      · rw [e] at q4
        exact q4 h1
      · have := q5 e.1
        rw [this, emS_2]
        exact Or.inr e
    · rw [if_neg h]
      exact ⟨hs, Nat.le_refl _, by omega, fun _ => Or.inl rfl, fun _ => rfl⟩
theorem comp_gd {L : Nat} {f g : PS → PS} (hf : GdS L f) (hg : GdS L g) : GdS L (fun s => g (f s)) := by
  intro s hs
  obtain ⟨p1, p2, p3, p4, p5⟩ := hf s hs
  obtain ⟨q1, q2, q3, q4, q5⟩ := hg (f s) p1
  refine ⟨q1, Nat.le_trans p2 q2, by show (g (f s)).2.2.length + s.1 ≤ (g (f s)).1 + s.2.2.length; omega, fun h => ?_, fun h => ?_⟩
  · show (g (f s)).2.1 = s.2.1 ∨ (0 ≤ (g (f s)).2.1 ∧ (g (f s)).2.1 ≤ L)
    rcases p4 h with e | e
    · rw [e] at q4; exact q4 h
    · rw [q5 e.1]; exact Or.inr e
  · show g (f s) = s
    rw [p5 h]; exact (by have := q5; rw [p5 h] at this; exact this h)
theorem pr_gd {T : Nat → Int} {L : Nat} {op : PS → PS} (h : GdS L op) : GdS L (prS T L op) := comp_gd (f := op) (g := lsS T L op proC 120) h (ls_gd rfl h 120)
theorem su_gd {T : Nat → Int} {L : Nat} {op : PS → PS} (h : GdS L op) : GdS L (suS T L op) := comp_gd (f := prS T L op) (g := lsS T L (prS T L op) sumC 120) (pr_gd h) (ls_gd rfl (pr_gd h) 120)
theorem co_gd {T : Nat → Int} {L : Nat} {op : PS → PS} (h : GdS L op) : GdS L (coS T L op) := comp_gd (f := suS T L op) (g := lsS T L (suS T L op) cmpC 1) (su_gd h) (ls_gd rfl (su_gd h) 1)
theorem bo_gd {T : Nat → Int} {L : Nat} {op : PS → PS} (h : GdS L op) : GdS L (boS T L op) := comp_gd (f := coS T L op) (g := lsS T L (coS T L op) andC 120) (co_gd h) (ls_gd rfl (co_gd h) 120)
theorem ei_gd {T : Nat → Int} {L : Nat} {op : PS → PS} (h : GdS L op) : GdS L (eiS T L op) := comp_gd (f := boS T L op) (g := lsS T L (boS T L op) orC 120) (bo_gd h) (ls_gd rfl (bo_gd h) 120)
/-- a number: at least one digit is at hand -/
theorem nm_gd {T : Nat → Int} {L : Nat} : ∀ (k : Nat) (v : Int) (s : PS), s.1 ≤ L → s.2.1 < 0 → (nmS T L k v s).1 ≤ L ∧ s.1 ≤ (nmS T L k v s).1 ∧ ((nmS T L k v s).2.2.length + s.1 ≤ (nmS T L k v s).1 + s.2.2.length + 1) ∧ (nmS T L k v s).2.1 = s.2.1
  | 0, v, s, hs, hf => by
    unfold nmS
    have e3 := emS_3 v s
    refine ⟨by rw [emS_1]; exact hs, by rw [emS_1]; exact Nat.le_refl _, by rw [emS_1]; omega, emS_2 v s⟩
  | k + 1, v, s, hs, hf => by
    unfold nmS
    by_cases h : digC (nxS T L s)
    · rw [if_pos h]
      obtain ⟨h1, h2, -⟩ := nxS_ne (show nxS T L s ≠ -1 by omega)
      obtain ⟨g1, g2, g3, g4⟩ := nm_gd (T := T) k (v * 10 + nxS T L s - 48) (adS s) (show s.1 + 1 ≤ L by omega) h1
      have a1 : (adS s).1 = s.1 + 1 := rfl
      have a3 : (adS s).2.2 = s.2.2 := rfl
      rw [a1, a3] at g3
      rw [a1] at g2
      exact ⟨g1, by omega, by omega, g4⟩
    · rw [if_neg h]
      have e3 := emS_3 v s
      refine ⟨by rw [emS_1]; exact hs, by rw [emS_1]; exact Nat.le_refl _, by rw [emS_1]; omega, emS_2 v s⟩
theorem nm1_gd {T : Nat → Int} {L : Nat} {s : PS} (hs : s.1 ≤ L) (h : digC (nxS T L s)) : (nmS T L 4 0 s).1 ≤ L ∧ s.1 ≤ (nmS T L 4 0 s).1 ∧ ((nmS T L 4 0 s).2.2.length + s.1 ≤ (nmS T L 4 0 s).1 + s.2.2.length) ∧ (nmS T L 4 0 s).2.1 = s.2.1 := by
  have e : nmS T L 4 0 s = nmS T L 3 (0 * 10 + nxS T L s - 48) (adS s) := if_pos h
  obtain ⟨h1, h2, -⟩ := nxS_ne (show nxS T L s ≠ -1 by omega)
  obtain ⟨g1, g2, g3, g4⟩ := nm_gd (T := T) 3 (0 * 10 + nxS T L s - 48) (adS s) (show s.1 + 1 ≤ L by omega) h1
  have a1 : (adS s).1 = s.1 + 1 := rfl
  have a3 : (adS s).2.2 = s.2.2 := rfl
  rw [a1, a3] at g3
  rw [a1] at g2
  rw [e]
  exact ⟨g1, by omega, by omega, g4⟩
theorem nam_gd {L : Nat} {s : PS} {c : Int} (hs : s.1 < L) (hf : s.2.1 < 0) : (emS c (adS s)).1 ≤ L ∧ s.1 ≤ (emS c (adS s)).1 ∧ ((emS c (adS s)).2.2.length + s.1 ≤ (emS c (adS s)).1 + s.2.2.length) ∧ ((emS c (adS s)).2.1 = s.2.1) := by
  have a1 : (adS s).1 = s.1 + 1 := rfl
  have a3 : (adS s).2.2 = s.2.2 := rfl
  have e3 := emS_3 c (adS s)
  rw [a3] at e3
  exact ⟨by rw [emS_1, a1]; omega, by rw [emS_1, a1]; omega, by rw [emS_1, a1]; omega, by rw [emS_2]; rfl⟩
theorem sub_gd {L : Nat} {op g : PS → PS} {s : PS} (hs : s.1 < L) (hf : s.2.1 < 0) (ho : GdS L op) (hg1 : ∀ t : PS, t.1 ≤ L → (g t).1 ≤ L ∧ t.1 ≤ (g t).1 ∧ ((g t).2.2.length + t.1 ≤ (g t).1 + t.2.2.length + 1) ∧ (t.2.1 < 0 → (g t).2.1 = t.2.1 ∨ (0 ≤ (g t).2.1 ∧ (g t).2.1 ≤ L)) ∧ (0 ≤ t.2.1 → g t = t)) :
    (g (op (adS s))).1 ≤ L ∧ s.1 ≤ (g (op (adS s))).1 ∧ ((g (op (adS s))).2.2.length + s.1 ≤ (g (op (adS s))).1 + s.2.2.length) ∧ (s.2.1 < 0 → (g (op (adS s))).2.1 = s.2.1 ∨ (0 ≤ (g (op (adS s))).2.1 ∧ (g (op (adS s))).2.1 ≤ L)) := by
  obtain ⟨p1, p2, p3, p4, p5⟩ := ho (adS s) (show s.1 + 1 ≤ L by omega)
  obtain ⟨q1, q2, q3, q4, q5⟩ := hg1 (op (adS s)) p1
  have a1 : (adS s).1 = s.1 + 1 := rfl
  have a2 : (adS s).2.1 = s.2.1 := rfl
  have a3 : (adS s).2.2 = s.2.2 := rfl
  rw [a2] at p4
  rw [a1] at p2
  rw [a1, a3] at p3
  refine ⟨q1, by omega, by omega, fun _ => ?_⟩
  rcases p4 hf with e | e
  · rw [e] at q4; exact q4 hf
  · rw [q5 e.1]; exact Or.inr e
theorem em_g1 {L : Nat} {c : Int} (t : PS) (ht : t.1 ≤ L) : (emS c t).1 ≤ L ∧ t.1 ≤ (emS c t).1 ∧ ((emS c t).2.2.length + t.1 ≤ (emS c t).1 + t.2.2.length + 1) ∧ (t.2.1 < 0 → (emS c t).2.1 = t.2.1 ∨ (0 ≤ (emS c t).2.1 ∧ (emS c t).2.1 ≤ L)) ∧ (0 ≤ t.2.1 → emS c t = t) := by
  have e3 := emS_3 c t
  exact ⟨by rw [emS_1]; exact ht, by rw [emS_1]; exact Nat.le_refl _, by rw [emS_1]; omega, fun _ => Or.inl (emS_2 c t), emS_f⟩
theorem fl_g1 {L : Nat} (t : PS) (ht : t.1 ≤ L) : (flS t).1 ≤ L ∧ t.1 ≤ (flS t).1 ∧ ((flS t).2.2.length + t.1 ≤ (flS t).1 + t.2.2.length + 1) ∧ (t.2.1 < 0 → (flS t).2.1 = t.2.1 ∨ (0 ≤ (flS t).2.1 ∧ (flS t).2.1 ≤ L)) ∧ (0 ≤ t.2.1 → flS t = t) := by
  obtain ⟨h1, h2, h3, h4, h5⟩ := fl_gd (L := L) t ht
  exact ⟨h1, h2, by omega, h4, h5⟩
theorem op_gd {T : Nat → Int} {L : Nat} : ∀ r, GdS L (opS T L r) := by
  have frz : ∀ r (s : PS), 0 ≤ s.2.1 → opS T L r s = s := by
    intro r s h
    have e := nxS_f (T := T) (L := L) h
    cases r with
    | zero => unfold opS; rw [e, if_neg (by omega), if_neg (by omega), flS_f h]
    | succ r => unfold opS; rw [e, if_neg (by omega), if_neg (by omega), if_neg (by omega), if_neg (by omega), if_neg (by omega), flS_f h]
  intro r
  induction r with
  | zero =>
    intro s hs
    by_cases hf : 0 ≤ s.2.1
    · rw [frz 0 s hf]; exact ⟨hs, Nat.le_refl _, by omega, fun q => by omega, fun _ => rfl⟩
    · unfold opS
      by_cases h1 : digC (nxS T L s)
      · rw [if_pos h1]
        obtain ⟨a, b, c, d⟩ := nm1_gd hs h1
        exact ⟨a, b, c, fun _ => Or.inl d, fun q => absurd q hf⟩
      · rw [if_neg h1]
        by_cases h2 : namC (nxS T L s)
        · rw [if_pos h2]
          obtain ⟨k1, k2, -⟩ := nxS_ne (show nxS T L s ≠ -1 by omega)
          obtain ⟨a, b, c, d⟩ := nam_gd (c := -(nxS T L s)) k2 k1
          exact ⟨a, b, c, fun _ => Or.inl d, fun q => absurd q hf⟩
        · rw [if_neg h2]
          exact fl_gd s hs
  | succ r ih =>
    intro s hs
    by_cases hf : 0 ≤ s.2.1
    · rw [frz (r + 1) s hf]; exact ⟨hs, Nat.le_refl _, by omega, fun q => by omega, fun _ => rfl⟩
    · unfold opS
      by_cases h1 : digC (nxS T L s)
      · rw [if_pos h1]
        obtain ⟨a, b, c, d⟩ := nm1_gd hs h1
        exact ⟨a, b, c, fun _ => Or.inl d, fun q => absurd q hf⟩
      · rw [if_neg h1]
        by_cases h2 : namC (nxS T L s)
        · rw [if_pos h2]
          obtain ⟨k1, k2, -⟩ := nxS_ne (show nxS T L s ≠ -1 by omega)
          obtain ⟨a, b, c, d⟩ := nam_gd (c := -(nxS T L s)) k2 k1
          exact ⟨a, b, c, fun _ => Or.inl d, fun q => absurd q hf⟩
        · rw [if_neg h2]
          by_cases h3 : nxS T L s = 40
          · rw [if_pos h3]
            obtain ⟨k1, k2, -⟩ := nxS_ne (show nxS T L s ≠ -1 by omega)
            split
            · rename_i h4
              obtain ⟨j1, j2, -⟩ := nxS_ne (show nxS T L (eiS T L (opS T L r) (adS s)) ≠ -1 by omega)
              obtain ⟨a, b, c, d⟩ := sub_gd (g := fun t => t) k2 k1 (ei_gd (T := T) ih) (fun t ht => ⟨ht, Nat.le_refl _, by omega, fun _ => Or.inl rfl, fun _ => rfl⟩)
              refine ⟨show (eiS T L (opS T L r) (adS s)).1 + 1 ≤ L by omega, show s.1 ≤ (eiS T L (opS T L r) (adS s)).1 + 1 by exact Nat.le_succ_of_le b, show (eiS T L (opS T L r) (adS s)).2.2.length + s.1 ≤ (eiS T L (opS T L r) (adS s)).1 + 1 + s.2.2.length by exact Nat.le_trans c (by omega), d, fun q => absurd q hf⟩
            · obtain ⟨a, b, c, d⟩ := sub_gd (g := flS) k2 k1 (ei_gd (T := T) ih) fl_g1
              exact ⟨a, b, c, d, fun q => absurd q hf⟩
          · rw [if_neg h3]
            by_cases h4 : nxS T L s = 33
            · rw [if_pos h4]
              obtain ⟨k1, k2, -⟩ := nxS_ne (show nxS T L s ≠ -1 by omega)
              obtain ⟨a, b, c, d⟩ := sub_gd (g := emS (-33)) k2 k1 ih em_g1
              exact ⟨a, b, c, d, fun q => absurd q hf⟩
            · rw [if_neg h4]
              by_cases h5 : nxS T L s = 45
              · rw [if_pos h5]
                obtain ⟨k1, k2, -⟩ := nxS_ne (show nxS T L s ≠ -1 by omega)
                obtain ⟨a, b, c, d⟩ := sub_gd (g := emS (-1)) k2 k1 ih em_g1
                exact ⟨a, b, c, d, fun q => absurd q hf⟩
              · rw [if_neg h5]
                exact fl_gd s hs
