/-! the law worked out: values on a stack -/
def wr (z : Int) : Int := z.bmod 4294967296
theorem wr_rg (z : Int) : rg (wr z) := bm32r z
theorem iz_wr (z : Int) : iz (wr z) = iz z := iz_bm z
theorem rz_wr {X : pX} {h : Nat} {mi : MI} {pc : Nat} {ls : List (Option Value)} {st : List Value} {I J : IM} {P : Option Value → IM → IM → Prop} {x : Int} (k : Rz X h mi pc ls (zi (wr x) :: st) I J P) : Rz X h mi pc ls (zi x :: st) I J P := by
  rw [show zi x = zi (wr x) from congrArg Value.int (iz_wr x).symm]; exact k
def dvZ (x y : Int) : Int := (iz x / iz y).toInt
def rmZ (x y : Int) : Int := (iz x - iz x / iz y * iz y).toInt
def bop (c x y : Int) : Int := if c = 43 then wr (x + y) else if c = 45 then wr (x - y) else if c = 42 then wr (x * y) else if c = 47 then (if y = 0 then 0 else dvZ x y) else if c = 37 then (if y = 0 then 0 else rmZ x y) else if c = 60 then (if x < y then 1 else 0) else if c = 61 then (if x = y then 1 else 0) else if c = 62 then (if y < x then 1 else 0) else if c = 38 then (if x ≠ 0 ∧ y ≠ 0 then 1 else 0) else (if x ≠ 0 ∨ y ≠ 0 then 1 else 0)
theorem bop_43 {x y : Int} : bop 43 x y = wr (x + y) := rfl
theorem bop_45 {x y : Int} : bop 45 x y = wr (x - y) := rfl
theorem bop_42 {x y : Int} : bop 42 x y = wr (x * y) := rfl
theorem bop_47 {x y : Int} : bop 47 x y = if y = 0 then 0 else dvZ x y := rfl
theorem bop_37 {x y : Int} : bop 37 x y = if y = 0 then 0 else rmZ x y := rfl
theorem bop_60 {x y : Int} : bop 60 x y = if x < y then 1 else 0 := rfl
theorem bop_61 {x y : Int} : bop 61 x y = if x = y then 1 else 0 := rfl
theorem bop_62 {x y : Int} : bop 62 x y = if y < x then 1 else 0 := rfl
theorem bop_38 {x y : Int} : bop 38 x y = if x ≠ 0 ∧ y ≠ 0 then 1 else 0 := rfl
theorem bop_124 {x y : Int} : bop 124 x y = if x ≠ 0 ∨ y ≠ 0 then 1 else 0 := rfl
theorem iz_n0 {y : Int} (hy : rg y) (h : y ≠ 0) : iz y ≠ 0 := fun q => h ((iz_inj hy (by omega)).mp (by rw [iz0]; exact q))
theorem bop_rg {c x y : Int} : rg (bop c x y) := by
  unfold bop
  repeat' split
  all_goals first | exact wr_rg _ | exact iz_rg _ | decide
def stp (fa : Int → Int) (c : Int) (st : List Int) : List Int :=
  if 0 ≤ c then c :: st else if namC (-c) then fa (-c) :: st else if c = -1 then (match st with | x :: r => wr (-x) :: r | [] => []) else if c = -33 then (match st with | x :: r => (if x = 0 then 1 else 0) :: r | [] => [])
  else match st with
    | y :: x :: r => bop (-c) x y :: r
    | _ => []
def runS (fa : Int → Int) : List Int → List Int → List Int
  | [], st => st
  | c :: l, st => runS fa l (stp fa c st)
theorem stp_n {fa : Int → Int} {c : Int} {st : List Int} (h : 0 ≤ c) : stp fa c st = c :: st := if_pos h
theorem stp_f {fa : Int → Int} {c : Int} {st : List Int} (h : namC (-c)) : stp fa c st = fa (-c) :: st := by unfold stp; rw [if_neg (by omega), if_pos h]
theorem stp_1 {fa : Int → Int} {x : Int} {r : List Int} : stp fa (-1) (x :: r) = wr (-x) :: r := rfl
theorem stp_33 {fa : Int → Int} {x : Int} {r : List Int} : stp fa (-33) (x :: r) = (if x = 0 then 1 else 0) :: r := rfl
theorem stp_b {fa : Int → Int} {c x y : Int} {r : List Int} (h : binC (-c)) : stp fa c (y :: x :: r) = bop (-c) x y :: r := by
  unfold stp; rw [if_neg (by omega), if_neg (by omega), if_neg (by omega), if_neg (by omega)]
/-- one step, by kinds -/
theorem hts_cases {c : Int} {l st : List Int} {B x : Nat} (e : hts (c :: l) st.length B = some x) : (((0 ≤ c ∧ c ≤ 9999) ∨ namC (-c)) ∧ st.length + 1 ≤ B ∧ hts l (st.length + 1) B = some x) ∨ ((c = -33 ∨ c = -1) ∧ (∃ a r, st = a :: r) ∧ hts l st.length B = some x) ∨ (binC (-c) ∧ (∃ b a r, st = b :: a :: r) ∧ hts l (st.length - 1) B = some x) := by
  rw [hts_c] at e
  by_cases h1 : (0 ≤ c ∧ c ≤ 9999) ∨ namC (-c)
  · rw [if_pos h1] at e
    by_cases h2 : st.length + 1 ≤ B
    · rw [if_pos h2] at e; exact Or.inl ⟨h1, h2, e⟩
    · rw [if_neg h2] at e; exact absurd e (by simp)
  · rw [if_neg h1] at e
    by_cases h3 : c = -33 ∨ c = -1
    · rw [if_pos h3] at e
      by_cases h2 : 1 ≤ st.length
      · rw [if_pos h2] at e
        refine Or.inr (Or.inl ⟨h3, ?_, e⟩)
        cases st with
        | nil => simp at h2
        | cons a r => exact ⟨a, r, rfl⟩
      · rw [if_neg h2] at e; exact absurd e (by simp)
    · rw [if_neg h3] at e
      by_cases h2 : 2 ≤ st.length ∧ binC (-c)
      · rw [if_pos h2] at e
        refine Or.inr (Or.inr ⟨h2.2, ?_, e⟩)
        cases st with
        | nil => simp at h2
        | cons b r =>
          cases r with
          | nil => simp at h2
          | cons a r => exact ⟨b, a, r, rfl⟩
      · rw [if_neg h2] at e; exact absurd e (by simp)
theorem stp_len {fa : Int → Int} {c : Int} {l st : List Int} {B x : Nat} (e : hts (c :: l) st.length B = some x) : hts l (stp fa c st).length B = some x := by
  rcases hts_cases e with ⟨h1, h2, h3⟩ | ⟨h1, ⟨a, r, rfl⟩, h3⟩ | ⟨h1, ⟨b, a, r, rfl⟩, h3⟩
  · rcases h1 with q | q
    · rw [stp_n q.1]; exact h3
    · rw [stp_f q]; exact h3
  · rcases h1 with rfl | rfl <;> exact h3
  · rw [stp_b h1]; exact h3
theorem stp_app {fa : Int → Int} {c : Int} {l a b : List Int} {B x : Nat} (e : hts (c :: l) a.length B = some x) : stp fa c (a ++ b) = stp fa c a ++ b := by
  rcases hts_cases e with ⟨h1, h2, h3⟩ | ⟨h1, ⟨y, r, rfl⟩, h3⟩ | ⟨h1, ⟨z, y, r, rfl⟩, h3⟩
  · rcases h1 with q | q
    · rw [stp_n q.1, stp_n q.1]; rfl
    · rw [stp_f q, stp_f q]; rfl
  · rcases h1 with rfl | rfl <;> rfl
  · show stp fa c (z :: y :: (r ++ b)) = _
    rw [stp_b h1, stp_b h1]; rfl
theorem runS_len {fa : Int → Int} : ∀ (l st : List Int) (B x : Nat), hts l st.length B = some x → (runS fa l st).length = x
  | [], st, B, x, e => by show st.length = x; simpa [hts] using e
  | c :: l, st, B, x, e => runS_len l _ B x (stp_len e)
theorem runS_app {fa : Int → Int} : ∀ (l a b : List Int) (B x : Nat), hts l a.length B = some x → runS fa l (a ++ b) = runS fa l a ++ b
  | [], a, b, B, x, e => rfl
  | c :: l, a, b, B, x, e => by
    show runS fa l (stp fa c (a ++ b)) = runS fa l (stp fa c a) ++ b
    rw [stp_app e]
    exact runS_app l _ b B x (stp_len e)
/-- the value of an expression -/
def exV (fa : Int → Int) (l : List Int) : Int := (runS fa l []).headD 0
theorem seg_run {fa : Int → Int} {l st : List Int} {d : Nat} (h : Seg d l) : runS fa l st = exV fa l :: st := by
  have e0 : hts l ([] : List Int).length (0 + d) = some 1 := h 0
  have e1 := runS_len (fa := fa) l [] _ _ e0
  have e2 := runS_app (fa := fa) l [] st _ _ e0
  rw [List.nil_append] at e2
  rw [e2]
  unfold exV
  cases hq : runS fa l [] with
  | nil => rw [hq] at e1; simp at e1
  | cons v r =>
    rw [hq] at e1
    have : r = [] := by cases r with
      | nil => rfl
      | cons a b => simp at e1
    rw [this]; rfl
def StR (st : List Int) : Prop := ∀ x, x ∈ st → rg x
theorem stp_rg {fa : Int → Int} {c : Int} {l st : List Int} {B x : Nat} (hfa : ∀ n, rg (fa n)) (e : hts (c :: l) st.length B = some x) (hs : StR st) : StR (stp fa c st) := by
  have cons : ∀ {y : Int} {r : List Int}, rg y → (∀ z, z ∈ r → z ∈ st) → StR (y :: r) := by
    intro y r hy hr z hz
    rcases List.mem_cons.mp hz with q | q
    · rw [q]; exact hy
    · exact hs z (hr z q)
  rcases hts_cases e with ⟨h1, h2, h3⟩ | ⟨h1, ⟨a, r, rfl⟩, h3⟩ | ⟨h1, ⟨b, a, r, rfl⟩, h3⟩
  · rcases h1 with q | q
    · rw [stp_n q.1]; exact cons (by omega) (fun z hz => hz)
    · rw [stp_f q]; exact cons (hfa _) (fun z hz => hz)
  · rcases h1 with rfl | rfl
    · rw [stp_33]; exact cons (by split <;> decide) (fun z hz => List.mem_cons_of_mem _ hz)
    · rw [stp_1]; exact cons (wr_rg _) (fun z hz => List.mem_cons_of_mem _ hz)
  · rw [stp_b h1]; exact cons bop_rg (fun z hz => List.mem_cons_of_mem _ (List.mem_cons_of_mem _ hz))
theorem runS_rg {fa : Int → Int} (hfa : ∀ n, rg (fa n)) : ∀ (l st : List Int) (B x : Nat), hts l st.length B = some x → StR st → StR (runS fa l st)
  | [], st, B, x, e, hs => hs
  | c :: l, st, B, x, e, hs => runS_rg hfa l _ B x (stp_len e) (stp_rg hfa e hs)
theorem exV_rg {fa : Int → Int} {l : List Int} {d : Nat} (hfa : ∀ n, rg (fa n)) (h : Seg d l) : rg (exV fa l) := by
  have e := seg_run (fa := fa) (st := []) h
  have r := runS_rg hfa l [] _ _ (show hts l ([] : List Int).length (0 + d) = some 1 from h 0) (fun x hx => absurd hx (by simp))
  rw [e] at r
  exact r _ (List.mem_cons_self ..)
/-- what a law gives -/
def giv (fa : Int → Int) : List (List Int × List Int) → Int
  | [] => 0
  | x :: r => if x.1 = [] ∨ exV fa x.1 ≠ 0 then exV fa x.2 else giv fa r
theorem giv_rg {fa : Int → Int} (hfa : ∀ n, rg (fa n)) : ∀ pg, PgOK pg → rg (giv fa pg)
  | [], _ => by show rg 0; decide
  | x :: r, h => by
    unfold giv
    split
    · exact exV_rg hfa (h x (List.mem_cons_self ..)).2
    · exact giv_rg hfa r (fun y hy => h y (List.mem_cons_of_mem _ hy))
def StK (F : Nat → Int) : List Int → Prop
  | [] => True
  | x :: r => F r.length = x ∧ StK F r
theorem StK_ext {F G : Nat → Int} : ∀ (st : List Int), (∀ i, i < st.length → G i = F i) → StK F st → StK G st
  | [], _, _ => trivial
  | x :: r, h, hs => ⟨by rw [h _ (by simp)]; exact hs.1, StK_ext r (fun i hi => h i (by simp; omega)) hs.2⟩
theorem StK_push {F : Nat → Int} {st : List Int} {x : Int} (h : StK F st) : StK (up1 F st.length x) (x :: st) := ⟨up1_self, StK_ext st (fun i hi => up1_ne (by omega)) h⟩
def faV (a b w t v : Int) (n : Int) : Int := if n = 97 then a else if n = 98 then b else if n = 119 then w else if n = 116 then t else v
theorem faV_rg {a b w t v : Int} (ha : rg a) (hb : rg b) (hw : rg w) (ht : rg t) (hv : rg v) (n : Int) : rg (faV a b w t v n) := by
  unfold faV
  repeat' split
  all_goals assumption
/-! the class -/
def encW (I : IM) (n : Nat) (F : Nat → Int) : IM := upA (upA I 5 F) 1 (up1 (I 1) 9 (n : Int))
theorem encW_push {I : IM} {n : Nat} {F : Nat → Int} {x : Int} : encW I (n + 1) (up1 F n x) = upA (upA (encW I n F) 5 (up1 (encW I n F 5) n x)) 1 (up1 (upA (encW I n F) 5 (up1 (encW I n F 5) n x) 1) 9 ((n : Int) + 1)) := by
  funext d
  by_cases h1 : d = 1
  · subst h1
    funext j
    show up1 (I 1) 9 ((n : Int) + 1) j = up1 (up1 (I 1) 9 (n : Int)) 9 ((n : Int) + 1) j
    unfold up1
    split <;> rfl
  · by_cases h5 : d = 5
    · subst h5; rfl
    · simp [encW, upA, h1, h5]
theorem encW_pop {I : IM} {n : Nat} {F : Nat → Int} {z : Int} (hz : z = (n : Int)) : encW I n F = upA (encW I (n + 1) F) 1 (up1 (encW I (n + 1) F 1) 9 z) := by
  subst hz
  funext d
  by_cases h1 : d = 1
  · subst h1
    funext j
    show up1 (I 1) 9 (n : Int) j = up1 (up1 (I 1) 9 ((n + 1 : Nat) : Int)) 9 (n : Int) j
    unfold up1
    split <;> rfl
  · by_cases h5 : d = 5
    · subst h5; rfl
    · simp [encW, upA, h1, h5]
theorem encW_0 {I : IM} : encW I 0 (I 5) = upA I 1 (up1 (I 1) 9 0) := by
  unfold encW; rw [upA_id]; rfl
set_option maxRecDepth 20000 in
set_option maxHeartbeats 400000 in
theorem c_X4_push {X : pX} {I J : IM} {h n : Nat} {F : Nat → Int} {x : Int} (hn : n < 40) : KV X h mX4_push [.ref 1, zi x] (encW I n F) J (encW I (n + 1) (up1 F n x)) J := by
  show Rz X h mX4_push 0 [some (.ref 1), some (zi x)] [] (encW I n F) J _
  refine rz_aload_n dX4_push_0 rfl ?_
  refine rz_getI (z := (n : Int)) dX4_push_1 kf_RX4_93 hd_1 rfl (rfl) ?_
  refine rz_bipush dX4_push_4 (by decide) ?_
  refine rz_icmp_lt (t := 10) dX4_push_6 rfl (by omega) (by omega) (fun c6 => ?_) (fun c6 => ?_)
  · refine rz_aload_n dX4_push_10 rfl ?_
    refine rz_getR dX4_push_11 kf_RX4_19 hd_1 rfl rr_1_8 ?_
    refine rz_aload_n dX4_push_14 rfl ?_
    refine rz_getI (z := (n : Int)) dX4_push_15 kf_RX4_93 hd_1 rfl (rfl) ?_
    refine rz_iload_n dX4_push_18 rfl ?_
    refine rz_iastN (k := n) dX4_push_19 hd_5 (by decide) (by omega) (by omega) ?_
    refine rz_aload_n dX4_push_20 rfl ?_
    refine rz_dup dX4_push_21 rfl ?_
    refine rz_getI (z := (n : Int)) dX4_push_22 kf_RX4_93 hd_1 rfl (rfl) ?_
    refine rz_iconst dX4_push_25 ?_
    refine rz_iadd dX4_push_26 ?_
    refine rz_putI dX4_push_27 kp_RX4_93 hd_1 rfl ?_
    refine rz_vret dX4_push_30 rfl ?_
    exact ⟨rfl, encW_push.symm, rfl⟩
  · refine rz_vret dX4_push_9 rfl ?_
    exfalso; omega
set_option maxRecDepth 20000 in
set_option maxHeartbeats 400000 in
theorem c_X4_pop {X : pX} {I J : IM} {h n : Nat} {F : Nat → Int} (hn : n < 40) : KI X h mX4_pop [.ref 1] (encW I (n + 1) F) J (F n) (encW I n F) J := by
  show Rz X h mX4_pop 0 [some (.ref 1)] [] (encW I (n + 1) F) J _
  refine rz_aload_n dX4_pop_0 rfl ?_
  refine rz_getI (z := ((n + 1 : Nat) : Int)) dX4_pop_1 kf_RX4_93 hd_1 rfl (rfl) ?_
  refine rz_if_gt (t := 9) dX4_pop_4 rfl (by omega) (fun c4 => ?_) (fun c4 => ?_)
  · refine rz_aload_n dX4_pop_9 rfl ?_
    refine rz_dup dX4_pop_10 rfl ?_
    refine rz_getI (z := ((n + 1 : Nat) : Int)) dX4_pop_11 kf_RX4_93 hd_1 rfl (rfl) ?_
    refine rz_iconst dX4_pop_14 ?_
    refine rz_isub dX4_pop_15 ?_
    refine rz_putI dX4_pop_16 kp_RX4_93 hd_1 rfl ?_
    refine rz_aload_n dX4_pop_19 rfl ?_
    refine rz_getR dX4_pop_20 kf_RX4_19 hd_1 rfl rr_1_8 ?_
    refine rz_aload_n dX4_pop_23 rfl ?_
    refine rz_getI (z := (((n + 1 : Nat) : Int) - 1)) dX4_pop_24 kf_RX4_93 hd_1 rfl rfl ?_
    refine rz_ialdN (k := n) (z := (F n)) dX4_pop_27 hd_5 (by decide) (by omega) (by omega) rfl ?_
    refine rz_iret dX4_pop_28 rfl ?_
    exact ⟨_, rfl, rfl, (encW_pop (by omega)).symm, rfl⟩
  · refine rz_iconst dX4_pop_7 ?_
    refine rz_iret dX4_pop_8 rfl ?_
    exfalso; omega
set_option maxRecDepth 20000 in
set_option maxHeartbeats 400000 in
theorem c_X4_named (X : pX) (h : Nat) (I J : IM) (n a b w t v : Int) (hn : rg n) (hc : namC n) : KI X h mX4_named [zi n, zi a, zi b, zi w, zi t, zi v] I J (faV a b w t v n) I J := by
  show Rz X h mX4_named 0 [some (zi n), some (zi a), some (zi b), some (zi w), some (zi t), some (zi v)] [] I J _
  refine rz_iload_n dX4_named_0 rfl ?_
  by_cases s1_97 : n = 97
  · subst s1_97
    refine rz_lookup (t := 44) (off := 43) dX4_named_1 (by omega) (by decide) (by decide) rfl ?_
    refine rz_iload_n dX4_named_44 rfl ?_
    refine rz_iret dX4_named_45 rfl ?_
    exact ⟨_, rfl, by first | rfl | (obtain rfl : n = 118 := (by omega); rfl), rfl, rfl⟩
  by_cases s1_98 : n = 98
  · subst s1_98
    refine rz_lookup (t := 46) (off := 45) dX4_named_1 (by omega) (by decide) (by decide) rfl ?_
    refine rz_iload_n dX4_named_46 rfl ?_
    refine rz_iret dX4_named_47 rfl ?_
    exact ⟨_, rfl, by first | rfl | (obtain rfl : n = 118 := (by omega); rfl), rfl, rfl⟩
  by_cases s1_116 : n = 116
  · subst s1_116
    refine rz_lookup (t := 50) (off := 49) dX4_named_1 (by omega) (by decide) (by decide) rfl ?_
    refine rz_iload dX4_named_50 rfl ?_
    refine rz_iret dX4_named_52 rfl ?_
    exact ⟨_, rfl, by first | rfl | (obtain rfl : n = 118 := (by omega); rfl), rfl, rfl⟩
  by_cases s1_119 : n = 119
  · subst s1_119
    refine rz_lookup (t := 48) (off := 47) dX4_named_1 (by omega) (by decide) (by decide) rfl ?_
    refine rz_iload_n dX4_named_48 rfl ?_
    refine rz_iret dX4_named_49 rfl ?_
    exact ⟨_, rfl, by first | rfl | (obtain rfl : n = 118 := (by omega); rfl), rfl, rfl⟩
  refine rz_lookup (t := 53) (off := 52) dX4_named_1 (by omega) (by decide) (by simp [Op.lookupswitch.offset, Ne.symm s1_97, Ne.symm s1_98, Ne.symm s1_116, Ne.symm s1_119]) rfl ?_
  refine rz_iload dX4_named_53 rfl ?_
  refine rz_iret dX4_named_55 rfl ?_
  exact ⟨_, rfl, by first | rfl | (obtain rfl : n = 118 := (by omega); rfl), rfl, rfl⟩
set_option maxRecDepth 20000 in
set_option maxHeartbeats 400000 in
theorem c_X4_isTold (X : pX) (h : Nat) (I J : IM) (hn : 0 ≤ I 1 7 ∧ I 1 7 ≤ 121) : KIq X h mX4_isTold [.ref 1] I J (BQ I J (0 < I 1 7)) := by
  show Rz X h mX4_isTold 0 [some (.ref 1)] [] I J _
  refine rz_aload_n dX4_isTold_0 rfl ?_
  refine rz_getI (z := (I 1 7)) dX4_isTold_1 kf_RX4_26 hd_1 rfl rfl ?_
  refine rz_if_le (t := 11) dX4_isTold_4 rfl (by omega) (fun c4 => ?_) (fun c4 => ?_)
  · refine rz_iconst dX4_isTold_11 ?_
    refine rz_zret dX4_isTold_12 rfl (by decide) ?_
    exact ⟨_, rfl, Or.inr ⟨rfl, by first | omega | assumption⟩, rfl, rfl⟩
  · refine rz_iconst dX4_isTold_7 ?_
    refine rz_goto (t := 12) dX4_isTold_8 rfl ?_
    refine rz_zret dX4_isTold_12 rfl (by decide) ?_
    exact ⟨_, rfl, Or.inl ⟨rfl, by first | omega | assumption⟩, rfl, rfl⟩
set_option maxRecDepth 20000 in
set_option maxHeartbeats 400000 in
theorem c_X4_joined (X : pX) (h : Nat) (I J : IM) (n x y : Int) (hn : binC n) (hx : rg x) (hy : rg y) : KI X h mX4_joined [zi n, zi x, zi y] I J (bop n x y) I J := by
  show Rz X h mX4_joined 0 [some (zi n), some (zi x), some (zi y)] [] I J _
  refine rz_iload_n dX4_joined_0 rfl ?_
  by_cases s1_38 : n = 38
  · subst s1_38
    refine rz_lookup (t := 98) (off := 97) dX4_joined_1 (by omega) (by decide) (by decide) rfl ?_
    refine rz_iload_n dX4_joined_98 rfl ?_
    refine rz_if_eq (t := 110) dX4_joined_99 rfl (by omega) (fun c99 => ?_) (fun c99 => ?_)
    · refine rz_iconst dX4_joined_110 ?_
      refine rz_iret dX4_joined_111 rfl ?_
      exact ⟨_, rfl, by rw [bop_38, if_neg (by omega)], rfl, rfl⟩
    · refine rz_iload_n dX4_joined_102 rfl ?_
      refine rz_if_eq (t := 110) dX4_joined_103 rfl (by omega) (fun c103 => ?_) (fun c103 => ?_)
      · refine rz_iconst dX4_joined_110 ?_
        refine rz_iret dX4_joined_111 rfl ?_
        exact ⟨_, rfl, by rw [bop_38, if_neg (by omega)], rfl, rfl⟩
      · refine rz_iconst dX4_joined_106 ?_
        refine rz_goto (t := 111) dX4_joined_107 rfl ?_
        refine rz_iret dX4_joined_111 rfl ?_
        exact ⟨_, rfl, by rw [bop_38, if_pos (by omega)], rfl, rfl⟩
  by_cases s1_42 : n = 42
  · subst s1_42
    refine rz_lookup (t := 153) (off := 152) dX4_joined_1 (by omega) (by decide) (by decide) rfl ?_
    refine rz_iload_n dX4_joined_153 rfl ?_
    refine rz_iload_n dX4_joined_154 rfl ?_
    refine rz_imul dX4_joined_155 ?_
    refine rz_iret dX4_joined_156 rfl ?_
    exact ⟨_, congrArg some (congrArg Value.int (iz_wr _).symm), rfl, rfl, rfl⟩
  by_cases s1_43 : n = 43
  · subst s1_43
    refine rz_lookup (t := 145) (off := 144) dX4_joined_1 (by omega) (by decide) (by decide) rfl ?_
    refine rz_iload_n dX4_joined_145 rfl ?_
    refine rz_iload_n dX4_joined_146 rfl ?_
    refine rz_iadd dX4_joined_147 ?_
    refine rz_iret dX4_joined_148 rfl ?_
    exact ⟨_, congrArg some (congrArg Value.int (iz_wr _).symm), rfl, rfl, rfl⟩
  by_cases s1_45 : n = 45
  · subst s1_45
    refine rz_lookup (t := 149) (off := 148) dX4_joined_1 (by omega) (by decide) (by decide) rfl ?_
    refine rz_iload_n dX4_joined_149 rfl ?_
    refine rz_iload_n dX4_joined_150 rfl ?_
    refine rz_isub dX4_joined_151 ?_
    refine rz_iret dX4_joined_152 rfl ?_
    exact ⟨_, congrArg some (congrArg Value.int (iz_wr _).symm), rfl, rfl, rfl⟩
  by_cases s1_47 : n = 47
  · subst s1_47
    refine rz_lookup (t := 157) (off := 156) dX4_joined_1 (by omega) (by decide) (by decide) rfl ?_
    refine rz_iload_n dX4_joined_157 rfl ?_
    refine rz_if_ne (t := 165) dX4_joined_158 rfl (by omega) (fun c158 => ?_) (fun c158 => ?_)
    · have NZ : iz y ≠ 0 := iz_n0 hy (by assumption)
      refine rz_iload_n dX4_joined_165 rfl ?_
      refine rz_iload_n dX4_joined_166 rfl ?_
      refine rz_idivw dX4_joined_167 (NZ) ?_
      refine rz_iret dX4_joined_168 rfl ?_
      exact ⟨_, rfl, by rw [bop_47, if_neg (by assumption)]; rfl, rfl, rfl⟩
    · refine rz_iconst dX4_joined_161 ?_
      refine rz_goto (t := 168) dX4_joined_162 rfl ?_
      refine rz_iret dX4_joined_168 rfl ?_
      exact ⟨_, rfl, by rw [bop_47, if_pos (by assumption)], rfl, rfl⟩
  by_cases s1_60 : n = 60
  · subst s1_60
    refine rz_lookup (t := 112) (off := 111) dX4_joined_1 (by omega) (by decide) (by decide) rfl ?_
    refine rz_iload_n dX4_joined_112 rfl ?_
    refine rz_iload_n dX4_joined_113 rfl ?_
    refine rz_icmp_ge (t := 121) dX4_joined_114 rfl (by omega) (by omega) (fun c114 => ?_) (fun c114 => ?_)
    · refine rz_iconst dX4_joined_121 ?_
      refine rz_iret dX4_joined_122 rfl ?_
      exact ⟨_, rfl, by rw [bop_60, if_neg (by omega)], rfl, rfl⟩
    · refine rz_iconst dX4_joined_117 ?_
      refine rz_goto (t := 122) dX4_joined_118 rfl ?_
      refine rz_iret dX4_joined_122 rfl ?_
      exact ⟨_, rfl, by rw [bop_60, if_pos (by omega)], rfl, rfl⟩
  by_cases s1_61 : n = 61
  · subst s1_61
    refine rz_lookup (t := 123) (off := 122) dX4_joined_1 (by omega) (by decide) (by decide) rfl ?_
    refine rz_iload_n dX4_joined_123 rfl ?_
    refine rz_iload_n dX4_joined_124 rfl ?_
    refine rz_icmp_ne (t := 132) dX4_joined_125 rfl (by omega) (by omega) (fun c125 => ?_) (fun c125 => ?_)
    · refine rz_iconst dX4_joined_132 ?_
      refine rz_iret dX4_joined_133 rfl ?_
      exact ⟨_, rfl, by rw [bop_61, if_neg (by omega)], rfl, rfl⟩
    · refine rz_iconst dX4_joined_128 ?_
      refine rz_goto (t := 133) dX4_joined_129 rfl ?_
      refine rz_iret dX4_joined_133 rfl ?_
      exact ⟨_, rfl, by rw [bop_61, if_pos (by omega)], rfl, rfl⟩
  by_cases s1_62 : n = 62
  · subst s1_62
    refine rz_lookup (t := 134) (off := 133) dX4_joined_1 (by omega) (by decide) (by decide) rfl ?_
    refine rz_iload_n dX4_joined_134 rfl ?_
    refine rz_iload_n dX4_joined_135 rfl ?_
    refine rz_icmp_le (t := 143) dX4_joined_136 rfl (by omega) (by omega) (fun c136 => ?_) (fun c136 => ?_)
    · refine rz_iconst dX4_joined_143 ?_
      refine rz_iret dX4_joined_144 rfl ?_
      exact ⟨_, rfl, by rw [bop_62, if_neg (by omega)], rfl, rfl⟩
    · refine rz_iconst dX4_joined_139 ?_
      refine rz_goto (t := 144) dX4_joined_140 rfl ?_
      refine rz_iret dX4_joined_144 rfl ?_
      exact ⟨_, rfl, by rw [bop_62, if_pos (by omega)], rfl, rfl⟩
  by_cases s1_124 : n = 124
  · subst s1_124
    refine rz_lookup (t := 84) (off := 83) dX4_joined_1 (by omega) (by decide) (by decide) rfl ?_
    refine rz_iload_n dX4_joined_84 rfl ?_
    refine rz_if_ne (t := 92) dX4_joined_85 rfl (by omega) (fun c85 => ?_) (fun c85 => ?_)
    · refine rz_iconst dX4_joined_92 ?_
      refine rz_goto (t := 97) dX4_joined_93 rfl ?_
      refine rz_iret dX4_joined_97 rfl ?_
      exact ⟨_, rfl, by rw [bop_124, if_pos (by omega)], rfl, rfl⟩
    · refine rz_iload_n dX4_joined_88 rfl ?_
      refine rz_if_eq (t := 96) dX4_joined_89 rfl (by omega) (fun c89 => ?_) (fun c89 => ?_)
      · refine rz_iconst dX4_joined_96 ?_
        refine rz_iret dX4_joined_97 rfl ?_
        exact ⟨_, rfl, by rw [bop_124, if_neg (by omega)], rfl, rfl⟩
      · refine rz_iconst dX4_joined_92 ?_
        refine rz_goto (t := 97) dX4_joined_93 rfl ?_
        refine rz_iret dX4_joined_97 rfl ?_
        exact ⟨_, rfl, by rw [bop_124, if_pos (by omega)], rfl, rfl⟩
  refine rz_lookup (t := 169) (off := 168) dX4_joined_1 (by omega) (by decide) (by simp [Op.lookupswitch.offset, Ne.symm s1_38, Ne.symm s1_42, Ne.symm s1_43, Ne.symm s1_45, Ne.symm s1_47, Ne.symm s1_60, Ne.symm s1_61, Ne.symm s1_62, Ne.symm s1_124]) rfl ?_
  refine rz_iload_n dX4_joined_169 rfl ?_
  refine rz_if_ne (t := 177) dX4_joined_170 rfl (by omega) (fun c170 => ?_) (fun c170 => ?_)
  · have NZ : iz y ≠ 0 := iz_n0 hy (by assumption)
    refine rz_iload_n dX4_joined_177 rfl ?_
    refine rz_iload_n dX4_joined_178 rfl ?_
    refine rz_iremw dX4_joined_179 (NZ) ?_
    refine rz_iret dX4_joined_180 rfl ?_
    obtain rfl : n = 37 := by omega
    exact ⟨_, rfl, by rw [bop_37, if_neg (by assumption)]; rfl, rfl, rfl⟩
  · refine rz_iconst dX4_joined_173 ?_
    refine rz_goto (t := 180) dX4_joined_174 rfl ?_
    refine rz_iret dX4_joined_180 rfl ?_
    obtain rfl : n = 37 := by omega
    exact ⟨_, rfl, by rw [bop_37, if_pos (by assumption)], rfl, rfl⟩
