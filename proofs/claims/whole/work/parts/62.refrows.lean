/-! the reference lays all rows -/
def ab : Bool → Int
  | true => 1
  | false => 0
theorem ab_c (b : Bool) : ab b = 0 ∨ ab b = 1 := by cases b <;> simp [ab]
theorem ab_1 {b : Bool} (h : ab b ≠ 0) : b = true := by cases b <;> simp [ab] at h ⊢
theorem ab_0 {b : Bool} (h : ab b = 0) : b = false := by cases b <;> simp [ab] at h ⊢
def layM (I : IM) (k : Nat) (R W : Nat → Int) : IM := upA (upA (upA I 104 R) 105 W) 81 (up1 (I 81) 33 (k : Int))
theorem lay_id {I : IM} {k : Nat} (h : I 81 33 = k) : layM I k (I 104) (I 105) = I := by
  unfold layM
  rw [← h, up1_id, upA_id, upA_id, upA_id]
theorem layM_layM {I : IM} {k k2 : Nat} {R W R2 W2 : Nat → Int} : layM (layM I k R W) k2 R2 W2 = layM I k2 R2 W2 := by
  funext d
  by_cases h1 : d = 81
  · subst h1
    funext j
    show up1 (up1 (I 81) 33 (k : Int)) 33 (k2 : Int) j = up1 (I 81) 33 (k2 : Int) j
    unfold up1
    split <;> rfl
  · by_cases h2 : d = 105
    · subst h2; rfl
    · by_cases h3 : d = 104
      · subst h3; rfl
      · simp [layM, upA, h1, h2, h3]
theorem lay_105 {I : IM} {k v : Nat} {R W : Nat → Int} {z : Int} : layM I k R (up1 W v z) = upA (layM I k R W) 105 (up1 (layM I k R W 105) v z) := by
  funext d
  by_cases h1 : d = 81
  · subst h1; rfl
  · by_cases h2 : d = 105
    · subst h2; rfl
    · simp [layM, upA, h1, h2]
def LayR (I : IM) (k v m : Nat) (L : List (List Nat)) (R W : Nat → Int) : Prop := (∀ i, i < v → W i = I 105 i) ∧ (∀ j, R j = I 104 j ∨ (0 ≤ R j ∧ R j ≤ 9)) ∧ (∀ j, j < 5 * k → R j = I 104 j) ∧ ∀ j r, L[j]? = some r → (∀ i, i < v → R (5 * (k + j) + i) = I 105 i) ∧ ∀ i, i < m → R (5 * (k + j) + v + i) = ((r.getD i 0 : Nat) : Int)
def LayQ (I : IM) (k v m left : Nat) (all : Bool) (A : IM) : Prop := ∃ R W, A = layM I (k + (rowsL m left all).length) R W ∧ LayR I k v m (rowsL m left all) R W
def LayC (X : pX) (n m : Nat) : Prop := ∀ (h : Nat) (I J : IM) (v k left : Nat) (all : Bool), v + m = n → I 81 1 = n → I 81 33 = k → left ≤ 9 → k + (rowsL m left all).length ≤ 2002 → (∀ i, i < v → 0 ≤ I 105 i ∧ I 105 i ≤ 9) → KVq X (h + m) mX12_layRows [.ref 81, zi (v : Int), zi (left : Int), zi (ab all)] I J (fun A B => LayQ I k v m left all A ∧ J = B)
theorem lay0_a {I : IM} {k v left : Nat} {all : Bool} (hk : I 81 33 = k) (ha : all = true) (hl : 0 < left) : LayQ I k v 0 left all I := by
  have e : rowsL 0 left all = [] := if_pos ⟨ha, hl⟩
  refine ⟨I 104, I 105, ?_, fun i _ => rfl, fun j => Or.inl rfl, fun j _ => rfl, fun j r h => ?_⟩
  · rw [e]; exact (lay_id hk).symm
  · rw [e] at h; exact absurd h (by simp)
theorem lay0_b {I A : IM} {k v left : Nat} {all : Bool} (hp : ∀ i, i < v → 0 ≤ I 105 i ∧ I 105 i ≤ 9) (hq : ¬ (all = true ∧ 0 < left)) (hA : A = upA (copF I 104 (5 * k) v (I 105)) 81 (up1 (I 81) 33 ((k : Int) + 1))) : LayQ I k v 0 left all A := by
  have e : rowsL 0 left all = [[]] := if_neg hq
  refine ⟨copF I 104 (5 * k) v (I 105) 104, I 105, ?_, fun i _ => rfl, fun j => (by show (if 5 * k ≤ j ∧ j < 5 * k + v then I 105 (j - 5 * k) else I 104 j) = I 104 j ∨ (0 ≤ (if 5 * k ≤ j ∧ j < 5 * k + v then I 105 (j - 5 * k) else I 104 j) ∧ (if 5 * k ≤ j ∧ j < 5 * k + v then I 105 (j - 5 * k) else I 104 j) ≤ 9); split; exact Or.inr (hp _ (by omega)); exact Or.inl rfl), fun j hj => ?_, fun j r h => ?_⟩
  · rw [hA, e]
    show _ = upA (upA (upA I 104 _) 105 (I 105)) 81 (up1 (I 81) 33 ((k + 1 : Nat) : Int))
    have e2 : upA (upA I 104 (copF I 104 (5 * k) v (I 105) 104)) 105 (I 105) = copF I 104 (5 * k) v (I 105) := by
      funext d
      by_cases h1 : d = 105
      · subst h1; rfl
      · by_cases h2 : d = 104
        · subst h2; rfl
        · simp [copF, upA, h1, h2]
    rw [e2]; rfl
  · show (if 5 * k ≤ j ∧ j < 5 * k + v then _ else I 104 j) = _
    rw [if_neg (by omega)]
  · rw [e] at h
    have hj : j = 0 := by
      have := (List.getElem?_eq_some_iff.mp h).1
      simp at this
      exact this
    subst hj
    refine ⟨fun i hi => ?_, fun i hi => absurd hi (by omega)⟩
    show (if 5 * k ≤ 5 * (k + 0) + i ∧ 5 * (k + 0) + i < 5 * k + v then I 105 (5 * (k + 0) + i - 5 * k) else _) = _
    rw [if_pos (by omega)]
    congr 1
    omega
set_option maxRecDepth 20000 in
set_option maxHeartbeats 400000 in
theorem lay_z {X : pX} {n : Nat} (hn5 : n ≤ 5) : LayC X n 0 := by
  intro h I J v k left all hv hn hk hl hc hp
  obtain rfl : v = n := by omega
  have hc0 : k < 2002 ∨ (all = true ∧ 0 < left) := by
    by_cases q : all = true ∧ 0 < left
    · exact Or.inr q
    · have e : rowsL 0 left all = [[]] := if_neg q
      rw [e] at hc
      have : [([] : List Nat)].length = 1 := rfl
      omega
  have hab := ab_c all
  show Rz X (h + 0) mX12_layRows 0 [some (.ref 81), some (zi (v : Int)), some (zi (left : Int)), some (zi (ab all)), none] [] I J _
  refine rz_iload_n dX12_layRows_0 rfl ?_
  refine rz_aload_n dX12_layRows_1 rfl ?_
  refine rz_getI (z := (v : Int)) dX12_layRows_2 kf_RX12_137 hd_81 rfl (hn) ?_
  refine rz_icmp_ne (t := 68) dX12_layRows_5 rfl (by omega) (by omega) (fun c5 => ?_) (fun c5 => ?_)
  · exfalso; omega
  · refine rz_iload_n dX12_layRows_8 rfl ?_
    refine rz_if_eq (t := 17) dX12_layRows_9 rfl (by omega) (fun c9 => ?_) (fun c9 => ?_)
    · have hk2 : k < 2002 := hc0.resolve_right (fun q => by have q1 := q.1; have q2 := q.2; subst q1; first | (exact absurd (by assumption) (show ¬ ab true = 0 by decide)) | omega)
      refine rz_iconst dX12_layRows_17 ?_
      refine rz_istore dX12_layRows_18 (by decide) rfl ?_
      refine rz_up (ls := fun q : Nat => [some (.ref 81), some (zi (v : Int)), some (zi (left : Int)), some (zi (ab all)), some (zi (q : Int))]) (IV := fun q : Nat => (copF I 104 (5 * k) q (I 105))) (JV := fun q : Nat => J) (v) ⟨Or.inr rfl, Or.inr rfl, Or.inr rfl, Or.inr rfl, Or.inr rfl, trivial⟩ (copF_0) (rfl) ?_ ?_
      · intro q hq ihq
        refine rz_iload dX12_layRows_20 rfl ?_
        refine rz_aload_n dX12_layRows_22 rfl ?_
        refine rz_getI (z := (v : Int)) dX12_layRows_23 kf_RX12_137 hd_81 rfl (hn) ?_
        refine rz_icmp_ge (t := 57) dX12_layRows_26 rfl (by omega) (by omega) (fun c26 => ?_) (fun c26 => ?_)
        · exfalso; omega
        · refine rz_aload_n dX12_layRows_29 rfl ?_
          refine rz_getR dX12_layRows_30 kf_RX12_78 hd_81 rfl rr_81_32 ?_
          refine rz_iconst dX12_layRows_33 ?_
          refine rz_aload_n dX12_layRows_34 rfl ?_
          refine rz_getI (z := (k : Int)) dX12_layRows_35 kf_RX12_263 hd_81 rfl (hk) ?_
          refine rz_imul dX12_layRows_38 ?_
          refine rz_iload dX12_layRows_39 rfl ?_
          refine rz_iadd dX12_layRows_41 ?_
          refine rz_aload_n dX12_layRows_42 rfl ?_
          refine rz_getR dX12_layRows_43 kf_RX12_81 hd_81 rfl rr_81_34 ?_
          refine rz_iload dX12_layRows_46 rfl ?_
          have hp3 := hp q (by omega)
          refine rz_ialdN (k := q) (z := (I 105 q)) dX12_layRows_48 hd_105 (by decide) (by omega) (by omega) rfl ?_
          refine rz_i2b dX12_layRows_49 (by omega) ?_
          refine rz_bastN (k := (5 * k + q)) dX12_layRows_50 hd_104 (by decide) (by omega) (by omega) (by omega) ?_
          refine rz_iinc dX12_layRows_51 (by decide) rfl rfl rfl ?_
          refine rz_goto (t := 20) dX12_layRows_54 rfl ?_
          exact rz_bk ihq ⟨Or.inr rfl, Or.inr rfl, Or.inr rfl, Or.inr rfl, Or.inr rfl, trivial⟩ (copF_step rfl) (rfl)
      · skip
        refine rz_iload dX12_layRows_20 rfl ?_
        refine rz_aload_n dX12_layRows_22 rfl ?_
        refine rz_getI (z := (v : Int)) dX12_layRows_23 kf_RX12_137 hd_81 rfl (hn) ?_
        refine rz_icmp_ge (t := 57) dX12_layRows_26 rfl (by omega) (by omega) (fun c26 => ?_) (fun c26 => ?_)
        · refine rz_aload_n dX12_layRows_57 rfl ?_
          refine rz_dup dX12_layRows_58 rfl ?_
          refine rz_getI (z := (k : Int)) dX12_layRows_59 kf_RX12_263 hd_81 rfl (hk) ?_
          refine rz_iconst dX12_layRows_62 ?_
          refine rz_iadd dX12_layRows_63 ?_
          refine rz_putI dX12_layRows_64 kp_RX12_263 hd_81 rfl ?_
          refine rz_vret dX12_layRows_67 rfl ?_
          exact ⟨rfl, lay0_b hp (fun q => by have q1 := q.1; have q2 := q.2; subst q1; first | (exact absurd (by assumption) (show ¬ ab true = 0 by decide)) | omega) rfl, rfl⟩
        · exfalso; omega
    · refine rz_iload_n dX12_layRows_12 rfl ?_
      refine rz_if_le (t := 17) dX12_layRows_13 rfl (by omega) (fun c13 => ?_) (fun c13 => ?_)
      · have hk2 : k < 2002 := hc0.resolve_right (fun q => by have q1 := q.1; have q2 := q.2; subst q1; first | (exact absurd (by assumption) (show ¬ ab true = 0 by decide)) | omega)
        refine rz_iconst dX12_layRows_17 ?_
        refine rz_istore dX12_layRows_18 (by decide) rfl ?_
        refine rz_up (ls := fun q : Nat => [some (.ref 81), some (zi (v : Int)), some (zi (left : Int)), some (zi (ab all)), some (zi (q : Int))]) (IV := fun q : Nat => (copF I 104 (5 * k) q (I 105))) (JV := fun q : Nat => J) (v) ⟨Or.inr rfl, Or.inr rfl, Or.inr rfl, Or.inr rfl, Or.inr rfl, trivial⟩ (copF_0) (rfl) ?_ ?_
        · intro q hq ihq
          refine rz_iload dX12_layRows_20 rfl ?_
          refine rz_aload_n dX12_layRows_22 rfl ?_
          refine rz_getI (z := (v : Int)) dX12_layRows_23 kf_RX12_137 hd_81 rfl (hn) ?_
          refine rz_icmp_ge (t := 57) dX12_layRows_26 rfl (by omega) (by omega) (fun c26 => ?_) (fun c26 => ?_)
          · exfalso; omega
          · refine rz_aload_n dX12_layRows_29 rfl ?_
            refine rz_getR dX12_layRows_30 kf_RX12_78 hd_81 rfl rr_81_32 ?_
            refine rz_iconst dX12_layRows_33 ?_
            refine rz_aload_n dX12_layRows_34 rfl ?_
            refine rz_getI (z := (k : Int)) dX12_layRows_35 kf_RX12_263 hd_81 rfl (hk) ?_
            refine rz_imul dX12_layRows_38 ?_
            refine rz_iload dX12_layRows_39 rfl ?_
            refine rz_iadd dX12_layRows_41 ?_
            refine rz_aload_n dX12_layRows_42 rfl ?_
            refine rz_getR dX12_layRows_43 kf_RX12_81 hd_81 rfl rr_81_34 ?_
            refine rz_iload dX12_layRows_46 rfl ?_
            have hp3 := hp q (by omega)
            refine rz_ialdN (k := q) (z := (I 105 q)) dX12_layRows_48 hd_105 (by decide) (by omega) (by omega) rfl ?_
            refine rz_i2b dX12_layRows_49 (by omega) ?_
            refine rz_bastN (k := (5 * k + q)) dX12_layRows_50 hd_104 (by decide) (by omega) (by omega) (by omega) ?_
            refine rz_iinc dX12_layRows_51 (by decide) rfl rfl rfl ?_
            refine rz_goto (t := 20) dX12_layRows_54 rfl ?_
            exact rz_bk ihq ⟨Or.inr rfl, Or.inr rfl, Or.inr rfl, Or.inr rfl, Or.inr rfl, trivial⟩ (copF_step rfl) (rfl)
        · skip
          refine rz_iload dX12_layRows_20 rfl ?_
          refine rz_aload_n dX12_layRows_22 rfl ?_
          refine rz_getI (z := (v : Int)) dX12_layRows_23 kf_RX12_137 hd_81 rfl (hn) ?_
          refine rz_icmp_ge (t := 57) dX12_layRows_26 rfl (by omega) (by omega) (fun c26 => ?_) (fun c26 => ?_)
          · refine rz_aload_n dX12_layRows_57 rfl ?_
            refine rz_dup dX12_layRows_58 rfl ?_
            refine rz_getI (z := (k : Int)) dX12_layRows_59 kf_RX12_263 hd_81 rfl (hk) ?_
            refine rz_iconst dX12_layRows_62 ?_
            refine rz_iadd dX12_layRows_63 ?_
            refine rz_putI dX12_layRows_64 kp_RX12_263 hd_81 rfl ?_
            refine rz_vret dX12_layRows_67 rfl ?_
            exact ⟨rfl, lay0_b hp (fun q => by have q1 := q.1; have q2 := q.2; subst q1; first | (exact absurd (by assumption) (show ¬ ab true = 0 by decide)) | omega) rfl, rfl⟩
          · exfalso; omega
      · refine rz_vret dX12_layRows_16 rfl ?_
        exact ⟨rfl, lay0_a hk (ab_1 (by assumption)) (by omega), rfl⟩
theorem layR_0 {I : IM} {k v m : Nat} : LayR I k v m [] (I 104) (I 105) := ⟨fun i _ => rfl, fun j => Or.inl rfl, fun j _ => rfl, fun j r h => absurd h (by simp)⟩
theorem layR_s {I : IM} {k v m x left : Nat} {all : Bool} {R W R2 W2 : Nat → Int} (h5 : v + (m + 1) ≤ 5) (h : LayR I k v (m + 1) (rowsX m left all x) R W)
    (h2 : LayR (layM I (k + (rowsX m left all x).length) R (up1 W v (x : Int))) (k + (rowsX m left all x).length) (v + 1) m (rowsL m (left - x) all) R2 W2) : LayR I k v (m + 1) (rowsX m left all (x + 1)) R2 W2 := by
  obtain ⟨a1, a4, a2, a3⟩ := h
  obtain ⟨b1, b4, b2, b3⟩ := h2
  have e105 : ∀ i, layM I (k + (rowsX m left all x).length) R (up1 W v (x : Int)) 105 i = up1 W v (x : Int) i := fun i => rfl
  have e104 : ∀ i, layM I (k + (rowsX m left all x).length) R (up1 W v (x : Int)) 104 i = R i := fun i => rfl
  refine ⟨fun i hi => ?_, fun j => ?_, fun j hj => ?_, fun j r hr => ?_⟩
  · rw [b1 i (by omega), e105, up1_ne (by omega)]; exact a1 i hi
  · rcases b4 j with e | e
    · rw [e, e104]; exact a4 j
    · exact Or.inr e
  · rw [b2 j (by omega), e104]; exact a2 j hj
  · rw [rowsX_s] at hr
    by_cases q : j < (rowsX m left all x).length
    · rw [List.getElem?_append_left q] at hr
      obtain ⟨c1, c2⟩ := a3 j r hr
      refine ⟨fun i hi => ?_, fun i hi => ?_⟩
      · rw [b2 _ (by omega), e104]; exact c1 i hi
      · rw [b2 _ (by omega), e104]; exact c2 i hi
    · rw [List.getElem?_append_right (by omega)] at hr
      rw [List.getElem?_map] at hr
      cases hs : (rowsL m (left - x) all)[j - (rowsX m left all x).length]? with
      | none => rw [hs] at hr; exact absurd hr (by simp)
      | some s =>
        rw [hs] at hr
        have hr2 : x :: s = r := by simpa using hr
        subst hr2
        obtain ⟨c1, c2⟩ := b3 _ s hs
        have ej : k + (rowsX m left all x).length + (j - (rowsX m left all x).length) = k + j := by omega
        rw [ej] at c1 c2
        refine ⟨fun i hi => ?_, fun i hi => ?_⟩
        · rw [c1 i (by omega), e105, up1_ne (by omega)]; exact a1 i hi
        · cases i with
          | zero =>
            rw [Nat.add_zero, c1 v (by omega), e105, up1_self]; simp
          | succ i =>
            have := c2 i (by omega)
            rw [show 5 * (k + j) + v + (i + 1) = 5 * (k + j) + (v + 1) + i by omega, this]
            simp
set_option maxRecDepth 20000 in
set_option maxHeartbeats 400000 in
theorem lay_s {X : pX} {n m : Nat} (hn5 : n ≤ 5) (ih : LayC X n m) : LayC X n (m + 1) := by
  intro h I J v k left all hv hn hk hl hc hp
  show Rz X (h + m + 1) mX12_layRows 0 [some (.ref 81), some (zi (v : Int)), some (zi (left : Int)), some (zi (ab all)), none] [] I J _
  refine rz_iload_n dX12_layRows_0 rfl ?_
  refine rz_aload_n dX12_layRows_1 rfl ?_
  refine rz_getI (z := (n : Int)) dX12_layRows_2 kf_RX12_137 hd_81 rfl (hn) ?_
  refine rz_icmp_ne (t := 68) dX12_layRows_5 rfl (by omega) (by omega) (fun c5 => ?_) (fun c5 => ?_)
  · refine rz_iconst dX12_layRows_68 ?_
    refine rz_istore dX12_layRows_69 (by decide) rfl ?_
    refine rz_upx (σ := (Nat → Int) × (Nat → Int)) (Inv := fun x sx => LayR I k v (m + 1) (rowsX m left all x) sx.1 sx.2) (ls := fun (x : Nat) sx => [some (.ref 81), some (zi (v : Int)), some (zi (left : Int)), some (zi (ab all)), some (zi (x : Int))]) (IV := fun (x : Nat) sx => (layM I (k + (rowsX m left all x).length) sx.1 sx.2)) (JV := fun (x : Nat) sx => J) ((left + 1)) ((I 104, I 105)) layR_0 ⟨Or.inr rfl, Or.inr rfl, Or.inr rfl, Or.inr rfl, Or.inr rfl, trivial⟩ ((lay_id hk)) (rfl) ?_ ?_
    · intro x sx hx qx ihx
      obtain ⟨R, W⟩ := sx
      have qx : LayR I k v (m + 1) (rowsX m left all x) R W := qx
      refine rz_to (ls' := [some (.ref 81), some (zi (v : Int)), some (zi (left : Int)), some (zi (ab all)), some (zi (x : Int))]) (I' := (layM I (k + (rowsX m left all x).length) R W)) (J' := J) ⟨Or.inr rfl, Or.inr rfl, Or.inr rfl, Or.inr rfl, Or.inr rfl, trivial⟩ rfl rfl ?_
      refine rz_iload dX12_layRows_71 rfl ?_
      refine rz_iload_n dX12_layRows_73 rfl ?_
      refine rz_icmp_gt (t := 103) dX12_layRows_74 rfl (by omega) (by omega) (fun c74 => ?_) (fun c74 => ?_)
      · exfalso; omega
      · refine rz_aload_n dX12_layRows_77 rfl ?_
        refine rz_getR dX12_layRows_78 kf_RX12_81 hd_81 rfl rr_81_34 ?_
        refine rz_iload_n dX12_layRows_81 rfl ?_
        refine rz_iload dX12_layRows_82 rfl ?_
        refine rz_iastN (k := v) dX12_layRows_84 hd_105 (by decide) (by omega) (by omega) ?_
        refine rz_mem (I' := (layM I (k + (rowsX m left all x).length) R (up1 W v (x : Int)))) (J' := J) (lay_105) (rfl) ?_
        refine rz_aload_n dX12_layRows_85 rfl ?_
        refine rz_iload_n dX12_layRows_86 rfl ?_
        refine rz_iconst dX12_layRows_87 ?_
        refine rz_iadd dX12_layRows_88 ?_
        refine rz_iload_n dX12_layRows_89 rfl ?_
        refine rz_iload dX12_layRows_90 rfl ?_
        refine rz_isub dX12_layRows_92 ?_
        refine rz_iload_n dX12_layRows_93 rfl ?_
        refine rz_cVVq dX12_layRows_94 kl_RX12_266 hd_81 ⟨_, _, rfl⟩ ((by have q := ih h (layM I (k + (rowsX m left all x).length) R (up1 W v (x : Int))) J (v + 1) (k + (rowsX m left all x).length) (left - x) all (by omega) hn rfl (by omega) (by have e1 := rowsX_le (m := m) (left := left) (all := all) (k := x + 1) (j := left + 1) (by omega); rw [rowsX_s] at e1; rw [List.length_append, List.length_map] at e1; rw [rowsL_s] at hc; omega) (fun i hi => by by_cases e : i = v; (subst e; show 0 ≤ up1 W i (x : Int) i ∧ up1 W i (x : Int) i ≤ 9; rw [up1_self]; omega); (show 0 ≤ up1 W v (x : Int) i ∧ up1 W v (x : Int) i ≤ 9; rw [up1_ne e, qx.1 i (by omega)]; exact hp i (by omega))); rw [show (((left - x : Nat)) : Int) = (left : Int) - (x : Int) by omega] at q; exact q)) rfl rfl (Nat.le_of_ble_eq_true rfl) (Nat.le_of_ble_eq_true rfl) ?_
        rintro _ _ ⟨⟨R2, W2, rfl, k94⟩, rfl⟩
        refine rz_iinc dX12_layRows_97 (by decide) rfl rfl rfl ?_
        refine rz_goto (t := 71) dX12_layRows_100 rfl ?_
        exact rz_bk (ihx ((R2, W2)) (layR_s (by omega) qx k94)) ⟨Or.inr rfl, Or.inr rfl, Or.inr rfl, Or.inr rfl, Or.inr rfl, trivial⟩ ((by rw [rowsX_s, List.length_append, List.length_map, ← Nat.add_assoc]; exact layM_layM.symm)) (rfl)
    · intro sx qx
      refine rz_iload dX12_layRows_71 rfl ?_
      refine rz_iload_n dX12_layRows_73 rfl ?_
      refine rz_icmp_gt (t := 103) dX12_layRows_74 rfl (by omega) (by omega) (fun c74 => ?_) (fun c74 => ?_)
      · refine rz_vret dX12_layRows_103 rfl ?_
        exact ⟨rfl, ⟨sx.1, sx.2, rfl, by rw [rowsL_s]; exact qx⟩, rfl⟩
      · exfalso; omega
  · exfalso; omega
theorem c_lay {X : pX} {n : Nat} (hn5 : n ≤ 5) : ∀ m, LayC X n m
  | 0 => lay_z hn5
  | m + 1 => lay_s hn5 (c_lay hn5 m)
/-- the rows as they lie -/
def RowsAt (R : Nat → Int) (n : Nat) (L : List (List Nat)) : Prop := ∀ j r, L[j]? = some r → ∀ i, i < n → R (5 * j + i) = ((r.getD i 0 : Nat) : Int)
theorem fr_eq {I : IM} {k : Nat} {R W : Nat → Int} : layM (upA I 81 (up1 (I 81) 33 0)) k R W = layM I k R W := by
  funext d
  by_cases h1 : d = 81
  · subst h1
    funext j
    show up1 (up1 (I 81) 33 0) 33 (k : Int) j = up1 (I 81) 33 (k : Int) j
    unfold up1
    split <;> rfl
  · by_cases h2 : d = 105
    · subst h2; rfl
    · by_cases h3 : d = 104
      · subst h3; rfl
      · simp [layM, upA, h1, h2, h3]
set_option maxRecDepth 20000 in
set_option maxHeartbeats 400000 in
theorem c_X12_findRows {X : pX} {I J : IM} {h : Nat} (n : Nat) (hn : I 81 1 = n ∧ n ≤ 5) (left : Nat) (all : Bool) (hl : left ≤ 9) (hc : (rowsL n left all).length ≤ 2002) : KVq X (h + 6) mX12_findRows [.ref 81, zi (left : Int), zi (ab all)] I J (fun A B => (∃ R W, A = layM I (rowsL n left all).length R W ∧ RowsAt R n (rowsL n left all) ∧ ∀ j, R j = I 104 j ∨ (0 ≤ R j ∧ R j ≤ 9)) ∧ J = B) := by
  show Rz X (h + 6) mX12_findRows 0 [some (.ref 81), some (zi (left : Int)), some (zi (ab all))] [] I J _
  refine rz_aload_n dX12_findRows_0 rfl ?_
  refine rz_iconst dX12_findRows_1 ?_
  refine rz_putI dX12_findRows_2 kp_RX12_263 hd_81 rfl ?_
  refine rz_mem (I' := (upA I 81 (up1 (I 81) 33 0))) (J' := J) (rfl) (rfl) ?_
  refine rz_aload_n dX12_findRows_5 rfl ?_
  refine rz_iconst dX12_findRows_6 ?_
  refine rz_iload_n dX12_findRows_7 rfl ?_
  refine rz_iload_n dX12_findRows_8 rfl ?_
  refine rz_cVVq dX12_findRows_9 kl_RX12_266 hd_81 ⟨_, _, rfl⟩ ((by have q := c_lay (X := X) hn.2 n (h + (5 - n)) (upA I 81 (up1 (I 81) 33 0)) J 0 0 left all (by omega) hn.1 rfl hl (by rw [Nat.zero_add]; exact hc) (fun i hi => absurd hi (by omega)); rw [show h + (5 - n) + n = h + 5 by omega] at q; exact q)) rfl rfl (Nat.le_of_ble_eq_true rfl) (Nat.le_of_ble_eq_true rfl) ?_
  rintro _ _ ⟨⟨R, W, rfl, k9⟩, rfl⟩
  refine rz_vret dX12_findRows_12 rfl ?_
  exact ⟨rfl, ⟨R, W, by rw [Nat.zero_add]; exact fr_eq, fun j r hj i hi => by have := (k9.2.2.2 j r hj).2 i hi; rw [← this]; congr 1; omega, k9.2.1⟩, rfl⟩
