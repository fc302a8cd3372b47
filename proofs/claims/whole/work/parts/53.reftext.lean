/-! the reference reads: all of a text -/
def cpX (a b off : Nat) (I : IM) (n : Nat) : IM := upA (upA I a (fun j => if j < n then I a (off + j) else I a j)) b (fun j => if j < n then I b (off + j) else I b j)
theorem cpX_0 {a b off : Nat} {I : IM} (h : a ≠ b) : cpX a b off I 0 = I := by
  unfold cpX
  simp only [Nat.not_lt_zero, if_false]
  funext d
  by_cases h1 : d = b
  · subst h1; simp [upA]
  · by_cases h2 : d = a
    · subst h2; simp [upA, h1]
    · simp [upA, h1, h2]
theorem cpX_step {a b off n : Nat} {I : IM} (h : a ≠ b) : cpX a b off I (n + 1) = upA (upA (cpX a b off I n) a (up1 (cpX a b off I n a) n (I a (off + n)))) b (up1 (upA (cpX a b off I n) a (up1 (cpX a b off I n a) n (I a (off + n))) b) n (I b (off + n))) := by
  have key : ∀ c j, (if j < n + 1 then I c (off + j) else I c j) = up1 (fun j => if j < n then I c (off + j) else I c j) n (I c (off + n)) j := by
    intro c j
    unfold up1
    by_cases e : j = n
    · subst e; simp
    · by_cases e2 : j < n
      · simp [e, e2, Nat.lt_succ_of_lt e2]
      · simp [e, e2, show ¬ j < n + 1 by omega]
  funext d
  by_cases h1 : d = b
  · subst h1
    funext j
    simp only [cpX, upA, if_true, if_neg (Ne.symm h)]
    exact key d j
  · by_cases h2 : d = a
    · subst h2
      funext j
      simp only [cpX, upA, if_true, if_neg h]
      exact key d j
    · simp [cpX, upA, h1, h2]
theorem cpX_a {a b off n q : Nat} {I : IM} (h : a ≠ b) (ho : n ≤ off + q) : cpX a b off I n a (off + q) = I a (off + q) := by
  simp only [cpX, upA, if_true, if_neg h]
  exact if_neg (by omega)
theorem cpX_b {a b off n q : Nat} {I : IM} (ho : n ≤ off + q) {g : Nat → Int} (h : a ≠ b) : upA (cpX a b off I n) a g b (off + q) = I b (off + q) := by
  simp only [cpX, upA, if_true, if_neg (Ne.symm h)]
  exact if_neg (by omega)
def rt2 (I : IM) (n m : Nat) : IM := upA (cpX 95 96 130 I n) 97 (up1 (cpX 95 96 130 I n 97) 0 (m : Int))
def cp3 (I : IM) (n m : Nat) : IM := cpX 98 99 61 (rt2 I n m) m
set_option maxRecDepth 20000 in
set_option maxHeartbeats 400000 in
theorem c_X12_rt103 {X : pX} {J : IM} {h : Nat} (I : IM) (n m : Nat) (hn : I 81 21 = n ∧ n ≤ 121) (hm : I 97 1 = m ∧ m ≤ 61) (hB : ∀ q, q < n → -128 ≤ I 95 (130 + q) ∧ I 95 (130 + q) ≤ 127) (hS : ∀ q, q < m → (-32768 ≤ I 98 (61 + q) ∧ I 98 (61 + q) ≤ 32767) ∧ (-32768 ≤ I 99 (61 + q) ∧ I 99 (61 + q) ≤ 32767)) : Rz X h mX12_readText 103 [some (.ref 81), some (zi 0), none] [] I J (fun r A B => r = some (zi (-1)) ∧ A = cp3 I n m ∧ J = B) := by
  refine rz_iconst dX12_readText_103 ?_
  refine rz_istore_n dX12_readText_104 (by decide) rfl ?_
  refine rz_up (ls := fun q : Nat => [some (.ref 81), some (zi 0), some (zi (q : Int))]) (IV := fun q : Nat => (cpX 95 96 130 I q)) (JV := fun q : Nat => J) (n) ⟨Or.inr rfl, Or.inr rfl, Or.inr rfl, trivial⟩ (cpX_0 (by decide)) (rfl) ?_ ?_
  · intro q hq ihq
    refine rz_iload_n dX12_readText_105 rfl ?_
    refine rz_aload_n dX12_readText_106 rfl ?_
    refine rz_getI (z := (n : Int)) dX12_readText_107 kf_RX12_188 hd_81 rfl (hn.1) ?_
    refine rz_icmp_ge (t := 163) dX12_readText_110 rfl (by omega) (by omega) (fun c110 => ?_) (fun c110 => ?_)
    · exfalso; omega
    · refine rz_aload_n dX12_readText_113 rfl ?_
      refine rz_getR dX12_readText_114 kf_RX12_50 hd_81 rfl rr_81_22 ?_
      refine rz_sipush dX12_readText_117 (by decide) ?_
      refine rz_iload_n dX12_readText_120 rfl ?_
      refine rz_imul dX12_readText_121 ?_
      refine rz_iload_n dX12_readText_122 rfl ?_
      refine rz_iadd dX12_readText_123 ?_
      refine rz_aload_n dX12_readText_124 rfl ?_
      refine rz_getR dX12_readText_125 kf_RX12_50 hd_81 rfl rr_81_22 ?_
      refine rz_sipush dX12_readText_128 (by decide) ?_
      refine rz_iload_n dX12_readText_131 rfl ?_
      refine rz_iadd dX12_readText_132 ?_
      refine rz_baldN (k := (130 + q)) (z := (I 95 (130 + q))) dX12_readText_133 hd_95 (by decide) (by omega) (by omega) (cpX_a (by decide) (by omega)) ?_
      refine rz_bastN (k := q) dX12_readText_134 hd_95 (by decide) (by omega) (by omega) (hB q (by omega)) ?_
      refine rz_aload_n dX12_readText_135 rfl ?_
      refine rz_getR dX12_readText_136 kf_RX12_53 hd_81 rfl rr_81_23 ?_
      refine rz_sipush dX12_readText_139 (by decide) ?_
      refine rz_iload_n dX12_readText_142 rfl ?_
      refine rz_imul dX12_readText_143 ?_
      refine rz_iload_n dX12_readText_144 rfl ?_
      refine rz_iadd dX12_readText_145 ?_
      refine rz_aload_n dX12_readText_146 rfl ?_
      refine rz_getR dX12_readText_147 kf_RX12_53 hd_81 rfl rr_81_23 ?_
      refine rz_sipush dX12_readText_150 (by decide) ?_
      refine rz_iload_n dX12_readText_153 rfl ?_
      refine rz_iadd dX12_readText_154 ?_
      refine rz_ialdN (k := (130 + q)) (z := (I 96 (130 + q))) dX12_readText_155 hd_96 (by decide) (by omega) (by omega) (cpX_b (by omega) (by decide)) ?_
      refine rz_iastN (k := q) dX12_readText_156 hd_96 (by decide) (by omega) (by omega) ?_
      refine rz_iinc dX12_readText_157 (by decide) rfl rfl rfl ?_
      refine rz_goto (t := 105) dX12_readText_160 rfl ?_
      exact rz_bk ihq ⟨Or.inr rfl, Or.inr rfl, Or.inr rfl, trivial⟩ (cpX_step (by decide)) (rfl)
  · skip
    refine rz_iload_n dX12_readText_105 rfl ?_
    refine rz_aload_n dX12_readText_106 rfl ?_
    refine rz_getI (z := (n : Int)) dX12_readText_107 kf_RX12_188 hd_81 rfl (hn.1) ?_
    refine rz_icmp_ge (t := 163) dX12_readText_110 rfl (by omega) (by omega) (fun c110 => ?_) (fun c110 => ?_)
    · refine rz_aload_n dX12_readText_163 rfl ?_
      refine rz_getR dX12_readText_164 kf_RX12_56 hd_81 rfl rr_81_24 ?_
      refine rz_iload_n dX12_readText_167 rfl ?_
      refine rz_aload_n dX12_readText_168 rfl ?_
      refine rz_getR dX12_readText_169 kf_RX12_56 hd_81 rfl rr_81_24 ?_
      refine rz_iconst dX12_readText_172 ?_
      refine rz_iald (z := (m : Int)) dX12_readText_173 hd_97 (by decide) (by omega) hm.1 ?_
      refine rz_iast dX12_readText_174 hd_97 (by decide) (by omega) ?_
      refine rz_mem (I' := (rt2 I n m)) (J' := J) (rfl) (rfl) ?_
      refine rz_iconst dX12_readText_175 ?_
      refine rz_istore_n dX12_readText_176 (by decide) rfl ?_
      refine rz_up (ls := fun q : Nat => [some (.ref 81), some (zi 0), some (zi (q : Int))]) (IV := fun q : Nat => (cpX 98 99 61 (rt2 I n m) q)) (JV := fun q : Nat => J) (m) ⟨Or.inr rfl, Or.inr rfl, Or.inr rfl, trivial⟩ (cpX_0 (by decide)) (rfl) ?_ ?_
      · intro q hq ihq
        refine rz_iload_n dX12_readText_177 rfl ?_
        refine rz_aload_n dX12_readText_178 rfl ?_
        refine rz_getR dX12_readText_179 kf_RX12_56 hd_81 rfl rr_81_24 ?_
        refine rz_iload_n dX12_readText_182 rfl ?_
        refine rz_iald (z := (m : Int)) dX12_readText_183 hd_97 (by decide) (by omega) rfl ?_
        refine rz_icmp_ge (t := 233) dX12_readText_184 rfl (by omega) (by omega) (fun c184 => ?_) (fun c184 => ?_)
        · exfalso; omega
        · refine rz_aload_n dX12_readText_187 rfl ?_
          refine rz_getR dX12_readText_188 kf_RX12_59 hd_81 rfl rr_81_25 ?_
          refine rz_bipush dX12_readText_191 (by decide) ?_
          refine rz_iload_n dX12_readText_193 rfl ?_
          refine rz_imul dX12_readText_194 ?_
          refine rz_iload_n dX12_readText_195 rfl ?_
          refine rz_iadd dX12_readText_196 ?_
          refine rz_aload_n dX12_readText_197 rfl ?_
          refine rz_getR dX12_readText_198 kf_RX12_59 hd_81 rfl rr_81_25 ?_
          refine rz_bipush dX12_readText_201 (by decide) ?_
          refine rz_iload_n dX12_readText_203 rfl ?_
          refine rz_iadd dX12_readText_204 ?_
          refine rz_saldN (k := (61 + q)) (z := (I 98 (61 + q))) dX12_readText_205 hd_98 (by decide) (by omega) (by omega) (cpX_a (I := rt2 I n m) (by decide) (by omega)) ?_
          refine rz_sastN (k := q) dX12_readText_206 hd_98 (by decide) (by omega) (by omega) (hS q (by omega)).1 ?_
          refine rz_aload_n dX12_readText_207 rfl ?_
          refine rz_getR dX12_readText_208 kf_RX12_63 hd_81 rfl rr_81_26 ?_
          refine rz_bipush dX12_readText_211 (by decide) ?_
          refine rz_iload_n dX12_readText_213 rfl ?_
          refine rz_imul dX12_readText_214 ?_
          refine rz_iload_n dX12_readText_215 rfl ?_
          refine rz_iadd dX12_readText_216 ?_
          refine rz_aload_n dX12_readText_217 rfl ?_
          refine rz_getR dX12_readText_218 kf_RX12_63 hd_81 rfl rr_81_26 ?_
          refine rz_bipush dX12_readText_221 (by decide) ?_
          refine rz_iload_n dX12_readText_223 rfl ?_
          refine rz_iadd dX12_readText_224 ?_
          refine rz_saldN (k := (61 + q)) (z := (I 99 (61 + q))) dX12_readText_225 hd_99 (by decide) (by omega) (by omega) (cpX_b (I := rt2 I n m) (by omega) (by decide)) ?_
          refine rz_sastN (k := q) dX12_readText_226 hd_99 (by decide) (by omega) (by omega) (hS q (by omega)).2 ?_
          refine rz_iinc dX12_readText_227 (by decide) rfl rfl rfl ?_
          refine rz_goto (t := 177) dX12_readText_230 rfl ?_
          exact rz_bk ihq ⟨Or.inr rfl, Or.inr rfl, Or.inr rfl, trivial⟩ (cpX_step (by decide)) (rfl)
      · skip
        refine rz_iload_n dX12_readText_177 rfl ?_
        refine rz_aload_n dX12_readText_178 rfl ?_
        refine rz_getR dX12_readText_179 kf_RX12_56 hd_81 rfl rr_81_24 ?_
        refine rz_iload_n dX12_readText_182 rfl ?_
        refine rz_iald (z := (m : Int)) dX12_readText_183 hd_97 (by decide) (by omega) rfl ?_
        refine rz_icmp_ge (t := 233) dX12_readText_184 rfl (by omega) (by omega) (fun c184 => ?_) (fun c184 => ?_)
        · refine rz_iconst dX12_readText_233 ?_
          refine rz_iret dX12_readText_234 rfl ?_
          exact ⟨rfl, rfl, rfl⟩
        · exfalso; omega
    · exfalso; omega
def PgOK (pg : List (List Int × List Int)) : Prop := ∀ x, x ∈ pg → LnOK x
def LOK (TE LE : Nat → Int) (pg : List (List Int × List Int)) : Prop := ∀ k x, pg[k]? = some x → TE (61 + k) = ((codeR (pg.take k)).length : Int) + x.1.length ∧ LE (61 + k) = ((codeR (pg.take (k + 1))).length : Int)
/-- the law as the reference keeps it -/
def LawR (I : IM) (pg : List (List Int × List Int)) : Prop := I 97 0 = pg.length ∧ (∀ i, i < (codeR pg).length → I 95 i = actC ((codeR pg).getD i 0) ∧ I 96 i = withC ((codeR pg).getD i 0)) ∧ ∀ k x, pg[k]? = some x → I 98 k = ((codeR (pg.take k)).length : Int) + x.1.length ∧ I 99 k = ((codeR (pg.take (k + 1))).length : Int)
abbrev rtC (T : Nat → Int) (L : Nat) : PS := lpS T L (clS T L) 120 (clS T L (0, -1, []))
def RtQ (T : Nat → Int) (L : Nat) (I : IM) (z : Int) (A : IM) : Prop := z = (rdS T L).2.1 ∧ (∀ a, a ≠ 81 → a ≠ 95 → a ≠ 96 → a ≠ 97 → a ≠ 98 → a ≠ 99 → A a = I a) ∧ (∀ k, (k < 17 ∨ 21 < k) → A 81 k = I 81 k) ∧ A 81 17 = 0 ∧
  ((z < 0 ∧ ∃ pg, PgOK pg ∧ (rdS T L).2.2 = codeC pg ∧ LawR A pg ∧ (codeR pg).length ≤ 121 ∧ pg.length ≤ 61) ∨ (0 ≤ z ∧ ∀ pg, (codeR pg).length ≤ 121 → pg.length ≤ 61 → LawR I pg → LawR A pg))
def FinI (T : Nat → Int) (L : Nat) (I : IM) (t : PS) (o : Int) (E W TE LE : Nat → Int) (m : Nat) : Prop := t.1 ≤ L ∧ t.2.2.length ≤ t.1 + 1 ∧ m ≤ 61 ∧ FrE I E W ∧ (∀ k, k < 61 → TE k = I 98 k ∧ LE k = I 99 k) ∧
  ((t.2.1 = -1 ∧ EOK E W t.2.2 ∧ ∃ pg, PgOK pg ∧ t.2.2 = codeR pg ∧ m = pg.length ∧ LOK TE LE pg ∧ rtC T L = (t.1, -1, codeC pg)) ∨ (0 ≤ t.2.1 ∧ t.2.1 ≤ L ∧ RelS T L (rtC T L) t.2.1))
theorem act_ok : ∀ (l : List Int) (h B x : Nat), hts l h B = some x → ∀ c, c ∈ l → -128 ≤ actC c ∧ actC c ≤ 127
  | [], h, B, x, e, c, hc => absurd hc (by simp)
  | d :: l, h, B, x, e, c, hc => by
    rw [hts_c] at e
    have hd : ((0 ≤ d ∧ d ≤ 9999) ∨ namC (-d) ∨ d = -33 ∨ d = -1 ∨ binC (-d)) ∧ ∃ h', hts l h' B = some x := by
      by_cases h1 : (0 ≤ d ∧ d ≤ 9999) ∨ namC (-d)
      · rw [if_pos h1] at e
        by_cases h2 : h + 1 ≤ B
        · rw [if_pos h2] at e; exact ⟨by omega, _, e⟩
        · rw [if_neg h2] at e; exact absurd e (by simp)
      · rw [if_neg h1] at e
        by_cases h3 : d = -33 ∨ d = -1
        · rw [if_pos h3] at e
          by_cases h2 : 1 ≤ h
          · rw [if_pos h2] at e; exact ⟨by omega, _, e⟩
          · rw [if_neg h2] at e; exact absurd e (by simp)
        · rw [if_neg h3] at e
          by_cases h2 : 2 ≤ h ∧ binC (-d)
          · rw [if_pos h2] at e; exact ⟨Or.inr (Or.inr (Or.inr (Or.inr h2.2))), _, e⟩
          · rw [if_neg h2] at e; exact absurd e (by simp)
    rcases List.mem_cons.mp hc with e1 | e1
    · subst e1
      have := hd.1
      unfold actC
      split
      · omega
      · split
        · omega
        · split
          · omega
          · split
            · omega
            · rcases this with q | q | q | q | q <;> omega
    · obtain ⟨h', e2⟩ := hd.2
      exact act_ok l h' B x e2 c e1
theorem act_pg {pg : List (List Int × List Int)} (h : PgOK pg) {c : Int} (hc : c ∈ codeR pg) : -128 ≤ actC c ∧ actC c ≤ 127 := by
  unfold codeR at hc
  obtain ⟨x, hx, hcx⟩ := List.mem_flatMap.mp hc
  obtain ⟨h1, h2⟩ := h x hx
  rcases List.mem_append.mp hcx with q | q
  · rcases h1 with e | e
    · rw [e] at q; exact absurd q (by simp)
    · exact act_ok _ _ _ _ (e 0) _ q
  · exact act_ok _ _ _ _ (h2 0) _ q
theorem rd_ft {T : Nat → Int} {L : Nat} {f : Int} (hf : 0 ≤ f) (h : RelS T L (rtC T L) f) : (rdS T L).2.1 = f := by
  show (flL L (rtC T L)).2.1 = f
  unfold flL
  rcases h with e | ⟨e1, e2, e3⟩
  · split
    · rw [flS_f (by omega)]; exact e
    · exact e
  · obtain ⟨-, j2, -⟩ := nxS_ne (show nxS T L (rtC T L) ≠ -1 by omega)
    rw [if_pos j2, flS, if_pos e1]
    exact e2
theorem take_len {pg : List (List Int × List Int)} : codeR (pg.take pg.length) = codeR pg := by rw [List.take_length]
theorem codeR_take (pg : List (List Int × List Int)) (k : Nat) : (codeR (pg.take k)).length ≤ (codeR pg).length := by
  unfold codeR
  conv => rhs; rw [← List.take_append_drop k pg]
  rw [List.flatMap_append, List.length_append]
  omega
theorem codeR_at {pg : List (List Int × List Int)} {k : Nat} {x : List Int × List Int} (h : pg[k]? = some x) : (codeR (pg.take k)).length + x.1.length + x.2.length = (codeR (pg.take (k + 1))).length := by
  have hk : pg.take (k + 1) = pg.take k ++ [x] := by
    rw [List.take_add_one, h]; rfl
  rw [hk]
  unfold codeR
  rw [List.flatMap_append, List.length_append]
  simp
  omega
/-- where a fault was found: the law before it stays -/
theorem fin_ft {T : Nat → Int} {L : Nat} {I : IM} {t : PS} {o : Int} {E W TE LE : Nat → Int} {m : Nat} {f : Int} (hf : 0 ≤ f) (hr : (rdS T L).2.1 = f) (hw : FrE I E W) (hl : ∀ k, k < 61 → TE k = I 98 k ∧ LE k = I 99 k) : RtQ T L I f (upA (encR (lnI I (m : Int) TE LE) t o E W) 81 (up1 (encR (lnI I (m : Int) TE LE) t o E W 81) 17 0)) := by
  refine ⟨hr.symm, fun a h1 h2 h3 h4 h5 h6 => ?_, fun k hk => ?_, rfl, Or.inr ⟨hf, fun pg h1 h2 h3 => ?_⟩⟩
  · simp [upA, encR, lnI, h1, h2, h3, h4, h5, h6]
  · show up1 (up1 (up1 (up1 (up1 (I 81) 18 _) 19 _) 20 _) 21 _) 17 0 k = _
    rw [up1_ne (by omega), up1_ne (by omega), up1_ne (by omega), up1_ne (by omega), up1_ne (by omega)]
  · obtain ⟨g1, g2, g3⟩ := h3
    refine ⟨?_, fun i hi => ?_, fun k x hx => ?_⟩
    · show up1 (I 97) 1 (m : Int) 0 = _
      rw [up1_ne (by decide)]; exact g1
    · show E i = _ ∧ W i = _
      rw [(hw i (by omega)).1, (hw i (by omega)).2]; exact g2 i hi
    · have hk : k < pg.length := (List.getElem?_eq_some_iff.mp hx).1
      show TE k = _ ∧ LE k = _
      rw [(hl k (by omega)).1, (hl k (by omega)).2]; exact g3 k x hx
theorem fin_ok {T : Nat → Int} {L : Nat} {I : IM} {t : PS} {o : Int} {E W TE LE : Nat → Int} {pg : List (List Int × List Int)} (hL : L ≤ 120) (h1 : t.1 = L) (h2 : t.2.2.length ≤ t.1 + 1) (hp : PgOK pg) (hc : t.2.2 = codeR pg) (hE : EOK E W t.2.2) (hm : pg.length ≤ 61) (hl : LOK TE LE pg) (hC : rtC T L = (t.1, -1, codeC pg)) :
    RtQ T L I (-1) (cp3 (upA (encR (lnI I (pg.length : Int) TE LE) t o E W) 81 (up1 (encR (lnI I (pg.length : Int) TE LE) t o E W 81) 17 0)) t.2.2.length pg.length) := by
  have hr : rdS T L = (t.1, -1, codeC pg) := by
    show flL L (rtC T L) = _
    rw [hC, flL, if_neg (by show ¬ t.1 < L; omega)]
  refine ⟨by rw [hr], fun a h1 h2 h3 h4 h5 h6 => ?_, fun k hk => ?_, rfl, Or.inl ⟨by decide, pg, hp, by rw [hr], ⟨rfl, fun i hi => ?_, fun k x hx => ?_⟩, by rw [← hc]; omega, hm⟩⟩
  · simp [cp3, rt2, cpX, upA, encR, lnI, h1, h2, h3, h4, h5, h6]
  · show up1 (up1 (up1 (up1 (up1 (I 81) 18 _) 19 _) 20 _) 21 _) 17 0 k = _
    rw [up1_ne (by omega), up1_ne (by omega), up1_ne (by omega), up1_ne (by omega), up1_ne (by omega)]
  · show (if i < t.2.2.length then E (130 + i) else E i) = _ ∧ (if i < t.2.2.length then W (130 + i) else W i) = _
    rw [← hc] at hi ⊢
    rw [if_pos hi, if_pos hi]
    exact hE i hi
  · have hk : k < pg.length := (List.getElem?_eq_some_iff.mp hx).1
    show (if k < pg.length then TE (61 + k) else TE k) = _ ∧ (if k < pg.length then LE (61 + k) else LE k) = _
    rw [if_pos hk, if_pos hk]
    exact hl k x hx
set_option maxRecDepth 20000 in
set_option maxHeartbeats 400000 in
theorem c_X12_rt64 {X : pX} {I J : IM} {T : Nat → Int} {L m h : Nat} {t : PS} {o : Int} {E W TE LE : Nat → Int} (hL : I 81 17 = L ∧ L ≤ 120) (hq : FinI T L I t o E W TE LE m) : Rz X (h + 46) mX12_readText 64 [some (.ref 81), some (zi 0), none] [] (encR (lnI I (m : Int) TE LE) t o E W) J (fun r A B => ∃ z, r = some (zi z) ∧ RtQ T L I z A ∧ J = B) := by
  obtain ⟨q1, q2, q3, q4, q5, q6⟩ := hq
  have q7 : -1 ≤ t.2.1 ∧ t.2.1 ≤ 120 := by rcases q6 with ⟨e1, -⟩ | ⟨e1, e2, -⟩ <;> omega
  refine rz_aload_n dX12_readText_64 rfl ?_
  refine rz_getI (z := t.2.1) dX12_readText_65 kf_RX12_185 hd_81 rfl (rfl) ?_
  refine rz_if_ge (t := 86) dX12_readText_68 rfl (by omega) (fun c68 => ?_) (fun c68 => ?_)
  · refine rz_aload_n dX12_readText_86 rfl ?_
    refine rz_iconst dX12_readText_87 ?_
    refine rz_putI dX12_readText_88 kp_RX12_179 hd_81 rfl ?_
    refine rz_aload_n dX12_readText_91 rfl ?_
    refine rz_getI (z := t.2.1) dX12_readText_92 kf_RX12_185 hd_81 rfl (rfl) ?_
    refine rz_if_lt (t := 103) dX12_readText_95 rfl (by omega) (fun c95 => ?_) (fun c95 => ?_)
    · first
        | (exfalso; omega)
        | (rcases q6 with ⟨e1, e2, pg, e3, e4, e5, e6, e7⟩ | ⟨e1, -⟩
           · subst e5
             have hlen := codeR_take pg
             have hll : (codeR pg).length = t.2.2.length := by rw [e4]
             refine Rz.mono (c_X12_rt103 _ t.2.2.length pg.length ⟨rfl, by omega⟩ ⟨rfl, by omega⟩ (fun q hq => ?_) (fun q hq => ?_)) ?_
             · show -128 ≤ E (130 + q) ∧ E (130 + q) ≤ 127
               rw [(e2 q hq).1]
               refine act_pg e3 ?_
               rw [← e4, List.getD_eq_getElem?_getD, List.getElem?_eq_getElem hq]
               exact List.getElem_mem hq
             · obtain ⟨x, hx⟩ : ∃ x, pg[q]? = some x := ⟨pg[q], List.getElem?_eq_getElem hq⟩
               show (-32768 ≤ TE (61 + q) ∧ TE (61 + q) ≤ 32767) ∧ (-32768 ≤ LE (61 + q) ∧ LE (61 + q) ≤ 32767)
               rw [(e6 q x hx).1, (e6 q x hx).2]
               have c1 := codeR_at hx
               have c2 := hlen (q + 1)
               omega
             · rintro r A B ⟨g1, g2, g3⟩
               refine ⟨_, g1, ?_, g3⟩
               rw [g2]
               exact fin_ok hL.2 (by omega) q2 e3 e4 e2 q3 e6 e7
           · exact absurd e1 (by omega))
    · refine rz_aload_n dX12_readText_98 rfl ?_
      refine rz_getI (z := t.2.1) dX12_readText_99 kf_RX12_185 hd_81 rfl (rfl) ?_
      refine rz_iret dX12_readText_102 rfl ?_
      rcases q6 with ⟨e1, -⟩ | ⟨e1, e2, e3⟩
      · exact absurd e1 (by omega)
      · exact ⟨_, rfl, fin_ft e1 (rd_ft e1 e3) q4 q5, rfl⟩
  · refine rz_aload_n dX12_readText_71 rfl ?_
    refine rz_getI (z := (t.1 : Int)) dX12_readText_72 kf_RX12_182 hd_81 rfl (rfl) ?_
    refine rz_aload_n dX12_readText_75 rfl ?_
    refine rz_getI (z := (L : Int)) dX12_readText_76 kf_RX12_179 hd_81 rfl (hL.1) ?_
    refine rz_icmp_ge (t := 86) dX12_readText_79 rfl (by omega) (by omega) (fun c79 => ?_) (fun c79 => ?_)
    · refine rz_aload_n dX12_readText_86 rfl ?_
      refine rz_iconst dX12_readText_87 ?_
      refine rz_putI dX12_readText_88 kp_RX12_179 hd_81 rfl ?_
      refine rz_aload_n dX12_readText_91 rfl ?_
      refine rz_getI (z := t.2.1) dX12_readText_92 kf_RX12_185 hd_81 rfl (rfl) ?_
      refine rz_if_lt (t := 103) dX12_readText_95 rfl (by omega) (fun c95 => ?_) (fun c95 => ?_)
      · first
          | (exfalso; omega)
          | (rcases q6 with ⟨e1, e2, pg, e3, e4, e5, e6, e7⟩ | ⟨e1, -⟩
             · subst e5
               have hlen := codeR_take pg
               have hll : (codeR pg).length = t.2.2.length := by rw [e4]
               refine Rz.mono (c_X12_rt103 _ t.2.2.length pg.length ⟨rfl, by omega⟩ ⟨rfl, by omega⟩ (fun q hq => ?_) (fun q hq => ?_)) ?_
               · show -128 ≤ E (130 + q) ∧ E (130 + q) ≤ 127
                 rw [(e2 q hq).1]
                 refine act_pg e3 ?_
                 rw [← e4, List.getD_eq_getElem?_getD, List.getElem?_eq_getElem hq]
                 exact List.getElem_mem hq
               · obtain ⟨x, hx⟩ : ∃ x, pg[q]? = some x := ⟨pg[q], List.getElem?_eq_getElem hq⟩
                 show (-32768 ≤ TE (61 + q) ∧ TE (61 + q) ≤ 32767) ∧ (-32768 ≤ LE (61 + q) ∧ LE (61 + q) ≤ 32767)
                 rw [(e6 q x hx).1, (e6 q x hx).2]
                 have c1 := codeR_at hx
                 have c2 := hlen (q + 1)
                 omega
               · rintro r A B ⟨g1, g2, g3⟩
                 refine ⟨_, g1, ?_, g3⟩
                 rw [g2]
                 exact fin_ok hL.2 (by omega) q2 e3 e4 e2 q3 e6 e7
             · exact absurd e1 (by omega))
      · refine rz_aload_n dX12_readText_98 rfl ?_
        refine rz_getI (z := t.2.1) dX12_readText_99 kf_RX12_185 hd_81 rfl (rfl) ?_
        refine rz_iret dX12_readText_102 rfl ?_
        rcases q6 with ⟨e1, -⟩ | ⟨e1, e2, e3⟩
        · exact absurd e1 (by omega)
        · exact ⟨_, rfl, fin_ft e1 (rd_ft e1 e3) q4 q5, rfl⟩
    · refine rz_aload_n dX12_readText_82 rfl ?_
      refine rz_cVV dX12_readText_83 kl_RX12_194 hd_81 ⟨_, _, rfl⟩ (c_X12_faulty (I := lnI I (m : Int) TE LE) hL (by omega) (by omega)) rfl rfl (Nat.le_of_ble_eq_true rfl) (Nat.le_of_ble_eq_true rfl) ?_
      have hfl : (flS t).2.1 = (t.1 : Int) := by unfold flS; rw [if_pos (by omega)]
      refine rz_aload_n dX12_readText_86 rfl ?_
      refine rz_iconst dX12_readText_87 ?_
      refine rz_putI dX12_readText_88 kp_RX12_179 hd_81 rfl ?_
      refine rz_aload_n dX12_readText_91 rfl ?_
      refine rz_getI (z := (flS t).2.1) dX12_readText_92 kf_RX12_185 hd_81 rfl (rfl) ?_
      refine rz_if_lt (t := 103) dX12_readText_95 rfl (by omega) (fun c95 => ?_) (fun c95 => ?_)
      · first
          | (exfalso; omega)
          | (rcases q6 with ⟨e1, e2, pg, e3, e4, e5, e6, e7⟩ | ⟨e1, -⟩
             · subst e5
               have hlen := codeR_take pg
               have hll : (codeR pg).length = t.2.2.length := by rw [e4]
               refine Rz.mono (c_X12_rt103 _ t.2.2.length pg.length ⟨rfl, by omega⟩ ⟨rfl, by omega⟩ (fun q hq => ?_) (fun q hq => ?_)) ?_
               · show -128 ≤ E (130 + q) ∧ E (130 + q) ≤ 127
                 rw [(e2 q hq).1]
                 refine act_pg e3 ?_
                 rw [← e4, List.getD_eq_getElem?_getD, List.getElem?_eq_getElem hq]
                 exact List.getElem_mem hq
               · obtain ⟨x, hx⟩ : ∃ x, pg[q]? = some x := ⟨pg[q], List.getElem?_eq_getElem hq⟩
                 show (-32768 ≤ TE (61 + q) ∧ TE (61 + q) ≤ 32767) ∧ (-32768 ≤ LE (61 + q) ∧ LE (61 + q) ≤ 32767)
                 rw [(e6 q x hx).1, (e6 q x hx).2]
                 have c1 := codeR_at hx
                 have c2 := hlen (q + 1)
                 omega
               · rintro r A B ⟨g1, g2, g3⟩
                 refine ⟨_, g1, ?_, g3⟩
                 rw [g2]
                 exact fin_ok hL.2 (by omega) q2 e3 e4 e2 q3 e6 e7
             · exact absurd e1 (by omega))
      · refine rz_aload_n dX12_readText_98 rfl ?_
        refine rz_getI (z := (flS t).2.1) dX12_readText_99 kf_RX12_185 hd_81 rfl (rfl) ?_
        refine rz_iret dX12_readText_102 rfl ?_
        rcases q6 with ⟨e1, e2, pg, e3, e4, e5, e6, e7⟩ | ⟨e1, e2, e3⟩
        · exact ⟨_, rfl, fin_ft (by omega) (by show (flL L (rtC T L)).2.1 = _; rw [e7, flL, if_pos (by show t.1 < L; omega), flS, if_pos (show (-1 : Int) < 0 by decide)]; exact hfl.symm) q4 q5, rfl⟩
        · exact absurd e1 (by omega)
abbrev RdS : Type := PS × Int × (Nat → Int) × (Nat → Int) × (Nat → Int) × (Nat → Int) × Nat
def RdInv (T : Nat → Int) (L : Nat) (I : IM) (t : PS) (o : Int) (E W TE LE : Nat → Int) (m : Nat) : Prop := t.1 ≤ L ∧ t.2.2.length ≤ t.1 + 1 ∧ m ≤ 61 ∧ FrE I E W ∧ (∀ k, k < 61 → TE k = I 98 k ∧ LE k = I 99 k) ∧
  ((t.2.1 = -1 ∧ (EOK E W t.2.2 ∧ o = 0 ∧ t.2.2.length ≤ t.1 ∧ 2 * m ≤ t.1 + 1) ∧ ∃ pg, PgOK pg ∧ t.2.2 = codeR pg ∧ m = pg.length ∧ LOK TE LE pg ∧ ∃ k, L ≤ k + t.1 ∧ lpS T L (clS T L) k (t.1, -1, codeC pg) = rtC T L) ∨ (0 ≤ t.2.1 ∧ t.2.1 ≤ L ∧ RelS T L (rtC T L) t.2.1))
theorem RelS_lp {T : Nat → Int} {L k : Nat} {f : PS → PS} {c : PS} {z : Int} (hz : 0 ≤ z) (h : RelS T L c z) : RelS T L (lpS T L f k c) z := by
  rw [lp_no]
  · exact h
  · rcases h with e | ⟨-, -, e⟩
    · rw [nxS_f (by omega)]; decide
    · omega
theorem LOK_app {TE LE : Nat → Int} {pg : List (List Int × List Int)} {x : List Int × List Int} (h : LOK TE LE pg) : LOK (up1 TE (61 + pg.length) (((codeR pg).length : Int) + x.1.length)) (up1 LE (61 + pg.length) ((codeR (pg ++ [x])).length : Int)) (pg ++ [x]) := by
  intro k y hk
  by_cases e : k < pg.length
  · rw [List.getElem?_append_left e] at hk
    rw [up1_ne (by omega), up1_ne (by omega), List.take_append_of_le_length (by omega), List.take_append_of_le_length (by omega)]
    exact h k y hk
  · have hk2 : k < (pg ++ [x]).length := (List.getElem?_eq_some_iff.mp hk).1
    have e2 : k = pg.length := by rw [List.length_append] at hk2; simp at hk2; omega
    subst e2
    have hy : y = x := by
      rw [List.getElem?_append_right (Nat.le_refl _)] at hk
      simp at hk
      exact hk.symm
    subst hy
    rw [up1_self, up1_self, List.take_append_of_le_length (Nat.le_refl _), List.take_length, List.take_of_length_le (by simp)]
    exact ⟨rfl, rfl⟩
theorem codeR_app {pg : List (List Int × List Int)} {x : List Int × List Int} : codeR (pg ++ [x]) = codeR pg ++ (x.1 ++ x.2) := by
  unfold codeR; rw [List.flatMap_append]; simp
theorem codeC_app {pg : List (List Int × List Int)} {x : List Int × List Int} : codeC (pg ++ [x]) = codeC pg ++ lineC x := by
  unfold codeC; rw [List.flatMap_append]; simp
theorem PgOK_app {pg : List (List Int × List Int)} {x : List Int × List Int} (h : PgOK pg) (hx : LnOK x) : PgOK (pg ++ [x]) := by
  intro y hy
  rcases List.mem_append.mp hy with q | q
  · exact h y q
  · rw [List.mem_singleton.mp q]; exact hx
/-- a line more -/
theorem Rd_line {T : Nat → Int} {L : Nat} {I : IM} {p : Nat} {lR : List Int} {pg : List (List Int × List Int)} {TE LE E1 W1 TE1 LE1 : Nat → Int} {s1 : PS} {o1 : Int} {k : Nat} (hL : L ≤ 120) (hp : PgOK pg) (hc : lR = codeR pg) (hl : LOK TE LE pg) (hlen : lR.length ≤ p) (hm : 2 * pg.length ≤ p) (hk : L ≤ k + p) (hfr : ∀ k, k < 61 → TE k = I 98 k ∧ LE k = I 99 k) (hC : lpS T L (clS T L) k (clS T L (p, -1, codeC pg)) = rtC T L)
    (hw : FrE I E1 W1) (hf1 : ∀ k, k < 61 → TE1 k = TE k ∧ LE1 k = LE k) (h : OneR T L p lR TE LE pg.length s1 o1 E1 W1 TE1 LE1) : RdInv T L I s1 o1 E1 W1 TE1 LE1 (pg.length + 1) := by
  obtain ⟨h1, h2, h3, h4⟩ := h
  refine ⟨h1, h3, by omega, hw, fun k hk => ⟨by rw [(hf1 k hk).1]; exact (hfr k hk).1, by rw [(hf1 k hk).2]; exact (hfr k hk).2⟩, ?_⟩
  rcases h4 with ⟨e1, e2, e3, x, e4, e5, e6, e7, e8, e9⟩ | ⟨e1, e2, e3⟩
  · have hne : 1 ≤ x.2.length := by
      have := Seg_ne e4.2
      cases hx : x.2 with
      | nil => exact absurd hx this
      | cons a l => simp
    have hln : s1.2.2.length = lR.length + (x.1.length + x.2.length) := by rw [e5]; simp
    refine Or.inl ⟨e1, ⟨e3, e2, by omega, by omega⟩, pg ++ [x], PgOK_app hp e4, by rw [e5, hc, codeR_app], by simp, ?_, k, by omega, ?_⟩
    · rw [e8, e9, hc]
      have hh : ((s1.2.2.length : Nat) : Int) = ((codeR (pg ++ [x])).length : Int) := by rw [e5, hc, codeR_app]
      rw [hh]
      exact LOK_app hl
    · rw [codeC_app, ← e7]; exact hC
  · refine Or.inr ⟨e1, e2, ?_⟩
    rw [← hC]
    exact RelS_lp e1 (e3 _)
theorem Rd_fin {T : Nat → Int} {L : Nat} {I : IM} {t : PS} {o : Int} {E W TE LE : Nat → Int} {m : Nat} (h : RdInv T L I t o E W TE LE m) (hn : 0 ≤ t.2.1 ∨ nxS T L t ≠ 59) : FinI T L I t o E W TE LE m := by
  obtain ⟨h1, h2, h3, h4, h5, h6⟩ := h
  refine ⟨h1, h2, h3, h4, h5, ?_⟩
  rcases h6 with ⟨e1, ⟨e2, -, -, -⟩, pg, e3, e4, e5, e6, k, e7, e8⟩ | e
  · rcases hn with q | q
    · exact absurd q (by omega)
    · refine Or.inl ⟨e1, e2, pg, e3, e4, e5, e6, ?_⟩
      rw [← e8]
      refine lp_no ?_
      have : nxS T L (t.1, -1, codeC pg) = nxS T L t := by unfold nxS; rw [e1]
      rw [this]; exact q
  · exact Or.inr e
theorem rt_0 {I : IM} : encR (lnI I ((0 : Nat) : Int) (I 98) (I 99)) (0, -1, []) 0 (I 95) (I 96) = upA (upA (upA (upA (upA I 81 (up1 (I 81) 18 0)) 81 (up1 (upA I 81 (up1 (I 81) 18 0) 81) 19 (-1))) 81 (up1 (upA (upA I 81 (up1 (I 81) 18 0)) 81 (up1 (upA I 81 (up1 (I 81) 18 0) 81) 19 (-1)) 81) 20 0)) 81 (up1 (upA (upA (upA I 81 (up1 (I 81) 18 0)) 81 (up1 (upA I 81 (up1 (I 81) 18 0) 81) 19 (-1))) 81 (up1 (upA (upA I 81 (up1 (I 81) 18 0)) 81 (up1 (upA I 81 (up1 (I 81) 18 0) 81) 19 (-1)) 81) 20 0) 81) 21 0)) 97 (up1 (I 97) 1 0) := by
  rw [upA_upA, upA_upA, upA_upA]
  funext d
  by_cases h1 : d = 97
  · subst h1; rfl
  · by_cases h2 : d = 81
    · subst h2; rfl
    · by_cases h3 : d = 95
      · subst h3; rfl
      · by_cases h4 : d = 96
        · subst h4; rfl
        · by_cases h5 : d = 98
          · subst h5; rfl
          · by_cases h6 : d = 99
            · subst h6; rfl
            · simp [encR, lnI, upA, h1, h2, h3, h4, h5, h6]
theorem rt_ad {I : IM} {t : PS} {o : Int} {E W : Nat → Int} : encR I (adS t) o E W = upA (encR I t o E W) 81 (up1 (encR I t o E W 81) 18 ((t.1 : Int) + 1)) := encR_ad
set_option maxRecDepth 20000 in
set_option maxHeartbeats 400000 in
theorem c_X12_readText {X : pX} {I J : IM} {T : Nat → Int} {L h : Nat} (hL : I 81 17 = L ∧ L ≤ 120) (hTR : ∀ k, k < L → I 94 k = sg (T k)) (hT : ∀ k, 0 ≤ T k ∧ T k ≤ 255) : KIq X (h + 46) mX12_readText [.ref 81, zi 0] I J (fun z A B => RtQ T L I z A ∧ J = B) := by
  show Rz X (h + 46) mX12_readText 0 [some (.ref 81), some (zi 0), none] [] I J _
  refine rz_aload_n dX12_readText_0 rfl ?_
  refine rz_iconst dX12_readText_1 ?_
  refine rz_putI dX12_readText_2 kp_RX12_182 hd_81 rfl ?_
  refine rz_aload_n dX12_readText_5 rfl ?_
  refine rz_iconst dX12_readText_6 ?_
  refine rz_putI dX12_readText_7 kp_RX12_185 hd_81 rfl ?_
  refine rz_aload_n dX12_readText_10 rfl ?_
  refine rz_iconst dX12_readText_11 ?_
  refine rz_putI dX12_readText_12 kp_RX12_191 hd_81 rfl ?_
  refine rz_aload_n dX12_readText_15 rfl ?_
  refine rz_iconst dX12_readText_16 ?_
  refine rz_putI dX12_readText_17 kp_RX12_188 hd_81 rfl ?_
  refine rz_aload_n dX12_readText_20 rfl ?_
  refine rz_getR dX12_readText_21 kf_RX12_56 hd_81 rfl rr_81_24 ?_
  refine rz_iconst dX12_readText_24 ?_
  refine rz_iconst dX12_readText_25 ?_
  refine rz_iast dX12_readText_26 hd_97 (by decide) (by omega) ?_
  refine rz_mem (I' := (encR (lnI I ((0 : Nat) : Int) (I 98) (I 99)) (0, -1, []) 0 (I 95) (I 96))) (J' := J) (rt_0) (rfl) ?_
  have b1 : ((0, -1, []) : PS).1 ≤ L := Nat.zero_le _
  have b2 : ((0, -1, []) : PS).2.1 = -1 := rfl
  have b3 : EOK (I 95) (I 96) ((0, -1, []) : PS).2.2 := fun i hi => absurd hi (Nat.not_lt_zero i)
  have b4 : ((0, -1, []) : PS).2.2.length ≤ ((0, -1, []) : PS).1 := Nat.le_refl 0
  have b5 : FrE I (I 95) (I 96) := fun k hk => ⟨rfl, rfl⟩
  refine rz_aload_n dX12_readText_27 rfl ?_
  refine rz_cVVq dX12_readText_28 kl_RX12_234 hd_81 ⟨_, _, rfl⟩ (c_X12_oneLine (I := I) (m := 0) (TE := I 98) (LE := I 99) hL hTR hT b1 b2 b3 b4 (by omega) b5) rfl rfl (Nat.le_of_ble_eq_true rfl) (Nat.le_of_ble_eq_true rfl) ?_
  rintro _ _ ⟨⟨s28, o28, E28, W28, X28, Y28, rfl, w28, v28, k28⟩, rfl⟩
  refine rz_wh (σ := RdS) (Inv := fun sq => RdInv T L I sq.1 sq.2.1 sq.2.2.1 sq.2.2.2.1 sq.2.2.2.2.1 sq.2.2.2.2.2.1 sq.2.2.2.2.2.2) (ls := fun sq => [some (.ref 81), some (zi 0), none]) (IV := fun sq => (encR (lnI I (sq.2.2.2.2.2.2 : Int) sq.2.2.2.2.1 sq.2.2.2.2.2.1) sq.1 sq.2.1 sq.2.2.1 sq.2.2.2.1)) (JV := fun sq => J) (fun sq => L - sq.1.1) ((s28, o28, E28, W28, X28, Y28, 0 + 1)) (Rd_line (k := 120) (pg := []) hL.2 (fun x hx => absurd hx (by simp)) rfl (fun k x hx => absurd hx (by simp)) (Nat.zero_le _) (Nat.zero_le _) (by omega) (fun k hk => ⟨rfl, rfl⟩) rfl w28 v28 k28) ⟨Or.inr rfl, Or.inr rfl, Or.inl rfl, trivial⟩ (rfl) (rfl) ?_
  · intro sq qq ihq
    obtain ⟨t, o, E, W, TE, LE, m⟩ := sq
    have qq : RdInv T L I t o E W TE LE m := qq
    obtain ⟨i1, i2, i3, i4, i5, i6⟩ := id qq
    have i7 : -1 ≤ t.2.1 ∧ t.2.1 ≤ 120 := by rcases i6 with ⟨e1, -⟩ | ⟨e1, e2, -⟩ <;> omega
    have hlr := lkR_rg (L := L) (s := t) hT
    refine rz_to (ls' := [some (.ref 81), some (zi 0), none]) (I' := (encR (lnI I (m : Int) TE LE) t o E W)) (J' := J) ⟨Or.inr rfl, Or.inr rfl, Or.inl rfl, trivial⟩ rfl rfl ?_
    refine rz_aload_n dX12_readText_31 rfl ?_
    refine rz_getI (z := t.2.1) dX12_readText_32 kf_RX12_185 hd_81 rfl (rfl) ?_
    refine rz_if_ge (t := 64) dX12_readText_35 rfl (by omega) (fun c35 => ?_) (fun c35 => ?_)
    · refine Rz.mono (c_X12_rt64 hL (Rd_fin qq (by first | (left; omega) | (right; omega)))) (fun _ _ _ q => q)
    · have hr := nxS_rg (L := L) (s := t) hT
      have hk : lkR T L t = sg (nxS T L t) := lkR_nx (by omega)
      have hg := sg_c (nxS T L t)
      refine rz_aload_n dX12_readText_38 rfl ?_
      refine rz_cVI dX12_readText_39 kl_RX12_197 hd_81 ⟨_, _, rfl⟩ (c_X12_look (I := lnI I (m : Int) TE LE) hL hTR (by omega)) rfl rfl (Nat.le_of_ble_eq_true rfl) (Nat.le_of_ble_eq_true rfl) ?_
      refine rz_bipush dX12_readText_42 (by decide) ?_
      refine rz_icmp_ne (t := 64) dX12_readText_44 rfl (by omega) (by omega) (fun c44 => ?_) (fun c44 => ?_)
      · refine Rz.mono (c_X12_rt64 hL (Rd_fin qq (by first | (left; omega) | (right; omega)))) (fun _ _ _ q => q)
      · have j0 : nxS T L t = 59 := by omega
        have j1 := nxS_ne (T := T) (L := L) (s := t) (by omega)
        obtain ⟨u1, ⟨u2, u3, u4, u5⟩, pg, u6, u7, u8, u9, kk, u10, u11⟩ := i6.resolve_right (fun q => by omega)
        subst u3
        have a1 : (adS t).1 ≤ L := show t.1 + 1 ≤ L by omega
        have a2 : (adS t).2.1 = -1 := u1
        have a3 : EOK E W (adS t).2.2 := u2
        have a4 : (adS t).2.2.length ≤ (adS t).1 := show t.2.2.length ≤ t.1 + 1 by omega
        obtain ⟨k2, rfl⟩ : ∃ k2, kk = k2 + 1 := ⟨kk - 1, by omega⟩
        have u12 : lpS T L (clS T L) k2 (clS T L (t.1 + 1, -1, codeC pg)) = rtC T L := by
          rw [← u11]
          have hnx : nxS T L (t.1, -1, codeC pg) = 59 := by
            have e : nxS T L (t.1, -1, codeC pg) = nxS T L t := by unfold nxS; rw [u1]
            exact e.trans j0
          exact (if_pos hnx).symm
        refine rz_aload_n dX12_readText_47 rfl ?_
        refine rz_dup dX12_readText_48 rfl ?_
        refine rz_getI (z := (t.1 : Int)) dX12_readText_49 kf_RX12_182 hd_81 rfl (rfl) ?_
        refine rz_iconst dX12_readText_52 ?_
        refine rz_iadd dX12_readText_53 ?_
        refine rz_putI dX12_readText_54 kp_RX12_182 hd_81 rfl ?_
        refine rz_mem (I' := (encR (lnI I (m : Int) TE LE) (adS t) 0 E W)) (J' := J) (rt_ad) (rfl) ?_
        refine rz_aload_n dX12_readText_57 rfl ?_
        refine rz_cVVq dX12_readText_58 kl_RX12_234 hd_81 ⟨_, _, rfl⟩ (c_X12_oneLine (I := I) (m := m) (TE := TE) (LE := LE) hL hTR hT a1 a2 a3 a4 (by omega) i4) rfl rfl (Nat.le_of_ble_eq_true rfl) (Nat.le_of_ble_eq_true rfl) ?_
        rintro _ _ ⟨⟨s58, o58, E58, W58, X58, Y58, rfl, w58, v58, k58⟩, rfl⟩
        refine rz_goto (t := 31) dX12_readText_61 rfl ?_
        exact rz_bk (ihq ((s58, o58, E58, W58, X58, Y58, m + 1)) ((by subst u8; exact Rd_line hL.2 u6 u7 u9 a4 (by show 2 * pg.length ≤ t.1 + 1; omega) (by show L ≤ k2 + (t.1 + 1); omega) i5 u12 w58 v58 k58)) (show L - s58.1 < L - t.1 by have w1 : t.1 + 1 ≤ s58.1 := k58.2.1; have w2 := k58.1; omega)) ⟨Or.inr rfl, Or.inr rfl, Or.inl rfl, trivial⟩ (rfl) (rfl)
