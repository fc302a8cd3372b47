/-! the class: a law worked out; the reference too -/
set_option maxRecDepth 20000 in
set_option maxHeartbeats 400000 in
theorem c_X4_worked {X : pX} {I J : IM} {h : Nat} {a b w t v : Int} {pg : List (List Int × List Int)} (hp : PgOK pg) (hN : I 1 7 = ((codeC pg).length : Int) ∧ (codeC pg).length ≤ 121) (hA : At (I 4) 0 (codeC pg)) (hfa : ∀ n, rg (faV a b w t v n)) : KIq X (h + 2) mX4_worked [.ref 1, zi a, zi b, zi w, zi t, zi v] I J (fun z A B => z = giv (faV a b w t v) pg ∧ (∃ F2, A = encW I 0 F2) ∧ J = B) := by
  show Rz X (h + 2) mX4_worked 0 [some (.ref 1), some (zi a), some (zi b), some (zi w), some (zi t), some (zi v), none, none, none, none] [] I J _
  refine rz_aload_n dX4_worked_0 rfl ?_
  refine rz_iconst dX4_worked_1 ?_
  refine rz_putI dX4_worked_2 kp_RX4_93 hd_1 rfl ?_
  refine rz_iconst dX4_worked_5 ?_
  refine rz_istore dX4_worked_6 (by decide) rfl ?_
  refine rz_iconst dX4_worked_8 ?_
  refine rz_istore dX4_worked_9 (by decide) rfl ?_
  refine rz_to (ls' := [some (.ref 1), some (zi a), some (zi b), some (zi w), some (zi t), some (zi v), some (zi 0), some (zi ((0 : Nat) : Int)), none, none]) (I' := encW I 0 (I 5)) (J' := J) ⟨Or.inr rfl, Or.inr rfl, Or.inr rfl, Or.inr rfl, Or.inr rfl, Or.inr rfl, Or.inr rfl, Or.inr rfl, Or.inl rfl, Or.inl rfl, trivial⟩ encW_0 rfl ?_
  exact W_all hN hfa pg 0 (I 5) hp hA (by omega) (fun F2 => ⟨_, rfl, rfl, ⟨F2, rfl⟩, rfl⟩)
theorem iz_m1 {x : Int} (hx : rg x) : iz x / iz (-1) = iz (-x) := by
  have m1 : Int32.minValue.toInt = -2147483648 := by decide
  have m2 : Int32.maxValue.toInt = 2147483647 := by decide
  have h := Int32.ofInt_tdiv (a := x) (b := -1) (by omega) (by omega) (by omega) (by omega)
  have e : x.tdiv (-1) = -x := by simp
  unfold iz
  rw [← h, e]
theorem dv_m1 {x : Int} (hx : rg x) : zi (-x) = zi (dvZ x (-1)) := by
  unfold dvZ
  rw [iz_m1 hx]
  exact congrArg Value.int (iz_of _).symm
theorem rm_m1 {x : Int} (hx : rg x) : rmZ x (-1) = 0 := by
  unfold rmZ
  rw [iz_m1 hx, iz_mul, iz_sub, show x - -x * -1 = 0 by omega]
  rfl
set_option maxRecDepth 20000 in
set_option maxHeartbeats 400000 in
theorem c_X12_twoOf (X : pX) (h : Nat) (I J : IM) (n x y : Int) (hn : binC n) (hx : rg x) (hy : rg y) : KI X h mX12_twoOf [zi n, zi x, zi y] I J (bop n x y) I J := by
  show Rz X h mX12_twoOf 0 [some (zi n), some (zi x), some (zi y)] [] I J _
  refine rz_iload_n dX12_twoOf_0 rfl ?_
  by_cases s1_37 : n = 37
  · subst s1_37
    refine rz_tableIn (t := 154) dX12_twoOf_1 (by omega) (by decide) rfl rfl ?_
    refine rz_iload_n dX12_twoOf_154 rfl ?_
    refine rz_if_eq (t := 163) dX12_twoOf_155 rfl (by omega) (fun c155 => ?_) (fun c155 => ?_)
    · refine rz_iconst dX12_twoOf_163 ?_
      refine rz_goto (t := 170) dX12_twoOf_164 rfl ?_
      refine rz_iret dX12_twoOf_170 rfl ?_
      exact ⟨_, rfl, by rw [bop_37]; by_cases hy0 : y = 0; rw [if_pos hy0]; rw [if_neg hy0, show y = -1 by omega, rm_m1 hx], rfl, rfl⟩
    · refine rz_iload_n dX12_twoOf_158 rfl ?_
      refine rz_iconst dX12_twoOf_159 ?_
      refine rz_icmp_ne (t := 167) dX12_twoOf_160 rfl (by omega) (by omega) (fun c160 => ?_) (fun c160 => ?_)
      · have NZ : iz y ≠ 0 := iz_n0 hy (by assumption)
        refine rz_iload_n dX12_twoOf_167 rfl ?_
        refine rz_iload_n dX12_twoOf_168 rfl ?_
        refine rz_iremw dX12_twoOf_169 (NZ) ?_
        refine rz_iret dX12_twoOf_170 rfl ?_
        exact ⟨_, rfl, by rw [bop_37, if_neg (by omega)]; rfl, rfl, rfl⟩
      · refine rz_iconst dX12_twoOf_163 ?_
        refine rz_goto (t := 170) dX12_twoOf_164 rfl ?_
        refine rz_iret dX12_twoOf_170 rfl ?_
        exact ⟨_, rfl, by rw [bop_37]; by_cases hy0 : y = 0; rw [if_pos hy0]; rw [if_neg hy0, show y = -1 by omega, rm_m1 hx], rfl, rfl⟩
  by_cases s1_38 : n = 38
  · subst s1_38
    refine rz_tableIn (t := 204) dX12_twoOf_1 (by omega) (by decide) rfl rfl ?_
    refine rz_iload_n dX12_twoOf_204 rfl ?_
    refine rz_if_eq (t := 216) dX12_twoOf_205 rfl (by omega) (fun c205 => ?_) (fun c205 => ?_)
    · refine rz_iconst dX12_twoOf_216 ?_
      refine rz_iret dX12_twoOf_217 rfl ?_
      exact ⟨_, rfl, by rw [bop_38, if_neg (by omega)], rfl, rfl⟩
    · refine rz_iload_n dX12_twoOf_208 rfl ?_
      refine rz_if_eq (t := 216) dX12_twoOf_209 rfl (by omega) (fun c209 => ?_) (fun c209 => ?_)
      · refine rz_iconst dX12_twoOf_216 ?_
        refine rz_iret dX12_twoOf_217 rfl ?_
        exact ⟨_, rfl, by rw [bop_38, if_neg (by omega)], rfl, rfl⟩
      · refine rz_iconst dX12_twoOf_212 ?_
        refine rz_goto (t := 217) dX12_twoOf_213 rfl ?_
        refine rz_iret dX12_twoOf_217 rfl ?_
        exact ⟨_, rfl, by rw [bop_38, if_pos (by omega)], rfl, rfl⟩
  by_cases s1_39 : n = 39
  · subst s1_39
    refine rz_tableIn (t := 218) dX12_twoOf_1 (by omega) (by decide) rfl rfl ?_
    refine rz_iload_n dX12_twoOf_218 rfl ?_
    refine rz_if_ne (t := 226) dX12_twoOf_219 rfl (by omega) (fun c219 => ?_) (fun c219 => ?_)
    · refine rz_iconst dX12_twoOf_226 ?_
      refine rz_goto (t := 231) dX12_twoOf_227 rfl ?_
      refine rz_iret dX12_twoOf_231 rfl ?_
      exfalso; omega
    · refine rz_iload_n dX12_twoOf_222 rfl ?_
      refine rz_if_eq (t := 230) dX12_twoOf_223 rfl (by omega) (fun c223 => ?_) (fun c223 => ?_)
      · refine rz_iconst dX12_twoOf_230 ?_
        refine rz_iret dX12_twoOf_231 rfl ?_
        exfalso; omega
      · refine rz_iconst dX12_twoOf_226 ?_
        refine rz_goto (t := 231) dX12_twoOf_227 rfl ?_
        refine rz_iret dX12_twoOf_231 rfl ?_
        exfalso; omega
  by_cases s1_40 : n = 40
  · subst s1_40
    refine rz_tableIn (t := 218) dX12_twoOf_1 (by omega) (by decide) rfl rfl ?_
    refine rz_iload_n dX12_twoOf_218 rfl ?_
    refine rz_if_ne (t := 226) dX12_twoOf_219 rfl (by omega) (fun c219 => ?_) (fun c219 => ?_)
    · refine rz_iconst dX12_twoOf_226 ?_
      refine rz_goto (t := 231) dX12_twoOf_227 rfl ?_
      refine rz_iret dX12_twoOf_231 rfl ?_
      exfalso; omega
    · refine rz_iload_n dX12_twoOf_222 rfl ?_
      refine rz_if_eq (t := 230) dX12_twoOf_223 rfl (by omega) (fun c223 => ?_) (fun c223 => ?_)
      · refine rz_iconst dX12_twoOf_230 ?_
        refine rz_iret dX12_twoOf_231 rfl ?_
        exfalso; omega
      · refine rz_iconst dX12_twoOf_226 ?_
        refine rz_goto (t := 231) dX12_twoOf_227 rfl ?_
        refine rz_iret dX12_twoOf_231 rfl ?_
        exfalso; omega
  by_cases s1_41 : n = 41
  · subst s1_41
    refine rz_tableIn (t := 218) dX12_twoOf_1 (by omega) (by decide) rfl rfl ?_
    refine rz_iload_n dX12_twoOf_218 rfl ?_
    refine rz_if_ne (t := 226) dX12_twoOf_219 rfl (by omega) (fun c219 => ?_) (fun c219 => ?_)
    · refine rz_iconst dX12_twoOf_226 ?_
      refine rz_goto (t := 231) dX12_twoOf_227 rfl ?_
      refine rz_iret dX12_twoOf_231 rfl ?_
      exfalso; omega
    · refine rz_iload_n dX12_twoOf_222 rfl ?_
      refine rz_if_eq (t := 230) dX12_twoOf_223 rfl (by omega) (fun c223 => ?_) (fun c223 => ?_)
      · refine rz_iconst dX12_twoOf_230 ?_
        refine rz_iret dX12_twoOf_231 rfl ?_
        exfalso; omega
      · refine rz_iconst dX12_twoOf_226 ?_
        refine rz_goto (t := 231) dX12_twoOf_227 rfl ?_
        refine rz_iret dX12_twoOf_231 rfl ?_
        exfalso; omega
  by_cases s1_42 : n = 42
  · subst s1_42
    refine rz_tableIn (t := 128) dX12_twoOf_1 (by omega) (by decide) rfl rfl ?_
    refine rz_iload_n dX12_twoOf_128 rfl ?_
    refine rz_iload_n dX12_twoOf_129 rfl ?_
    refine rz_imul dX12_twoOf_130 ?_
    refine rz_iret dX12_twoOf_131 rfl ?_
    exact ⟨_, congrArg some (congrArg Value.int (iz_wr _).symm), rfl, rfl, rfl⟩
  by_cases s1_43 : n = 43
  · subst s1_43
    refine rz_tableIn (t := 120) dX12_twoOf_1 (by omega) (by decide) rfl rfl ?_
    refine rz_iload_n dX12_twoOf_120 rfl ?_
    refine rz_iload_n dX12_twoOf_121 rfl ?_
    refine rz_iadd dX12_twoOf_122 ?_
    refine rz_iret dX12_twoOf_123 rfl ?_
    exact ⟨_, congrArg some (congrArg Value.int (iz_wr _).symm), rfl, rfl, rfl⟩
  by_cases s1_44 : n = 44
  · subst s1_44
    refine rz_tableIn (t := 218) dX12_twoOf_1 (by omega) (by decide) rfl rfl ?_
    refine rz_iload_n dX12_twoOf_218 rfl ?_
    refine rz_if_ne (t := 226) dX12_twoOf_219 rfl (by omega) (fun c219 => ?_) (fun c219 => ?_)
    · refine rz_iconst dX12_twoOf_226 ?_
      refine rz_goto (t := 231) dX12_twoOf_227 rfl ?_
      refine rz_iret dX12_twoOf_231 rfl ?_
      exfalso; omega
    · refine rz_iload_n dX12_twoOf_222 rfl ?_
      refine rz_if_eq (t := 230) dX12_twoOf_223 rfl (by omega) (fun c223 => ?_) (fun c223 => ?_)
      · refine rz_iconst dX12_twoOf_230 ?_
        refine rz_iret dX12_twoOf_231 rfl ?_
        exfalso; omega
      · refine rz_iconst dX12_twoOf_226 ?_
        refine rz_goto (t := 231) dX12_twoOf_227 rfl ?_
        refine rz_iret dX12_twoOf_231 rfl ?_
        exfalso; omega
  by_cases s1_45 : n = 45
  · subst s1_45
    refine rz_tableIn (t := 124) dX12_twoOf_1 (by omega) (by decide) rfl rfl ?_
    refine rz_iload_n dX12_twoOf_124 rfl ?_
    refine rz_iload_n dX12_twoOf_125 rfl ?_
    refine rz_isub dX12_twoOf_126 ?_
    refine rz_iret dX12_twoOf_127 rfl ?_
    exact ⟨_, congrArg some (congrArg Value.int (iz_wr _).symm), rfl, rfl, rfl⟩
  by_cases s1_46 : n = 46
  · subst s1_46
    refine rz_tableIn (t := 218) dX12_twoOf_1 (by omega) (by decide) rfl rfl ?_
    refine rz_iload_n dX12_twoOf_218 rfl ?_
    refine rz_if_ne (t := 226) dX12_twoOf_219 rfl (by omega) (fun c219 => ?_) (fun c219 => ?_)
    · refine rz_iconst dX12_twoOf_226 ?_
      refine rz_goto (t := 231) dX12_twoOf_227 rfl ?_
      refine rz_iret dX12_twoOf_231 rfl ?_
      exfalso; omega
    · refine rz_iload_n dX12_twoOf_222 rfl ?_
      refine rz_if_eq (t := 230) dX12_twoOf_223 rfl (by omega) (fun c223 => ?_) (fun c223 => ?_)
      · refine rz_iconst dX12_twoOf_230 ?_
        refine rz_iret dX12_twoOf_231 rfl ?_
        exfalso; omega
      · refine rz_iconst dX12_twoOf_226 ?_
        refine rz_goto (t := 231) dX12_twoOf_227 rfl ?_
        refine rz_iret dX12_twoOf_231 rfl ?_
        exfalso; omega
  by_cases s1_47 : n = 47
  · subst s1_47
    refine rz_tableIn (t := 132) dX12_twoOf_1 (by omega) (by decide) rfl rfl ?_
    refine rz_iload_n dX12_twoOf_132 rfl ?_
    refine rz_if_ne (t := 140) dX12_twoOf_133 rfl (by omega) (fun c133 => ?_) (fun c133 => ?_)
    · refine rz_iload_n dX12_twoOf_140 rfl ?_
      refine rz_iconst dX12_twoOf_141 ?_
      refine rz_icmp_ne (t := 150) dX12_twoOf_142 rfl (by omega) (by omega) (fun c142 => ?_) (fun c142 => ?_)
      · have NZ : iz y ≠ 0 := iz_n0 hy (by assumption)
        refine rz_iload_n dX12_twoOf_150 rfl ?_
        refine rz_iload_n dX12_twoOf_151 rfl ?_
        refine rz_idivw dX12_twoOf_152 (NZ) ?_
        refine rz_iret dX12_twoOf_153 rfl ?_
        exact ⟨_, rfl, by rw [bop_47, if_neg (by omega)]; rfl, rfl, rfl⟩
      · refine rz_iload_n dX12_twoOf_145 rfl ?_
        refine rz_ineg dX12_twoOf_146 ?_
        refine rz_goto (t := 153) dX12_twoOf_147 rfl ?_
        refine rz_iret dX12_twoOf_153 rfl ?_
        obtain rfl : y = -1 := by omega
        exact ⟨_, congrArg some (dv_m1 hx), by rw [bop_47, if_neg (by omega)], rfl, rfl⟩
    · refine rz_iconst dX12_twoOf_136 ?_
      refine rz_goto (t := 153) dX12_twoOf_137 rfl ?_
      refine rz_iret dX12_twoOf_153 rfl ?_
      exact ⟨_, rfl, by rw [bop_47, if_pos (by assumption)], rfl, rfl⟩
  by_cases s1_48 : n = 48
  · subst s1_48
    refine rz_tableIn (t := 218) dX12_twoOf_1 (by omega) (by decide) rfl rfl ?_
    refine rz_iload_n dX12_twoOf_218 rfl ?_
    refine rz_if_ne (t := 226) dX12_twoOf_219 rfl (by omega) (fun c219 => ?_) (fun c219 => ?_)
    · refine rz_iconst dX12_twoOf_226 ?_
      refine rz_goto (t := 231) dX12_twoOf_227 rfl ?_
      refine rz_iret dX12_twoOf_231 rfl ?_
      exfalso; omega
    · refine rz_iload_n dX12_twoOf_222 rfl ?_
      refine rz_if_eq (t := 230) dX12_twoOf_223 rfl (by omega) (fun c223 => ?_) (fun c223 => ?_)
      · refine rz_iconst dX12_twoOf_230 ?_
        refine rz_iret dX12_twoOf_231 rfl ?_
        exfalso; omega
      · refine rz_iconst dX12_twoOf_226 ?_
        refine rz_goto (t := 231) dX12_twoOf_227 rfl ?_
        refine rz_iret dX12_twoOf_231 rfl ?_
        exfalso; omega
  by_cases s1_49 : n = 49
  · subst s1_49
    refine rz_tableIn (t := 218) dX12_twoOf_1 (by omega) (by decide) rfl rfl ?_
    refine rz_iload_n dX12_twoOf_218 rfl ?_
    refine rz_if_ne (t := 226) dX12_twoOf_219 rfl (by omega) (fun c219 => ?_) (fun c219 => ?_)
    · refine rz_iconst dX12_twoOf_226 ?_
      refine rz_goto (t := 231) dX12_twoOf_227 rfl ?_
      refine rz_iret dX12_twoOf_231 rfl ?_
      exfalso; omega
    · refine rz_iload_n dX12_twoOf_222 rfl ?_
      refine rz_if_eq (t := 230) dX12_twoOf_223 rfl (by omega) (fun c223 => ?_) (fun c223 => ?_)
      · refine rz_iconst dX12_twoOf_230 ?_
        refine rz_iret dX12_twoOf_231 rfl ?_
        exfalso; omega
      · refine rz_iconst dX12_twoOf_226 ?_
        refine rz_goto (t := 231) dX12_twoOf_227 rfl ?_
        refine rz_iret dX12_twoOf_231 rfl ?_
        exfalso; omega
  by_cases s1_50 : n = 50
  · subst s1_50
    refine rz_tableIn (t := 218) dX12_twoOf_1 (by omega) (by decide) rfl rfl ?_
    refine rz_iload_n dX12_twoOf_218 rfl ?_
    refine rz_if_ne (t := 226) dX12_twoOf_219 rfl (by omega) (fun c219 => ?_) (fun c219 => ?_)
    · refine rz_iconst dX12_twoOf_226 ?_
      refine rz_goto (t := 231) dX12_twoOf_227 rfl ?_
      refine rz_iret dX12_twoOf_231 rfl ?_
      exfalso; omega
    · refine rz_iload_n dX12_twoOf_222 rfl ?_
      refine rz_if_eq (t := 230) dX12_twoOf_223 rfl (by omega) (fun c223 => ?_) (fun c223 => ?_)
      · refine rz_iconst dX12_twoOf_230 ?_
        refine rz_iret dX12_twoOf_231 rfl ?_
        exfalso; omega
      · refine rz_iconst dX12_twoOf_226 ?_
        refine rz_goto (t := 231) dX12_twoOf_227 rfl ?_
        refine rz_iret dX12_twoOf_231 rfl ?_
        exfalso; omega
  by_cases s1_51 : n = 51
  · subst s1_51
    refine rz_tableIn (t := 218) dX12_twoOf_1 (by omega) (by decide) rfl rfl ?_
    refine rz_iload_n dX12_twoOf_218 rfl ?_
    refine rz_if_ne (t := 226) dX12_twoOf_219 rfl (by omega) (fun c219 => ?_) (fun c219 => ?_)
    · refine rz_iconst dX12_twoOf_226 ?_
      refine rz_goto (t := 231) dX12_twoOf_227 rfl ?_
      refine rz_iret dX12_twoOf_231 rfl ?_
      exfalso; omega
    · refine rz_iload_n dX12_twoOf_222 rfl ?_
      refine rz_if_eq (t := 230) dX12_twoOf_223 rfl (by omega) (fun c223 => ?_) (fun c223 => ?_)
      · refine rz_iconst dX12_twoOf_230 ?_
        refine rz_iret dX12_twoOf_231 rfl ?_
        exfalso; omega
      · refine rz_iconst dX12_twoOf_226 ?_
        refine rz_goto (t := 231) dX12_twoOf_227 rfl ?_
        refine rz_iret dX12_twoOf_231 rfl ?_
        exfalso; omega
  by_cases s1_52 : n = 52
  · subst s1_52
    refine rz_tableIn (t := 218) dX12_twoOf_1 (by omega) (by decide) rfl rfl ?_
    refine rz_iload_n dX12_twoOf_218 rfl ?_
    refine rz_if_ne (t := 226) dX12_twoOf_219 rfl (by omega) (fun c219 => ?_) (fun c219 => ?_)
    · refine rz_iconst dX12_twoOf_226 ?_
      refine rz_goto (t := 231) dX12_twoOf_227 rfl ?_
      refine rz_iret dX12_twoOf_231 rfl ?_
      exfalso; omega
    · refine rz_iload_n dX12_twoOf_222 rfl ?_
      refine rz_if_eq (t := 230) dX12_twoOf_223 rfl (by omega) (fun c223 => ?_) (fun c223 => ?_)
      · refine rz_iconst dX12_twoOf_230 ?_
        refine rz_iret dX12_twoOf_231 rfl ?_
        exfalso; omega
      · refine rz_iconst dX12_twoOf_226 ?_
        refine rz_goto (t := 231) dX12_twoOf_227 rfl ?_
        refine rz_iret dX12_twoOf_231 rfl ?_
        exfalso; omega
  by_cases s1_53 : n = 53
  · subst s1_53
    refine rz_tableIn (t := 218) dX12_twoOf_1 (by omega) (by decide) rfl rfl ?_
    refine rz_iload_n dX12_twoOf_218 rfl ?_
    refine rz_if_ne (t := 226) dX12_twoOf_219 rfl (by omega) (fun c219 => ?_) (fun c219 => ?_)
    · refine rz_iconst dX12_twoOf_226 ?_
      refine rz_goto (t := 231) dX12_twoOf_227 rfl ?_
      refine rz_iret dX12_twoOf_231 rfl ?_
      exfalso; omega
    · refine rz_iload_n dX12_twoOf_222 rfl ?_
      refine rz_if_eq (t := 230) dX12_twoOf_223 rfl (by omega) (fun c223 => ?_) (fun c223 => ?_)
      · refine rz_iconst dX12_twoOf_230 ?_
        refine rz_iret dX12_twoOf_231 rfl ?_
        exfalso; omega
      · refine rz_iconst dX12_twoOf_226 ?_
        refine rz_goto (t := 231) dX12_twoOf_227 rfl ?_
        refine rz_iret dX12_twoOf_231 rfl ?_
        exfalso; omega
  by_cases s1_54 : n = 54
  · subst s1_54
    refine rz_tableIn (t := 218) dX12_twoOf_1 (by omega) (by decide) rfl rfl ?_
    refine rz_iload_n dX12_twoOf_218 rfl ?_
    refine rz_if_ne (t := 226) dX12_twoOf_219 rfl (by omega) (fun c219 => ?_) (fun c219 => ?_)
    · refine rz_iconst dX12_twoOf_226 ?_
      refine rz_goto (t := 231) dX12_twoOf_227 rfl ?_
      refine rz_iret dX12_twoOf_231 rfl ?_
      exfalso; omega
    · refine rz_iload_n dX12_twoOf_222 rfl ?_
      refine rz_if_eq (t := 230) dX12_twoOf_223 rfl (by omega) (fun c223 => ?_) (fun c223 => ?_)
      · refine rz_iconst dX12_twoOf_230 ?_
        refine rz_iret dX12_twoOf_231 rfl ?_
        exfalso; omega
      · refine rz_iconst dX12_twoOf_226 ?_
        refine rz_goto (t := 231) dX12_twoOf_227 rfl ?_
        refine rz_iret dX12_twoOf_231 rfl ?_
        exfalso; omega
  by_cases s1_55 : n = 55
  · subst s1_55
    refine rz_tableIn (t := 218) dX12_twoOf_1 (by omega) (by decide) rfl rfl ?_
    refine rz_iload_n dX12_twoOf_218 rfl ?_
    refine rz_if_ne (t := 226) dX12_twoOf_219 rfl (by omega) (fun c219 => ?_) (fun c219 => ?_)
    · refine rz_iconst dX12_twoOf_226 ?_
      refine rz_goto (t := 231) dX12_twoOf_227 rfl ?_
      refine rz_iret dX12_twoOf_231 rfl ?_
      exfalso; omega
    · refine rz_iload_n dX12_twoOf_222 rfl ?_
      refine rz_if_eq (t := 230) dX12_twoOf_223 rfl (by omega) (fun c223 => ?_) (fun c223 => ?_)
      · refine rz_iconst dX12_twoOf_230 ?_
        refine rz_iret dX12_twoOf_231 rfl ?_
        exfalso; omega
      · refine rz_iconst dX12_twoOf_226 ?_
        refine rz_goto (t := 231) dX12_twoOf_227 rfl ?_
        refine rz_iret dX12_twoOf_231 rfl ?_
        exfalso; omega
  by_cases s1_56 : n = 56
  · subst s1_56
    refine rz_tableIn (t := 218) dX12_twoOf_1 (by omega) (by decide) rfl rfl ?_
    refine rz_iload_n dX12_twoOf_218 rfl ?_
    refine rz_if_ne (t := 226) dX12_twoOf_219 rfl (by omega) (fun c219 => ?_) (fun c219 => ?_)
    · refine rz_iconst dX12_twoOf_226 ?_
      refine rz_goto (t := 231) dX12_twoOf_227 rfl ?_
      refine rz_iret dX12_twoOf_231 rfl ?_
      exfalso; omega
    · refine rz_iload_n dX12_twoOf_222 rfl ?_
      refine rz_if_eq (t := 230) dX12_twoOf_223 rfl (by omega) (fun c223 => ?_) (fun c223 => ?_)
      · refine rz_iconst dX12_twoOf_230 ?_
        refine rz_iret dX12_twoOf_231 rfl ?_
        exfalso; omega
      · refine rz_iconst dX12_twoOf_226 ?_
        refine rz_goto (t := 231) dX12_twoOf_227 rfl ?_
        refine rz_iret dX12_twoOf_231 rfl ?_
        exfalso; omega
  by_cases s1_57 : n = 57
  · subst s1_57
    refine rz_tableIn (t := 218) dX12_twoOf_1 (by omega) (by decide) rfl rfl ?_
    refine rz_iload_n dX12_twoOf_218 rfl ?_
    refine rz_if_ne (t := 226) dX12_twoOf_219 rfl (by omega) (fun c219 => ?_) (fun c219 => ?_)
    · refine rz_iconst dX12_twoOf_226 ?_
      refine rz_goto (t := 231) dX12_twoOf_227 rfl ?_
      refine rz_iret dX12_twoOf_231 rfl ?_
      exfalso; omega
    · refine rz_iload_n dX12_twoOf_222 rfl ?_
      refine rz_if_eq (t := 230) dX12_twoOf_223 rfl (by omega) (fun c223 => ?_) (fun c223 => ?_)
      · refine rz_iconst dX12_twoOf_230 ?_
        refine rz_iret dX12_twoOf_231 rfl ?_
        exfalso; omega
      · refine rz_iconst dX12_twoOf_226 ?_
        refine rz_goto (t := 231) dX12_twoOf_227 rfl ?_
        refine rz_iret dX12_twoOf_231 rfl ?_
        exfalso; omega
  by_cases s1_58 : n = 58
  · subst s1_58
    refine rz_tableIn (t := 218) dX12_twoOf_1 (by omega) (by decide) rfl rfl ?_
    refine rz_iload_n dX12_twoOf_218 rfl ?_
    refine rz_if_ne (t := 226) dX12_twoOf_219 rfl (by omega) (fun c219 => ?_) (fun c219 => ?_)
    · refine rz_iconst dX12_twoOf_226 ?_
      refine rz_goto (t := 231) dX12_twoOf_227 rfl ?_
      refine rz_iret dX12_twoOf_231 rfl ?_
      exfalso; omega
    · refine rz_iload_n dX12_twoOf_222 rfl ?_
      refine rz_if_eq (t := 230) dX12_twoOf_223 rfl (by omega) (fun c223 => ?_) (fun c223 => ?_)
      · refine rz_iconst dX12_twoOf_230 ?_
        refine rz_iret dX12_twoOf_231 rfl ?_
        exfalso; omega
      · refine rz_iconst dX12_twoOf_226 ?_
        refine rz_goto (t := 231) dX12_twoOf_227 rfl ?_
        refine rz_iret dX12_twoOf_231 rfl ?_
        exfalso; omega
  by_cases s1_59 : n = 59
  · subst s1_59
    refine rz_tableIn (t := 218) dX12_twoOf_1 (by omega) (by decide) rfl rfl ?_
    refine rz_iload_n dX12_twoOf_218 rfl ?_
    refine rz_if_ne (t := 226) dX12_twoOf_219 rfl (by omega) (fun c219 => ?_) (fun c219 => ?_)
    · refine rz_iconst dX12_twoOf_226 ?_
      refine rz_goto (t := 231) dX12_twoOf_227 rfl ?_
      refine rz_iret dX12_twoOf_231 rfl ?_
      exfalso; omega
    · refine rz_iload_n dX12_twoOf_222 rfl ?_
      refine rz_if_eq (t := 230) dX12_twoOf_223 rfl (by omega) (fun c223 => ?_) (fun c223 => ?_)
      · refine rz_iconst dX12_twoOf_230 ?_
        refine rz_iret dX12_twoOf_231 rfl ?_
        exfalso; omega
      · refine rz_iconst dX12_twoOf_226 ?_
        refine rz_goto (t := 231) dX12_twoOf_227 rfl ?_
        refine rz_iret dX12_twoOf_231 rfl ?_
        exfalso; omega
  by_cases s1_60 : n = 60
  · subst s1_60
    refine rz_tableIn (t := 171) dX12_twoOf_1 (by omega) (by decide) rfl rfl ?_
    refine rz_iload_n dX12_twoOf_171 rfl ?_
    refine rz_iload_n dX12_twoOf_172 rfl ?_
    refine rz_icmp_ge (t := 180) dX12_twoOf_173 rfl (by omega) (by omega) (fun c173 => ?_) (fun c173 => ?_)
    · refine rz_iconst dX12_twoOf_180 ?_
      refine rz_iret dX12_twoOf_181 rfl ?_
      exact ⟨_, rfl, by rw [bop_60, if_neg (by omega)], rfl, rfl⟩
    · refine rz_iconst dX12_twoOf_176 ?_
      refine rz_goto (t := 181) dX12_twoOf_177 rfl ?_
      refine rz_iret dX12_twoOf_181 rfl ?_
      exact ⟨_, rfl, by rw [bop_60, if_pos (by omega)], rfl, rfl⟩
  by_cases s1_61 : n = 61
  · subst s1_61
    refine rz_tableIn (t := 182) dX12_twoOf_1 (by omega) (by decide) rfl rfl ?_
    refine rz_iload_n dX12_twoOf_182 rfl ?_
    refine rz_iload_n dX12_twoOf_183 rfl ?_
    refine rz_icmp_ne (t := 191) dX12_twoOf_184 rfl (by omega) (by omega) (fun c184 => ?_) (fun c184 => ?_)
    · refine rz_iconst dX12_twoOf_191 ?_
      refine rz_iret dX12_twoOf_192 rfl ?_
      exact ⟨_, rfl, by rw [bop_61, if_neg (by omega)], rfl, rfl⟩
    · refine rz_iconst dX12_twoOf_187 ?_
      refine rz_goto (t := 192) dX12_twoOf_188 rfl ?_
      refine rz_iret dX12_twoOf_192 rfl ?_
      exact ⟨_, rfl, by rw [bop_61, if_pos (by omega)], rfl, rfl⟩
  by_cases s1_62 : n = 62
  · subst s1_62
    refine rz_tableIn (t := 193) dX12_twoOf_1 (by omega) (by decide) rfl rfl ?_
    refine rz_iload_n dX12_twoOf_193 rfl ?_
    refine rz_iload_n dX12_twoOf_194 rfl ?_
    refine rz_icmp_le (t := 202) dX12_twoOf_195 rfl (by omega) (by omega) (fun c195 => ?_) (fun c195 => ?_)
    · refine rz_iconst dX12_twoOf_202 ?_
      refine rz_iret dX12_twoOf_203 rfl ?_
      exact ⟨_, rfl, by rw [bop_62, if_neg (by omega)], rfl, rfl⟩
    · refine rz_iconst dX12_twoOf_198 ?_
      refine rz_goto (t := 203) dX12_twoOf_199 rfl ?_
      refine rz_iret dX12_twoOf_203 rfl ?_
      exact ⟨_, rfl, by rw [bop_62, if_pos (by omega)], rfl, rfl⟩
  refine rz_tableOut (t := 218) dX12_twoOf_1 (by omega) (by omega) rfl ?_
  refine rz_iload_n dX12_twoOf_218 rfl ?_
  refine rz_if_ne (t := 226) dX12_twoOf_219 rfl (by omega) (fun c219 => ?_) (fun c219 => ?_)
  · refine rz_iconst dX12_twoOf_226 ?_
    refine rz_goto (t := 231) dX12_twoOf_227 rfl ?_
    refine rz_iret dX12_twoOf_231 rfl ?_
    obtain rfl : n = 124 := by omega
    exact ⟨_, rfl, by rw [bop_124, if_pos (by omega)], rfl, rfl⟩
  · refine rz_iload_n dX12_twoOf_222 rfl ?_
    refine rz_if_eq (t := 230) dX12_twoOf_223 rfl (by omega) (fun c223 => ?_) (fun c223 => ?_)
    · refine rz_iconst dX12_twoOf_230 ?_
      refine rz_iret dX12_twoOf_231 rfl ?_
      obtain rfl : n = 124 := by omega
      exact ⟨_, rfl, by rw [bop_124, if_neg (by omega)], rfl, rfl⟩
    · refine rz_iconst dX12_twoOf_226 ?_
      refine rz_goto (t := 231) dX12_twoOf_227 rfl ?_
      refine rz_iret dX12_twoOf_231 rfl ?_
      obtain rfl : n = 124 := by omega
      exact ⟨_, rfl, by rw [bop_124, if_pos (by omega)], rfl, rfl⟩
def encP (I : IM) (F : Nat → Int) : IM := upA I 101 F
theorem encP_up {I : IM} {F : Nat → Int} {k : Nat} {x : Int} : encP I (up1 F k x) = upA (encP I F) 101 (up1 (encP I F 101) k x) := by unfold encP; rw [upA_upA]; rfl
theorem nam_w {c : Int} (h : namC (-c)) : actC c = 2 ∧ 0 ≤ withC c ∧ withC c ≤ 4 := by
  have : c = -97 ∨ c = -98 ∨ c = -119 ∨ c = -116 ∨ c = -118 := by omega
  rcases this with rfl | rfl | rfl | rfl | rfl <;> decide
theorem num_w {c : Int} (h : 0 ≤ c) : actC c = 1 ∧ withC c = c := ⟨if_pos h, if_pos h⟩
theorem bin_w {c : Int} (h : binC (-c)) : actC c = -c := by
  have : c = -42 ∨ c = -47 ∨ c = -37 ∨ c = -43 ∨ c = -45 ∨ c = -60 ∨ c = -61 ∨ c = -62 ∨ c = -38 ∨ c = -124 := by omega
  rcases this with rfl | rfl | rfl | rfl | rfl | rfl | rfl | rfl | rfl | rfl <;> decide
/-- the facts of an evaluation as the reference lays them out -/
def FacR (I : IM) (a b w t v : Int) : Prop := I 100 0 = a ∧ I 100 1 = b ∧ I 100 2 = w ∧ I 100 3 = t ∧ I 100 4 = v
theorem fac_at {I : IM} {a b w t v c : Int} (hq : FacR I a b w t v) (h : namC (-c)) : I 100 (withC c).toNat = faV a b w t v (-c) := by
  obtain ⟨h0, h1, h2, h3, h4⟩ := hq
  have : c = -97 ∨ c = -98 ∨ c = -119 ∨ c = -116 ∨ c = -118 := by omega
  rcases this with rfl | rfl | rfl | rfl | rfl
  · exact h0
  · exact h1
  · exact h2
  · exact h3
  · exact h4
theorem rz_ieq {X : pX} {h : Nat} {mi : MI} {pc : Nat} {ls : List (Option Value)} {st : List Value} {I J : IM} {P : Option Value → IM → IM → Prop} {x y : Int} (e : y = x) (k : Rz X h mi pc ls (zi y :: st) I J P) : Rz X h mi pc ls (zi x :: st) I J P := by subst e; exact k
set_option maxRecDepth 20000 in
set_option maxHeartbeats 400000 in
theorem V_num {X : pX} {I J : IM} {h k : Nat} {a b w t v fi en : Int} {F : Nat → Int} {P : Option Value → IM → IM → Prop} (hen : 0 ≤ en ∧ en ≤ 130) (hk : (k : Int) < en) {c : Int} {st : List Int} (hc : I 95 k = actC c) (hd : I 96 k = withC c) (hv : 0 ≤ c) (hn : st.length < 130) (hF : StK F st) (K : ∀ F2, StK F2 (stp (faV a b w t v) c st) → Rz X (h + 1) mX12_worked 12 [some (.ref 81), some (zi 0), some (zi fi), some (zi en), some (zi ((stp (faV a b w t v) c st).length : Int)), some (zi ((k + 1 : Nat) : Int)), none] [] (encP I F2) J P) : Rz X (h + 1) mX12_worked 12 [some (.ref 81), some (zi 0), some (zi fi), some (zi en), some (zi (st.length : Int)), some (zi (k : Int)), none] [] (encP I F) J P := by
  refine rz_iload dX12_worked_12 rfl ?_
  refine rz_sipush dX12_worked_14 (by decide) ?_
  refine rz_iload_n dX12_worked_17 rfl ?_
  refine rz_imul dX12_worked_18 ?_
  refine rz_iload_n dX12_worked_19 rfl ?_
  refine rz_iadd dX12_worked_20 ?_
  refine rz_icmp_ge (t := 188) dX12_worked_21 rfl (by omega) (by omega) (fun c21 => ?_) (fun c21 => ?_)
  · exfalso; omega
  · refine rz_aload_n dX12_worked_24 rfl ?_
    refine rz_getR dX12_worked_25 kf_RX12_50 hd_81 rfl rr_81_22 ?_
    refine rz_iload dX12_worked_28 rfl ?_
    refine rz_baldN (k := k) (z := 1) dX12_worked_30 hd_95 (by decide) (by omega) (by omega) (hc.trans (num_w hv).1) ?_
    refine rz_istore dX12_worked_31 (by decide) rfl ?_
    refine rz_iload dX12_worked_33 rfl ?_
    refine rz_iconst dX12_worked_35 ?_
    refine rz_icmp_eq (t := 45) dX12_worked_36 rfl (by omega) (by omega) (fun _ => ?_) (fun q => absurd q (by decide))
    refine rz_aload_n dX12_worked_45 rfl ?_
    refine rz_getR dX12_worked_46 kf_RX12_69 hd_81 rfl rr_81_28 ?_
    refine rz_iload dX12_worked_49 rfl ?_
    refine rz_iload dX12_worked_51 rfl ?_
    refine rz_iconst dX12_worked_53 ?_
    refine rz_icmp_ne (t := 67) dX12_worked_54 rfl (by omega) (by omega) (fun q => absurd q (by decide)) (fun _ => ?_)
    refine rz_aload_n dX12_worked_57 rfl ?_
    refine rz_getR dX12_worked_58 kf_RX12_53 hd_81 rfl rr_81_23 ?_
    refine rz_iload dX12_worked_61 rfl ?_
    refine rz_ialdN (k := k) (z := c) dX12_worked_63 hd_96 (by decide) (by omega) (by omega) (hd.trans (num_w hv).2) ?_
    refine rz_goto (t := 79) dX12_worked_64 rfl ?_
    refine rz_iastN (k := st.length) dX12_worked_79 hd_101 (by decide) (by omega) (by omega) ?_
    refine rz_iinc dX12_worked_80 (by decide) rfl rfl rfl ?_
    refine rz_goto (t := 182) dX12_worked_83 rfl ?_
    refine rz_iinc (ls' := [some (.ref 81), some (zi 0), some (zi fi), some (zi en), some (zi ((st.length : Int) + 1)), some (zi ((k : Int) + 1)), some (zi 1)]) dX12_worked_182 (by decide) rfl rfl rfl ?_
    refine rz_goto (t := 12) dX12_worked_185 rfl ?_
    rw [stp_n hv] at K
    exact rz_bk (K (up1 F st.length c) (StK_push hF)) ⟨Or.inr rfl, Or.inr rfl, Or.inr rfl, Or.inr rfl, Or.inr (congrArg (fun z => some (zi z)) (by simp)), Or.inr rfl, Or.inl rfl, trivial⟩ encP_up rfl
set_option maxRecDepth 20000 in
set_option maxHeartbeats 400000 in
theorem V_nam {X : pX} {I J : IM} {h k : Nat} {a b w t v fi en : Int} {F : Nat → Int} {P : Option Value → IM → IM → Prop} (hen : 0 ≤ en ∧ en ≤ 130) (hk : (k : Int) < en) {c : Int} {st : List Int} (hq : FacR I a b w t v) (hc : I 95 k = actC c) (hd : I 96 k = withC c) (hv : namC (-c)) (hn : st.length < 130) (hF : StK F st) (K : ∀ F2, StK F2 (stp (faV a b w t v) c st) → Rz X (h + 1) mX12_worked 12 [some (.ref 81), some (zi 0), some (zi fi), some (zi en), some (zi ((stp (faV a b w t v) c st).length : Int)), some (zi ((k + 1 : Nat) : Int)), none] [] (encP I F2) J P) : Rz X (h + 1) mX12_worked 12 [some (.ref 81), some (zi 0), some (zi fi), some (zi en), some (zi (st.length : Int)), some (zi (k : Int)), none] [] (encP I F) J P := by
  refine rz_iload dX12_worked_12 rfl ?_
  refine rz_sipush dX12_worked_14 (by decide) ?_
  refine rz_iload_n dX12_worked_17 rfl ?_
  refine rz_imul dX12_worked_18 ?_
  refine rz_iload_n dX12_worked_19 rfl ?_
  refine rz_iadd dX12_worked_20 ?_
  refine rz_icmp_ge (t := 188) dX12_worked_21 rfl (by omega) (by omega) (fun c21 => ?_) (fun c21 => ?_)
  · exfalso; omega
  · refine rz_aload_n dX12_worked_24 rfl ?_
    refine rz_getR dX12_worked_25 kf_RX12_50 hd_81 rfl rr_81_22 ?_
    refine rz_iload dX12_worked_28 rfl ?_
    refine rz_baldN (k := k) (z := 2) dX12_worked_30 hd_95 (by decide) (by omega) (by omega) (hc.trans (nam_w hv).1) ?_
    refine rz_istore dX12_worked_31 (by decide) rfl ?_
    refine rz_iload dX12_worked_33 rfl ?_
    refine rz_iconst dX12_worked_35 ?_
    refine rz_icmp_eq (t := 45) dX12_worked_36 rfl (by omega) (by omega) (fun q => absurd q (by decide)) (fun _ => ?_)
    refine rz_iload dX12_worked_39 rfl ?_
    refine rz_iconst dX12_worked_41 ?_
    refine rz_icmp_ne (t := 86) dX12_worked_42 rfl (by omega) (by omega) (fun q => absurd q (by decide)) (fun _ => ?_)
    refine rz_aload_n dX12_worked_45 rfl ?_
    refine rz_getR dX12_worked_46 kf_RX12_69 hd_81 rfl rr_81_28 ?_
    refine rz_iload dX12_worked_49 rfl ?_
    refine rz_iload dX12_worked_51 rfl ?_
    refine rz_iconst dX12_worked_53 ?_
    refine rz_icmp_ne (t := 67) dX12_worked_54 rfl (by omega) (by omega) (fun _ => ?_) (fun q => absurd q (by decide))
    have hw5 := nam_w hv
    refine rz_aload_n dX12_worked_67 rfl ?_
    refine rz_getR dX12_worked_68 kf_RX12_66 hd_81 rfl rr_81_27 ?_
    refine rz_aload_n dX12_worked_71 rfl ?_
    refine rz_getR dX12_worked_72 kf_RX12_53 hd_81 rfl rr_81_23 ?_
    refine rz_iload dX12_worked_75 rfl ?_
    refine rz_ialdN (k := k) (z := (withC c)) dX12_worked_77 hd_96 (by decide) (by omega) (by omega) hd ?_
    refine rz_iald (z := (faV a b w t v (-c))) dX12_worked_78 hd_100 (by decide) (by omega) (fac_at hq hv) ?_
    refine rz_iastN (k := st.length) dX12_worked_79 hd_101 (by decide) (by omega) (by omega) ?_
    refine rz_iinc dX12_worked_80 (by decide) rfl rfl rfl ?_
    refine rz_goto (t := 182) dX12_worked_83 rfl ?_
    refine rz_iinc (ls' := [some (.ref 81), some (zi 0), some (zi fi), some (zi en), some (zi ((st.length : Int) + 1)), some (zi ((k : Int) + 1)), some (zi 2)]) dX12_worked_182 (by decide) rfl rfl rfl ?_
    refine rz_goto (t := 12) dX12_worked_185 rfl ?_
    rw [stp_f hv] at K
    exact rz_bk (K (up1 F st.length (faV a b w t v (-c))) (StK_push hF)) ⟨Or.inr rfl, Or.inr rfl, Or.inr rfl, Or.inr rfl, Or.inr (congrArg (fun z => some (zi z)) (by simp)), Or.inr rfl, Or.inl rfl, trivial⟩ encP_up rfl
set_option maxRecDepth 20000 in
set_option maxHeartbeats 400000 in
theorem V_not {X : pX} {I J : IM} {h k : Nat} {a b w t v fi en : Int} {F : Nat → Int} {P : Option Value → IM → IM → Prop} (hen : 0 ≤ en ∧ en ≤ 130) (hk : (k : Int) < en) {x : Int} {r : List Int} (hc : I 95 k = actC (-33)) (hx : rg x) (hn : r.length < 129) (hF : StK F (x :: r)) (K : ∀ F2, StK F2 (stp (faV a b w t v) (-33) (x :: r)) → Rz X (h + 1) mX12_worked 12 [some (.ref 81), some (zi 0), some (zi fi), some (zi en), some (zi ((stp (faV a b w t v) (-33) (x :: r)).length : Int)), some (zi ((k + 1 : Nat) : Int)), none] [] (encP I F2) J P) : Rz X (h + 1) mX12_worked 12 [some (.ref 81), some (zi 0), some (zi fi), some (zi en), some (zi ((r.length + 1 : Nat) : Int)), some (zi (k : Int)), none] [] (encP I F) J P := by
  refine rz_iload dX12_worked_12 rfl ?_
  refine rz_sipush dX12_worked_14 (by decide) ?_
  refine rz_iload_n dX12_worked_17 rfl ?_
  refine rz_imul dX12_worked_18 ?_
  refine rz_iload_n dX12_worked_19 rfl ?_
  refine rz_iadd dX12_worked_20 ?_
  refine rz_icmp_ge (t := 188) dX12_worked_21 rfl (by omega) (by omega) (fun c21 => ?_) (fun c21 => ?_)
  · exfalso; omega
  · refine rz_aload_n dX12_worked_24 rfl ?_
    refine rz_getR dX12_worked_25 kf_RX12_50 hd_81 rfl rr_81_22 ?_
    refine rz_iload dX12_worked_28 rfl ?_
    refine rz_baldN (k := k) (z := 3) dX12_worked_30 hd_95 (by decide) (by omega) (by omega) hc ?_
    refine rz_istore dX12_worked_31 (by decide) rfl ?_
    refine rz_iload dX12_worked_33 rfl ?_
    refine rz_iconst dX12_worked_35 ?_
    refine rz_icmp_eq (t := 45) dX12_worked_36 rfl (by omega) (by omega) (fun q => absurd q (by decide)) (fun _ => ?_)
    refine rz_iload dX12_worked_39 rfl ?_
    refine rz_iconst dX12_worked_41 ?_
    refine rz_icmp_ne (t := 86) dX12_worked_42 rfl (by omega) (by omega) (fun _ => ?_) (fun q => absurd q (by decide))
    refine rz_iload dX12_worked_86 rfl ?_
    refine rz_iconst dX12_worked_88 ?_
    refine rz_icmp_ne (t := 121) dX12_worked_89 rfl (by omega) (by omega) (fun q => absurd q (by decide)) (fun _ => ?_)
    refine rz_aload_n dX12_worked_92 rfl ?_
    refine rz_getR dX12_worked_93 kf_RX12_69 hd_81 rfl rr_81_28 ?_
    refine rz_iload dX12_worked_96 rfl ?_
    refine rz_iconst dX12_worked_98 ?_
    refine rz_isub dX12_worked_99 ?_
    refine rz_aload_n dX12_worked_100 rfl ?_
    refine rz_getR dX12_worked_101 kf_RX12_69 hd_81 rfl rr_81_28 ?_
    refine rz_iload dX12_worked_104 rfl ?_
    refine rz_iconst dX12_worked_106 ?_
    refine rz_isub dX12_worked_107 ?_
    refine rz_ialdN (k := r.length) (z := x) dX12_worked_108 hd_101 (by decide) (by omega) (by omega) hF.1 ?_
    refine rz_if_ne (t := 116) dX12_worked_109 rfl (by omega) (fun c109 => ?_) (fun c109 => ?_)
    · refine rz_iconst dX12_worked_116 ?_
      refine rz_iastN (k := r.length) dX12_worked_117 hd_101 (by decide) (by omega) (by omega) ?_
      refine rz_goto (t := 182) dX12_worked_118 rfl ?_
      refine rz_iinc dX12_worked_182 (by decide) rfl rfl rfl ?_
      refine rz_goto (t := 12) dX12_worked_185 rfl ?_
      first
        | exact rz_bk (K (up1 F r.length 1) (by rw [stp_33, if_pos (by assumption)]; exact StK_push hF.2)) ⟨Or.inr rfl, Or.inr rfl, Or.inr rfl, Or.inr rfl, Or.inr rfl, Or.inr rfl, Or.inl rfl, trivial⟩ encP_up rfl
        | exact rz_bk (K (up1 F r.length 0) (by rw [stp_33, if_neg (by assumption)]; exact StK_push hF.2)) ⟨Or.inr rfl, Or.inr rfl, Or.inr rfl, Or.inr rfl, Or.inr rfl, Or.inr rfl, Or.inl rfl, trivial⟩ encP_up rfl
    · refine rz_iconst dX12_worked_112 ?_
      refine rz_goto (t := 117) dX12_worked_113 rfl ?_
      refine rz_iastN (k := r.length) dX12_worked_117 hd_101 (by decide) (by omega) (by omega) ?_
      refine rz_goto (t := 182) dX12_worked_118 rfl ?_
      refine rz_iinc dX12_worked_182 (by decide) rfl rfl rfl ?_
      refine rz_goto (t := 12) dX12_worked_185 rfl ?_
      first
        | exact rz_bk (K (up1 F r.length 1) (by rw [stp_33, if_pos (by assumption)]; exact StK_push hF.2)) ⟨Or.inr rfl, Or.inr rfl, Or.inr rfl, Or.inr rfl, Or.inr rfl, Or.inr rfl, Or.inl rfl, trivial⟩ encP_up rfl
        | exact rz_bk (K (up1 F r.length 0) (by rw [stp_33, if_neg (by assumption)]; exact StK_push hF.2)) ⟨Or.inr rfl, Or.inr rfl, Or.inr rfl, Or.inr rfl, Or.inr rfl, Or.inr rfl, Or.inl rfl, trivial⟩ encP_up rfl
set_option maxRecDepth 20000 in
set_option maxHeartbeats 400000 in
theorem V_neg {X : pX} {I J : IM} {h k : Nat} {a b w t v fi en : Int} {F : Nat → Int} {P : Option Value → IM → IM → Prop} (hen : 0 ≤ en ∧ en ≤ 130) (hk : (k : Int) < en) {x : Int} {r : List Int} (hc : I 95 k = actC (-1)) (hx : rg x) (hn : r.length < 129) (hF : StK F (x :: r)) (K : ∀ F2, StK F2 (stp (faV a b w t v) (-1) (x :: r)) → Rz X (h + 1) mX12_worked 12 [some (.ref 81), some (zi 0), some (zi fi), some (zi en), some (zi ((stp (faV a b w t v) (-1) (x :: r)).length : Int)), some (zi ((k + 1 : Nat) : Int)), none] [] (encP I F2) J P) : Rz X (h + 1) mX12_worked 12 [some (.ref 81), some (zi 0), some (zi fi), some (zi en), some (zi ((r.length + 1 : Nat) : Int)), some (zi (k : Int)), none] [] (encP I F) J P := by
  refine rz_iload dX12_worked_12 rfl ?_
  refine rz_sipush dX12_worked_14 (by decide) ?_
  refine rz_iload_n dX12_worked_17 rfl ?_
  refine rz_imul dX12_worked_18 ?_
  refine rz_iload_n dX12_worked_19 rfl ?_
  refine rz_iadd dX12_worked_20 ?_
  refine rz_icmp_ge (t := 188) dX12_worked_21 rfl (by omega) (by omega) (fun c21 => ?_) (fun c21 => ?_)
  · exfalso; omega
  · refine rz_aload_n dX12_worked_24 rfl ?_
    refine rz_getR dX12_worked_25 kf_RX12_50 hd_81 rfl rr_81_22 ?_
    refine rz_iload dX12_worked_28 rfl ?_
    refine rz_baldN (k := k) (z := 4) dX12_worked_30 hd_95 (by decide) (by omega) (by omega) hc ?_
    refine rz_istore dX12_worked_31 (by decide) rfl ?_
    refine rz_iload dX12_worked_33 rfl ?_
    refine rz_iconst dX12_worked_35 ?_
    refine rz_icmp_eq (t := 45) dX12_worked_36 rfl (by omega) (by omega) (fun q => absurd q (by decide)) (fun _ => ?_)
    refine rz_iload dX12_worked_39 rfl ?_
    refine rz_iconst dX12_worked_41 ?_
    refine rz_icmp_ne (t := 86) dX12_worked_42 rfl (by omega) (by omega) (fun _ => ?_) (fun q => absurd q (by decide))
    refine rz_iload dX12_worked_86 rfl ?_
    refine rz_iconst dX12_worked_88 ?_
    refine rz_icmp_ne (t := 121) dX12_worked_89 rfl (by omega) (by omega) (fun _ => ?_) (fun q => absurd q (by decide))
    refine rz_iload dX12_worked_121 rfl ?_
    refine rz_iconst dX12_worked_123 ?_
    refine rz_icmp_ne (t := 149) dX12_worked_124 rfl (by omega) (by omega) (fun q => absurd q (by decide)) (fun _ => ?_)
    refine rz_aload_n dX12_worked_127 rfl ?_
    refine rz_getR dX12_worked_128 kf_RX12_69 hd_81 rfl rr_81_28 ?_
    refine rz_iload dX12_worked_131 rfl ?_
    refine rz_iconst dX12_worked_133 ?_
    refine rz_isub dX12_worked_134 ?_
    refine rz_aload_n dX12_worked_135 rfl ?_
    refine rz_getR dX12_worked_136 kf_RX12_69 hd_81 rfl rr_81_28 ?_
    refine rz_iload dX12_worked_139 rfl ?_
    refine rz_iconst dX12_worked_141 ?_
    refine rz_isub dX12_worked_142 ?_
    refine rz_ialdN (k := r.length) (z := x) dX12_worked_143 hd_101 (by decide) (by omega) (by omega) hF.1 ?_
    refine rz_ineg dX12_worked_144 ?_
    refine rz_wr ?_
    refine rz_iastN (k := r.length) dX12_worked_145 hd_101 (by decide) (by omega) (by omega) ?_
    refine rz_goto (t := 182) dX12_worked_146 rfl ?_
    refine rz_iinc dX12_worked_182 (by decide) rfl rfl rfl ?_
    refine rz_goto (t := 12) dX12_worked_185 rfl ?_
    exact rz_bk (K (up1 F r.length (wr (-x))) (StK_push hF.2)) ⟨Or.inr rfl, Or.inr rfl, Or.inr rfl, Or.inr rfl, Or.inr rfl, Or.inr rfl, Or.inl rfl, trivial⟩ encP_up rfl
set_option maxRecDepth 20000 in
set_option maxHeartbeats 400000 in
theorem V_bin {X : pX} {I J : IM} {h k : Nat} {a b w t v fi en : Int} {F : Nat → Int} {P : Option Value → IM → IM → Prop} (hen : 0 ≤ en ∧ en ≤ 130) (hk : (k : Int) < en) {c x y : Int} {r : List Int} (hc : I 95 k = actC c) (hv : binC (-c)) (hx : rg x) (hy : rg y) (hn : r.length < 128) (hF : StK F (y :: x :: r)) (K : ∀ F2, StK F2 (stp (faV a b w t v) c (y :: x :: r)) → Rz X (h + 1) mX12_worked 12 [some (.ref 81), some (zi 0), some (zi fi), some (zi en), some (zi ((stp (faV a b w t v) c (y :: x :: r)).length : Int)), some (zi ((k + 1 : Nat) : Int)), none] [] (encP I F2) J P) : Rz X (h + 1) mX12_worked 12 [some (.ref 81), some (zi 0), some (zi fi), some (zi en), some (zi ((r.length + 1 + 1 : Nat) : Int)), some (zi (k : Int)), none] [] (encP I F) J P := by
  refine rz_iload dX12_worked_12 rfl ?_
  refine rz_sipush dX12_worked_14 (by decide) ?_
  refine rz_iload_n dX12_worked_17 rfl ?_
  refine rz_imul dX12_worked_18 ?_
  refine rz_iload_n dX12_worked_19 rfl ?_
  refine rz_iadd dX12_worked_20 ?_
  refine rz_icmp_ge (t := 188) dX12_worked_21 rfl (by omega) (by omega) (fun c21 => ?_) (fun c21 => ?_)
  · exfalso; omega
  · refine rz_aload_n dX12_worked_24 rfl ?_
    refine rz_getR dX12_worked_25 kf_RX12_50 hd_81 rfl rr_81_22 ?_
    refine rz_iload dX12_worked_28 rfl ?_
    refine rz_baldN (k := k) (z := (-c)) dX12_worked_30 hd_95 (by decide) (by omega) (by omega) (hc.trans (bin_w hv)) ?_
    refine rz_istore dX12_worked_31 (by decide) rfl ?_
    refine rz_iload dX12_worked_33 rfl ?_
    refine rz_iconst dX12_worked_35 ?_
    refine rz_icmp_eq (t := 45) dX12_worked_36 rfl (by omega) (by omega) (fun c36 => ?_) (fun c36 => ?_)
    · exfalso; omega
    · refine rz_iload dX12_worked_39 rfl ?_
      refine rz_iconst dX12_worked_41 ?_
      refine rz_icmp_ne (t := 86) dX12_worked_42 rfl (by omega) (by omega) (fun c42 => ?_) (fun c42 => ?_)
      · refine rz_iload dX12_worked_86 rfl ?_
        refine rz_iconst dX12_worked_88 ?_
        refine rz_icmp_ne (t := 121) dX12_worked_89 rfl (by omega) (by omega) (fun c89 => ?_) (fun c89 => ?_)
        · refine rz_iload dX12_worked_121 rfl ?_
          refine rz_iconst dX12_worked_123 ?_
          refine rz_icmp_ne (t := 149) dX12_worked_124 rfl (by omega) (by omega) (fun c124 => ?_) (fun c124 => ?_)
          · refine rz_iinc dX12_worked_149 (by decide) rfl rfl rfl ?_
            refine rz_aload_n dX12_worked_152 rfl ?_
            refine rz_getR dX12_worked_153 kf_RX12_69 hd_81 rfl rr_81_28 ?_
            refine rz_iload dX12_worked_156 rfl ?_
            refine rz_iconst dX12_worked_158 ?_
            refine rz_isub dX12_worked_159 ?_
            refine rz_iload dX12_worked_160 rfl ?_
            refine rz_aload_n dX12_worked_162 rfl ?_
            refine rz_getR dX12_worked_163 kf_RX12_69 hd_81 rfl rr_81_28 ?_
            refine rz_iload dX12_worked_166 rfl ?_
            refine rz_iconst dX12_worked_168 ?_
            refine rz_isub dX12_worked_169 ?_
            refine rz_ialdN (k := r.length) (z := x) dX12_worked_170 hd_101 (by decide) (by omega) (by omega) hF.2.1 ?_
            refine rz_aload_n dX12_worked_171 rfl ?_
            refine rz_getR dX12_worked_172 kf_RX12_69 hd_81 rfl rr_81_28 ?_
            refine rz_iload dX12_worked_175 rfl ?_
            refine rz_ialdN (k := (r.length + 1)) (z := y) dX12_worked_177 hd_101 (by decide) (by omega) (by omega) hF.1 ?_
            refine rz_cSI dX12_worked_178 kl_RX12_237 (c_X12_twoOf X _ (encP I F) J (-c) x y (by assumption) (by assumption) (by assumption)) rfl rfl (Nat.le_of_ble_eq_true rfl) (Nat.le_of_ble_eq_true rfl) ?_
            refine rz_iastN (k := r.length) dX12_worked_181 hd_101 (by decide) (by omega) (by omega) ?_
            refine rz_iinc (ls' := [some (.ref 81), some (zi 0), some (zi fi), some (zi en), some (zi (((r.length + 1 + 1 : Nat) : Int) + (-1))), some (zi ((k : Int) + 1)), some (zi (-c))]) dX12_worked_182 (by decide) rfl rfl rfl ?_
            refine rz_goto (t := 12) dX12_worked_185 rfl ?_
            rw [stp_b hv] at K
            exact rz_bk (K (up1 F r.length (bop (-c) x y)) (StK_push hF.2.2)) ⟨Or.inr rfl, Or.inr rfl, Or.inr rfl, Or.inr rfl, Or.inr (congrArg (fun z => some (zi z)) (show (((bop (-c) x y) :: r).length : Int) = _ by simp; omega)), Or.inr rfl, Or.inl rfl, trivial⟩ encP_up rfl
          · exfalso; omega
        · exfalso; omega
      · exfalso; omega
