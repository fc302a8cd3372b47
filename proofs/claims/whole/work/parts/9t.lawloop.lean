/-! the law's loop, its start, its end -/
theorem law_sw {X : pX} {h n : Nat} {I J : IM} {P : Option Value → IM → IM → Prop} (w : Int) (hw : rg w) (hL : X.1 ≤ 100000) (hn : n + 6 ≤ X.1) (hI : Inv I J) (hk : ∀ A B : IM, Inv A B → Rz X (h + 100 + 1) mL_law 1332 (lsL n) [] A B P) : Rz X (h + 100 + 1) mL_law 33 (lsL n) [zi w] I J P := by
  by_cases hc : 0 ≤ w ∧ w ≤ 36
  · obtain ⟨k, rfl⟩ : ∃ k : Nat, w = (k : Int) := ⟨w.toNat, by omega⟩
    have hk36 : k < 37 := by omega
    clear hw hc
    match k, hk36 with
    | 0, _ => exact rz_tableIn (t := 196) dL_law_33 (by decide) (by decide) rfl rfl (lc_0 hL hn hI hk)
    | 1, _ => exact rz_tableIn (t := 229) dL_law_33 (by decide) (by decide) rfl rfl (lc_1 hL hn hI hk)
    | 2, _ => exact rz_tableIn (t := 272) dL_law_33 (by decide) (by decide) rfl rfl (lc_2 hL hn hI hk)
    | 3, _ => exact rz_tableIn (t := 305) dL_law_33 (by decide) (by decide) rfl rfl (lc_3 hL hn hI hk)
    | 4, _ => exact rz_tableIn (t := 348) dL_law_33 (by decide) (by decide) rfl rfl (lc_4 hL hn hI hk)
    | 5, _ => exact rz_tableIn (t := 391) dL_law_33 (by decide) (by decide) rfl rfl (lc_5 hL hn hI hk)
    | 6, _ => exact rz_tableIn (t := 414) dL_law_33 (by decide) (by decide) rfl rfl (lc_6 hL hn hI hk)
    | 7, _ => exact rz_tableIn (t := 427) dL_law_33 (by decide) (by decide) rfl rfl (lc_7 hL hn hI hk)
    | 8, _ => exact rz_tableIn (t := 460) dL_law_33 (by decide) (by decide) rfl rfl (lc_8 hL hn hI hk)
    | 9, _ => exact rz_tableIn (t := 493) dL_law_33 (by decide) (by decide) rfl rfl (lc_9 hL hn hI hk)
    | 10, _ => exact rz_tableIn (t := 517) dL_law_33 (by decide) (by decide) rfl rfl (lc_10 hL hn hI hk)
    | 11, _ => exact rz_tableIn (t := 540) dL_law_33 (by decide) (by decide) rfl rfl (lc_11 hL hn hI hk)
    | 12, _ => exact rz_tableIn (t := 584) dL_law_33 (by decide) (by decide) rfl rfl (lc_12 hL hn hI hk)
    | 13, _ => exact rz_tableIn (t := 618) dL_law_33 (by decide) (by decide) rfl rfl (lc_13 hL hn hI hk)
    | 14, _ => exact rz_tableIn (t := 652) dL_law_33 (by decide) (by decide) rfl rfl (lc_14 hL hn hI hk)
    | 15, _ => exact rz_tableIn (t := 685) dL_law_33 (by decide) (by decide) rfl rfl (lc_15 hL hn hI hk)
    | 16, _ => exact rz_tableIn (t := 718) dL_law_33 (by decide) (by decide) rfl rfl (lc_16 hL hn hI hk)
    | 17, _ => exact rz_tableIn (t := 741) dL_law_33 (by decide) (by decide) rfl rfl (lc_17 hL hn hI hk)
    | 18, _ => exact rz_tableIn (t := 764) dL_law_33 (by decide) (by decide) rfl rfl (lc_18 hL hn hI hk)
    | 19, _ => exact rz_tableIn (t := 787) dL_law_33 (by decide) (by decide) rfl rfl (lc_19 hL hn hI hk)
    | 20, _ => exact rz_tableIn (t := 810) dL_law_33 (by decide) (by decide) rfl rfl (lc_20 hL hn hI hk)
    | 21, _ => exact rz_tableIn (t := 833) dL_law_33 (by decide) (by decide) rfl rfl (lc_21 hL hn hI hk)
    | 22, _ => exact rz_tableIn (t := 866) dL_law_33 (by decide) (by decide) rfl rfl (lc_22 hL hn hI hk)
    | 23, _ => exact rz_tableIn (t := 889) dL_law_33 (by decide) (by decide) rfl rfl (lc_23 hL hn hI hk)
    | 24, _ => exact rz_tableIn (t := 902) dL_law_33 (by decide) (by decide) rfl rfl (lc_24 hL hn hI hk)
    | 25, _ => exact rz_tableIn (t := 915) dL_law_33 (by decide) (by decide) rfl rfl (lc_25 hL hn hI hk)
    | 26, _ => exact rz_tableIn (t := 928) dL_law_33 (by decide) (by decide) rfl rfl (lc_26 hL hn hI hk)
    | 27, _ => exact rz_tableIn (t := 941) dL_law_33 (by decide) (by decide) rfl rfl (lc_27 hL hn hI hk)
    | 28, _ => exact rz_tableIn (t := 964) dL_law_33 (by decide) (by decide) rfl rfl (lc_28 hL hn hI hk)
    | 29, _ => exact rz_tableIn (t := 1007) dL_law_33 (by decide) (by decide) rfl rfl (lc_29 hL hn hI hk)
    | 30, _ => exact rz_tableIn (t := 1030) dL_law_33 (by decide) (by decide) rfl rfl (lc_30 hL hn hI hk)
    | 31, _ => exact rz_tableIn (t := 1063) dL_law_33 (by decide) (by decide) rfl rfl (lc_31 hL hn hI hk)
    | 32, _ => exact rz_tableIn (t := 1106) dL_law_33 (by decide) (by decide) rfl rfl (lc_32 hL hn hI hk)
    | 33, _ => exact rz_tableIn (t := 1179) dL_law_33 (by decide) (by decide) rfl rfl (lc_33 hL hn hI hk)
    | 34, _ => exact rz_tableIn (t := 1213) dL_law_33 (by decide) (by decide) rfl rfl (lc_34 hL hn hI hk)
    | 35, _ => exact rz_tableIn (t := 1276) dL_law_33 (by decide) (by decide) rfl rfl (lc_35 hL hn hI hk)
    | 36, _ => exact rz_tableIn (t := 1309) dL_law_33 (by decide) (by decide) rfl rfl (lc_36 hL hn hI hk)
    | k + 37, q => exact absurd q (by omega)
  · exact rz_tableOut (t := 1332) dL_law_33 hw (by omega) rfl (hk I J hI)
theorem law_loop {X : pX} {h : Nat} {I J : IM} (hL : X.1 ≤ 3072) (hI : Inv I J) : Rz X (h + 100 + 1) mL_law 18 [some (.ref 1000), some (.ref 0), some (.ref 81), some (zi 0)] [] I J (fun r _ _ => r = some (zi 1)) := by
  refine rz_wh (σ := Nat × IM × IM) (Inv := fun s => s.1 ≤ X.1 ∧ Inv s.2.1 s.2.2) (ls := fun s => lsL s.1) (IV := fun s => s.2.1) (JV := fun s => s.2.2) (fun s => X.1 - s.1) (0, I, J) ⟨Nat.zero_le _, hI⟩ ⟨Or.inr rfl, Or.inr rfl, Or.inr rfl, Or.inr rfl, trivial⟩ rfl rfl ?_
  intro s q ih
  obtain ⟨n, A, B⟩ := s
  obtain ⟨hn, hA⟩ : n ≤ X.1 ∧ Inv A B := q
  refine rz_to (ls' := lsL n) (I' := A) (J' := B) ⟨Or.inr rfl, Or.inr rfl, Or.inr rfl, Or.inr rfl, trivial⟩ rfl rfl ?_
  refine rz_iload_n dL_law_18 rfl ?_
  refine rz_aload_n dL_law_19 rfl ?_
  refine rz_slenX dL_law_20 ?_
  refine rz_bipush dL_law_21 (by decide) ?_
  refine rz_isub dL_law_23 ?_
  refine rz_icmp_gt (t := 1338) dL_law_24 rfl (by omega) (by omega) (fun c => ?_) (fun c => ?_)
  · refine rz_iconst dL_law_1338 ?_
    refine rz_zret dL_law_1339 rfl (by decide) ?_
    rfl
  · have hn6 : n + 6 ≤ X.1 := by omega
    refine rz_aload_n dL_law_27 rfl ?_
    refine rz_iload_n dL_law_28 rfl ?_
    refine rz_sldX dL_law_29 (by omega) (by omega) ?_
    refine rz_bipush dL_law_30 (by decide) ?_
    refine rz_iand dL_law_32 ?_
    refine law_sw _ (i32_rg _) (by omega) hn6 hA (fun A2 B2 hI2 => ?_)
    refine rz_iinc (z := ((n + 6 : Nat) : Int)) (ls' := lsL (n + 6)) dL_law_1332 (by decide) rfl (by omega) rfl ?_
    refine rz_goto (t := 18) dL_law_1335 rfl ?_
    exact rz_bk (ih (n + 6, A2, B2) ⟨hn6, hI2⟩ (show X.1 - (n + 6) < X.1 - n by omega)) ⟨Or.inr rfl, Or.inr rfl, Or.inr rfl, Or.inr rfl, trivial⟩ rfl rfl
/-! the start -/
theorem I00_ne {d : Nat} (h1 : d ≠ 10) (h2 : d ≠ 85) (h3 : d ≠ 118) : I00 d = fun _ => 0 := by
  simp [I00, IU, IUs, upA, h1, h2, h3]
theorem I00_10 : I00 10 = up1 (up1 (fun _ => 0) 0 6) 1 6 := rfl
theorem I00_85 : I00 85 = I00 10 := rfl
theorem I00_118 : ∀ k, k < 6 → I00 118 k = -1 := six rfl rfl rfl rfl rfl rfl
theorem I00_z {d : Nat} (h1 : d ≠ 10) (h2 : d ≠ 85) (h3 : d ≠ 118) {k : Nat} : I00 d k = 0 := by rw [I00_ne h1 h2 h3]
abbrev m00 : Mx := (0, fun _ => 0, fun _ _ => 0)
theorem mc00 {o : Nat} (h1 : o ≠ 10) (h2 : o ≠ 85) (h3 : o ≠ 118) : MixC I00 o m00 := ⟨⟨I00_z h1 h2 h3, Nat.zero_le _⟩, fun i hi => absurd hi (Nat.not_lt_zero i)⟩
theorem Inv0 : Inv I00 J00 := by
  refine ⟨none, 0, m00, m00, m00, m00, ?_, ?_, ?_, ?_, ?_, ?_, ?_, ?_, ?_, ?_⟩
  · refine ⟨⟨I00_z (by decide) (by decide) (by decide), Nat.zero_le _⟩, I00_z (by decide) (by decide) (by decide), ?_, ?_, ?_, I00_85, fun v hv => absurd hv (Nat.not_lt_zero v), fun v hv => ?_, fun b hb => ?_⟩
    · rw [I00_ne (d := 82) (by decide) (by decide) (by decide), I00_ne (d := 7) (by decide) (by decide) (by decide)]
    · rw [I00_ne (d := 83) (by decide) (by decide) (by decide), I00_ne (d := 8) (by decide) (by decide) (by decide)]
    · rw [I00_ne (d := 84) (by decide) (by decide) (by decide), I00_ne (d := 9) (by decide) (by decide) (by decide)]
    · rw [I00_z (d := 7) (by decide) (by decide) (by decide), I00_z (d := 8) (by decide) (by decide) (by decide), I00_z (d := 9) (by decide) (by decide) (by decide)]; decide
    · rw [I00_10]
      rcases (show b = 0 ∨ b = 1 by omega) with rfl | rfl <;> decide
  · refine ⟨?_, ?_, ?_, ?_, ?_, ?_, ?_, fun k hk => ?_⟩
    · rw [I00_z (d := 58) (by decide) (by decide) (by decide), I00_z (d := 58) (by decide) (by decide) (by decide)]; decide
    · rw [I00_z (d := 81) (by decide) (by decide) (by decide), I00_z (d := 58) (by decide) (by decide) (by decide)]
    · rw [I00_z (d := 81) (by decide) (by decide) (by decide), I00_z (d := 58) (by decide) (by decide) (by decide), I00_z (d := 58) (by decide) (by decide) (by decide)]; decide
    · rw [I00_ne (d := 90) (by decide) (by decide) (by decide), I00_ne (d := 59) (by decide) (by decide) (by decide)]
    · rw [I00_ne (d := 89) (by decide) (by decide) (by decide), I00_ne (d := 60) (by decide) (by decide) (by decide)]
    · rw [I00_ne (d := 91) (by decide) (by decide) (by decide), I00_ne (d := 61) (by decide) (by decide) (by decide)]
    · rw [I00_ne (d := 92) (by decide) (by decide) (by decide), I00_ne (d := 62) (by decide) (by decide) (by decide)]
    · rw [I00_z (d := 58) (by decide) (by decide) (by decide)] at hk; omega
  · refine ⟨mc00 (by decide) (by decide) (by decide), mc00 (by decide) (by decide) (by decide), ⟨⟨I00_z (by decide) (by decide) (by decide), Nat.zero_le _⟩, fun i hi => absurd hi (Nat.not_lt_zero i)⟩, ⟨⟨I00_z (by decide) (by decide) (by decide), Nat.zero_le _⟩, fun i hi => absurd hi (Nat.not_lt_zero i)⟩, fun k => ?_⟩
    rw [I00_z (d := 88) (by decide) (by decide) (by decide)]; decide
  · refine ⟨Or.inl (I00_z (by decide) (by decide) (by decide)), ?_, mc00 (by decide) (by decide) (by decide), mc00 (by decide) (by decide) (by decide), ⟨⟨I00_z (by decide) (by decide) (by decide), Nat.zero_le _⟩, fun i hi => absurd hi (Nat.not_lt_zero i)⟩, ⟨⟨I00_z (by decide) (by decide) (by decide), Nat.zero_le _⟩, fun i hi => absurd hi (Nat.not_lt_zero i)⟩, fun k => ?_⟩
    · rw [I00_z (d := 81) (by decide) (by decide) (by decide), I00_z (d := 0) (by decide) (by decide) (by decide)]
    · rw [I00_z (d := 115) (by decide) (by decide) (by decide)]; decide
  · refine ⟨?_, ?_, ?_, ?_, ?_, ?_, fun j hj => ?_⟩
    · rw [I00_z (d := 63) (by decide) (by decide) (by decide)]; decide
    · rw [I00_z (d := 81) (by decide) (by decide) (by decide), I00_z (d := 63) (by decide) (by decide) (by decide)]
    · rw [I00_z (d := 63) (by decide) (by decide) (by decide)]; decide
    · rw [I00_z (d := 81) (by decide) (by decide) (by decide), I00_z (d := 63) (by decide) (by decide) (by decide)]
    · rw [I00_ne (d := 117) (by decide) (by decide) (by decide), I00_ne (d := 64) (by decide) (by decide) (by decide)]
    · rw [I00_ne (d := 116) (by decide) (by decide) (by decide), I00_ne (d := 65) (by decide) (by decide) (by decide)]
    · rw [I00_z (d := 63) (by decide) (by decide) (by decide)] at hj; omega
  · intro k hk
    rw [I00_118 k hk, I00_ne (d := 67 + 2 * k) (by omega) (by omega) (by omega), I00_ne (d := 119) (by decide) (by decide) (by decide)]
    exact ⟨by decide, rfl, rfl, fun q => absurd q (by decide), fun j hj => rfl, fun q => absurd q (by decide)⟩
  · refine ⟨?_, ?_, fun k => ?_, fun k hk => ?_⟩
    · rw [I00_z (d := 1) (by decide) (by decide) (by decide)]; decide
    · rw [I00_z (d := 81) (by decide) (by decide) (by decide), I00_z (d := 1) (by decide) (by decide) (by decide)]
    · rw [I00_z (d := 2) (by decide) (by decide) (by decide)]; decide
    · rw [I00_z (d := 1) (by decide) (by decide) (by decide)] at hk; omega
  · exact ⟨I00_z (by decide) (by decide) (by decide), I00_z (by decide) (by decide) (by decide)⟩
  · intro v hv
    have e : I00 12 v = 0 := I00_z (by decide) (by decide) (by decide)
    exact ⟨Or.inl e, fun _ => e, fun q => by rw [e] at q; exact absurd q (by decide)⟩
  · intro j
    rw [I00_z (d := 104) (by decide) (by decide) (by decide)]; decide
theorem law_run (L : Nat) (xs : Nat → Int32) (hL : L ≤ 3072) : Rn 500 mL_law 0 (entL [.ref 1000] 4) [] (M00 L xs) (fun r M' => r = some (.int 1) ∧ cnt M' ≤ 600000 ∧ slt M' ≤ 7302250) := by
  rw [ct_start]
  show Rn (496 + 4) mL_law 0 [some (.ref 1000), none, none, none] [] (Cs 0 0 0 (L, xs)) _
  refine ct_law (L, xs) 496 _ ?_
  rw [ct_end]
  have k : Rz (L, xs) (399 + 100 + 1) mL_law 16 [some (.ref 1000), some (.ref 0), some (.ref 81), none] [] I00 J00 (fun r _ _ => r = some (zi 1)) := by
    refine rz_iconst dL_law_16 ?_
    refine rz_istore_n dL_law_17 (by decide) rfl ?_
    exact law_loop (X := (L, xs)) (h := 399) hL Inv0
  refine Rn.mono k ?_
  rintro r M' ⟨A, B, rfl, rfl⟩
  exact ⟨rfl, by show HD0.length ≤ 600000; decide +kernel, by show (HD0.map hsz).sum ≤ 7302250; decide +kernel⟩
