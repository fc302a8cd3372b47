/-! mend, undone, done again -/
theorem tc_core {I P A2 : IM} {lw : Lw} {n : Nat} {a w v : Int} (ht : Town I n) (hc : CchI I lw n) (hm : mayR n a w v) (hP : ∀ b, b < 58 ∨ 62 < b → P b = I b) (hcl : ∀ b, b < 58 ∨ (62 < b ∧ b < 81) ∨ b = 84 ∨ (85 < b ∧ b < 89) ∨ 92 < b → A2 b = becM P a w v b) (h82 : A2 82 = fW (I 82) w 1 a v) (h83 : A2 83 = fW (I 83) w 2 a v) (h85 : A2 85 = fW (I 85) w 0 a v) (h81 : ∀ k, k ≠ 9 → k ≠ 10 → A2 81 k = I 81 k) : FrT I A2 ∧ Town A2 n ∧ CchI A2 lw n := by
  obtain ⟨b7, b8, b10, b12, b9, b11⟩ := bec_c (I := P) (a := a) (v := v) (may3 hm)
  rw [hP 7 (by decide)] at b7
  rw [hP 8 (by decide)] at b8
  rw [hP 10 (by decide)] at b10
  rw [hP 12 (by decide)] at b12
  rw [hP 9 (by decide)] at b9
  rw [hP 11 (by decide)] at b11
  have e7 := (hcl 7 (by decide)).trans b7
  have e8 := (hcl 8 (by decide)).trans b8
  have e9 := (hcl 9 (by decide)).trans b9
  have e10 := (hcl 10 (by decide)).trans b10
  have e11 := (hcl 11 (by decide)).trans b11
  have e12 := (hcl 12 (by decide)).trans b12
  have ek : ∀ b, b < 7 ∨ (12 < b ∧ b < 58) ∨ (62 < b ∧ b < 81) ∨ b = 84 ∨ (85 < b ∧ b < 89) ∨ 92 < b → A2 b = I b := fun b hb => by
    rw [hcl b (by omega), becM_k (by omega), hP b (by omega)]
  exact ⟨⟨fun b hb => ek b (by omega), h81⟩, town_bec ht hm (by rw [ek 6 (by decide)]) (h81 1 (by decide) (by decide)) e9 (ek 84 (by decide)) e7 e8 e10 h82 h83 h85, cch_bec hc (may3 hm) e12 e11 e9 e7 e8⟩
theorem mend_core {I J P Q : IM} {lw : Lw} {n : Nat} {m0 m1 i0 i1 : Mx} {a w x v : Int} (h : Iv I J lw n m0 m1 i0 i1) (hm : mayR n a w v) (hx : mayR n a w x) (D : Nat) (hD : D ≤ 39) (F1 F2 F3 F4 : Nat → Int) (ho : ∀ k, k < D → mayR n (F1 k) (F2 k) (F3 k) ∧ mayR n (F1 k) (F2 k) (F4 k))
    (hP : ∀ b, b < 58 ∨ 62 < b → P b = I b) (p59 : P 59 = up1 F1 D a) (p60 : P 60 = up1 F2 D w) (p61 : P 61 = up1 F3 D x) (p62 : P 62 = up1 F4 D v) (pd : P 58 1 = (D : Int) + 1 ∧ P 58 0 = (D : Int) + 1)
    (hQ : ∀ b, b < 81 ∨ (81 < b ∧ b < 89) ∨ 92 < b → Q b = becM P a w v b) (hk : ∀ k, k ≠ 9 → k ≠ 10 → Q 81 k = becM P a w v 81 k) (q90 : Q 90 = up1 F1 D a) (q89 : Q 89 = up1 F2 D w) (q91 : Q 91 = up1 F3 D x) (q92 : Q 92 = up1 F4 D v) (qr : Q 81 9 = (D : Int) + 1 ∧ Q 81 10 = 0) : Iv (laysM Q w a v) J lw n m0 m1 i0 i1 := by
  obtain ⟨c82, c83, c85⟩ := lays_c (I := Q) (a := a) (v := v) (may3 hm)
  rw [hQ 82 (by decide), becM_k (by omega), hP 82 (by decide)] at c82
  rw [hQ 83 (by decide), becM_k (by omega), hP 83 (by decide)] at c83
  rw [hQ 85 (by decide), becM_k (by omega), hP 85 (by decide)] at c85
  have q : FrT I (laysM Q w a v) ∧ Town (laysM Q w a v) n ∧ CchI (laysM Q w a v) lw n := tc_core h.1 h.2.2.2.2.2.2.2.2.1 hm hP (fun b hb => by rw [lays_o (by omega), hQ b (by omega)]) c82 c83 c85 (fun k h1 h2 => by rw [lays_o (by decide), hk k h1 h2, becM_81, hP 81 (by decide)])
  have e58 : laysM Q w a v 58 = P 58 := by rw [lays_o (by decide), hQ 58 (by decide), becM_k (by omega)]
  have e59 : laysM Q w a v 59 = P 59 := by rw [lays_o (by decide), hQ 59 (by decide), becM_k (by omega)]
  have e60 : laysM Q w a v 60 = P 60 := by rw [lays_o (by decide), hQ 60 (by decide), becM_k (by omega)]
  have e61 : laysM Q w a v 61 = P 61 := by rw [lays_o (by decide), hQ 61 (by decide), becM_k (by omega)]
  have e62 : laysM Q w a v 62 = P 62 := by rw [lays_o (by decide), hQ 62 (by decide), becM_k (by omega)]
  refine Iv_t h q.1 q.2.1 (chg_put D hD F1 F2 F3 F4 ho hx hm (e59.trans p59) (e60.trans p60) (e61.trans p61) (e62.trans p62) ?_ ?_ ?_ ?_ (by rw [e58]; exact pd) (by rw [lays_o (by decide)]; exact qr)) q.2.2
  · rw [lays_o (by decide)]; exact q90
  · rw [lays_o (by decide)]; exact q89
  · rw [lays_o (by decide)]; exact q91
  · rw [lays_o (by decide)]; exact q92
def shF (F : Nat → Int) : Nat → Int := fun k => if k < 39 then F (k + 1) else F k
theorem cpy_sh (F : Nat → Int) : va_cpy F F 1 0 39 = shF F := by
  funext k
  unfold shF
  by_cases e : k < 39
  · rw [if_pos e, pk_cpy_in (by omega) (by omega)]
    congr 1
    omega
  · rw [if_neg e, pk_cpy_out (by omega)]
theorem chR_frame {A : IM} {w n a v : Int} {b : Nat} (h : b ≠ 81 ∧ b ≠ 89 ∧ b ≠ 90 ∧ b ≠ 91 ∧ b ≠ 92) : chR2 A w n a v b = A b := by
  simp [chR2, upA, h]
theorem chR2_81 {A : IM} {w n a v : Int} {k : Nat} (h : k ≠ 9) : chR2 A w n a v 81 k = A 81 k := by
  show up1 (A 81) 9 (A 81 9 + 1) k = _
  exact up1_ne h
theorem op_mend {X : pX} {h : Nat} (a b c : Int) (ha : rg a) (hb : rg b) (hc : rg c) : OpI X (h + 100) mX11_mend mX12_mend [zi a, zi b, zi c] := fun I J hI => by
  obtain ⟨lw, n, m0, m1, i0, i1, ht, hg, hm, hi, hac, hs, hp, hl, hcc, hbk⟩ := hI
  have hv : Iv I J lw n m0 m1 i0 i1 := ⟨ht, hg, hm, hi, hac, hs, hp, hl, hcc, hbk⟩
  obtain ⟨t1, t2, t3, t4, t5, t6, t7, t8, t9⟩ := id ht
  obtain ⟨g1, g2, g3, g4, g5, g6, g7, g8⟩ := id hg
  refine KIq.mono (c_X11_mend X _ I J a b c ha hb hc (ht.TI hcc) (by omega)) ?_
  rintro z A B ⟨rfl, rfl, rfl⟩
  have hxe : valR I a b = valT I a b := val_eq ht
  by_cases q : mayR n a b c ∧ valT I a b ≠ c
  · have hB : mayB I a b c := (mayB_R ht).mpr q.1
    have eA : mendC I a b c = becM (noteM I a b (valT I a b) c) a b c := if_pos ⟨hB, q.2⟩
    have eZ : mendZC I a b c = valT I a b := if_pos hB
    rw [eA, eZ]
    have hA : ∀ x, (x < 7 ∨ 12 < x) → (x < 58 ∨ 62 < x) → becM (noteM I a b (valT I a b) c) a b c x = I x := fun x h1 h2 => by rw [becM_k h1, noteM_k h2]
    have a81 := hA 81 (by decide) (by decide)
    refine KIq.mono (c_X12_mend X _ _ B a b c ha hb hc (by rw [a81]; omega) (by rw [a81]; omega) ⟨fun v hv2 => by rw [hA 82 (by decide) (by decide), hA 83 (by decide) (by decide)]; exact ht.RgR.1 v hv2, fun v hv2 => by rw [hA 85 (by decide) (by decide)]; exact ht.RgR.2 v hv2⟩) ?_
    rintro z2 A2 B2 ⟨rfl, rfl, rfl⟩
    have hv2 : valR (becM (noteM I a b (valT I a b) c) a b c) a b = valT I a b := by
      unfold valR
      rw [hA 82 (by decide) (by decide), hA 83 (by decide) (by decide), hA 85 (by decide) (by decide)]
      exact hxe
    have hmr : mayR (becM (noteM I a b (valT I a b) c) a b c 81 1) a b c := by rw [a81, t2]; exact q.1
    obtain ⟨y1, y2⟩ := mend_y (I := becM (noteM I a b (valT I a b) c) a b c) hmr
    refine ⟨by rw [y1, hv2], lw, n, m0, m1, i0, i1, ?_⟩
    rw [y2]
    by_cases hd : I 58 1 < 40
    · have h9 : becM (noteM I a b (valT I a b) c) a b c 81 9 ≠ 40 := by rw [a81]; omega
      rw [chR_a (by rw [hv2]; exact q.2) h9, hv2]
      have hN : noteM I a b (valT I a b) c = noteW I a b (valT I a b) c := noteM_lt hd
      have e9 : (chR0 (becM (noteM I a b (valT I a b) c) a b c) 81 9).toNat = (I 58 1).toNat := by
        show (becM (noteM I a b (valT I a b) c) a b c 81 9).toNat = _
        rw [a81, g2]
      refine mend_core (P := noteM I a b (valT I a b) c) hv q.1 (val_may ht q.1) (I 58 1).toNat (by omega) (I 59) (I 60) (I 61) (I 62) (fun k hk => g8 k (by omega)) (fun x hx => noteM_k hx) ?_ ?_ ?_ ?_ ?_ (fun x hx => by rw [chR_frame (by omega)]; exact if_neg (by omega)) (fun k h1 h2 => by rw [chR2_81 h1]; exact up1_ne h2) ?_ ?_ ?_ ?_ ?_
      · rw [hN]; rfl
      · rw [hN]; rfl
      · rw [hN]; rfl
      · rw [hN]; rfl
      · rw [hN]
        show I 58 1 + 1 = _ ∧ I 58 1 + 1 = _
        omega
      · show up1 (becM (noteM I a b (valT I a b) c) a b c 90) (chR0 (becM (noteM I a b (valT I a b) c) a b c) 81 9).toNat a = _
        rw [e9, hA 90 (by decide) (by decide), g4]
      · show up1 (becM (noteM I a b (valT I a b) c) a b c 89) (chR0 (becM (noteM I a b (valT I a b) c) a b c) 81 9).toNat b = _
        rw [e9, hA 89 (by decide) (by decide), g5]
      · show up1 (becM (noteM I a b (valT I a b) c) a b c 91) (chR0 (becM (noteM I a b (valT I a b) c) a b c) 81 9).toNat (valT I a b) = _
        rw [e9, hA 91 (by decide) (by decide), g6]
      · show up1 (becM (noteM I a b (valT I a b) c) a b c 92) (chR0 (becM (noteM I a b (valT I a b) c) a b c) 81 9).toNat c = _
        rw [e9, hA 92 (by decide) (by decide), g7]
      · show becM (noteM I a b (valT I a b) c) a b c 81 9 + 1 = _ ∧ (0 : Int) = 0
        rw [a81]
        omega
    · have h9 : becM (noteM I a b (valT I a b) c) a b c 81 9 = 40 := by rw [a81]; omega
      rw [chR_b (by rw [hv2]; exact q.2) h9, hv2]
      have hN : noteM I a b (valT I a b) c = noteW (dropM I) a b (valT I a b) c := noteM_ge (by omega)
      have s9 : ∀ x, shM (chR0 (becM (noteM I a b (valT I a b) c) a b c)) 39 81 x = chR0 (becM (noteM I a b (valT I a b) c) a b c) 81 x := fun x => by rw [shM_out (by omega)]
      have e9 : (chR1 (becM (noteM I a b (valT I a b) c) a b c) 81 9).toNat = 39 := by
        show (shM (chR0 (becM (noteM I a b (valT I a b) c) a b c)) 39 81 9 - 1).toNat = 39
        rw [s9]
        show (becM (noteM I a b (valT I a b) c) a b c 81 9 - 1).toNat = 39
        rw [h9]; rfl
      have sF : ∀ x, 89 ≤ x ∧ x ≤ 92 → chR1 (becM (noteM I a b (valT I a b) c) a b c) x = shF (I x) := fun x hx => by
        have e1 : chR1 (becM (noteM I a b (valT I a b) c) a b c) x = shM (chR0 (becM (noteM I a b (valT I a b) c) a b c)) 39 x := if_neg (by omega)
        have e2 : chR0 (becM (noteM I a b (valT I a b) c) a b c) x = I x := (if_neg (by omega)).trans (hA x (by omega) (by omega))
        rw [e1]
        funext k
        unfold shM shF
        rw [e2]
        by_cases k39 : k < 39
        · rw [if_pos ⟨hx.1, hx.2, k39⟩, if_pos k39]
        · rw [if_neg (fun w => k39 w.2.2), if_neg k39]
      refine mend_core (P := noteM I a b (valT I a b) c) hv q.1 (val_may ht q.1) 39 (by decide) (shF (I 59)) (shF (I 60)) (shF (I 61)) (shF (I 62)) (fun k hk => ?_) (fun x hx => noteM_k hx) ?_ ?_ ?_ ?_ ?_ (fun x hx => ?_) (fun k h1 h2 => ?_) ?_ ?_ ?_ ?_ ?_
      · unfold shF
        rw [if_pos hk, if_pos hk, if_pos hk, if_pos hk]
        exact g8 (k + 1) (by omega)
      · rw [hN, ← cpy_sh]; rfl
      · rw [hN, ← cpy_sh]; rfl
      · rw [hN, ← cpy_sh]; rfl
      · rw [hN, ← cpy_sh]; rfl
      · rw [hN]; exact ⟨rfl, rfl⟩
      · rw [chR_frame (by omega)]
        have e1 : chR1 (becM (noteM I a b (valT I a b) c) a b c) x = shM (chR0 (becM (noteM I a b (valT I a b) c) a b c)) 39 x := if_neg (by omega)
        rw [e1, shM_out (by omega)]
        exact if_neg (by omega)
      · rw [chR2_81 h1]
        show up1 (shM (chR0 (becM (noteM I a b (valT I a b) c) a b c)) 39 81) 9 _ k = _
        rw [up1_ne h1, s9]
        exact up1_ne h2
      · show up1 (chR1 (becM (noteM I a b (valT I a b) c) a b c) 90) (chR1 (becM (noteM I a b (valT I a b) c) a b c) 81 9).toNat a = _
        rw [e9, sF 90 (by decide), g4]
      · show up1 (chR1 (becM (noteM I a b (valT I a b) c) a b c) 89) (chR1 (becM (noteM I a b (valT I a b) c) a b c) 81 9).toNat b = _
        rw [e9, sF 89 (by decide), g5]
      · show up1 (chR1 (becM (noteM I a b (valT I a b) c) a b c) 91) (chR1 (becM (noteM I a b (valT I a b) c) a b c) 81 9).toNat (valT I a b) = _
        rw [e9, sF 91 (by decide), g6]
      · show up1 (chR1 (becM (noteM I a b (valT I a b) c) a b c) 92) (chR1 (becM (noteM I a b (valT I a b) c) a b c) 81 9).toNat c = _
        rw [e9, sF 92 (by decide), g7]
      · show shM (chR0 (becM (noteM I a b (valT I a b) c) a b c)) 39 81 9 - 1 + 1 = _ ∧ shM (chR0 (becM (noteM I a b (valT I a b) c) a b c)) 39 81 10 = 0
        rw [s9, s9]
        show becM (noteM I a b (valT I a b) c) a b c 81 9 - 1 + 1 = _ ∧ (0 : Int) = 0
        rw [h9]
        exact ⟨rfl, rfl⟩
  · have eA : mendC I a b c = I := if_neg (fun w => q ⟨(mayB_R ht).mp w.1, w.2⟩)
    rw [eA]
    refine KIq.mono (c_X12_mend X _ _ B a b c ha hb hc (by omega) (by omega) ht.RgR) ?_
    rintro z2 A2 B2 ⟨rfl, rfl, rfl⟩
    by_cases hm2 : mayR n a b c
    · have hmr : mayR (I 81 1) a b c := by rw [t2]; exact hm2
      obtain ⟨y1, y2⟩ := mend_y (I := I) hmr
      have hve : valT I a b = c := by
        by_cases w : valT I a b = c
        · exact w
        · exact absurd ⟨hm2, w⟩ q
      refine ⟨?_, lw, n, m0, m1, i0, i1, ?_⟩
      · rw [y1, hxe]
        exact (if_pos ((mayB_R ht).mpr hm2)).symm
      · rw [y2, chR_eq (by rw [hxe]; exact hve)]; exact hv
    · have hmr : ¬ mayR (I 81 1) a b c := by rw [t2]; exact hm2
      obtain ⟨y1, y2⟩ := mend_n (I := I) hmr
      refine ⟨?_, lw, n, m0, m1, i0, i1, ?_⟩
      · rw [y1]
        exact (if_neg (fun w => hm2 ((mayB_R ht).mp w))).symm
      · rw [y2]; exact hv
