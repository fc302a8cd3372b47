/-! act -/
def trT (g : Nat → Int) (p : Nat) : List Int → Nat → Int
  | [] => g
  | c :: l => trT (up1 g p c) (p + 1) l
theorem trM_all : ∀ (l : List Int) (I : IM), 0 ≤ I 63 1 → (∀ d, d ≠ 63 → d ≠ 64 → trM I l d = I d) ∧ (∀ k, k ≠ 1 → trM I l 63 k = I 63 k) ∧ trM I l 64 = trT (I 64) (I 63 1).toNat l
  | [], I, _ => ⟨fun _ _ _ => rfl, fun _ _ => rfl, rfl⟩
  | c :: l, I, h => by
    have e63 : ∀ k, k ≠ 1 → stM I c 63 k = I 63 k := fun k hk => by
      unfold stM; rw [upA_self, up1_ne hk, upA_ne (by decide)]
    have e64 : stM I c 64 = up1 (I 64) (I 63 1).toNat c := by
      unfold stM; rw [upA_ne (by decide), upA_self]
    have e1 : stM I c 63 1 = I 63 1 + 1 := stM_R
    have ed : ∀ d, d ≠ 63 → d ≠ 64 → stM I c d = I d := fun d h1 h2 => by
      unfold stM; rw [upA_ne h1, upA_ne h2]
    obtain ⟨g1, g2, g3⟩ := trM_all l (stM I c) (by omega)
    refine ⟨fun d h1 h2 => (g1 d h1 h2).trans (ed d h1 h2), fun k hk => (g2 k hk).trans (e63 k hk), ?_⟩
    show trM (stM I c) l 64 = trT (up1 (I 64) (I 63 1).toNat c) ((I 63 1).toNat + 1) l
    rw [g3, e64, e1, show (I 63 1 + 1).toNat = (I 63 1).toNat + 1 by omega]
theorem trR_all : ∀ (l : List Int) (I : IM), 0 ≤ I 81 53 → (∀ d, d ≠ 81 → d ≠ 117 → trR I l d = I d) ∧ (∀ k, k ≠ 53 → trR I l 81 k = I 81 k) ∧ trR I l 117 = trT (I 117) (I 81 53).toNat l
  | [], I, _ => ⟨fun _ _ _ => rfl, fun _ _ => rfl, rfl⟩
  | c :: l, I, h => by
    have e63 : ∀ k, k ≠ 53 → stR I c 81 k = I 81 k := fun k hk => by
      unfold stR; rw [upA_self, up1_ne hk, upA_ne (by decide)]
    have e64 : stR I c 117 = up1 (I 117) (I 81 53).toNat c := by
      unfold stR; rw [upA_ne (by decide), upA_self]
    have e1 : stR I c 81 53 = I 81 53 + 1 := stR_R
    have ed : ∀ d, d ≠ 81 → d ≠ 117 → stR I c d = I d := fun d h1 h2 => by
      unfold stR; rw [upA_ne h1, upA_ne h2]
    obtain ⟨g1, g2, g3⟩ := trR_all l (stR I c) (by omega)
    refine ⟨fun d h1 h2 => (g1 d h1 h2).trans (ed d h1 h2), fun k hk => (g2 k hk).trans (e63 k hk), ?_⟩
    show trR (stR I c) l 117 = trT (up1 (I 117) (I 81 53).toNat c) ((I 81 53).toNat + 1) l
    rw [g3, e64, e1, show (I 81 53 + 1).toNat = (I 81 53).toNat + 1 by omega]
theorem Iv_a {I J A : IM} {lw : Lw} {n : Nat} {m0 m1 i0 i1 : Mx} (h : Iv I J lw n m0 m1 i0 i1) (e : ∀ a, a ≠ 63 → a ≠ 64 → a ≠ 81 → a ≠ 117 → A a = I a) (e63 : A 63 0 = I 63 0) (e81 : ∀ k, k ≠ 53 → A 81 k = I 81 k) (ha : Acts A) : Iv A J lw n m0 m1 i0 i1 := by
  obtain ⟨ht, hg, hm, hi, -, hs, hp, hl, hc, hb⟩ := h
  have g : ∀ a, a < 63 → A a = I a := fun a h => e a (by omega) (by omega) (by omega) (by omega)
  have g2 : ∀ a, 81 < a → a < 117 → A a = I a := fun a h h2 => e a (by omega) (by omega) (by omega) (by omega)
  refine ⟨Town_of (by rw [g 6 (by decide)]) (g 7 (by decide)) (g 8 (by decide)) (g 9 (by decide)) (g 10 (by decide)) (e81 1 (by decide)) (g2 82 (by decide) (by decide)) (g2 83 (by decide) (by decide)) (g2 84 (by decide) (by decide)) (g2 85 (by decide) (by decide)) ht,
    Chg_of (g 58 (by decide)) (g 59 (by decide)) (g 60 (by decide)) (g 61 (by decide)) (g 62 (by decide)) (e81 9 (by decide)) (e81 10 (by decide)) (g2 89 (by decide) (by decide)) (g2 90 (by decide) (by decide)) (g2 91 (by decide) (by decide)) (g2 92 (by decide) (by decide)) hg,
    Mixs_of (g 14 (by decide)) (g 15 (by decide)) (g 16 (by decide)) (g 17 (by decide)) (g 18 (by decide)) (g 19 (by decide)) (g2 86 (by decide) (by decide)) (g2 87 (by decide) (by decide)) (g2 88 (by decide) (by decide)) hm,
    Imgs_of (by rw [g 0 (by decide)]) (e81 47 (by decide)) (g 21 (by decide)) (g 22 (by decide)) (g 23 (by decide)) (g 24 (by decide)) (g 25 (by decide)) (g 26 (by decide)) (g2 113 (by decide) (by decide)) (g2 114 (by decide) (by decide)) (g2 115 (by decide) (by decide)) hi,
    ha,
    Shls_of (fun k hk => e _ (by omega) (by omega) (by omega) (by omega)) (e 118 (by decide) (by decide) (by decide) (by decide)) (e 119 (by decide) (by decide) (by decide) (by decide)) e63 (fun _ _ => rfl) rfl hs,
    Tape_of (by rw [g 1 (by decide)]) (g 2 (by decide)) (e81 17 (by decide)) (g2 94 (by decide) (by decide)) hp,
    LawI_congr (by rw [g 1 (by decide)]) (g 4 (by decide)) (e81 29 (by decide)) (g2 95 (by decide) (by decide)) (g2 96 (by decide) (by decide)) (by rw [g2 97 (by decide) (by decide)]) (g2 98 (by decide) (by decide)) (g2 99 (by decide) (by decide)) hl, CchI_of (g 7 (by decide)) (g 8 (by decide)) (g 9 (by decide)) (g 11 (by decide)) (g 12 (by decide)) hc, fun j => by rw [g2 104 (by decide) (by decide)]; exact hb j⟩
/-- an act that there is: both tell the same, both trace the same -/
theorem act_two {X : pX} {h : Nat} {I J : IM} (n a x : Int) (hn : 0 ≤ n ∧ n < I 63 0) (h5 : I 63 0 ≤ 50) (ha : 0 ≤ a ∧ a ≤ 3) (hk : 0 ≤ I 65 n.toNat ∧ I 65 n.toNat ≤ 7) : ∃ z l, l.length ≤ 24 ∧ KI X (h + 20) mX0_perform [.ref 63, zi n, zi a, zi x] I J z (trM (pfM I n) l) J ∧ ∀ A B : IM, A 81 51 = I 63 0 → A 116 = I 65 → KI X (h + 21) mX12_act [.ref 81, zi n, zi a, zi x] A B z (trR (upA A 81 (up1 (A 81) 53 0)) l) B := by
  rcases (show I 65 n.toNat = 0 ∨ I 65 n.toNat = 1 ∨ I 65 n.toNat = 2 ∨ I 65 n.toNat = 3 ∨ I 65 n.toNat = 4 ∨ I 65 n.toNat = 5 ∨ I 65 n.toNat = 6 ∨ I 65 n.toNat = 7 by omega) with ek | ek | ek | ek | ek | ek | ek | ek
  · rcases (show a = 0 ∨ a = 1 ∨ a = 2 ∨ a = 3 by omega) with rfl | rfl | rfl | rfl
    · exact ⟨_, [1], by decide, c_perform_0_0 X _ I J n x hn h5 ek, fun A B e1 e2 => c_act_0_0 X _ A B n x (by omega) (by omega) (by rw [e2]; exact ek)⟩
    · exact ⟨_, [10, 1], by decide, c_perform_0_1 X _ I J n x hn h5 ek, fun A B e1 e2 => c_act_0_1 X _ A B n x (by omega) (by omega) (by rw [e2]; exact ek)⟩
    · exact ⟨_, [11], by decide, c_perform_0_2 X _ I J n x hn h5 ek, fun A B e1 e2 => c_act_0_2 X _ A B n x (by omega) (by omega) (by rw [e2]; exact ek)⟩
    · exact ⟨_, [2, 10, 1, 11], by decide, c_perform_0_3 X _ I J n x hn h5 ek, fun A B e1 e2 => c_act_0_3 X _ A B n x (by omega) (by omega) (by rw [e2]; exact ek)⟩
  · rcases (show a = 0 ∨ a = 1 ∨ a = 2 ∨ a = 3 by omega) with rfl | rfl | rfl | rfl
    · exact ⟨_, [20, 1], by decide, c_perform_1_0 X _ I J n x hn h5 ek, fun A B e1 e2 => c_act_1_0 X _ A B n x (by omega) (by omega) (by rw [e2]; exact ek)⟩
    · exact ⟨_, [10, 20, 1], by decide, c_perform_1_1 X _ I J n x hn h5 ek, fun A B e1 e2 => c_act_1_1 X _ A B n x (by omega) (by omega) (by rw [e2]; exact ek)⟩
    · exact ⟨_, [11], by decide, c_perform_1_2 X _ I J n x hn h5 ek, fun A B e1 e2 => c_act_1_2 X _ A B n x (by omega) (by omega) (by rw [e2]; exact ek)⟩
    · exact ⟨_, [2, 10, 20, 1, 11], by decide, c_perform_1_3 X _ I J n x hn h5 ek, fun A B e1 e2 => c_act_1_3 X _ A B n x (by omega) (by omega) (by rw [e2]; exact ek)⟩
  · rcases (show a = 0 ∨ a = 1 ∨ a = 2 ∨ a = 3 by omega) with rfl | rfl | rfl | rfl
    · exact ⟨_, [1], by decide, c_perform_2_0 X _ I J n x hn h5 ek, fun A B e1 e2 => c_act_2_0 X _ A B n x (by omega) (by omega) (by rw [e2]; exact ek)⟩
    · exact ⟨_, [30, 10, 1], by decide, c_perform_2_1 X _ I J n x hn h5 ek, fun A B e1 e2 => c_act_2_1 X _ A B n x (by omega) (by omega) (by rw [e2]; exact ek)⟩
    · exact ⟨_, [11], by decide, c_perform_2_2 X _ I J n x hn h5 ek, fun A B e1 e2 => c_act_2_2 X _ A B n x (by omega) (by omega) (by rw [e2]; exact ek)⟩
    · exact ⟨_, [2, 30, 10, 1, 11], by decide, c_perform_2_3 X _ I J n x hn h5 ek, fun A B e1 e2 => c_act_2_3 X _ A B n x (by omega) (by omega) (by rw [e2]; exact ek)⟩
  · rcases (show a = 0 ∨ a = 1 ∨ a = 2 ∨ a = 3 by omega) with rfl | rfl | rfl | rfl
    · exact ⟨_, [1], by decide, c_perform_3_0 X _ I J n x hn h5 ek, fun A B e1 e2 => c_act_3_0 X _ A B n x (by omega) (by omega) (by rw [e2]; exact ek)⟩
    · exact ⟨_, [41, 30, 10, 1], by decide, c_perform_3_1 X _ I J n x hn h5 ek, fun A B e1 e2 => c_act_3_1 X _ A B n x (by omega) (by omega) (by rw [e2]; exact ek)⟩
    · exact ⟨_, [40, 11], by decide, c_perform_3_2 X _ I J n x hn h5 ek, fun A B e1 e2 => c_act_3_2 X _ A B n x (by omega) (by omega) (by rw [e2]; exact ek)⟩
    · exact ⟨_, [2, 41, 30, 10, 1, 40, 11], by decide, c_perform_3_3 X _ I J n x hn h5 ek, fun A B e1 e2 => c_act_3_3 X _ A B n x (by omega) (by omega) (by rw [e2]; exact ek)⟩
  · rcases (show a = 0 ∨ a = 1 ∨ a = 2 ∨ a = 3 by omega) with rfl | rfl | rfl | rfl
    · exact ⟨_, [20, 1], by decide, c_perform_4_0 X _ I J n x hn h5 ek, fun A B e1 e2 => c_act_4_0 X _ A B n x (by omega) (by omega) (by rw [e2]; exact ek)⟩
    · exact ⟨_, [10, 20, 1], by decide, c_perform_4_1 X _ I J n x hn h5 ek, fun A B e1 e2 => c_act_4_1 X _ A B n x (by omega) (by omega) (by rw [e2]; exact ek)⟩
    · exact ⟨_, [11], by decide, c_perform_4_2 X _ I J n x hn h5 ek, fun A B e1 e2 => c_act_4_2 X _ A B n x (by omega) (by omega) (by rw [e2]; exact ek)⟩
    · exact ⟨_, [50, 2, 10, 20, 1, 11], by decide, c_perform_4_3 X _ I J n x hn h5 ek, fun A B e1 e2 => c_act_4_3 X _ A B n x (by omega) (by omega) (by rw [e2]; exact ek)⟩
  · rcases (show a = 0 ∨ a = 1 ∨ a = 2 ∨ a = 3 by omega) with rfl | rfl | rfl | rfl
    · exact ⟨_, [20, 1], by decide, c_perform_5_0 X _ I J n x hn h5 ek, fun A B e1 e2 => c_act_5_0 X _ A B n x (by omega) (by omega) (by rw [e2]; exact ek)⟩
    · exact ⟨_, [10, 20, 1], by decide, c_perform_5_1 X _ I J n x hn h5 ek, fun A B e1 e2 => c_act_5_1 X _ A B n x (by omega) (by omega) (by rw [e2]; exact ek)⟩
    · exact ⟨_, [60, 11, 20, 1], by decide, c_perform_5_2 X _ I J n x hn h5 ek, fun A B e1 e2 => c_act_5_2 X _ A B n x (by omega) (by omega) (by rw [e2]; exact ek)⟩
    · exact ⟨_, [61, 50, 2, 10, 20, 1, 60, 11, 20, 1], by decide, c_perform_5_3 X _ I J n x hn h5 ek, fun A B e1 e2 => c_act_5_3 X _ A B n x (by omega) (by omega) (by rw [e2]; exact ek)⟩
  · rcases (show a = 0 ∨ a = 1 ∨ a = 2 ∨ a = 3 by omega) with rfl | rfl | rfl | rfl
    · exact ⟨_, [70, 1], by decide, c_perform_6_0 X _ I J n x hn h5 ek, fun A B e1 e2 => c_act_6_0 X _ A B n x (by omega) (by omega) (by rw [e2]; exact ek)⟩
    · exact ⟨_, [10, 70, 1], by decide, c_perform_6_1 X _ I J n x hn h5 ek, fun A B e1 e2 => c_act_6_1 X _ A B n x (by omega) (by omega) (by rw [e2]; exact ek)⟩
    · exact ⟨_, [11], by decide, c_perform_6_2 X _ I J n x hn h5 ek, fun A B e1 e2 => c_act_6_2 X _ A B n x (by omega) (by omega) (by rw [e2]; exact ek)⟩
    · exact ⟨_, [2, 10, 70, 1, 11], by decide, c_perform_6_3 X _ I J n x hn h5 ek, fun A B e1 e2 => c_act_6_3 X _ A B n x (by omega) (by omega) (by rw [e2]; exact ek)⟩
  · rcases (show a = 0 ∨ a = 1 ∨ a = 2 ∨ a = 3 by omega) with rfl | rfl | rfl | rfl
    · exact ⟨_, [81, 70, 1], by decide, c_perform_7_0 X _ I J n x hn h5 ek, fun A B e1 e2 => c_act_7_0 X _ A B n x (by omega) (by omega) (by rw [e2]; exact ek)⟩
    · exact ⟨_, [80, 10, 81, 70, 1, 11], by decide, c_perform_7_1 X _ I J n x hn h5 ek, fun A B e1 e2 => c_act_7_1 X _ A B n x (by omega) (by omega) (by rw [e2]; exact ek)⟩
    · exact ⟨_, [11], by decide, c_perform_7_2 X _ I J n x hn h5 ek, fun A B e1 e2 => c_act_7_2 X _ A B n x (by omega) (by omega) (by rw [e2]; exact ek)⟩
    · exact ⟨_, [2, 80, 10, 81, 70, 1, 11, 11], by decide, c_perform_7_3 X _ I J n x hn h5 ek, fun A B e1 e2 => c_act_7_3 X _ A B n x (by omega) (by omega) (by rw [e2]; exact ek)⟩
theorem op_act {X : pX} {h : Nat} (a b c : Int) (ha : rg a) (hb : rg b) (hc : rg c) : OpI X (h + 100) mX11_act mX12_act [zi a, zi b, zi c] := fun I J hI => by
  obtain ⟨lw, n, m0, m1, i0, i1, ht, hg, hm, hi, hac, hs, hp, hl, hcc, hbk⟩ := hI
  have hv : Iv I J lw n m0 m1 i0 i1 := ⟨ht, hg, hm, hi, hac, hs, hp, hl, hcc, hbk⟩
  obtain ⟨t1, t2, t3, t4, t5, t6, t7, t8, t9⟩ := id ht
  obtain ⟨x1, x2, x3, x4, x5⟩ := id hm
  obtain ⟨a1, a2, a3, a4, a5, a6, a7⟩ := id hac
  by_cases v : (0 ≤ a ∧ a < I 63 0) ∧ 0 ≤ b ∧ b ≤ 3
  · obtain ⟨z, l, hl24, hc1, hc2⟩ := act_two (X := X) (h := h + 79) (J := J) a b c v.1 a1.2 v.2 (a7 a.toNat (by omega))
    refine KIq.mono (X11_act_of hc1) ?_
    rintro z1 A B ⟨rfl, rfl, rfl⟩
    have p0 : pfM I a 63 1 = 0 := rfl
    have pd : ∀ d, d ≠ 63 → pfM I a d = I d := fun d hd => by unfold pfM; rw [upA_ne hd, upA_ne hd]
    obtain ⟨g1, g2, g3⟩ := trM_all l (pfM I a) (by omega)
    have g4 : trM (pfM I a) l 63 1 = pfM I a 63 1 + (l.length : Int) := trM_R
    have e63 : trM (pfM I a) l 63 0 = I 63 0 := (g2 0 (by decide)).trans rfl
    have e81 : trM (pfM I a) l 81 = I 81 := (g1 81 (by decide) (by decide)).trans (pd 81 (by decide))
    have e116 : trM (pfM I a) l 116 = I 116 := (g1 116 (by decide) (by decide)).trans (pd 116 (by decide))
    have e117 : trM (pfM I a) l 117 = I 117 := (g1 117 (by decide) (by decide)).trans (pd 117 (by decide))
    have e65 : trM (pfM I a) l 65 = I 65 := (g1 65 (by decide) (by decide)).trans (pd 65 (by decide))
    rw [p0] at g3 g4
    rw [pd 64 (by decide)] at g3
    refine KIq.mono (hc2 (trM (pfM I a) l) B (by rw [e81]; exact a2) (by rw [e116]; exact a6)) ?_
    rintro z2 A2 B2 ⟨rfl, rfl, rfl⟩
    have r0 : upA (trM (pfM I a) l) 81 (up1 (trM (pfM I a) l 81) 53 0) 81 53 = 0 := rfl
    have rd : ∀ d, d ≠ 81 → upA (trM (pfM I a) l) 81 (up1 (trM (pfM I a) l 81) 53 0) d = trM (pfM I a) l d := fun d hd => upA_ne hd
    have r81 : ∀ k, k ≠ 53 → upA (trM (pfM I a) l) 81 (up1 (trM (pfM I a) l 81) 53 0) 81 k = I 81 k := fun k hk => by rw [upA_self, up1_ne hk, e81]
    obtain ⟨k1, k2, k3⟩ := trR_all l (upA (trM (pfM I a) l) 81 (up1 (trM (pfM I a) l 81) 53 0)) (by omega)
    have k4 : trR (upA (trM (pfM I a) l) 81 (up1 (trM (pfM I a) l 81) 53 0)) l 81 53 = upA (trM (pfM I a) l) 81 (up1 (trM (pfM I a) l 81) 53 0) 81 53 + (l.length : Int) := trR_R
    rw [r0] at k3 k4
    rw [rd 117 (by decide), e117, a5] at k3
    have q63 := (k1 63 (by decide) (by decide)).trans (rd 63 (by decide))
    refine ⟨rfl, lw, n, m0, m1, i0, i1, Iv_a hv (fun d h1 h2 h3 h4 => ((k1 d h3 h4).trans (rd d h3)).trans ((g1 d h1 h2).trans (pd d h1))) (by rw [q63]; exact e63) (fun k hk => (k2 k hk).trans (r81 k hk)) ⟨?_, ?_, ?_, ?_, ?_, ?_, fun j hj => ?_⟩⟩
    · rw [q63, e63]; exact a1
    · rw [q63, e63, k2 51 (by decide), r81 51 (by decide)]; exact a2
    · rw [q63, g4]; omega
    · rw [q63, g4, k4]
    · rw [k3, k1 64 (by decide) (by decide), rd 64 (by decide), g3]
    · rw [k1 116 (by decide) (by decide), rd 116 (by decide), e116, k1 65 (by decide) (by decide), rd 65 (by decide), e65]; exact a6
    · rw [q63, e63] at hj
      rw [k1 65 (by decide) (by decide), rd 65 (by decide), e65]; exact a7 j hj
  · refine KIq.mono (X11_act_of (c_perform_n a b c ha hb a1 v)) ?_
    rintro z1 A B ⟨rfl, rfl, rfl⟩
    refine KIq.mono (c_act_n a b c ha hb (by show 0 ≤ I 81 51 ∧ I 81 51 ≤ 50; omega) (by show ¬ ((0 ≤ a ∧ a < I 81 51) ∧ 0 ≤ b ∧ b ≤ 3); rw [a2]; exact v)) ?_
    rintro z2 A2 B2 ⟨rfl, rfl, rfl⟩
    refine ⟨rfl, lw, n, m0, m1, i0, i1, Iv_a hv (fun d h1 h2 h3 h4 => by rw [upA_ne h3, upA_ne h1]) rfl (fun k hk => by rw [upA_self, up1_ne hk, upA_ne (by decide)]) ⟨a1, a2, ?_, rfl, a5, a6, a7⟩⟩
    exact ⟨Int.le_refl 0, (by decide : (0 : Int) ≤ 24)⟩
