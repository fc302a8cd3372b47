/-! the class reads: a line -/
def lnS (T : Nat → Int) (L : Nat) (E : PS → PS) (s : PS) : PS := emS (-59) (if nxS T L (E s) = 63 then E (emS (-63) (adS (E s))) else E s)
set_option maxRecDepth 20000 in
set_option maxHeartbeats 400000 in
theorem c_X4_readLine {X : pX} {I : IM} {L H : Nat} {E : PS → PS} (hL : I 1 0 = L ∧ L ≤ 120) (hT : ∀ k : Nat, 0 ≤ I 2 k ∧ I 2 k ≤ 255) (hg : GdS L E) (hei : RdC X I L (H + 1) mX4_readEither 0 E) (h : Nat) (J : IM) (s : PS) (D : Nat → Int) (hs : s.1 ≤ L) (hf : -1 ≤ s.2.1 ∧ s.2.1 ≤ 120) (hd : DOK D s.2.2) (hn : s.2.2.length ≤ s.1) : KVq X (h + H + 2) mX4_readLine [.ref 1] (encM I s D) J (LwQ I J (lnS (I 2) L E s)) := by
  show Rz X (h + H + 2) mX4_readLine 0 [some (.ref 1)] [] (encM I s D) J _
  obtain ⟨p1, p2, p3, p4, p5⟩ := hg s hs
  have f1 := gd_rg hg hL.2 hs hf
  have n1 : (E s).2.2.length < 121 := by omega
  refine rz_aload_n dX4_readLine_0 rfl ?_
  refine rz_iconst dX4_readLine_1 ?_
  refine rz_cVVq dX4_readLine_2 kl_RX4_54 hd_1 ⟨_, _, rfl⟩ (hei h J s D (by first | assumption | omega) (by first | assumption | omega) (by first | assumption | omega) (by first | assumption | omega)) rfl rfl (Nat.le_of_ble_eq_true rfl) (Nat.le_of_ble_eq_true rfl) ?_
  rintro _ _ ⟨⟨D2, rfl, k2⟩, rfl⟩
  refine rz_aload_n dX4_readLine_5 rfl ?_
  refine rz_bipush dX4_readLine_6 (by decide) ?_
  refine rz_cVIq dX4_readLine_8 kl_RX4_41 hd_1 ⟨_, _, rfl⟩ (c_X4_takes X _ I J L hL (E s) D2 63 (by omega) (by first | assumption | omega) (by first | assumption | omega) hT) rfl rfl (Nat.le_of_ble_eq_true rfl) (Nat.le_of_ble_eq_true rfl) ?_
  rintro z8 A8 _ ⟨⟨rfl, b8, rfl⟩ | ⟨rfl, b8, rfl⟩, rfl⟩
  · refine rz_if_eq (t := 25) dX4_readLine_11 rfl (by omega) (fun q => absurd q (by decide)) (fun _ => ?_)
    have j1 := nxS_ne (T := I 2) (L := L) (s := E s) (by omega)
    have e3 := emS_3 (-63) (adS (E s))
    have a0 : (adS (E s)).2.2.length < 121 := n1
    have a9 : (adS (E s)).2.2.length = (E s).2.2.length := rfl
    have a8 : -1 ≤ (adS (E s)).2.1 ∧ (adS (E s)).2.1 ≤ 120 := f1
    have a7 : DOK D2 (adS (E s)).2.2 := k2
    have a1 : (emS (-63) (adS (E s))).1 ≤ L := by rw [emS_1]; show (E s).1 + 1 ≤ L; omega
    have a2 : -1 ≤ (emS (-63) (adS (E s))).2.1 ∧ (emS (-63) (adS (E s))).2.1 ≤ 120 := by rw [emS_2]; exact f1
    have a4 : (emS (-63) (adS (E s))).2.2.length ≤ (emS (-63) (adS (E s))).1 := by rw [emS_1]; show _ ≤ (E s).1 + 1; omega
    obtain ⟨g1, g2, g3, g4, g5⟩ := hg _ a1
    have a5 := gd_rg hg hL.2 a1 a2
    have a6 : (E (emS (-63) (adS (E s)))).2.2.length < 121 := by omega
    refine rz_aload_n dX4_readLine_14 rfl ?_
    refine rz_bipush dX4_readLine_15 (by decide) ?_
    refine rz_cVVq dX4_readLine_17 kl_RX4_58 hd_1 ⟨_, _, rfl⟩ (c_X4_emit X _ I J L hL (adS (E s)) D2 (-63) (by first | assumption | omega) (by first | assumption | omega) (by first | assumption | omega)) rfl rfl (Nat.le_of_ble_eq_true rfl) (Nat.le_of_ble_eq_true rfl) ?_
    rintro _ _ ⟨⟨D17, rfl, k17⟩, rfl⟩
    refine rz_aload_n dX4_readLine_20 rfl ?_
    refine rz_iconst dX4_readLine_21 ?_
    refine rz_cVVq dX4_readLine_22 kl_RX4_54 hd_1 ⟨_, _, rfl⟩ (hei h J (emS (-63) (adS (E s))) D17 (by first | assumption | omega) (by first | assumption | omega) (by first | assumption | omega) (by first | assumption | omega)) rfl rfl (Nat.le_of_ble_eq_true rfl) (Nat.le_of_ble_eq_true rfl) ?_
    rintro _ _ ⟨⟨D22, rfl, k22⟩, rfl⟩
    refine rz_aload_n dX4_readLine_25 rfl ?_
    refine rz_bipush dX4_readLine_26 (by decide) ?_
    refine rz_cVVq dX4_readLine_28 kl_RX4_58 hd_1 ⟨_, _, rfl⟩ (c_X4_emit X _ I J L hL (E (emS (-63) (adS (E s)))) D22 (-59) (by first | assumption | omega) (by first | assumption | omega) (by first | assumption | omega)) rfl rfl (Nat.le_of_ble_eq_true rfl) (Nat.le_of_ble_eq_true rfl) ?_
    rintro _ _ ⟨⟨D28, rfl, k28⟩, rfl⟩
    refine rz_vret dX4_readLine_31 rfl ?_
    exact ⟨rfl, ⟨D28, by rw [lnS, if_pos b8], by rw [lnS, if_pos b8]; exact k28⟩, rfl⟩
  · refine rz_if_eq (t := 25) dX4_readLine_11 rfl (by omega) (fun _ => ?_) (fun q => absurd q (by decide))
    refine rz_aload_n dX4_readLine_25 rfl ?_
    refine rz_bipush dX4_readLine_26 (by decide) ?_
    refine rz_cVVq dX4_readLine_28 kl_RX4_58 hd_1 ⟨_, _, rfl⟩ (c_X4_emit X _ I J L hL (E s) D2 (-59) (by first | assumption | omega) (by first | assumption | omega) (by first | assumption | omega)) rfl rfl (Nat.le_of_ble_eq_true rfl) (Nat.le_of_ble_eq_true rfl) ?_
    rintro _ _ ⟨⟨D28, rfl, k28⟩, rfl⟩
    refine rz_vret dX4_readLine_31 rfl ?_
    exact ⟨rfl, ⟨D28, by rw [lnS, if_neg b8], by rw [lnS, if_neg b8]; exact k28⟩, rfl⟩
