def BQ (I J : IM) (C : Prop) : Int → IM → IM → Prop := fun z A B => ((z = 1 ∧ C) ∨ (z = 0 ∧ ¬ C)) ∧ I = A ∧ J = B
set_option maxRecDepth 20000 in
set_option maxHeartbeats 400000 in
theorem c_X11_isBaker (X : pX) (h : Nat) (I J : IM) (n : Int) (hn : rg n) : KIq X h mX11_isBaker [zi n] I J (BQ I J (0 ≤ n ∧ n ≤ 1)) := by
  show Rz X h mX11_isBaker 0 [some (zi n)] [] I J _
  refine rz_iload_n dX11_isBaker_0 rfl ?_
  refine rz_if_eq (t := 9) dX11_isBaker_1 rfl (by omega) (fun c1 => ?_) (fun c1 => ?_)
  · refine rz_iconst dX11_isBaker_9 ?_
    refine rz_goto (t := 14) dX11_isBaker_10 rfl ?_
    refine rz_zret dX11_isBaker_14 rfl (by decide) ?_
    exact ⟨_, rfl, Or.inl ⟨rfl, by first | omega | assumption⟩, rfl, rfl⟩
  · refine rz_iload_n dX11_isBaker_4 rfl ?_
    refine rz_iconst dX11_isBaker_5 ?_
    refine rz_icmp_ne (t := 13) dX11_isBaker_6 rfl (by omega) (by omega) (fun c6 => ?_) (fun c6 => ?_)
    · refine rz_iconst dX11_isBaker_13 ?_
      refine rz_zret dX11_isBaker_14 rfl (by decide) ?_
      exact ⟨_, rfl, Or.inr ⟨rfl, by first | omega | assumption⟩, rfl, rfl⟩
    · refine rz_iconst dX11_isBaker_9 ?_
      refine rz_goto (t := 14) dX11_isBaker_10 rfl ?_
      refine rz_zret dX11_isBaker_14 rfl (by decide) ?_
      exact ⟨_, rfl, Or.inl ⟨rfl, by first | omega | assumption⟩, rfl, rfl⟩
set_option maxRecDepth 20000 in
set_option maxHeartbeats 400000 in
theorem c_X11_isShelf (X : pX) (h : Nat) (I J : IM) (n : Int) (hn : rg n) : KIq X h mX11_isShelf [zi n] I J (BQ I J (0 ≤ n ∧ n ≤ 5)) := by
  show Rz X h mX11_isShelf 0 [some (zi n)] [] I J _
  refine rz_iload_n dX11_isShelf_0 rfl ?_
  refine rz_if_lt (t := 14) dX11_isShelf_1 rfl (by omega) (fun c1 => ?_) (fun c1 => ?_)
  · refine rz_iconst dX11_isShelf_14 ?_
    refine rz_zret dX11_isShelf_15 rfl (by decide) ?_
    exact ⟨_, rfl, Or.inr ⟨rfl, by first | omega | assumption⟩, rfl, rfl⟩
  · refine rz_iload_n dX11_isShelf_4 rfl ?_
    refine rz_bipush dX11_isShelf_5 (by decide) ?_
    refine rz_icmp_ge (t := 14) dX11_isShelf_7 rfl (by omega) (by omega) (fun c7 => ?_) (fun c7 => ?_)
    · refine rz_iconst dX11_isShelf_14 ?_
      refine rz_zret dX11_isShelf_15 rfl (by decide) ?_
      exact ⟨_, rfl, Or.inr ⟨rfl, by first | omega | assumption⟩, rfl, rfl⟩
    · refine rz_iconst dX11_isShelf_10 ?_
      refine rz_goto (t := 15) dX11_isShelf_11 rfl ?_
      refine rz_zret dX11_isShelf_15 rfl (by decide) ?_
      exact ⟨_, rfl, Or.inl ⟨rfl, by first | omega | assumption⟩, rfl, rfl⟩
set_option maxRecDepth 20000 in
set_option maxHeartbeats 400000 in
theorem c_X11_isKind (X : pX) (h : Nat) (I J : IM) (n : Int) (hn : rg n) : KIq X h mX11_isKind [zi n] I J (BQ I J (0 ≤ n ∧ n ≤ 7)) := by
  show Rz X h mX11_isKind 0 [some (zi n)] [] I J _
  refine rz_iload_n dX11_isKind_0 rfl ?_
  refine rz_if_lt (t := 14) dX11_isKind_1 rfl (by omega) (fun c1 => ?_) (fun c1 => ?_)
  · refine rz_iconst dX11_isKind_14 ?_
    refine rz_zret dX11_isKind_15 rfl (by decide) ?_
    exact ⟨_, rfl, Or.inr ⟨rfl, by first | omega | assumption⟩, rfl, rfl⟩
  · refine rz_iload_n dX11_isKind_4 rfl ?_
    refine rz_bipush dX11_isKind_5 (by decide) ?_
    refine rz_icmp_ge (t := 14) dX11_isKind_7 rfl (by omega) (by omega) (fun c7 => ?_) (fun c7 => ?_)
    · refine rz_iconst dX11_isKind_14 ?_
      refine rz_zret dX11_isKind_15 rfl (by decide) ?_
      exact ⟨_, rfl, Or.inr ⟨rfl, by first | omega | assumption⟩, rfl, rfl⟩
    · refine rz_iconst dX11_isKind_10 ?_
      refine rz_goto (t := 15) dX11_isKind_11 rfl ?_
      refine rz_zret dX11_isKind_15 rfl (by decide) ?_
      exact ⟨_, rfl, Or.inl ⟨rfl, by first | omega | assumption⟩, rfl, rfl⟩
set_option maxRecDepth 20000 in
set_option maxHeartbeats 400000 in
theorem c_X11_isPart (X : pX) (h : Nat) (I J : IM) (n : Int) (hn : rg n) : KIq X h mX11_isPart [zi n] I J (BQ I J (0 ≤ n ∧ n ≤ 1)) := by
  show Rz X h mX11_isPart 0 [some (zi n)] [] I J _
  refine rz_iload_n dX11_isPart_0 rfl ?_
  refine rz_if_eq (t := 9) dX11_isPart_1 rfl (by omega) (fun c1 => ?_) (fun c1 => ?_)
  · refine rz_iconst dX11_isPart_9 ?_
    refine rz_goto (t := 14) dX11_isPart_10 rfl ?_
    refine rz_zret dX11_isPart_14 rfl (by decide) ?_
    exact ⟨_, rfl, Or.inl ⟨rfl, by first | omega | assumption⟩, rfl, rfl⟩
  · refine rz_iload_n dX11_isPart_4 rfl ?_
    refine rz_iconst dX11_isPart_5 ?_
    refine rz_icmp_ne (t := 13) dX11_isPart_6 rfl (by omega) (by omega) (fun c6 => ?_) (fun c6 => ?_)
    · refine rz_iconst dX11_isPart_13 ?_
      refine rz_zret dX11_isPart_14 rfl (by decide) ?_
      exact ⟨_, rfl, Or.inr ⟨rfl, by first | omega | assumption⟩, rfl, rfl⟩
    · refine rz_iconst dX11_isPart_9 ?_
      refine rz_goto (t := 14) dX11_isPart_10 rfl ?_
      refine rz_zret dX11_isPart_14 rfl (by decide) ?_
      exact ⟨_, rfl, Or.inl ⟨rfl, by first | omega | assumption⟩, rfl, rfl⟩
set_option maxRecDepth 20000 in
set_option maxHeartbeats 400000 in
theorem c_X12_in (X : pX) (h : Nat) (I J : IM) (n a b : Int) (hn : rg n) (ha : rg a) (hb : rg b) : KIq X h mX12_in [zi n, zi a, zi b] I J (BQ I J (a ≤ n ∧ n ≤ b)) := by
  show Rz X h mX12_in 0 [some (zi n), some (zi a), some (zi b)] [] I J _
  refine rz_iload_n dX12_in_0 rfl ?_
  refine rz_iload_n dX12_in_1 rfl ?_
  refine rz_icmp_lt (t := 14) dX12_in_2 rfl (by omega) (by omega) (fun c2 => ?_) (fun c2 => ?_)
  · refine rz_iconst dX12_in_14 ?_
    refine rz_zret dX12_in_15 rfl (by decide) ?_
    exact ⟨_, rfl, Or.inr ⟨rfl, by first | omega | assumption⟩, rfl, rfl⟩
  · refine rz_iload_n dX12_in_5 rfl ?_
    refine rz_iload_n dX12_in_6 rfl ?_
    refine rz_icmp_gt (t := 14) dX12_in_7 rfl (by omega) (by omega) (fun c7 => ?_) (fun c7 => ?_)
    · refine rz_iconst dX12_in_14 ?_
      refine rz_zret dX12_in_15 rfl (by decide) ?_
      exact ⟨_, rfl, Or.inr ⟨rfl, by first | omega | assumption⟩, rfl, rfl⟩
    · refine rz_iconst dX12_in_10 ?_
      refine rz_goto (t := 15) dX12_in_11 rfl ?_
      refine rz_zret dX12_in_15 rfl (by decide) ?_
      exact ⟨_, rfl, Or.inl ⟨rfl, by first | omega | assumption⟩, rfl, rfl⟩
set_option maxRecDepth 20000 in
set_option maxHeartbeats 400000 in
theorem c_X8_isVillage (X : pX) (h : Nat) (I J : IM) (n : Int) (hn : rg n) (hv : 0 ≤ I 6 0 ∧ I 6 0 ≤ 5) : KIq X h mX8_isVillage [.ref 6, zi n] I J (BQ I J (0 ≤ n ∧ n < I 6 0)) := by
  show Rz X h mX8_isVillage 0 [some (.ref 6), some (zi n)] [] I J _
  refine rz_iload_n dX8_isVillage_0 rfl ?_
  refine rz_if_lt (t := 16) dX8_isVillage_1 rfl (by omega) (fun c1 => ?_) (fun c1 => ?_)
  · refine rz_iconst dX8_isVillage_16 ?_
    refine rz_zret dX8_isVillage_17 rfl (by decide) ?_
    exact ⟨_, rfl, Or.inr ⟨rfl, by first | omega | assumption⟩, rfl, rfl⟩
  · refine rz_iload_n dX8_isVillage_4 rfl ?_
    refine rz_aload_n dX8_isVillage_5 rfl ?_
    refine rz_getI (z := (I 6 0)) dX8_isVillage_6 kf_RX8_35 hd_6 rfl rfl ?_
    refine rz_icmp_ge (t := 16) dX8_isVillage_9 rfl (by omega) (by omega) (fun c9 => ?_) (fun c9 => ?_)
    · refine rz_iconst dX8_isVillage_16 ?_
      refine rz_zret dX8_isVillage_17 rfl (by decide) ?_
      exact ⟨_, rfl, Or.inr ⟨rfl, by first | omega | assumption⟩, rfl, rfl⟩
    · refine rz_iconst dX8_isVillage_12 ?_
      refine rz_goto (t := 17) dX8_isVillage_13 rfl ?_
      refine rz_zret dX8_isVillage_17 rfl (by decide) ?_
      exact ⟨_, rfl, Or.inl ⟨rfl, by first | omega | assumption⟩, rfl, rfl⟩
set_option maxRecDepth 20000 in
set_option maxHeartbeats 400000 in
theorem c_X12_isVillage (X : pX) (h : Nat) (I J : IM) (n : Int) (hn : rg n) (hv : 0 ≤ I 81 1 ∧ I 81 1 ≤ 5) : KIq X (h + 1) mX12_isVillage [.ref 81, zi n] I J (BQ I J (0 ≤ n ∧ n ≤ I 81 1 - 1)) := by
  show Rz X (h + 1) mX12_isVillage 0 [some (.ref 81), some (zi n)] [] I J _
  refine rz_iload_n dX12_isVillage_0 rfl ?_
  refine rz_iconst dX12_isVillage_1 ?_
  refine rz_aload_n dX12_isVillage_2 rfl ?_
  refine rz_getI (z := (I 81 1)) dX12_isVillage_3 kf_RX12_137 hd_81 rfl rfl ?_
  refine rz_iconst dX12_isVillage_6 ?_
  refine rz_isub dX12_isVillage_7 ?_
  refine rz_cSIq dX12_isVillage_8 kl_RX12_140 (c_X12_in X _ I J n 0 ((I 81 1) - 1) (by omega) (by omega) (by omega)) rfl rfl (Nat.le_of_ble_eq_true rfl) (Nat.le_of_ble_eq_true rfl) ?_
  rintro z8 A8 B8 ⟨⟨rfl, b8⟩ | ⟨rfl, b8⟩, rfl, rfl⟩
  · refine rz_zret dX12_isVillage_11 rfl (by decide) ?_
    exact ⟨_, rfl, Or.inl ⟨rfl, by first | omega | assumption⟩, rfl, rfl⟩
  · refine rz_zret dX12_isVillage_11 rfl (by decide) ?_
    exact ⟨_, rfl, Or.inr ⟨rfl, by first | omega | assumption⟩, rfl, rfl⟩
