/-! THE MODEL: THE OTHER READS, COPIES (printed by wip/whole/gen/mod6.py) -/
theorem eX8_allMade_L {G : zG} {ia ja : Nat → Int → Int} {w : (Nat → Int → Int) × (Nat → Int → Int)}  (H : zRw ja (ia 25)) : ∀ (n : Nat) (k acc : Int), (ja 3 0 - k < n) → (0 ≤ k) → (k ≤ ja 3 0) → (acc = zsum (fun v => zsum (fun s => if ja 6 (v * 31 + s) = v then 1 else 0) 31) k) → Ev G mX8_allMade 4 [(1, 24), (0, acc), (0, k)] [] (zH ia w) (.inl (some (0, (zsum (fun v => zsum (fun s => if ja 6 (v * 31 + s) = v then 1 else 0) 31) (ja 3 0)))), zH ia w, 0, 0) := by
  intro n
  induction n with
  | zero =>
    intro k acc hN hk0 hk1 hacc
    exact absurd hN (by omega)
  | succ n ih =>
    intro k acc hN hk0 hk1 hacc
    have I := H.1
    have hn := I.1
    refine Ev.iload_n fX8_allMade_4 rfl ?_
    refine Ev.aload_n_1 fX8_allMade_5 rfl ?_
    refine Ev.gR 24 0 25 fX8_allMade_6 (flX8_7 rfl) rfl rfl rfl ?_
    refine Ev.iconst fX8_allMade_9 ?_
    refine Ev.ld 25 1968 (v := (ja 3 0)) fX8_allMade_10 rfl rfl (by decide) H.2.1 ?_
    refine Ev.icmp_ge fX8_allMade_11 rfl ⟨by omega, by omega⟩ ⟨by omega, by omega⟩ (fun h11 => ?_) (fun h11 => ?_)
    · refine Ev.iload_n fX8_allMade_28 rfl ?_
      exact Ev.zI fX8_allMade_29 rfl (by rw [hacc, show k = ja 3 0 by omega])
    · refine Ev.iload_n fX8_allMade_14 rfl ?_
      refine Ev.aload_n_1 fX8_allMade_15 rfl ?_
      refine Ev.iload_n fX8_allMade_16 rfl ?_
      refine Ev.cVi 24 [(0, k)] [(0, acc)] fX8_allMade_17 lkX8_allMade_134 8 TX8 22 rfl rfl rfl (eX8_made H ⟨by omega, by omega⟩) ?_
      refine Ev.iadd fX8_allMade_20 ?_
      refine Ev.sistore_n [(1, 24), (0, (acc + (zsum (fun s => if ja 6 (k * 31 + s) = k then 1 else 0) 31))), (0, k)] fX8_allMade_21 rfl rfl ?_
      refine Ev.siinc [(1, 24), (0, (acc + (zsum (fun s => if ja 6 (k * 31 + s) = k then 1 else 0) 31))), (0, (k + 1))] fX8_allMade_22 rfl rfl rfl ?_
      refine Ev.goto fX8_allMade_25 rfl ?_
      exact ih (k + 1) (acc + (zsum (fun s => if ja 6 (k * 31 + s) = k then 1 else 0) 31)) (by omega) (by omega) (by omega) (by rw [zsum_s (by omega), hacc])
theorem eX8_allMade {G : zG} {ia ja : Nat → Int → Int} {w : (Nat → Int → Int) × (Nat → Int → Int)}  (H : zRw ja (ia 25)) : Ev G mX8_allMade 0 [(1, 24), (9, 0), (9, 0)] [] (zH ia w) (.inl (some (0, (zsum (fun v => zsum (fun s => if ja 6 (v * 31 + s) = v then 1 else 0) 31) (ja 3 0)))), zH ia w, 0, 0) := by
  have I := H.1
  have hn := I.1
  refine Ev.iconst fX8_allMade_0 ?_
  refine Ev.sistore_n [(1, 24), (0, 0), (9, 0)] fX8_allMade_1 rfl rfl ?_
  refine Ev.iconst fX8_allMade_2 ?_
  refine Ev.sistore_n [(1, 24), (0, 0), (0, 0)] fX8_allMade_3 rfl rfl ?_
  exact eX8_allMade_L H 2000 0 0 (by omega) (by omega) (by omega) rfl
theorem eX8_versionsThat_1_L {G : zG} {ia ja : Nat → Int → Int} {w : (Nat → Int → Int) × (Nat → Int → Int)}  (H : zRw ja (ia 25)) : ∀ (n : Nat) (k acc : Int), (ja 3 0 - k < n) → (0 ≤ k) → (k ≤ ja 3 0) → (acc = zsum (fun v => if 0 < zsum (fun h => if ja 8 h = v then 1 else 0) 4 then 1 else 0) k) → Ev G mX8_versionsThat 4 [(1, 24), (0, 1), (0, acc), (0, k)] [] (zH ia w) (.inl (some (0, (zsum (fun v => if 0 < zsum (fun h => if ja 8 h = v then 1 else 0) 4 then 1 else 0) (ja 3 0)))), zH ia w, 0, 0) := by
  intro n
  induction n with
  | zero =>
    intro k acc hN hk0 hk1 hacc
    exact absurd hN (by omega)
  | succ n ih =>
    intro k acc hN hk0 hk1 hacc
    have I := H.1
    have hn := I.1
    refine Ev.iload_n fX8_versionsThat_4 rfl ?_
    refine Ev.aload_n_1 fX8_versionsThat_5 rfl ?_
    refine Ev.gR 24 0 25 fX8_versionsThat_6 (flX8_7 rfl) rfl rfl rfl ?_
    refine Ev.iconst fX8_versionsThat_9 ?_
    refine Ev.ld 25 1968 (v := (ja 3 0)) fX8_versionsThat_10 rfl rfl (by decide) H.2.1 ?_
    refine Ev.icmp_ge fX8_versionsThat_11 rfl ⟨by omega, by omega⟩ ⟨by omega, by omega⟩ (fun h11 => ?_) (fun h11 => ?_)
    · refine Ev.iload_n fX8_versionsThat_56 rfl ?_
      exact Ev.zI fX8_versionsThat_57 rfl (by rw [hacc, show k = ja 3 0 by omega])
    · refine Ev.iload_n fX8_versionsThat_14 rfl ?_
      refine Ev.iload_n fX8_versionsThat_15 rfl ?_
      refine Ev.if_eq fX8_versionsThat_16 rfl (by decide) (fun h16 => by exfalso; revert h16; decide) (fun h16 => ?_)
      refine Ev.aload_n_1 fX8_versionsThat_19 rfl ?_
      refine Ev.iload_n fX8_versionsThat_20 rfl ?_
      refine Ev.cVi 24 [(0, k)] [(0, acc)] fX8_versionsThat_21 lkX8_versionsThat_140 8 TX8 22 rfl rfl rfl (eX8_houses H ⟨by omega, by omega⟩) ?_
      have hzb := zsum_le (f := (fun h => if ja 8 h = k then (1 : Int) else 0)) (m := 0) (M := 1) (k := 4) (by omega) (fun j _ _ => by (try dsimp only); split <;> omega)
      refine Ev.if_le fX8_versionsThat_24 rfl ⟨by omega, by omega⟩ (fun h24 => ?_) (fun h24 => ?_)
      · refine Ev.iconst fX8_versionsThat_31 ?_
        refine Ev.goto fX8_versionsThat_32 rfl ?_
        refine Ev.iadd fX8_versionsThat_48 ?_
        refine Ev.sistore_n [(1, 24), (0, 1), (0, (acc + 0)), (0, k)] fX8_versionsThat_49 rfl rfl ?_
        refine Ev.siinc [(1, 24), (0, 1), (0, (acc + 0)), (0, (k + 1))] fX8_versionsThat_50 rfl rfl rfl ?_
        refine Ev.goto fX8_versionsThat_53 rfl ?_
        exact ih (k + 1) (acc + 0) (by omega) (by omega) (by omega) (by rw [zsum_s (by omega), hacc]; rw [if_neg (by omega)])
      · refine Ev.iconst fX8_versionsThat_27 ?_
        refine Ev.goto fX8_versionsThat_28 rfl ?_
        refine Ev.iadd fX8_versionsThat_48 ?_
        refine Ev.sistore_n [(1, 24), (0, 1), (0, (acc + 1)), (0, k)] fX8_versionsThat_49 rfl rfl ?_
        refine Ev.siinc [(1, 24), (0, 1), (0, (acc + 1)), (0, (k + 1))] fX8_versionsThat_50 rfl rfl rfl ?_
        refine Ev.goto fX8_versionsThat_53 rfl ?_
        exact ih (k + 1) (acc + 1) (by omega) (by omega) (by omega) (by rw [zsum_s (by omega), hacc]; rw [if_pos (by omega)])
theorem eX8_versionsThat_1 {G : zG} {ia ja : Nat → Int → Int} {w : (Nat → Int → Int) × (Nat → Int → Int)}  (H : zRw ja (ia 25)) : Ev G mX8_versionsThat 0 [(1, 24), (0, 1), (9, 0), (9, 0)] [] (zH ia w) (.inl (some (0, (zsum (fun v => if 0 < zsum (fun h => if ja 8 h = v then 1 else 0) 4 then 1 else 0) (ja 3 0)))), zH ia w, 0, 0) := by
  have I := H.1
  have hn := I.1
  refine Ev.iconst fX8_versionsThat_0 ?_
  refine Ev.sistore_n [(1, 24), (0, 1), (0, 0), (9, 0)] fX8_versionsThat_1 rfl rfl ?_
  refine Ev.iconst fX8_versionsThat_2 ?_
  refine Ev.sistore_n [(1, 24), (0, 1), (0, 0), (0, 0)] fX8_versionsThat_3 rfl rfl ?_
  exact eX8_versionsThat_1_L H 2000 0 0 (by omega) (by omega) (by omega) rfl
theorem eX8_versionsThat_0_L {G : zG} {ia ja : Nat → Int → Int} {w : (Nat → Int → Int) × (Nat → Int → Int)}  (H : zRw ja (ia 25)) : ∀ (n : Nat) (k acc : Int), (ja 3 0 - k < n) → (0 ≤ k) → (k ≤ ja 3 0) → (acc = zsum (fun v => if zsum (fun j => if 1 ≤ j ∧ ja 4 j = v then 1 else 0) (ja 3 0) = 0 then 1 else 0) k) → Ev G mX8_versionsThat 4 [(1, 24), (0, 0), (0, acc), (0, k)] [] (zH ia w) (.inl (some (0, (zsum (fun v => if zsum (fun j => if 1 ≤ j ∧ ja 4 j = v then 1 else 0) (ja 3 0) = 0 then 1 else 0) (ja 3 0)))), zH ia w, 0, 0) := by
  intro n
  induction n with
  | zero =>
    intro k acc hN hk0 hk1 hacc
    exact absurd hN (by omega)
  | succ n ih =>
    intro k acc hN hk0 hk1 hacc
    have I := H.1
    have hn := I.1
    refine Ev.iload_n fX8_versionsThat_4 rfl ?_
    refine Ev.aload_n_1 fX8_versionsThat_5 rfl ?_
    refine Ev.gR 24 0 25 fX8_versionsThat_6 (flX8_7 rfl) rfl rfl rfl ?_
    refine Ev.iconst fX8_versionsThat_9 ?_
    refine Ev.ld 25 1968 (v := (ja 3 0)) fX8_versionsThat_10 rfl rfl (by decide) H.2.1 ?_
    refine Ev.icmp_ge fX8_versionsThat_11 rfl ⟨by omega, by omega⟩ ⟨by omega, by omega⟩ (fun h11 => ?_) (fun h11 => ?_)
    · refine Ev.iload_n fX8_versionsThat_56 rfl ?_
      exact Ev.zI fX8_versionsThat_57 rfl (by rw [hacc, show k = ja 3 0 by omega])
    · refine Ev.iload_n fX8_versionsThat_14 rfl ?_
      refine Ev.iload_n fX8_versionsThat_15 rfl ?_
      refine Ev.if_eq fX8_versionsThat_16 rfl (by decide) (fun h16 => ?_) (fun h16 => by exfalso; revert h16; decide)
      refine Ev.aload_n_1 fX8_versionsThat_35 rfl ?_
      refine Ev.iload_n fX8_versionsThat_36 rfl ?_
      refine Ev.cVi 24 [(0, k)] [(0, acc)] fX8_versionsThat_37 lkX8_versionsThat_131 8 TX8 22 rfl rfl rfl (eX8_children H ⟨by omega, by omega⟩) ?_
      have hzb := zsum_le (f := (fun j => if 1 ≤ j ∧ ja 4 j = k then (1 : Int) else 0)) (m := 0) (M := 1) (k := ja 3 0) (by omega) (fun j _ _ => by (try dsimp only); split <;> omega)
      refine Ev.if_ne fX8_versionsThat_40 rfl ⟨by omega, by omega⟩ (fun h40 => ?_) (fun h40 => ?_)
      · refine Ev.iconst fX8_versionsThat_47 ?_
        refine Ev.iadd fX8_versionsThat_48 ?_
        refine Ev.sistore_n [(1, 24), (0, 0), (0, (acc + 0)), (0, k)] fX8_versionsThat_49 rfl rfl ?_
        refine Ev.siinc [(1, 24), (0, 0), (0, (acc + 0)), (0, (k + 1))] fX8_versionsThat_50 rfl rfl rfl ?_
        refine Ev.goto fX8_versionsThat_53 rfl ?_
        exact ih (k + 1) (acc + 0) (by omega) (by omega) (by omega) (by rw [zsum_s (by omega), hacc]; rw [if_neg (by omega)])
      · refine Ev.iconst fX8_versionsThat_43 ?_
        refine Ev.goto fX8_versionsThat_44 rfl ?_
        refine Ev.iadd fX8_versionsThat_48 ?_
        refine Ev.sistore_n [(1, 24), (0, 0), (0, (acc + 1)), (0, k)] fX8_versionsThat_49 rfl rfl ?_
        refine Ev.siinc [(1, 24), (0, 0), (0, (acc + 1)), (0, (k + 1))] fX8_versionsThat_50 rfl rfl rfl ?_
        refine Ev.goto fX8_versionsThat_53 rfl ?_
        exact ih (k + 1) (acc + 1) (by omega) (by omega) (by omega) (by rw [zsum_s (by omega), hacc]; rw [if_pos (by omega)])
theorem eX8_versionsThat_0 {G : zG} {ia ja : Nat → Int → Int} {w : (Nat → Int → Int) × (Nat → Int → Int)}  (H : zRw ja (ia 25)) : Ev G mX8_versionsThat 0 [(1, 24), (0, 0), (9, 0), (9, 0)] [] (zH ia w) (.inl (some (0, (zsum (fun v => if zsum (fun j => if 1 ≤ j ∧ ja 4 j = v then 1 else 0) (ja 3 0) = 0 then 1 else 0) (ja 3 0)))), zH ia w, 0, 0) := by
  have I := H.1
  have hn := I.1
  refine Ev.iconst fX8_versionsThat_0 ?_
  refine Ev.sistore_n [(1, 24), (0, 0), (0, 0), (9, 0)] fX8_versionsThat_1 rfl rfl ?_
  refine Ev.iconst fX8_versionsThat_2 ?_
  refine Ev.sistore_n [(1, 24), (0, 0), (0, 0), (0, 0)] fX8_versionsThat_3 rfl rfl ?_
  exact eX8_versionsThat_0_L H 2000 0 0 (by omega) (by omega) (by omega) rfl
theorem eX8_account_c1 {G : zG} {ia : Nat → Int → Int} {w : (Nat → Int → Int) × (Nat → Int → Int)} {k : Int} (hrk : -2147483648 ≤ k ∧ k ≤ 2147483647) (hx : ¬ (0 ≤ k ∧ k ≤ 8)) : Ev G mX8_account 0 [(1, 24), (0, k)] [] (zH ia w) (.inl (some (0, 0)), zH (zu ia 24 8 1) w, 0, 0) := by
  refine Ev.aload_n_1 fX8_account_0 rfl ?_
  refine Ev.iload_n fX8_account_1 rfl ?_
  refine Ev.iconst fX8_account_2 ?_
  refine Ev.bipush fX8_account_3 rfl ?_
  refine Ev.cSi [(0, k), (0, 0), (0, 8)] [(1, 24)] fX8_account_5 lkX8_account_68 rfl (eX8_in_f ⟨by omega, by omega⟩ ⟨by omega, by omega⟩ ⟨by omega, by omega⟩ (by omega)) ?_
  refine Ev.if_eq fX8_account_8 rfl (by decide) (fun h8 => ?_) (fun h8 => by exfalso; revert h8; decide)
  refine Ev.iconst fX8_account_15 ?_
  refine Ev.cVi 24 [(0, 1)] [] fX8_account_16 lkX8_account_117 8 TX8 22 rfl rfl rfl eX8_fails_1 ?_
  refine Ev.if_eq fX8_account_19 rfl (by decide) (fun h19 => by exfalso; revert h19; decide) (fun h19 => ?_)
  refine Ev.iconst fX8_account_22 ?_
  exact Ev.zI fX8_account_23 rfl rfl
theorem eX8_account_0 {G : zG} {ia ja : Nat → Int → Int} {w : (Nat → Int → Int) × (Nat → Int → Int)}  (H : zRw ja (ia 25)) : Ev G mX8_account 0 [(1, 24), (0, 0)] [] (zH ia w) (.inl (some (0, (ja 3 0))), zH (zu ia 24 8 0) w, 0, 0) := by
  have I := H.1
  have hn := I.1
  refine Ev.aload_n_1 fX8_account_0 rfl ?_
  refine Ev.iload_n fX8_account_1 rfl ?_
  refine Ev.iconst fX8_account_2 ?_
  refine Ev.bipush fX8_account_3 rfl ?_
  refine Ev.cSi [(0, 0), (0, 0), (0, 8)] [(1, 24)] fX8_account_5 lkX8_account_68 rfl (eX8_in_t ⟨by omega, by omega⟩ ⟨by omega, by omega⟩ ⟨by omega, by omega⟩ ⟨by omega, by omega⟩) ?_
  refine Ev.if_eq fX8_account_8 rfl (by decide) (fun h8 => by exfalso; revert h8; decide) (fun h8 => ?_)
  refine Ev.iconst fX8_account_11 ?_
  refine Ev.goto fX8_account_12 rfl ?_
  refine Ev.cVi 24 [(0, 0)] [] fX8_account_16 lkX8_account_117 8 TX8 22 rfl rfl rfl eX8_fails_0 ?_
  refine Ev.if_eq fX8_account_19 rfl (by decide) (fun h19 => ?_) (fun h19 => by exfalso; revert h19; decide)
  refine Ev.iload_n fX8_account_24 rfl ?_
  refine Ev.tableIn fX8_account_25 (by decide) (by decide) rfl rfl ?_
  refine Ev.aload_n_1 fX8_account_72 rfl ?_
  refine Ev.gR 24 0 25 fX8_account_73 (flX8_7 rfl) rfl rfl rfl ?_
  refine Ev.iconst fX8_account_76 ?_
  refine Ev.ld 25 1968 (v := (ja 3 0)) fX8_account_77 rfl rfl (by decide) H.2.1 ?_
  exact Ev.zI fX8_account_78 rfl rfl
theorem eX8_account_1 {G : zG} {ia ja : Nat → Int → Int} {w : (Nat → Int → Int) × (Nat → Int → Int)}  (H : zRw ja (ia 25)) : Ev G mX8_account 0 [(1, 24), (0, 1)] [] (zH ia w) (.inl (some (0, (ja 2 2))), zH (zu ia 24 8 0) w, 0, 0) := by
  have I := H.1
  have hn := I.1
  refine Ev.aload_n_1 fX8_account_0 rfl ?_
  refine Ev.iload_n fX8_account_1 rfl ?_
  refine Ev.iconst fX8_account_2 ?_
  refine Ev.bipush fX8_account_3 rfl ?_
  refine Ev.cSi [(0, 1), (0, 0), (0, 8)] [(1, 24)] fX8_account_5 lkX8_account_68 rfl (eX8_in_t ⟨by omega, by omega⟩ ⟨by omega, by omega⟩ ⟨by omega, by omega⟩ ⟨by omega, by omega⟩) ?_
  refine Ev.if_eq fX8_account_8 rfl (by decide) (fun h8 => by exfalso; revert h8; decide) (fun h8 => ?_)
  refine Ev.iconst fX8_account_11 ?_
  refine Ev.goto fX8_account_12 rfl ?_
  refine Ev.cVi 24 [(0, 0)] [] fX8_account_16 lkX8_account_117 8 TX8 22 rfl rfl rfl eX8_fails_0 ?_
  refine Ev.if_eq fX8_account_19 rfl (by decide) (fun h19 => ?_) (fun h19 => by exfalso; revert h19; decide)
  refine Ev.iload_n fX8_account_24 rfl ?_
  refine Ev.tableIn fX8_account_25 (by decide) (by decide) rfl rfl ?_
  refine Ev.aload_n_1 fX8_account_79 rfl ?_
  refine Ev.gR 24 0 25 fX8_account_80 (flX8_7 rfl) rfl rfl rfl ?_
  refine Ev.iconst fX8_account_83 ?_
  refine Ev.ld 25 1968 (v := (ja 2 2)) fX8_account_84 rfl rfl (by decide) H.2.2.1 ?_
  exact Ev.zI fX8_account_85 rfl rfl
theorem eX8_account_2 {G : zG} {ia ja : Nat → Int → Int} {w : (Nat → Int → Int) × (Nat → Int → Int)}  (H : zRw ja (ia 25)) : Ev G mX8_account 0 [(1, 24), (0, 2)] [] (zH ia w) (.inl (some (0, (zsum (fun v => zsum (fun s => if ja 6 (v * 31 + s) = v then 1 else 0) 31) (ja 3 0)))), zH (zu ia 24 8 0) w, 0, 0) := by
  have I := H.1
  have hn := I.1
  refine Ev.aload_n_1 fX8_account_0 rfl ?_
  refine Ev.iload_n fX8_account_1 rfl ?_
  refine Ev.iconst fX8_account_2 ?_
  refine Ev.bipush fX8_account_3 rfl ?_
  refine Ev.cSi [(0, 2), (0, 0), (0, 8)] [(1, 24)] fX8_account_5 lkX8_account_68 rfl (eX8_in_t ⟨by omega, by omega⟩ ⟨by omega, by omega⟩ ⟨by omega, by omega⟩ ⟨by omega, by omega⟩) ?_
  refine Ev.if_eq fX8_account_8 rfl (by decide) (fun h8 => by exfalso; revert h8; decide) (fun h8 => ?_)
  refine Ev.iconst fX8_account_11 ?_
  refine Ev.goto fX8_account_12 rfl ?_
  refine Ev.cVi 24 [(0, 0)] [] fX8_account_16 lkX8_account_117 8 TX8 22 rfl rfl rfl eX8_fails_0 ?_
  refine Ev.if_eq fX8_account_19 rfl (by decide) (fun h19 => ?_) (fun h19 => by exfalso; revert h19; decide)
  refine Ev.iload_n fX8_account_24 rfl ?_
  refine Ev.tableIn fX8_account_25 (by decide) (by decide) rfl rfl ?_
  refine Ev.aload_n_1 fX8_account_86 rfl ?_
  refine Ev.cVi 24 [] [] fX8_account_87 lkX8_account_209 8 TX8 22 rfl rfl rfl (eX8_allMade H) ?_
  exact Ev.zI fX8_account_90 rfl rfl
theorem eX8_account_3 {G : zG} {ia ja : Nat → Int → Int} {w : (Nat → Int → Int) × (Nat → Int → Int)}  (H : zRw ja (ia 25)) : Ev G mX8_account 0 [(1, 24), (0, 3)] [] (zH ia w) (.inl (some (0, (zsum (fun v => if 0 < zsum (fun h => if ja 8 h = v then 1 else 0) 4 then 1 else 0) (ja 3 0)))), zH (zu ia 24 8 0) w, 0, 0) := by
  have I := H.1
  have hn := I.1
  refine Ev.aload_n_1 fX8_account_0 rfl ?_
  refine Ev.iload_n fX8_account_1 rfl ?_
  refine Ev.iconst fX8_account_2 ?_
  refine Ev.bipush fX8_account_3 rfl ?_
  refine Ev.cSi [(0, 3), (0, 0), (0, 8)] [(1, 24)] fX8_account_5 lkX8_account_68 rfl (eX8_in_t ⟨by omega, by omega⟩ ⟨by omega, by omega⟩ ⟨by omega, by omega⟩ ⟨by omega, by omega⟩) ?_
  refine Ev.if_eq fX8_account_8 rfl (by decide) (fun h8 => by exfalso; revert h8; decide) (fun h8 => ?_)
  refine Ev.iconst fX8_account_11 ?_
  refine Ev.goto fX8_account_12 rfl ?_
  refine Ev.cVi 24 [(0, 0)] [] fX8_account_16 lkX8_account_117 8 TX8 22 rfl rfl rfl eX8_fails_0 ?_
  refine Ev.if_eq fX8_account_19 rfl (by decide) (fun h19 => ?_) (fun h19 => by exfalso; revert h19; decide)
  refine Ev.iload_n fX8_account_24 rfl ?_
  refine Ev.tableIn fX8_account_25 (by decide) (by decide) rfl rfl ?_
  refine Ev.aload_n_1 fX8_account_91 rfl ?_
  refine Ev.iconst fX8_account_92 ?_
  refine Ev.cVi 24 [(0, 1)] [] fX8_account_93 lkX8_account_212 8 TX8 22 rfl rfl rfl (eX8_versionsThat_1 H) ?_
  exact Ev.zI fX8_account_96 rfl rfl
theorem eX8_account_4 {G : zG} {ia ja : Nat → Int → Int} {w : (Nat → Int → Int) × (Nat → Int → Int)}  (H : zRw ja (ia 25)) : Ev G mX8_account 0 [(1, 24), (0, 4)] [] (zH ia w) (.inl (some (0, (zsum (fun v => if zsum (fun j => if 1 ≤ j ∧ ja 4 j = v then 1 else 0) (ja 3 0) = 0 then 1 else 0) (ja 3 0)))), zH (zu ia 24 8 0) w, 0, 0) := by
  have I := H.1
  have hn := I.1
  refine Ev.aload_n_1 fX8_account_0 rfl ?_
  refine Ev.iload_n fX8_account_1 rfl ?_
  refine Ev.iconst fX8_account_2 ?_
  refine Ev.bipush fX8_account_3 rfl ?_
  refine Ev.cSi [(0, 4), (0, 0), (0, 8)] [(1, 24)] fX8_account_5 lkX8_account_68 rfl (eX8_in_t ⟨by omega, by omega⟩ ⟨by omega, by omega⟩ ⟨by omega, by omega⟩ ⟨by omega, by omega⟩) ?_
  refine Ev.if_eq fX8_account_8 rfl (by decide) (fun h8 => by exfalso; revert h8; decide) (fun h8 => ?_)
  refine Ev.iconst fX8_account_11 ?_
  refine Ev.goto fX8_account_12 rfl ?_
  refine Ev.cVi 24 [(0, 0)] [] fX8_account_16 lkX8_account_117 8 TX8 22 rfl rfl rfl eX8_fails_0 ?_
  refine Ev.if_eq fX8_account_19 rfl (by decide) (fun h19 => ?_) (fun h19 => by exfalso; revert h19; decide)
  refine Ev.iload_n fX8_account_24 rfl ?_
  refine Ev.tableIn fX8_account_25 (by decide) (by decide) rfl rfl ?_
  refine Ev.aload_n_1 fX8_account_97 rfl ?_
  refine Ev.iconst fX8_account_98 ?_
  refine Ev.cVi 24 [(0, 0)] [] fX8_account_99 lkX8_account_212 8 TX8 22 rfl rfl rfl (eX8_versionsThat_0 H) ?_
  exact Ev.zI fX8_account_102 rfl rfl
theorem eX8_account_5 {G : zG} {ia ja : Nat → Int → Int} {w : (Nat → Int → Int) × (Nat → Int → Int)}  (H : zRw ja (ia 25)) : Ev G mX8_account 0 [(1, 24), (0, 5)] [] (zH ia w) (.inl (some (0, (ja 2 3))), zH (zu ia 24 8 0) w, 0, 0) := by
  have I := H.1
  have hn := I.1
  refine Ev.aload_n_1 fX8_account_0 rfl ?_
  refine Ev.iload_n fX8_account_1 rfl ?_
  refine Ev.iconst fX8_account_2 ?_
  refine Ev.bipush fX8_account_3 rfl ?_
  refine Ev.cSi [(0, 5), (0, 0), (0, 8)] [(1, 24)] fX8_account_5 lkX8_account_68 rfl (eX8_in_t ⟨by omega, by omega⟩ ⟨by omega, by omega⟩ ⟨by omega, by omega⟩ ⟨by omega, by omega⟩) ?_
  refine Ev.if_eq fX8_account_8 rfl (by decide) (fun h8 => by exfalso; revert h8; decide) (fun h8 => ?_)
  refine Ev.iconst fX8_account_11 ?_
  refine Ev.goto fX8_account_12 rfl ?_
  refine Ev.cVi 24 [(0, 0)] [] fX8_account_16 lkX8_account_117 8 TX8 22 rfl rfl rfl eX8_fails_0 ?_
  refine Ev.if_eq fX8_account_19 rfl (by decide) (fun h19 => ?_) (fun h19 => by exfalso; revert h19; decide)
  refine Ev.iload_n fX8_account_24 rfl ?_
  refine Ev.tableIn fX8_account_25 (by decide) (by decide) rfl rfl ?_
  refine Ev.aload_n_1 fX8_account_103 rfl ?_
  refine Ev.gR 24 0 25 fX8_account_104 (flX8_7 rfl) rfl rfl rfl ?_
  refine Ev.iconst fX8_account_107 ?_
  refine Ev.ld 25 1968 (v := (ja 2 3)) fX8_account_108 rfl rfl (by decide) H.2.2.2.1 ?_
  exact Ev.zI fX8_account_109 rfl rfl
theorem eX8_account_6 {G : zG} {ia ja : Nat → Int → Int} {w : (Nat → Int → Int) × (Nat → Int → Int)}  (H : zRw ja (ia 25)) : Ev G mX8_account 0 [(1, 24), (0, 6)] [] (zH ia w) (.inl (some (0, (ja 2 4))), zH (zu ia 24 8 0) w, 0, 0) := by
  have I := H.1
  have hn := I.1
  refine Ev.aload_n_1 fX8_account_0 rfl ?_
  refine Ev.iload_n fX8_account_1 rfl ?_
  refine Ev.iconst fX8_account_2 ?_
  refine Ev.bipush fX8_account_3 rfl ?_
  refine Ev.cSi [(0, 6), (0, 0), (0, 8)] [(1, 24)] fX8_account_5 lkX8_account_68 rfl (eX8_in_t ⟨by omega, by omega⟩ ⟨by omega, by omega⟩ ⟨by omega, by omega⟩ ⟨by omega, by omega⟩) ?_
  refine Ev.if_eq fX8_account_8 rfl (by decide) (fun h8 => by exfalso; revert h8; decide) (fun h8 => ?_)
  refine Ev.iconst fX8_account_11 ?_
  refine Ev.goto fX8_account_12 rfl ?_
  refine Ev.cVi 24 [(0, 0)] [] fX8_account_16 lkX8_account_117 8 TX8 22 rfl rfl rfl eX8_fails_0 ?_
  refine Ev.if_eq fX8_account_19 rfl (by decide) (fun h19 => ?_) (fun h19 => by exfalso; revert h19; decide)
  refine Ev.iload_n fX8_account_24 rfl ?_
  refine Ev.tableIn fX8_account_25 (by decide) (by decide) rfl rfl ?_
  refine Ev.aload_n_1 fX8_account_110 rfl ?_
  refine Ev.gR 24 0 25 fX8_account_111 (flX8_7 rfl) rfl rfl rfl ?_
  refine Ev.iconst fX8_account_114 ?_
  refine Ev.ld 25 1968 (v := (ja 2 4)) fX8_account_115 rfl rfl (by decide) H.2.2.2.2.1 ?_
  exact Ev.zI fX8_account_116 rfl rfl
theorem eX8_account_7 {G : zG} {ia ja : Nat → Int → Int} {w : (Nat → Int → Int) × (Nat → Int → Int)}  (H : zRw ja (ia 25)) : Ev G mX8_account 0 [(1, 24), (0, 7)] [] (zH ia w) (.inl (some (0, (ia 24 5))), zH (zu ia 24 8 0) w, 0, 0) := by
  have I := H.1
  have hn := I.1
  refine Ev.aload_n_1 fX8_account_0 rfl ?_
  refine Ev.iload_n fX8_account_1 rfl ?_
  refine Ev.iconst fX8_account_2 ?_
  refine Ev.bipush fX8_account_3 rfl ?_
  refine Ev.cSi [(0, 7), (0, 0), (0, 8)] [(1, 24)] fX8_account_5 lkX8_account_68 rfl (eX8_in_t ⟨by omega, by omega⟩ ⟨by omega, by omega⟩ ⟨by omega, by omega⟩ ⟨by omega, by omega⟩) ?_
  refine Ev.if_eq fX8_account_8 rfl (by decide) (fun h8 => by exfalso; revert h8; decide) (fun h8 => ?_)
  refine Ev.iconst fX8_account_11 ?_
  refine Ev.goto fX8_account_12 rfl ?_
  refine Ev.cVi 24 [(0, 0)] [] fX8_account_16 lkX8_account_117 8 TX8 22 rfl rfl rfl eX8_fails_0 ?_
  refine Ev.if_eq fX8_account_19 rfl (by decide) (fun h19 => ?_) (fun h19 => by exfalso; revert h19; decide)
  refine Ev.iload_n fX8_account_24 rfl ?_
  refine Ev.tableIn fX8_account_25 (by decide) (by decide) rfl rfl ?_
  refine Ev.aload_n_1 fX8_account_117 rfl ?_
  refine Ev.gI 24 5 (v := (ia 24 5)) fX8_account_118 (flX8_61 rfl) rfl rfl rfl ?_
  exact Ev.zI fX8_account_121 rfl rfl
theorem eX8_account_8 {G : zG} {ia ja : Nat → Int → Int} {w : (Nat → Int → Int) × (Nat → Int → Int)}  (H : zRw ja (ia 25)) : Ev G mX8_account 0 [(1, 24), (0, 8)] [] (zH ia w) (.inl (some (0, (ia 24 13))), zH (zu ia 24 8 0) w, 0, 0) := by
  have I := H.1
  have hn := I.1
  refine Ev.aload_n_1 fX8_account_0 rfl ?_
  refine Ev.iload_n fX8_account_1 rfl ?_
  refine Ev.iconst fX8_account_2 ?_
  refine Ev.bipush fX8_account_3 rfl ?_
  refine Ev.cSi [(0, 8), (0, 0), (0, 8)] [(1, 24)] fX8_account_5 lkX8_account_68 rfl (eX8_in_t ⟨by omega, by omega⟩ ⟨by omega, by omega⟩ ⟨by omega, by omega⟩ ⟨by omega, by omega⟩) ?_
  refine Ev.if_eq fX8_account_8 rfl (by decide) (fun h8 => by exfalso; revert h8; decide) (fun h8 => ?_)
  refine Ev.iconst fX8_account_11 ?_
  refine Ev.goto fX8_account_12 rfl ?_
  refine Ev.cVi 24 [(0, 0)] [] fX8_account_16 lkX8_account_117 8 TX8 22 rfl rfl rfl eX8_fails_0 ?_
  refine Ev.if_eq fX8_account_19 rfl (by decide) (fun h19 => ?_) (fun h19 => by exfalso; revert h19; decide)
  refine Ev.iload_n fX8_account_24 rfl ?_
  refine Ev.tableOut fX8_account_25 (by decide) (by decide) rfl ?_
  refine Ev.aload_n_1 fX8_account_122 rfl ?_
  refine Ev.gI 24 13 (v := (ia 24 13)) fX8_account_123 (flX8_152 rfl) rfl rfl rfl ?_
  exact Ev.zI fX8_account_126 rfl rfl
theorem eX8_reason_c1 {G : zG} {ia : Nat → Int → Int} {w : (Nat → Int → Int) × (Nat → Int → Int)} {k : Int} (hrk : -2147483648 ≤ k ∧ k ≤ 2147483647) (hx : ¬ (0 ≤ k ∧ k ≤ 2)) : Ev G mX8_reason 0 [(1, 24), (0, k)] [] (zH ia w) (.inl (some (0, 0)), zH (zu ia 24 8 1) w, 0, 0) := by
  refine Ev.aload_n_1 fX8_reason_0 rfl ?_
  refine Ev.iload_n fX8_reason_1 rfl ?_
  refine Ev.iconst fX8_reason_2 ?_
  refine Ev.iconst fX8_reason_3 ?_
  refine Ev.cSi [(0, k), (0, 0), (0, 2)] [(1, 24)] fX8_reason_4 lkX8_reason_68 rfl (eX8_in_f ⟨by omega, by omega⟩ ⟨by omega, by omega⟩ ⟨by omega, by omega⟩ (by omega)) ?_
  refine Ev.if_ne fX8_reason_7 rfl (by decide) (fun h7 => by exfalso; revert h7; decide) (fun h7 => ?_)
  refine Ev.iconst fX8_reason_10 ?_
  refine Ev.goto fX8_reason_11 rfl ?_
  refine Ev.cVi 24 [(0, 1)] [] fX8_reason_26 lkX8_reason_117 8 TX8 22 rfl rfl rfl eX8_fails_1 ?_
  refine Ev.if_eq fX8_reason_29 rfl (by decide) (fun h29 => by exfalso; revert h29; decide) (fun h29 => ?_)
  refine Ev.iconst fX8_reason_32 ?_
  refine Ev.goto fX8_reason_33 rfl ?_
  exact Ev.zI fX8_reason_63 rfl rfl
theorem eX8_reason_c2 {G : zG} {ia : Nat → Int → Int} {w : (Nat → Int → Int) × (Nat → Int → Int)} {k : Int} (hk : 0 ≤ k ∧ k ≤ 2) (hx : ia 24 9 = 0) : Ev G mX8_reason 0 [(1, 24), (0, k)] [] (zH ia w) (.inl (some (0, 0)), zH (zu ia 24 8 2) w, 0, 0) := by
  refine Ev.aload_n_1 fX8_reason_0 rfl ?_
  refine Ev.iload_n fX8_reason_1 rfl ?_
  refine Ev.iconst fX8_reason_2 ?_
  refine Ev.iconst fX8_reason_3 ?_
  refine Ev.cSi [(0, k), (0, 0), (0, 2)] [(1, 24)] fX8_reason_4 lkX8_reason_68 rfl (eX8_in_t ⟨by omega, by omega⟩ ⟨by omega, by omega⟩ ⟨by omega, by omega⟩ ⟨by omega, by omega⟩) ?_
  refine Ev.if_ne fX8_reason_7 rfl (by decide) (fun h7 => ?_) (fun h7 => by exfalso; revert h7; decide)
  refine Ev.aload_n_1 fX8_reason_14 rfl ?_
  refine Ev.gI 24 9 (v := (ia 24 9)) fX8_reason_15 (flX8_45 rfl) rfl rfl rfl ?_
  refine Ev.if_ne fX8_reason_18 rfl ⟨by omega, by omega⟩ (fun h18 => by exfalso; omega) (fun h18 => ?_)
  refine Ev.iconst fX8_reason_21 ?_
  refine Ev.goto fX8_reason_22 rfl ?_
  refine Ev.cVi 24 [(0, 2)] [] fX8_reason_26 lkX8_reason_117 8 TX8 22 rfl rfl rfl eX8_fails_2 ?_
  refine Ev.if_eq fX8_reason_29 rfl (by decide) (fun h29 => by exfalso; revert h29; decide) (fun h29 => ?_)
  refine Ev.iconst fX8_reason_32 ?_
  refine Ev.goto fX8_reason_33 rfl ?_
  exact Ev.zI fX8_reason_63 rfl rfl
theorem eX8_reason_0 {G : zG} {ia : Nat → Int → Int} {w : (Nat → Int → Int) × (Nat → Int → Int)}  (hx : 1 ≤ ia 24 9 ∧ ia 24 9 ≤ 8) : Ev G mX8_reason 0 [(1, 24), (0, 0)] [] (zH ia w) (.inl (some (0, (ia 24 9))), zH (zu ia 24 8 0) w, 0, 0) := by
  refine Ev.aload_n_1 fX8_reason_0 rfl ?_
  refine Ev.iload_n fX8_reason_1 rfl ?_
  refine Ev.iconst fX8_reason_2 ?_
  refine Ev.iconst fX8_reason_3 ?_
  refine Ev.cSi [(0, 0), (0, 0), (0, 2)] [(1, 24)] fX8_reason_4 lkX8_reason_68 rfl (eX8_in_t ⟨by omega, by omega⟩ ⟨by omega, by omega⟩ ⟨by omega, by omega⟩ ⟨by omega, by omega⟩) ?_
  refine Ev.if_ne fX8_reason_7 rfl (by decide) (fun h7 => ?_) (fun h7 => by exfalso; revert h7; decide)
  refine Ev.aload_n_1 fX8_reason_14 rfl ?_
  refine Ev.gI 24 9 (v := (ia 24 9)) fX8_reason_15 (flX8_45 rfl) rfl rfl rfl ?_
  refine Ev.if_ne fX8_reason_18 rfl ⟨by omega, by omega⟩ (fun h18 => ?_) (fun h18 => by exfalso; omega)
  refine Ev.iconst fX8_reason_25 ?_
  refine Ev.cVi 24 [(0, 0)] [] fX8_reason_26 lkX8_reason_117 8 TX8 22 rfl rfl rfl eX8_fails_0 ?_
  refine Ev.if_eq fX8_reason_29 rfl (by decide) (fun h29 => ?_) (fun h29 => by exfalso; revert h29; decide)
  refine Ev.iload_n fX8_reason_36 rfl ?_
  refine Ev.if_ne fX8_reason_37 rfl (by decide) (fun h37 => by exfalso; revert h37; decide) (fun h37 => ?_)
  refine Ev.aload_n_1 fX8_reason_40 rfl ?_
  refine Ev.gI 24 9 (v := (ia 24 9)) fX8_reason_41 (flX8_45 rfl) rfl rfl rfl ?_
  refine Ev.goto fX8_reason_44 rfl ?_
  exact Ev.zI fX8_reason_63 rfl rfl
theorem eX8_reason_1 {G : zG} {ia : Nat → Int → Int} {w : (Nat → Int → Int) × (Nat → Int → Int)}  (hx : 1 ≤ ia 24 9 ∧ ia 24 9 ≤ 8) : Ev G mX8_reason 0 [(1, 24), (0, 1)] [] (zH ia w) (.inl (some (0, (ia 24 10))), zH (zu ia 24 8 0) w, 0, 0) := by
  refine Ev.aload_n_1 fX8_reason_0 rfl ?_
  refine Ev.iload_n fX8_reason_1 rfl ?_
  refine Ev.iconst fX8_reason_2 ?_
  refine Ev.iconst fX8_reason_3 ?_
  refine Ev.cSi [(0, 1), (0, 0), (0, 2)] [(1, 24)] fX8_reason_4 lkX8_reason_68 rfl (eX8_in_t ⟨by omega, by omega⟩ ⟨by omega, by omega⟩ ⟨by omega, by omega⟩ ⟨by omega, by omega⟩) ?_
  refine Ev.if_ne fX8_reason_7 rfl (by decide) (fun h7 => ?_) (fun h7 => by exfalso; revert h7; decide)
  refine Ev.aload_n_1 fX8_reason_14 rfl ?_
  refine Ev.gI 24 9 (v := (ia 24 9)) fX8_reason_15 (flX8_45 rfl) rfl rfl rfl ?_
  refine Ev.if_ne fX8_reason_18 rfl ⟨by omega, by omega⟩ (fun h18 => ?_) (fun h18 => by exfalso; omega)
  refine Ev.iconst fX8_reason_25 ?_
  refine Ev.cVi 24 [(0, 0)] [] fX8_reason_26 lkX8_reason_117 8 TX8 22 rfl rfl rfl eX8_fails_0 ?_
  refine Ev.if_eq fX8_reason_29 rfl (by decide) (fun h29 => ?_) (fun h29 => by exfalso; revert h29; decide)
  refine Ev.iload_n fX8_reason_36 rfl ?_
  refine Ev.if_ne fX8_reason_37 rfl (by decide) (fun h37 => ?_) (fun h37 => by exfalso; revert h37; decide)
  refine Ev.iload_n fX8_reason_47 rfl ?_
  refine Ev.iconst fX8_reason_48 ?_
  refine Ev.icmp_ne fX8_reason_49 rfl (by decide) (by decide) (fun h49 => by exfalso; revert h49; decide) (fun h49 => ?_)
  refine Ev.aload_n_1 fX8_reason_52 rfl ?_
  refine Ev.gI 24 10 (v := (ia 24 10)) fX8_reason_53 (flX8_48 rfl) rfl rfl rfl ?_
  refine Ev.goto fX8_reason_56 rfl ?_
  exact Ev.zI fX8_reason_63 rfl rfl
theorem eX8_reason_2 {G : zG} {ia : Nat → Int → Int} {w : (Nat → Int → Int) × (Nat → Int → Int)}  (hx : 1 ≤ ia 24 9 ∧ ia 24 9 ≤ 8) : Ev G mX8_reason 0 [(1, 24), (0, 2)] [] (zH ia w) (.inl (some (0, (ia 24 11))), zH (zu ia 24 8 0) w, 0, 0) := by
  refine Ev.aload_n_1 fX8_reason_0 rfl ?_
  refine Ev.iload_n fX8_reason_1 rfl ?_
  refine Ev.iconst fX8_reason_2 ?_
  refine Ev.iconst fX8_reason_3 ?_
  refine Ev.cSi [(0, 2), (0, 0), (0, 2)] [(1, 24)] fX8_reason_4 lkX8_reason_68 rfl (eX8_in_t ⟨by omega, by omega⟩ ⟨by omega, by omega⟩ ⟨by omega, by omega⟩ ⟨by omega, by omega⟩) ?_
  refine Ev.if_ne fX8_reason_7 rfl (by decide) (fun h7 => ?_) (fun h7 => by exfalso; revert h7; decide)
  refine Ev.aload_n_1 fX8_reason_14 rfl ?_
  refine Ev.gI 24 9 (v := (ia 24 9)) fX8_reason_15 (flX8_45 rfl) rfl rfl rfl ?_
  refine Ev.if_ne fX8_reason_18 rfl ⟨by omega, by omega⟩ (fun h18 => ?_) (fun h18 => by exfalso; omega)
  refine Ev.iconst fX8_reason_25 ?_
  refine Ev.cVi 24 [(0, 0)] [] fX8_reason_26 lkX8_reason_117 8 TX8 22 rfl rfl rfl eX8_fails_0 ?_
  refine Ev.if_eq fX8_reason_29 rfl (by decide) (fun h29 => ?_) (fun h29 => by exfalso; revert h29; decide)
  refine Ev.iload_n fX8_reason_36 rfl ?_
  refine Ev.if_ne fX8_reason_37 rfl (by decide) (fun h37 => ?_) (fun h37 => by exfalso; revert h37; decide)
  refine Ev.iload_n fX8_reason_47 rfl ?_
  refine Ev.iconst fX8_reason_48 ?_
  refine Ev.icmp_ne fX8_reason_49 rfl (by decide) (by decide) (fun h49 => ?_) (fun h49 => by exfalso; revert h49; decide)
  refine Ev.aload_n_1 fX8_reason_59 rfl ?_
  refine Ev.gI 24 11 (v := (ia 24 11)) fX8_reason_60 (flX8_58 rfl) rfl rfl rfl ?_
  exact Ev.zI fX8_reason_63 rfl rfl
theorem eX8_character_c1 {G : zG} {ia : Nat → Int → Int} {w : (Nat → Int → Int) × (Nat → Int → Int)} {i : Int} (hri : -2147483648 ≤ i ∧ i ≤ 2147483647) (hl : 0 ≤ ia 24 16 ∧ ia 24 16 ≤ 160) (hx : ¬ (0 ≤ i ∧ i < ia 24 16)) : Ev G mX8_character 0 [(1, 24), (0, i)] [] (zH ia w) (.inl (some (0, 32)), zH (zu ia 24 8 1) w, 0, 0) := by
  refine Ev.aload_n_1 fX8_character_0 rfl ?_
  refine Ev.iload_n fX8_character_1 rfl ?_
  refine Ev.iconst fX8_character_2 ?_
  refine Ev.aload_n_1 fX8_character_3 rfl ?_
  refine Ev.gI 24 16 (v := (ia 24 16)) fX8_character_4 (flX8_197 rfl) rfl rfl rfl ?_
  refine Ev.iconst fX8_character_7 ?_
  refine Ev.isub fX8_character_8 ?_
  refine Ev.cSi [(0, i), (0, 0), (0, ((ia 24 16) - 1))] [(1, 24)] fX8_character_9 lkX8_character_68 rfl (eX8_in_f ⟨by omega, by omega⟩ ⟨by omega, by omega⟩ ⟨by omega, by omega⟩ (by omega)) ?_
  refine Ev.if_eq fX8_character_12 rfl (by decide) (fun h12 => ?_) (fun h12 => by exfalso; revert h12; decide)
  refine Ev.iconst fX8_character_19 ?_
  refine Ev.cVi 24 [(0, 1)] [] fX8_character_20 lkX8_character_117 8 TX8 22 rfl rfl rfl eX8_fails_1 ?_
  refine Ev.if_eq fX8_character_23 rfl (by decide) (fun h23 => by exfalso; revert h23; decide) (fun h23 => ?_)
  refine Ev.bipush fX8_character_26 rfl ?_
  refine Ev.goto fX8_character_28 rfl ?_
  exact Ev.zC fX8_character_37 rfl ⟨by omega, by omega⟩ rfl
theorem eX8_character_0 {G : zG} {ia : Nat → Int → Int} {w : (Nat → Int → Int) × (Nat → Int → Int)} {i : Int} (hl : 0 ≤ ia 24 16 ∧ ia 24 16 ≤ 160) (hi : 0 ≤ i ∧ i < ia 24 16) (hc : 0 ≤ ia 30 i ∧ ia 30 i ≤ 65535) : Ev G mX8_character 0 [(1, 24), (0, i)] [] (zH ia w) (.inl (some (0, (ia 30 i))), zH (zu ia 24 8 0) w, 0, 0) := by
  refine Ev.aload_n_1 fX8_character_0 rfl ?_
  refine Ev.iload_n fX8_character_1 rfl ?_
  refine Ev.iconst fX8_character_2 ?_
  refine Ev.aload_n_1 fX8_character_3 rfl ?_
  refine Ev.gI 24 16 (v := (ia 24 16)) fX8_character_4 (flX8_197 rfl) rfl rfl rfl ?_
  refine Ev.iconst fX8_character_7 ?_
  refine Ev.isub fX8_character_8 ?_
  refine Ev.cSi [(0, i), (0, 0), (0, ((ia 24 16) - 1))] [(1, 24)] fX8_character_9 lkX8_character_68 rfl (eX8_in_t ⟨by omega, by omega⟩ ⟨by omega, by omega⟩ ⟨by omega, by omega⟩ ⟨by omega, by omega⟩) ?_
  refine Ev.if_eq fX8_character_12 rfl (by decide) (fun h12 => by exfalso; revert h12; decide) (fun h12 => ?_)
  refine Ev.iconst fX8_character_15 ?_
  refine Ev.goto fX8_character_16 rfl ?_
  refine Ev.cVi 24 [(0, 0)] [] fX8_character_20 lkX8_character_117 8 TX8 22 rfl rfl rfl eX8_fails_0 ?_
  refine Ev.if_eq fX8_character_23 rfl (by decide) (fun h23 => ?_) (fun h23 => by exfalso; revert h23; decide)
  refine Ev.aload_n_1 fX8_character_31 rfl ?_
  refine Ev.gR 24 15 30 fX8_character_32 (flX8_29 rfl) rfl rfl rfl ?_
  refine Ev.iload_n fX8_character_35 rfl ?_
  refine Ev.cld 30 160 (v := (ia 30 i)) fX8_character_36 rfl rfl ⟨by omega, by omega⟩ rfl ?_
  exact Ev.zC fX8_character_37 rfl ⟨by omega, by omega⟩ rfl
theorem eX8_append_c1 {G : zG} {ia : Nat → Int → Int} {w : (Nat → Int → Int) × (Nat → Int → Int)} {c : Int} (hl : ia 24 13 = 60) : Ev G mX8_append 0 [(1, 24), (0, c)] [] (zH ia w) (.inl (some (0, 0)), zH (zu ia 24 8 1) w, 0, 0) := by
  refine Ev.aload_n_1 fX8_append_0 rfl ?_
  refine Ev.aload_n_1 fX8_append_1 rfl ?_
  refine Ev.gI 24 13 (v := (ia 24 13)) fX8_append_2 (flX8_152 rfl) rfl rfl rfl ?_
  refine Ev.bipush fX8_append_5 rfl ?_
  refine Ev.icmp_ne fX8_append_7 rfl ⟨by omega, by omega⟩ (by decide) (fun h7 => by exfalso; omega) (fun h7 => ?_)
  refine Ev.iconst fX8_append_10 ?_
  refine Ev.goto fX8_append_11 rfl ?_
  refine Ev.cVi 24 [(0, 1)] [] fX8_append_15 lkX8_append_117 8 TX8 22 rfl rfl rfl eX8_fails_1 ?_
  refine Ev.if_eq fX8_append_18 rfl (by decide) (fun h18 => by exfalso; revert h18; decide) (fun h18 => ?_)
  refine Ev.iconst fX8_append_21 ?_
  exact Ev.zI fX8_append_22 rfl rfl
theorem eX8_append_0 {G : zG} {ia : Nat → Int → Int} {w : (Nat → Int → Int) × (Nat → Int → Int)} {c : Int} (hl : 0 ≤ ia 24 13 ∧ ia 24 13 < 60) : Ev G mX8_append 0 [(1, 24), (0, c)] [] (zH ia w) (.inl (some (0, (ia 24 13 + 1))), zH (zu (zu (zu ia 24 8 0) 29 (ia 24 13) c) 24 13 (ia 24 13 + 1)) w, 0, 0) := by
  refine Ev.aload_n_1 fX8_append_0 rfl ?_
  refine Ev.aload_n_1 fX8_append_1 rfl ?_
  refine Ev.gI 24 13 (v := (ia 24 13)) fX8_append_2 (flX8_152 rfl) rfl rfl rfl ?_
  refine Ev.bipush fX8_append_5 rfl ?_
  refine Ev.icmp_ne fX8_append_7 rfl ⟨by omega, by omega⟩ (by decide) (fun h7 => ?_) (fun h7 => by exfalso; omega)
  refine Ev.iconst fX8_append_14 ?_
  refine Ev.cVi 24 [(0, 0)] [] fX8_append_15 lkX8_append_117 8 TX8 22 rfl rfl rfl eX8_fails_0 ?_
  refine Ev.if_eq fX8_append_18 rfl (by decide) (fun h18 => ?_) (fun h18 => by exfalso; revert h18; decide)
  refine Ev.aload_n_1 fX8_append_23 rfl ?_
  refine Ev.gR 24 12 29 fX8_append_24 (flX8_22 rfl) rfl rfl rfl ?_
  refine Ev.aload_n_1 fX8_append_27 rfl ?_
  refine Ev.gI 24 13 (v := (ia 24 13)) fX8_append_28 (flX8_152 rfl) rfl rfl rfl ?_
  refine Ev.iload_n fX8_append_31 rfl ?_
  refine Ev.stI 29 60 fX8_append_32 rfl rfl ⟨by omega, by omega⟩ ?_
  refine Ev.aload_n_1 fX8_append_33 rfl ?_
  refine Ev.dup fX8_append_34 rfl ?_
  refine Ev.gI 24 13 (v := (ia 24 13)) fX8_append_35 (flX8_152 rfl) rfl rfl rfl ?_
  refine Ev.iconst fX8_append_38 ?_
  refine Ev.iadd fX8_append_39 ?_
  refine Ev.pI 24 13 fX8_append_40 (flX8_152 rfl) rfl rfl trivial ?_
  refine Ev.aload_n_1 fX8_append_43 rfl ?_
  refine Ev.gI 24 13 (v := ((ia 24 13) + 1)) fX8_append_44 (flX8_152 rfl) rfl rfl rfl ?_
  exact Ev.zI fX8_append_47 rfl rfl
theorem eX8_faultPosition {G : zG} {ia : Nat → Int → Int} {w : (Nat → Int → Int) × (Nat → Int → Int)}   : Ev G mX8_faultPosition 0 [(1, 24)] [] (zH ia w) (.inl (some (0, (ia 24 14))), zH (zu ia 24 8 0) w, 0, 0) := by
  refine Ev.aload_n_1 fX8_faultPosition_0 rfl ?_
  refine Ev.iconst fX8_faultPosition_1 ?_
  refine Ev.pI 24 8 fX8_faultPosition_2 (flX8_42 rfl) rfl rfl trivial ?_
  refine Ev.aload_n_1 fX8_faultPosition_5 rfl ?_
  refine Ev.gI 24 14 (v := (ia 24 14)) fX8_faultPosition_6 (flX8_25 rfl) rfl rfl rfl ?_
  exact Ev.zI fX8_faultPosition_9 rfl rfl
theorem eX8_mean_0 {G : zG} {ia ja : Nat → Int → Int} {w : (Nat → Int → Int) × (Nat → Int → Int)} {v : Int} (H : zRw ja (ia 25)) (TS : zTS ja) (hv : 0 ≤ v ∧ v < ja 3 0) (hne : vf_n64 (FP.ddiv (FP.i2d (Int32.ofInt (zTo ja v 0))) (UInt64.ofNat 4625196817309499392))) : Ev G mX8_mean 0 [(1, 24), (0, v)] [] (zH ia w) (.inl (some (5, (zD (FP.ddiv (FP.i2d (Int32.ofInt (zTo ja v 0))) (UInt64.ofNat 4625196817309499392))))), zH (zu ia 24 8 0) w, 0, 0) := by
  have I := H.1
  have hn := I.1
  refine Ev.aload_n_1 fX8_mean_0 rfl ?_
  refine Ev.aload_n_1 fX8_mean_1 rfl ?_
  refine Ev.iload_n fX8_mean_2 rfl ?_
  refine Ev.cVi 24 [(0, v)] [(1, 24)] fX8_mean_3 lkX8_mean_104 8 TX8 22 rfl rfl rfl (eX8_isVersion_t H ⟨by omega, by omega⟩) ?_
  refine Ev.if_eq fX8_mean_6 rfl (by decide) (fun h6 => by exfalso; revert h6; decide) (fun h6 => ?_)
  refine Ev.iconst fX8_mean_9 ?_
  refine Ev.goto fX8_mean_10 rfl ?_
  refine Ev.cVi 24 [(0, 0)] [] fX8_mean_14 lkX8_mean_117 8 TX8 22 rfl rfl rfl eX8_fails_0 ?_
  refine Ev.if_eq fX8_mean_17 rfl (by decide) (fun h17 => ?_) (fun h17 => by exfalso; revert h17; decide)
  refine Ev.aload_n_1 fX8_mean_24 rfl ?_
  refine Ev.iload_n fX8_mean_25 rfl ?_
  refine Ev.iconst fX8_mean_26 ?_
  refine Ev.bipush fX8_mean_27 rfl ?_
  refine Ev.cVi 24 [(0, v), (0, 0), (0, 15)] [] fX8_mean_29 lkX8_mean_124 8 TX8 22 rfl rfl rfl (eX8_total H TS ⟨by omega, by omega⟩) ?_
  refine Ev.i2d fX8_mean_32 ?_
  refine Ev.ldcD (b := 4625196817309499392) fX8_mean_33 (cdX8_207 rfl) ?_
  rw [show ((4625196817309499392 : Nat) : Int) = zD (UInt64.ofNat 4625196817309499392) from rfl]
  refine Ev.ddiv fX8_mean_36 hne ?_
  exact Ev.retD (st := []) (O := (.inl none, zH (zu ia 24 8 0) w, 0, 0)) fX8_mean_37 rfl
theorem eX8_mean_c1 {G : zG} {ia ja : Nat → Int → Int} {w : (Nat → Int → Int) × (Nat → Int → Int)} {v : Int} (H : zRw ja (ia 25)) (hrv : -2147483648 ≤ v ∧ v ≤ 2147483647) (hx : ¬ (0 ≤ v ∧ v < ja 3 0)) : Ev G mX8_mean 0 [(1, 24), (0, v)] [] (zH ia w) (.inl (some (5, (zD FP.dconst0))), zH (zu ia 24 8 1) w, 0, 0) := by
  have I := H.1
  have hn := I.1
  refine Ev.aload_n_1 fX8_mean_0 rfl ?_
  refine Ev.aload_n_1 fX8_mean_1 rfl ?_
  refine Ev.iload_n fX8_mean_2 rfl ?_
  refine Ev.cVi 24 [(0, v)] [(1, 24)] fX8_mean_3 lkX8_mean_104 8 TX8 22 rfl rfl rfl (eX8_isVersion_f H ⟨by omega, by omega⟩ (by omega)) ?_
  refine Ev.if_eq fX8_mean_6 rfl (by decide) (fun h6 => ?_) (fun h6 => by exfalso; revert h6; decide)
  refine Ev.iconst fX8_mean_13 ?_
  refine Ev.cVi 24 [(0, 1)] [] fX8_mean_14 lkX8_mean_117 8 TX8 22 rfl rfl rfl eX8_fails_1 ?_
  refine Ev.if_eq fX8_mean_17 rfl (by decide) (fun h17 => by exfalso; revert h17; decide) (fun h17 => ?_)
  refine Ev.dconst0 fX8_mean_20 ?_
  refine Ev.goto fX8_mean_21 rfl ?_
  exact Ev.retD (st := []) (O := (.inl none, zH (zu ia 24 8 1) w, 0, 0)) fX8_mean_37 rfl
theorem eX8_spared {G : zG} {ia ja : Nat → Int → Int} {w : (Nat → Int → Int) × (Nat → Int → Int)}  (H : zRw ja (ia 25)) (hne : vf_n32 (FP.fdiv (FP.i2f (Int32.ofInt ((31 * ja 3 0) - (zsum (fun v => zsum (fun s => if ja 6 (v * 31 + s) = v then 1 else 0) 31) (ja 3 0))))) (FP.i2f (Int32.ofInt (31 * ja 3 0))))) : Ev G mX8_spared 0 [(1, 24)] [] (zH ia w) (.inl (some (6, (zS (FP.fdiv (FP.i2f (Int32.ofInt ((31 * ja 3 0) - (zsum (fun v => zsum (fun s => if ja 6 (v * 31 + s) = v then 1 else 0) 31) (ja 3 0))))) (FP.i2f (Int32.ofInt (31 * ja 3 0))))))), zH (zu ia 24 8 0) w, 0, 0) := by
  have I := H.1
  have hn := I.1
  refine Ev.aload_n_1 fX8_spared_0 rfl ?_
  refine Ev.iconst fX8_spared_1 ?_
  refine Ev.pI 24 8 fX8_spared_2 (flX8_42 rfl) rfl rfl trivial ?_
  refine Ev.bipush fX8_spared_5 rfl ?_
  refine Ev.aload_n_1 fX8_spared_7 rfl ?_
  refine Ev.gR 24 0 25 fX8_spared_8 (flX8_7 rfl) rfl rfl rfl ?_
  refine Ev.iconst fX8_spared_11 ?_
  refine Ev.ld 25 1968 (v := (ja 3 0)) fX8_spared_12 rfl rfl (by decide) H.2.1 ?_
  refine Ev.imul fX8_spared_13 ?_
  refine Ev.aload_n_1 fX8_spared_14 rfl ?_
  refine Ev.cVi 24 [] [(0, (31 * (ja 3 0)))] fX8_spared_15 lkX8_spared_209 8 TX8 22 rfl rfl rfl (eX8_allMade H) ?_
  refine Ev.isub fX8_spared_18 ?_
  refine Ev.i2f fX8_spared_19 ?_
  refine Ev.bipush fX8_spared_20 rfl ?_
  refine Ev.aload_n_1 fX8_spared_22 rfl ?_
  refine Ev.gR 24 0 25 fX8_spared_23 (flX8_7 rfl) rfl rfl rfl ?_
  refine Ev.iconst fX8_spared_26 ?_
  refine Ev.ld 25 1968 (v := (ja 3 0)) fX8_spared_27 rfl rfl (by decide) H.2.1 ?_
  refine Ev.imul fX8_spared_28 ?_
  refine Ev.i2f fX8_spared_29 ?_
  refine Ev.fdiv fX8_spared_30 hne ?_
  exact Ev.retF (st := []) (O := (.inl none, zH (zu ia 24 8 0) w, 0, 0)) fX8_spared_31 rfl
theorem zcp_0 {ia : Nat → Int → Int} {c0 c1 : Nat} {sp dp : Int} : zcp ia c0 sp c1 dp 0 = ia := by
  funext c i
  unfold zcp
  rw [if_neg (by omega)]
theorem zcp_s {ia : Nat → Int → Int} {c0 c1 : Nat} {sp dp k : Int} (hk : 0 ≤ k) : zu (zcp ia c0 sp c1 dp k) c1 (dp + k) (ia c0 (sp + k)) = zcp ia c0 sp c1 dp (k + 1) := by
  funext c i
  unfold zu zcp
  by_cases h : c = c1 ∧ i = dp + k
  · rw [if_pos h, if_pos (by omega), h.2, show sp + (dp + k - dp) = sp + k by omega]
  · rw [if_neg h]
    by_cases h2 : c = c1 ∧ dp ≤ i ∧ i < dp + k
    · rw [if_pos h2, if_pos (by omega)]
    · rw [if_neg h2, if_neg (by omega)]
theorem zcp_out {ia : Nat → Int → Int} {c0 c1 c : Nat} {sp dp k i : Int} (h : ¬ (c = c1 ∧ dp ≤ i ∧ i < dp + k)) : zcp ia c0 sp c1 dp k c i = ia c i := by
  unfold zcp
  rw [if_neg h]
theorem eX8_copies_25_28_L {G : zG} {ia : Nat → Int → Int} {w : (Nat → Int → Int) × (Nat → Int → Int)} {sp dp : Int} (hs : 0 ≤ sp ∧ sp + 1968 ≤ 1968) (hd : 0 ≤ dp ∧ dp + 1968 ≤ 1968) : ∀ (n : Nat) (k : Int), (1968 - k < n) → (0 ≤ k) → (k ≤ 1968) → Ev G mX8_copies 3 [(1, 25), (0, sp), (1, 28), (0, dp), (0, k)] [] (zH (zcp ia 25 sp 28 dp k) w) (.inl none, zH (zcp ia 25 sp 28 dp 1968) w, 0, 0) := by
  intro n
  induction n with
  | zero =>
    intro k hN hk0 hk1
    exact absurd hN (by omega)
  | succ n ih =>
    intro k hN hk0 hk1
    refine Ev.iload fX8_copies_3 rfl ?_
    refine Ev.sipush fX8_copies_5 rfl ?_
    refine Ev.icmp_ge fX8_copies_8 rfl ⟨by omega, by omega⟩ (by decide) (fun h8 => ?_) (fun h8 => ?_)
    · rw [show k = 1968 by omega]
      exact Ev.zV fX8_copies_29 rfl
    · refine Ev.aload_n_1 fX8_copies_11 rfl ?_
      refine Ev.iload_n fX8_copies_12 rfl ?_
      refine Ev.iload fX8_copies_13 rfl ?_
      refine Ev.iadd fX8_copies_15 ?_
      refine Ev.aload_n_1 fX8_copies_16 rfl ?_
      refine Ev.iload_n fX8_copies_17 rfl ?_
      refine Ev.iload fX8_copies_18 rfl ?_
      refine Ev.iadd fX8_copies_20 ?_
      refine Ev.ld 25 1968 (v := (ia 25 (sp + k))) fX8_copies_21 rfl rfl ⟨by omega, by omega⟩ (zcp_out (by omega)) ?_
      refine Ev.stI 28 1968 fX8_copies_22 rfl rfl ⟨by omega, by omega⟩ ?_
      refine Ev.siinc [(1, 25), (0, sp), (1, 28), (0, dp), (0, (k + 1))] fX8_copies_23 rfl rfl rfl ?_
      refine Ev.goto fX8_copies_26 rfl ?_
      rw [zcp_s hk0]
      exact ih (k + 1) (by omega) (by omega) (by omega)
theorem eX8_copies_25_28 {G : zG} {ia : Nat → Int → Int} {w : (Nat → Int → Int) × (Nat → Int → Int)} {sp dp : Int} (hs : 0 ≤ sp ∧ sp + 1968 ≤ 1968) (hd : 0 ≤ dp ∧ dp + 1968 ≤ 1968) : Ev G mX8_copies 0 [(1, 25), (0, sp), (1, 28), (0, dp), (9, 0)] [] (zH ia w) (.inl none, zH (zcp ia 25 sp 28 dp 1968) w, 0, 0) := by
  refine Ev.iconst fX8_copies_0 ?_
  refine Ev.sistore [(1, 25), (0, sp), (1, 28), (0, dp), (0, 0)] fX8_copies_1 rfl rfl ?_
  have h := eX8_copies_25_28_L (G := G) (ia := ia) (w := w) hs hd 4000 0 (by omega) (by omega) (by omega)
  rw [zcp_0] at h
  exact h
theorem eX8_copies_28_25_L {G : zG} {ia : Nat → Int → Int} {w : (Nat → Int → Int) × (Nat → Int → Int)} {sp dp : Int} (hs : 0 ≤ sp ∧ sp + 1968 ≤ 1968) (hd : 0 ≤ dp ∧ dp + 1968 ≤ 1968) : ∀ (n : Nat) (k : Int), (1968 - k < n) → (0 ≤ k) → (k ≤ 1968) → Ev G mX8_copies 3 [(1, 28), (0, sp), (1, 25), (0, dp), (0, k)] [] (zH (zcp ia 28 sp 25 dp k) w) (.inl none, zH (zcp ia 28 sp 25 dp 1968) w, 0, 0) := by
  intro n
  induction n with
  | zero =>
    intro k hN hk0 hk1
    exact absurd hN (by omega)
  | succ n ih =>
    intro k hN hk0 hk1
    refine Ev.iload fX8_copies_3 rfl ?_
    refine Ev.sipush fX8_copies_5 rfl ?_
    refine Ev.icmp_ge fX8_copies_8 rfl ⟨by omega, by omega⟩ (by decide) (fun h8 => ?_) (fun h8 => ?_)
    · rw [show k = 1968 by omega]
      exact Ev.zV fX8_copies_29 rfl
    · refine Ev.aload_n_1 fX8_copies_11 rfl ?_
      refine Ev.iload_n fX8_copies_12 rfl ?_
      refine Ev.iload fX8_copies_13 rfl ?_
      refine Ev.iadd fX8_copies_15 ?_
      refine Ev.aload_n_1 fX8_copies_16 rfl ?_
      refine Ev.iload_n fX8_copies_17 rfl ?_
      refine Ev.iload fX8_copies_18 rfl ?_
      refine Ev.iadd fX8_copies_20 ?_
      refine Ev.ld 28 1968 (v := (ia 28 (sp + k))) fX8_copies_21 rfl rfl ⟨by omega, by omega⟩ (zcp_out (by omega)) ?_
      refine Ev.stI 25 1968 fX8_copies_22 rfl rfl ⟨by omega, by omega⟩ ?_
      refine Ev.siinc [(1, 28), (0, sp), (1, 25), (0, dp), (0, (k + 1))] fX8_copies_23 rfl rfl rfl ?_
      refine Ev.goto fX8_copies_26 rfl ?_
      rw [zcp_s hk0]
      exact ih (k + 1) (by omega) (by omega) (by omega)
theorem eX8_copies_28_25 {G : zG} {ia : Nat → Int → Int} {w : (Nat → Int → Int) × (Nat → Int → Int)} {sp dp : Int} (hs : 0 ≤ sp ∧ sp + 1968 ≤ 1968) (hd : 0 ≤ dp ∧ dp + 1968 ≤ 1968) : Ev G mX8_copies 0 [(1, 28), (0, sp), (1, 25), (0, dp), (9, 0)] [] (zH ia w) (.inl none, zH (zcp ia 28 sp 25 dp 1968) w, 0, 0) := by
  refine Ev.iconst fX8_copies_0 ?_
  refine Ev.sistore [(1, 28), (0, sp), (1, 25), (0, dp), (0, 0)] fX8_copies_1 rfl rfl ?_
  have h := eX8_copies_28_25_L (G := G) (ia := ia) (w := w) hs hd 4000 0 (by omega) (by omega) (by omega)
  rw [zcp_0] at h
  exact h
theorem eX8_copies_25_26_L {G : zG} {ia : Nat → Int → Int} {w : (Nat → Int → Int) × (Nat → Int → Int)} {sp dp : Int} (hs : 0 ≤ sp ∧ sp + 1968 ≤ 1968) (hd : 0 ≤ dp ∧ dp + 1968 ≤ 15744) : ∀ (n : Nat) (k : Int), (1968 - k < n) → (0 ≤ k) → (k ≤ 1968) → Ev G mX8_copies 3 [(1, 25), (0, sp), (1, 26), (0, dp), (0, k)] [] (zH (zcp ia 25 sp 26 dp k) w) (.inl none, zH (zcp ia 25 sp 26 dp 1968) w, 0, 0) := by
  intro n
  induction n with
  | zero =>
    intro k hN hk0 hk1
    exact absurd hN (by omega)
  | succ n ih =>
    intro k hN hk0 hk1
    refine Ev.iload fX8_copies_3 rfl ?_
    refine Ev.sipush fX8_copies_5 rfl ?_
    refine Ev.icmp_ge fX8_copies_8 rfl ⟨by omega, by omega⟩ (by decide) (fun h8 => ?_) (fun h8 => ?_)
    · rw [show k = 1968 by omega]
      exact Ev.zV fX8_copies_29 rfl
    · refine Ev.aload_n_1 fX8_copies_11 rfl ?_
      refine Ev.iload_n fX8_copies_12 rfl ?_
      refine Ev.iload fX8_copies_13 rfl ?_
      refine Ev.iadd fX8_copies_15 ?_
      refine Ev.aload_n_1 fX8_copies_16 rfl ?_
      refine Ev.iload_n fX8_copies_17 rfl ?_
      refine Ev.iload fX8_copies_18 rfl ?_
      refine Ev.iadd fX8_copies_20 ?_
      refine Ev.ld 25 1968 (v := (ia 25 (sp + k))) fX8_copies_21 rfl rfl ⟨by omega, by omega⟩ (zcp_out (by omega)) ?_
      refine Ev.stI 26 15744 fX8_copies_22 rfl rfl ⟨by omega, by omega⟩ ?_
      refine Ev.siinc [(1, 25), (0, sp), (1, 26), (0, dp), (0, (k + 1))] fX8_copies_23 rfl rfl rfl ?_
      refine Ev.goto fX8_copies_26 rfl ?_
      rw [zcp_s hk0]
      exact ih (k + 1) (by omega) (by omega) (by omega)
theorem eX8_copies_25_26 {G : zG} {ia : Nat → Int → Int} {w : (Nat → Int → Int) × (Nat → Int → Int)} {sp dp : Int} (hs : 0 ≤ sp ∧ sp + 1968 ≤ 1968) (hd : 0 ≤ dp ∧ dp + 1968 ≤ 15744) : Ev G mX8_copies 0 [(1, 25), (0, sp), (1, 26), (0, dp), (9, 0)] [] (zH ia w) (.inl none, zH (zcp ia 25 sp 26 dp 1968) w, 0, 0) := by
  refine Ev.iconst fX8_copies_0 ?_
  refine Ev.sistore [(1, 25), (0, sp), (1, 26), (0, dp), (0, 0)] fX8_copies_1 rfl rfl ?_
  have h := eX8_copies_25_26_L (G := G) (ia := ia) (w := w) hs hd 4000 0 (by omega) (by omega) (by omega)
  rw [zcp_0] at h
  exact h
theorem eX8_copies_26_25_L {G : zG} {ia : Nat → Int → Int} {w : (Nat → Int → Int) × (Nat → Int → Int)} {sp dp : Int} (hs : 0 ≤ sp ∧ sp + 1968 ≤ 15744) (hd : 0 ≤ dp ∧ dp + 1968 ≤ 1968) : ∀ (n : Nat) (k : Int), (1968 - k < n) → (0 ≤ k) → (k ≤ 1968) → Ev G mX8_copies 3 [(1, 26), (0, sp), (1, 25), (0, dp), (0, k)] [] (zH (zcp ia 26 sp 25 dp k) w) (.inl none, zH (zcp ia 26 sp 25 dp 1968) w, 0, 0) := by
  intro n
  induction n with
  | zero =>
    intro k hN hk0 hk1
    exact absurd hN (by omega)
  | succ n ih =>
    intro k hN hk0 hk1
    refine Ev.iload fX8_copies_3 rfl ?_
    refine Ev.sipush fX8_copies_5 rfl ?_
    refine Ev.icmp_ge fX8_copies_8 rfl ⟨by omega, by omega⟩ (by decide) (fun h8 => ?_) (fun h8 => ?_)
    · rw [show k = 1968 by omega]
      exact Ev.zV fX8_copies_29 rfl
    · refine Ev.aload_n_1 fX8_copies_11 rfl ?_
      refine Ev.iload_n fX8_copies_12 rfl ?_
      refine Ev.iload fX8_copies_13 rfl ?_
      refine Ev.iadd fX8_copies_15 ?_
      refine Ev.aload_n_1 fX8_copies_16 rfl ?_
      refine Ev.iload_n fX8_copies_17 rfl ?_
      refine Ev.iload fX8_copies_18 rfl ?_
      refine Ev.iadd fX8_copies_20 ?_
      refine Ev.ld 26 15744 (v := (ia 26 (sp + k))) fX8_copies_21 rfl rfl ⟨by omega, by omega⟩ (zcp_out (by omega)) ?_
      refine Ev.stI 25 1968 fX8_copies_22 rfl rfl ⟨by omega, by omega⟩ ?_
      refine Ev.siinc [(1, 26), (0, sp), (1, 25), (0, dp), (0, (k + 1))] fX8_copies_23 rfl rfl rfl ?_
      refine Ev.goto fX8_copies_26 rfl ?_
      rw [zcp_s hk0]
      exact ih (k + 1) (by omega) (by omega) (by omega)
theorem eX8_copies_26_25 {G : zG} {ia : Nat → Int → Int} {w : (Nat → Int → Int) × (Nat → Int → Int)} {sp dp : Int} (hs : 0 ≤ sp ∧ sp + 1968 ≤ 15744) (hd : 0 ≤ dp ∧ dp + 1968 ≤ 1968) : Ev G mX8_copies 0 [(1, 26), (0, sp), (1, 25), (0, dp), (9, 0)] [] (zH ia w) (.inl none, zH (zcp ia 26 sp 25 dp 1968) w, 0, 0) := by
  refine Ev.iconst fX8_copies_0 ?_
  refine Ev.sistore [(1, 26), (0, sp), (1, 25), (0, dp), (0, 0)] fX8_copies_1 rfl rfl ?_
  have h := eX8_copies_26_25_L (G := G) (ia := ia) (w := w) hs hd 4000 0 (by omega) (by omega) (by omega)
  rw [zcp_0] at h
  exact h
theorem eX8_copies_25_27_L {G : zG} {ia : Nat → Int → Int} {w : (Nat → Int → Int) × (Nat → Int → Int)} {sp dp : Int} (hs : 0 ≤ sp ∧ sp + 1968 ≤ 1968) (hd : 0 ≤ dp ∧ dp + 1968 ≤ 1968) : ∀ (n : Nat) (k : Int), (1968 - k < n) → (0 ≤ k) → (k ≤ 1968) → Ev G mX8_copies 3 [(1, 25), (0, sp), (1, 27), (0, dp), (0, k)] [] (zH (zcp ia 25 sp 27 dp k) w) (.inl none, zH (zcp ia 25 sp 27 dp 1968) w, 0, 0) := by
  intro n
  induction n with
  | zero =>
    intro k hN hk0 hk1
    exact absurd hN (by omega)
  | succ n ih =>
    intro k hN hk0 hk1
    refine Ev.iload fX8_copies_3 rfl ?_
    refine Ev.sipush fX8_copies_5 rfl ?_
    refine Ev.icmp_ge fX8_copies_8 rfl ⟨by omega, by omega⟩ (by decide) (fun h8 => ?_) (fun h8 => ?_)
    · rw [show k = 1968 by omega]
      exact Ev.zV fX8_copies_29 rfl
    · refine Ev.aload_n_1 fX8_copies_11 rfl ?_
      refine Ev.iload_n fX8_copies_12 rfl ?_
      refine Ev.iload fX8_copies_13 rfl ?_
      refine Ev.iadd fX8_copies_15 ?_
      refine Ev.aload_n_1 fX8_copies_16 rfl ?_
      refine Ev.iload_n fX8_copies_17 rfl ?_
      refine Ev.iload fX8_copies_18 rfl ?_
      refine Ev.iadd fX8_copies_20 ?_
      refine Ev.ld 25 1968 (v := (ia 25 (sp + k))) fX8_copies_21 rfl rfl ⟨by omega, by omega⟩ (zcp_out (by omega)) ?_
      refine Ev.stI 27 1968 fX8_copies_22 rfl rfl ⟨by omega, by omega⟩ ?_
      refine Ev.siinc [(1, 25), (0, sp), (1, 27), (0, dp), (0, (k + 1))] fX8_copies_23 rfl rfl rfl ?_
      refine Ev.goto fX8_copies_26 rfl ?_
      rw [zcp_s hk0]
      exact ih (k + 1) (by omega) (by omega) (by omega)
theorem eX8_copies_25_27 {G : zG} {ia : Nat → Int → Int} {w : (Nat → Int → Int) × (Nat → Int → Int)} {sp dp : Int} (hs : 0 ≤ sp ∧ sp + 1968 ≤ 1968) (hd : 0 ≤ dp ∧ dp + 1968 ≤ 1968) : Ev G mX8_copies 0 [(1, 25), (0, sp), (1, 27), (0, dp), (9, 0)] [] (zH ia w) (.inl none, zH (zcp ia 25 sp 27 dp 1968) w, 0, 0) := by
  refine Ev.iconst fX8_copies_0 ?_
  refine Ev.sistore [(1, 25), (0, sp), (1, 27), (0, dp), (0, 0)] fX8_copies_1 rfl rfl ?_
  have h := eX8_copies_25_27_L (G := G) (ia := ia) (w := w) hs hd 4000 0 (by omega) (by omega) (by omega)
  rw [zcp_0] at h
  exact h
theorem eX8_copies_27_25_L {G : zG} {ia : Nat → Int → Int} {w : (Nat → Int → Int) × (Nat → Int → Int)} {sp dp : Int} (hs : 0 ≤ sp ∧ sp + 1968 ≤ 1968) (hd : 0 ≤ dp ∧ dp + 1968 ≤ 1968) : ∀ (n : Nat) (k : Int), (1968 - k < n) → (0 ≤ k) → (k ≤ 1968) → Ev G mX8_copies 3 [(1, 27), (0, sp), (1, 25), (0, dp), (0, k)] [] (zH (zcp ia 27 sp 25 dp k) w) (.inl none, zH (zcp ia 27 sp 25 dp 1968) w, 0, 0) := by
  intro n
  induction n with
  | zero =>
    intro k hN hk0 hk1
    exact absurd hN (by omega)
  | succ n ih =>
    intro k hN hk0 hk1
    refine Ev.iload fX8_copies_3 rfl ?_
    refine Ev.sipush fX8_copies_5 rfl ?_
    refine Ev.icmp_ge fX8_copies_8 rfl ⟨by omega, by omega⟩ (by decide) (fun h8 => ?_) (fun h8 => ?_)
    · rw [show k = 1968 by omega]
      exact Ev.zV fX8_copies_29 rfl
    · refine Ev.aload_n_1 fX8_copies_11 rfl ?_
      refine Ev.iload_n fX8_copies_12 rfl ?_
      refine Ev.iload fX8_copies_13 rfl ?_
      refine Ev.iadd fX8_copies_15 ?_
      refine Ev.aload_n_1 fX8_copies_16 rfl ?_
      refine Ev.iload_n fX8_copies_17 rfl ?_
      refine Ev.iload fX8_copies_18 rfl ?_
      refine Ev.iadd fX8_copies_20 ?_
      refine Ev.ld 27 1968 (v := (ia 27 (sp + k))) fX8_copies_21 rfl rfl ⟨by omega, by omega⟩ (zcp_out (by omega)) ?_
      refine Ev.stI 25 1968 fX8_copies_22 rfl rfl ⟨by omega, by omega⟩ ?_
      refine Ev.siinc [(1, 27), (0, sp), (1, 25), (0, dp), (0, (k + 1))] fX8_copies_23 rfl rfl rfl ?_
      refine Ev.goto fX8_copies_26 rfl ?_
      rw [zcp_s hk0]
      exact ih (k + 1) (by omega) (by omega) (by omega)
theorem eX8_copies_27_25 {G : zG} {ia : Nat → Int → Int} {w : (Nat → Int → Int) × (Nat → Int → Int)} {sp dp : Int} (hs : 0 ≤ sp ∧ sp + 1968 ≤ 1968) (hd : 0 ≤ dp ∧ dp + 1968 ≤ 1968) : Ev G mX8_copies 0 [(1, 27), (0, sp), (1, 25), (0, dp), (9, 0)] [] (zH ia w) (.inl none, zH (zcp ia 27 sp 25 dp 1968) w, 0, 0) := by
  refine Ev.iconst fX8_copies_0 ?_
  refine Ev.sistore [(1, 27), (0, sp), (1, 25), (0, dp), (0, 0)] fX8_copies_1 rfl rfl ?_
  have h := eX8_copies_27_25_L (G := G) (ia := ia) (w := w) hs hd 4000 0 (by omega) (by omega) (by omega)
  rw [zcp_0] at h
  exact h
theorem eX8_copies_28_26_L {G : zG} {ia : Nat → Int → Int} {w : (Nat → Int → Int) × (Nat → Int → Int)} {sp dp : Int} (hs : 0 ≤ sp ∧ sp + 1968 ≤ 1968) (hd : 0 ≤ dp ∧ dp + 1968 ≤ 15744) : ∀ (n : Nat) (k : Int), (1968 - k < n) → (0 ≤ k) → (k ≤ 1968) → Ev G mX8_copies 3 [(1, 28), (0, sp), (1, 26), (0, dp), (0, k)] [] (zH (zcp ia 28 sp 26 dp k) w) (.inl none, zH (zcp ia 28 sp 26 dp 1968) w, 0, 0) := by
  intro n
  induction n with
  | zero =>
    intro k hN hk0 hk1
    exact absurd hN (by omega)
  | succ n ih =>
    intro k hN hk0 hk1
    refine Ev.iload fX8_copies_3 rfl ?_
    refine Ev.sipush fX8_copies_5 rfl ?_
    refine Ev.icmp_ge fX8_copies_8 rfl ⟨by omega, by omega⟩ (by decide) (fun h8 => ?_) (fun h8 => ?_)
    · rw [show k = 1968 by omega]
      exact Ev.zV fX8_copies_29 rfl
    · refine Ev.aload_n_1 fX8_copies_11 rfl ?_
      refine Ev.iload_n fX8_copies_12 rfl ?_
      refine Ev.iload fX8_copies_13 rfl ?_
      refine Ev.iadd fX8_copies_15 ?_
      refine Ev.aload_n_1 fX8_copies_16 rfl ?_
      refine Ev.iload_n fX8_copies_17 rfl ?_
      refine Ev.iload fX8_copies_18 rfl ?_
      refine Ev.iadd fX8_copies_20 ?_
      refine Ev.ld 28 1968 (v := (ia 28 (sp + k))) fX8_copies_21 rfl rfl ⟨by omega, by omega⟩ (zcp_out (by omega)) ?_
      refine Ev.stI 26 15744 fX8_copies_22 rfl rfl ⟨by omega, by omega⟩ ?_
      refine Ev.siinc [(1, 28), (0, sp), (1, 26), (0, dp), (0, (k + 1))] fX8_copies_23 rfl rfl rfl ?_
      refine Ev.goto fX8_copies_26 rfl ?_
      rw [zcp_s hk0]
      exact ih (k + 1) (by omega) (by omega) (by omega)
theorem eX8_copies_28_26 {G : zG} {ia : Nat → Int → Int} {w : (Nat → Int → Int) × (Nat → Int → Int)} {sp dp : Int} (hs : 0 ≤ sp ∧ sp + 1968 ≤ 1968) (hd : 0 ≤ dp ∧ dp + 1968 ≤ 15744) : Ev G mX8_copies 0 [(1, 28), (0, sp), (1, 26), (0, dp), (9, 0)] [] (zH ia w) (.inl none, zH (zcp ia 28 sp 26 dp 1968) w, 0, 0) := by
  refine Ev.iconst fX8_copies_0 ?_
  refine Ev.sistore [(1, 28), (0, sp), (1, 26), (0, dp), (0, 0)] fX8_copies_1 rfl rfl ?_
  have h := eX8_copies_28_26_L (G := G) (ia := ia) (w := w) hs hd 4000 0 (by omega) (by omega) (by omega)
  rw [zcp_0] at h
  exact h
theorem eX8_undo_c1 {G : zG} {ia : Nat → Int → Int} {w : (Nat → Int → Int) × (Nat → Int → Int)}  (hx : ia 24 5 = 0) : Ev G mX8_undo 0 [(1, 24)] [] (zH ia w) (.inl (some (0, 0)), zH (zu ia 24 8 1) w, 0, 0) := by
  refine Ev.aload_n_1 fX8_undo_0 rfl ?_
  refine Ev.aload_n_1 fX8_undo_1 rfl ?_
  refine Ev.gI 24 5 (v := (ia 24 5)) fX8_undo_2 (flX8_61 rfl) rfl rfl rfl ?_
  refine Ev.if_ne fX8_undo_5 rfl ⟨by omega, by omega⟩ (fun h5 => by exfalso; omega) (fun h5 => ?_)
  refine Ev.iconst fX8_undo_8 ?_
  refine Ev.goto fX8_undo_9 rfl ?_
  refine Ev.cVi 24 [(0, 1)] [] fX8_undo_13 lkX8_undo_117 8 TX8 22 rfl rfl rfl eX8_fails_1 ?_
  refine Ev.if_eq fX8_undo_16 rfl (by decide) (fun h16 => by exfalso; revert h16; decide) (fun h16 => ?_)
  refine Ev.iconst fX8_undo_19 ?_
  exact Ev.zI fX8_undo_20 rfl rfl
theorem eX8_undo_0 {G : zG} {ia : Nat → Int → Int} {w : (Nat → Int → Int) × (Nat → Int → Int)}  (hx : 1 ≤ ia 24 5 ∧ ia 24 5 ≤ 8) : Ev G mX8_undo 0 [(1, 24)] [] (zH ia w) (.inl (some (0, (ia 24 5 - 1))), zH (zcp (zu (zu ia 24 8 0) 24 5 (ia 24 5 - 1)) 26 (1968 * (ia 24 5 - 1)) 25 0 1968) w, 0, 0) := by
  refine Ev.aload_n_1 fX8_undo_0 rfl ?_
  refine Ev.aload_n_1 fX8_undo_1 rfl ?_
  refine Ev.gI 24 5 (v := (ia 24 5)) fX8_undo_2 (flX8_61 rfl) rfl rfl rfl ?_
  refine Ev.if_ne fX8_undo_5 rfl ⟨by omega, by omega⟩ (fun h5 => ?_) (fun h5 => by exfalso; omega)
  refine Ev.iconst fX8_undo_12 ?_
  refine Ev.cVi 24 [(0, 0)] [] fX8_undo_13 lkX8_undo_117 8 TX8 22 rfl rfl rfl eX8_fails_0 ?_
  refine Ev.if_eq fX8_undo_16 rfl (by decide) (fun h16 => ?_) (fun h16 => by exfalso; revert h16; decide)
  refine Ev.aload_n_1 fX8_undo_21 rfl ?_
  refine Ev.dup fX8_undo_22 rfl ?_
  refine Ev.gI 24 5 (v := (ia 24 5)) fX8_undo_23 (flX8_61 rfl) rfl rfl rfl ?_
  refine Ev.iconst fX8_undo_26 ?_
  refine Ev.isub fX8_undo_27 ?_
  refine Ev.pI 24 5 fX8_undo_28 (flX8_61 rfl) rfl rfl trivial ?_
  refine Ev.aload_n_1 fX8_undo_31 rfl ?_
  refine Ev.gR 24 1 26 fX8_undo_32 (flX8_13 rfl) rfl rfl rfl ?_
  refine Ev.sipush fX8_undo_35 rfl ?_
  refine Ev.aload_n_1 fX8_undo_38 rfl ?_
  refine Ev.gI 24 5 (v := (ia 24 5 - 1)) fX8_undo_39 (flX8_61 rfl) rfl rfl rfl ?_
  refine Ev.imul fX8_undo_42 ?_
  refine Ev.aload_n_1 fX8_undo_43 rfl ?_
  refine Ev.gR 24 0 25 fX8_undo_44 (flX8_7 rfl) rfl rfl rfl ?_
  refine Ev.iconst fX8_undo_47 ?_
  refine Ev.cSv [(1, 26), (0, (1968 * (ia 24 5 - 1))), (1, 25), (0, 0)] [] fX8_undo_48 lkX8_undo_64 rfl (eX8_copies_26_25 ⟨by omega, by omega⟩ ⟨by omega, by omega⟩) ?_
  refine Ev.aload_n_1 fX8_undo_51 rfl ?_
  refine Ev.gI 24 5 (v := (ia 24 5 - 1)) fX8_undo_52 (flX8_61 rfl) rfl rfl rfl ?_
  exact Ev.zI fX8_undo_55 rfl rfl
theorem eX8_save {G : zG} {ia : Nat → Int → Int} {w : (Nat → Int → Int) × (Nat → Int → Int)}   : Ev G mX8_save 0 [(1, 24)] [] (zH ia w) (.inl (some (0, (ia 25 0))), zH (zcp (zu (zu ia 24 8 0) 24 4 1) 25 0 27 0 1968) w, 0, 0) := by
  refine Ev.aload_n_1 fX8_save_0 rfl ?_
  refine Ev.iconst fX8_save_1 ?_
  refine Ev.pI 24 8 fX8_save_2 (flX8_42 rfl) rfl rfl trivial ?_
  refine Ev.aload_n_1 fX8_save_5 rfl ?_
  refine Ev.iconst fX8_save_6 ?_
  refine Ev.pI 24 4 fX8_save_7 (flX8_216 rfl) rfl rfl (by first | exact Or.inl rfl | exact Or.inr rfl) ?_
  refine Ev.aload_n_1 fX8_save_10 rfl ?_
  refine Ev.gR 24 0 25 fX8_save_11 (flX8_7 rfl) rfl rfl rfl ?_
  refine Ev.iconst fX8_save_14 ?_
  refine Ev.aload_n_1 fX8_save_15 rfl ?_
  refine Ev.gR 24 2 27 fX8_save_16 (flX8_16 rfl) rfl rfl rfl ?_
  refine Ev.iconst fX8_save_19 ?_
  refine Ev.cSv [(1, 25), (0, 0), (1, 27), (0, 0)] [] fX8_save_20 lkX8_save_64 rfl (eX8_copies_25_27 ⟨by omega, by omega⟩ ⟨by omega, by omega⟩) ?_
  refine Ev.aload_n_1 fX8_save_23 rfl ?_
  refine Ev.gR 24 0 25 fX8_save_24 (flX8_7 rfl) rfl rfl rfl ?_
  refine Ev.iconst fX8_save_27 ?_
  refine Ev.ld 25 1968 (v := (ia 25 0)) fX8_save_28 rfl rfl (by decide) rfl ?_
  exact Ev.zI fX8_save_29 rfl rfl
theorem eX8_restore_c1 {G : zG} {ia : Nat → Int → Int} {w : (Nat → Int → Int) × (Nat → Int → Int)}  (hx : ia 24 4 = 0) : Ev G mX8_restore 0 [(1, 24)] [] (zH ia w) (.inl (some (0, 0)), zH (zu ia 24 8 1) w, 0, 0) := by
  refine Ev.aload_n_1 fX8_restore_0 rfl ?_
  refine Ev.aload_n_1 fX8_restore_1 rfl ?_
  refine Ev.gI 24 4 (v := (ia 24 4)) fX8_restore_2 (flX8_216 rfl) rfl rfl rfl ?_
  refine Ev.if_eq fX8_restore_5 rfl ⟨by omega, by omega⟩ (fun h5 => ?_) (fun h5 => by exfalso; omega)
  refine Ev.iconst fX8_restore_12 ?_
  refine Ev.cVi 24 [(0, 1)] [] fX8_restore_13 lkX8_restore_117 8 TX8 22 rfl rfl rfl eX8_fails_1 ?_
  refine Ev.if_eq fX8_restore_16 rfl (by decide) (fun h16 => by exfalso; revert h16; decide) (fun h16 => ?_)
  refine Ev.iconst fX8_restore_19 ?_
  exact Ev.zI fX8_restore_20 rfl rfl
theorem eX8_restore_0 {G : zG} {ia : Nat → Int → Int} {w : (Nat → Int → Int) × (Nat → Int → Int)}  (hx : ia 24 4 = 1) : Ev G mX8_restore 0 [(1, 24)] [] (zH ia w) (.inl (some (0, (ia 27 0))), zH (zu (zcp (zu ia 24 8 0) 27 0 25 0 1968) 24 5 0) w, 0, 0) := by
  refine Ev.aload_n_1 fX8_restore_0 rfl ?_
  refine Ev.aload_n_1 fX8_restore_1 rfl ?_
  refine Ev.gI 24 4 (v := (ia 24 4)) fX8_restore_2 (flX8_216 rfl) rfl rfl rfl ?_
  refine Ev.if_eq fX8_restore_5 rfl ⟨by omega, by omega⟩ (fun h5 => by exfalso; omega) (fun h5 => ?_)
  refine Ev.iconst fX8_restore_8 ?_
  refine Ev.goto fX8_restore_9 rfl ?_
  refine Ev.cVi 24 [(0, 0)] [] fX8_restore_13 lkX8_restore_117 8 TX8 22 rfl rfl rfl eX8_fails_0 ?_
  refine Ev.if_eq fX8_restore_16 rfl (by decide) (fun h16 => ?_) (fun h16 => by exfalso; revert h16; decide)
  refine Ev.aload_n_1 fX8_restore_21 rfl ?_
  refine Ev.gR 24 2 27 fX8_restore_22 (flX8_16 rfl) rfl rfl rfl ?_
  refine Ev.iconst fX8_restore_25 ?_
  refine Ev.aload_n_1 fX8_restore_26 rfl ?_
  refine Ev.gR 24 0 25 fX8_restore_27 (flX8_7 rfl) rfl rfl rfl ?_
  refine Ev.iconst fX8_restore_30 ?_
  refine Ev.cSv [(1, 27), (0, 0), (1, 25), (0, 0)] [] fX8_restore_31 lkX8_restore_64 rfl (eX8_copies_27_25 ⟨by omega, by omega⟩ ⟨by omega, by omega⟩) ?_
  refine Ev.aload_n_1 fX8_restore_34 rfl ?_
  refine Ev.iconst fX8_restore_35 ?_
  refine Ev.pI 24 5 fX8_restore_36 (flX8_61 rfl) rfl rfl trivial ?_
  refine Ev.aload_n_1 fX8_restore_39 rfl ?_
  refine Ev.gR 24 0 25 fX8_restore_40 (flX8_7 rfl) rfl rfl rfl ?_
  refine Ev.iconst fX8_restore_43 ?_
  refine Ev.ld 25 1968 (v := (ia 27 0)) fX8_restore_44 rfl rfl (by decide) rfl ?_
  exact Ev.zI fX8_restore_45 rfl rfl
