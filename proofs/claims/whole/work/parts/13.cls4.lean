/-! THE CLASS: BOOKS, PAST, REFUSAL, SCRIPT (printed by wip/whole/gen/cls4.py) -/
theorem eX4_refuse {G : zG} {ia : Nat → Int → Int} {w : (Nat → Int → Int) × (Nat → Int → Int)} {a b : Int}  : Ev G mX4_refuse 0 [(1, 9), (0, a), (0, b)] [] (zH ia w) (.inl (some (0, (-1))), zH (zu (zu (zu ia 9 0 a) 9 1 b) 9 2 0) w, 0, 0) := by
  refine Ev.aload_n_1 fX4_refuse_0 rfl ?_
  refine Ev.iload_n fX4_refuse_1 rfl ?_
  refine Ev.pI 9 0 fX4_refuse_2 (flX4_9 rfl) rfl rfl trivial ?_
  refine Ev.aload_n_1 fX4_refuse_5 rfl ?_
  refine Ev.iload_n fX4_refuse_6 rfl ?_
  refine Ev.pI 9 1 fX4_refuse_7 (flX4_15 rfl) rfl rfl trivial ?_
  refine Ev.aload_n_1 fX4_refuse_10 rfl ?_
  refine Ev.iconst fX4_refuse_11 ?_
  refine Ev.pI 9 2 fX4_refuse_12 (flX4_18 rfl) rfl rfl trivial ?_
  refine Ev.iconst fX4_refuse_15 ?_
  exact Ev.zI fX4_refuse_16 rfl rfl
theorem eX5_size {G : zG} {ia : Nat → Int → Int} {w : (Nat → Int → Int) × (Nat → Int → Int)}   : Ev G mX5_size 0 [(1, 22)] [] (zH ia w) (.inl (some (0, (ia 22 1))), zH ia w, 0, 0) := by
  refine Ev.aload_n_1 fX5_size_0 rfl ?_
  refine Ev.gI 22 1 (v := (ia 22 1)) fX5_size_1 (flX5_15 rfl) rfl rfl rfl ?_
  exact Ev.zI fX5_size_4 rfl rfl
theorem eX5_clear {G : zG} {ia : Nat → Int → Int} {w : (Nat → Int → Int) × (Nat → Int → Int)}   : Ev G mX5_clear 0 [(1, 22)] [] (zH ia w) (.inl none, zH (zu ia 22 1 0) w, 0, 0) := by
  refine Ev.aload_n_1 fX5_clear_0 rfl ?_
  refine Ev.iconst fX5_clear_1 ?_
  refine Ev.pI 22 1 fX5_clear_2 (flX5_15 rfl) rfl rfl trivial ?_
  exact Ev.zV fX5_clear_5 rfl
theorem eX5_signAt {G : zG} {ia : Nat → Int → Int} {w : (Nat → Int → Int) × (Nat → Int → Int)} {i : Int} (hi : 0 ≤ i ∧ i < ia 22 1 ∧ ia 22 1 ≤ 109) (hc : 0 ≤ ia 23 i ∧ ia 23 i ≤ 65535) : Ev G mX5_signAt 0 [(1, 22), (0, i)] [] (zH ia w) (.inl (some (0, (ia 23 i))), zH ia w, 0, 0) := by
  refine Ev.iload_n fX5_signAt_0 rfl ?_
  refine Ev.if_lt fX5_signAt_1 rfl ⟨by omega, by omega⟩ (fun h1 => by exfalso; omega) (fun h1 => ?_)
  refine Ev.iload_n fX5_signAt_4 rfl ?_
  refine Ev.aload_n_1 fX5_signAt_5 rfl ?_
  refine Ev.gI 22 1 (v := (ia 22 1)) fX5_signAt_6 (flX5_15 rfl) rfl rfl rfl ?_
  refine Ev.icmp_ge fX5_signAt_9 rfl ⟨by omega, by omega⟩ ⟨by omega, by omega⟩ (fun h9 => by exfalso; omega) (fun h9 => ?_)
  refine Ev.iload_n fX5_signAt_12 rfl ?_
  refine Ev.bipush fX5_signAt_13 rfl ?_
  refine Ev.icmp_ge fX5_signAt_15 rfl ⟨by omega, by omega⟩ (by decide) (fun h15 => by exfalso; omega) (fun h15 => ?_)
  refine Ev.aload_n_1 fX5_signAt_18 rfl ?_
  refine Ev.gR 22 0 23 fX5_signAt_19 (flX5_9 rfl) rfl rfl rfl ?_
  refine Ev.iload_n fX5_signAt_22 rfl ?_
  refine Ev.cld 23 109 (v := (ia 23 i)) fX5_signAt_23 rfl rfl ⟨by omega, by omega⟩ rfl ?_
  refine Ev.goto fX5_signAt_24 rfl ?_
  exact Ev.zC fX5_signAt_28 rfl ⟨by omega, by omega⟩ rfl
theorem eX5_put {G : zG} {ia : Nat → Int → Int} {w : (Nat → Int → Int) × (Nat → Int → Int)} {c : Int} (hl : 0 ≤ ia 22 1 ∧ ia 22 1 < 109) (hc : 0 ≤ c ∧ c ≤ 65535) : Ev G mX5_put 0 [(1, 22), (0, c)] [] (zH ia w) (.inl none, zH (zu (zu ia 23 (ia 22 1) c) 22 1 ((ia 22 1) + 1)) w, 0, 0) := by
  refine Ev.aload_n_1 fX5_put_0 rfl ?_
  refine Ev.gI 22 1 (v := (ia 22 1)) fX5_put_1 (flX5_15 rfl) rfl rfl rfl ?_
  refine Ev.bipush fX5_put_4 rfl ?_
  refine Ev.icmp_ge fX5_put_6 rfl ⟨by omega, by omega⟩ (by decide) (fun h6 => by exfalso; omega) (fun h6 => ?_)
  refine Ev.aload_n_1 fX5_put_9 rfl ?_
  refine Ev.gR 22 0 23 fX5_put_10 (flX5_9 rfl) rfl rfl rfl ?_
  refine Ev.aload_n_1 fX5_put_13 rfl ?_
  refine Ev.gI 22 1 (v := (ia 22 1)) fX5_put_14 (flX5_15 rfl) rfl rfl rfl ?_
  refine Ev.iload_n fX5_put_17 rfl ?_
  refine Ev.stC 23 109 fX5_put_18 rfl rfl ⟨by omega, by omega⟩ ⟨by omega, by omega⟩ ?_
  refine Ev.aload_n_1 fX5_put_19 rfl ?_
  refine Ev.dup fX5_put_20 rfl ?_
  refine Ev.gI 22 1 (v := (ia 22 1)) fX5_put_21 (flX5_15 rfl) rfl rfl rfl ?_
  refine Ev.iconst fX5_put_24 ?_
  refine Ev.iadd fX5_put_25 ?_
  refine Ev.pI 22 1 fX5_put_26 (flX5_15 rfl) rfl rfl trivial ?_
  exact Ev.zV fX5_put_29 rfl
theorem eX3_size {G : zG} {ia : Nat → Int → Int} {w : (Nat → Int → Int) × (Nat → Int → Int)}   : Ev G mX3_size 0 [(1, 17)] [] (zH ia w) (.inl (some (0, (ia 17 1))), zH ia w, 0, 0) := by
  refine Ev.aload_n_1 fX3_size_0 rfl ?_
  refine Ev.gI 17 1 (v := (ia 17 1)) fX3_size_1 (flX3_17 rfl) rfl rfl rfl ?_
  exact Ev.zI fX3_size_4 rfl rfl
theorem eX3_forget {G : zG} {ia : Nat → Int → Int} {w : (Nat → Int → Int) × (Nat → Int → Int)}   : Ev G mX3_forget 0 [(1, 17)] [] (zH ia w) (.inl none, zH (zu ia 17 1 0) w, 0, 0) := by
  refine Ev.aload_n_1 fX3_forget_0 rfl ?_
  refine Ev.iconst fX3_forget_1 ?_
  refine Ev.pI 17 1 fX3_forget_2 (flX3_17 rfl) rfl rfl trivial ?_
  exact Ev.zV fX3_forget_5 rfl
theorem eX3_dropLatest {G : zG} {ia : Nat → Int → Int} {w : (Nat → Int → Int) × (Nat → Int → Int)}  (hk : 1 ≤ ia 17 1 ∧ ia 17 1 ≤ 8) : Ev G mX3_dropLatest 0 [(1, 17)] [] (zH ia w) (.inl none, zH (zu ia 17 1 ((ia 17 1) - 1)) w, 0, 0) := by
  refine Ev.aload_n_1 fX3_dropLatest_0 rfl ?_
  refine Ev.gI 17 1 (v := (ia 17 1)) fX3_dropLatest_1 (flX3_17 rfl) rfl rfl rfl ?_
  refine Ev.if_le fX3_dropLatest_4 rfl ⟨by omega, by omega⟩ (fun h4 => by exfalso; omega) (fun h4 => ?_)
  refine Ev.aload_n_1 fX3_dropLatest_7 rfl ?_
  refine Ev.dup fX3_dropLatest_8 rfl ?_
  refine Ev.gI 17 1 (v := (ia 17 1)) fX3_dropLatest_9 (flX3_17 rfl) rfl rfl rfl ?_
  refine Ev.iconst fX3_dropLatest_12 ?_
  refine Ev.isub fX3_dropLatest_13 ?_
  refine Ev.pI 17 1 fX3_dropLatest_14 (flX3_17 rfl) rfl rfl trivial ?_
  exact Ev.zV fX3_dropLatest_17 rfl
theorem eX3_keep_lt {G : zG} {ia : Nat → Int → Int} {w : (Nat → Int → Int) × (Nat → Int → Int)}  (hk : 0 ≤ ia 17 1 ∧ ia 17 1 < 8) : Ev G mX3_keep 0 [(1, 17)] [] (zH ia w) (.inl none, zH (zu ia 17 1 ((ia 17 1) + 1)) w, 0, 0) := by
  refine Ev.aload_n_1 fX3_keep_0 rfl ?_
  refine Ev.gI 17 1 (v := (ia 17 1)) fX3_keep_1 (flX3_17 rfl) rfl rfl rfl ?_
  refine Ev.bipush fX3_keep_4 rfl ?_
  refine Ev.icmp_ge fX3_keep_6 rfl ⟨by omega, by omega⟩ (by decide) (fun h6 => by exfalso; omega) (fun h6 => ?_)
  refine Ev.aload_n_1 fX3_keep_9 rfl ?_
  refine Ev.dup fX3_keep_10 rfl ?_
  refine Ev.gI 17 1 (v := (ia 17 1)) fX3_keep_11 (flX3_17 rfl) rfl rfl rfl ?_
  refine Ev.iconst fX3_keep_14 ?_
  refine Ev.iadd fX3_keep_15 ?_
  refine Ev.pI 17 1 fX3_keep_16 (flX3_17 rfl) rfl rfl trivial ?_
  refine Ev.goto fX3_keep_19 rfl ?_
  exact Ev.zV fX3_keep_38 rfl
theorem eX3_keep_ge {G : zG} {ia : Nat → Int → Int} {w : (Nat → Int → Int) × (Nat → Int → Int)}  (hk : ia 17 1 = 8) : Ev G mX3_keep 0 [(1, 17)] [] (zH ia w) (.inl none, zH (zcp ia 18 8 18 0 64) w, 0, 0) := by
  refine Ev.aload_n_1 fX3_keep_0 rfl ?_
  refine Ev.gI 17 1 (v := (ia 17 1)) fX3_keep_1 (flX3_17 rfl) rfl rfl rfl ?_
  refine Ev.bipush fX3_keep_4 rfl ?_
  refine Ev.icmp_ge fX3_keep_6 rfl ⟨by omega, by omega⟩ (by decide) (fun h6 => ?_) (fun h6 => by exfalso; omega)
  refine Ev.aload_n_1 fX3_keep_22 rfl ?_
  refine Ev.gR 17 0 18 fX3_keep_23 (flX3_11 rfl) rfl rfl rfl ?_
  refine Ev.bipush fX3_keep_26 rfl ?_
  refine Ev.aload_n_1 fX3_keep_28 rfl ?_
  refine Ev.gR 17 0 18 fX3_keep_29 (flX3_11 rfl) rfl rfl rfl ?_
  refine Ev.iconst fX3_keep_32 ?_
  refine Ev.bipush fX3_keep_33 rfl ?_
  refine Ev.cp 18 18 72 72 fX3_keep_35 (zlX3_28 rfl) zt_copy rfl rfl rfl rfl (by refine ⟨?_, ?_, ?_, ?_, ?_⟩ <;> omega) rfl rfl ?_
  exact Ev.zV fX3_keep_38 rfl
theorem eX0_ledgerOf {G : zG} {ia : Nat → Int → Int} {w : (Nat → Int → Int) × (Nat → Int → Int)} {h r : Int} (hh : 0 ≤ h ∧ h < 4) (hr : ia 8 h = r) : Ev G mX0_ledgerOf 0 [(1, 2), (0, h)] [] (zH ia w) (.inl (some (0, r)), zH ia w, 0, 0) := by
  refine Ev.iload_n fX0_ledgerOf_0 rfl ?_
  refine Ev.cSNi [(0, h)] [] fX0_ledgerOf_1 lkX0_ledgerOf_50 rfl (eX7_isHouse_t ⟨by omega, by omega⟩) ?_
  refine Ev.if_eq fX0_ledgerOf_4 rfl (by decide) (fun h4 => by exfalso; revert h4; decide) (fun h4 => ?_)
  refine Ev.aload_n_1 fX0_ledgerOf_7 rfl ?_
  refine Ev.gR 2 1 8 fX0_ledgerOf_8 (flX0_18 rfl) rfl rfl rfl ?_
  refine Ev.iload_n fX0_ledgerOf_11 rfl ?_
  refine Ev.ld 8 4 (v := r) fX0_ledgerOf_12 rfl rfl ⟨by omega, by omega⟩ hr ?_
  refine Ev.goto fX0_ledgerOf_13 rfl ?_
  exact Ev.zI fX0_ledgerOf_17 rfl rfl
theorem eX0_giveLedger {G : zG} {ia : Nat → Int → Int} {w : (Nat → Int → Int) × (Nat → Int → Int)} {h v : Int} (I : zCI ia) (hh : 0 ≤ h ∧ h < 4) (hv : 0 ≤ v ∧ v < ia 3 0) : Ev G mX0_giveLedger 0 [(1, 2), (0, h), (0, v)] [] (zH ia w) (.inl none, zH (zu ia 8 h v) w, 0, 0) := by
  have hn := I.1
  refine Ev.iload_n fX0_giveLedger_0 rfl ?_
  refine Ev.cSNi [(0, h)] [] fX0_giveLedger_1 lkX0_giveLedger_50 rfl (eX7_isHouse_t ⟨by omega, by omega⟩) ?_
  refine Ev.if_eq fX0_giveLedger_4 rfl (by decide) (fun h4 => by exfalso; revert h4; decide) (fun h4 => ?_)
  refine Ev.aload_n_1 fX0_giveLedger_7 rfl ?_
  refine Ev.gR 2 0 3 fX0_giveLedger_8 (flX0_12 rfl) rfl rfl rfl ?_
  refine Ev.iload_n fX0_giveLedger_11 rfl ?_
  refine Ev.cVi 3 [(0, v)] [] fX0_giveLedger_12 lkX0_giveLedger_54 6 TX6 5 rfl rfl rfl (eX6_has_t I ⟨by omega, by omega⟩) ?_
  refine Ev.if_eq fX0_giveLedger_15 rfl (by decide) (fun h15 => by exfalso; revert h15; decide) (fun h15 => ?_)
  refine Ev.aload_n_1 fX0_giveLedger_18 rfl ?_
  refine Ev.gR 2 1 8 fX0_giveLedger_19 (flX0_18 rfl) rfl rfl rfl ?_
  refine Ev.iload_n fX0_giveLedger_22 rfl ?_
  refine Ev.iload_n fX0_giveLedger_23 rfl ?_
  refine Ev.stI 8 4 fX0_giveLedger_24 rfl rfl ⟨by omega, by omega⟩ ?_
  exact Ev.zV fX0_giveLedger_25 rfl
theorem eX0_housesWith_L {G : zG} {ia : Nat → Int → Int} {w : (Nat → Int → Int) × (Nat → Int → Int)} {v : Int} (I : zCI ia) (hv : -2147483648 ≤ v ∧ v ≤ 2147483647) : ∀ (n : Nat) (k acc : Int), (4 - k < n) → (0 ≤ k) → (k ≤ 4) → (acc = zsum (fun h => if ia 8 h = v then 1 else 0) k) → Ev G mX0_housesWith 4 [(1, 2), (0, v), (0, acc), (0, k)] [] (zH ia w) (.inl (some (0, (zsum (fun h => if ia 8 h = v then 1 else 0) (4)))), zH ia w, 0, 0) := by
  intro n
  induction n with
  | zero =>
    intro k acc hN hk0 hk1 hacc
    exact absurd hN (by omega)
  | succ n ih =>
    intro k acc hN hk0 hk1 hacc
    have hn := I.1
    refine Ev.iload_n fX0_housesWith_4 rfl ?_
    refine Ev.iconst fX0_housesWith_5 ?_
    refine Ev.icmp_ge fX0_housesWith_6 rfl ⟨by omega, by omega⟩ (by decide) (fun h6 => ?_) (fun h6 => ?_)
    · refine Ev.iload_n fX0_housesWith_27 rfl ?_
      exact Ev.zI fX0_housesWith_28 rfl (by rw [hacc, show k = 4 by omega])
    · refine Ev.aload_n_1 fX0_housesWith_9 rfl ?_
      refine Ev.iload_n fX0_housesWith_10 rfl ?_
      refine Ev.cVi 2 [(0, k)] [] fX0_housesWith_11 lkX0_housesWith_57 0 TX0 5 rfl rfl rfl (eX0_ledgerOf ⟨by omega, by omega⟩ rfl) ?_
      have q1 := I.2.2.2.2.1 k (by omega) (by omega)
      refine Ev.iload_n fX0_housesWith_14 rfl ?_
      refine Ev.icmp_ne fX0_housesWith_15 rfl ⟨by omega, by omega⟩ ⟨by omega, by omega⟩ (fun h15 => ?_) (fun h15 => ?_)
      · refine Ev.siinc [(1, 2), (0, v), (0, acc), (0, (k + 1))] fX0_housesWith_21 rfl rfl rfl ?_
        refine Ev.goto fX0_housesWith_24 rfl ?_
        exact ih (k + 1) acc (by omega) (by omega) (by omega) (by rw [zsum_s (by omega), hacc]; rw [if_neg (by omega)]; omega)
      · refine Ev.siinc [(1, 2), (0, v), (0, (acc + 1)), (0, k)] fX0_housesWith_18 rfl rfl rfl ?_
        refine Ev.siinc [(1, 2), (0, v), (0, (acc + 1)), (0, (k + 1))] fX0_housesWith_21 rfl rfl rfl ?_
        refine Ev.goto fX0_housesWith_24 rfl ?_
        exact ih (k + 1) (acc + 1) (by omega) (by omega) (by omega) (by rw [zsum_s (by omega), hacc]; rw [if_pos (by omega)])
theorem eX0_housesWith {G : zG} {ia : Nat → Int → Int} {w : (Nat → Int → Int) × (Nat → Int → Int)} {v : Int} (I : zCI ia) (hv : -2147483648 ≤ v ∧ v ≤ 2147483647) : Ev G mX0_housesWith 0 [(1, 2), (0, v), (9, 0), (9, 0)] [] (zH ia w) (.inl (some (0, (zsum (fun h => if ia 8 h = v then 1 else 0) (4)))), zH ia w, 0, 0) := by
  have hn := I.1
  refine Ev.iconst fX0_housesWith_0 ?_
  refine Ev.sistore_n [(1, 2), (0, v), (0, 0), (9, 0)] fX0_housesWith_1 rfl rfl ?_
  refine Ev.iconst fX0_housesWith_2 ?_
  refine Ev.sistore_n [(1, 2), (0, v), (0, 0), (0, 0)] fX0_housesWith_3 rfl rfl ?_
  exact eX0_housesWith_L I hv 2000 0 0 (by omega) (by omega) (by omega) rfl
theorem eX0_versionsOfHouses_L {G : zG} {ia : Nat → Int → Int} {w : (Nat → Int → Int) × (Nat → Int → Int)}  (I : zCI ia) : ∀ (n : Nat) (k acc : Int), (ia 3 0 - k < n) → (0 ≤ k) → (k ≤ ia 3 0) → (acc = zsum (fun v => if 0 < zsum (fun h => if ia 8 h = v then 1 else 0) 4 then 1 else 0) k) → Ev G mX0_versionsOfHouses 4 [(1, 2), (0, acc), (0, k)] [] (zH ia w) (.inl (some (0, (zsum (fun v => if 0 < zsum (fun h => if ia 8 h = v then 1 else 0) 4 then 1 else 0) (ia 3 0)))), zH ia w, 0, 0) := by
  intro n
  induction n with
  | zero =>
    intro k acc hN hk0 hk1 hacc
    exact absurd hN (by omega)
  | succ n ih =>
    intro k acc hN hk0 hk1 hacc
    have hn := I.1
    refine Ev.iload_n fX0_versionsOfHouses_4 rfl ?_
    refine Ev.aload_n_1 fX0_versionsOfHouses_5 rfl ?_
    refine Ev.gR 2 0 3 fX0_versionsOfHouses_6 (flX0_12 rfl) rfl rfl rfl ?_
    refine Ev.cVi 3 [] [(0, k)] fX0_versionsOfHouses_9 lkX0_versionsOfHouses_42 6 TX6 5 rfl rfl rfl eX6_size ?_
    refine Ev.icmp_ge fX0_versionsOfHouses_12 rfl ⟨by omega, by omega⟩ ⟨by omega, by omega⟩ (fun h12 => ?_) (fun h12 => ?_)
    · refine Ev.iload_n fX0_versionsOfHouses_32 rfl ?_
      exact Ev.zI fX0_versionsOfHouses_33 rfl (by rw [hacc, show k = ia 3 0 by omega])
    · have hzb := zsum_le (f := (fun h => if ia 8 h = k then (1 : Int) else 0)) (m := 0) (M := 1) (k := 4) (by omega) (fun j _ _ => by (try dsimp only); split <;> omega)
      refine Ev.aload_n_1 fX0_versionsOfHouses_15 rfl ?_
      refine Ev.iload_n fX0_versionsOfHouses_16 rfl ?_
      refine Ev.cVi 2 [(0, k)] [] fX0_versionsOfHouses_17 lkX0_versionsOfHouses_61 0 TX0 5 rfl rfl rfl (eX0_housesWith I ⟨by omega, by omega⟩) ?_
      refine Ev.if_le fX0_versionsOfHouses_20 rfl ⟨by omega, by omega⟩ (fun h20 => ?_) (fun h20 => ?_)
      · refine Ev.siinc [(1, 2), (0, acc), (0, (k + 1))] fX0_versionsOfHouses_26 rfl rfl rfl ?_
        refine Ev.goto fX0_versionsOfHouses_29 rfl ?_
        exact ih (k + 1) acc (by omega) (by omega) (by omega) (by rw [zsum_s (by omega), hacc]; rw [if_neg (by omega)]; omega)
      · refine Ev.siinc [(1, 2), (0, (acc + 1)), (0, k)] fX0_versionsOfHouses_23 rfl rfl rfl ?_
        refine Ev.siinc [(1, 2), (0, (acc + 1)), (0, (k + 1))] fX0_versionsOfHouses_26 rfl rfl rfl ?_
        refine Ev.goto fX0_versionsOfHouses_29 rfl ?_
        exact ih (k + 1) (acc + 1) (by omega) (by omega) (by omega) (by rw [zsum_s (by omega), hacc]; rw [if_pos (by omega)])
theorem eX0_versionsOfHouses {G : zG} {ia : Nat → Int → Int} {w : (Nat → Int → Int) × (Nat → Int → Int)}  (I : zCI ia) : Ev G mX0_versionsOfHouses 0 [(1, 2), (9, 0), (9, 0)] [] (zH ia w) (.inl (some (0, (zsum (fun v => if 0 < zsum (fun h => if ia 8 h = v then 1 else 0) 4 then 1 else 0) (ia 3 0)))), zH ia w, 0, 0) := by
  have hn := I.1
  refine Ev.iconst fX0_versionsOfHouses_0 ?_
  refine Ev.sistore_n [(1, 2), (0, 0), (9, 0)] fX0_versionsOfHouses_1 rfl rfl ?_
  refine Ev.iconst fX0_versionsOfHouses_2 ?_
  refine Ev.sistore_n [(1, 2), (0, 0), (0, 0)] fX0_versionsOfHouses_3 rfl rfl ?_
  exact eX0_versionsOfHouses_L I 2000 0 0 (by omega) (by omega) (by omega) rfl
theorem zu_id {ia : Nat → Int → Int} {c : Nat} {i : Int} : zu ia c i (ia c i) = ia := by
  funext c' i'
  unfold zu
  by_cases h : c' = c ∧ i' = i
  · rw [if_pos h, h.1, h.2]
  · rw [if_neg h]
theorem eX6_forgetFrom {G : zG} {ia : Nat → Int → Int} {w : (Nat → Int → Int) × (Nat → Int → Int)} {v : Int} (hn : 1 ≤ ia 3 0 ∧ ia 3 0 ≤ 40) (hv : 1 ≤ v ∧ v ≤ ia 3 0) : Ev G mX6_forgetFrom 0 [(1, 3), (0, v)] [] (zH ia w) (.inl none, zH (zu ia 3 0 v) w, 0, 0) := by
  refine Ev.iload_n fX6_forgetFrom_0 rfl ?_
  refine Ev.iconst fX6_forgetFrom_1 ?_
  refine Ev.icmp_lt fX6_forgetFrom_2 rfl ⟨by omega, by omega⟩ (by decide) (fun h2 => by exfalso; omega) (fun h2 => ?_)
  refine Ev.iload_n fX6_forgetFrom_5 rfl ?_
  refine Ev.aload_n_1 fX6_forgetFrom_6 rfl ?_
  refine Ev.gI 3 0 (v := (ia 3 0)) fX6_forgetFrom_7 (flX6_9 rfl) rfl rfl rfl ?_
  refine Ev.icmp_ge fX6_forgetFrom_10 rfl ⟨by omega, by omega⟩ ⟨by omega, by omega⟩ (fun h10 => ?_) (fun h10 => ?_)
  · have e : v = ia 3 0 := by omega
    subst e
    rw [zu_id]
    exact Ev.zV fX6_forgetFrom_18 rfl
  · refine Ev.aload_n_1 fX6_forgetFrom_13 rfl ?_
    refine Ev.iload_n fX6_forgetFrom_14 rfl ?_
    refine Ev.pI 3 0 fX6_forgetFrom_15 (flX6_9 rfl) rfl rfl trivial ?_
    exact Ev.zV fX6_forgetFrom_18 rfl
theorem eX0_noteIn {G : zG} {ia : Nat → Int → Int} {w : (Nat → Int → Int) × (Nat → Int → Int)} {at9 : Int} (ha : 0 ≤ at9 ∧ at9 ≤ 64) : Ev G mX0_noteIn 0 [(1, 2), (1, 18), (0, at9)] [] (zH ia w) (.inl none, zH (zcp (zu (zu (zu (zu ia 18 at9 (ia 3 0)) 18 (at9 + 1) (ia 2 2)) 18 (at9 + 2) (ia 2 3)) 18 (at9 + 3) (ia 2 4)) 8 0 18 (at9 + 4) 4) w, 0, 0) := by
  refine Ev.iload_n fX0_noteIn_0 rfl ?_
  refine Ev.if_lt fX0_noteIn_1 rfl ⟨by omega, by omega⟩ (fun h1 => by exfalso; omega) (fun h1 => ?_)
  refine Ev.iload_n fX0_noteIn_4 rfl ?_
  refine Ev.aload_n_1 fX0_noteIn_5 rfl ?_
  refine Ev.al 18 72 fX0_noteIn_6 rfl ?_
  refine Ev.bipush fX0_noteIn_7 rfl ?_
  refine Ev.isub fX0_noteIn_9 ?_
  refine Ev.icmp_gt fX0_noteIn_10 rfl ⟨by omega, by omega⟩ ⟨by omega, by omega⟩ (fun h10 => by exfalso; omega) (fun h10 => ?_)
  refine Ev.aload_n_1 fX0_noteIn_13 rfl ?_
  refine Ev.iload_n fX0_noteIn_14 rfl ?_
  refine Ev.aload_n_1 fX0_noteIn_15 rfl ?_
  refine Ev.gR 2 0 3 fX0_noteIn_16 (flX0_12 rfl) rfl rfl rfl ?_
  refine Ev.cVi 3 [] [(0, at9), (1, 18)] fX0_noteIn_19 lkX0_noteIn_42 6 TX6 5 rfl rfl rfl eX6_size ?_
  refine Ev.stI 18 72 fX0_noteIn_22 rfl rfl ⟨by omega, by omega⟩ ?_
  refine Ev.aload_n_1 fX0_noteIn_23 rfl ?_
  refine Ev.iload_n fX0_noteIn_24 rfl ?_
  refine Ev.iconst fX0_noteIn_25 ?_
  refine Ev.iadd fX0_noteIn_26 ?_
  refine Ev.aload_n_1 fX0_noteIn_27 rfl ?_
  refine Ev.gI 2 2 (v := (ia 2 2)) fX0_noteIn_28 (flX0_22 rfl) rfl rfl rfl ?_
  refine Ev.stI 18 72 fX0_noteIn_31 rfl rfl ⟨by omega, by omega⟩ ?_
  refine Ev.aload_n_1 fX0_noteIn_32 rfl ?_
  refine Ev.iload_n fX0_noteIn_33 rfl ?_
  refine Ev.iconst fX0_noteIn_34 ?_
  refine Ev.iadd fX0_noteIn_35 ?_
  refine Ev.aload_n_1 fX0_noteIn_36 rfl ?_
  refine Ev.gI 2 3 (v := (ia 2 3)) fX0_noteIn_37 (flX0_26 rfl) rfl rfl rfl ?_
  refine Ev.stI 18 72 fX0_noteIn_40 rfl rfl ⟨by omega, by omega⟩ ?_
  refine Ev.aload_n_1 fX0_noteIn_41 rfl ?_
  refine Ev.iload_n fX0_noteIn_42 rfl ?_
  refine Ev.iconst fX0_noteIn_43 ?_
  refine Ev.iadd fX0_noteIn_44 ?_
  refine Ev.aload_n_1 fX0_noteIn_45 rfl ?_
  refine Ev.gI 2 4 (v := (ia 2 4)) fX0_noteIn_46 (flX0_29 rfl) rfl rfl rfl ?_
  refine Ev.stI 18 72 fX0_noteIn_49 rfl rfl ⟨by omega, by omega⟩ ?_
  refine Ev.aload_n_1 fX0_noteIn_50 rfl ?_
  refine Ev.gR 2 1 8 fX0_noteIn_51 (flX0_18 rfl) rfl rfl rfl ?_
  refine Ev.iconst fX0_noteIn_54 ?_
  refine Ev.aload_n_1 fX0_noteIn_55 rfl ?_
  refine Ev.iload_n fX0_noteIn_56 rfl ?_
  refine Ev.iconst fX0_noteIn_57 ?_
  refine Ev.iadd fX0_noteIn_58 ?_
  refine Ev.iconst fX0_noteIn_59 ?_
  refine Ev.cp 8 18 4 72 fX0_noteIn_60 (zlX0_36 rfl) zt_copy rfl rfl rfl rfl (by refine ⟨?_, ?_, ?_, ?_, ?_⟩ <;> omega) rfl rfl ?_
  exact Ev.zV fX0_noteIn_63 rfl
theorem eX0_returnTo {G : zG} {ia : Nat → Int → Int} {w : (Nat → Int → Int) × (Nat → Int → Int)} {at9 : Int} (hn : 1 ≤ ia 3 0 ∧ ia 3 0 ≤ 40) (ha : 0 ≤ at9 ∧ at9 ≤ 64) (hm : 1 ≤ ia 18 at9 ∧ ia 18 at9 ≤ ia 3 0) : Ev G mX0_returnTo 0 [(1, 2), (1, 18), (0, at9)] [] (zH ia w) (.inl none, zH (zcp (zu (zu (zu (zu ia 3 0 (ia 18 at9)) 2 2 (ia 18 (at9 + 1))) 2 3 (ia 18 (at9 + 2))) 2 4 (ia 18 (at9 + 3))) 18 (at9 + 4) 8 0 4) w, 0, 0) := by
  refine Ev.iload_n fX0_returnTo_0 rfl ?_
  refine Ev.if_lt fX0_returnTo_1 rfl ⟨by omega, by omega⟩ (fun h1 => by exfalso; omega) (fun h1 => ?_)
  refine Ev.iload_n fX0_returnTo_4 rfl ?_
  refine Ev.aload_n_1 fX0_returnTo_5 rfl ?_
  refine Ev.al 18 72 fX0_returnTo_6 rfl ?_
  refine Ev.bipush fX0_returnTo_7 rfl ?_
  refine Ev.isub fX0_returnTo_9 ?_
  refine Ev.icmp_gt fX0_returnTo_10 rfl ⟨by omega, by omega⟩ ⟨by omega, by omega⟩ (fun h10 => by exfalso; omega) (fun h10 => ?_)
  refine Ev.aload_n_1 fX0_returnTo_13 rfl ?_
  refine Ev.gR 2 0 3 fX0_returnTo_14 (flX0_12 rfl) rfl rfl rfl ?_
  refine Ev.aload_n_1 fX0_returnTo_17 rfl ?_
  refine Ev.iload_n fX0_returnTo_18 rfl ?_
  refine Ev.ld 18 72 (v := (ia 18 at9)) fX0_returnTo_19 rfl rfl ⟨by omega, by omega⟩ rfl ?_
  refine Ev.cVv 3 [(0, (ia 18 at9))] [] fX0_returnTo_20 lkX0_returnTo_46 6 TX6 5 rfl rfl rfl (eX6_forgetFrom hn ⟨by omega, by omega⟩) ?_
  refine Ev.aload_n_1 fX0_returnTo_23 rfl ?_
  refine Ev.aload_n_1 fX0_returnTo_24 rfl ?_
  refine Ev.iload_n fX0_returnTo_25 rfl ?_
  refine Ev.iconst fX0_returnTo_26 ?_
  refine Ev.iadd fX0_returnTo_27 ?_
  refine Ev.ld 18 72 (v := (ia 18 (at9 + 1))) fX0_returnTo_28 rfl rfl ⟨by omega, by omega⟩ rfl ?_
  refine Ev.pI 2 2 fX0_returnTo_29 (flX0_22 rfl) rfl rfl trivial ?_
  refine Ev.aload_n_1 fX0_returnTo_32 rfl ?_
  refine Ev.aload_n_1 fX0_returnTo_33 rfl ?_
  refine Ev.iload_n fX0_returnTo_34 rfl ?_
  refine Ev.iconst fX0_returnTo_35 ?_
  refine Ev.iadd fX0_returnTo_36 ?_
  refine Ev.ld 18 72 (v := (ia 18 (at9 + 2))) fX0_returnTo_37 rfl rfl ⟨by omega, by omega⟩ rfl ?_
  refine Ev.pI 2 3 fX0_returnTo_38 (flX0_26 rfl) rfl rfl trivial ?_
  refine Ev.aload_n_1 fX0_returnTo_41 rfl ?_
  refine Ev.aload_n_1 fX0_returnTo_42 rfl ?_
  refine Ev.iload_n fX0_returnTo_43 rfl ?_
  refine Ev.iconst fX0_returnTo_44 ?_
  refine Ev.iadd fX0_returnTo_45 ?_
  refine Ev.ld 18 72 (v := (ia 18 (at9 + 3))) fX0_returnTo_46 rfl rfl ⟨by omega, by omega⟩ rfl ?_
  refine Ev.pI 2 4 fX0_returnTo_47 (flX0_29 rfl) rfl rfl trivial ?_
  refine Ev.aload_n_1 fX0_returnTo_50 rfl ?_
  refine Ev.iload_n fX0_returnTo_51 rfl ?_
  refine Ev.iconst fX0_returnTo_52 ?_
  refine Ev.iadd fX0_returnTo_53 ?_
  refine Ev.aload_n_1 fX0_returnTo_54 rfl ?_
  refine Ev.gR 2 1 8 fX0_returnTo_55 (flX0_18 rfl) rfl rfl rfl ?_
  refine Ev.iconst fX0_returnTo_58 ?_
  refine Ev.iconst fX0_returnTo_59 ?_
  refine Ev.cp 18 8 72 4 fX0_returnTo_60 (zlX0_36 rfl) zt_copy rfl rfl rfl rfl (by refine ⟨?_, ?_, ?_, ?_, ?_⟩ <;> omega) rfl rfl ?_
  exact Ev.zV fX0_returnTo_63 rfl
theorem eX3_note {G : zG} {ia : Nat → Int → Int} {w : (Nat → Int → Int) × (Nat → Int → Int)}  (hk : 0 ≤ ia 17 1 ∧ ia 17 1 ≤ 8) : Ev G mX3_note 0 [(1, 17), (1, 2)] [] (zH ia w) (.inl none, zH (zcp (zu (zu (zu (zu ia 18 (ia 17 1 * 8) (ia 3 0)) 18 ((ia 17 1 * 8) + 1) (ia 2 2)) 18 ((ia 17 1 * 8) + 2) (ia 2 3)) 18 ((ia 17 1 * 8) + 3) (ia 2 4)) 8 0 18 ((ia 17 1 * 8) + 4) 4) w, 0, 0) := by
  refine Ev.aload_n_1 fX3_note_0 rfl ?_
  refine Ev.aload_n_1 fX3_note_1 rfl ?_
  refine Ev.gR 17 0 18 fX3_note_2 (flX3_11 rfl) rfl rfl rfl ?_
  refine Ev.aload_n_1 fX3_note_5 rfl ?_
  refine Ev.gI 17 1 (v := (ia 17 1)) fX3_note_6 (flX3_17 rfl) rfl rfl rfl ?_
  refine Ev.bipush fX3_note_9 rfl ?_
  refine Ev.imul fX3_note_11 ?_
  refine Ev.cVv 2 [(1, 18), (0, ((ia 17 1) * 8))] [] fX3_note_12 lkX3_note_21 0 TX0 5 rfl rfl rfl (eX0_noteIn ⟨by omega, by omega⟩) ?_
  exact Ev.zV fX3_note_15 rfl
theorem eX3_takeBack {G : zG} {ia : Nat → Int → Int} {w : (Nat → Int → Int) × (Nat → Int → Int)}  (hk : 0 ≤ ia 17 1 ∧ ia 17 1 ≤ 8) (hn : 1 ≤ ia 3 0 ∧ ia 3 0 ≤ 40) (hm : 1 ≤ ia 18 (ia 17 1 * 8) ∧ ia 18 (ia 17 1 * 8) ≤ ia 3 0) : Ev G mX3_takeBack 0 [(1, 17), (1, 2)] [] (zH ia w) (.inl none, zH (zcp (zu (zu (zu (zu ia 3 0 (ia 18 (ia 17 1 * 8))) 2 2 (ia 18 ((ia 17 1 * 8) + 1))) 2 3 (ia 18 ((ia 17 1 * 8) + 2))) 2 4 (ia 18 ((ia 17 1 * 8) + 3))) 18 ((ia 17 1 * 8) + 4) 8 0 4) w, 0, 0) := by
  refine Ev.aload_n_1 fX3_takeBack_0 rfl ?_
  refine Ev.aload_n_1 fX3_takeBack_1 rfl ?_
  refine Ev.gR 17 0 18 fX3_takeBack_2 (flX3_11 rfl) rfl rfl rfl ?_
  refine Ev.aload_n_1 fX3_takeBack_5 rfl ?_
  refine Ev.gI 17 1 (v := (ia 17 1)) fX3_takeBack_6 (flX3_17 rfl) rfl rfl rfl ?_
  refine Ev.bipush fX3_takeBack_9 rfl ?_
  refine Ev.imul fX3_takeBack_11 ?_
  refine Ev.cVv 2 [(1, 18), (0, ((ia 17 1) * 8))] [] fX3_takeBack_12 lkX3_takeBack_25 0 TX0 5 rfl rfl rfl (eX0_returnTo hn ⟨by omega, by omega⟩ hm) ?_
  exact Ev.zV fX3_takeBack_15 rfl
theorem eX6_copyFrom_11 {G : zG} {ia : Nat → Int → Int} {w : (Nat → Int → Int) × (Nat → Int → Int)}   : Ev G mX6_copyFrom 0 [(1, 11), (1, 3)] [] (zH ia w) (.inl none, zH (zcp (zcp (zcp (zcp (zu ia 11 0 (ia 3 0)) 4 0 12 0 40) 5 0 13 0 40) 6 0 14 0 1240) 7 0 15 0 1240) w, 0, 0) := by
  refine Ev.aload_n_1 fX6_copyFrom_0 rfl ?_
  refine Ev.aload_n_1 fX6_copyFrom_1 rfl ?_
  refine Ev.gI 3 0 (v := (ia 3 0)) fX6_copyFrom_2 (flX6_9 rfl) rfl rfl rfl ?_
  refine Ev.pI 11 0 fX6_copyFrom_5 (flX6_9 rfl) rfl rfl trivial ?_
  refine Ev.aload_n_1 fX6_copyFrom_8 rfl ?_
  refine Ev.gR 3 1 4 fX6_copyFrom_9 (flX6_15 rfl) rfl rfl rfl ?_
  refine Ev.iconst fX6_copyFrom_12 ?_
  refine Ev.aload_n_1 fX6_copyFrom_13 rfl ?_
  refine Ev.gR 11 1 12 fX6_copyFrom_14 (flX6_15 rfl) rfl rfl rfl ?_
  refine Ev.iconst fX6_copyFrom_17 ?_
  refine Ev.bipush fX6_copyFrom_18 rfl ?_
  refine Ev.cp 4 12 40 40 fX6_copyFrom_20 (zlX6_28 rfl) zt_copy rfl rfl rfl rfl (by refine ⟨?_, ?_, ?_, ?_, ?_⟩ <;> omega) rfl rfl ?_
  refine Ev.aload_n_1 fX6_copyFrom_23 rfl ?_
  refine Ev.gR 3 2 5 fX6_copyFrom_24 (flX6_19 rfl) rfl rfl rfl ?_
  refine Ev.iconst fX6_copyFrom_27 ?_
  refine Ev.aload_n_1 fX6_copyFrom_28 rfl ?_
  refine Ev.gR 11 2 13 fX6_copyFrom_29 (flX6_19 rfl) rfl rfl rfl ?_
  refine Ev.iconst fX6_copyFrom_32 ?_
  refine Ev.bipush fX6_copyFrom_33 rfl ?_
  refine Ev.cp 5 13 40 40 fX6_copyFrom_35 (zlX6_28 rfl) zt_copy rfl rfl rfl rfl (by refine ⟨?_, ?_, ?_, ?_, ?_⟩ <;> omega) rfl rfl ?_
  refine Ev.aload_n_1 fX6_copyFrom_38 rfl ?_
  refine Ev.gR 3 3 6 fX6_copyFrom_39 (flX6_22 rfl) rfl rfl rfl ?_
  refine Ev.iconst fX6_copyFrom_42 ?_
  refine Ev.aload_n_1 fX6_copyFrom_43 rfl ?_
  refine Ev.gR 11 3 14 fX6_copyFrom_44 (flX6_22 rfl) rfl rfl rfl ?_
  refine Ev.iconst fX6_copyFrom_47 ?_
  refine Ev.sipush fX6_copyFrom_48 rfl ?_
  refine Ev.cp 6 14 1240 1240 fX6_copyFrom_51 (zlX6_28 rfl) zt_copy rfl rfl rfl rfl (by refine ⟨?_, ?_, ?_, ?_, ?_⟩ <;> omega) rfl rfl ?_
  refine Ev.aload_n_1 fX6_copyFrom_54 rfl ?_
  refine Ev.gR 3 4 7 fX6_copyFrom_55 (flX6_25 rfl) rfl rfl rfl ?_
  refine Ev.iconst fX6_copyFrom_58 ?_
  refine Ev.aload_n_1 fX6_copyFrom_59 rfl ?_
  refine Ev.gR 11 4 15 fX6_copyFrom_60 (flX6_25 rfl) rfl rfl rfl ?_
  refine Ev.iconst fX6_copyFrom_63 ?_
  refine Ev.sipush fX6_copyFrom_64 rfl ?_
  refine Ev.cp 7 15 1240 1240 fX6_copyFrom_67 (zlX6_28 rfl) zt_copy rfl rfl rfl rfl (by refine ⟨?_, ?_, ?_, ?_, ?_⟩ <;> omega) rfl rfl ?_
  exact Ev.zV fX6_copyFrom_70 rfl
theorem eX6_copyFrom_3 {G : zG} {ia : Nat → Int → Int} {w : (Nat → Int → Int) × (Nat → Int → Int)}   : Ev G mX6_copyFrom 0 [(1, 3), (1, 11)] [] (zH ia w) (.inl none, zH (zcp (zcp (zcp (zcp (zu ia 3 0 (ia 11 0)) 12 0 4 0 40) 13 0 5 0 40) 14 0 6 0 1240) 15 0 7 0 1240) w, 0, 0) := by
  refine Ev.aload_n_1 fX6_copyFrom_0 rfl ?_
  refine Ev.aload_n_1 fX6_copyFrom_1 rfl ?_
  refine Ev.gI 11 0 (v := (ia 11 0)) fX6_copyFrom_2 (flX6_9 rfl) rfl rfl rfl ?_
  refine Ev.pI 3 0 fX6_copyFrom_5 (flX6_9 rfl) rfl rfl trivial ?_
  refine Ev.aload_n_1 fX6_copyFrom_8 rfl ?_
  refine Ev.gR 11 1 12 fX6_copyFrom_9 (flX6_15 rfl) rfl rfl rfl ?_
  refine Ev.iconst fX6_copyFrom_12 ?_
  refine Ev.aload_n_1 fX6_copyFrom_13 rfl ?_
  refine Ev.gR 3 1 4 fX6_copyFrom_14 (flX6_15 rfl) rfl rfl rfl ?_
  refine Ev.iconst fX6_copyFrom_17 ?_
  refine Ev.bipush fX6_copyFrom_18 rfl ?_
  refine Ev.cp 12 4 40 40 fX6_copyFrom_20 (zlX6_28 rfl) zt_copy rfl rfl rfl rfl (by refine ⟨?_, ?_, ?_, ?_, ?_⟩ <;> omega) rfl rfl ?_
  refine Ev.aload_n_1 fX6_copyFrom_23 rfl ?_
  refine Ev.gR 11 2 13 fX6_copyFrom_24 (flX6_19 rfl) rfl rfl rfl ?_
  refine Ev.iconst fX6_copyFrom_27 ?_
  refine Ev.aload_n_1 fX6_copyFrom_28 rfl ?_
  refine Ev.gR 3 2 5 fX6_copyFrom_29 (flX6_19 rfl) rfl rfl rfl ?_
  refine Ev.iconst fX6_copyFrom_32 ?_
  refine Ev.bipush fX6_copyFrom_33 rfl ?_
  refine Ev.cp 13 5 40 40 fX6_copyFrom_35 (zlX6_28 rfl) zt_copy rfl rfl rfl rfl (by refine ⟨?_, ?_, ?_, ?_, ?_⟩ <;> omega) rfl rfl ?_
  refine Ev.aload_n_1 fX6_copyFrom_38 rfl ?_
  refine Ev.gR 11 3 14 fX6_copyFrom_39 (flX6_22 rfl) rfl rfl rfl ?_
  refine Ev.iconst fX6_copyFrom_42 ?_
  refine Ev.aload_n_1 fX6_copyFrom_43 rfl ?_
  refine Ev.gR 3 3 6 fX6_copyFrom_44 (flX6_22 rfl) rfl rfl rfl ?_
  refine Ev.iconst fX6_copyFrom_47 ?_
  refine Ev.sipush fX6_copyFrom_48 rfl ?_
  refine Ev.cp 14 6 1240 1240 fX6_copyFrom_51 (zlX6_28 rfl) zt_copy rfl rfl rfl rfl (by refine ⟨?_, ?_, ?_, ?_, ?_⟩ <;> omega) rfl rfl ?_
  refine Ev.aload_n_1 fX6_copyFrom_54 rfl ?_
  refine Ev.gR 11 4 15 fX6_copyFrom_55 (flX6_25 rfl) rfl rfl rfl ?_
  refine Ev.iconst fX6_copyFrom_58 ?_
  refine Ev.aload_n_1 fX6_copyFrom_59 rfl ?_
  refine Ev.gR 3 4 7 fX6_copyFrom_60 (flX6_25 rfl) rfl rfl rfl ?_
  refine Ev.iconst fX6_copyFrom_63 ?_
  refine Ev.sipush fX6_copyFrom_64 rfl ?_
  refine Ev.cp 15 7 1240 1240 fX6_copyFrom_67 (zlX6_28 rfl) zt_copy rfl rfl rfl rfl (by refine ⟨?_, ?_, ?_, ?_, ?_⟩ <;> omega) rfl rfl ?_
  exact Ev.zV fX6_copyFrom_70 rfl
theorem eX0_copyFrom_10 {G : zG} {ia : Nat → Int → Int} {w : (Nat → Int → Int) × (Nat → Int → Int)}   : Ev G mX0_copyFrom 0 [(1, 10), (1, 2)] [] (zH ia w) (.inl none, zH (zu (zu (zu (zcp (zcp (zcp (zcp (zcp (zu ia 11 0 (ia 3 0)) 4 0 12 0 40) 5 0 13 0 40) 6 0 14 0 1240) 7 0 15 0 1240) 8 0 16 0 4) 10 2 (ia 2 2)) 10 3 (ia 2 3)) 10 4 (ia 2 4)) w, 0, 0) := by
  refine Ev.aload_n_1 fX0_copyFrom_0 rfl ?_
  refine Ev.gR 10 0 11 fX0_copyFrom_1 (flX0_12 rfl) rfl rfl rfl ?_
  refine Ev.aload_n_1 fX0_copyFrom_4 rfl ?_
  refine Ev.gR 2 0 3 fX0_copyFrom_5 (flX0_12 rfl) rfl rfl rfl ?_
  refine Ev.cVv 11 [(1, 3)] [] fX0_copyFrom_8 lkX0_copyFrom_32 6 TX6 5 rfl rfl rfl eX6_copyFrom_11 ?_
  refine Ev.aload_n_1 fX0_copyFrom_11 rfl ?_
  refine Ev.gR 2 1 8 fX0_copyFrom_12 (flX0_18 rfl) rfl rfl rfl ?_
  refine Ev.iconst fX0_copyFrom_15 ?_
  refine Ev.aload_n_1 fX0_copyFrom_16 rfl ?_
  refine Ev.gR 10 1 16 fX0_copyFrom_17 (flX0_18 rfl) rfl rfl rfl ?_
  refine Ev.iconst fX0_copyFrom_20 ?_
  refine Ev.iconst fX0_copyFrom_21 ?_
  refine Ev.cp 8 16 4 4 fX0_copyFrom_22 (zlX0_36 rfl) zt_copy rfl rfl rfl rfl (by refine ⟨?_, ?_, ?_, ?_, ?_⟩ <;> omega) rfl rfl ?_
  refine Ev.aload_n_1 fX0_copyFrom_25 rfl ?_
  refine Ev.aload_n_1 fX0_copyFrom_26 rfl ?_
  refine Ev.gI 2 2 (v := (ia 2 2)) fX0_copyFrom_27 (flX0_22 rfl) rfl rfl rfl ?_
  refine Ev.pI 10 2 fX0_copyFrom_30 (flX0_22 rfl) rfl rfl trivial ?_
  refine Ev.aload_n_1 fX0_copyFrom_33 rfl ?_
  refine Ev.aload_n_1 fX0_copyFrom_34 rfl ?_
  refine Ev.gI 2 3 (v := (ia 2 3)) fX0_copyFrom_35 (flX0_26 rfl) rfl rfl rfl ?_
  refine Ev.pI 10 3 fX0_copyFrom_38 (flX0_26 rfl) rfl rfl trivial ?_
  refine Ev.aload_n_1 fX0_copyFrom_41 rfl ?_
  refine Ev.aload_n_1 fX0_copyFrom_42 rfl ?_
  refine Ev.gI 2 4 (v := (ia 2 4)) fX0_copyFrom_43 (flX0_29 rfl) rfl rfl rfl ?_
  refine Ev.pI 10 4 fX0_copyFrom_46 (flX0_29 rfl) rfl rfl trivial ?_
  exact Ev.zV fX0_copyFrom_49 rfl
theorem eX0_copyFrom_2 {G : zG} {ia : Nat → Int → Int} {w : (Nat → Int → Int) × (Nat → Int → Int)}   : Ev G mX0_copyFrom 0 [(1, 2), (1, 10)] [] (zH ia w) (.inl none, zH (zu (zu (zu (zcp (zcp (zcp (zcp (zcp (zu ia 3 0 (ia 11 0)) 12 0 4 0 40) 13 0 5 0 40) 14 0 6 0 1240) 15 0 7 0 1240) 16 0 8 0 4) 2 2 (ia 10 2)) 2 3 (ia 10 3)) 2 4 (ia 10 4)) w, 0, 0) := by
  refine Ev.aload_n_1 fX0_copyFrom_0 rfl ?_
  refine Ev.gR 2 0 3 fX0_copyFrom_1 (flX0_12 rfl) rfl rfl rfl ?_
  refine Ev.aload_n_1 fX0_copyFrom_4 rfl ?_
  refine Ev.gR 10 0 11 fX0_copyFrom_5 (flX0_12 rfl) rfl rfl rfl ?_
  refine Ev.cVv 3 [(1, 11)] [] fX0_copyFrom_8 lkX0_copyFrom_32 6 TX6 5 rfl rfl rfl eX6_copyFrom_3 ?_
  refine Ev.aload_n_1 fX0_copyFrom_11 rfl ?_
  refine Ev.gR 10 1 16 fX0_copyFrom_12 (flX0_18 rfl) rfl rfl rfl ?_
  refine Ev.iconst fX0_copyFrom_15 ?_
  refine Ev.aload_n_1 fX0_copyFrom_16 rfl ?_
  refine Ev.gR 2 1 8 fX0_copyFrom_17 (flX0_18 rfl) rfl rfl rfl ?_
  refine Ev.iconst fX0_copyFrom_20 ?_
  refine Ev.iconst fX0_copyFrom_21 ?_
  refine Ev.cp 16 8 4 4 fX0_copyFrom_22 (zlX0_36 rfl) zt_copy rfl rfl rfl rfl (by refine ⟨?_, ?_, ?_, ?_, ?_⟩ <;> omega) rfl rfl ?_
  refine Ev.aload_n_1 fX0_copyFrom_25 rfl ?_
  refine Ev.aload_n_1 fX0_copyFrom_26 rfl ?_
  refine Ev.gI 10 2 (v := (ia 10 2)) fX0_copyFrom_27 (flX0_22 rfl) rfl rfl rfl ?_
  refine Ev.pI 2 2 fX0_copyFrom_30 (flX0_22 rfl) rfl rfl trivial ?_
  refine Ev.aload_n_1 fX0_copyFrom_33 rfl ?_
  refine Ev.aload_n_1 fX0_copyFrom_34 rfl ?_
  refine Ev.gI 10 3 (v := (ia 10 3)) fX0_copyFrom_35 (flX0_26 rfl) rfl rfl rfl ?_
  refine Ev.pI 2 3 fX0_copyFrom_38 (flX0_26 rfl) rfl rfl trivial ?_
  refine Ev.aload_n_1 fX0_copyFrom_41 rfl ?_
  refine Ev.aload_n_1 fX0_copyFrom_42 rfl ?_
  refine Ev.gI 10 4 (v := (ia 10 4)) fX0_copyFrom_43 (flX0_29 rfl) rfl rfl rfl ?_
  refine Ev.pI 2 4 fX0_copyFrom_46 (flX0_29 rfl) rfl rfl trivial ?_
  exact Ev.zV fX0_copyFrom_49 rfl
