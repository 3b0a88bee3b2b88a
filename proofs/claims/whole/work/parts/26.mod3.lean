/-! THE MODEL: PUBLIC READS (printed by wip/whole/gen/mod3.py) -/
theorem eX8_ledger_c1 {G : zG} {ia ja : Nat → Int → Int} {w : (Nat → Int → Int) × (Nat → Int → Int)} {v : Int} (H : zRw ja (ia 25)) (hrv : -2147483648 ≤ v ∧ v ≤ 2147483647) (hx : ¬ (0 ≤ v ∧ v < 4)) : Ev G mX8_ledger 0 [(1, 24), (0, v)] [] (zH ia w) (.inl (some (0, 0)), zH (zu ia 24 8 1) w, 0, 0) := by
  have I := H.1
  have hn := I.1
  refine Ev.aload_n_1 fX8_ledger_0 rfl ?_
  refine Ev.iload_n fX8_ledger_1 rfl ?_
  refine Ev.cSi [(0, v)] [(1, 24)] fX8_ledger_2 lkX8_ledger_80 rfl (eX8_isHouse_f ⟨by omega, by omega⟩ (by omega)) ?_
  refine Ev.if_eq fX8_ledger_5 rfl (by decide) (fun h5 => ?_) (fun h5 => by exfalso; revert h5; decide)
  refine Ev.iconst fX8_ledger_12 ?_
  refine Ev.cVi 24 [(0, 1)] [] fX8_ledger_13 lkX8_ledger_117 8 TX8 22 rfl rfl rfl eX8_fails_1 ?_
  refine Ev.if_eq fX8_ledger_16 rfl (by decide) (fun h16 => by exfalso; revert h16; decide) (fun h16 => ?_)
  refine Ev.iconst fX8_ledger_19 ?_
  refine Ev.goto fX8_ledger_20 rfl ?_
  exact Ev.zI fX8_ledger_31 rfl rfl
theorem eX8_ledger_0 {G : zG} {ia ja : Nat → Int → Int} {w : (Nat → Int → Int) × (Nat → Int → Int)} {v : Int} (H : zRw ja (ia 25)) (hc0 : 0 ≤ v ∧ v < 4) : Ev G mX8_ledger 0 [(1, 24), (0, v)] [] (zH ia w) (.inl (some (0, (ja 8 v))), zH (zu ia 24 8 0) w, 0, 0) := by
  have I := H.1
  have hn := I.1
  refine Ev.aload_n_1 fX8_ledger_0 rfl ?_
  refine Ev.iload_n fX8_ledger_1 rfl ?_
  refine Ev.cSi [(0, v)] [(1, 24)] fX8_ledger_2 lkX8_ledger_80 rfl (eX8_isHouse_t ⟨by omega, by omega⟩) ?_
  refine Ev.if_eq fX8_ledger_5 rfl (by decide) (fun h5 => by exfalso; revert h5; decide) (fun h5 => ?_)
  refine Ev.iconst fX8_ledger_8 ?_
  refine Ev.goto fX8_ledger_9 rfl ?_
  refine Ev.cVi 24 [(0, 0)] [] fX8_ledger_13 lkX8_ledger_117 8 TX8 22 rfl rfl rfl eX8_fails_0 ?_
  refine Ev.if_eq fX8_ledger_16 rfl (by decide) (fun h16 => ?_) (fun h16 => by exfalso; revert h16; decide)
  refine Ev.aload_n_1 fX8_ledger_23 rfl ?_
  refine Ev.gR 24 0 25 fX8_ledger_24 (flX8_7 rfl) rfl rfl rfl ?_
  refine Ev.iconst fX8_ledger_27 ?_
  refine Ev.iload_n fX8_ledger_28 rfl ?_
  refine Ev.iadd fX8_ledger_29 ?_
  refine Ev.ld 25 1968 (v := (ja 8 v)) fX8_ledger_30 rfl rfl ⟨by omega, by omega⟩ (H.2.2.2.2.2.1 v (by omega) (by omega)) ?_
  exact Ev.zI fX8_ledger_31 rfl rfl
theorem eX8_amount_c1 {G : zG} {ia ja : Nat → Int → Int} {w : (Nat → Int → Int) × (Nat → Int → Int)} {v l : Int} (H : zRw ja (ia 25)) (hrv : -2147483648 ≤ v ∧ v ≤ 2147483647) (hrl : -2147483648 ≤ l ∧ l ≤ 2147483647) (hx : ¬ (0 ≤ v ∧ v < ja 3 0)) : Ev G mX8_amount 0 [(1, 24), (0, v), (0, l)] [] (zH ia w) (.inl (some (0, 0)), zH (zu ia 24 8 1) w, 0, 0) := by
  have I := H.1
  have hn := I.1
  refine Ev.aload_n_1 fX8_amount_0 rfl ?_
  refine Ev.aload_n_1 fX8_amount_1 rfl ?_
  refine Ev.iload_n fX8_amount_2 rfl ?_
  refine Ev.cVi 24 [(0, v)] [(1, 24)] fX8_amount_3 lkX8_amount_104 8 TX8 22 rfl rfl rfl (eX8_isVersion_f H ⟨by omega, by omega⟩ (by omega)) ?_
  refine Ev.if_ne fX8_amount_6 rfl (by decide) (fun h6 => by exfalso; revert h6; decide) (fun h6 => ?_)
  refine Ev.iconst fX8_amount_9 ?_
  refine Ev.goto fX8_amount_10 rfl ?_
  refine Ev.cVi 24 [(0, 1)] [] fX8_amount_25 lkX8_amount_117 8 TX8 22 rfl rfl rfl eX8_fails_1 ?_
  refine Ev.if_eq fX8_amount_28 rfl (by decide) (fun h28 => by exfalso; revert h28; decide) (fun h28 => ?_)
  refine Ev.iconst fX8_amount_31 ?_
  refine Ev.goto fX8_amount_32 rfl ?_
  exact Ev.zI fX8_amount_41 rfl rfl
theorem eX8_amount_c2 {G : zG} {ia ja : Nat → Int → Int} {w : (Nat → Int → Int) × (Nat → Int → Int)} {v l : Int} (H : zRw ja (ia 25)) (hrv : -2147483648 ≤ v ∧ v ≤ 2147483647) (hrl : -2147483648 ≤ l ∧ l ≤ 2147483647) (hc0 : 0 ≤ v ∧ v < ja 3 0) (hx : ¬ (0 ≤ l ∧ l < 16)) : Ev G mX8_amount 0 [(1, 24), (0, v), (0, l)] [] (zH ia w) (.inl (some (0, 0)), zH (zu ia 24 8 2) w, 0, 0) := by
  have I := H.1
  have hn := I.1
  refine Ev.aload_n_1 fX8_amount_0 rfl ?_
  refine Ev.aload_n_1 fX8_amount_1 rfl ?_
  refine Ev.iload_n fX8_amount_2 rfl ?_
  refine Ev.cVi 24 [(0, v)] [(1, 24)] fX8_amount_3 lkX8_amount_104 8 TX8 22 rfl rfl rfl (eX8_isVersion_t H ⟨by omega, by omega⟩) ?_
  refine Ev.if_ne fX8_amount_6 rfl (by decide) (fun h6 => ?_) (fun h6 => by exfalso; revert h6; decide)
  refine Ev.iload_n fX8_amount_13 rfl ?_
  refine Ev.cSi [(0, l)] [(1, 24)] fX8_amount_14 lkX8_amount_84 rfl (eX8_isLine_f ⟨by omega, by omega⟩ (by omega)) ?_
  refine Ev.if_eq fX8_amount_17 rfl (by decide) (fun h17 => ?_) (fun h17 => by exfalso; revert h17; decide)
  refine Ev.iconst fX8_amount_24 ?_
  refine Ev.cVi 24 [(0, 2)] [] fX8_amount_25 lkX8_amount_117 8 TX8 22 rfl rfl rfl eX8_fails_2 ?_
  refine Ev.if_eq fX8_amount_28 rfl (by decide) (fun h28 => by exfalso; revert h28; decide) (fun h28 => ?_)
  refine Ev.iconst fX8_amount_31 ?_
  refine Ev.goto fX8_amount_32 rfl ?_
  exact Ev.zI fX8_amount_41 rfl rfl
theorem eX8_amount_0 {G : zG} {ia ja : Nat → Int → Int} {w : (Nat → Int → Int) × (Nat → Int → Int)} {v l : Int} (H : zRw ja (ia 25)) (hc0 : 0 ≤ v ∧ v < ja 3 0) (hc1 : 0 ≤ l ∧ l < 16) : Ev G mX8_amount 0 [(1, 24), (0, v), (0, l)] [] (zH ia w) (.inl (some (0, (zTo ja v (15 + l)))), zH (zu ia 24 8 0) w, 0, 0) := by
  have I := H.1
  have hn := I.1
  refine Ev.aload_n_1 fX8_amount_0 rfl ?_
  refine Ev.aload_n_1 fX8_amount_1 rfl ?_
  refine Ev.iload_n fX8_amount_2 rfl ?_
  refine Ev.cVi 24 [(0, v)] [(1, 24)] fX8_amount_3 lkX8_amount_104 8 TX8 22 rfl rfl rfl (eX8_isVersion_t H ⟨by omega, by omega⟩) ?_
  refine Ev.if_ne fX8_amount_6 rfl (by decide) (fun h6 => ?_) (fun h6 => by exfalso; revert h6; decide)
  refine Ev.iload_n fX8_amount_13 rfl ?_
  refine Ev.cSi [(0, l)] [(1, 24)] fX8_amount_14 lkX8_amount_84 rfl (eX8_isLine_t ⟨by omega, by omega⟩) ?_
  refine Ev.if_eq fX8_amount_17 rfl (by decide) (fun h17 => by exfalso; revert h17; decide) (fun h17 => ?_)
  refine Ev.iconst fX8_amount_20 ?_
  refine Ev.goto fX8_amount_21 rfl ?_
  refine Ev.cVi 24 [(0, 0)] [] fX8_amount_25 lkX8_amount_117 8 TX8 22 rfl rfl rfl eX8_fails_0 ?_
  refine Ev.if_eq fX8_amount_28 rfl (by decide) (fun h28 => ?_) (fun h28 => by exfalso; revert h28; decide)
  refine Ev.aload_n_1 fX8_amount_35 rfl ?_
  refine Ev.iload_n fX8_amount_36 rfl ?_
  refine Ev.iload_n fX8_amount_37 rfl ?_
  refine Ev.cVi 24 [(0, v), (0, l)] [] fX8_amount_38 lkX8_amount_90 8 TX8 22 rfl rfl rfl (eX8_amountOf H ⟨by omega, by omega⟩ ⟨by omega, by omega⟩) ?_
  exact Ev.zI fX8_amount_41 rfl rfl
theorem eX8_sum_c1 {G : zG} {ia ja : Nat → Int → Int} {w : (Nat → Int → Int) × (Nat → Int → Int)} {v first last : Int} (H : zRw ja (ia 25)) (hrv : -2147483648 ≤ v ∧ v ≤ 2147483647) (hrfirst : -2147483648 ≤ first ∧ first ≤ 2147483647) (hrlast : -2147483648 ≤ last ∧ last ≤ 2147483647) (hx : ¬ (0 ≤ v ∧ v < ja 3 0)) : Ev G mX8_sum 0 [(1, 24), (0, v), (0, first), (0, last)] [] (zH ia w) (.inl (some (0, 0)), zH (zu ia 24 8 1) w, 0, 0) := by
  have I := H.1
  have hn := I.1
  refine Ev.aload_n_1 fX8_sum_0 rfl ?_
  refine Ev.aload_n_1 fX8_sum_1 rfl ?_
  refine Ev.iload_n fX8_sum_2 rfl ?_
  refine Ev.cVi 24 [(0, v)] [(1, 24)] fX8_sum_3 lkX8_sum_104 8 TX8 22 rfl rfl rfl (eX8_isVersion_f H ⟨by omega, by omega⟩ (by omega)) ?_
  refine Ev.if_ne fX8_sum_6 rfl (by decide) (fun h6 => by exfalso; revert h6; decide) (fun h6 => ?_)
  refine Ev.iconst fX8_sum_9 ?_
  refine Ev.goto fX8_sum_10 rfl ?_
  refine Ev.cVi 24 [(0, 1)] [] fX8_sum_26 lkX8_sum_117 8 TX8 22 rfl rfl rfl eX8_fails_1 ?_
  refine Ev.if_eq fX8_sum_29 rfl (by decide) (fun h29 => by exfalso; revert h29; decide) (fun h29 => ?_)
  refine Ev.iconst fX8_sum_32 ?_
  refine Ev.goto fX8_sum_33 rfl ?_
  exact Ev.zI fX8_sum_43 rfl rfl
theorem eX8_sum_c2 {G : zG} {ia ja : Nat → Int → Int} {w : (Nat → Int → Int) × (Nat → Int → Int)} {v first last : Int} (H : zRw ja (ia 25)) (hrv : -2147483648 ≤ v ∧ v ≤ 2147483647) (hrfirst : -2147483648 ≤ first ∧ first ≤ 2147483647) (hrlast : -2147483648 ≤ last ∧ last ≤ 2147483647) (hc0 : 0 ≤ v ∧ v < ja 3 0) (hx : ¬ (0 ≤ first ∧ first ≤ last ∧ last < 16)) : Ev G mX8_sum 0 [(1, 24), (0, v), (0, first), (0, last)] [] (zH ia w) (.inl (some (0, 0)), zH (zu ia 24 8 2) w, 0, 0) := by
  have I := H.1
  have hn := I.1
  refine Ev.aload_n_1 fX8_sum_0 rfl ?_
  refine Ev.aload_n_1 fX8_sum_1 rfl ?_
  refine Ev.iload_n fX8_sum_2 rfl ?_
  refine Ev.cVi 24 [(0, v)] [(1, 24)] fX8_sum_3 lkX8_sum_104 8 TX8 22 rfl rfl rfl (eX8_isVersion_t H ⟨by omega, by omega⟩) ?_
  refine Ev.if_ne fX8_sum_6 rfl (by decide) (fun h6 => ?_) (fun h6 => by exfalso; revert h6; decide)
  refine Ev.iload_n fX8_sum_13 rfl ?_
  refine Ev.iload_n fX8_sum_14 rfl ?_
  refine Ev.cSi [(0, first), (0, last)] [(1, 24)] fX8_sum_15 lkX8_sum_120 rfl (eX8_areLines_f ⟨by omega, by omega⟩ ⟨by omega, by omega⟩ (by omega)) ?_
  refine Ev.if_eq fX8_sum_18 rfl (by decide) (fun h18 => ?_) (fun h18 => by exfalso; revert h18; decide)
  refine Ev.iconst fX8_sum_25 ?_
  refine Ev.cVi 24 [(0, 2)] [] fX8_sum_26 lkX8_sum_117 8 TX8 22 rfl rfl rfl eX8_fails_2 ?_
  refine Ev.if_eq fX8_sum_29 rfl (by decide) (fun h29 => by exfalso; revert h29; decide) (fun h29 => ?_)
  refine Ev.iconst fX8_sum_32 ?_
  refine Ev.goto fX8_sum_33 rfl ?_
  exact Ev.zI fX8_sum_43 rfl rfl
theorem eX8_sum_0 {G : zG} {ia ja : Nat → Int → Int} {w : (Nat → Int → Int) × (Nat → Int → Int)} {v first last : Int} (H : zRw ja (ia 25)) (hc0 : 0 ≤ v ∧ v < ja 3 0) (hc1 : 0 ≤ first ∧ first ≤ last ∧ last < 16) : Ev G mX8_sum 0 [(1, 24), (0, v), (0, first), (0, last)] [] (zH ia w) (.inl (some (0, (zsum (fun j => if first ≤ j ∧ j ≤ last then zTo ja v (15 + j) else 0) 16))), zH (zu ia 24 8 0) w, 0, 0) := by
  have I := H.1
  have hn := I.1
  refine Ev.aload_n_1 fX8_sum_0 rfl ?_
  refine Ev.aload_n_1 fX8_sum_1 rfl ?_
  refine Ev.iload_n fX8_sum_2 rfl ?_
  refine Ev.cVi 24 [(0, v)] [(1, 24)] fX8_sum_3 lkX8_sum_104 8 TX8 22 rfl rfl rfl (eX8_isVersion_t H ⟨by omega, by omega⟩) ?_
  refine Ev.if_ne fX8_sum_6 rfl (by decide) (fun h6 => ?_) (fun h6 => by exfalso; revert h6; decide)
  refine Ev.iload_n fX8_sum_13 rfl ?_
  refine Ev.iload_n fX8_sum_14 rfl ?_
  refine Ev.cSi [(0, first), (0, last)] [(1, 24)] fX8_sum_15 lkX8_sum_120 rfl (eX8_areLines_t ⟨by omega, by omega, by omega⟩) ?_
  refine Ev.if_eq fX8_sum_18 rfl (by decide) (fun h18 => by exfalso; revert h18; decide) (fun h18 => ?_)
  refine Ev.iconst fX8_sum_21 ?_
  refine Ev.goto fX8_sum_22 rfl ?_
  refine Ev.cVi 24 [(0, 0)] [] fX8_sum_26 lkX8_sum_117 8 TX8 22 rfl rfl rfl eX8_fails_0 ?_
  refine Ev.if_eq fX8_sum_29 rfl (by decide) (fun h29 => ?_) (fun h29 => by exfalso; revert h29; decide)
  refine Ev.aload_n_1 fX8_sum_36 rfl ?_
  refine Ev.iload_n fX8_sum_37 rfl ?_
  refine Ev.iload_n fX8_sum_38 rfl ?_
  refine Ev.iload_n fX8_sum_39 rfl ?_
  refine Ev.cVi 24 [(0, v), (0, first), (0, last)] [] fX8_sum_40 lkX8_sum_124 8 TX8 22 rfl rfl rfl (eX8_sumOf H ⟨by omega, by omega⟩ ⟨by omega, by omega, by omega⟩) ?_
  exact Ev.zI fX8_sum_43 rfl rfl
theorem eX8_sumAgain_c1 {G : zG} {ia ja : Nat → Int → Int} {w : (Nat → Int → Int) × (Nat → Int → Int)} {v first last : Int} (H : zRw ja (ia 25)) (hrv : -2147483648 ≤ v ∧ v ≤ 2147483647) (hrfirst : -2147483648 ≤ first ∧ first ≤ 2147483647) (hrlast : -2147483648 ≤ last ∧ last ≤ 2147483647) (hx : ¬ (0 ≤ v ∧ v < ja 3 0)) : Ev G mX8_sumAgain 0 [(1, 24), (0, v), (0, first), (0, last)] [] (zH ia w) (.inl (some (0, 0)), zH (zu ia 24 8 1) w, 0, 0) := by
  refine Ev.aload_n_1 fX8_sumAgain_0 rfl ?_
  refine Ev.iload_n fX8_sumAgain_1 rfl ?_
  refine Ev.iload_n fX8_sumAgain_2 rfl ?_
  refine Ev.iload_n fX8_sumAgain_3 rfl ?_
  refine Ev.cVi 24 [(0, v), (0, first), (0, last)] [] fX8_sumAgain_4 lkX8_sumAgain_128 8 TX8 22 rfl rfl rfl (eX8_sum_c1 H hrv hrfirst hrlast hx) ?_
  exact Ev.zI fX8_sumAgain_7 rfl rfl
theorem eX8_sumAgain_c2 {G : zG} {ia ja : Nat → Int → Int} {w : (Nat → Int → Int) × (Nat → Int → Int)} {v first last : Int} (H : zRw ja (ia 25)) (hrv : -2147483648 ≤ v ∧ v ≤ 2147483647) (hrfirst : -2147483648 ≤ first ∧ first ≤ 2147483647) (hrlast : -2147483648 ≤ last ∧ last ≤ 2147483647) (hc0 : 0 ≤ v ∧ v < ja 3 0) (hx : ¬ (0 ≤ first ∧ first ≤ last ∧ last < 16)) : Ev G mX8_sumAgain 0 [(1, 24), (0, v), (0, first), (0, last)] [] (zH ia w) (.inl (some (0, 0)), zH (zu ia 24 8 2) w, 0, 0) := by
  refine Ev.aload_n_1 fX8_sumAgain_0 rfl ?_
  refine Ev.iload_n fX8_sumAgain_1 rfl ?_
  refine Ev.iload_n fX8_sumAgain_2 rfl ?_
  refine Ev.iload_n fX8_sumAgain_3 rfl ?_
  refine Ev.cVi 24 [(0, v), (0, first), (0, last)] [] fX8_sumAgain_4 lkX8_sumAgain_128 8 TX8 22 rfl rfl rfl (eX8_sum_c2 H hrv hrfirst hrlast hc0 hx) ?_
  exact Ev.zI fX8_sumAgain_7 rfl rfl
theorem eX8_sumAgain_0 {G : zG} {ia ja : Nat → Int → Int} {w : (Nat → Int → Int) × (Nat → Int → Int)} {v first last : Int} (H : zRw ja (ia 25)) (hc0 : 0 ≤ v ∧ v < ja 3 0) (hc1 : 0 ≤ first ∧ first ≤ last ∧ last < 16) : Ev G mX8_sumAgain 0 [(1, 24), (0, v), (0, first), (0, last)] [] (zH ia w) (.inl (some (0, (zsum (fun j => if first ≤ j ∧ j ≤ last then zTo ja v (15 + j) else 0) 16))), zH (zu ia 24 8 0) w, 0, 0) := by
  refine Ev.aload_n_1 fX8_sumAgain_0 rfl ?_
  refine Ev.iload_n fX8_sumAgain_1 rfl ?_
  refine Ev.iload_n fX8_sumAgain_2 rfl ?_
  refine Ev.iload_n fX8_sumAgain_3 rfl ?_
  refine Ev.cVi 24 [(0, v), (0, first), (0, last)] [] fX8_sumAgain_4 lkX8_sumAgain_128 8 TX8 22 rfl rfl rfl (eX8_sum_0 H hc0 hc1) ?_
  exact Ev.zI fX8_sumAgain_7 rfl rfl
theorem eX8_maker_c1 {G : zG} {ia ja : Nat → Int → Int} {w : (Nat → Int → Int) × (Nat → Int → Int)} {v s : Int} (H : zRw ja (ia 25)) (hrv : -2147483648 ≤ v ∧ v ≤ 2147483647) (hrs : -2147483648 ≤ s ∧ s ≤ 2147483647) (hx : ¬ (0 ≤ v ∧ v < ja 3 0)) : Ev G mX8_maker 0 [(1, 24), (0, v), (0, s)] [] (zH ia w) (.inl (some (0, 0)), zH (zu ia 24 8 1) w, 0, 0) := by
  have I := H.1
  have hn := I.1
  refine Ev.aload_n_1 fX8_maker_0 rfl ?_
  refine Ev.aload_n_1 fX8_maker_1 rfl ?_
  refine Ev.iload_n fX8_maker_2 rfl ?_
  refine Ev.cVi 24 [(0, v)] [(1, 24)] fX8_maker_3 lkX8_maker_104 8 TX8 22 rfl rfl rfl (eX8_isVersion_f H ⟨by omega, by omega⟩ (by omega)) ?_
  refine Ev.if_ne fX8_maker_6 rfl (by decide) (fun h6 => by exfalso; revert h6; decide) (fun h6 => ?_)
  refine Ev.iconst fX8_maker_9 ?_
  refine Ev.goto fX8_maker_10 rfl ?_
  refine Ev.cVi 24 [(0, 1)] [] fX8_maker_28 lkX8_maker_117 8 TX8 22 rfl rfl rfl eX8_fails_1 ?_
  refine Ev.if_eq fX8_maker_31 rfl (by decide) (fun h31 => by exfalso; revert h31; decide) (fun h31 => ?_)
  refine Ev.iconst fX8_maker_34 ?_
  refine Ev.goto fX8_maker_35 rfl ?_
  exact Ev.zI fX8_maker_47 rfl rfl
theorem eX8_maker_c2 {G : zG} {ia ja : Nat → Int → Int} {w : (Nat → Int → Int) × (Nat → Int → Int)} {v s : Int} (H : zRw ja (ia 25)) (hrv : -2147483648 ≤ v ∧ v ≤ 2147483647) (hrs : -2147483648 ≤ s ∧ s ≤ 2147483647) (hc0 : 0 ≤ v ∧ v < ja 3 0) (hx : ¬ (0 ≤ s ∧ s ≤ 30)) : Ev G mX8_maker 0 [(1, 24), (0, v), (0, s)] [] (zH ia w) (.inl (some (0, 0)), zH (zu ia 24 8 2) w, 0, 0) := by
  have I := H.1
  have hn := I.1
  refine Ev.aload_n_1 fX8_maker_0 rfl ?_
  refine Ev.aload_n_1 fX8_maker_1 rfl ?_
  refine Ev.iload_n fX8_maker_2 rfl ?_
  refine Ev.cVi 24 [(0, v)] [(1, 24)] fX8_maker_3 lkX8_maker_104 8 TX8 22 rfl rfl rfl (eX8_isVersion_t H ⟨by omega, by omega⟩) ?_
  refine Ev.if_ne fX8_maker_6 rfl (by decide) (fun h6 => ?_) (fun h6 => by exfalso; revert h6; decide)
  refine Ev.iload_n fX8_maker_13 rfl ?_
  refine Ev.iconst fX8_maker_14 ?_
  refine Ev.bipush fX8_maker_15 rfl ?_
  refine Ev.cSi [(0, s), (0, 0), (0, 30)] [(1, 24)] fX8_maker_17 lkX8_maker_68 rfl (eX8_in_f ⟨by omega, by omega⟩ ⟨by omega, by omega⟩ ⟨by omega, by omega⟩ (by omega)) ?_
  refine Ev.if_eq fX8_maker_20 rfl (by decide) (fun h20 => ?_) (fun h20 => by exfalso; revert h20; decide)
  refine Ev.iconst fX8_maker_27 ?_
  refine Ev.cVi 24 [(0, 2)] [] fX8_maker_28 lkX8_maker_117 8 TX8 22 rfl rfl rfl eX8_fails_2 ?_
  refine Ev.if_eq fX8_maker_31 rfl (by decide) (fun h31 => by exfalso; revert h31; decide) (fun h31 => ?_)
  refine Ev.iconst fX8_maker_34 ?_
  refine Ev.goto fX8_maker_35 rfl ?_
  exact Ev.zI fX8_maker_47 rfl rfl
theorem eX8_maker_0 {G : zG} {ia ja : Nat → Int → Int} {w : (Nat → Int → Int) × (Nat → Int → Int)} {v s : Int} (H : zRw ja (ia 25)) (hc0 : 0 ≤ v ∧ v < ja 3 0) (hc1 : 0 ≤ s ∧ s ≤ 30) : Ev G mX8_maker 0 [(1, 24), (0, v), (0, s)] [] (zH ia w) (.inl (some (0, (ja 6 (v * 31 + s)))), zH (zu ia 24 8 0) w, 0, 0) := by
  have I := H.1
  have hn := I.1
  refine Ev.aload_n_1 fX8_maker_0 rfl ?_
  refine Ev.aload_n_1 fX8_maker_1 rfl ?_
  refine Ev.iload_n fX8_maker_2 rfl ?_
  refine Ev.cVi 24 [(0, v)] [(1, 24)] fX8_maker_3 lkX8_maker_104 8 TX8 22 rfl rfl rfl (eX8_isVersion_t H ⟨by omega, by omega⟩) ?_
  refine Ev.if_ne fX8_maker_6 rfl (by decide) (fun h6 => ?_) (fun h6 => by exfalso; revert h6; decide)
  refine Ev.iload_n fX8_maker_13 rfl ?_
  refine Ev.iconst fX8_maker_14 ?_
  refine Ev.bipush fX8_maker_15 rfl ?_
  refine Ev.cSi [(0, s), (0, 0), (0, 30)] [(1, 24)] fX8_maker_17 lkX8_maker_68 rfl (eX8_in_t ⟨by omega, by omega⟩ ⟨by omega, by omega⟩ ⟨by omega, by omega⟩ ⟨by omega, by omega⟩) ?_
  refine Ev.if_eq fX8_maker_20 rfl (by decide) (fun h20 => by exfalso; revert h20; decide) (fun h20 => ?_)
  refine Ev.iconst fX8_maker_23 ?_
  refine Ev.goto fX8_maker_24 rfl ?_
  refine Ev.cVi 24 [(0, 0)] [] fX8_maker_28 lkX8_maker_117 8 TX8 22 rfl rfl rfl eX8_fails_0 ?_
  refine Ev.if_eq fX8_maker_31 rfl (by decide) (fun h31 => ?_) (fun h31 => by exfalso; revert h31; decide)
  refine Ev.aload_n_1 fX8_maker_38 rfl ?_
  refine Ev.iload_n fX8_maker_39 rfl ?_
  refine Ev.bipush fX8_maker_40 rfl ?_
  refine Ev.iload_n fX8_maker_42 rfl ?_
  refine Ev.iadd fX8_maker_43 ?_
  refine Ev.cVi 24 [(0, v), (0, (18 + s))] [] fX8_maker_44 lkX8_maker_72 8 TX8 22 rfl rfl rfl (eX8_of_mk H ⟨by omega, by omega⟩ ⟨by omega, by omega⟩) ?_
  exact Ev.zI fX8_maker_47 rfl rfl
theorem eX8_users_c1 {G : zG} {ia ja : Nat → Int → Int} {w : (Nat → Int → Int) × (Nat → Int → Int)} {v s : Int} (H : zRw ja (ia 25)) (hrv : -2147483648 ≤ v ∧ v ≤ 2147483647) (hrs : -2147483648 ≤ s ∧ s ≤ 2147483647) (hx : ¬ (0 ≤ v ∧ v < ja 3 0)) : Ev G mX8_users 0 [(1, 24), (0, v), (0, s)] [] (zH ia w) (.inl (some (0, 0)), zH (zu ia 24 8 1) w, 0, 0) := by
  have I := H.1
  have hn := I.1
  refine Ev.aload_n_1 fX8_users_0 rfl ?_
  refine Ev.aload_n_1 fX8_users_1 rfl ?_
  refine Ev.iload_n fX8_users_2 rfl ?_
  refine Ev.cVi 24 [(0, v)] [(1, 24)] fX8_users_3 lkX8_users_104 8 TX8 22 rfl rfl rfl (eX8_isVersion_f H ⟨by omega, by omega⟩ (by omega)) ?_
  refine Ev.if_ne fX8_users_6 rfl (by decide) (fun h6 => by exfalso; revert h6; decide) (fun h6 => ?_)
  refine Ev.iconst fX8_users_9 ?_
  refine Ev.goto fX8_users_10 rfl ?_
  refine Ev.cVi 24 [(0, 1)] [] fX8_users_28 lkX8_users_117 8 TX8 22 rfl rfl rfl eX8_fails_1 ?_
  refine Ev.if_eq fX8_users_31 rfl (by decide) (fun h31 => by exfalso; revert h31; decide) (fun h31 => ?_)
  refine Ev.iconst fX8_users_34 ?_
  refine Ev.goto fX8_users_35 rfl ?_
  exact Ev.zI fX8_users_52 rfl rfl
theorem eX8_users_c2 {G : zG} {ia ja : Nat → Int → Int} {w : (Nat → Int → Int) × (Nat → Int → Int)} {v s : Int} (H : zRw ja (ia 25)) (hrv : -2147483648 ≤ v ∧ v ≤ 2147483647) (hrs : -2147483648 ≤ s ∧ s ≤ 2147483647) (hc0 : 0 ≤ v ∧ v < ja 3 0) (hx : ¬ (0 ≤ s ∧ s ≤ 30)) : Ev G mX8_users 0 [(1, 24), (0, v), (0, s)] [] (zH ia w) (.inl (some (0, 0)), zH (zu ia 24 8 2) w, 0, 0) := by
  have I := H.1
  have hn := I.1
  refine Ev.aload_n_1 fX8_users_0 rfl ?_
  refine Ev.aload_n_1 fX8_users_1 rfl ?_
  refine Ev.iload_n fX8_users_2 rfl ?_
  refine Ev.cVi 24 [(0, v)] [(1, 24)] fX8_users_3 lkX8_users_104 8 TX8 22 rfl rfl rfl (eX8_isVersion_t H ⟨by omega, by omega⟩) ?_
  refine Ev.if_ne fX8_users_6 rfl (by decide) (fun h6 => ?_) (fun h6 => by exfalso; revert h6; decide)
  refine Ev.iload_n fX8_users_13 rfl ?_
  refine Ev.iconst fX8_users_14 ?_
  refine Ev.bipush fX8_users_15 rfl ?_
  refine Ev.cSi [(0, s), (0, 0), (0, 30)] [(1, 24)] fX8_users_17 lkX8_users_68 rfl (eX8_in_f ⟨by omega, by omega⟩ ⟨by omega, by omega⟩ ⟨by omega, by omega⟩ (by omega)) ?_
  refine Ev.if_eq fX8_users_20 rfl (by decide) (fun h20 => ?_) (fun h20 => by exfalso; revert h20; decide)
  refine Ev.iconst fX8_users_27 ?_
  refine Ev.cVi 24 [(0, 2)] [] fX8_users_28 lkX8_users_117 8 TX8 22 rfl rfl rfl eX8_fails_2 ?_
  refine Ev.if_eq fX8_users_31 rfl (by decide) (fun h31 => by exfalso; revert h31; decide) (fun h31 => ?_)
  refine Ev.iconst fX8_users_34 ?_
  refine Ev.goto fX8_users_35 rfl ?_
  exact Ev.zI fX8_users_52 rfl rfl
theorem eX8_users_0 {G : zG} {ia ja : Nat → Int → Int} {w : (Nat → Int → Int) × (Nat → Int → Int)} {v s : Int} (H : zRw ja (ia 25)) (hc0 : 0 ≤ v ∧ v < ja 3 0) (hc1 : 0 ≤ s ∧ s ≤ 30) : Ev G mX8_users 0 [(1, 24), (0, v), (0, s)] [] (zH ia w) (.inl (some (0, (zsum (fun j => if ja 6 (j * 31 + s) = ja 6 (v * 31 + s) then 1 else 0) (ja 3 0)))), zH (zu ia 24 8 0) w, 0, 0) := by
  have I := H.1
  have hn := I.1
  have hm := I.2.2.1 v s hc0.1 hc0.2 hc1.1 (by omega)
  refine Ev.aload_n_1 fX8_users_0 rfl ?_
  refine Ev.aload_n_1 fX8_users_1 rfl ?_
  refine Ev.iload_n fX8_users_2 rfl ?_
  refine Ev.cVi 24 [(0, v)] [(1, 24)] fX8_users_3 lkX8_users_104 8 TX8 22 rfl rfl rfl (eX8_isVersion_t H ⟨by omega, by omega⟩) ?_
  refine Ev.if_ne fX8_users_6 rfl (by decide) (fun h6 => ?_) (fun h6 => by exfalso; revert h6; decide)
  refine Ev.iload_n fX8_users_13 rfl ?_
  refine Ev.iconst fX8_users_14 ?_
  refine Ev.bipush fX8_users_15 rfl ?_
  refine Ev.cSi [(0, s), (0, 0), (0, 30)] [(1, 24)] fX8_users_17 lkX8_users_68 rfl (eX8_in_t ⟨by omega, by omega⟩ ⟨by omega, by omega⟩ ⟨by omega, by omega⟩ ⟨by omega, by omega⟩) ?_
  refine Ev.if_eq fX8_users_20 rfl (by decide) (fun h20 => by exfalso; revert h20; decide) (fun h20 => ?_)
  refine Ev.iconst fX8_users_23 ?_
  refine Ev.goto fX8_users_24 rfl ?_
  refine Ev.cVi 24 [(0, 0)] [] fX8_users_28 lkX8_users_117 8 TX8 22 rfl rfl rfl eX8_fails_0 ?_
  refine Ev.if_eq fX8_users_31 rfl (by decide) (fun h31 => ?_) (fun h31 => by exfalso; revert h31; decide)
  refine Ev.aload_n_1 fX8_users_38 rfl ?_
  refine Ev.aload_n_1 fX8_users_39 rfl ?_
  refine Ev.iload_n fX8_users_40 rfl ?_
  refine Ev.bipush fX8_users_41 rfl ?_
  refine Ev.iload_n fX8_users_43 rfl ?_
  refine Ev.iadd fX8_users_44 ?_
  refine Ev.cVi 24 [(0, v), (0, (18 + s))] [(1, 24)] fX8_users_45 lkX8_users_72 8 TX8 22 rfl rfl rfl (eX8_of_mk H ⟨by omega, by omega⟩ ⟨by omega, by omega⟩) ?_
  refine Ev.iload_n fX8_users_48 rfl ?_
  refine Ev.cVi 24 [(0, (ja 6 (v * 31 + s))), (0, s)] [] fX8_users_49 lkX8_users_146 8 TX8 22 rfl rfl rfl (eX8_usersOf H ⟨by omega, by omega⟩ ⟨by omega, by omega⟩) ?_
  exact Ev.zI fX8_users_52 rfl rfl
theorem eX8_versionOf_c1 {G : zG} {ia ja : Nat → Int → Int} {w : (Nat → Int → Int) × (Nat → Int → Int)} {v what : Int} (H : zRw ja (ia 25)) (hrv : -2147483648 ≤ v ∧ v ≤ 2147483647) (hrwhat : -2147483648 ≤ what ∧ what ≤ 2147483647) (hx : ¬ (0 ≤ v ∧ v < ja 3 0)) : Ev G mX8_versionOf 0 [(1, 24), (0, v), (0, what)] [] (zH ia w) (.inl (some (0, 0)), zH (zu ia 24 8 1) w, 0, 0) := by
  have I := H.1
  have hn := I.1
  refine Ev.aload_n_1 fX8_versionOf_0 rfl ?_
  refine Ev.aload_n_1 fX8_versionOf_1 rfl ?_
  refine Ev.iload_n fX8_versionOf_2 rfl ?_
  refine Ev.cVi 24 [(0, v)] [(1, 24)] fX8_versionOf_3 lkX8_versionOf_104 8 TX8 22 rfl rfl rfl (eX8_isVersion_f H ⟨by omega, by omega⟩ (by omega)) ?_
  refine Ev.if_ne fX8_versionOf_6 rfl (by decide) (fun h6 => by exfalso; revert h6; decide) (fun h6 => ?_)
  refine Ev.iconst fX8_versionOf_9 ?_
  refine Ev.goto fX8_versionOf_10 rfl ?_
  refine Ev.cVi 24 [(0, 1)] [] fX8_versionOf_28 lkX8_versionOf_117 8 TX8 22 rfl rfl rfl eX8_fails_1 ?_
  refine Ev.if_eq fX8_versionOf_31 rfl (by decide) (fun h31 => by exfalso; revert h31; decide) (fun h31 => ?_)
  refine Ev.iconst fX8_versionOf_34 ?_
  exact Ev.zI fX8_versionOf_35 rfl rfl
theorem eX8_versionOf_c2 {G : zG} {ia ja : Nat → Int → Int} {w : (Nat → Int → Int) × (Nat → Int → Int)} {v what : Int} (H : zRw ja (ia 25)) (hrv : -2147483648 ≤ v ∧ v ≤ 2147483647) (hrwhat : -2147483648 ≤ what ∧ what ≤ 2147483647) (hc0 : 0 ≤ v ∧ v < ja 3 0) (hx : ¬ (0 ≤ what ∧ what ≤ 6)) : Ev G mX8_versionOf 0 [(1, 24), (0, v), (0, what)] [] (zH ia w) (.inl (some (0, 0)), zH (zu ia 24 8 2) w, 0, 0) := by
  have I := H.1
  have hn := I.1
  refine Ev.aload_n_1 fX8_versionOf_0 rfl ?_
  refine Ev.aload_n_1 fX8_versionOf_1 rfl ?_
  refine Ev.iload_n fX8_versionOf_2 rfl ?_
  refine Ev.cVi 24 [(0, v)] [(1, 24)] fX8_versionOf_3 lkX8_versionOf_104 8 TX8 22 rfl rfl rfl (eX8_isVersion_t H ⟨by omega, by omega⟩) ?_
  refine Ev.if_ne fX8_versionOf_6 rfl (by decide) (fun h6 => ?_) (fun h6 => by exfalso; revert h6; decide)
  refine Ev.iload_n fX8_versionOf_13 rfl ?_
  refine Ev.iconst fX8_versionOf_14 ?_
  refine Ev.bipush fX8_versionOf_15 rfl ?_
  refine Ev.cSi [(0, what), (0, 0), (0, 6)] [(1, 24)] fX8_versionOf_17 lkX8_versionOf_68 rfl (eX8_in_f ⟨by omega, by omega⟩ ⟨by omega, by omega⟩ ⟨by omega, by omega⟩ (by omega)) ?_
  refine Ev.if_eq fX8_versionOf_20 rfl (by decide) (fun h20 => ?_) (fun h20 => by exfalso; revert h20; decide)
  refine Ev.iconst fX8_versionOf_27 ?_
  refine Ev.cVi 24 [(0, 2)] [] fX8_versionOf_28 lkX8_versionOf_117 8 TX8 22 rfl rfl rfl eX8_fails_2 ?_
  refine Ev.if_eq fX8_versionOf_31 rfl (by decide) (fun h31 => by exfalso; revert h31; decide) (fun h31 => ?_)
  refine Ev.iconst fX8_versionOf_34 ?_
  exact Ev.zI fX8_versionOf_35 rfl rfl
theorem eX8_versionOf_0 {G : zG} {ia ja : Nat → Int → Int} {w : (Nat → Int → Int) × (Nat → Int → Int)} {v : Int} (H : zRw ja (ia 25)) (hc0 : 0 ≤ v ∧ v < ja 3 0) : Ev G mX8_versionOf 0 [(1, 24), (0, v), (0, 0)] [] (zH ia w) (.inl (some (0, (ja 4 v))), zH (zu ia 24 8 0) w, 0, 0) := by
  have I := H.1
  have hn := I.1
  refine Ev.aload_n_1 fX8_versionOf_0 rfl ?_
  refine Ev.aload_n_1 fX8_versionOf_1 rfl ?_
  refine Ev.iload_n fX8_versionOf_2 rfl ?_
  refine Ev.cVi 24 [(0, v)] [(1, 24)] fX8_versionOf_3 lkX8_versionOf_104 8 TX8 22 rfl rfl rfl (eX8_isVersion_t H ⟨by omega, by omega⟩) ?_
  refine Ev.if_ne fX8_versionOf_6 rfl (by decide) (fun h6 => ?_) (fun h6 => by exfalso; revert h6; decide)
  refine Ev.iload_n fX8_versionOf_13 rfl ?_
  refine Ev.iconst fX8_versionOf_14 ?_
  refine Ev.bipush fX8_versionOf_15 rfl ?_
  refine Ev.cSi [(0, 0), (0, 0), (0, 6)] [(1, 24)] fX8_versionOf_17 lkX8_versionOf_68 rfl (eX8_in_t ⟨by omega, by omega⟩ ⟨by omega, by omega⟩ ⟨by omega, by omega⟩ ⟨by omega, by omega⟩) ?_
  refine Ev.if_eq fX8_versionOf_20 rfl (by decide) (fun h20 => by exfalso; revert h20; decide) (fun h20 => ?_)
  refine Ev.iconst fX8_versionOf_23 ?_
  refine Ev.goto fX8_versionOf_24 rfl ?_
  refine Ev.cVi 24 [(0, 0)] [] fX8_versionOf_28 lkX8_versionOf_117 8 TX8 22 rfl rfl rfl eX8_fails_0 ?_
  refine Ev.if_eq fX8_versionOf_31 rfl (by decide) (fun h31 => ?_) (fun h31 => by exfalso; revert h31; decide)
  refine Ev.iload_n fX8_versionOf_36 rfl ?_
  refine Ev.tableIn fX8_versionOf_37 (by decide) (by decide) rfl rfl ?_
  refine Ev.aload_n_1 fX8_versionOf_76 rfl ?_
  refine Ev.iload_n fX8_versionOf_77 rfl ?_
  refine Ev.iconst fX8_versionOf_78 ?_
  refine Ev.cVi 24 [(0, v), (0, 0)] [] fX8_versionOf_79 lkX8_versionOf_72 8 TX8 22 rfl rfl rfl (eX8_of_par H ⟨by omega, by omega⟩) ?_
  exact Ev.zI fX8_versionOf_82 rfl rfl
theorem eX8_versionOf_1 {G : zG} {ia ja : Nat → Int → Int} {w : (Nat → Int → Int) × (Nat → Int → Int)} {v : Int} (H : zRw ja (ia 25)) (hc0 : 0 ≤ v ∧ v < ja 3 0) : Ev G mX8_versionOf 0 [(1, 24), (0, v), (0, 1)] [] (zH ia w) (.inl (some (0, (ja 5 v))), zH (zu ia 24 8 0) w, 0, 0) := by
  have I := H.1
  have hn := I.1
  refine Ev.aload_n_1 fX8_versionOf_0 rfl ?_
  refine Ev.aload_n_1 fX8_versionOf_1 rfl ?_
  refine Ev.iload_n fX8_versionOf_2 rfl ?_
  refine Ev.cVi 24 [(0, v)] [(1, 24)] fX8_versionOf_3 lkX8_versionOf_104 8 TX8 22 rfl rfl rfl (eX8_isVersion_t H ⟨by omega, by omega⟩) ?_
  refine Ev.if_ne fX8_versionOf_6 rfl (by decide) (fun h6 => ?_) (fun h6 => by exfalso; revert h6; decide)
  refine Ev.iload_n fX8_versionOf_13 rfl ?_
  refine Ev.iconst fX8_versionOf_14 ?_
  refine Ev.bipush fX8_versionOf_15 rfl ?_
  refine Ev.cSi [(0, 1), (0, 0), (0, 6)] [(1, 24)] fX8_versionOf_17 lkX8_versionOf_68 rfl (eX8_in_t ⟨by omega, by omega⟩ ⟨by omega, by omega⟩ ⟨by omega, by omega⟩ ⟨by omega, by omega⟩) ?_
  refine Ev.if_eq fX8_versionOf_20 rfl (by decide) (fun h20 => by exfalso; revert h20; decide) (fun h20 => ?_)
  refine Ev.iconst fX8_versionOf_23 ?_
  refine Ev.goto fX8_versionOf_24 rfl ?_
  refine Ev.cVi 24 [(0, 0)] [] fX8_versionOf_28 lkX8_versionOf_117 8 TX8 22 rfl rfl rfl eX8_fails_0 ?_
  refine Ev.if_eq fX8_versionOf_31 rfl (by decide) (fun h31 => ?_) (fun h31 => by exfalso; revert h31; decide)
  refine Ev.iload_n fX8_versionOf_36 rfl ?_
  refine Ev.tableIn fX8_versionOf_37 (by decide) (by decide) rfl rfl ?_
  refine Ev.aload_n_1 fX8_versionOf_83 rfl ?_
  refine Ev.iload_n fX8_versionOf_84 rfl ?_
  refine Ev.iconst fX8_versionOf_85 ?_
  refine Ev.cVi 24 [(0, v), (0, 1)] [] fX8_versionOf_86 lkX8_versionOf_72 8 TX8 22 rfl rfl rfl (eX8_of_yr H ⟨by omega, by omega⟩) ?_
  exact Ev.zI fX8_versionOf_89 rfl rfl
theorem eX8_versionOf_2 {G : zG} {ia ja : Nat → Int → Int} {w : (Nat → Int → Int) × (Nat → Int → Int)} {v : Int} (H : zRw ja (ia 25)) (hc0 : 0 ≤ v ∧ v < ja 3 0) : Ev G mX8_versionOf 0 [(1, 24), (0, v), (0, 2)] [] (zH ia w) (.inl (some (0, (zanc (ja 4) 40 (ja 4 v)))), zH (zu ia 24 8 0) w, 0, 0) := by
  have I := H.1
  have hn := I.1
  refine Ev.aload_n_1 fX8_versionOf_0 rfl ?_
  refine Ev.aload_n_1 fX8_versionOf_1 rfl ?_
  refine Ev.iload_n fX8_versionOf_2 rfl ?_
  refine Ev.cVi 24 [(0, v)] [(1, 24)] fX8_versionOf_3 lkX8_versionOf_104 8 TX8 22 rfl rfl rfl (eX8_isVersion_t H ⟨by omega, by omega⟩) ?_
  refine Ev.if_ne fX8_versionOf_6 rfl (by decide) (fun h6 => ?_) (fun h6 => by exfalso; revert h6; decide)
  refine Ev.iload_n fX8_versionOf_13 rfl ?_
  refine Ev.iconst fX8_versionOf_14 ?_
  refine Ev.bipush fX8_versionOf_15 rfl ?_
  refine Ev.cSi [(0, 2), (0, 0), (0, 6)] [(1, 24)] fX8_versionOf_17 lkX8_versionOf_68 rfl (eX8_in_t ⟨by omega, by omega⟩ ⟨by omega, by omega⟩ ⟨by omega, by omega⟩ ⟨by omega, by omega⟩) ?_
  refine Ev.if_eq fX8_versionOf_20 rfl (by decide) (fun h20 => by exfalso; revert h20; decide) (fun h20 => ?_)
  refine Ev.iconst fX8_versionOf_23 ?_
  refine Ev.goto fX8_versionOf_24 rfl ?_
  refine Ev.cVi 24 [(0, 0)] [] fX8_versionOf_28 lkX8_versionOf_117 8 TX8 22 rfl rfl rfl eX8_fails_0 ?_
  refine Ev.if_eq fX8_versionOf_31 rfl (by decide) (fun h31 => ?_) (fun h31 => by exfalso; revert h31; decide)
  refine Ev.iload_n fX8_versionOf_36 rfl ?_
  refine Ev.tableIn fX8_versionOf_37 (by decide) (by decide) rfl rfl ?_
  refine Ev.aload_n_1 fX8_versionOf_90 rfl ?_
  refine Ev.iload_n fX8_versionOf_91 rfl ?_
  refine Ev.cVi 24 [(0, v)] [] fX8_versionOf_92 lkX8_versionOf_114 8 TX8 22 rfl rfl rfl (eX8_ancestors H ⟨by omega, by omega⟩) ?_
  exact Ev.zI fX8_versionOf_95 rfl rfl
theorem eX8_versionOf_3 {G : zG} {ia ja : Nat → Int → Int} {w : (Nat → Int → Int) × (Nat → Int → Int)} {v : Int} (H : zRw ja (ia 25)) (hc0 : 0 ≤ v ∧ v < ja 3 0) : Ev G mX8_versionOf 0 [(1, 24), (0, v), (0, 3)] [] (zH ia w) (.inl (some (0, (zsum (fun j => if 1 ≤ j ∧ ja 4 j = v then 1 else 0) (ja 3 0)))), zH (zu ia 24 8 0) w, 0, 0) := by
  have I := H.1
  have hn := I.1
  refine Ev.aload_n_1 fX8_versionOf_0 rfl ?_
  refine Ev.aload_n_1 fX8_versionOf_1 rfl ?_
  refine Ev.iload_n fX8_versionOf_2 rfl ?_
  refine Ev.cVi 24 [(0, v)] [(1, 24)] fX8_versionOf_3 lkX8_versionOf_104 8 TX8 22 rfl rfl rfl (eX8_isVersion_t H ⟨by omega, by omega⟩) ?_
  refine Ev.if_ne fX8_versionOf_6 rfl (by decide) (fun h6 => ?_) (fun h6 => by exfalso; revert h6; decide)
  refine Ev.iload_n fX8_versionOf_13 rfl ?_
  refine Ev.iconst fX8_versionOf_14 ?_
  refine Ev.bipush fX8_versionOf_15 rfl ?_
  refine Ev.cSi [(0, 3), (0, 0), (0, 6)] [(1, 24)] fX8_versionOf_17 lkX8_versionOf_68 rfl (eX8_in_t ⟨by omega, by omega⟩ ⟨by omega, by omega⟩ ⟨by omega, by omega⟩ ⟨by omega, by omega⟩) ?_
  refine Ev.if_eq fX8_versionOf_20 rfl (by decide) (fun h20 => by exfalso; revert h20; decide) (fun h20 => ?_)
  refine Ev.iconst fX8_versionOf_23 ?_
  refine Ev.goto fX8_versionOf_24 rfl ?_
  refine Ev.cVi 24 [(0, 0)] [] fX8_versionOf_28 lkX8_versionOf_117 8 TX8 22 rfl rfl rfl eX8_fails_0 ?_
  refine Ev.if_eq fX8_versionOf_31 rfl (by decide) (fun h31 => ?_) (fun h31 => by exfalso; revert h31; decide)
  refine Ev.iload_n fX8_versionOf_36 rfl ?_
  refine Ev.tableIn fX8_versionOf_37 (by decide) (by decide) rfl rfl ?_
  refine Ev.aload_n_1 fX8_versionOf_96 rfl ?_
  refine Ev.iload_n fX8_versionOf_97 rfl ?_
  refine Ev.cVi 24 [(0, v)] [] fX8_versionOf_98 lkX8_versionOf_131 8 TX8 22 rfl rfl rfl (eX8_children H ⟨by omega, by omega⟩) ?_
  exact Ev.zI fX8_versionOf_101 rfl rfl
theorem eX8_versionOf_4 {G : zG} {ia ja : Nat → Int → Int} {w : (Nat → Int → Int) × (Nat → Int → Int)} {v : Int} (H : zRw ja (ia 25)) (hc0 : 0 ≤ v ∧ v < ja 3 0) : Ev G mX8_versionOf 0 [(1, 24), (0, v), (0, 4)] [] (zH ia w) (.inl (some (0, (zsum (fun s => if ja 6 (v * 31 + s) = v then 1 else 0) 31))), zH (zu ia 24 8 0) w, 0, 0) := by
  have I := H.1
  have hn := I.1
  refine Ev.aload_n_1 fX8_versionOf_0 rfl ?_
  refine Ev.aload_n_1 fX8_versionOf_1 rfl ?_
  refine Ev.iload_n fX8_versionOf_2 rfl ?_
  refine Ev.cVi 24 [(0, v)] [(1, 24)] fX8_versionOf_3 lkX8_versionOf_104 8 TX8 22 rfl rfl rfl (eX8_isVersion_t H ⟨by omega, by omega⟩) ?_
  refine Ev.if_ne fX8_versionOf_6 rfl (by decide) (fun h6 => ?_) (fun h6 => by exfalso; revert h6; decide)
  refine Ev.iload_n fX8_versionOf_13 rfl ?_
  refine Ev.iconst fX8_versionOf_14 ?_
  refine Ev.bipush fX8_versionOf_15 rfl ?_
  refine Ev.cSi [(0, 4), (0, 0), (0, 6)] [(1, 24)] fX8_versionOf_17 lkX8_versionOf_68 rfl (eX8_in_t ⟨by omega, by omega⟩ ⟨by omega, by omega⟩ ⟨by omega, by omega⟩ ⟨by omega, by omega⟩) ?_
  refine Ev.if_eq fX8_versionOf_20 rfl (by decide) (fun h20 => by exfalso; revert h20; decide) (fun h20 => ?_)
  refine Ev.iconst fX8_versionOf_23 ?_
  refine Ev.goto fX8_versionOf_24 rfl ?_
  refine Ev.cVi 24 [(0, 0)] [] fX8_versionOf_28 lkX8_versionOf_117 8 TX8 22 rfl rfl rfl eX8_fails_0 ?_
  refine Ev.if_eq fX8_versionOf_31 rfl (by decide) (fun h31 => ?_) (fun h31 => by exfalso; revert h31; decide)
  refine Ev.iload_n fX8_versionOf_36 rfl ?_
  refine Ev.tableIn fX8_versionOf_37 (by decide) (by decide) rfl rfl ?_
  refine Ev.aload_n_1 fX8_versionOf_102 rfl ?_
  refine Ev.iload_n fX8_versionOf_103 rfl ?_
  refine Ev.cVi 24 [(0, v)] [] fX8_versionOf_104 lkX8_versionOf_134 8 TX8 22 rfl rfl rfl (eX8_made H ⟨by omega, by omega⟩) ?_
  exact Ev.zI fX8_versionOf_107 rfl rfl
theorem eX8_versionOf_5a {G : zG} {ia ja : Nat → Int → Int} {w : (Nat → Int → Int) × (Nat → Int → Int)} {v : Int} (H : zRw ja (ia 25)) (hc0 : 0 ≤ v ∧ v < ja 3 0) (hz : v = 0) : Ev G mX8_versionOf 0 [(1, 24), (0, v), (0, 5)] [] (zH ia w) (.inl (some (0, 0)), zH (zu ia 24 8 0) w, 0, 0) := by
  have I := H.1
  have hn := I.1
  refine Ev.aload_n_1 fX8_versionOf_0 rfl ?_
  refine Ev.aload_n_1 fX8_versionOf_1 rfl ?_
  refine Ev.iload_n fX8_versionOf_2 rfl ?_
  refine Ev.cVi 24 [(0, v)] [(1, 24)] fX8_versionOf_3 lkX8_versionOf_104 8 TX8 22 rfl rfl rfl (eX8_isVersion_t H ⟨by omega, by omega⟩) ?_
  refine Ev.if_ne fX8_versionOf_6 rfl (by decide) (fun h6 => ?_) (fun h6 => by exfalso; revert h6; decide)
  refine Ev.iload_n fX8_versionOf_13 rfl ?_
  refine Ev.iconst fX8_versionOf_14 ?_
  refine Ev.bipush fX8_versionOf_15 rfl ?_
  refine Ev.cSi [(0, 5), (0, 0), (0, 6)] [(1, 24)] fX8_versionOf_17 lkX8_versionOf_68 rfl (eX8_in_t ⟨by omega, by omega⟩ ⟨by omega, by omega⟩ ⟨by omega, by omega⟩ ⟨by omega, by omega⟩) ?_
  refine Ev.if_eq fX8_versionOf_20 rfl (by decide) (fun h20 => by exfalso; revert h20; decide) (fun h20 => ?_)
  refine Ev.iconst fX8_versionOf_23 ?_
  refine Ev.goto fX8_versionOf_24 rfl ?_
  refine Ev.cVi 24 [(0, 0)] [] fX8_versionOf_28 lkX8_versionOf_117 8 TX8 22 rfl rfl rfl eX8_fails_0 ?_
  refine Ev.if_eq fX8_versionOf_31 rfl (by decide) (fun h31 => ?_) (fun h31 => by exfalso; revert h31; decide)
  refine Ev.iload_n fX8_versionOf_36 rfl ?_
  refine Ev.tableIn fX8_versionOf_37 (by decide) (by decide) rfl rfl ?_
  refine Ev.iload_n fX8_versionOf_108 rfl ?_
  refine Ev.if_ne fX8_versionOf_109 rfl ⟨by omega, by omega⟩ (fun h109 => by exfalso; omega) (fun h109 => ?_)
  refine Ev.iconst fX8_versionOf_112 ?_
  refine Ev.goto fX8_versionOf_113 rfl ?_
  exact Ev.zI fX8_versionOf_127 rfl rfl
theorem eX8_versionOf_5b {G : zG} {ia ja : Nat → Int → Int} {w : (Nat → Int → Int) × (Nat → Int → Int)} {v : Int} (H : zRw ja (ia 25)) (hc0 : 0 ≤ v ∧ v < ja 3 0) (hz : v ≠ 0) (hp : 0 ≤ ja 4 v ∧ ja 4 v < ja 3 0) : Ev G mX8_versionOf 0 [(1, 24), (0, v), (0, 5)] [] (zH ia w) (.inl (some (0, (zsum (fun i => if 0 ≤ i ∧ i ≤ 15 ∧ zTo ja v (15 + i) ≠ zTo ja (ja 4 v) (15 + i) then 1 else 0) 16))), zH (zu ia 24 8 0) w, 0, 0) := by
  have I := H.1
  have hn := I.1
  refine Ev.aload_n_1 fX8_versionOf_0 rfl ?_
  refine Ev.aload_n_1 fX8_versionOf_1 rfl ?_
  refine Ev.iload_n fX8_versionOf_2 rfl ?_
  refine Ev.cVi 24 [(0, v)] [(1, 24)] fX8_versionOf_3 lkX8_versionOf_104 8 TX8 22 rfl rfl rfl (eX8_isVersion_t H ⟨by omega, by omega⟩) ?_
  refine Ev.if_ne fX8_versionOf_6 rfl (by decide) (fun h6 => ?_) (fun h6 => by exfalso; revert h6; decide)
  refine Ev.iload_n fX8_versionOf_13 rfl ?_
  refine Ev.iconst fX8_versionOf_14 ?_
  refine Ev.bipush fX8_versionOf_15 rfl ?_
  refine Ev.cSi [(0, 5), (0, 0), (0, 6)] [(1, 24)] fX8_versionOf_17 lkX8_versionOf_68 rfl (eX8_in_t ⟨by omega, by omega⟩ ⟨by omega, by omega⟩ ⟨by omega, by omega⟩ ⟨by omega, by omega⟩) ?_
  refine Ev.if_eq fX8_versionOf_20 rfl (by decide) (fun h20 => by exfalso; revert h20; decide) (fun h20 => ?_)
  refine Ev.iconst fX8_versionOf_23 ?_
  refine Ev.goto fX8_versionOf_24 rfl ?_
  refine Ev.cVi 24 [(0, 0)] [] fX8_versionOf_28 lkX8_versionOf_117 8 TX8 22 rfl rfl rfl eX8_fails_0 ?_
  refine Ev.if_eq fX8_versionOf_31 rfl (by decide) (fun h31 => ?_) (fun h31 => by exfalso; revert h31; decide)
  refine Ev.iload_n fX8_versionOf_36 rfl ?_
  refine Ev.tableIn fX8_versionOf_37 (by decide) (by decide) rfl rfl ?_
  refine Ev.iload_n fX8_versionOf_108 rfl ?_
  refine Ev.if_ne fX8_versionOf_109 rfl ⟨by omega, by omega⟩ (fun h109 => ?_) (fun h109 => by exfalso; omega)
  refine Ev.aload_n_1 fX8_versionOf_116 rfl ?_
  refine Ev.iload_n fX8_versionOf_117 rfl ?_
  refine Ev.aload_n_1 fX8_versionOf_118 rfl ?_
  refine Ev.iload_n fX8_versionOf_119 rfl ?_
  refine Ev.iconst fX8_versionOf_120 ?_
  refine Ev.cVi 24 [(0, v), (0, 0)] [(0, v), (1, 24)] fX8_versionOf_121 lkX8_versionOf_72 8 TX8 22 rfl rfl rfl (eX8_of_par H ⟨by omega, by omega⟩) ?_
  refine Ev.cVi 24 [(0, v), (0, (ja 4 v))] [] fX8_versionOf_124 lkX8_versionOf_137 8 TX8 22 rfl rfl rfl (eX8_apart0 H ⟨by omega, by omega⟩ ⟨by omega, by omega⟩) ?_
  exact Ev.zI fX8_versionOf_127 rfl rfl
theorem eX8_versionOf_6 {G : zG} {ia ja : Nat → Int → Int} {w : (Nat → Int → Int) × (Nat → Int → Int)} {v : Int} (H : zRw ja (ia 25)) (hc0 : 0 ≤ v ∧ v < ja 3 0) : Ev G mX8_versionOf 0 [(1, 24), (0, v), (0, 6)] [] (zH ia w) (.inl (some (0, (zsum (fun h => if ja 8 h = v then 1 else 0) 4))), zH (zu ia 24 8 0) w, 0, 0) := by
  have I := H.1
  have hn := I.1
  refine Ev.aload_n_1 fX8_versionOf_0 rfl ?_
  refine Ev.aload_n_1 fX8_versionOf_1 rfl ?_
  refine Ev.iload_n fX8_versionOf_2 rfl ?_
  refine Ev.cVi 24 [(0, v)] [(1, 24)] fX8_versionOf_3 lkX8_versionOf_104 8 TX8 22 rfl rfl rfl (eX8_isVersion_t H ⟨by omega, by omega⟩) ?_
  refine Ev.if_ne fX8_versionOf_6 rfl (by decide) (fun h6 => ?_) (fun h6 => by exfalso; revert h6; decide)
  refine Ev.iload_n fX8_versionOf_13 rfl ?_
  refine Ev.iconst fX8_versionOf_14 ?_
  refine Ev.bipush fX8_versionOf_15 rfl ?_
  refine Ev.cSi [(0, 6), (0, 0), (0, 6)] [(1, 24)] fX8_versionOf_17 lkX8_versionOf_68 rfl (eX8_in_t ⟨by omega, by omega⟩ ⟨by omega, by omega⟩ ⟨by omega, by omega⟩ ⟨by omega, by omega⟩) ?_
  refine Ev.if_eq fX8_versionOf_20 rfl (by decide) (fun h20 => by exfalso; revert h20; decide) (fun h20 => ?_)
  refine Ev.iconst fX8_versionOf_23 ?_
  refine Ev.goto fX8_versionOf_24 rfl ?_
  refine Ev.cVi 24 [(0, 0)] [] fX8_versionOf_28 lkX8_versionOf_117 8 TX8 22 rfl rfl rfl eX8_fails_0 ?_
  refine Ev.if_eq fX8_versionOf_31 rfl (by decide) (fun h31 => ?_) (fun h31 => by exfalso; revert h31; decide)
  refine Ev.iload_n fX8_versionOf_36 rfl ?_
  refine Ev.tableOut fX8_versionOf_37 (by decide) (by decide) rfl ?_
  refine Ev.aload_n_1 fX8_versionOf_128 rfl ?_
  refine Ev.iload_n fX8_versionOf_129 rfl ?_
  refine Ev.cVi 24 [(0, v)] [] fX8_versionOf_130 lkX8_versionOf_140 8 TX8 22 rfl rfl rfl (eX8_houses H ⟨by omega, by omega⟩) ?_
  exact Ev.zI fX8_versionOf_133 rfl rfl
theorem eX8_areVersions_t {G : zG} {ia ja : Nat → Int → Int} {w : (Nat → Int → Int) × (Nat → Int → Int)} {one other : Int} (H : zRw ja (ia 25)) (hx : (0 ≤ one ∧ one < ja 3 0) ∧ 0 ≤ other ∧ other < ja 3 0) : Ev G mX8_areVersions 0 [(1, 24), (0, one), (0, other)] [] (zH ia w) (.inl (some (0, 1)), zH (zu ia 24 8 0) w, 0, 0) := by
  have I := H.1
  have hn := I.1
  refine Ev.aload_n_1 fX8_areVersions_0 rfl ?_
  refine Ev.aload_n_1 fX8_areVersions_1 rfl ?_
  refine Ev.iload_n fX8_areVersions_2 rfl ?_
  refine Ev.cVi 24 [(0, one)] [(1, 24)] fX8_areVersions_3 lkX8_areVersions_104 8 TX8 22 rfl rfl rfl (eX8_isVersion_t H ⟨by omega, by omega⟩) ?_
  refine Ev.if_eq fX8_areVersions_6 rfl (by decide) (fun h6 => by exfalso; revert h6; decide) (fun h6 => ?_)
  refine Ev.aload_n_1 fX8_areVersions_9 rfl ?_
  refine Ev.iload_n fX8_areVersions_10 rfl ?_
  refine Ev.cVi 24 [(0, other)] [(1, 24)] fX8_areVersions_11 lkX8_areVersions_104 8 TX8 22 rfl rfl rfl (eX8_isVersion_t H ⟨by omega, by omega⟩) ?_
  refine Ev.if_eq fX8_areVersions_14 rfl (by decide) (fun h14 => by exfalso; revert h14; decide) (fun h14 => ?_)
  refine Ev.iconst fX8_areVersions_17 ?_
  refine Ev.goto fX8_areVersions_18 rfl ?_
  refine Ev.cVi 24 [(0, 0)] [] fX8_areVersions_22 lkX8_areVersions_117 8 TX8 22 rfl rfl rfl eX8_fails_0 ?_
  refine Ev.if_ne fX8_areVersions_25 rfl (by decide) (fun h25 => by exfalso; revert h25; decide) (fun h25 => ?_)
  refine Ev.iconst fX8_areVersions_28 ?_
  refine Ev.goto fX8_areVersions_29 rfl ?_
  exact Ev.zZ fX8_areVersions_33 rfl (by first | exact Or.inl rfl | exact Or.inr rfl) rfl
theorem eX8_areVersions_f1 {G : zG} {ia ja : Nat → Int → Int} {w : (Nat → Int → Int) × (Nat → Int → Int)} {one other : Int} (H : zRw ja (ia 25)) (hrone : -2147483648 ≤ one ∧ one ≤ 2147483647) (hx : ¬ (0 ≤ one ∧ one < ja 3 0)) : Ev G mX8_areVersions 0 [(1, 24), (0, one), (0, other)] [] (zH ia w) (.inl (some (0, 0)), zH (zu ia 24 8 1) w, 0, 0) := by
  have I := H.1
  have hn := I.1
  refine Ev.aload_n_1 fX8_areVersions_0 rfl ?_
  refine Ev.aload_n_1 fX8_areVersions_1 rfl ?_
  refine Ev.iload_n fX8_areVersions_2 rfl ?_
  refine Ev.cVi 24 [(0, one)] [(1, 24)] fX8_areVersions_3 lkX8_areVersions_104 8 TX8 22 rfl rfl rfl (eX8_isVersion_f H ⟨by omega, by omega⟩ (by omega)) ?_
  refine Ev.if_eq fX8_areVersions_6 rfl (by decide) (fun h6 => ?_) (fun h6 => by exfalso; revert h6; decide)
  refine Ev.iconst fX8_areVersions_21 ?_
  refine Ev.cVi 24 [(0, 1)] [] fX8_areVersions_22 lkX8_areVersions_117 8 TX8 22 rfl rfl rfl eX8_fails_1 ?_
  refine Ev.if_ne fX8_areVersions_25 rfl (by decide) (fun h25 => ?_) (fun h25 => by exfalso; revert h25; decide)
  refine Ev.iconst fX8_areVersions_32 ?_
  exact Ev.zZ fX8_areVersions_33 rfl (by first | exact Or.inl rfl | exact Or.inr rfl) rfl
theorem eX8_areVersions_f2 {G : zG} {ia ja : Nat → Int → Int} {w : (Nat → Int → Int) × (Nat → Int → Int)} {one other : Int} (H : zRw ja (ia 25)) (hrother : -2147483648 ≤ other ∧ other ≤ 2147483647) (h1 : 0 ≤ one ∧ one < ja 3 0) (hx : ¬ (0 ≤ other ∧ other < ja 3 0)) : Ev G mX8_areVersions 0 [(1, 24), (0, one), (0, other)] [] (zH ia w) (.inl (some (0, 0)), zH (zu ia 24 8 1) w, 0, 0) := by
  have I := H.1
  have hn := I.1
  refine Ev.aload_n_1 fX8_areVersions_0 rfl ?_
  refine Ev.aload_n_1 fX8_areVersions_1 rfl ?_
  refine Ev.iload_n fX8_areVersions_2 rfl ?_
  refine Ev.cVi 24 [(0, one)] [(1, 24)] fX8_areVersions_3 lkX8_areVersions_104 8 TX8 22 rfl rfl rfl (eX8_isVersion_t H ⟨by omega, by omega⟩) ?_
  refine Ev.if_eq fX8_areVersions_6 rfl (by decide) (fun h6 => by exfalso; revert h6; decide) (fun h6 => ?_)
  refine Ev.aload_n_1 fX8_areVersions_9 rfl ?_
  refine Ev.iload_n fX8_areVersions_10 rfl ?_
  refine Ev.cVi 24 [(0, other)] [(1, 24)] fX8_areVersions_11 lkX8_areVersions_104 8 TX8 22 rfl rfl rfl (eX8_isVersion_f H ⟨by omega, by omega⟩ (by omega)) ?_
  refine Ev.if_eq fX8_areVersions_14 rfl (by decide) (fun h14 => ?_) (fun h14 => by exfalso; revert h14; decide)
  refine Ev.iconst fX8_areVersions_21 ?_
  refine Ev.cVi 24 [(0, 1)] [] fX8_areVersions_22 lkX8_areVersions_117 8 TX8 22 rfl rfl rfl eX8_fails_1 ?_
  refine Ev.if_ne fX8_areVersions_25 rfl (by decide) (fun h25 => ?_) (fun h25 => by exfalso; revert h25; decide)
  refine Ev.iconst fX8_areVersions_32 ?_
  exact Ev.zZ fX8_areVersions_33 rfl (by first | exact Or.inl rfl | exact Or.inr rfl) rfl
theorem eX8_areVersions_f {G : zG} {ia ja : Nat → Int → Int} {w : (Nat → Int → Int) × (Nat → Int → Int)} {one other : Int} (H : zRw ja (ia 25)) (hrone : -2147483648 ≤ one ∧ one ≤ 2147483647) (hrother : -2147483648 ≤ other ∧ other ≤ 2147483647) (hx : ¬ ((0 ≤ one ∧ one < ja 3 0) ∧ 0 ≤ other ∧ other < ja 3 0)) : Ev G mX8_areVersions 0 [(1, 24), (0, one), (0, other)] [] (zH ia w) (.inl (some (0, 0)), zH (zu ia 24 8 1) w, 0, 0) := by
  by_cases h1 : 0 ≤ one ∧ one < ja 3 0
  · exact eX8_areVersions_f2 H hrother h1 (fun h => hx ⟨h1, h⟩)
  · exact eX8_areVersions_f1 H hrone h1
theorem eX8_common_c1 {G : zG} {ia ja : Nat → Int → Int} {w : (Nat → Int → Int) × (Nat → Int → Int)} {one other : Int} (H : zRw ja (ia 25)) (hrone : -2147483648 ≤ one ∧ one ≤ 2147483647) (hrother : -2147483648 ≤ other ∧ other ≤ 2147483647) (hx : ¬ ((0 ≤ one ∧ one < ja 3 0) ∧ 0 ≤ other ∧ other < ja 3 0)) : Ev G mX8_common 0 [(1, 24), (0, one), (0, other), (9, 0), (9, 0)] [] (zH ia w) (.inl (some (0, 0)), zH (zu ia 24 8 1) w, 0, 0) := by
  refine Ev.aload_n_1 fX8_common_0 rfl ?_
  refine Ev.iload_n fX8_common_1 rfl ?_
  refine Ev.iload_n fX8_common_2 rfl ?_
  refine Ev.cVi 24 [(0, one), (0, other)] [] fX8_common_3 lkX8_common_143 8 TX8 22 rfl rfl rfl (eX8_areVersions_f H hrone hrother hx) ?_
  refine Ev.if_ne fX8_common_6 rfl (by decide) (fun h6 => by exfalso; revert h6; decide) (fun h6 => ?_)
  refine Ev.iconst fX8_common_9 ?_
  exact Ev.zI fX8_common_10 rfl rfl
theorem eX8_apart_c1 {G : zG} {ia ja : Nat → Int → Int} {w : (Nat → Int → Int) × (Nat → Int → Int)} {one other : Int} (H : zRw ja (ia 25)) (hrone : -2147483648 ≤ one ∧ one ≤ 2147483647) (hrother : -2147483648 ≤ other ∧ other ≤ 2147483647) (hx : ¬ ((0 ≤ one ∧ one < ja 3 0) ∧ 0 ≤ other ∧ other < ja 3 0)) : Ev G mX8_apart 0 [(1, 24), (0, one), (0, other)] [] (zH ia w) (.inl (some (0, 0)), zH (zu ia 24 8 1) w, 0, 0) := by
  refine Ev.aload_n_1 fX8_apart_0 rfl ?_
  refine Ev.iload_n fX8_apart_1 rfl ?_
  refine Ev.iload_n fX8_apart_2 rfl ?_
  refine Ev.cVi 24 [(0, one), (0, other)] [] fX8_apart_3 lkX8_apart_143 8 TX8 22 rfl rfl rfl (eX8_areVersions_f H hrone hrother hx) ?_
  refine Ev.if_eq fX8_apart_6 rfl (by decide) (fun h6 => ?_) (fun h6 => by exfalso; revert h6; decide)
  refine Ev.iconst fX8_apart_18 ?_
  exact Ev.zI fX8_apart_19 rfl rfl
theorem eX8_shared_c1 {G : zG} {ia ja : Nat → Int → Int} {w : (Nat → Int → Int) × (Nat → Int → Int)} {one other : Int} (H : zRw ja (ia 25)) (hrone : -2147483648 ≤ one ∧ one ≤ 2147483647) (hrother : -2147483648 ≤ other ∧ other ≤ 2147483647) (hx : ¬ ((0 ≤ one ∧ one < ja 3 0) ∧ 0 ≤ other ∧ other < ja 3 0)) : Ev G mX8_shared 0 [(1, 24), (0, one), (0, other), (9, 0), (9, 0)] [] (zH ia w) (.inl (some (0, 0)), zH (zu ia 24 8 1) w, 0, 0) := by
  refine Ev.aload_n_1 fX8_shared_0 rfl ?_
  refine Ev.iload_n fX8_shared_1 rfl ?_
  refine Ev.iload_n fX8_shared_2 rfl ?_
  refine Ev.cVi 24 [(0, one), (0, other)] [] fX8_shared_3 lkX8_shared_143 8 TX8 22 rfl rfl rfl (eX8_areVersions_f H hrone hrother hx) ?_
  refine Ev.if_ne fX8_shared_6 rfl (by decide) (fun h6 => by exfalso; revert h6; decide) (fun h6 => ?_)
  refine Ev.iconst fX8_shared_9 ?_
  exact Ev.zI fX8_shared_10 rfl rfl
theorem eX8_isOf_c1 {G : zG} {ia ja : Nat → Int → Int} {w : (Nat → Int → Int) × (Nat → Int → Int)} {one other : Int} (H : zRw ja (ia 25)) (hrone : -2147483648 ≤ one ∧ one ≤ 2147483647) (hrother : -2147483648 ≤ other ∧ other ≤ 2147483647) (hx : ¬ ((0 ≤ one ∧ one < ja 3 0) ∧ 0 ≤ other ∧ other < ja 3 0)) : Ev G mX8_isOf 0 [(1, 24), (0, one), (0, other), (9, 0)] [] (zH ia w) (.inl (some (0, 0)), zH (zu ia 24 8 1) w, 0, 0) := by
  refine Ev.aload_n_1 fX8_isOf_0 rfl ?_
  refine Ev.iload_n fX8_isOf_1 rfl ?_
  refine Ev.iload_n fX8_isOf_2 rfl ?_
  refine Ev.cVi 24 [(0, one), (0, other)] [] fX8_isOf_3 lkX8_isOf_143 8 TX8 22 rfl rfl rfl (eX8_areVersions_f H hrone hrother hx) ?_
  refine Ev.if_ne fX8_isOf_6 rfl (by decide) (fun h6 => by exfalso; revert h6; decide) (fun h6 => ?_)
  refine Ev.iconst fX8_isOf_9 ?_
  exact Ev.zZ fX8_isOf_10 rfl (by first | exact Or.inl rfl | exact Or.inr rfl) rfl
theorem eX8_apart_0 {G : zG} {ia ja : Nat → Int → Int} {w : (Nat → Int → Int) × (Nat → Int → Int)} {one other : Int} (H : zRw ja (ia 25)) (hx : (0 ≤ one ∧ one < ja 3 0) ∧ 0 ≤ other ∧ other < ja 3 0) : Ev G mX8_apart 0 [(1, 24), (0, one), (0, other)] [] (zH ia w) (.inl (some (0, (zsum (fun i => if 0 ≤ i ∧ i ≤ 15 ∧ zTo ja one (15 + i) ≠ zTo ja other (15 + i) then 1 else 0) 16))), zH (zu ia 24 8 0) w, 0, 0) := by
  have I := H.1
  have hn := I.1
  refine Ev.aload_n_1 fX8_apart_0 rfl ?_
  refine Ev.iload_n fX8_apart_1 rfl ?_
  refine Ev.iload_n fX8_apart_2 rfl ?_
  refine Ev.cVi 24 [(0, one), (0, other)] [] fX8_apart_3 lkX8_apart_143 8 TX8 22 rfl rfl rfl (eX8_areVersions_t H hx) ?_
  refine Ev.if_eq fX8_apart_6 rfl (by decide) (fun h6 => by exfalso; revert h6; decide) (fun h6 => ?_)
  refine Ev.aload_n_1 fX8_apart_9 rfl ?_
  refine Ev.iload_n fX8_apart_10 rfl ?_
  refine Ev.iload_n fX8_apart_11 rfl ?_
  refine Ev.cVi 24 [(0, one), (0, other)] [] fX8_apart_12 lkX8_apart_137 8 TX8 22 rfl rfl rfl (eX8_apart0 H ⟨by omega, by omega⟩ ⟨by omega, by omega⟩) ?_
  refine Ev.goto fX8_apart_15 rfl ?_
  exact Ev.zI fX8_apart_19 rfl rfl
theorem eX8_shared_0_L {G : zG} {ia ja : Nat → Int → Int} {w : (Nat → Int → Int) × (Nat → Int → Int)} {one other : Int} (H : zRw ja (ia 25)) (hx : (0 ≤ one ∧ one < ja 3 0) ∧ 0 ≤ other ∧ other < ja 3 0) : ∀ (n : Nat) (k acc : Int), (31 - k < n) → (0 ≤ k) → (k ≤ 31) → (acc = zsum (fun s => if ja 6 (one * 31 + s) = ja 6 (other * 31 + s) then 1 else 0) k) → Ev G mX8_shared 16 [(1, 24), (0, one), (0, other), (0, acc), (0, k)] [] (zH ia w) (.inl (some (0, zsum (fun s => if ja 6 (one * 31 + s) = ja 6 (other * 31 + s) then 1 else 0) (31))), zH ia w, 0, 0) := by
  intro n
  induction n with
  | zero =>
    intro k acc hN hk0 hk1 hacc
    exact absurd hN (by omega)
  | succ n ih =>
    intro k acc hN hk0 hk1 hacc
    have I := H.1
    have hn := I.1
    refine Ev.iload fX8_shared_16 rfl ?_
    refine Ev.bipush fX8_shared_18 rfl ?_
    refine Ev.icmp_ge fX8_shared_20 rfl ⟨by omega, by omega⟩ (by decide) (fun h20 => ?_) (fun h20 => ?_)
    · refine Ev.iload_n fX8_shared_60 rfl ?_
      exact Ev.zI fX8_shared_61 rfl (by rw [hacc, show k = 31 by omega])
    · refine Ev.iload_n fX8_shared_23 rfl ?_
      refine Ev.aload_n_1 fX8_shared_24 rfl ?_
      refine Ev.iload_n fX8_shared_25 rfl ?_
      refine Ev.bipush fX8_shared_26 rfl ?_
      refine Ev.iload fX8_shared_28 rfl ?_
      refine Ev.iadd fX8_shared_30 ?_
      refine Ev.cVi 24 [(0, one), (0, (18 + k))] [(0, acc)] fX8_shared_31 lkX8_shared_72 8 TX8 22 rfl rfl rfl (eX8_of_mk H ⟨by omega, by omega⟩ ⟨by omega, by omega⟩) ?_
      refine Ev.aload_n_1 fX8_shared_34 rfl ?_
      refine Ev.iload_n fX8_shared_35 rfl ?_
      refine Ev.bipush fX8_shared_36 rfl ?_
      refine Ev.iload fX8_shared_38 rfl ?_
      refine Ev.iadd fX8_shared_40 ?_
      refine Ev.cVi 24 [(0, other), (0, (18 + k))] [(0, (ja 6 (one * 31 + k))), (0, acc)] fX8_shared_41 lkX8_shared_72 8 TX8 22 rfl rfl rfl (eX8_of_mk H ⟨by omega, by omega⟩ ⟨by omega, by omega⟩) ?_
      have q1 := I.2.2.1 one k hx.1.1 hx.1.2 (by omega) (by omega)
      have q2 := I.2.2.1 other k hx.2.1 hx.2.2 (by omega) (by omega)
      refine Ev.icmp_ne fX8_shared_44 rfl ⟨by omega, by omega⟩ ⟨by omega, by omega⟩ (fun h44 => ?_) (fun h44 => ?_)
      · refine Ev.iconst fX8_shared_51 ?_
        refine Ev.iadd fX8_shared_52 ?_
        refine Ev.sistore_n [(1, 24), (0, one), (0, other), (0, (acc + 0)), (0, k)] fX8_shared_53 rfl rfl ?_
        refine Ev.siinc [(1, 24), (0, one), (0, other), (0, (acc + 0)), (0, (k + 1))] fX8_shared_54 rfl rfl rfl ?_
        refine Ev.goto fX8_shared_57 rfl ?_
        exact ih (k + 1) (acc + 0) (by omega) (by omega) (by omega) (by rw [zsum_s (by omega), hacc]; rw [if_neg (by omega)])
      · refine Ev.iconst fX8_shared_47 ?_
        refine Ev.goto fX8_shared_48 rfl ?_
        refine Ev.iadd fX8_shared_52 ?_
        refine Ev.sistore_n [(1, 24), (0, one), (0, other), (0, (acc + 1)), (0, k)] fX8_shared_53 rfl rfl ?_
        refine Ev.siinc [(1, 24), (0, one), (0, other), (0, (acc + 1)), (0, (k + 1))] fX8_shared_54 rfl rfl rfl ?_
        refine Ev.goto fX8_shared_57 rfl ?_
        exact ih (k + 1) (acc + 1) (by omega) (by omega) (by omega) (by rw [zsum_s (by omega), hacc]; rw [if_pos (by omega)])
theorem eX8_shared_0 {G : zG} {ia ja : Nat → Int → Int} {w : (Nat → Int → Int) × (Nat → Int → Int)} {one other : Int} (H : zRw ja (ia 25)) (hx : (0 ≤ one ∧ one < ja 3 0) ∧ 0 ≤ other ∧ other < ja 3 0) : Ev G mX8_shared 0 [(1, 24), (0, one), (0, other), (9, 0), (9, 0)] [] (zH ia w) (.inl (some (0, (zsum (fun s => if ja 6 (one * 31 + s) = ja 6 (other * 31 + s) then 1 else 0) (31)))), zH (zu ia 24 8 0) w, 0, 0) := by
  have I := H.1
  have hn := I.1
  refine Ev.aload_n_1 fX8_shared_0 rfl ?_
  refine Ev.iload_n fX8_shared_1 rfl ?_
  refine Ev.iload_n fX8_shared_2 rfl ?_
  refine Ev.cVi 24 [(0, one), (0, other)] [] fX8_shared_3 lkX8_shared_143 8 TX8 22 rfl rfl rfl (eX8_areVersions_t H hx) ?_
  refine Ev.if_ne fX8_shared_6 rfl (by decide) (fun h6 => ?_) (fun h6 => by exfalso; revert h6; decide)
  refine Ev.iconst fX8_shared_11 ?_
  refine Ev.sistore_n [(1, 24), (0, one), (0, other), (0, 0), (9, 0)] fX8_shared_12 rfl rfl ?_
  refine Ev.iconst fX8_shared_13 ?_
  refine Ev.sistore [(1, 24), (0, one), (0, other), (0, 0), (0, 0)] fX8_shared_14 rfl rfl ?_
  exact eX8_shared_0_L (ia := zu ia 24 8 0) H hx 2000 0 0 (by omega) (by omega) (by omega) rfl
theorem eX8_has_x {G : zG} {ia : Nat → Int → Int} {w : (Nat → Int → Int) × (Nat → Int → Int)} {s a b : Int} (LH : zLH ia) (hs : 0 ≤ s ∧ s < 31) (hra : -2147483648 ≤ a ∧ a ≤ 2147483647) (hrb : -2147483648 ≤ b ∧ b ≤ 2147483647) : Ev G mX8_has 0 [(1, 24), (0, s), (0, a), (0, b)] [] (zH ia w) (.inl (some (0, (if zlow s ≤ b ∧ a ≤ zhig s then 1 else 0))), zH ia w, 0, 0) := by
  have hzs := zspan hs
  refine Ev.aload_n_1 fX8_has_0 rfl ?_
  refine Ev.gR 24 17 31 fX8_has_1 (flX8_33 rfl) rfl rfl rfl ?_
  refine Ev.iload_n fX8_has_4 rfl ?_
  refine Ev.ld 31 31 (v := (zlow s)) fX8_has_5 rfl rfl ⟨by omega, by omega⟩ (LH.1 s (by omega) (by omega)) ?_
  refine Ev.iload_n fX8_has_6 rfl ?_
  refine Ev.icmp_gt fX8_has_7 rfl ⟨by omega, by omega⟩ ⟨by omega, by omega⟩ (fun h7 => ?_) (fun h7 => ?_)
  · refine Ev.iconst fX8_has_24 ?_
    exact Ev.zZ fX8_has_25 rfl (by first | exact Or.inl rfl | exact Or.inr rfl) (by rw [if_neg (by omega)])
  · refine Ev.iload_n fX8_has_10 rfl ?_
    refine Ev.aload_n_1 fX8_has_11 rfl ?_
    refine Ev.gR 24 18 32 fX8_has_12 (flX8_36 rfl) rfl rfl rfl ?_
    refine Ev.iload_n fX8_has_15 rfl ?_
    refine Ev.ld 32 31 (v := (zhig s)) fX8_has_16 rfl rfl ⟨by omega, by omega⟩ (LH.2 s (by omega) (by omega)) ?_
    refine Ev.icmp_gt fX8_has_17 rfl ⟨by omega, by omega⟩ ⟨by omega, by omega⟩ (fun h17 => ?_) (fun h17 => ?_)
    · refine Ev.iconst fX8_has_24 ?_
      exact Ev.zZ fX8_has_25 rfl (by first | exact Or.inl rfl | exact Or.inr rfl) (by rw [if_neg (by omega)])
    · refine Ev.iconst fX8_has_20 ?_
      refine Ev.goto fX8_has_21 rfl ?_
      exact Ev.zZ fX8_has_25 rfl (by first | exact Or.inl rfl | exact Or.inr rfl) (by rw [if_pos (by omega)])
theorem eX8_within_x {G : zG} {ia : Nat → Int → Int} {w : (Nat → Int → Int) × (Nat → Int → Int)} {s a b : Int} (LH : zLH ia) (hs : 0 ≤ s ∧ s < 31) (hra : -2147483648 ≤ a ∧ a ≤ 2147483647) (hrb : -2147483648 ≤ b ∧ b ≤ 2147483647) : Ev G mX8_isWithin0 0 [(1, 24), (0, s), (0, a), (0, b)] [] (zH ia w) (.inl (some (0, (if a ≤ zlow s ∧ zhig s ≤ b then 1 else 0))), zH ia w, 0, 0) := by
  have hzs := zspan hs
  refine Ev.iload_n fX8_isWithin0_0 rfl ?_
  refine Ev.aload_n_1 fX8_isWithin0_1 rfl ?_
  refine Ev.gR 24 17 31 fX8_isWithin0_2 (flX8_33 rfl) rfl rfl rfl ?_
  refine Ev.iload_n fX8_isWithin0_5 rfl ?_
  refine Ev.ld 31 31 (v := (zlow s)) fX8_isWithin0_6 rfl rfl ⟨by omega, by omega⟩ (LH.1 s (by omega) (by omega)) ?_
  refine Ev.icmp_gt fX8_isWithin0_7 rfl ⟨by omega, by omega⟩ ⟨by omega, by omega⟩ (fun h7 => ?_) (fun h7 => ?_)
  · refine Ev.iconst fX8_isWithin0_24 ?_
    exact Ev.zZ fX8_isWithin0_25 rfl (by first | exact Or.inl rfl | exact Or.inr rfl) (by rw [if_neg (by omega)])
  · refine Ev.aload_n_1 fX8_isWithin0_10 rfl ?_
    refine Ev.gR 24 18 32 fX8_isWithin0_11 (flX8_36 rfl) rfl rfl rfl ?_
    refine Ev.iload_n fX8_isWithin0_14 rfl ?_
    refine Ev.ld 32 31 (v := (zhig s)) fX8_isWithin0_15 rfl rfl ⟨by omega, by omega⟩ (LH.2 s (by omega) (by omega)) ?_
    refine Ev.iload_n fX8_isWithin0_16 rfl ?_
    refine Ev.icmp_gt fX8_isWithin0_17 rfl ⟨by omega, by omega⟩ ⟨by omega, by omega⟩ (fun h17 => ?_) (fun h17 => ?_)
    · refine Ev.iconst fX8_isWithin0_24 ?_
      exact Ev.zZ fX8_isWithin0_25 rfl (by first | exact Or.inl rfl | exact Or.inr rfl) (by rw [if_neg (by omega)])
    · refine Ev.iconst fX8_isWithin0_20 ?_
      refine Ev.goto fX8_isWithin0_21 rfl ?_
      exact Ev.zZ fX8_isWithin0_25 rfl (by first | exact Or.inl rfl | exact Or.inr rfl) (by rw [if_pos (by omega)])
theorem eX8_has_b {G : zG} {ia : Nat → Int → Int} {w : (Nat → Int → Int) × (Nat → Int → Int)} (LH : zLH ia) (s a b : Int) (hs : 0 ≤ s ∧ s < 31) (hra : -2147483648 ≤ a ∧ a ≤ 2147483647) (hrb : -2147483648 ≤ b ∧ b ≤ 2147483647) : ∃ z : Int, (z = 0 ∨ z = 1) ∧ (z = 1 ↔ zlow s ≤ b ∧ a ≤ zhig s) ∧ Ev G mX8_has 0 [(1, 24), (0, s), (0, a), (0, b)] [] (zH ia w) (.inl (some (0, z)), zH ia w, 0, 0) := by
  refine ⟨_, ?_, ?_, eX8_has_x LH hs hra hrb⟩
  · split <;> simp
  · split <;> simp [*]
theorem eX8_within_b {G : zG} {ia : Nat → Int → Int} {w : (Nat → Int → Int) × (Nat → Int → Int)} (LH : zLH ia) (s a b : Int) (hs : 0 ≤ s ∧ s < 31) (hra : -2147483648 ≤ a ∧ a ≤ 2147483647) (hrb : -2147483648 ≤ b ∧ b ≤ 2147483647) : ∃ z : Int, (z = 0 ∨ z = 1) ∧ (z = 1 ↔ a ≤ zlow s ∧ zhig s ≤ b) ∧ Ev G mX8_isWithin0 0 [(1, 24), (0, s), (0, a), (0, b)] [] (zH ia w) (.inl (some (0, z)), zH ia w, 0, 0) := by
  refine ⟨_, ?_, ?_, eX8_within_x LH hs hra hrb⟩
  · split <;> simp
  · split <;> simp [*]
theorem eX8_wouldMake_c1 {G : zG} {ia : Nat → Int → Int} {w : (Nat → Int → Int) × (Nat → Int → Int)} {first last : Int} (hrfirst : -2147483648 ≤ first ∧ first ≤ 2147483647) (hrlast : -2147483648 ≤ last ∧ last ≤ 2147483647) (hx : ¬ (0 ≤ first ∧ first ≤ last ∧ last < 16)) : Ev G mX8_wouldMake 0 [(1, 24), (0, first), (0, last), (9, 0), (9, 0)] [] (zH ia w) (.inl (some (0, 0)), zH (zu ia 24 8 1) w, 0, 0) := by
  refine Ev.aload_n_1 fX8_wouldMake_0 rfl ?_
  refine Ev.iload_n fX8_wouldMake_1 rfl ?_
  refine Ev.iload_n fX8_wouldMake_2 rfl ?_
  refine Ev.cSi [(0, first), (0, last)] [(1, 24)] fX8_wouldMake_3 lkX8_wouldMake_120 rfl (eX8_areLines_f ⟨by omega, by omega⟩ ⟨by omega, by omega⟩ (by omega)) ?_
  refine Ev.if_eq fX8_wouldMake_6 rfl (by decide) (fun h6 => ?_) (fun h6 => by exfalso; revert h6; decide)
  refine Ev.iconst fX8_wouldMake_13 ?_
  refine Ev.cVi 24 [(0, 1)] [] fX8_wouldMake_14 lkX8_wouldMake_117 8 TX8 22 rfl rfl rfl eX8_fails_1 ?_
  refine Ev.if_eq fX8_wouldMake_17 rfl (by decide) (fun h17 => by exfalso; revert h17; decide) (fun h17 => ?_)
  refine Ev.iconst fX8_wouldMake_20 ?_
  exact Ev.zI fX8_wouldMake_21 rfl rfl
theorem eX8_wouldMake_0_L {G : zG} {ia ja : Nat → Int → Int} {w : (Nat → Int → Int) × (Nat → Int → Int)} {first last : Int} (H : zRw ja (ia 25)) (LH : zLH ia) (hc0 : 0 ≤ first ∧ first ≤ last ∧ last < 16) : ∀ (n : Nat) (k acc : Int), (31 - k < n) → (0 ≤ k) → (k ≤ 31) → (acc = zsum (fun s => if (zlow s ≤ last ∧ first ≤ zhig s) ∧ (zlow s < first ∨ last < zhig s) then 1 else 0) k) → Ev G mX8_wouldMake 27 [(1, 24), (0, first), (0, last), (0, acc), (0, k)] [] (zH ia w) (.inl (some (0, zsum (fun s => if (zlow s ≤ last ∧ first ≤ zhig s) ∧ (zlow s < first ∨ last < zhig s) then 1 else 0) (31))), zH ia w, 0, 0) := by
  intro n
  induction n with
  | zero =>
    intro k acc hN hk0 hk1 hacc
    exact absurd hN (by omega)
  | succ n ih =>
    intro k acc hN hk0 hk1 hacc
    have I := H.1
    have hn := I.1
    refine Ev.iload fX8_wouldMake_27 rfl ?_
    refine Ev.bipush fX8_wouldMake_29 rfl ?_
    refine Ev.icmp_ge fX8_wouldMake_31 rfl ⟨by omega, by omega⟩ (by decide) (fun h31 => ?_) (fun h31 => ?_)
    · refine Ev.iload_n fX8_wouldMake_70 rfl ?_
      exact Ev.zI fX8_wouldMake_71 rfl (by rw [hacc, show k = 31 by omega])
    · refine Ev.iload_n fX8_wouldMake_34 rfl ?_
      refine Ev.aload_n_1 fX8_wouldMake_35 rfl ?_
      refine Ev.iload fX8_wouldMake_36 rfl ?_
      refine Ev.iload_n fX8_wouldMake_38 rfl ?_
      refine Ev.iload_n fX8_wouldMake_39 rfl ?_
      obtain ⟨b67, ga67, gb67, ge67⟩ := eX8_has_b (G := G) (ia := ia) (w := w) LH k first last ⟨by omega, by omega⟩ ⟨by omega, by omega⟩ ⟨by omega, by omega⟩
      refine Ev.cVi 24 [(0, k), (0, first), (0, last)] [(0, acc)] fX8_wouldMake_40 lkX8_wouldMake_101 8 TX8 22 rfl rfl rfl ge67 ?_
      refine Ev.if_eq fX8_wouldMake_43 rfl ⟨by omega, by omega⟩ (fun h43 => ?_) (fun h43 => ?_)
      · refine Ev.iconst fX8_wouldMake_61 ?_
        refine Ev.iadd fX8_wouldMake_62 ?_
        refine Ev.sistore_n [(1, 24), (0, first), (0, last), (0, (acc + 0)), (0, k)] fX8_wouldMake_63 rfl rfl ?_
        refine Ev.siinc [(1, 24), (0, first), (0, last), (0, (acc + 0)), (0, (k + 1))] fX8_wouldMake_64 rfl rfl rfl ?_
        refine Ev.goto fX8_wouldMake_67 rfl ?_
        exact ih (k + 1) (acc + 0) (by omega) (by omega) (by omega) (by rw [zsum_s (by omega), hacc]; rw [if_neg (by omega)])
      · refine Ev.aload_n_1 fX8_wouldMake_46 rfl ?_
        refine Ev.iload fX8_wouldMake_47 rfl ?_
        refine Ev.iload_n fX8_wouldMake_49 rfl ?_
        refine Ev.iload_n fX8_wouldMake_50 rfl ?_
        obtain ⟨b68, ga68, gb68, ge68⟩ := eX8_within_b (G := G) (ia := ia) (w := w) LH k first last ⟨by omega, by omega⟩ ⟨by omega, by omega⟩ ⟨by omega, by omega⟩
        refine Ev.cVi 24 [(0, k), (0, first), (0, last)] [(0, acc)] fX8_wouldMake_51 lkX8_wouldMake_111 8 TX8 22 rfl rfl rfl ge68 ?_
        refine Ev.if_ne fX8_wouldMake_54 rfl ⟨by omega, by omega⟩ (fun h54 => ?_) (fun h54 => ?_)
        · refine Ev.iconst fX8_wouldMake_61 ?_
          refine Ev.iadd fX8_wouldMake_62 ?_
          refine Ev.sistore_n [(1, 24), (0, first), (0, last), (0, (acc + 0)), (0, k)] fX8_wouldMake_63 rfl rfl ?_
          refine Ev.siinc [(1, 24), (0, first), (0, last), (0, (acc + 0)), (0, (k + 1))] fX8_wouldMake_64 rfl rfl rfl ?_
          refine Ev.goto fX8_wouldMake_67 rfl ?_
          exact ih (k + 1) (acc + 0) (by omega) (by omega) (by omega) (by rw [zsum_s (by omega), hacc]; rw [if_neg (by omega)])
        · refine Ev.iconst fX8_wouldMake_57 ?_
          refine Ev.goto fX8_wouldMake_58 rfl ?_
          refine Ev.iadd fX8_wouldMake_62 ?_
          refine Ev.sistore_n [(1, 24), (0, first), (0, last), (0, (acc + 1)), (0, k)] fX8_wouldMake_63 rfl rfl ?_
          refine Ev.siinc [(1, 24), (0, first), (0, last), (0, (acc + 1)), (0, (k + 1))] fX8_wouldMake_64 rfl rfl rfl ?_
          refine Ev.goto fX8_wouldMake_67 rfl ?_
          exact ih (k + 1) (acc + 1) (by omega) (by omega) (by omega) (by rw [zsum_s (by omega), hacc]; rw [if_pos (by omega)])
theorem eX8_wouldMake_0 {G : zG} {ia ja : Nat → Int → Int} {w : (Nat → Int → Int) × (Nat → Int → Int)} {first last : Int} (H : zRw ja (ia 25)) (LH : zLH ia) (hc0 : 0 ≤ first ∧ first ≤ last ∧ last < 16) : Ev G mX8_wouldMake 0 [(1, 24), (0, first), (0, last), (9, 0), (9, 0)] [] (zH ia w) (.inl (some (0, (zsum (fun s => if (zlow s ≤ last ∧ first ≤ zhig s) ∧ (zlow s < first ∨ last < zhig s) then 1 else 0) (31)))), zH (zu ia 24 8 0) w, 0, 0) := by
  have I := H.1
  have hn := I.1
  refine Ev.aload_n_1 fX8_wouldMake_0 rfl ?_
  refine Ev.iload_n fX8_wouldMake_1 rfl ?_
  refine Ev.iload_n fX8_wouldMake_2 rfl ?_
  refine Ev.cSi [(0, first), (0, last)] [(1, 24)] fX8_wouldMake_3 lkX8_wouldMake_120 rfl (eX8_areLines_t ⟨by omega, by omega, by omega⟩) ?_
  refine Ev.if_eq fX8_wouldMake_6 rfl (by decide) (fun h6 => by exfalso; revert h6; decide) (fun h6 => ?_)
  refine Ev.iconst fX8_wouldMake_9 ?_
  refine Ev.goto fX8_wouldMake_10 rfl ?_
  refine Ev.cVi 24 [(0, 0)] [] fX8_wouldMake_14 lkX8_wouldMake_117 8 TX8 22 rfl rfl rfl eX8_fails_0 ?_
  refine Ev.if_eq fX8_wouldMake_17 rfl (by decide) (fun h17 => ?_) (fun h17 => by exfalso; revert h17; decide)
  refine Ev.iconst fX8_wouldMake_22 ?_
  refine Ev.sistore_n [(1, 24), (0, first), (0, last), (0, 0), (9, 0)] fX8_wouldMake_23 rfl rfl ?_
  refine Ev.iconst fX8_wouldMake_24 ?_
  refine Ev.sistore [(1, 24), (0, first), (0, last), (0, 0), (0, 0)] fX8_wouldMake_25 rfl rfl ?_
  exact eX8_wouldMake_0_L (ia := zu ia 24 8 0) H LH hc0 2000 0 0 (by omega) (by omega) (by omega) rfl
theorem eX8_alike_c1 {G : zG} {ia ja : Nat → Int → Int} {w : (Nat → Int → Int) × (Nat → Int → Int)} {v : Int} (H : zRw ja (ia 25)) (hrv : -2147483648 ≤ v ∧ v ≤ 2147483647) (hx : ¬ (0 ≤ v ∧ v < ja 3 0)) : Ev G mX8_alike 0 [(1, 24), (0, v), (9, 0), (9, 0)] [] (zH ia w) (.inl (some (0, 0)), zH (zu ia 24 8 1) w, 0, 0) := by
  have I := H.1
  have hn := I.1
  refine Ev.aload_n_1 fX8_alike_0 rfl ?_
  refine Ev.aload_n_1 fX8_alike_1 rfl ?_
  refine Ev.iload_n fX8_alike_2 rfl ?_
  refine Ev.cVi 24 [(0, v)] [(1, 24)] fX8_alike_3 lkX8_alike_104 8 TX8 22 rfl rfl rfl (eX8_isVersion_f H ⟨by omega, by omega⟩ (by omega)) ?_
  refine Ev.if_eq fX8_alike_6 rfl (by decide) (fun h6 => ?_) (fun h6 => by exfalso; revert h6; decide)
  refine Ev.iconst fX8_alike_13 ?_
  refine Ev.cVi 24 [(0, 1)] [] fX8_alike_14 lkX8_alike_117 8 TX8 22 rfl rfl rfl eX8_fails_1 ?_
  refine Ev.if_eq fX8_alike_17 rfl (by decide) (fun h17 => by exfalso; revert h17; decide) (fun h17 => ?_)
  refine Ev.iconst fX8_alike_20 ?_
  exact Ev.zI fX8_alike_21 rfl rfl
theorem eX8_alike_0_L {G : zG} {ia ja : Nat → Int → Int} {w : (Nat → Int → Int) × (Nat → Int → Int)} {v : Int} (H : zRw ja (ia 25)) (hc0 : 0 ≤ v ∧ v < ja 3 0) : ∀ (n : Nat) (k acc : Int), (ja 3 0 - k < n) → (0 ≤ k) → (k ≤ ja 3 0) → (acc = zsum (fun j => if j ≠ v ∧ (zsum (fun i => if 0 ≤ i ∧ i ≤ 15 ∧ zTo ja j (15 + i) ≠ zTo ja v (15 + i) then 1 else 0) 16) = 0 then 1 else 0) k) → Ev G mX8_alike 26 [(1, 24), (0, v), (0, acc), (0, k)] [] (zH ia w) (.inl (some (0, zsum (fun j => if j ≠ v ∧ (zsum (fun i => if 0 ≤ i ∧ i ≤ 15 ∧ zTo ja j (15 + i) ≠ zTo ja v (15 + i) then 1 else 0) 16) = 0 then 1 else 0) (ja 3 0))), zH ia w, 0, 0) := by
  intro n
  induction n with
  | zero =>
    intro k acc hN hk0 hk1 hacc
    exact absurd hN (by omega)
  | succ n ih =>
    intro k acc hN hk0 hk1 hacc
    have I := H.1
    have hn := I.1
    refine Ev.iload_n fX8_alike_26 rfl ?_
    refine Ev.aload_n_1 fX8_alike_27 rfl ?_
    refine Ev.gR 24 0 25 fX8_alike_28 (flX8_7 rfl) rfl rfl rfl ?_
    refine Ev.iconst fX8_alike_31 ?_
    refine Ev.ld 25 1968 (v := (ja 3 0)) fX8_alike_32 rfl rfl (by decide) H.2.1 ?_
    refine Ev.icmp_ge fX8_alike_33 rfl ⟨by omega, by omega⟩ ⟨by omega, by omega⟩ (fun h33 => ?_) (fun h33 => ?_)
    · refine Ev.iload_n fX8_alike_64 rfl ?_
      exact Ev.zI fX8_alike_65 rfl (by rw [hacc, show k = ja 3 0 by omega])
    · refine Ev.iload_n fX8_alike_36 rfl ?_
      refine Ev.iload_n fX8_alike_37 rfl ?_
      refine Ev.iload_n fX8_alike_38 rfl ?_
      refine Ev.icmp_eq fX8_alike_39 rfl ⟨by omega, by omega⟩ ⟨by omega, by omega⟩ (fun h39 => ?_) (fun h39 => ?_)
      · refine Ev.iconst fX8_alike_55 ?_
        refine Ev.iadd fX8_alike_56 ?_
        refine Ev.sistore_n [(1, 24), (0, v), (0, (acc + 0)), (0, k)] fX8_alike_57 rfl rfl ?_
        refine Ev.siinc [(1, 24), (0, v), (0, (acc + 0)), (0, (k + 1))] fX8_alike_58 rfl rfl rfl ?_
        refine Ev.goto fX8_alike_61 rfl ?_
        exact ih (k + 1) (acc + 0) (by omega) (by omega) (by omega) (by rw [zsum_s (by omega), hacc]; rw [if_neg (by omega)])
      · refine Ev.aload_n_1 fX8_alike_42 rfl ?_
        refine Ev.iload_n fX8_alike_43 rfl ?_
        refine Ev.iload_n fX8_alike_44 rfl ?_
        refine Ev.cVi 24 [(0, k), (0, v)] [(0, acc)] fX8_alike_45 lkX8_alike_137 8 TX8 22 rfl rfl rfl (eX8_apart0 H ⟨by omega, by omega⟩ ⟨by omega, by omega⟩) ?_
        have hzb := zsum_le (f := (fun i => if 0 ≤ i ∧ i ≤ 15 ∧ zTo ja k (15 + i) ≠ zTo ja v (15 + i) then (1 : Int) else 0)) (m := 0) (M := 1) (k := 16) (by omega) (fun j _ _ => by (try dsimp only); split <;> omega)
        refine Ev.if_ne fX8_alike_48 rfl ⟨by omega, by omega⟩ (fun h48 => ?_) (fun h48 => ?_)
        · refine Ev.iconst fX8_alike_55 ?_
          refine Ev.iadd fX8_alike_56 ?_
          refine Ev.sistore_n [(1, 24), (0, v), (0, (acc + 0)), (0, k)] fX8_alike_57 rfl rfl ?_
          refine Ev.siinc [(1, 24), (0, v), (0, (acc + 0)), (0, (k + 1))] fX8_alike_58 rfl rfl rfl ?_
          refine Ev.goto fX8_alike_61 rfl ?_
          exact ih (k + 1) (acc + 0) (by omega) (by omega) (by omega) (by rw [zsum_s (by omega), hacc]; rw [if_neg (by omega)])
        · refine Ev.iconst fX8_alike_51 ?_
          refine Ev.goto fX8_alike_52 rfl ?_
          refine Ev.iadd fX8_alike_56 ?_
          refine Ev.sistore_n [(1, 24), (0, v), (0, (acc + 1)), (0, k)] fX8_alike_57 rfl rfl ?_
          refine Ev.siinc [(1, 24), (0, v), (0, (acc + 1)), (0, (k + 1))] fX8_alike_58 rfl rfl rfl ?_
          refine Ev.goto fX8_alike_61 rfl ?_
          exact ih (k + 1) (acc + 1) (by omega) (by omega) (by omega) (by rw [zsum_s (by omega), hacc]; rw [if_pos (by omega)])
theorem eX8_alike_0 {G : zG} {ia ja : Nat → Int → Int} {w : (Nat → Int → Int) × (Nat → Int → Int)} {v : Int} (H : zRw ja (ia 25)) (hc0 : 0 ≤ v ∧ v < ja 3 0) : Ev G mX8_alike 0 [(1, 24), (0, v), (9, 0), (9, 0)] [] (zH ia w) (.inl (some (0, (zsum (fun j => if j ≠ v ∧ (zsum (fun i => if 0 ≤ i ∧ i ≤ 15 ∧ zTo ja j (15 + i) ≠ zTo ja v (15 + i) then 1 else 0) 16) = 0 then 1 else 0) (ja 3 0)))), zH (zu ia 24 8 0) w, 0, 0) := by
  have I := H.1
  have hn := I.1
  refine Ev.aload_n_1 fX8_alike_0 rfl ?_
  refine Ev.aload_n_1 fX8_alike_1 rfl ?_
  refine Ev.iload_n fX8_alike_2 rfl ?_
  refine Ev.cVi 24 [(0, v)] [(1, 24)] fX8_alike_3 lkX8_alike_104 8 TX8 22 rfl rfl rfl (eX8_isVersion_t H ⟨by omega, by omega⟩) ?_
  refine Ev.if_eq fX8_alike_6 rfl (by decide) (fun h6 => by exfalso; revert h6; decide) (fun h6 => ?_)
  refine Ev.iconst fX8_alike_9 ?_
  refine Ev.goto fX8_alike_10 rfl ?_
  refine Ev.cVi 24 [(0, 0)] [] fX8_alike_14 lkX8_alike_117 8 TX8 22 rfl rfl rfl eX8_fails_0 ?_
  refine Ev.if_eq fX8_alike_17 rfl (by decide) (fun h17 => ?_) (fun h17 => by exfalso; revert h17; decide)
  refine Ev.iconst fX8_alike_22 ?_
  refine Ev.sistore_n [(1, 24), (0, v), (0, 0), (9, 0)] fX8_alike_23 rfl rfl ?_
  refine Ev.iconst fX8_alike_24 ?_
  refine Ev.sistore_n [(1, 24), (0, v), (0, 0), (0, 0)] fX8_alike_25 rfl rfl ?_
  exact eX8_alike_0_L (ia := zu ia 24 8 0) H hc0 2000 0 0 (by omega) (by omega) (by omega) rfl
