/-! THE CLASS: PUBLIC READS (printed by wip/whole/gen/cls9.py) -/
theorem eX7_checkVersion_x {G : zG} {ia : Nat → Int → Int} {w : (Nat → Int → Int) × (Nat → Int → Int)} {v : Int} (I : zCI ia) (hrv : -2147483648 ≤ v ∧ v ≤ 2147483647) (hx : ¬ (0 ≤ v ∧ v < ia 3 0)) : Ev G mX7_checkVersion 0 [(1, 0), (0, v)] [] (zH ia w) (.inr "java/lang/IndexOutOfBoundsException", zH ia w, 1, 6) := by
  have hn := I.1
  refine Ev.aload_n_1 fX7_checkVersion_0 rfl ?_
  refine Ev.gR 0 3 3 fX7_checkVersion_1 (flX7_32 rfl) rfl rfl rfl ?_
  refine Ev.iload_n fX7_checkVersion_4 rfl ?_
  refine Ev.cVi 3 [(0, v)] [] fX7_checkVersion_5 lkX7_checkVersion_322 6 TX6 5 rfl rfl rfl (eX6_has_f I ⟨by omega, by omega⟩ (by omega)) ?_
  refine Ev.if_ne fX7_checkVersion_8 rfl (by decide) (fun h8 => by exfalso; revert h8; decide) (fun h8 => ?_)
  exact Ev.throwW (pc9 := 0) 2 (thX7_263_267 rfl) fX7_checkVersion_11 fX7_checkVersion_14 fX7_checkVersion_15 fX7_checkVersion_18 fX7_checkVersion_21 rfl rfl (by decide) (by decide)
theorem eX7_checkVersion_0 {G : zG} {ia : Nat → Int → Int} {w : (Nat → Int → Int) × (Nat → Int → Int)} {v : Int} (I : zCI ia) (hv : 0 ≤ v ∧ v < ia 3 0) : Ev G mX7_checkVersion 0 [(1, 0), (0, v)] [] (zH ia w) (.inl none, zH ia w, 0, 0) := by
  have hn := I.1
  refine Ev.aload_n_1 fX7_checkVersion_0 rfl ?_
  refine Ev.gR 0 3 3 fX7_checkVersion_1 (flX7_32 rfl) rfl rfl rfl ?_
  refine Ev.iload_n fX7_checkVersion_4 rfl ?_
  refine Ev.cVi 3 [(0, v)] [] fX7_checkVersion_5 lkX7_checkVersion_322 6 TX6 5 rfl rfl rfl (eX6_has_t I ⟨by omega, by omega⟩) ?_
  refine Ev.if_ne fX7_checkVersion_8 rfl (by decide) (fun h8 => ?_) (fun h8 => by exfalso; revert h8; decide)
  exact Ev.zV fX7_checkVersion_22 rfl
theorem eX7_checkHouse_x {G : zG} {ia : Nat → Int → Int} {w : (Nat → Int → Int) × (Nat → Int → Int)} {v : Int} (hrv : -2147483648 ≤ v ∧ v ≤ 2147483647) (hx : ¬ (0 ≤ v ∧ v < 4)) : Ev G mX7_checkHouse 0 [(0, v)] [] (zH ia w) (.inr "java/lang/IndexOutOfBoundsException", zH ia w, 1, 6) := by
  refine Ev.iload_n fX7_checkHouse_0 rfl ?_
  refine Ev.cSi [(0, v)] [] fX7_checkHouse_1 lkX7_checkHouse_328 rfl (eX7_isHouse_f ⟨by omega, by omega⟩ (by omega)) ?_
  refine Ev.if_ne fX7_checkHouse_4 rfl (by decide) (fun h4 => by exfalso; revert h4; decide) (fun h4 => ?_)
  exact Ev.throwW (pc9 := 0) 1 (thX7_263_267 rfl) fX7_checkHouse_7 fX7_checkHouse_10 fX7_checkHouse_11 fX7_checkHouse_14 fX7_checkHouse_17 rfl rfl (by decide) (by decide)
theorem eX7_checkHouse_0 {G : zG} {ia : Nat → Int → Int} {w : (Nat → Int → Int) × (Nat → Int → Int)} {v : Int} (hv : 0 ≤ v ∧ v < 4) : Ev G mX7_checkHouse 0 [(0, v)] [] (zH ia w) (.inl none, zH ia w, 0, 0) := by
  refine Ev.iload_n fX7_checkHouse_0 rfl ?_
  refine Ev.cSi [(0, v)] [] fX7_checkHouse_1 lkX7_checkHouse_328 rfl (eX7_isHouse_t ⟨by omega, by omega⟩) ?_
  refine Ev.if_ne fX7_checkHouse_4 rfl (by decide) (fun h4 => ?_) (fun h4 => by exfalso; revert h4; decide)
  exact Ev.zV fX7_checkHouse_18 rfl
theorem eX7_checkSpan_x {G : zG} {ia : Nat → Int → Int} {w : (Nat → Int → Int) × (Nat → Int → Int)} {v : Int} (hrv : -2147483648 ≤ v ∧ v ≤ 2147483647) (hx : ¬ (0 ≤ v ∧ v < 31)) : Ev G mX7_checkSpan 0 [(0, v)] [] (zH ia w) (.inr "java/lang/IllegalArgumentException", zH ia w, 1, 6) := by
  refine Ev.iload_n fX7_checkSpan_0 rfl ?_
  refine Ev.cSi [(0, v)] [] fX7_checkSpan_1 lkX7_checkSpan_338 rfl (eX7_isSpan_f ⟨by omega, by omega⟩ (by omega)) ?_
  refine Ev.if_ne fX7_checkSpan_4 rfl (by decide) (fun h4 => by exfalso; revert h4; decide) (fun h4 => ?_)
  exact Ev.throwW (pc9 := 0) 6 (thX7_151_155 rfl) fX7_checkSpan_7 fX7_checkSpan_10 fX7_checkSpan_11 fX7_checkSpan_14 fX7_checkSpan_17 rfl rfl (by decide) (by decide)
theorem eX7_checkSpan_0 {G : zG} {ia : Nat → Int → Int} {w : (Nat → Int → Int) × (Nat → Int → Int)} {v : Int} (hv : 0 ≤ v ∧ v < 31) : Ev G mX7_checkSpan 0 [(0, v)] [] (zH ia w) (.inl none, zH ia w, 0, 0) := by
  refine Ev.iload_n fX7_checkSpan_0 rfl ?_
  refine Ev.cSi [(0, v)] [] fX7_checkSpan_1 lkX7_checkSpan_338 rfl (eX7_isSpan_t ⟨by omega, by omega⟩) ?_
  refine Ev.if_ne fX7_checkSpan_4 rfl (by decide) (fun h4 => ?_) (fun h4 => by exfalso; revert h4; decide)
  exact Ev.zV fX7_checkSpan_18 rfl
theorem eX7_checkLines_x {G : zG} {ia : Nat → Int → Int} {w : (Nat → Int → Int) × (Nat → Int → Int)} {a b : Int} (hra : -2147483648 ≤ a ∧ a ≤ 2147483647) (hrb : -2147483648 ≤ b ∧ b ≤ 2147483647) (hx : ¬ (0 ≤ a ∧ a ≤ b ∧ b < 16)) : Ev G mX7_checkLines 0 [(0, a), (0, b)] [] (zH ia w) (.inr "java/lang/IllegalArgumentException", zH ia w, 1, 6) := by
  refine Ev.iload_n fX7_checkLines_0 rfl ?_
  obtain ⟨b60, ga60, gb60, ge60⟩ := eX7_isLine_b (G := G) (ia := ia) (w := w) a ⟨by omega, by omega⟩
  refine Ev.cSi [(0, a)] [] fX7_checkLines_1 lkX7_checkLines_333 rfl ge60 ?_
  refine Ev.if_eq fX7_checkLines_4 rfl ⟨by omega, by omega⟩ (fun h4 => ?_) (fun h4 => ?_)
  · exact Ev.throwW (pc9 := 0) 3 (thX7_151_155 rfl) fX7_checkLines_19 fX7_checkLines_22 fX7_checkLines_23 fX7_checkLines_26 fX7_checkLines_29 rfl rfl (by decide) (by decide)
  · refine Ev.iload_n fX7_checkLines_7 rfl ?_
    obtain ⟨b61, ga61, gb61, ge61⟩ := eX7_isLine_b (G := G) (ia := ia) (w := w) b ⟨by omega, by omega⟩
    refine Ev.cSi [(0, b)] [] fX7_checkLines_8 lkX7_checkLines_333 rfl ge61 ?_
    refine Ev.if_eq fX7_checkLines_11 rfl ⟨by omega, by omega⟩ (fun h11 => ?_) (fun h11 => ?_)
    · exact Ev.throwW (pc9 := 0) 3 (thX7_151_155 rfl) fX7_checkLines_19 fX7_checkLines_22 fX7_checkLines_23 fX7_checkLines_26 fX7_checkLines_29 rfl rfl (by decide) (by decide)
    · refine Ev.iload_n fX7_checkLines_14 rfl ?_
      refine Ev.iload_n fX7_checkLines_15 rfl ?_
      refine Ev.icmp_ge fX7_checkLines_16 rfl ⟨by omega, by omega⟩ ⟨by omega, by omega⟩ (fun h16 => by exfalso; omega) (fun h16 => ?_)
      exact Ev.throwW (pc9 := 0) 3 (thX7_151_155 rfl) fX7_checkLines_19 fX7_checkLines_22 fX7_checkLines_23 fX7_checkLines_26 fX7_checkLines_29 rfl rfl (by decide) (by decide)
theorem eX7_checkLines_0 {G : zG} {ia : Nat → Int → Int} {w : (Nat → Int → Int) × (Nat → Int → Int)} {a b : Int} (hv : 0 ≤ a ∧ a ≤ b ∧ b < 16) : Ev G mX7_checkLines 0 [(0, a), (0, b)] [] (zH ia w) (.inl none, zH ia w, 0, 0) := by
  refine Ev.iload_n fX7_checkLines_0 rfl ?_
  obtain ⟨b62, ga62, gb62, ge62⟩ := eX7_isLine_b (G := G) (ia := ia) (w := w) a ⟨by omega, by omega⟩
  refine Ev.cSi [(0, a)] [] fX7_checkLines_1 lkX7_checkLines_333 rfl ge62 ?_
  refine Ev.if_eq fX7_checkLines_4 rfl ⟨by omega, by omega⟩ (fun h4 => by exfalso; omega) (fun h4 => ?_)
  refine Ev.iload_n fX7_checkLines_7 rfl ?_
  obtain ⟨b63, ga63, gb63, ge63⟩ := eX7_isLine_b (G := G) (ia := ia) (w := w) b ⟨by omega, by omega⟩
  refine Ev.cSi [(0, b)] [] fX7_checkLines_8 lkX7_checkLines_333 rfl ge63 ?_
  refine Ev.if_eq fX7_checkLines_11 rfl ⟨by omega, by omega⟩ (fun h11 => by exfalso; omega) (fun h11 => ?_)
  refine Ev.iload_n fX7_checkLines_14 rfl ?_
  refine Ev.iload_n fX7_checkLines_15 rfl ?_
  refine Ev.icmp_ge fX7_checkLines_16 rfl ⟨by omega, by omega⟩ ⟨by omega, by omega⟩ (fun h16 => ?_) (fun h16 => by exfalso; omega)
  exact Ev.zV fX7_checkLines_30 rfl
theorem eX7_ledger_x0 {G : zG} {ia : Nat → Int → Int} {w : (Nat → Int → Int) × (Nat → Int → Int)} {v : Int} (I : zCI ia) (hrv : -2147483648 ≤ v ∧ v ≤ 2147483647) (hx : ¬ (0 ≤ v ∧ v < 4)) : Ev G mX7_ledger 0 [(1, 0), (0, v)] [] (zH ia w) (.inr "java/lang/IndexOutOfBoundsException", zH ia w, 1, 6) := by
  have hn := I.1
  refine Ev.iload_n fX7_ledger_0 rfl ?_
  exact Ev.xS [(0, v)] [] fX7_ledger_1 lkX7_ledger_92 rfl rfl (eX7_checkHouse_x ⟨by omega, by omega⟩ (by omega))
theorem eX7_ledger_0 {G : zG} {ia : Nat → Int → Int} {w : (Nat → Int → Int) × (Nat → Int → Int)} {v : Int} (I : zCI ia)  (hc0 : 0 ≤ v ∧ v < 4) : Ev G mX7_ledger 0 [(1, 0), (0, v)] [] (zH ia w) (.inl (some (0, (ia 8 v))), zH ia w, 0, 0) := by
  have hn := I.1
  refine Ev.iload_n fX7_ledger_0 rfl ?_
  refine Ev.cSv [(0, v)] [] fX7_ledger_1 lkX7_ledger_92 rfl (eX7_checkHouse_0 ⟨by omega, by omega⟩) ?_
  refine Ev.aload_n_1 fX7_ledger_4 rfl ?_
  refine Ev.gR 0 2 2 fX7_ledger_5 (flX7_25 rfl) rfl rfl rfl ?_
  refine Ev.iload_n fX7_ledger_8 rfl ?_
  refine Ev.cVi 2 [(0, v)] [] fX7_ledger_9 lkX7_ledger_96 0 TX0 5 rfl rfl rfl (eX0_ledgerOf (r := (ia 8 v)) ⟨by omega, by omega⟩ rfl) ?_
  exact Ev.zI fX7_ledger_12 rfl rfl
theorem eX7_amount_x0 {G : zG} {ia : Nat → Int → Int} {w : (Nat → Int → Int) × (Nat → Int → Int)} {v l : Int} (I : zCI ia) (hrv : -2147483648 ≤ v ∧ v ≤ 2147483647) (hrl : -2147483648 ≤ l ∧ l ≤ 2147483647) (hx : ¬ (0 ≤ v ∧ v < ia 3 0)) : Ev G mX7_amount 0 [(1, 0), (0, v), (0, l)] [] (zH ia w) (.inr "java/lang/IndexOutOfBoundsException", zH ia w, 1, 6) := by
  have hn := I.1
  refine Ev.aload_n_1 fX7_amount_0 rfl ?_
  refine Ev.iload_n fX7_amount_1 rfl ?_
  exact Ev.xV 0 [(0, v)] [] fX7_amount_2 lkX7_amount_99 7 TX7 10 rfl rfl rfl rfl (eX7_checkVersion_x I ⟨by omega, by omega⟩ (by omega))
theorem eX7_amount_x1 {G : zG} {ia : Nat → Int → Int} {w : (Nat → Int → Int) × (Nat → Int → Int)} {v l : Int} (I : zCI ia) (hrv : -2147483648 ≤ v ∧ v ≤ 2147483647) (hrl : -2147483648 ≤ l ∧ l ≤ 2147483647) (hc0 : 0 ≤ v ∧ v < ia 3 0) (hx : ¬ (0 ≤ l ∧ l ≤ l ∧ l < 16)) : Ev G mX7_amount 0 [(1, 0), (0, v), (0, l)] [] (zH ia w) (.inr "java/lang/IllegalArgumentException", zH ia w, 1, 6) := by
  have hn := I.1
  refine Ev.aload_n_1 fX7_amount_0 rfl ?_
  refine Ev.iload_n fX7_amount_1 rfl ?_
  refine Ev.cVv 0 [(0, v)] [] fX7_amount_2 lkX7_amount_99 7 TX7 10 rfl rfl rfl (eX7_checkVersion_0 I ⟨by omega, by omega⟩) ?_
  refine Ev.iload_n fX7_amount_5 rfl ?_
  refine Ev.iload_n fX7_amount_6 rfl ?_
  exact Ev.xS [(0, l), (0, l)] [] fX7_amount_7 lkX7_amount_102 rfl rfl (eX7_checkLines_x ⟨by omega, by omega⟩ ⟨by omega, by omega⟩ (by omega))
theorem eX7_amount_0 {G : zG} {ia : Nat → Int → Int} {w : (Nat → Int → Int) × (Nat → Int → Int)} {v l : Int} (I : zCI ia)  (hc0 : 0 ≤ v ∧ v < ia 3 0) (hc1 : 0 ≤ l ∧ l ≤ l ∧ l < 16) : Ev G mX7_amount 0 [(1, 0), (0, v), (0, l)] [] (zH ia w) (.inl (some (0, (zTo ia v (15 + l)))), zH ia w, 0, 0) := by
  have hn := I.1
  refine Ev.aload_n_1 fX7_amount_0 rfl ?_
  refine Ev.iload_n fX7_amount_1 rfl ?_
  refine Ev.cVv 0 [(0, v)] [] fX7_amount_2 lkX7_amount_99 7 TX7 10 rfl rfl rfl (eX7_checkVersion_0 I ⟨by omega, by omega⟩) ?_
  refine Ev.iload_n fX7_amount_5 rfl ?_
  refine Ev.iload_n fX7_amount_6 rfl ?_
  refine Ev.cSv [(0, l), (0, l)] [] fX7_amount_7 lkX7_amount_102 rfl (eX7_checkLines_0 ⟨by omega, by omega, by omega⟩) ?_
  refine Ev.aload_n_1 fX7_amount_10 rfl ?_
  refine Ev.gR 0 3 3 fX7_amount_11 (flX7_32 rfl) rfl rfl rfl ?_
  refine Ev.iload_n fX7_amount_14 rfl ?_
  refine Ev.iload_n fX7_amount_15 rfl ?_
  refine Ev.cVi 3 [(0, v), (0, l)] [] fX7_amount_16 lkX7_amount_106 6 TX6 5 rfl rfl rfl (eX6_amountOn I ⟨by omega, by omega⟩ ⟨by omega, by omega⟩) ?_
  exact Ev.zI fX7_amount_19 rfl rfl
theorem eX7_sum_x0 {G : zG} {ia : Nat → Int → Int} {w : (Nat → Int → Int) × (Nat → Int → Int)} {v first last : Int} (I : zCI ia) (hrv : -2147483648 ≤ v ∧ v ≤ 2147483647) (hrfirst : -2147483648 ≤ first ∧ first ≤ 2147483647) (hrlast : -2147483648 ≤ last ∧ last ≤ 2147483647) (hx : ¬ (0 ≤ v ∧ v < ia 3 0)) : Ev G mX7_sum 0 [(1, 0), (0, v), (0, first), (0, last)] [] (zH ia w) (.inr "java/lang/IndexOutOfBoundsException", zH ia w, 1, 6) := by
  have hn := I.1
  refine Ev.aload_n_1 fX7_sum_0 rfl ?_
  refine Ev.iload_n fX7_sum_1 rfl ?_
  exact Ev.xV 0 [(0, v)] [] fX7_sum_2 lkX7_sum_99 7 TX7 10 rfl rfl rfl rfl (eX7_checkVersion_x I ⟨by omega, by omega⟩ (by omega))
theorem eX7_sum_x1 {G : zG} {ia : Nat → Int → Int} {w : (Nat → Int → Int) × (Nat → Int → Int)} {v first last : Int} (I : zCI ia) (hrv : -2147483648 ≤ v ∧ v ≤ 2147483647) (hrfirst : -2147483648 ≤ first ∧ first ≤ 2147483647) (hrlast : -2147483648 ≤ last ∧ last ≤ 2147483647) (hc0 : 0 ≤ v ∧ v < ia 3 0) (hx : ¬ (0 ≤ first ∧ first ≤ last ∧ last < 16)) : Ev G mX7_sum 0 [(1, 0), (0, v), (0, first), (0, last)] [] (zH ia w) (.inr "java/lang/IllegalArgumentException", zH ia w, 1, 6) := by
  have hn := I.1
  refine Ev.aload_n_1 fX7_sum_0 rfl ?_
  refine Ev.iload_n fX7_sum_1 rfl ?_
  refine Ev.cVv 0 [(0, v)] [] fX7_sum_2 lkX7_sum_99 7 TX7 10 rfl rfl rfl (eX7_checkVersion_0 I ⟨by omega, by omega⟩) ?_
  refine Ev.iload_n fX7_sum_5 rfl ?_
  refine Ev.iload_n fX7_sum_6 rfl ?_
  exact Ev.xS [(0, first), (0, last)] [] fX7_sum_7 lkX7_sum_102 rfl rfl (eX7_checkLines_x ⟨by omega, by omega⟩ ⟨by omega, by omega⟩ (by omega))
theorem eX7_sum_0 {G : zG} {ia : Nat → Int → Int} {w : (Nat → Int → Int) × (Nat → Int → Int)} {v first last : Int} (I : zCI ia)  (hc0 : 0 ≤ v ∧ v < ia 3 0) (hc1 : 0 ≤ first ∧ first ≤ last ∧ last < 16) (hG : zGo G) : Ev G mX7_sum 0 [(1, 0), (0, v), (0, first), (0, last)] [] (zH ia w) (.inl (some (0, (zsum (fun s => if ¬ (0 < s ∧ first ≤ zlow ((s - 1) / 2) ∧ zhig ((s - 1) / 2) ≤ last) ∧ first ≤ zlow s ∧ zhig s ≤ last then zTo ia v s else 0) 31))), zH ia w, 0, 0) := by
  have hn := I.1
  refine Ev.aload_n_1 fX7_sum_0 rfl ?_
  refine Ev.iload_n fX7_sum_1 rfl ?_
  refine Ev.cVv 0 [(0, v)] [] fX7_sum_2 lkX7_sum_99 7 TX7 10 rfl rfl rfl (eX7_checkVersion_0 I ⟨by omega, by omega⟩) ?_
  refine Ev.iload_n fX7_sum_5 rfl ?_
  refine Ev.iload_n fX7_sum_6 rfl ?_
  refine Ev.cSv [(0, first), (0, last)] [] fX7_sum_7 lkX7_sum_102 rfl (eX7_checkLines_0 ⟨by omega, by omega, by omega⟩) ?_
  refine Ev.aload_n_1 fX7_sum_10 rfl ?_
  refine Ev.gR 0 3 3 fX7_sum_11 (flX7_32 rfl) rfl rfl rfl ?_
  refine Ev.iload_n fX7_sum_14 rfl ?_
  refine Ev.iload_n fX7_sum_15 rfl ?_
  refine Ev.iload_n fX7_sum_16 rfl ?_
  refine Ev.cVi 3 [(0, v), (0, first), (0, last)] [] fX7_sum_17 lkX7_sum_111 6 TX6 5 rfl rfl rfl (eX6_sumByPages hG I ⟨by omega, by omega⟩ ⟨by omega, by omega⟩ ⟨by omega, by omega⟩) ?_
  exact Ev.zI fX7_sum_20 rfl rfl
theorem eX7_sumAgain_x0 {G : zG} {ia : Nat → Int → Int} {w : (Nat → Int → Int) × (Nat → Int → Int)} {v first last : Int} (I : zCI ia) (hrv : -2147483648 ≤ v ∧ v ≤ 2147483647) (hrfirst : -2147483648 ≤ first ∧ first ≤ 2147483647) (hrlast : -2147483648 ≤ last ∧ last ≤ 2147483647) (hx : ¬ (0 ≤ v ∧ v < ia 3 0)) : Ev G mX7_sumAgain 0 [(1, 0), (0, v), (0, first), (0, last)] [] (zH ia w) (.inr "java/lang/IndexOutOfBoundsException", zH ia w, 1, 6) := by
  have hn := I.1
  refine Ev.aload_n_1 fX7_sumAgain_0 rfl ?_
  refine Ev.iload_n fX7_sumAgain_1 rfl ?_
  exact Ev.xV 0 [(0, v)] [] fX7_sumAgain_2 lkX7_sumAgain_99 7 TX7 10 rfl rfl rfl rfl (eX7_checkVersion_x I ⟨by omega, by omega⟩ (by omega))
theorem eX7_sumAgain_x1 {G : zG} {ia : Nat → Int → Int} {w : (Nat → Int → Int) × (Nat → Int → Int)} {v first last : Int} (I : zCI ia) (hrv : -2147483648 ≤ v ∧ v ≤ 2147483647) (hrfirst : -2147483648 ≤ first ∧ first ≤ 2147483647) (hrlast : -2147483648 ≤ last ∧ last ≤ 2147483647) (hc0 : 0 ≤ v ∧ v < ia 3 0) (hx : ¬ (0 ≤ first ∧ first ≤ last ∧ last < 16)) : Ev G mX7_sumAgain 0 [(1, 0), (0, v), (0, first), (0, last)] [] (zH ia w) (.inr "java/lang/IllegalArgumentException", zH ia w, 1, 6) := by
  have hn := I.1
  refine Ev.aload_n_1 fX7_sumAgain_0 rfl ?_
  refine Ev.iload_n fX7_sumAgain_1 rfl ?_
  refine Ev.cVv 0 [(0, v)] [] fX7_sumAgain_2 lkX7_sumAgain_99 7 TX7 10 rfl rfl rfl (eX7_checkVersion_0 I ⟨by omega, by omega⟩) ?_
  refine Ev.iload_n fX7_sumAgain_5 rfl ?_
  refine Ev.iload_n fX7_sumAgain_6 rfl ?_
  exact Ev.xS [(0, first), (0, last)] [] fX7_sumAgain_7 lkX7_sumAgain_102 rfl rfl (eX7_checkLines_x ⟨by omega, by omega⟩ ⟨by omega, by omega⟩ (by omega))
theorem eX7_sumAgain_0 {G : zG} {ia : Nat → Int → Int} {w : (Nat → Int → Int) × (Nat → Int → Int)} {v first last : Int} (I : zCI ia)  (hc0 : 0 ≤ v ∧ v < ia 3 0) (hc1 : 0 ≤ first ∧ first ≤ last ∧ last < 16) : Ev G mX7_sumAgain 0 [(1, 0), (0, v), (0, first), (0, last)] [] (zH ia w) (.inl (some (0, (zsum (fun j => if first ≤ j ∧ j ≤ last then zTo ia v (15 + j) else 0) (16)))), zH ia w, 0, 0) := by
  have hn := I.1
  refine Ev.aload_n_1 fX7_sumAgain_0 rfl ?_
  refine Ev.iload_n fX7_sumAgain_1 rfl ?_
  refine Ev.cVv 0 [(0, v)] [] fX7_sumAgain_2 lkX7_sumAgain_99 7 TX7 10 rfl rfl rfl (eX7_checkVersion_0 I ⟨by omega, by omega⟩) ?_
  refine Ev.iload_n fX7_sumAgain_5 rfl ?_
  refine Ev.iload_n fX7_sumAgain_6 rfl ?_
  refine Ev.cSv [(0, first), (0, last)] [] fX7_sumAgain_7 lkX7_sumAgain_102 rfl (eX7_checkLines_0 ⟨by omega, by omega, by omega⟩) ?_
  refine Ev.aload_n_1 fX7_sumAgain_10 rfl ?_
  refine Ev.gR 0 3 3 fX7_sumAgain_11 (flX7_32 rfl) rfl rfl rfl ?_
  refine Ev.iload_n fX7_sumAgain_14 rfl ?_
  refine Ev.iload_n fX7_sumAgain_15 rfl ?_
  refine Ev.iload_n fX7_sumAgain_16 rfl ?_
  refine Ev.cVi 3 [(0, v), (0, first), (0, last)] [] fX7_sumAgain_17 lkX7_sumAgain_114 6 TX6 5 rfl rfl rfl (eX6_sumByLines I ⟨by omega, by omega⟩ ⟨by omega, by omega⟩ ⟨by omega, by omega⟩) ?_
  exact Ev.zI fX7_sumAgain_20 rfl rfl
theorem eX7_most_x0 {G : zG} {ia : Nat → Int → Int} {w : (Nat → Int → Int) × (Nat → Int → Int)} {v first last : Int} (I : zCI ia) (hrv : -2147483648 ≤ v ∧ v ≤ 2147483647) (hrfirst : -2147483648 ≤ first ∧ first ≤ 2147483647) (hrlast : -2147483648 ≤ last ∧ last ≤ 2147483647) (hx : ¬ (0 ≤ v ∧ v < ia 3 0)) : Ev G mX7_most 0 [(1, 0), (0, v), (0, first), (0, last)] [] (zH ia w) (.inr "java/lang/IndexOutOfBoundsException", zH ia w, 1, 6) := by
  have hn := I.1
  refine Ev.aload_n_1 fX7_most_0 rfl ?_
  refine Ev.iload_n fX7_most_1 rfl ?_
  exact Ev.xV 0 [(0, v)] [] fX7_most_2 lkX7_most_99 7 TX7 10 rfl rfl rfl rfl (eX7_checkVersion_x I ⟨by omega, by omega⟩ (by omega))
theorem eX7_most_x1 {G : zG} {ia : Nat → Int → Int} {w : (Nat → Int → Int) × (Nat → Int → Int)} {v first last : Int} (I : zCI ia) (hrv : -2147483648 ≤ v ∧ v ≤ 2147483647) (hrfirst : -2147483648 ≤ first ∧ first ≤ 2147483647) (hrlast : -2147483648 ≤ last ∧ last ≤ 2147483647) (hc0 : 0 ≤ v ∧ v < ia 3 0) (hx : ¬ (0 ≤ first ∧ first ≤ last ∧ last < 16)) : Ev G mX7_most 0 [(1, 0), (0, v), (0, first), (0, last)] [] (zH ia w) (.inr "java/lang/IllegalArgumentException", zH ia w, 1, 6) := by
  have hn := I.1
  refine Ev.aload_n_1 fX7_most_0 rfl ?_
  refine Ev.iload_n fX7_most_1 rfl ?_
  refine Ev.cVv 0 [(0, v)] [] fX7_most_2 lkX7_most_99 7 TX7 10 rfl rfl rfl (eX7_checkVersion_0 I ⟨by omega, by omega⟩) ?_
  refine Ev.iload_n fX7_most_5 rfl ?_
  refine Ev.iload_n fX7_most_6 rfl ?_
  exact Ev.xS [(0, first), (0, last)] [] fX7_most_7 lkX7_most_102 rfl rfl (eX7_checkLines_x ⟨by omega, by omega⟩ ⟨by omega, by omega⟩ (by omega))
theorem eX7_most_0 {G : zG} {ia : Nat → Int → Int} {w : (Nat → Int → Int) × (Nat → Int → Int)} {v first last : Int} (I : zCI ia)  (hc0 : 0 ≤ v ∧ v < ia 3 0) (hc1 : 0 ≤ first ∧ first ≤ last ∧ last < 16) : Ev G mX7_most 0 [(1, 0), (0, v), (0, first), (0, last)] [] (zH ia w) (.inl (some (0, (zmx (fun j => zTo ia v (15 + j)) first (last - first).toNat))), zH ia w, 0, 0) := by
  have hn := I.1
  refine Ev.aload_n_1 fX7_most_0 rfl ?_
  refine Ev.iload_n fX7_most_1 rfl ?_
  refine Ev.cVv 0 [(0, v)] [] fX7_most_2 lkX7_most_99 7 TX7 10 rfl rfl rfl (eX7_checkVersion_0 I ⟨by omega, by omega⟩) ?_
  refine Ev.iload_n fX7_most_5 rfl ?_
  refine Ev.iload_n fX7_most_6 rfl ?_
  refine Ev.cSv [(0, first), (0, last)] [] fX7_most_7 lkX7_most_102 rfl (eX7_checkLines_0 ⟨by omega, by omega, by omega⟩) ?_
  refine Ev.aload_n_1 fX7_most_10 rfl ?_
  refine Ev.gR 0 3 3 fX7_most_11 (flX7_32 rfl) rfl rfl rfl ?_
  refine Ev.iload_n fX7_most_14 rfl ?_
  refine Ev.iload_n fX7_most_15 rfl ?_
  refine Ev.iload_n fX7_most_16 rfl ?_
  refine Ev.cVi 3 [(0, v), (0, first), (0, last)] [] fX7_most_17 lkX7_most_117 6 TX6 5 rfl rfl rfl (eX6_lineWithMost I ⟨by omega, by omega⟩ ⟨by omega, by omega, by omega⟩) ?_
  exact Ev.zI fX7_most_20 rfl rfl
theorem eX7_reached_x0 {G : zG} {ia : Nat → Int → Int} {w : (Nat → Int → Int) × (Nat → Int → Int)} {v want : Int} (I : zCI ia) (hrv : -2147483648 ≤ v ∧ v ≤ 2147483647) (hrwant : -2147483648 ≤ want ∧ want ≤ 2147483647) (hx : ¬ (0 ≤ v ∧ v < ia 3 0)) : Ev G mX7_reached 0 [(1, 0), (0, v), (0, want), (9, 0)] [] (zH ia w) (.inr "java/lang/IndexOutOfBoundsException", zH ia w, 1, 6) := by
  have hn := I.1
  refine Ev.aload_n_1 fX7_reached_0 rfl ?_
  refine Ev.iload_n fX7_reached_1 rfl ?_
  exact Ev.xV 0 [(0, v)] [] fX7_reached_2 lkX7_reached_99 7 TX7 10 rfl rfl rfl rfl (eX7_checkVersion_x I ⟨by omega, by omega⟩ (by omega))
theorem eX7_reached_x1 {G : zG} {ia : Nat → Int → Int} {w : (Nat → Int → Int) × (Nat → Int → Int)} {v want : Int} (I : zCI ia) (hrwant : -2147483648 ≤ want ∧ want ≤ 2147483647) (hc0 : 0 ≤ v ∧ v < ia 3 0) (hr : zfnd (fun l => decide (want ≤ zsum (fun j => zTo ia v (15 + j)) (l + 1))) 16 0 = -1) : Ev G mX7_reached 0 [(1, 0), (0, v), (0, want), (9, 0)] [] (zH ia w) (.inr "java/util/NoSuchElementException", zH ia w, 1, 6) := by
  have hn := I.1
  refine Ev.aload_n_1 fX7_reached_0 rfl ?_
  refine Ev.iload_n fX7_reached_1 rfl ?_
  refine Ev.cVv 0 [(0, v)] [] fX7_reached_2 lkX7_reached_99 7 TX7 10 rfl rfl rfl (eX7_checkVersion_0 I ⟨by omega, by omega⟩) ?_
  refine Ev.aload_n_1 fX7_reached_5 rfl ?_
  refine Ev.gR 0 3 3 fX7_reached_6 (flX7_32 rfl) rfl rfl rfl ?_
  refine Ev.iload_n fX7_reached_9 rfl ?_
  refine Ev.iload_n fX7_reached_10 rfl ?_
  refine Ev.cVi 3 [(0, v), (0, want)] [] fX7_reached_11 lkX7_reached_120 6 TX6 5 rfl rfl rfl (eX6_lineReaching I ⟨by omega, by omega⟩ ⟨by omega, by omega⟩ hr) ?_
  refine Ev.sistore_n [(1, 0), (0, v), (0, want), (0, (-1))] fX7_reached_14 rfl rfl ?_
  refine Ev.iload_n fX7_reached_15 rfl ?_
  refine Ev.iconst fX7_reached_16 ?_
  refine Ev.icmp_ne fX7_reached_17 rfl (by decide) (by decide) (fun h17 => by exfalso; revert h17; decide) (fun h17 => ?_)
  exact Ev.throwX (pc9 := 0) 4 (thX7_123_127 rfl) fX7_reached_20 fX7_reached_23 fX7_reached_24 fX7_reached_26 fX7_reached_29 rfl rfl (by decide) (by decide)
theorem eX7_reached_0 {G : zG} {ia : Nat → Int → Int} {w : (Nat → Int → Int) × (Nat → Int → Int)} {v want r : Int} (I : zCI ia) (hrwant : -2147483648 ≤ want ∧ want ≤ 2147483647) (hc0 : 0 ≤ v ∧ v < ia 3 0) (hr : zfnd (fun l => decide (want ≤ zsum (fun j => zTo ia v (15 + j)) (l + 1))) 16 0 = r) (hr0 : 0 ≤ r ∧ r ≤ 16) : Ev G mX7_reached 0 [(1, 0), (0, v), (0, want), (9, 0)] [] (zH ia w) (.inl (some (0, r)), zH ia w, 0, 0) := by
  have hn := I.1
  refine Ev.aload_n_1 fX7_reached_0 rfl ?_
  refine Ev.iload_n fX7_reached_1 rfl ?_
  refine Ev.cVv 0 [(0, v)] [] fX7_reached_2 lkX7_reached_99 7 TX7 10 rfl rfl rfl (eX7_checkVersion_0 I ⟨by omega, by omega⟩) ?_
  refine Ev.aload_n_1 fX7_reached_5 rfl ?_
  refine Ev.gR 0 3 3 fX7_reached_6 (flX7_32 rfl) rfl rfl rfl ?_
  refine Ev.iload_n fX7_reached_9 rfl ?_
  refine Ev.iload_n fX7_reached_10 rfl ?_
  refine Ev.cVi 3 [(0, v), (0, want)] [] fX7_reached_11 lkX7_reached_120 6 TX6 5 rfl rfl rfl (eX6_lineReaching I ⟨by omega, by omega⟩ ⟨by omega, by omega⟩ hr) ?_
  refine Ev.sistore_n [(1, 0), (0, v), (0, want), (0, r)] fX7_reached_14 rfl rfl ?_
  refine Ev.iload_n fX7_reached_15 rfl ?_
  refine Ev.iconst fX7_reached_16 ?_
  refine Ev.icmp_ne fX7_reached_17 rfl ⟨by omega, by omega⟩ (by decide) (fun h17 => ?_) (fun h17 => by exfalso; omega)
  refine Ev.iload_n fX7_reached_30 rfl ?_
  exact Ev.zI fX7_reached_31 rfl rfl
theorem eX7_versionOf_x0 {G : zG} {ia : Nat → Int → Int} {w : (Nat → Int → Int) × (Nat → Int → Int)} {v what : Int} (I : zCI ia) (hrv : -2147483648 ≤ v ∧ v ≤ 2147483647) (hrwhat : -2147483648 ≤ what ∧ what ≤ 2147483647) (hx : ¬ (0 ≤ v ∧ v < ia 3 0)) : Ev G mX7_versionOf 0 [(1, 0), (0, v), (0, what)] [] (zH ia w) (.inr "java/lang/IndexOutOfBoundsException", zH ia w, 1, 6) := by
  have hn := I.1
  refine Ev.aload_n_1 fX7_versionOf_0 rfl ?_
  refine Ev.iload_n fX7_versionOf_1 rfl ?_
  exact Ev.xV 0 [(0, v)] [] fX7_versionOf_2 lkX7_versionOf_99 7 TX7 10 rfl rfl rfl rfl (eX7_checkVersion_x I ⟨by omega, by omega⟩ (by omega))
theorem eX7_versionOf_0 {G : zG} {ia : Nat → Int → Int} {w : (Nat → Int → Int) × (Nat → Int → Int)} {v : Int} (I : zCI ia) (hc0 : 0 ≤ v ∧ v < ia 3 0) : Ev G mX7_versionOf 0 [(1, 0), (0, v), (0, 0)] [] (zH ia w) (.inl (some (0, (ia 4 v))), zH ia w, 0, 0) := by
  have hn := I.1
  refine Ev.aload_n_1 fX7_versionOf_0 rfl ?_
  refine Ev.iload_n fX7_versionOf_1 rfl ?_
  refine Ev.cVv 0 [(0, v)] [] fX7_versionOf_2 lkX7_versionOf_99 7 TX7 10 rfl rfl rfl (eX7_checkVersion_0 I ⟨by omega, by omega⟩) ?_
  refine Ev.iload_n fX7_versionOf_5 rfl ?_
  refine Ev.tableIn fX7_versionOf_6 (by decide) (by decide) rfl rfl ?_
  refine Ev.aload_n_1 fX7_versionOf_48 rfl ?_
  refine Ev.gR 0 3 3 fX7_versionOf_49 (flX7_32 rfl) rfl rfl rfl ?_
  refine Ev.iload_n fX7_versionOf_52 rfl ?_
  refine Ev.cVi 3 [(0, v)] [] fX7_versionOf_53 lkX7_versionOf_130 6 TX6 5 rfl rfl rfl (eX6_parentOf I ⟨by omega, by omega⟩) ?_
  exact Ev.zI fX7_versionOf_56 rfl rfl
theorem eX7_versionOf_1 {G : zG} {ia : Nat → Int → Int} {w : (Nat → Int → Int) × (Nat → Int → Int)} {v : Int} (I : zCI ia) (hc0 : 0 ≤ v ∧ v < ia 3 0) : Ev G mX7_versionOf 0 [(1, 0), (0, v), (0, 1)] [] (zH ia w) (.inl (some (0, (ia 5 v))), zH ia w, 0, 0) := by
  have hn := I.1
  refine Ev.aload_n_1 fX7_versionOf_0 rfl ?_
  refine Ev.iload_n fX7_versionOf_1 rfl ?_
  refine Ev.cVv 0 [(0, v)] [] fX7_versionOf_2 lkX7_versionOf_99 7 TX7 10 rfl rfl rfl (eX7_checkVersion_0 I ⟨by omega, by omega⟩) ?_
  refine Ev.iload_n fX7_versionOf_5 rfl ?_
  refine Ev.tableIn fX7_versionOf_6 (by decide) (by decide) rfl rfl ?_
  refine Ev.aload_n_1 fX7_versionOf_57 rfl ?_
  refine Ev.gR 0 3 3 fX7_versionOf_58 (flX7_32 rfl) rfl rfl rfl ?_
  refine Ev.iload_n fX7_versionOf_61 rfl ?_
  refine Ev.cVi 3 [(0, v)] [] fX7_versionOf_62 lkX7_versionOf_133 6 TX6 5 rfl rfl rfl (eX6_yearOf I ⟨by omega, by omega⟩) ?_
  exact Ev.zI fX7_versionOf_65 rfl rfl
theorem eX7_versionOf_2 {G : zG} {ia : Nat → Int → Int} {w : (Nat → Int → Int) × (Nat → Int → Int)} {v : Int} (I : zCI ia) (hc0 : 0 ≤ v ∧ v < ia 3 0) : Ev G mX7_versionOf 0 [(1, 0), (0, v), (0, 2)] [] (zH ia w) (.inl (some (0, (zanc (ia 4) 40 (ia 4 v)))), zH ia w, 0, 0) := by
  have hn := I.1
  refine Ev.aload_n_1 fX7_versionOf_0 rfl ?_
  refine Ev.iload_n fX7_versionOf_1 rfl ?_
  refine Ev.cVv 0 [(0, v)] [] fX7_versionOf_2 lkX7_versionOf_99 7 TX7 10 rfl rfl rfl (eX7_checkVersion_0 I ⟨by omega, by omega⟩) ?_
  refine Ev.iload_n fX7_versionOf_5 rfl ?_
  refine Ev.tableIn fX7_versionOf_6 (by decide) (by decide) rfl rfl ?_
  refine Ev.aload_n_1 fX7_versionOf_66 rfl ?_
  refine Ev.gR 0 3 3 fX7_versionOf_67 (flX7_32 rfl) rfl rfl rfl ?_
  refine Ev.iload_n fX7_versionOf_70 rfl ?_
  refine Ev.cVi 3 [(0, v)] [] fX7_versionOf_71 lkX7_versionOf_136 6 TX6 5 rfl rfl rfl (eX6_ancestorsOf I ⟨by omega, by omega⟩) ?_
  exact Ev.zI fX7_versionOf_74 rfl rfl
theorem eX7_versionOf_3 {G : zG} {ia : Nat → Int → Int} {w : (Nat → Int → Int) × (Nat → Int → Int)} {v : Int} (I : zCI ia) (hc0 : 0 ≤ v ∧ v < ia 3 0) : Ev G mX7_versionOf 0 [(1, 0), (0, v), (0, 3)] [] (zH ia w) (.inl (some (0, (zsum (fun j => if 1 ≤ j ∧ ia 4 j = v then 1 else 0) (ia 3 0)))), zH ia w, 0, 0) := by
  have hn := I.1
  refine Ev.aload_n_1 fX7_versionOf_0 rfl ?_
  refine Ev.iload_n fX7_versionOf_1 rfl ?_
  refine Ev.cVv 0 [(0, v)] [] fX7_versionOf_2 lkX7_versionOf_99 7 TX7 10 rfl rfl rfl (eX7_checkVersion_0 I ⟨by omega, by omega⟩) ?_
  refine Ev.iload_n fX7_versionOf_5 rfl ?_
  refine Ev.tableIn fX7_versionOf_6 (by decide) (by decide) rfl rfl ?_
  refine Ev.aload_n_1 fX7_versionOf_75 rfl ?_
  refine Ev.gR 0 3 3 fX7_versionOf_76 (flX7_32 rfl) rfl rfl rfl ?_
  refine Ev.iload_n fX7_versionOf_79 rfl ?_
  refine Ev.cVi 3 [(0, v)] [] fX7_versionOf_80 lkX7_versionOf_139 6 TX6 5 rfl rfl rfl (eX6_childrenOf I ⟨by omega, by omega⟩) ?_
  exact Ev.zI fX7_versionOf_83 rfl rfl
theorem eX7_versionOf_4 {G : zG} {ia : Nat → Int → Int} {w : (Nat → Int → Int) × (Nat → Int → Int)} {v : Int} (I : zCI ia) (hc0 : 0 ≤ v ∧ v < ia 3 0) : Ev G mX7_versionOf 0 [(1, 0), (0, v), (0, 4)] [] (zH ia w) (.inl (some (0, (zsum (fun s => if ia 6 (v * 31 + s) = v then 1 else 0) (31)))), zH ia w, 0, 0) := by
  have hn := I.1
  refine Ev.aload_n_1 fX7_versionOf_0 rfl ?_
  refine Ev.iload_n fX7_versionOf_1 rfl ?_
  refine Ev.cVv 0 [(0, v)] [] fX7_versionOf_2 lkX7_versionOf_99 7 TX7 10 rfl rfl rfl (eX7_checkVersion_0 I ⟨by omega, by omega⟩) ?_
  refine Ev.iload_n fX7_versionOf_5 rfl ?_
  refine Ev.tableIn fX7_versionOf_6 (by decide) (by decide) rfl rfl ?_
  refine Ev.aload_n_1 fX7_versionOf_84 rfl ?_
  refine Ev.gR 0 3 3 fX7_versionOf_85 (flX7_32 rfl) rfl rfl rfl ?_
  refine Ev.iload_n fX7_versionOf_88 rfl ?_
  refine Ev.cVi 3 [(0, v)] [] fX7_versionOf_89 lkX7_versionOf_142 6 TX6 5 rfl rfl rfl (eX6_pagesMadeBy I ⟨by omega, by omega⟩) ?_
  exact Ev.zI fX7_versionOf_92 rfl rfl
theorem eX7_versionOf_5 {G : zG} {ia : Nat → Int → Int} {w : (Nat → Int → Int) × (Nat → Int → Int)} {v : Int} (I : zCI ia) (hc0 : 0 ≤ v ∧ v < ia 3 0) : Ev G mX7_versionOf 0 [(1, 0), (0, v), (0, 5)] [] (zH ia w) (.inl (some (0, (if ia 4 v = -1 then 0 else (zsum (fun i => if 0 ≤ i ∧ i ≤ 15 ∧ zTo ia v (15 + i) ≠ zTo ia (ia 4 v) (15 + i) then 1 else 0) 16)))), zH ia w, 0, 0) := by
  have hn := I.1
  refine Ev.aload_n_1 fX7_versionOf_0 rfl ?_
  refine Ev.iload_n fX7_versionOf_1 rfl ?_
  refine Ev.cVv 0 [(0, v)] [] fX7_versionOf_2 lkX7_versionOf_99 7 TX7 10 rfl rfl rfl (eX7_checkVersion_0 I ⟨by omega, by omega⟩) ?_
  refine Ev.iload_n fX7_versionOf_5 rfl ?_
  refine Ev.tableIn fX7_versionOf_6 (by decide) (by decide) rfl rfl ?_
  refine Ev.aload_n_1 fX7_versionOf_93 rfl ?_
  refine Ev.gR 0 3 3 fX7_versionOf_94 (flX7_32 rfl) rfl rfl rfl ?_
  refine Ev.iload_n fX7_versionOf_97 rfl ?_
  refine Ev.cVi 3 [(0, v)] [] fX7_versionOf_98 lkX7_versionOf_145 6 TX6 5 rfl rfl rfl (eX6_linesNewIn I ⟨by omega, by omega⟩) ?_
  exact Ev.zI fX7_versionOf_101 rfl rfl
theorem eX7_versionOf_6 {G : zG} {ia : Nat → Int → Int} {w : (Nat → Int → Int) × (Nat → Int → Int)} {v : Int} (I : zCI ia) (hc0 : 0 ≤ v ∧ v < ia 3 0) : Ev G mX7_versionOf 0 [(1, 0), (0, v), (0, 6)] [] (zH ia w) (.inl (some (0, (zsum (fun h => if ia 8 h = v then 1 else 0) (4)))), zH ia w, 0, 0) := by
  have hn := I.1
  refine Ev.aload_n_1 fX7_versionOf_0 rfl ?_
  refine Ev.iload_n fX7_versionOf_1 rfl ?_
  refine Ev.cVv 0 [(0, v)] [] fX7_versionOf_2 lkX7_versionOf_99 7 TX7 10 rfl rfl rfl (eX7_checkVersion_0 I ⟨by omega, by omega⟩) ?_
  refine Ev.iload_n fX7_versionOf_5 rfl ?_
  refine Ev.tableIn fX7_versionOf_6 (by decide) (by decide) rfl rfl ?_
  refine Ev.aload_n_1 fX7_versionOf_102 rfl ?_
  refine Ev.gR 0 2 2 fX7_versionOf_103 (flX7_25 rfl) rfl rfl rfl ?_
  refine Ev.iload_n fX7_versionOf_106 rfl ?_
  refine Ev.cVi 2 [(0, v)] [] fX7_versionOf_107 lkX7_versionOf_148 0 TX0 5 rfl rfl rfl (eX0_housesWith I ⟨by omega, by omega⟩) ?_
  exact Ev.zI fX7_versionOf_110 rfl rfl
theorem eX7_versionOf_x1 {G : zG} {ia : Nat → Int → Int} {w : (Nat → Int → Int) × (Nat → Int → Int)} {v what : Int} (I : zCI ia) (hrwhat : -2147483648 ≤ what ∧ what ≤ 2147483647) (hc0 : 0 ≤ v ∧ v < ia 3 0) (hx : ¬ (0 ≤ what ∧ what ≤ 6)) : Ev G mX7_versionOf 0 [(1, 0), (0, v), (0, what)] [] (zH ia w) (.inr "java/lang/IllegalArgumentException", zH ia w, 1, 6) := by
  have hn := I.1
  refine Ev.aload_n_1 fX7_versionOf_0 rfl ?_
  refine Ev.iload_n fX7_versionOf_1 rfl ?_
  refine Ev.cVv 0 [(0, v)] [] fX7_versionOf_2 lkX7_versionOf_99 7 TX7 10 rfl rfl rfl (eX7_checkVersion_0 I ⟨by omega, by omega⟩) ?_
  refine Ev.iload_n fX7_versionOf_5 rfl ?_
  refine Ev.tableOut fX7_versionOf_6 ⟨by omega, by omega⟩ (by omega) rfl ?_
  exact Ev.throw (pc9 := 0) 5 (thX7_151_155 rfl) fX7_versionOf_111 fX7_versionOf_114 fX7_versionOf_115 fX7_versionOf_117 fX7_versionOf_120 rfl rfl (by decide) (by decide)
theorem eX7_maker_x0 {G : zG} {ia : Nat → Int → Int} {w : (Nat → Int → Int) × (Nat → Int → Int)} {v s : Int} (I : zCI ia) (hrv : -2147483648 ≤ v ∧ v ≤ 2147483647) (hrs : -2147483648 ≤ s ∧ s ≤ 2147483647) (hx : ¬ (0 ≤ v ∧ v < ia 3 0)) : Ev G mX7_maker 0 [(1, 0), (0, v), (0, s)] [] (zH ia w) (.inr "java/lang/IndexOutOfBoundsException", zH ia w, 1, 6) := by
  have hn := I.1
  refine Ev.aload_n_1 fX7_maker_0 rfl ?_
  refine Ev.iload_n fX7_maker_1 rfl ?_
  exact Ev.xV 0 [(0, v)] [] fX7_maker_2 lkX7_maker_99 7 TX7 10 rfl rfl rfl rfl (eX7_checkVersion_x I ⟨by omega, by omega⟩ (by omega))
theorem eX7_maker_x1 {G : zG} {ia : Nat → Int → Int} {w : (Nat → Int → Int) × (Nat → Int → Int)} {v s : Int} (I : zCI ia) (hrv : -2147483648 ≤ v ∧ v ≤ 2147483647) (hrs : -2147483648 ≤ s ∧ s ≤ 2147483647) (hc0 : 0 ≤ v ∧ v < ia 3 0) (hx : ¬ (0 ≤ s ∧ s < 31)) : Ev G mX7_maker 0 [(1, 0), (0, v), (0, s)] [] (zH ia w) (.inr "java/lang/IllegalArgumentException", zH ia w, 1, 6) := by
  have hn := I.1
  refine Ev.aload_n_1 fX7_maker_0 rfl ?_
  refine Ev.iload_n fX7_maker_1 rfl ?_
  refine Ev.cVv 0 [(0, v)] [] fX7_maker_2 lkX7_maker_99 7 TX7 10 rfl rfl rfl (eX7_checkVersion_0 I ⟨by omega, by omega⟩) ?_
  refine Ev.iload_n fX7_maker_5 rfl ?_
  exact Ev.xS [(0, s)] [] fX7_maker_6 lkX7_maker_156 rfl rfl (eX7_checkSpan_x ⟨by omega, by omega⟩ (by omega))
theorem eX7_maker_0 {G : zG} {ia : Nat → Int → Int} {w : (Nat → Int → Int) × (Nat → Int → Int)} {v s : Int} (I : zCI ia)  (hc0 : 0 ≤ v ∧ v < ia 3 0) (hc1 : 0 ≤ s ∧ s < 31) : Ev G mX7_maker 0 [(1, 0), (0, v), (0, s)] [] (zH ia w) (.inl (some (0, (ia 6 (v * 31 + s)))), zH ia w, 0, 0) := by
  have hn := I.1
  refine Ev.aload_n_1 fX7_maker_0 rfl ?_
  refine Ev.iload_n fX7_maker_1 rfl ?_
  refine Ev.cVv 0 [(0, v)] [] fX7_maker_2 lkX7_maker_99 7 TX7 10 rfl rfl rfl (eX7_checkVersion_0 I ⟨by omega, by omega⟩) ?_
  refine Ev.iload_n fX7_maker_5 rfl ?_
  refine Ev.cSv [(0, s)] [] fX7_maker_6 lkX7_maker_156 rfl (eX7_checkSpan_0 ⟨by omega, by omega⟩) ?_
  refine Ev.aload_n_1 fX7_maker_9 rfl ?_
  refine Ev.gR 0 3 3 fX7_maker_10 (flX7_32 rfl) rfl rfl rfl ?_
  refine Ev.iload_n fX7_maker_13 rfl ?_
  refine Ev.iload_n fX7_maker_14 rfl ?_
  refine Ev.cVi 3 [(0, v), (0, s)] [] fX7_maker_15 lkX7_maker_159 6 TX6 5 rfl rfl rfl (eX6_makerOf I ⟨by omega, by omega⟩ ⟨by omega, by omega⟩) ?_
  exact Ev.zI fX7_maker_18 rfl rfl
theorem eX7_had_x0 {G : zG} {ia : Nat → Int → Int} {w : (Nat → Int → Int) × (Nat → Int → Int)} {h y : Int} (I : zCI ia) (hrh : -2147483648 ≤ h ∧ h ≤ 2147483647) (hry : -2147483648 ≤ y ∧ y ≤ 2147483647) (hx : ¬ (0 ≤ h ∧ h < 4)) : Ev G mX7_had 0 [(1, 0), (0, h), (0, y)] [] (zH ia w) (.inr "java/lang/IndexOutOfBoundsException", zH ia w, 1, 6) := by
  have hn := I.1
  refine Ev.iload_n fX7_had_0 rfl ?_
  exact Ev.xS [(0, h)] [] fX7_had_1 lkX7_had_92 rfl rfl (eX7_checkHouse_x ⟨by omega, by omega⟩ (by omega))
theorem eX7_had_x1 {G : zG} {ia : Nat → Int → Int} {w : (Nat → Int → Int) × (Nat → Int → Int)} {h y : Int} (I : zCI ia) (hry : -2147483648 ≤ y ∧ y ≤ 2147483647) (hc0 : 0 ≤ h ∧ h < 4) (hx : ¬ (0 ≤ y ∧ y ≤ 99)) : Ev G mX7_had 0 [(1, 0), (0, h), (0, y)] [] (zH ia w) (.inr "java/lang/IllegalArgumentException", zH ia w, 1, 6) := by
  have hn := I.1
  refine Ev.iload_n fX7_had_0 rfl ?_
  refine Ev.cSv [(0, h)] [] fX7_had_1 lkX7_had_92 rfl (eX7_checkHouse_0 ⟨by omega, by omega⟩) ?_
  refine Ev.iload_n fX7_had_4 rfl ?_
  refine Ev.if_lt fX7_had_5 rfl ⟨by omega, by omega⟩ (fun h5 => ?_) (fun h5 => ?_)
  · exact Ev.throw (pc9 := 0) 7 (thX7_151_155 rfl) fX7_had_14 fX7_had_17 fX7_had_18 fX7_had_20 fX7_had_23 rfl rfl (by decide) (by decide)
  · refine Ev.iload_n fX7_had_8 rfl ?_
    refine Ev.bipush fX7_had_9 rfl ?_
    refine Ev.icmp_le fX7_had_11 rfl ⟨by omega, by omega⟩ (by decide) (fun h11 => by exfalso; omega) (fun h11 => ?_)
    exact Ev.throw (pc9 := 0) 7 (thX7_151_155 rfl) fX7_had_14 fX7_had_17 fX7_had_18 fX7_had_20 fX7_had_23 rfl rfl (by decide) (by decide)
theorem eX7_had_0 {G : zG} {ia : Nat → Int → Int} {w : (Nat → Int → Int) × (Nat → Int → Int)} {h y r : Int} (I : zCI ia) (hc0 : 0 ≤ h ∧ h < 4) (hy : 0 ≤ y ∧ y ≤ 99) (hr : zlby (ia 4) (ia 5) y (ia 8 h + 1).toNat (ia 8 h) = r) : Ev G mX7_had 0 [(1, 0), (0, h), (0, y)] [] (zH ia w) (.inl (some (0, r)), zH ia w, 0, 0) := by
  have hn := I.1
  have hL := I.2.2.2.2.1 h (by omega) (by omega)
  refine Ev.iload_n fX7_had_0 rfl ?_
  refine Ev.cSv [(0, h)] [] fX7_had_1 lkX7_had_92 rfl (eX7_checkHouse_0 ⟨by omega, by omega⟩) ?_
  refine Ev.iload_n fX7_had_4 rfl ?_
  refine Ev.if_lt fX7_had_5 rfl ⟨by omega, by omega⟩ (fun h5 => by exfalso; omega) (fun h5 => ?_)
  refine Ev.iload_n fX7_had_8 rfl ?_
  refine Ev.bipush fX7_had_9 rfl ?_
  refine Ev.icmp_le fX7_had_11 rfl ⟨by omega, by omega⟩ (by decide) (fun h11 => ?_) (fun h11 => by exfalso; omega)
  refine Ev.aload_n_1 fX7_had_24 rfl ?_
  refine Ev.gR 0 3 3 fX7_had_25 (flX7_32 rfl) rfl rfl rfl ?_
  refine Ev.aload_n_1 fX7_had_28 rfl ?_
  refine Ev.gR 0 2 2 fX7_had_29 (flX7_25 rfl) rfl rfl rfl ?_
  refine Ev.iload_n fX7_had_32 rfl ?_
  refine Ev.cVi 2 [(0, h)] [(1, 3)] fX7_had_33 lkX7_had_96 0 TX0 5 rfl rfl rfl (eX0_ledgerOf (r := (ia 8 h)) ⟨by omega, by omega⟩ rfl) ?_
  refine Ev.iload_n fX7_had_36 rfl ?_
  refine Ev.cVi 3 [(0, (ia 8 h)), (0, y)] [] fX7_had_37 lkX7_had_164 6 TX6 5 rfl rfl rfl (eX6_latestByYear I ⟨by omega, by omega⟩ hy hr) ?_
  exact Ev.zI fX7_had_40 rfl rfl
theorem eX7_since_x0 {G : zG} {ia : Nat → Int → Int} {w : (Nat → Int → Int) × (Nat → Int → Int)} {v l : Int} (I : zCI ia) (hrv : -2147483648 ≤ v ∧ v ≤ 2147483647) (hrl : -2147483648 ≤ l ∧ l ≤ 2147483647) (hx : ¬ (0 ≤ v ∧ v < ia 3 0)) : Ev G mX7_since 0 [(1, 0), (0, v), (0, l)] [] (zH ia w) (.inr "java/lang/IndexOutOfBoundsException", zH ia w, 1, 6) := by
  have hn := I.1
  refine Ev.aload_n_1 fX7_since_0 rfl ?_
  refine Ev.iload_n fX7_since_1 rfl ?_
  exact Ev.xV 0 [(0, v)] [] fX7_since_2 lkX7_since_99 7 TX7 10 rfl rfl rfl rfl (eX7_checkVersion_x I ⟨by omega, by omega⟩ (by omega))
theorem eX7_since_x1 {G : zG} {ia : Nat → Int → Int} {w : (Nat → Int → Int) × (Nat → Int → Int)} {v l : Int} (I : zCI ia) (hrv : -2147483648 ≤ v ∧ v ≤ 2147483647) (hrl : -2147483648 ≤ l ∧ l ≤ 2147483647) (hc0 : 0 ≤ v ∧ v < ia 3 0) (hx : ¬ (0 ≤ l ∧ l ≤ l ∧ l < 16)) : Ev G mX7_since 0 [(1, 0), (0, v), (0, l)] [] (zH ia w) (.inr "java/lang/IllegalArgumentException", zH ia w, 1, 6) := by
  have hn := I.1
  refine Ev.aload_n_1 fX7_since_0 rfl ?_
  refine Ev.iload_n fX7_since_1 rfl ?_
  refine Ev.cVv 0 [(0, v)] [] fX7_since_2 lkX7_since_99 7 TX7 10 rfl rfl rfl (eX7_checkVersion_0 I ⟨by omega, by omega⟩) ?_
  refine Ev.iload_n fX7_since_5 rfl ?_
  refine Ev.iload_n fX7_since_6 rfl ?_
  exact Ev.xS [(0, l), (0, l)] [] fX7_since_7 lkX7_since_102 rfl rfl (eX7_checkLines_x ⟨by omega, by omega⟩ ⟨by omega, by omega⟩ (by omega))
theorem eX7_since_0 {G : zG} {ia : Nat → Int → Int} {w : (Nat → Int → Int) × (Nat → Int → Int)} {v l : Int} {r : Int} (I : zCI ia)  (hc0 : 0 ≤ v ∧ v < ia 3 0) (hc1 : 0 ≤ l ∧ l ≤ l ∧ l < 16) (hr : zsin (ia 4) (fun j => zTo ia j (15 + l)) (zTo ia v (15 + l)) (v + 1).toNat v = r) : Ev G mX7_since 0 [(1, 0), (0, v), (0, l)] [] (zH ia w) (.inl (some (0, r)), zH ia w, 0, 0) := by
  have hn := I.1
  refine Ev.aload_n_1 fX7_since_0 rfl ?_
  refine Ev.iload_n fX7_since_1 rfl ?_
  refine Ev.cVv 0 [(0, v)] [] fX7_since_2 lkX7_since_99 7 TX7 10 rfl rfl rfl (eX7_checkVersion_0 I ⟨by omega, by omega⟩) ?_
  refine Ev.iload_n fX7_since_5 rfl ?_
  refine Ev.iload_n fX7_since_6 rfl ?_
  refine Ev.cSv [(0, l), (0, l)] [] fX7_since_7 lkX7_since_102 rfl (eX7_checkLines_0 ⟨by omega, by omega, by omega⟩) ?_
  refine Ev.aload_n_1 fX7_since_10 rfl ?_
  refine Ev.gR 0 3 3 fX7_since_11 (flX7_32 rfl) rfl rfl rfl ?_
  refine Ev.iload_n fX7_since_14 rfl ?_
  refine Ev.iload_n fX7_since_15 rfl ?_
  refine Ev.cVi 3 [(0, v), (0, l)] [] fX7_since_16 lkX7_since_167 6 TX6 5 rfl rfl rfl (eX6_earliestWithAmountOf I ⟨by omega, by omega⟩ ⟨by omega, by omega⟩ hr) ?_
  exact Ev.zI fX7_since_19 rfl rfl
theorem eX7_common_x0 {G : zG} {ia : Nat → Int → Int} {w : (Nat → Int → Int) × (Nat → Int → Int)} {one other : Int} (I : zCI ia) (hrone : -2147483648 ≤ one ∧ one ≤ 2147483647) (hrother : -2147483648 ≤ other ∧ other ≤ 2147483647) (hx : ¬ (0 ≤ one ∧ one < ia 3 0)) : Ev G mX7_common 0 [(1, 0), (0, one), (0, other)] [] (zH ia w) (.inr "java/lang/IndexOutOfBoundsException", zH ia w, 1, 6) := by
  have hn := I.1
  refine Ev.aload_n_1 fX7_common_0 rfl ?_
  refine Ev.iload_n fX7_common_1 rfl ?_
  exact Ev.xV 0 [(0, one)] [] fX7_common_2 lkX7_common_99 7 TX7 10 rfl rfl rfl rfl (eX7_checkVersion_x I ⟨by omega, by omega⟩ (by omega))
theorem eX7_common_x1 {G : zG} {ia : Nat → Int → Int} {w : (Nat → Int → Int) × (Nat → Int → Int)} {one other : Int} (I : zCI ia) (hrone : -2147483648 ≤ one ∧ one ≤ 2147483647) (hrother : -2147483648 ≤ other ∧ other ≤ 2147483647) (hc0 : 0 ≤ one ∧ one < ia 3 0) (hx : ¬ (0 ≤ other ∧ other < ia 3 0)) : Ev G mX7_common 0 [(1, 0), (0, one), (0, other)] [] (zH ia w) (.inr "java/lang/IndexOutOfBoundsException", zH ia w, 1, 6) := by
  have hn := I.1
  refine Ev.aload_n_1 fX7_common_0 rfl ?_
  refine Ev.iload_n fX7_common_1 rfl ?_
  refine Ev.cVv 0 [(0, one)] [] fX7_common_2 lkX7_common_99 7 TX7 10 rfl rfl rfl (eX7_checkVersion_0 I ⟨by omega, by omega⟩) ?_
  refine Ev.aload_n_1 fX7_common_5 rfl ?_
  refine Ev.iload_n fX7_common_6 rfl ?_
  exact Ev.xV 0 [(0, other)] [] fX7_common_7 lkX7_common_99 7 TX7 10 rfl rfl rfl rfl (eX7_checkVersion_x I ⟨by omega, by omega⟩ (by omega))
theorem eX7_common_0 {G : zG} {ia : Nat → Int → Int} {w : (Nat → Int → Int) × (Nat → Int → Int)} {one other : Int} {r : Int} (I : zCI ia)  (hc0 : 0 ≤ one ∧ one < ia 3 0) (hc1 : 0 ≤ other ∧ other < ia 3 0) (hr : zcom (ia 4) (one + other + 1).toNat one other = r) : Ev G mX7_common 0 [(1, 0), (0, one), (0, other)] [] (zH ia w) (.inl (some (0, r)), zH ia w, 0, 0) := by
  have hn := I.1
  refine Ev.aload_n_1 fX7_common_0 rfl ?_
  refine Ev.iload_n fX7_common_1 rfl ?_
  refine Ev.cVv 0 [(0, one)] [] fX7_common_2 lkX7_common_99 7 TX7 10 rfl rfl rfl (eX7_checkVersion_0 I ⟨by omega, by omega⟩) ?_
  refine Ev.aload_n_1 fX7_common_5 rfl ?_
  refine Ev.iload_n fX7_common_6 rfl ?_
  refine Ev.cVv 0 [(0, other)] [] fX7_common_7 lkX7_common_99 7 TX7 10 rfl rfl rfl (eX7_checkVersion_0 I ⟨by omega, by omega⟩) ?_
  refine Ev.aload_n_1 fX7_common_10 rfl ?_
  refine Ev.gR 0 3 3 fX7_common_11 (flX7_32 rfl) rfl rfl rfl ?_
  refine Ev.iload_n fX7_common_14 rfl ?_
  refine Ev.iload_n fX7_common_15 rfl ?_
  refine Ev.cVi 3 [(0, one), (0, other)] [] fX7_common_16 lkX7_common_170 6 TX6 5 rfl rfl rfl (eX6_latestCommon I ⟨by omega, by omega⟩ ⟨by omega, by omega⟩ hr) ?_
  exact Ev.zI fX7_common_19 rfl rfl
theorem eX7_apart_x0 {G : zG} {ia : Nat → Int → Int} {w : (Nat → Int → Int) × (Nat → Int → Int)} {one other : Int} (I : zCI ia) (hrone : -2147483648 ≤ one ∧ one ≤ 2147483647) (hrother : -2147483648 ≤ other ∧ other ≤ 2147483647) (hx : ¬ (0 ≤ one ∧ one < ia 3 0)) : Ev G mX7_apart 0 [(1, 0), (0, one), (0, other)] [] (zH ia w) (.inr "java/lang/IndexOutOfBoundsException", zH ia w, 1, 6) := by
  have hn := I.1
  refine Ev.aload_n_1 fX7_apart_0 rfl ?_
  refine Ev.iload_n fX7_apart_1 rfl ?_
  exact Ev.xV 0 [(0, one)] [] fX7_apart_2 lkX7_apart_99 7 TX7 10 rfl rfl rfl rfl (eX7_checkVersion_x I ⟨by omega, by omega⟩ (by omega))
theorem eX7_apart_x1 {G : zG} {ia : Nat → Int → Int} {w : (Nat → Int → Int) × (Nat → Int → Int)} {one other : Int} (I : zCI ia) (hrone : -2147483648 ≤ one ∧ one ≤ 2147483647) (hrother : -2147483648 ≤ other ∧ other ≤ 2147483647) (hc0 : 0 ≤ one ∧ one < ia 3 0) (hx : ¬ (0 ≤ other ∧ other < ia 3 0)) : Ev G mX7_apart 0 [(1, 0), (0, one), (0, other)] [] (zH ia w) (.inr "java/lang/IndexOutOfBoundsException", zH ia w, 1, 6) := by
  have hn := I.1
  refine Ev.aload_n_1 fX7_apart_0 rfl ?_
  refine Ev.iload_n fX7_apart_1 rfl ?_
  refine Ev.cVv 0 [(0, one)] [] fX7_apart_2 lkX7_apart_99 7 TX7 10 rfl rfl rfl (eX7_checkVersion_0 I ⟨by omega, by omega⟩) ?_
  refine Ev.aload_n_1 fX7_apart_5 rfl ?_
  refine Ev.iload_n fX7_apart_6 rfl ?_
  exact Ev.xV 0 [(0, other)] [] fX7_apart_7 lkX7_apart_99 7 TX7 10 rfl rfl rfl rfl (eX7_checkVersion_x I ⟨by omega, by omega⟩ (by omega))
theorem eX7_apart_0 {G : zG} {ia : Nat → Int → Int} {w : (Nat → Int → Int) × (Nat → Int → Int)} {one other : Int} (I : zCI ia)  (hc0 : 0 ≤ one ∧ one < ia 3 0) (hc1 : 0 ≤ other ∧ other < ia 3 0) : Ev G mX7_apart 0 [(1, 0), (0, one), (0, other)] [] (zH ia w) (.inl (some (0, (zsum (fun i => if 0 ≤ i ∧ i ≤ 15 ∧ zTo ia one (15 + i) ≠ zTo ia other (15 + i) then 1 else 0) 16))), zH ia w, 0, 0) := by
  have hn := I.1
  refine Ev.aload_n_1 fX7_apart_0 rfl ?_
  refine Ev.iload_n fX7_apart_1 rfl ?_
  refine Ev.cVv 0 [(0, one)] [] fX7_apart_2 lkX7_apart_99 7 TX7 10 rfl rfl rfl (eX7_checkVersion_0 I ⟨by omega, by omega⟩) ?_
  refine Ev.aload_n_1 fX7_apart_5 rfl ?_
  refine Ev.iload_n fX7_apart_6 rfl ?_
  refine Ev.cVv 0 [(0, other)] [] fX7_apart_7 lkX7_apart_99 7 TX7 10 rfl rfl rfl (eX7_checkVersion_0 I ⟨by omega, by omega⟩) ?_
  refine Ev.aload_n_1 fX7_apart_10 rfl ?_
  refine Ev.gR 0 3 3 fX7_apart_11 (flX7_32 rfl) rfl rfl rfl ?_
  refine Ev.iload_n fX7_apart_14 rfl ?_
  refine Ev.iload_n fX7_apart_15 rfl ?_
  refine Ev.iconst fX7_apart_16 ?_
  refine Ev.bipush fX7_apart_17 rfl ?_
  refine Ev.cVi 3 [(0, one), (0, other), (0, 0), (0, 15)] [] fX7_apart_19 lkX7_apart_173 6 TX6 5 rfl rfl rfl (eX6_linesApart I ⟨by omega, by omega⟩ ⟨by omega, by omega⟩ ⟨by omega, by omega⟩ ⟨by omega, by omega⟩) ?_
  exact Ev.zI fX7_apart_22 rfl rfl
theorem eX7_shared_x0 {G : zG} {ia : Nat → Int → Int} {w : (Nat → Int → Int) × (Nat → Int → Int)} {one other : Int} (I : zCI ia) (hrone : -2147483648 ≤ one ∧ one ≤ 2147483647) (hrother : -2147483648 ≤ other ∧ other ≤ 2147483647) (hx : ¬ (0 ≤ one ∧ one < ia 3 0)) : Ev G mX7_shared 0 [(1, 0), (0, one), (0, other)] [] (zH ia w) (.inr "java/lang/IndexOutOfBoundsException", zH ia w, 1, 6) := by
  have hn := I.1
  refine Ev.aload_n_1 fX7_shared_0 rfl ?_
  refine Ev.iload_n fX7_shared_1 rfl ?_
  exact Ev.xV 0 [(0, one)] [] fX7_shared_2 lkX7_shared_99 7 TX7 10 rfl rfl rfl rfl (eX7_checkVersion_x I ⟨by omega, by omega⟩ (by omega))
theorem eX7_shared_x1 {G : zG} {ia : Nat → Int → Int} {w : (Nat → Int → Int) × (Nat → Int → Int)} {one other : Int} (I : zCI ia) (hrone : -2147483648 ≤ one ∧ one ≤ 2147483647) (hrother : -2147483648 ≤ other ∧ other ≤ 2147483647) (hc0 : 0 ≤ one ∧ one < ia 3 0) (hx : ¬ (0 ≤ other ∧ other < ia 3 0)) : Ev G mX7_shared 0 [(1, 0), (0, one), (0, other)] [] (zH ia w) (.inr "java/lang/IndexOutOfBoundsException", zH ia w, 1, 6) := by
  have hn := I.1
  refine Ev.aload_n_1 fX7_shared_0 rfl ?_
  refine Ev.iload_n fX7_shared_1 rfl ?_
  refine Ev.cVv 0 [(0, one)] [] fX7_shared_2 lkX7_shared_99 7 TX7 10 rfl rfl rfl (eX7_checkVersion_0 I ⟨by omega, by omega⟩) ?_
  refine Ev.aload_n_1 fX7_shared_5 rfl ?_
  refine Ev.iload_n fX7_shared_6 rfl ?_
  exact Ev.xV 0 [(0, other)] [] fX7_shared_7 lkX7_shared_99 7 TX7 10 rfl rfl rfl rfl (eX7_checkVersion_x I ⟨by omega, by omega⟩ (by omega))
theorem eX7_shared_0 {G : zG} {ia : Nat → Int → Int} {w : (Nat → Int → Int) × (Nat → Int → Int)} {one other : Int} (I : zCI ia)  (hc0 : 0 ≤ one ∧ one < ia 3 0) (hc1 : 0 ≤ other ∧ other < ia 3 0) : Ev G mX7_shared 0 [(1, 0), (0, one), (0, other)] [] (zH ia w) (.inl (some (0, (zsum (fun s => if ia 6 (one * 31 + s) = ia 6 (other * 31 + s) then 1 else 0) (31)))), zH ia w, 0, 0) := by
  have hn := I.1
  refine Ev.aload_n_1 fX7_shared_0 rfl ?_
  refine Ev.iload_n fX7_shared_1 rfl ?_
  refine Ev.cVv 0 [(0, one)] [] fX7_shared_2 lkX7_shared_99 7 TX7 10 rfl rfl rfl (eX7_checkVersion_0 I ⟨by omega, by omega⟩) ?_
  refine Ev.aload_n_1 fX7_shared_5 rfl ?_
  refine Ev.iload_n fX7_shared_6 rfl ?_
  refine Ev.cVv 0 [(0, other)] [] fX7_shared_7 lkX7_shared_99 7 TX7 10 rfl rfl rfl (eX7_checkVersion_0 I ⟨by omega, by omega⟩) ?_
  refine Ev.aload_n_1 fX7_shared_10 rfl ?_
  refine Ev.gR 0 3 3 fX7_shared_11 (flX7_32 rfl) rfl rfl rfl ?_
  refine Ev.iload_n fX7_shared_14 rfl ?_
  refine Ev.iload_n fX7_shared_15 rfl ?_
  refine Ev.cVi 3 [(0, one), (0, other)] [] fX7_shared_16 lkX7_shared_176 6 TX6 5 rfl rfl rfl (eX6_pagesInBoth I ⟨by omega, by omega⟩ ⟨by omega, by omega⟩) ?_
  exact Ev.zI fX7_shared_19 rfl rfl
theorem eX7_isOf_x0 {G : zG} {ia : Nat → Int → Int} {w : (Nat → Int → Int) × (Nat → Int → Int)} {one other : Int} (I : zCI ia) (hrone : -2147483648 ≤ one ∧ one ≤ 2147483647) (hrother : -2147483648 ≤ other ∧ other ≤ 2147483647) (hx : ¬ (0 ≤ one ∧ one < ia 3 0)) : Ev G mX7_isOf 0 [(1, 0), (0, one), (0, other)] [] (zH ia w) (.inr "java/lang/IndexOutOfBoundsException", zH ia w, 1, 6) := by
  have hn := I.1
  refine Ev.aload_n_1 fX7_isOf_0 rfl ?_
  refine Ev.iload_n fX7_isOf_1 rfl ?_
  exact Ev.xV 0 [(0, one)] [] fX7_isOf_2 lkX7_isOf_99 7 TX7 10 rfl rfl rfl rfl (eX7_checkVersion_x I ⟨by omega, by omega⟩ (by omega))
theorem eX7_isOf_x1 {G : zG} {ia : Nat → Int → Int} {w : (Nat → Int → Int) × (Nat → Int → Int)} {one other : Int} (I : zCI ia) (hrone : -2147483648 ≤ one ∧ one ≤ 2147483647) (hrother : -2147483648 ≤ other ∧ other ≤ 2147483647) (hc0 : 0 ≤ one ∧ one < ia 3 0) (hx : ¬ (0 ≤ other ∧ other < ia 3 0)) : Ev G mX7_isOf 0 [(1, 0), (0, one), (0, other)] [] (zH ia w) (.inr "java/lang/IndexOutOfBoundsException", zH ia w, 1, 6) := by
  have hn := I.1
  refine Ev.aload_n_1 fX7_isOf_0 rfl ?_
  refine Ev.iload_n fX7_isOf_1 rfl ?_
  refine Ev.cVv 0 [(0, one)] [] fX7_isOf_2 lkX7_isOf_99 7 TX7 10 rfl rfl rfl (eX7_checkVersion_0 I ⟨by omega, by omega⟩) ?_
  refine Ev.aload_n_1 fX7_isOf_5 rfl ?_
  refine Ev.iload_n fX7_isOf_6 rfl ?_
  exact Ev.xV 0 [(0, other)] [] fX7_isOf_7 lkX7_isOf_99 7 TX7 10 rfl rfl rfl rfl (eX7_checkVersion_x I ⟨by omega, by omega⟩ (by omega))
theorem eX7_isOf_0 {G : zG} {ia : Nat → Int → Int} {w : (Nat → Int → Int) × (Nat → Int → Int)} {one other : Int} {r : Int} (I : zCI ia)  (hc0 : 0 ≤ one ∧ one < ia 3 0) (hc1 : 0 ≤ other ∧ other < ia 3 0) (hr : zcom (ia 4) (one + other + 1).toNat one other = r) (hr0 : -1 ≤ r ∧ r ≤ 40) : Ev G mX7_isOf 0 [(1, 0), (0, one), (0, other)] [] (zH ia w) (.inl (some (0, (if r = one then 1 else 0))), zH ia w, 0, 0) := by
  have hn := I.1
  refine Ev.aload_n_1 fX7_isOf_0 rfl ?_
  refine Ev.iload_n fX7_isOf_1 rfl ?_
  refine Ev.cVv 0 [(0, one)] [] fX7_isOf_2 lkX7_isOf_99 7 TX7 10 rfl rfl rfl (eX7_checkVersion_0 I ⟨by omega, by omega⟩) ?_
  refine Ev.aload_n_1 fX7_isOf_5 rfl ?_
  refine Ev.iload_n fX7_isOf_6 rfl ?_
  refine Ev.cVv 0 [(0, other)] [] fX7_isOf_7 lkX7_isOf_99 7 TX7 10 rfl rfl rfl (eX7_checkVersion_0 I ⟨by omega, by omega⟩) ?_
  refine Ev.aload_n_1 fX7_isOf_10 rfl ?_
  refine Ev.gR 0 3 3 fX7_isOf_11 (flX7_32 rfl) rfl rfl rfl ?_
  refine Ev.iload_n fX7_isOf_14 rfl ?_
  refine Ev.iload_n fX7_isOf_15 rfl ?_
  refine Ev.cVi 3 [(0, one), (0, other)] [] fX7_isOf_16 lkX7_isOf_170 6 TX6 5 rfl rfl rfl (eX6_latestCommon I ⟨by omega, by omega⟩ ⟨by omega, by omega⟩ hr) ?_
  refine Ev.iload_n fX7_isOf_19 rfl ?_
  refine Ev.icmp_ne fX7_isOf_20 rfl ⟨by omega, by omega⟩ ⟨by omega, by omega⟩ (fun h20 => ?_) (fun h20 => ?_)
  · refine Ev.iconst fX7_isOf_27 ?_
    exact Ev.zZ fX7_isOf_28 rfl (by first | exact Or.inl rfl | exact Or.inr rfl) (by rw [if_neg (by omega)])
  · refine Ev.iconst fX7_isOf_23 ?_
    refine Ev.goto fX7_isOf_24 rfl ?_
    exact Ev.zZ fX7_isOf_28 rfl (by first | exact Or.inl rfl | exact Or.inr rfl) (by rw [if_pos (by omega)])
theorem eX7_users_x0 {G : zG} {ia : Nat → Int → Int} {w : (Nat → Int → Int) × (Nat → Int → Int)} {v s : Int} (I : zCI ia) (hrv : -2147483648 ≤ v ∧ v ≤ 2147483647) (hrs : -2147483648 ≤ s ∧ s ≤ 2147483647) (hx : ¬ (0 ≤ v ∧ v < ia 3 0)) : Ev G mX7_users 0 [(1, 0), (0, v), (0, s)] [] (zH ia w) (.inr "java/lang/IndexOutOfBoundsException", zH ia w, 1, 6) := by
  have hn := I.1
  refine Ev.aload_n_1 fX7_users_0 rfl ?_
  refine Ev.iload_n fX7_users_1 rfl ?_
  exact Ev.xV 0 [(0, v)] [] fX7_users_2 lkX7_users_99 7 TX7 10 rfl rfl rfl rfl (eX7_checkVersion_x I ⟨by omega, by omega⟩ (by omega))
theorem eX7_users_x1 {G : zG} {ia : Nat → Int → Int} {w : (Nat → Int → Int) × (Nat → Int → Int)} {v s : Int} (I : zCI ia) (hrv : -2147483648 ≤ v ∧ v ≤ 2147483647) (hrs : -2147483648 ≤ s ∧ s ≤ 2147483647) (hc0 : 0 ≤ v ∧ v < ia 3 0) (hx : ¬ (0 ≤ s ∧ s < 31)) : Ev G mX7_users 0 [(1, 0), (0, v), (0, s)] [] (zH ia w) (.inr "java/lang/IllegalArgumentException", zH ia w, 1, 6) := by
  have hn := I.1
  refine Ev.aload_n_1 fX7_users_0 rfl ?_
  refine Ev.iload_n fX7_users_1 rfl ?_
  refine Ev.cVv 0 [(0, v)] [] fX7_users_2 lkX7_users_99 7 TX7 10 rfl rfl rfl (eX7_checkVersion_0 I ⟨by omega, by omega⟩) ?_
  refine Ev.iload_n fX7_users_5 rfl ?_
  exact Ev.xS [(0, s)] [] fX7_users_6 lkX7_users_156 rfl rfl (eX7_checkSpan_x ⟨by omega, by omega⟩ (by omega))
theorem eX7_users_0 {G : zG} {ia : Nat → Int → Int} {w : (Nat → Int → Int) × (Nat → Int → Int)} {v s : Int} (I : zCI ia)  (hc0 : 0 ≤ v ∧ v < ia 3 0) (hc1 : 0 ≤ s ∧ s < 31) : Ev G mX7_users 0 [(1, 0), (0, v), (0, s)] [] (zH ia w) (.inl (some (0, (zsum (fun j => if ia 6 (j * 31 + s) = ia 6 (v * 31 + s) then 1 else 0) (ia 3 0)))), zH ia w, 0, 0) := by
  have hn := I.1
  have hm := I.2.2.1 v s hc0.1 hc0.2 hc1.1 hc1.2
  refine Ev.aload_n_1 fX7_users_0 rfl ?_
  refine Ev.iload_n fX7_users_1 rfl ?_
  refine Ev.cVv 0 [(0, v)] [] fX7_users_2 lkX7_users_99 7 TX7 10 rfl rfl rfl (eX7_checkVersion_0 I ⟨by omega, by omega⟩) ?_
  refine Ev.iload_n fX7_users_5 rfl ?_
  refine Ev.cSv [(0, s)] [] fX7_users_6 lkX7_users_156 rfl (eX7_checkSpan_0 ⟨by omega, by omega⟩) ?_
  refine Ev.aload_n_1 fX7_users_9 rfl ?_
  refine Ev.gR 0 3 3 fX7_users_10 (flX7_32 rfl) rfl rfl rfl ?_
  refine Ev.aload_n_1 fX7_users_13 rfl ?_
  refine Ev.gR 0 3 3 fX7_users_14 (flX7_32 rfl) rfl rfl rfl ?_
  refine Ev.iload_n fX7_users_17 rfl ?_
  refine Ev.iload_n fX7_users_18 rfl ?_
  refine Ev.cVi 3 [(0, v), (0, s)] [(1, 3)] fX7_users_19 lkX7_users_159 6 TX6 5 rfl rfl rfl (eX6_makerOf I ⟨by omega, by omega⟩ ⟨by omega, by omega⟩) ?_
  refine Ev.iload_n fX7_users_22 rfl ?_
  refine Ev.cVi 3 [(0, (ia 6 (v * 31 + s))), (0, s)] [] fX7_users_23 lkX7_users_179 6 TX6 5 rfl rfl rfl (eX6_usersOf I ⟨by omega, by omega⟩ ⟨by omega, by omega⟩) ?_
  exact Ev.zI fX7_users_26 rfl rfl
theorem eX7_wouldMake_x0 {G : zG} {ia : Nat → Int → Int} {w : (Nat → Int → Int) × (Nat → Int → Int)} {first last : Int} (I : zCI ia) (hrfirst : -2147483648 ≤ first ∧ first ≤ 2147483647) (hrlast : -2147483648 ≤ last ∧ last ≤ 2147483647) (hx : ¬ (0 ≤ first ∧ first ≤ last ∧ last < 16)) : Ev G mX7_wouldMake 0 [(1, 0), (0, first), (0, last), (9, 0), (9, 0)] [] (zH ia w) (.inr "java/lang/IllegalArgumentException", zH ia w, 1, 6) := by
  have hn := I.1
  refine Ev.iload_n fX7_wouldMake_0 rfl ?_
  refine Ev.iload_n fX7_wouldMake_1 rfl ?_
  exact Ev.xS [(0, first), (0, last)] [] fX7_wouldMake_2 lkX7_wouldMake_102 rfl rfl (eX7_checkLines_x ⟨by omega, by omega⟩ ⟨by omega, by omega⟩ (by omega))
theorem eX7_wouldMake_L {G : zG} {ia : Nat → Int → Int} {w : (Nat → Int → Int) × (Nat → Int → Int)} {first last : Int} (hG : zGo G) (hc0 : 0 ≤ first ∧ first ≤ last ∧ last < 16) : ∀ (n : Nat) (k acc : Int), (31 - k < n) → (0 ≤ k) → (k ≤ 31) → (acc = zsum (fun s => if (zlow s ≤ last ∧ first ≤ zhig s) ∧ (zlow s < first ∨ last < zhig s) then 1 else 0) k) → Ev G mX7_wouldMake 10 [(1, 0), (0, first), (0, last), (0, acc), (0, k)] [] (zH ia w) (.inl (some (0, (zsum (fun s => if (zlow s ≤ last ∧ first ≤ zhig s) ∧ (zlow s < first ∨ last < zhig s) then 1 else 0) (31)))), zH ia w, 0, 0) := by
  intro n
  induction n with
  | zero =>
    intro k acc hN hk0 hk1 hacc
    exact absurd hN (by omega)
  | succ n ih =>
    intro k acc hN hk0 hk1 hacc
    refine Ev.iload fX7_wouldMake_10 rfl ?_
    refine Ev.bipush fX7_wouldMake_12 rfl ?_
    refine Ev.icmp_ge fX7_wouldMake_14 rfl ⟨by omega, by omega⟩ (by decide) (fun h14 => ?_) (fun h14 => ?_)
    · refine Ev.iload_n fX7_wouldMake_36 rfl ?_
      exact Ev.zI fX7_wouldMake_37 rfl (by rw [hacc, show k = 31 by omega])
    · refine Ev.iload fX7_wouldMake_17 rfl ?_
      refine Ev.iload_n fX7_wouldMake_19 rfl ?_
      refine Ev.iload_n fX7_wouldMake_20 rfl ?_
      obtain ⟨b64, ga64, gb64, ge64⟩ := eX7_isCut_b (G := G) (ia := ia) (w := w) hG k first last ⟨by omega, by omega⟩ ⟨by omega, by omega⟩ ⟨by omega, by omega⟩
      refine Ev.cSi [(0, k), (0, first), (0, last)] [] fX7_wouldMake_21 lkX7_wouldMake_182 rfl ge64 ?_
      refine Ev.if_eq fX7_wouldMake_24 rfl ⟨by omega, by omega⟩ (fun h24 => ?_) (fun h24 => ?_)
      · refine Ev.siinc [(1, 0), (0, first), (0, last), (0, acc), (0, (k + 1))] fX7_wouldMake_30 rfl rfl rfl ?_
        refine Ev.goto fX7_wouldMake_33 rfl ?_
        exact ih (k + 1) acc (by omega) (by omega) (by omega) (by rw [zsum_s (by omega), hacc]; rw [if_neg (by omega)]; omega)
      · refine Ev.siinc [(1, 0), (0, first), (0, last), (0, (acc + 1)), (0, k)] fX7_wouldMake_27 rfl rfl rfl ?_
        refine Ev.siinc [(1, 0), (0, first), (0, last), (0, (acc + 1)), (0, (k + 1))] fX7_wouldMake_30 rfl rfl rfl ?_
        refine Ev.goto fX7_wouldMake_33 rfl ?_
        exact ih (k + 1) (acc + 1) (by omega) (by omega) (by omega) (by rw [zsum_s (by omega), hacc]; rw [if_pos (by omega)])
theorem eX7_wouldMake {G : zG} {ia : Nat → Int → Int} {w : (Nat → Int → Int) × (Nat → Int → Int)} {first last : Int} (hG : zGo G) (hc0 : 0 ≤ first ∧ first ≤ last ∧ last < 16) : Ev G mX7_wouldMake 0 [(1, 0), (0, first), (0, last), (9, 0), (9, 0)] [] (zH ia w) (.inl (some (0, (zsum (fun s => if (zlow s ≤ last ∧ first ≤ zhig s) ∧ (zlow s < first ∨ last < zhig s) then 1 else 0) (31)))), zH ia w, 0, 0) := by
  refine Ev.iload_n fX7_wouldMake_0 rfl ?_
  refine Ev.iload_n fX7_wouldMake_1 rfl ?_
  refine Ev.cSv [(0, first), (0, last)] [] fX7_wouldMake_2 lkX7_wouldMake_102 rfl (eX7_checkLines_0 ⟨by omega, by omega, by omega⟩) ?_
  refine Ev.iconst fX7_wouldMake_5 ?_
  refine Ev.sistore_n [(1, 0), (0, first), (0, last), (0, 0), (9, 0)] fX7_wouldMake_6 rfl rfl ?_
  refine Ev.iconst fX7_wouldMake_7 ?_
  refine Ev.sistore [(1, 0), (0, first), (0, last), (0, 0), (0, 0)] fX7_wouldMake_8 rfl rfl ?_
  exact eX7_wouldMake_L hG hc0 2000 0 0 (by omega) (by omega) (by omega) rfl
theorem eX7_alike_x0 {G : zG} {ia : Nat → Int → Int} {w : (Nat → Int → Int) × (Nat → Int → Int)} {v : Int} (I : zCI ia) (hrv : -2147483648 ≤ v ∧ v ≤ 2147483647) (hx : ¬ (0 ≤ v ∧ v < ia 3 0)) : Ev G mX7_alike 0 [(1, 0), (0, v)] [] (zH ia w) (.inr "java/lang/IndexOutOfBoundsException", zH ia w, 1, 6) := by
  have hn := I.1
  refine Ev.aload_n_1 fX7_alike_0 rfl ?_
  refine Ev.iload_n fX7_alike_1 rfl ?_
  exact Ev.xV 0 [(0, v)] [] fX7_alike_2 lkX7_alike_99 7 TX7 10 rfl rfl rfl rfl (eX7_checkVersion_x I ⟨by omega, by omega⟩ (by omega))
theorem eX7_alike_0 {G : zG} {ia : Nat → Int → Int} {w : (Nat → Int → Int) × (Nat → Int → Int)} {v : Int} (I : zCI ia)  (hc0 : 0 ≤ v ∧ v < ia 3 0) : Ev G mX7_alike 0 [(1, 0), (0, v)] [] (zH ia w) (.inl (some (0, (zsum (fun j => if j ≠ v ∧ (zsum (fun i => if 0 ≤ i ∧ i ≤ 15 ∧ zTo ia v (15 + i) ≠ zTo ia j (15 + i) then 1 else 0) 16) = 0 then 1 else 0) (ia 3 0)))), zH ia w, 0, 0) := by
  have hn := I.1
  refine Ev.aload_n_1 fX7_alike_0 rfl ?_
  refine Ev.iload_n fX7_alike_1 rfl ?_
  refine Ev.cVv 0 [(0, v)] [] fX7_alike_2 lkX7_alike_99 7 TX7 10 rfl rfl rfl (eX7_checkVersion_0 I ⟨by omega, by omega⟩) ?_
  refine Ev.aload_n_1 fX7_alike_5 rfl ?_
  refine Ev.gR 0 3 3 fX7_alike_6 (flX7_32 rfl) rfl rfl rfl ?_
  refine Ev.iload_n fX7_alike_9 rfl ?_
  refine Ev.cVi 3 [(0, v)] [] fX7_alike_10 lkX7_alike_186 6 TX6 5 rfl rfl rfl (eX6_othersAlike I ⟨by omega, by omega⟩) ?_
  exact Ev.zI fX7_alike_13 rfl rfl
theorem eX7_richest_x0 {G : zG} {ia : Nat → Int → Int} {w : (Nat → Int → Int) × (Nat → Int → Int)} {place : Int} (I : zCI ia) (hrplace : -2147483648 ≤ place ∧ place ≤ 2147483647) (hr : zfnd (fun v => decide ((zsum (fun j => if zTo ia v 0 < zTo ia j 0 ∨ (zTo ia j 0 = zTo ia v 0 ∧ v < j) then 1 else 0) (ia 3 0)) = place)) (ia 3 0).toNat 0 = -1) : Ev G mX7_richest 0 [(1, 0), (0, place), (9, 0)] [] (zH ia w) (.inr "java/util/NoSuchElementException", zH ia w, 1, 6) := by
  have hn := I.1
  refine Ev.aload_n_1 fX7_richest_0 rfl ?_
  refine Ev.gR 0 3 3 fX7_richest_1 (flX7_32 rfl) rfl rfl rfl ?_
  refine Ev.iload_n fX7_richest_4 rfl ?_
  refine Ev.cVi 3 [(0, place)] [] fX7_richest_5 lkX7_richest_189 6 TX6 5 rfl rfl rfl (eX6_atPlace I ⟨by omega, by omega⟩ hr) ?_
  refine Ev.sistore_n [(1, 0), (0, place), (0, (-1))] fX7_richest_8 rfl rfl ?_
  refine Ev.iload_n fX7_richest_9 rfl ?_
  refine Ev.iconst fX7_richest_10 ?_
  refine Ev.icmp_ne fX7_richest_11 rfl (by decide) (by decide) (fun h11 => by exfalso; revert h11; decide) (fun h11 => ?_)
  exact Ev.throwX (pc9 := 0) 8 (thX7_123_127 rfl) fX7_richest_14 fX7_richest_17 fX7_richest_18 fX7_richest_20 fX7_richest_23 rfl rfl (by decide) (by decide)
theorem eX7_richest_0 {G : zG} {ia : Nat → Int → Int} {w : (Nat → Int → Int) × (Nat → Int → Int)} {place r : Int} (I : zCI ia) (hrplace : -2147483648 ≤ place ∧ place ≤ 2147483647) (hr : zfnd (fun v => decide ((zsum (fun j => if zTo ia v 0 < zTo ia j 0 ∨ (zTo ia j 0 = zTo ia v 0 ∧ v < j) then 1 else 0) (ia 3 0)) = place)) (ia 3 0).toNat 0 = r) (hr0 : 0 ≤ r ∧ r ≤ 40) : Ev G mX7_richest 0 [(1, 0), (0, place), (9, 0)] [] (zH ia w) (.inl (some (0, r)), zH ia w, 0, 0) := by
  have hn := I.1
  refine Ev.aload_n_1 fX7_richest_0 rfl ?_
  refine Ev.gR 0 3 3 fX7_richest_1 (flX7_32 rfl) rfl rfl rfl ?_
  refine Ev.iload_n fX7_richest_4 rfl ?_
  refine Ev.cVi 3 [(0, place)] [] fX7_richest_5 lkX7_richest_189 6 TX6 5 rfl rfl rfl (eX6_atPlace I ⟨by omega, by omega⟩ hr) ?_
  refine Ev.sistore_n [(1, 0), (0, place), (0, r)] fX7_richest_8 rfl rfl ?_
  refine Ev.iload_n fX7_richest_9 rfl ?_
  refine Ev.iconst fX7_richest_10 ?_
  refine Ev.icmp_ne fX7_richest_11 rfl ⟨by omega, by omega⟩ (by decide) (fun h11 => ?_) (fun h11 => by exfalso; omega)
  refine Ev.iload_n fX7_richest_24 rfl ?_
  exact Ev.zI fX7_richest_25 rfl rfl
theorem eX7_busiest_x0 {G : zG} {ia : Nat → Int → Int} {w : (Nat → Int → Int) × (Nat → Int → Int)}  (I : zCI ia) (hx : ia 3 0 = 1) : Ev G mX7_busiest 0 [(1, 0)] [] (zH ia w) (.inr "java/util/NoSuchElementException", zH ia w, 1, 6) := by
  have hn := I.1
  refine Ev.aload_n_1 fX7_busiest_0 rfl ?_
  refine Ev.gR 0 3 3 fX7_busiest_1 (flX7_32 rfl) rfl rfl rfl ?_
  refine Ev.cVi 3 [] [] fX7_busiest_4 lkX7_busiest_194 6 TX6 5 rfl rfl rfl eX6_size ?_
  refine Ev.iconst fX7_busiest_7 ?_
  refine Ev.icmp_ge fX7_busiest_8 rfl ⟨by omega, by omega⟩ (by decide) (fun h8 => by exfalso; omega) (fun h8 => ?_)
  exact Ev.throwX (pc9 := 0) 9 (thX7_123_127 rfl) fX7_busiest_11 fX7_busiest_14 fX7_busiest_15 fX7_busiest_17 fX7_busiest_20 rfl rfl (by decide) (by decide)
theorem eX7_busiest_0 {G : zG} {ia : Nat → Int → Int} {w : (Nat → Int → Int) × (Nat → Int → Int)}  (I : zCI ia) (hx : 2 ≤ ia 3 0) : Ev G mX7_busiest 0 [(1, 0)] [] (zH ia w) (.inl (some (0, (zmx (zln ia) 1 (ia 3 0 - 2).toNat))), zH ia w, 0, 0) := by
  have hn := I.1
  refine Ev.aload_n_1 fX7_busiest_0 rfl ?_
  refine Ev.gR 0 3 3 fX7_busiest_1 (flX7_32 rfl) rfl rfl rfl ?_
  refine Ev.cVi 3 [] [] fX7_busiest_4 lkX7_busiest_194 6 TX6 5 rfl rfl rfl eX6_size ?_
  refine Ev.iconst fX7_busiest_7 ?_
  refine Ev.icmp_ge fX7_busiest_8 rfl ⟨by omega, by omega⟩ (by decide) (fun h8 => ?_) (fun h8 => by exfalso; omega)
  refine Ev.aload_n_1 fX7_busiest_21 rfl ?_
  refine Ev.gR 0 3 3 fX7_busiest_22 (flX7_32 rfl) rfl rfl rfl ?_
  refine Ev.cVi 3 [] [] fX7_busiest_25 lkX7_busiest_200 6 TX6 5 rfl rfl rfl (eX6_withMostPagesOfOthers I (by omega)) ?_
  exact Ev.zI fX7_busiest_28 rfl rfl
