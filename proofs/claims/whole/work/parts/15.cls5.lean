/-! THE CLASS: VERSIONS THAT COME (printed by wip/whole/gen/cls5.py) -/
theorem eX7_isInside_b {G : zG} {ia : Nat → Int → Int} {w : (Nat → Int → Int) × (Nat → Int → Int)} (hG : zGo G) (s first last : Int) (hs : 0 ≤ s ∧ s < 31) (hf : -2147483648 ≤ first ∧ first ≤ 2147483647) (hl : -2147483648 ≤ last ∧ last ≤ 2147483647) : ∃ b : Int, (b = 0 ∨ b = 1) ∧ (b = 1 ↔ first ≤ zlow s ∧ zhig s ≤ last) ∧ Ev G mX7_isInside 0 [(0, s), (0, first), (0, last)] [] (zH ia w) (.inl (some (0, b)), zH ia w, 0, 0) := by
  refine ⟨_, ?_, ?_, eX7_isInside hG hs hf hl⟩
  · split <;> simp
  · split <;> simp [*]
theorem eX7_isCut_b {G : zG} {ia : Nat → Int → Int} {w : (Nat → Int → Int) × (Nat → Int → Int)} (hG : zGo G) (s first last : Int) (hs : 0 ≤ s ∧ s < 31) (hf : -2147483648 ≤ first ∧ first ≤ 2147483647) (hl : -2147483648 ≤ last ∧ last ≤ 2147483647) : ∃ b : Int, (b = 0 ∨ b = 1) ∧ (b = 1 ↔ (zlow s ≤ last ∧ first ≤ zhig s) ∧ (zlow s < first ∨ last < zhig s)) ∧ Ev G mX7_isCut 0 [(0, s), (0, first), (0, last)] [] (zH ia w) (.inl (some (0, b)), zH ia w, 0, 0) := by
  refine ⟨_, ?_, ?_, eX7_isCut hG hs hf hl⟩
  · split <;> simp
  · split <;> simp [*]
theorem zsp {s : Int} (h : 0 ≤ s ∧ s < 31) : (s < 15 → zlow s < zhig s) ∧ (15 ≤ s → zlow s = s - 15 ∧ zhig s = s - 15) := by
  unfold zlow zhig
  omega
theorem eX6_sumByPages_L {G : zG} {ia : Nat → Int → Int} {w : (Nat → Int → Int) × (Nat → Int → Int)} {v first last : Int} (hG : zGo G) (I : zCI ia) (hv : 0 ≤ v ∧ v < ia 3 0) (hf : 0 ≤ first ∧ first ≤ 15) (hl : 0 ≤ last ∧ last ≤ 15) : ∀ (n : Nat) (k acc : Int), (31 - k < n) → (0 ≤ k) → (k ≤ 31) → (acc = zsum (fun s => if ¬ (0 < s ∧ first ≤ zlow ((s - 1) / 2) ∧ zhig ((s - 1) / 2) ≤ last) ∧ first ≤ zlow s ∧ zhig s ≤ last then zTo ia v s else 0) k) → Ev G mX6_sumByPages 6 [(1, 3), (0, v), (0, first), (0, last), (0, acc), (0, k), (9, 0)] [] (zH ia w) (.inl (some (0, (zsum (fun s => if ¬ (0 < s ∧ first ≤ zlow ((s - 1) / 2) ∧ zhig ((s - 1) / 2) ≤ last) ∧ first ≤ zlow s ∧ zhig s ≤ last then zTo ia v s else 0) 31))), zH ia w, 0, 0) := by
  intro n
  induction n with
  | zero =>
    intro k acc hN hk0 hk1 hacc
    exact absurd hN (by omega)
  | succ n ih =>
    intro k acc hN hk0 hk1 hacc
    have hn := I.1
    refine Ev.iload fX6_sumByPages_6 rfl ?_
    refine Ev.bipush fX6_sumByPages_8 rfl ?_
    refine Ev.icmp_ge fX6_sumByPages_10 rfl ⟨by omega, by omega⟩ (by decide) (fun h10 => ?_) (fun h10 => ?_)
    · refine Ev.iload fX6_sumByPages_72 rfl ?_
      exact Ev.zI fX6_sumByPages_74 rfl (by rw [hacc, show k = 31 by omega])
    · refine Ev.iload fX6_sumByPages_13 rfl ?_
      refine Ev.if_le fX6_sumByPages_15 rfl ⟨by omega, by omega⟩ (fun h15 => ?_) (fun h15 => ?_)
      · refine Ev.iconst fX6_sumByPages_36 ?_
        refine Ev.sistore [(1, 3), (0, v), (0, first), (0, last), (0, acc), (0, k), (0, 0)] fX6_sumByPages_37 rfl rfl ?_
        refine Ev.iload fX6_sumByPages_39 rfl ?_
        refine Ev.if_ne fX6_sumByPages_41 rfl (by decide) (fun h41 => by exfalso; revert h41; decide) (fun h41 => ?_)
        refine Ev.iload fX6_sumByPages_44 rfl ?_
        refine Ev.iload_n fX6_sumByPages_46 rfl ?_
        refine Ev.iload_n fX6_sumByPages_47 rfl ?_
        obtain ⟨b1, ga1, gb1, ge1⟩ := eX7_isInside_b (G := G) (ia := ia) (w := w) hG k first last ⟨by omega, by omega⟩ ⟨by omega, by omega⟩ ⟨by omega, by omega⟩
        refine Ev.cSNi [(0, k), (0, first), (0, last)] [] fX6_sumByPages_48 lkX6_sumByPages_59 rfl ge1 ?_
        refine Ev.if_eq fX6_sumByPages_51 rfl ⟨by omega, by omega⟩ (fun h51 => ?_) (fun h51 => ?_)
        · refine Ev.siinc [(1, 3), (0, v), (0, first), (0, last), (0, acc), (0, (k + 1)), (0, 0)] fX6_sumByPages_66 rfl rfl rfl ?_
          refine Ev.goto fX6_sumByPages_69 rfl ?_
          refine Ev.fg 6 [(1, 3), (0, v), (0, first), (0, last), (0, acc), (0, (k + 1)), (9, 0)] rfl ?_
          exact ih (k + 1) acc (by omega) (by omega) (by omega) (by rw [zsum_s (by omega), hacc]; rw [if_neg (by omega)]; omega)
        · refine Ev.iload fX6_sumByPages_54 rfl ?_
          refine Ev.aload_n_1 fX6_sumByPages_56 rfl ?_
          refine Ev.iload_n fX6_sumByPages_57 rfl ?_
          refine Ev.iload fX6_sumByPages_58 rfl ?_
          refine Ev.cVi 3 [(0, v), (0, k)] [(0, acc)] fX6_sumByPages_60 lkX6_sumByPages_41 6 TX6 5 rfl rfl rfl (eX6_totalOf I ⟨by omega, by omega⟩ ⟨by omega, by omega⟩) ?_
          refine Ev.iadd fX6_sumByPages_63 ?_
          refine Ev.sistore [(1, 3), (0, v), (0, first), (0, last), (0, (acc + (zTo ia v k))), (0, k), (0, 0)] fX6_sumByPages_64 rfl rfl ?_
          refine Ev.siinc [(1, 3), (0, v), (0, first), (0, last), (0, (acc + (zTo ia v k))), (0, (k + 1)), (0, 0)] fX6_sumByPages_66 rfl rfl rfl ?_
          refine Ev.goto fX6_sumByPages_69 rfl ?_
          refine Ev.fg 6 [(1, 3), (0, v), (0, first), (0, last), (0, (acc + (zTo ia v k))), (0, (k + 1)), (9, 0)] rfl ?_
          exact ih (k + 1) (acc + (zTo ia v k)) (by omega) (by omega) (by omega) (by rw [zsum_s (by omega), hacc]; rw [if_pos (by omega)])
      · refine Ev.iload fX6_sumByPages_18 rfl ?_
        refine Ev.iconst fX6_sumByPages_20 ?_
        refine Ev.isub fX6_sumByPages_21 ?_
        refine Ev.iconst fX6_sumByPages_22 ?_
        refine Ev.idiv fX6_sumByPages_23 ⟨by omega, by omega⟩ (by decide) ?_
        refine Ev.iload_n fX6_sumByPages_24 rfl ?_
        refine Ev.iload_n fX6_sumByPages_25 rfl ?_
        obtain ⟨b2, ga2, gb2, ge2⟩ := eX7_isInside_b (G := G) (ia := ia) (w := w) hG ((k - 1) / 2) first last ⟨by omega, by omega⟩ ⟨by omega, by omega⟩ ⟨by omega, by omega⟩
        refine Ev.cSNi [(0, ((k - 1) / 2)), (0, first), (0, last)] [] fX6_sumByPages_26 lkX6_sumByPages_59 rfl ge2 ?_
        refine Ev.if_eq fX6_sumByPages_29 rfl ⟨by omega, by omega⟩ (fun h29 => ?_) (fun h29 => ?_)
        · refine Ev.iconst fX6_sumByPages_36 ?_
          refine Ev.sistore [(1, 3), (0, v), (0, first), (0, last), (0, acc), (0, k), (0, 0)] fX6_sumByPages_37 rfl rfl ?_
          refine Ev.iload fX6_sumByPages_39 rfl ?_
          refine Ev.if_ne fX6_sumByPages_41 rfl (by decide) (fun h41 => by exfalso; revert h41; decide) (fun h41 => ?_)
          refine Ev.iload fX6_sumByPages_44 rfl ?_
          refine Ev.iload_n fX6_sumByPages_46 rfl ?_
          refine Ev.iload_n fX6_sumByPages_47 rfl ?_
          obtain ⟨b3, ga3, gb3, ge3⟩ := eX7_isInside_b (G := G) (ia := ia) (w := w) hG k first last ⟨by omega, by omega⟩ ⟨by omega, by omega⟩ ⟨by omega, by omega⟩
          refine Ev.cSNi [(0, k), (0, first), (0, last)] [] fX6_sumByPages_48 lkX6_sumByPages_59 rfl ge3 ?_
          refine Ev.if_eq fX6_sumByPages_51 rfl ⟨by omega, by omega⟩ (fun h51 => ?_) (fun h51 => ?_)
          · refine Ev.siinc [(1, 3), (0, v), (0, first), (0, last), (0, acc), (0, (k + 1)), (0, 0)] fX6_sumByPages_66 rfl rfl rfl ?_
            refine Ev.goto fX6_sumByPages_69 rfl ?_
            refine Ev.fg 6 [(1, 3), (0, v), (0, first), (0, last), (0, acc), (0, (k + 1)), (9, 0)] rfl ?_
            exact ih (k + 1) acc (by omega) (by omega) (by omega) (by rw [zsum_s (by omega), hacc]; rw [if_neg (by omega)]; omega)
          · refine Ev.iload fX6_sumByPages_54 rfl ?_
            refine Ev.aload_n_1 fX6_sumByPages_56 rfl ?_
            refine Ev.iload_n fX6_sumByPages_57 rfl ?_
            refine Ev.iload fX6_sumByPages_58 rfl ?_
            refine Ev.cVi 3 [(0, v), (0, k)] [(0, acc)] fX6_sumByPages_60 lkX6_sumByPages_41 6 TX6 5 rfl rfl rfl (eX6_totalOf I ⟨by omega, by omega⟩ ⟨by omega, by omega⟩) ?_
            refine Ev.iadd fX6_sumByPages_63 ?_
            refine Ev.sistore [(1, 3), (0, v), (0, first), (0, last), (0, (acc + (zTo ia v k))), (0, k), (0, 0)] fX6_sumByPages_64 rfl rfl ?_
            refine Ev.siinc [(1, 3), (0, v), (0, first), (0, last), (0, (acc + (zTo ia v k))), (0, (k + 1)), (0, 0)] fX6_sumByPages_66 rfl rfl rfl ?_
            refine Ev.goto fX6_sumByPages_69 rfl ?_
            refine Ev.fg 6 [(1, 3), (0, v), (0, first), (0, last), (0, (acc + (zTo ia v k))), (0, (k + 1)), (9, 0)] rfl ?_
            exact ih (k + 1) (acc + (zTo ia v k)) (by omega) (by omega) (by omega) (by rw [zsum_s (by omega), hacc]; rw [if_pos (by omega)])
        · refine Ev.iconst fX6_sumByPages_32 ?_
          refine Ev.goto fX6_sumByPages_33 rfl ?_
          refine Ev.sistore [(1, 3), (0, v), (0, first), (0, last), (0, acc), (0, k), (0, 1)] fX6_sumByPages_37 rfl rfl ?_
          refine Ev.iload fX6_sumByPages_39 rfl ?_
          refine Ev.if_ne fX6_sumByPages_41 rfl (by decide) (fun h41 => ?_) (fun h41 => by exfalso; revert h41; decide)
          refine Ev.siinc [(1, 3), (0, v), (0, first), (0, last), (0, acc), (0, (k + 1)), (0, 1)] fX6_sumByPages_66 rfl rfl rfl ?_
          refine Ev.goto fX6_sumByPages_69 rfl ?_
          refine Ev.fg 6 [(1, 3), (0, v), (0, first), (0, last), (0, acc), (0, (k + 1)), (9, 0)] rfl ?_
          exact ih (k + 1) acc (by omega) (by omega) (by omega) (by rw [zsum_s (by omega), hacc]; rw [if_neg (by omega)]; omega)
theorem eX6_sumByPages {G : zG} {ia : Nat → Int → Int} {w : (Nat → Int → Int) × (Nat → Int → Int)} {v first last : Int} (hG : zGo G) (I : zCI ia) (hv : 0 ≤ v ∧ v < ia 3 0) (hf : 0 ≤ first ∧ first ≤ 15) (hl : 0 ≤ last ∧ last ≤ 15) : Ev G mX6_sumByPages 0 [(1, 3), (0, v), (0, first), (0, last), (9, 0), (9, 0), (9, 0)] [] (zH ia w) (.inl (some (0, (zsum (fun s => if ¬ (0 < s ∧ first ≤ zlow ((s - 1) / 2) ∧ zhig ((s - 1) / 2) ≤ last) ∧ first ≤ zlow s ∧ zhig s ≤ last then zTo ia v s else 0) 31))), zH ia w, 0, 0) := by
  have hn := I.1
  refine Ev.iconst fX6_sumByPages_0 ?_
  refine Ev.sistore [(1, 3), (0, v), (0, first), (0, last), (0, 0), (9, 0), (9, 0)] fX6_sumByPages_1 rfl rfl ?_
  refine Ev.iconst fX6_sumByPages_3 ?_
  refine Ev.sistore [(1, 3), (0, v), (0, first), (0, last), (0, 0), (0, 0), (9, 0)] fX6_sumByPages_4 rfl rfl ?_
  exact eX6_sumByPages_L hG I hv hf hl 60 0 0 (by omega) (by omega) (by omega) rfl
theorem eX6_makePage {G : zG} {ia : Nat → Int → Int} {w : (Nat → Int → Int) × (Nat → Int → Int)} {v s t : Int} (I : zCI ia) (hv : 0 ≤ v ∧ v < ia 3 0) (hs : 0 ≤ s ∧ s < 31) : Ev G mX6_makePage 0 [(1, 3), (0, v), (0, s), (0, t)] [] (zH ia w) (.inl none, zH (zMP ia v s t) w, 0, 0) := by
  have hn := I.1
  refine Ev.aload_n_1 fX6_makePage_0 rfl ?_
  refine Ev.iload_n fX6_makePage_1 rfl ?_
  refine Ev.cVi 3 [(0, v)] [] fX6_makePage_2 lkX6_makePage_34 6 TX6 5 rfl rfl rfl (eX6_has_t I ⟨by omega, by omega⟩) ?_
  refine Ev.if_eq fX6_makePage_5 rfl (by decide) (fun h5 => by exfalso; revert h5; decide) (fun h5 => ?_)
  refine Ev.iload_n fX6_makePage_8 rfl ?_
  refine Ev.cSNi [(0, s)] [] fX6_makePage_9 lkX6_makePage_38 rfl (eX7_isSpan_t ⟨by omega, by omega⟩) ?_
  refine Ev.if_eq fX6_makePage_12 rfl (by decide) (fun h12 => by exfalso; revert h12; decide) (fun h12 => ?_)
  refine Ev.aload_n_1 fX6_makePage_15 rfl ?_
  refine Ev.gR 3 3 6 fX6_makePage_16 (flX6_22 rfl) rfl rfl rfl ?_
  refine Ev.iload_n fX6_makePage_19 rfl ?_
  refine Ev.bipush fX6_makePage_20 rfl ?_
  refine Ev.imul fX6_makePage_22 ?_
  refine Ev.iload_n fX6_makePage_23 rfl ?_
  refine Ev.iadd fX6_makePage_24 ?_
  refine Ev.iload_n fX6_makePage_25 rfl ?_
  refine Ev.stI 6 1240 fX6_makePage_26 rfl rfl ⟨by omega, by omega⟩ ?_
  refine Ev.aload_n_1 fX6_makePage_27 rfl ?_
  refine Ev.gR 3 4 7 fX6_makePage_28 (flX6_25 rfl) rfl rfl rfl ?_
  refine Ev.iload_n fX6_makePage_31 rfl ?_
  refine Ev.bipush fX6_makePage_32 rfl ?_
  refine Ev.imul fX6_makePage_34 ?_
  refine Ev.iload_n fX6_makePage_35 rfl ?_
  refine Ev.iadd fX6_makePage_36 ?_
  refine Ev.iload_n fX6_makePage_37 rfl ?_
  refine Ev.stI 7 1240 fX6_makePage_38 rfl rfl ⟨by omega, by omega⟩ ?_
  exact Ev.zV fX6_makePage_39 rfl
theorem eX6_takePage {G : zG} {ia : Nat → Int → Int} {w : (Nat → Int → Int) × (Nat → Int → Int)} {v s u : Int} (I : zCI ia) (hv : 0 ≤ v ∧ v < ia 3 0) (hs : 0 ≤ s ∧ s < 31) (hu : 0 ≤ u ∧ u < ia 3 0) : Ev G mX6_takePage 0 [(1, 3), (0, v), (0, s), (0, u)] [] (zH ia w) (.inl none, zH (zTP ia v s u) w, 0, 0) := by
  have hn := I.1
  refine Ev.aload_n_1 fX6_takePage_0 rfl ?_
  refine Ev.iload_n fX6_takePage_1 rfl ?_
  refine Ev.cVi 3 [(0, v)] [] fX6_takePage_2 lkX6_takePage_34 6 TX6 5 rfl rfl rfl (eX6_has_t I ⟨by omega, by omega⟩) ?_
  refine Ev.if_eq fX6_takePage_5 rfl (by decide) (fun h5 => by exfalso; revert h5; decide) (fun h5 => ?_)
  refine Ev.aload_n_1 fX6_takePage_8 rfl ?_
  refine Ev.iload_n fX6_takePage_9 rfl ?_
  refine Ev.cVi 3 [(0, u)] [] fX6_takePage_10 lkX6_takePage_34 6 TX6 5 rfl rfl rfl (eX6_has_t I ⟨by omega, by omega⟩) ?_
  refine Ev.if_eq fX6_takePage_13 rfl (by decide) (fun h13 => by exfalso; revert h13; decide) (fun h13 => ?_)
  refine Ev.iload_n fX6_takePage_16 rfl ?_
  refine Ev.cSNi [(0, s)] [] fX6_takePage_17 lkX6_takePage_38 rfl (eX7_isSpan_t ⟨by omega, by omega⟩) ?_
  refine Ev.if_eq fX6_takePage_20 rfl (by decide) (fun h20 => by exfalso; revert h20; decide) (fun h20 => ?_)
  refine Ev.aload_n_1 fX6_takePage_23 rfl ?_
  refine Ev.gR 3 3 6 fX6_takePage_24 (flX6_22 rfl) rfl rfl rfl ?_
  refine Ev.iload_n fX6_takePage_27 rfl ?_
  refine Ev.bipush fX6_takePage_28 rfl ?_
  refine Ev.imul fX6_takePage_30 ?_
  refine Ev.iload_n fX6_takePage_31 rfl ?_
  refine Ev.iadd fX6_takePage_32 ?_
  refine Ev.aload_n_1 fX6_takePage_33 rfl ?_
  refine Ev.gR 3 3 6 fX6_takePage_34 (flX6_22 rfl) rfl rfl rfl ?_
  refine Ev.iload_n fX6_takePage_37 rfl ?_
  refine Ev.bipush fX6_takePage_38 rfl ?_
  refine Ev.imul fX6_takePage_40 ?_
  refine Ev.iload_n fX6_takePage_41 rfl ?_
  refine Ev.iadd fX6_takePage_42 ?_
  refine Ev.ld 6 1240 (v := (ia 6 ((u * 31) + s))) fX6_takePage_43 rfl rfl ⟨by omega, by omega⟩ rfl ?_
  refine Ev.stI 6 1240 fX6_takePage_44 rfl rfl ⟨by omega, by omega⟩ ?_
  exact Ev.zV fX6_takePage_45 rfl
theorem eX6_addChild {G : zG} {ia : Nat → Int → Int} {w : (Nat → Int → Int) × (Nat → Int → Int)} {p y : Int} (I : zCI ia) (hc : ia 3 0 < 40) (hp : 0 ≤ p ∧ p < ia 3 0) : Ev G mX6_addChild 0 [(1, 3), (0, p), (0, y), (9, 0)] [] (zH ia w) (.inl (some (0, (ia 3 0))), zH (zAC ia p y) w, 0, 0) := by
  have hn := I.1
  refine Ev.aload_n_1 fX6_addChild_0 rfl ?_
  refine Ev.cVi 3 [] [] fX6_addChild_1 lkX6_addChild_65 6 TX6 5 rfl rfl rfl (eX6_isFull_f I (by omega)) ?_
  refine Ev.if_ne fX6_addChild_4 rfl (by decide) (fun h4 => by exfalso; revert h4; decide) (fun h4 => ?_)
  refine Ev.aload_n_1 fX6_addChild_7 rfl ?_
  refine Ev.iload_n fX6_addChild_8 rfl ?_
  refine Ev.cVi 3 [(0, p)] [] fX6_addChild_9 lkX6_addChild_34 6 TX6 5 rfl rfl rfl (eX6_has_t I ⟨by omega, by omega⟩) ?_
  refine Ev.if_ne fX6_addChild_12 rfl (by decide) (fun h12 => ?_) (fun h12 => by exfalso; revert h12; decide)
  refine Ev.aload_n_1 fX6_addChild_17 rfl ?_
  refine Ev.gI 3 0 (v := (ia 3 0)) fX6_addChild_18 (flX6_9 rfl) rfl rfl rfl ?_
  refine Ev.sistore_n [(1, 3), (0, p), (0, y), (0, (ia 3 0))] fX6_addChild_21 rfl rfl ?_
  refine Ev.aload_n_1 fX6_addChild_22 rfl ?_
  refine Ev.dup fX6_addChild_23 rfl ?_
  refine Ev.gI 3 0 (v := (ia 3 0)) fX6_addChild_24 (flX6_9 rfl) rfl rfl rfl ?_
  refine Ev.iconst fX6_addChild_27 ?_
  refine Ev.iadd fX6_addChild_28 ?_
  refine Ev.pI 3 0 fX6_addChild_29 (flX6_9 rfl) rfl rfl trivial ?_
  refine Ev.aload_n_1 fX6_addChild_32 rfl ?_
  refine Ev.gR 3 1 4 fX6_addChild_33 (flX6_15 rfl) rfl rfl rfl ?_
  refine Ev.iload_n fX6_addChild_36 rfl ?_
  refine Ev.iload_n fX6_addChild_37 rfl ?_
  refine Ev.stI 4 40 fX6_addChild_38 rfl rfl ⟨by omega, by omega⟩ ?_
  refine Ev.aload_n_1 fX6_addChild_39 rfl ?_
  refine Ev.gR 3 2 5 fX6_addChild_40 (flX6_19 rfl) rfl rfl rfl ?_
  refine Ev.iload_n fX6_addChild_43 rfl ?_
  refine Ev.iload_n fX6_addChild_44 rfl ?_
  refine Ev.stI 5 40 fX6_addChild_45 rfl rfl ⟨by omega, by omega⟩ ?_
  refine Ev.aload_n_1 fX6_addChild_46 rfl ?_
  refine Ev.gR 3 3 6 fX6_addChild_47 (flX6_22 rfl) rfl rfl rfl ?_
  refine Ev.iload_n fX6_addChild_50 rfl ?_
  refine Ev.bipush fX6_addChild_51 rfl ?_
  refine Ev.imul fX6_addChild_53 ?_
  refine Ev.aload_n_1 fX6_addChild_54 rfl ?_
  refine Ev.gR 3 3 6 fX6_addChild_55 (flX6_22 rfl) rfl rfl rfl ?_
  refine Ev.iload_n fX6_addChild_58 rfl ?_
  refine Ev.bipush fX6_addChild_59 rfl ?_
  refine Ev.imul fX6_addChild_61 ?_
  refine Ev.bipush fX6_addChild_62 rfl ?_
  refine Ev.cp 6 6 1240 1240 fX6_addChild_64 (zlX6_28 rfl) zt_copy rfl rfl rfl rfl (by refine ⟨?_, ?_, ?_, ?_, ?_⟩ <;> omega) rfl rfl ?_
  refine Ev.iload_n fX6_addChild_67 rfl ?_
  exact Ev.zI fX6_addChild_68 rfl rfl
theorem zFr_w {ia0 : Nat → Int → Int} {p line amount : Int} (I0 : zCI ia0) (hp : 0 ≤ p ∧ p < ia0 3 0) (hl : 0 ≤ line ∧ line < 16) (hm : 0 ≤ amount ∧ amount ≤ 999) : zFr ia0 (fun s => if zlow s ≤ line ∧ line ≤ zhig s then ia0 3 0 else p) (fun l => if l = line then amount else zTo ia0 p (15 + l)) := by
  have hn := I0.1
  refine ⟨fun s g1 g2 => ?_, fun s g1 g2 g3 => ?_, fun l g1 g2 g3 => ?_, fun l g1 g2 => ?_⟩
  · dsimp only
    split <;> omega
  · dsimp only at g3 ⊢
    have e := zhalf ⟨g1, g2⟩
    have e1 := zspan (s := 2 * s + 1) ⟨by omega, by omega⟩
    have e2 := zspan (s := 2 * s + 2) ⟨by omega, by omega⟩
    by_cases h : zlow s ≤ line ∧ line ≤ zhig s
    · rw [if_pos h] at g3
      exact absurd rfl g3
    · rw [if_neg h, if_neg (by omega), if_neg (by omega)]
      exact ⟨rfl, rfl⟩
  · dsimp only at g3 ⊢
    have e := zline ⟨g1, g2⟩
    by_cases h : zlow (15 + l) ≤ line ∧ line ≤ zhig (15 + l)
    · rw [if_pos h] at g3
      exact absurd rfl g3
    · rw [if_neg h, if_neg (by omega)]
  · dsimp only
    split
    · exact hm
    · have e := I0.2.2.2.1 p (15 + l) hp.1 hp.2 (by omega) (by omega)
      have e1 := zline ⟨g1, g2⟩
      omega
theorem eX6_addWritten_L {G : zG} {w : (Nat → Int → Int) × (Nat → Int → Int)} {ia0 : Nat → Int → Int} {p y line amount : Int} (hG : zGo G) (I0 : zCI ia0) (S0 : zCS ia0) (hp : 0 ≤ p ∧ p < ia0 3 0) (hc : ia0 3 0 < 40) (hl : 0 ≤ line ∧ line < 16) (hm : 0 ≤ amount ∧ amount ≤ 999) : ∀ (n : Nat) (k : Int) (ia : Nat → Int → Int), (k + 1 < n) → (-1 ≤ k) → (k ≤ 30) → zGI ia0 (fun s => if zlow s ≤ line ∧ line ≤ zhig s then ia0 3 0 else p) (fun l => if l = line then amount else zTo ia0 p (15 + l)) p y k ia → ∃ ia1 : Nat → Int → Int, zGI ia0 (fun s => if zlow s ≤ line ∧ line ≤ zhig s then ia0 3 0 else p) (fun l => if l = line then amount else zTo ia0 p (15 + l)) p y (-1) ia1 ∧ Ev G mX6_addWritten 12 [(1, 3), (0, p), (0, y), (0, line), (0, amount), (0, (ia0 3 0)), (0, k)] [] (zH ia w) (.inl (some (0, (ia0 3 0))), zH ia1 w, 0, 0) := by
  intro n
  induction n with
  | zero =>
    intro k ia h1 h2 h3 J
    exact absurd h1 (by omega)
  | succ n ih =>
    intro k ia h1 h2 h3 J
    have I := J.1
    have hN := J.2.1
    by_cases c0 : k < 0
    · have hk : k = -1 := by omega
      subst hk
      refine ⟨ia, J, ?_⟩
      refine Ev.iload fX6_addWritten_12 rfl ?_
      refine Ev.if_lt fX6_addWritten_14 rfl ⟨by omega, by omega⟩ (fun h14 => ?_) (fun h14 => by exfalso; omega)
      refine Ev.iload fX6_addWritten_71 rfl ?_
      exact Ev.zI fX6_addWritten_73 rfl rfl
    · by_cases c1 : k = 15 + line
      · have z1 := zsp (s := k) ⟨by omega, by omega⟩
        obtain ⟨ia1, J1, E1⟩ := ih (k + -1) (zMP ia (ia0 3 0) k amount) (by omega) (by omega) (by omega) (zGI_make (zFr_w I0 hp hl hm) J (by have := I0.1; omega) ⟨by omega, by omega⟩ (by rw [if_pos (by omega)]) (fun g => by omega) (fun g => by rw [if_pos (by omega)]))
        refine ⟨ia1, J1, ?_⟩
        refine Ev.iload fX6_addWritten_12 rfl ?_
        refine Ev.if_lt fX6_addWritten_14 rfl ⟨by omega, by omega⟩ (fun h14 => by exfalso; omega) (fun h14 => ?_)
        refine Ev.iload fX6_addWritten_17 rfl ?_
        refine Ev.bipush fX6_addWritten_19 rfl ?_
        refine Ev.iload_n fX6_addWritten_21 rfl ?_
        refine Ev.iadd fX6_addWritten_22 ?_
        refine Ev.icmp_ne fX6_addWritten_23 rfl ⟨by omega, by omega⟩ ⟨by omega, by omega⟩ (fun h23 => by exfalso; omega) (fun h23 => ?_)
        refine Ev.aload_n_1 fX6_addWritten_26 rfl ?_
        refine Ev.iload fX6_addWritten_27 rfl ?_
        refine Ev.iload fX6_addWritten_29 rfl ?_
        refine Ev.iload fX6_addWritten_31 rfl ?_
        refine Ev.cVv 3 [(0, (ia0 3 0)), (0, k), (0, amount)] [] fX6_addWritten_33 lkX6_addWritten_48 6 TX6 5 rfl rfl rfl (eX6_makePage I ⟨by omega, by omega⟩ ⟨by omega, by omega⟩) ?_
        refine Ev.goto fX6_addWritten_36 rfl ?_
        refine Ev.siinc [(1, 3), (0, p), (0, y), (0, line), (0, amount), (0, (ia0 3 0)), (0, (k + (-1)))] fX6_addWritten_65 rfl rfl rfl ?_
        refine Ev.goto fX6_addWritten_68 rfl ?_
        exact E1
      · by_cases c2 : zlow k ≤ line ∧ line ≤ zhig k
        · have z1 := zsp (s := k) ⟨by omega, by omega⟩
          obtain ⟨ia1, J1, E1⟩ := ih (k + -1) (zMP ia (ia0 3 0) k (zTo ia (ia0 3 0) (2 * k + 1) + zTo ia (ia0 3 0) (2 * k + 2))) (by omega) (by omega) (by omega) (zGI_make (zFr_w I0 hp hl hm) J (by have := I0.1; omega) ⟨by omega, by omega⟩ (by rw [if_pos c2]) (fun g => rfl) (fun g => by omega))
          refine ⟨ia1, J1, ?_⟩
          refine Ev.iload fX6_addWritten_12 rfl ?_
          refine Ev.if_lt fX6_addWritten_14 rfl ⟨by omega, by omega⟩ (fun h14 => by exfalso; omega) (fun h14 => ?_)
          refine Ev.iload fX6_addWritten_17 rfl ?_
          refine Ev.bipush fX6_addWritten_19 rfl ?_
          refine Ev.iload_n fX6_addWritten_21 rfl ?_
          refine Ev.iadd fX6_addWritten_22 ?_
          refine Ev.icmp_ne fX6_addWritten_23 rfl ⟨by omega, by omega⟩ ⟨by omega, by omega⟩ (fun h23 => ?_) (fun h23 => by exfalso; omega)
          refine Ev.iload fX6_addWritten_39 rfl ?_
          refine Ev.iload_n fX6_addWritten_41 rfl ?_
          refine Ev.iload_n fX6_addWritten_42 rfl ?_
          obtain ⟨b4, ga4, gb4, ge4⟩ := eX7_isCut_b (G := G) (ia := ia) (w := w) hG k line line ⟨by omega, by omega⟩ ⟨by omega, by omega⟩ ⟨by omega, by omega⟩
          refine Ev.cSNi [(0, k), (0, line), (0, line)] [] fX6_addWritten_43 lkX6_addWritten_52 rfl ge4 ?_
          refine Ev.if_eq fX6_addWritten_46 rfl ⟨by omega, by omega⟩ (fun h46 => by exfalso; omega) (fun h46 => ?_)
          refine Ev.aload_n_1 fX6_addWritten_49 rfl ?_
          refine Ev.iload fX6_addWritten_50 rfl ?_
          refine Ev.iload fX6_addWritten_52 rfl ?_
          refine Ev.aload_n_1 fX6_addWritten_54 rfl ?_
          refine Ev.iload fX6_addWritten_55 rfl ?_
          refine Ev.iload fX6_addWritten_57 rfl ?_
          refine Ev.cVi 3 [(0, (ia0 3 0)), (0, k)] [(0, k), (0, (ia0 3 0)), (1, 3)] fX6_addWritten_59 lkX6_addWritten_56 6 TX6 5 rfl rfl rfl (eX6_totalOfHalves I ⟨by omega, by omega⟩ ⟨by omega, by omega⟩) ?_
          refine Ev.cVv 3 [(0, (ia0 3 0)), (0, k), (0, (zTo ia (ia0 3 0) (2 * k + 1) + zTo ia (ia0 3 0) (2 * k + 2)))] [] fX6_addWritten_62 lkX6_addWritten_48 6 TX6 5 rfl rfl rfl (eX6_makePage I ⟨by omega, by omega⟩ ⟨by omega, by omega⟩) ?_
          refine Ev.siinc [(1, 3), (0, p), (0, y), (0, line), (0, amount), (0, (ia0 3 0)), (0, (k + (-1)))] fX6_addWritten_65 rfl rfl rfl ?_
          refine Ev.goto fX6_addWritten_68 rfl ?_
          exact E1
        · have z1 := zsp (s := k) ⟨by omega, by omega⟩
          obtain ⟨ia1, J1, E1⟩ := ih (k + -1) ia (by omega) (by omega) (by omega) (zGI_none S0 (zFr_w I0 hp hl hm) J hp ⟨by omega, by omega⟩ (by rw [if_neg c2]))
          refine ⟨ia1, J1, ?_⟩
          refine Ev.iload fX6_addWritten_12 rfl ?_
          refine Ev.if_lt fX6_addWritten_14 rfl ⟨by omega, by omega⟩ (fun h14 => by exfalso; omega) (fun h14 => ?_)
          refine Ev.iload fX6_addWritten_17 rfl ?_
          refine Ev.bipush fX6_addWritten_19 rfl ?_
          refine Ev.iload_n fX6_addWritten_21 rfl ?_
          refine Ev.iadd fX6_addWritten_22 ?_
          refine Ev.icmp_ne fX6_addWritten_23 rfl ⟨by omega, by omega⟩ ⟨by omega, by omega⟩ (fun h23 => ?_) (fun h23 => by exfalso; omega)
          refine Ev.iload fX6_addWritten_39 rfl ?_
          refine Ev.iload_n fX6_addWritten_41 rfl ?_
          refine Ev.iload_n fX6_addWritten_42 rfl ?_
          obtain ⟨b5, ga5, gb5, ge5⟩ := eX7_isCut_b (G := G) (ia := ia) (w := w) hG k line line ⟨by omega, by omega⟩ ⟨by omega, by omega⟩ ⟨by omega, by omega⟩
          refine Ev.cSNi [(0, k), (0, line), (0, line)] [] fX6_addWritten_43 lkX6_addWritten_52 rfl ge5 ?_
          refine Ev.if_eq fX6_addWritten_46 rfl ⟨by omega, by omega⟩ (fun h46 => ?_) (fun h46 => by exfalso; omega)
          refine Ev.siinc [(1, 3), (0, p), (0, y), (0, line), (0, amount), (0, (ia0 3 0)), (0, (k + (-1)))] fX6_addWritten_65 rfl rfl rfl ?_
          refine Ev.goto fX6_addWritten_68 rfl ?_
          exact E1
theorem eX6_addWritten {G : zG} {w : (Nat → Int → Int) × (Nat → Int → Int)} {ia0 : Nat → Int → Int} {p y line amount : Int} (hG : zGo G) (I0 : zCI ia0) (S0 : zCS ia0) (hp : 0 ≤ p ∧ p < ia0 3 0) (hc : ia0 3 0 < 40) (hl : 0 ≤ line ∧ line < 16) (hm : 0 ≤ amount ∧ amount ≤ 999) (hy : 0 ≤ y ∧ y ≤ 99) : ∃ ia1 : Nat → Int → Int, zGI ia0 (fun s => if zlow s ≤ line ∧ line ≤ zhig s then ia0 3 0 else p) (fun l => if l = line then amount else zTo ia0 p (15 + l)) p y (-1) ia1 ∧ Ev G mX6_addWritten 0 [(1, 3), (0, p), (0, y), (0, line), (0, amount), (9, 0), (9, 0)] [] (zH ia0 w) (.inl (some (0, (ia0 3 0))), zH ia1 w, 0, 0) := by
  obtain ⟨ia1, J1, E1⟩ := eX6_addWritten_L (G := G) (w := w) hG I0 S0 hp hc hl hm 60 30 (zAC ia0 p y) (by omega) (by omega) (by omega) (zGI_init I0 hp hy hc)
  refine ⟨ia1, J1, ?_⟩
  refine Ev.aload_n_1 fX6_addWritten_0 rfl ?_
  refine Ev.iload_n fX6_addWritten_1 rfl ?_
  refine Ev.iload_n fX6_addWritten_2 rfl ?_
  refine Ev.cVi 3 [(0, p), (0, y)] [] fX6_addWritten_3 lkX6_addWritten_45 6 TX6 5 rfl rfl rfl (eX6_addChild I0 hc hp) ?_
  refine Ev.sistore [(1, 3), (0, p), (0, y), (0, line), (0, amount), (0, (ia0 3 0)), (9, 0)] fX6_addWritten_6 rfl rfl ?_
  refine Ev.bipush fX6_addWritten_8 rfl ?_
  refine Ev.sistore [(1, 3), (0, p), (0, y), (0, line), (0, amount), (0, (ia0 3 0)), (0, 30)] fX6_addWritten_10 rfl rfl ?_
  exact E1
theorem zFr_g {ia0 : Nat → Int → Int} {p u first last : Int} (I0 : zCI ia0) (hp : 0 ≤ p ∧ p < ia0 3 0) (hu : 0 ≤ u ∧ u < ia0 3 0) (hf : 0 ≤ first ∧ first ≤ last ∧ last < 16) : zFr ia0 (fun s => if first ≤ zlow s ∧ zhig s ≤ last then u else if zlow s ≤ last ∧ first ≤ zhig s then ia0 3 0 else p) (fun l => if first ≤ l ∧ l ≤ last then zTo ia0 u (15 + l) else zTo ia0 p (15 + l)) := by
  have hn := I0.1
  refine ⟨fun s g1 g2 => ?_, fun s g1 g2 g3 => ?_, fun l g1 g2 g3 => ?_, fun l g1 g2 => ?_⟩
  · dsimp only
    split
    · omega
    · split <;> omega
  · dsimp only at g3 ⊢
    have e := zhalf ⟨g1, g2⟩
    have e1 := zspan (s := 2 * s + 1) ⟨by omega, by omega⟩
    have e2 := zspan (s := 2 * s + 2) ⟨by omega, by omega⟩
    by_cases h : first ≤ zlow s ∧ zhig s ≤ last
    · rw [if_pos h, if_pos (by omega), if_pos (by omega)]
      exact ⟨rfl, rfl⟩
    · rw [if_neg h] at g3 ⊢
      by_cases h2 : zlow s ≤ last ∧ first ≤ zhig s
      · rw [if_pos h2] at g3
        exact absurd rfl g3
      · rw [if_neg h2, if_neg (by omega), if_neg (by omega), if_neg (by omega), if_neg (by omega)]
        exact ⟨rfl, rfl⟩
  · dsimp only at g3 ⊢
    have e := zline ⟨g1, g2⟩
    by_cases h : first ≤ zlow (15 + l) ∧ zhig (15 + l) ≤ last
    · rw [if_pos h, if_pos (by omega)]
    · rw [if_neg h] at g3 ⊢
      rw [if_neg (by omega), if_neg (by omega)]
  · dsimp only
    have e1 := zline ⟨g1, g2⟩
    split
    · have e := I0.2.2.2.1 u (15 + l) hu.1 hu.2 (by omega) (by omega)
      omega
    · have e := I0.2.2.2.1 p (15 + l) hp.1 hp.2 (by omega) (by omega)
      omega
theorem eX6_addGrafted_L {G : zG} {w : (Nat → Int → Int) × (Nat → Int → Int)} {ia0 : Nat → Int → Int} {p y u first last : Int} (hG : zGo G) (I0 : zCI ia0) (S0 : zCS ia0) (hp : 0 ≤ p ∧ p < ia0 3 0) (hc : ia0 3 0 < 40) (hu : 0 ≤ u ∧ u < ia0 3 0) (hf : 0 ≤ first ∧ first ≤ last ∧ last < 16) : ∀ (n : Nat) (k : Int) (ia : Nat → Int → Int), (k + 1 < n) → (-1 ≤ k) → (k ≤ 30) → zGI ia0 (fun s => if first ≤ zlow s ∧ zhig s ≤ last then u else if zlow s ≤ last ∧ first ≤ zhig s then ia0 3 0 else p) (fun l => if first ≤ l ∧ l ≤ last then zTo ia0 u (15 + l) else zTo ia0 p (15 + l)) p y k ia → ∃ ia1 : Nat → Int → Int, zGI ia0 (fun s => if first ≤ zlow s ∧ zhig s ≤ last then u else if zlow s ≤ last ∧ first ≤ zhig s then ia0 3 0 else p) (fun l => if first ≤ l ∧ l ≤ last then zTo ia0 u (15 + l) else zTo ia0 p (15 + l)) p y (-1) ia1 ∧ Ev G mX6_addGrafted 12 [(1, 3), (0, p), (0, y), (0, u), (0, first), (0, last), (0, (ia0 3 0)), (0, k)] [] (zH ia w) (.inl (some (0, (ia0 3 0))), zH ia1 w, 0, 0) := by
  intro n
  induction n with
  | zero =>
    intro k ia h1 h2 h3 J
    exact absurd h1 (by omega)
  | succ n ih =>
    intro k ia h1 h2 h3 J
    have I := J.1
    have hN := J.2.1
    by_cases c0 : k < 0
    · have hk : k = -1 := by omega
      subst hk
      refine ⟨ia, J, ?_⟩
      refine Ev.iload fX6_addGrafted_12 rfl ?_
      refine Ev.if_lt fX6_addGrafted_14 rfl ⟨by omega, by omega⟩ (fun h14 => ?_) (fun h14 => by exfalso; omega)
      refine Ev.iload fX6_addGrafted_75 rfl ?_
      exact Ev.zI fX6_addGrafted_77 rfl rfl
    · by_cases c1 : first ≤ zlow k ∧ zhig k ≤ last
      · have z1 := zsp (s := k) ⟨by omega, by omega⟩
        have J2 := zGI_take (k := k) S0 (zFr_g I0 hp hu hf) J (by have := I0.1; omega) ⟨by omega, by omega⟩ (by rw [if_pos c1]; omega)
        rw [if_pos c1] at J2
        obtain ⟨ia1, J1, E1⟩ := ih (k + -1) (zTP ia (ia0 3 0) k u) (by omega) (by omega) (by omega) J2
        refine ⟨ia1, J1, ?_⟩
        refine Ev.iload fX6_addGrafted_12 rfl ?_
        refine Ev.if_lt fX6_addGrafted_14 rfl ⟨by omega, by omega⟩ (fun h14 => by exfalso; omega) (fun h14 => ?_)
        refine Ev.iload fX6_addGrafted_17 rfl ?_
        refine Ev.iload fX6_addGrafted_19 rfl ?_
        refine Ev.iload fX6_addGrafted_21 rfl ?_
        obtain ⟨b6, ga6, gb6, ge6⟩ := eX7_isInside_b (G := G) (ia := ia) (w := w) hG k first last ⟨by omega, by omega⟩ ⟨by omega, by omega⟩ ⟨by omega, by omega⟩
        refine Ev.cSNi [(0, k), (0, first), (0, last)] [] fX6_addGrafted_23 lkX6_addGrafted_59 rfl ge6 ?_
        refine Ev.if_eq fX6_addGrafted_26 rfl ⟨by omega, by omega⟩ (fun h26 => by exfalso; omega) (fun h26 => ?_)
        refine Ev.aload_n_1 fX6_addGrafted_29 rfl ?_
        refine Ev.iload fX6_addGrafted_30 rfl ?_
        refine Ev.iload fX6_addGrafted_32 rfl ?_
        refine Ev.iload_n fX6_addGrafted_34 rfl ?_
        refine Ev.cVv 3 [(0, (ia0 3 0)), (0, k), (0, u)] [] fX6_addGrafted_35 lkX6_addGrafted_62 6 TX6 5 rfl rfl rfl (eX6_takePage I ⟨by omega, by omega⟩ ⟨by omega, by omega⟩ ⟨by omega, by omega⟩) ?_
        refine Ev.goto fX6_addGrafted_38 rfl ?_
        refine Ev.siinc [(1, 3), (0, p), (0, y), (0, u), (0, first), (0, last), (0, (ia0 3 0)), (0, (k + (-1)))] fX6_addGrafted_69 rfl rfl rfl ?_
        refine Ev.goto fX6_addGrafted_72 rfl ?_
        exact E1
      · by_cases c2 : zlow k ≤ last ∧ first ≤ zhig k
        · have z1 := zsp (s := k) ⟨by omega, by omega⟩
          obtain ⟨ia1, J1, E1⟩ := ih (k + -1) (zMP ia (ia0 3 0) k (zTo ia (ia0 3 0) (2 * k + 1) + zTo ia (ia0 3 0) (2 * k + 2))) (by omega) (by omega) (by omega) (zGI_make (zFr_g I0 hp hu hf) J (by have := I0.1; omega) ⟨by omega, by omega⟩ (by rw [if_neg c1, if_pos c2]) (fun g => rfl) (fun g => by omega))
          refine ⟨ia1, J1, ?_⟩
          refine Ev.iload fX6_addGrafted_12 rfl ?_
          refine Ev.if_lt fX6_addGrafted_14 rfl ⟨by omega, by omega⟩ (fun h14 => by exfalso; omega) (fun h14 => ?_)
          refine Ev.iload fX6_addGrafted_17 rfl ?_
          refine Ev.iload fX6_addGrafted_19 rfl ?_
          refine Ev.iload fX6_addGrafted_21 rfl ?_
          obtain ⟨b7, ga7, gb7, ge7⟩ := eX7_isInside_b (G := G) (ia := ia) (w := w) hG k first last ⟨by omega, by omega⟩ ⟨by omega, by omega⟩ ⟨by omega, by omega⟩
          refine Ev.cSNi [(0, k), (0, first), (0, last)] [] fX6_addGrafted_23 lkX6_addGrafted_59 rfl ge7 ?_
          refine Ev.if_eq fX6_addGrafted_26 rfl ⟨by omega, by omega⟩ (fun h26 => ?_) (fun h26 => by exfalso; omega)
          refine Ev.iload fX6_addGrafted_41 rfl ?_
          refine Ev.iload fX6_addGrafted_43 rfl ?_
          refine Ev.iload fX6_addGrafted_45 rfl ?_
          obtain ⟨b8, ga8, gb8, ge8⟩ := eX7_isCut_b (G := G) (ia := ia) (w := w) hG k first last ⟨by omega, by omega⟩ ⟨by omega, by omega⟩ ⟨by omega, by omega⟩
          refine Ev.cSNi [(0, k), (0, first), (0, last)] [] fX6_addGrafted_47 lkX6_addGrafted_52 rfl ge8 ?_
          refine Ev.if_eq fX6_addGrafted_50 rfl ⟨by omega, by omega⟩ (fun h50 => by exfalso; omega) (fun h50 => ?_)
          refine Ev.aload_n_1 fX6_addGrafted_53 rfl ?_
          refine Ev.iload fX6_addGrafted_54 rfl ?_
          refine Ev.iload fX6_addGrafted_56 rfl ?_
          refine Ev.aload_n_1 fX6_addGrafted_58 rfl ?_
          refine Ev.iload fX6_addGrafted_59 rfl ?_
          refine Ev.iload fX6_addGrafted_61 rfl ?_
          refine Ev.cVi 3 [(0, (ia0 3 0)), (0, k)] [(0, k), (0, (ia0 3 0)), (1, 3)] fX6_addGrafted_63 lkX6_addGrafted_56 6 TX6 5 rfl rfl rfl (eX6_totalOfHalves I ⟨by omega, by omega⟩ ⟨by omega, by omega⟩) ?_
          refine Ev.cVv 3 [(0, (ia0 3 0)), (0, k), (0, (zTo ia (ia0 3 0) (2 * k + 1) + zTo ia (ia0 3 0) (2 * k + 2)))] [] fX6_addGrafted_66 lkX6_addGrafted_48 6 TX6 5 rfl rfl rfl (eX6_makePage I ⟨by omega, by omega⟩ ⟨by omega, by omega⟩) ?_
          refine Ev.siinc [(1, 3), (0, p), (0, y), (0, u), (0, first), (0, last), (0, (ia0 3 0)), (0, (k + (-1)))] fX6_addGrafted_69 rfl rfl rfl ?_
          refine Ev.goto fX6_addGrafted_72 rfl ?_
          exact E1
        · have z1 := zsp (s := k) ⟨by omega, by omega⟩
          obtain ⟨ia1, J1, E1⟩ := ih (k + -1) ia (by omega) (by omega) (by omega) (zGI_none S0 (zFr_g I0 hp hu hf) J hp ⟨by omega, by omega⟩ (by rw [if_neg c1, if_neg c2]))
          refine ⟨ia1, J1, ?_⟩
          refine Ev.iload fX6_addGrafted_12 rfl ?_
          refine Ev.if_lt fX6_addGrafted_14 rfl ⟨by omega, by omega⟩ (fun h14 => by exfalso; omega) (fun h14 => ?_)
          refine Ev.iload fX6_addGrafted_17 rfl ?_
          refine Ev.iload fX6_addGrafted_19 rfl ?_
          refine Ev.iload fX6_addGrafted_21 rfl ?_
          obtain ⟨b9, ga9, gb9, ge9⟩ := eX7_isInside_b (G := G) (ia := ia) (w := w) hG k first last ⟨by omega, by omega⟩ ⟨by omega, by omega⟩ ⟨by omega, by omega⟩
          refine Ev.cSNi [(0, k), (0, first), (0, last)] [] fX6_addGrafted_23 lkX6_addGrafted_59 rfl ge9 ?_
          refine Ev.if_eq fX6_addGrafted_26 rfl ⟨by omega, by omega⟩ (fun h26 => ?_) (fun h26 => by exfalso; omega)
          refine Ev.iload fX6_addGrafted_41 rfl ?_
          refine Ev.iload fX6_addGrafted_43 rfl ?_
          refine Ev.iload fX6_addGrafted_45 rfl ?_
          obtain ⟨b10, ga10, gb10, ge10⟩ := eX7_isCut_b (G := G) (ia := ia) (w := w) hG k first last ⟨by omega, by omega⟩ ⟨by omega, by omega⟩ ⟨by omega, by omega⟩
          refine Ev.cSNi [(0, k), (0, first), (0, last)] [] fX6_addGrafted_47 lkX6_addGrafted_52 rfl ge10 ?_
          refine Ev.if_eq fX6_addGrafted_50 rfl ⟨by omega, by omega⟩ (fun h50 => ?_) (fun h50 => by exfalso; omega)
          refine Ev.siinc [(1, 3), (0, p), (0, y), (0, u), (0, first), (0, last), (0, (ia0 3 0)), (0, (k + (-1)))] fX6_addGrafted_69 rfl rfl rfl ?_
          refine Ev.goto fX6_addGrafted_72 rfl ?_
          exact E1
theorem eX6_addGrafted {G : zG} {w : (Nat → Int → Int) × (Nat → Int → Int)} {ia0 : Nat → Int → Int} {p y u first last : Int} (hG : zGo G) (I0 : zCI ia0) (S0 : zCS ia0) (hp : 0 ≤ p ∧ p < ia0 3 0) (hc : ia0 3 0 < 40) (hu : 0 ≤ u ∧ u < ia0 3 0) (hf : 0 ≤ first ∧ first ≤ last ∧ last < 16) (hy : 0 ≤ y ∧ y ≤ 99) : ∃ ia1 : Nat → Int → Int, zGI ia0 (fun s => if first ≤ zlow s ∧ zhig s ≤ last then u else if zlow s ≤ last ∧ first ≤ zhig s then ia0 3 0 else p) (fun l => if first ≤ l ∧ l ≤ last then zTo ia0 u (15 + l) else zTo ia0 p (15 + l)) p y (-1) ia1 ∧ Ev G mX6_addGrafted 0 [(1, 3), (0, p), (0, y), (0, u), (0, first), (0, last), (9, 0), (9, 0)] [] (zH ia0 w) (.inl (some (0, (ia0 3 0))), zH ia1 w, 0, 0) := by
  obtain ⟨ia1, J1, E1⟩ := eX6_addGrafted_L (G := G) (w := w) hG I0 S0 hp hc hu hf 60 30 (zAC ia0 p y) (by omega) (by omega) (by omega) (zGI_init I0 hp hy hc)
  refine ⟨ia1, J1, ?_⟩
  refine Ev.aload_n_1 fX6_addGrafted_0 rfl ?_
  refine Ev.iload_n fX6_addGrafted_1 rfl ?_
  refine Ev.iload_n fX6_addGrafted_2 rfl ?_
  refine Ev.cVi 3 [(0, p), (0, y)] [] fX6_addGrafted_3 lkX6_addGrafted_45 6 TX6 5 rfl rfl rfl (eX6_addChild I0 hc hp) ?_
  refine Ev.sistore [(1, 3), (0, p), (0, y), (0, u), (0, first), (0, last), (0, (ia0 3 0)), (9, 0)] fX6_addGrafted_6 rfl rfl ?_
  refine Ev.bipush fX6_addGrafted_8 rfl ?_
  refine Ev.sistore [(1, 3), (0, p), (0, y), (0, u), (0, first), (0, last), (0, (ia0 3 0)), (0, 30)] fX6_addGrafted_10 rfl rfl ?_
  exact E1
