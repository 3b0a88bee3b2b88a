/-! THE CLASS: READS WITH LOOPS (printed by wip/whole/gen/cls2.py) -/
theorem eX6_sumByLines_L {G : zG} {ia : Nat → Int → Int} {w : (Nat → Int → Int) × (Nat → Int → Int)} {v first last : Int} (I : zCI ia) (hv : 0 ≤ v ∧ v < ia 3 0) (hf : -2147483648 ≤ first ∧ first ≤ 2147483647) (hl : -2147483648 ≤ last ∧ last ≤ 2147483647) : ∀ (n : Nat) (k acc : Int), (16 - k < n) → (0 ≤ k) → (k ≤ 16) → (acc = zsum (fun j => if first ≤ j ∧ j ≤ last then zTo ia v (15 + j) else 0) k) → Ev G mX6_sumByLines 6 [(1, 3), (0, v), (0, first), (0, last), (0, acc), (0, k)] [] (zH ia w) (.inl (some (0, (zsum (fun j => if first ≤ j ∧ j ≤ last then zTo ia v (15 + j) else 0) (16)))), zH ia w, 0, 0) := by
  intro n
  induction n with
  | zero =>
    intro k acc hN hk0 hk1 hacc
    exact absurd hN (by omega)
  | succ n ih =>
    intro k acc hN hk0 hk1 hacc
    have hn := I.1
    refine Ev.iload fX6_sumByLines_6 rfl ?_
    refine Ev.bipush fX6_sumByLines_8 rfl ?_
    refine Ev.icmp_ge fX6_sumByLines_10 rfl ⟨by omega, by omega⟩ (by decide) (fun h10 => ?_) (fun h10 => ?_)
    · refine Ev.iload fX6_sumByLines_43 rfl ?_
      exact Ev.zI fX6_sumByLines_45 rfl (by rw [hacc, show k = 16 by omega])
    · refine Ev.iload fX6_sumByLines_13 rfl ?_
      refine Ev.iload_n fX6_sumByLines_15 rfl ?_
      refine Ev.icmp_lt fX6_sumByLines_16 rfl ⟨by omega, by omega⟩ ⟨by omega, by omega⟩ (fun h16 => ?_) (fun h16 => ?_)
      · refine Ev.siinc [(1, 3), (0, v), (0, first), (0, last), (0, acc), (0, (k + 1))] fX6_sumByLines_37 rfl rfl rfl ?_
        refine Ev.goto fX6_sumByLines_40 rfl ?_
        exact ih (k + 1) acc (by omega) (by omega) (by omega) (by rw [zsum_s (by omega), hacc]; rw [if_neg (by omega)]; omega)
      · refine Ev.iload fX6_sumByLines_19 rfl ?_
        refine Ev.iload_n fX6_sumByLines_21 rfl ?_
        refine Ev.icmp_gt fX6_sumByLines_22 rfl ⟨by omega, by omega⟩ ⟨by omega, by omega⟩ (fun h22 => ?_) (fun h22 => ?_)
        · refine Ev.siinc [(1, 3), (0, v), (0, first), (0, last), (0, acc), (0, (k + 1))] fX6_sumByLines_37 rfl rfl rfl ?_
          refine Ev.goto fX6_sumByLines_40 rfl ?_
          exact ih (k + 1) acc (by omega) (by omega) (by omega) (by rw [zsum_s (by omega), hacc]; rw [if_neg (by omega)]; omega)
        · refine Ev.iload fX6_sumByLines_25 rfl ?_
          refine Ev.aload_n_1 fX6_sumByLines_27 rfl ?_
          refine Ev.iload_n fX6_sumByLines_28 rfl ?_
          refine Ev.iload fX6_sumByLines_29 rfl ?_
          refine Ev.cVi 3 [(0, v), (0, k)] [(0, acc)] fX6_sumByLines_31 lkX6_sumByLines_69 6 TX6 5 rfl rfl rfl (eX6_amountOn I ⟨by omega, by omega⟩ ⟨by omega, by omega⟩) ?_
          refine Ev.iadd fX6_sumByLines_34 ?_
          refine Ev.sistore [(1, 3), (0, v), (0, first), (0, last), (0, (acc + (zTo ia v (15 + k)))), (0, k)] fX6_sumByLines_35 rfl rfl ?_
          refine Ev.siinc [(1, 3), (0, v), (0, first), (0, last), (0, (acc + (zTo ia v (15 + k)))), (0, (k + 1))] fX6_sumByLines_37 rfl rfl rfl ?_
          refine Ev.goto fX6_sumByLines_40 rfl ?_
          exact ih (k + 1) (acc + (zTo ia v (15 + k))) (by omega) (by omega) (by omega) (by rw [zsum_s (by omega), hacc]; rw [if_pos ⟨by omega, by omega⟩])
theorem eX6_sumByLines {G : zG} {ia : Nat → Int → Int} {w : (Nat → Int → Int) × (Nat → Int → Int)} {v first last : Int} (I : zCI ia) (hv : 0 ≤ v ∧ v < ia 3 0) (hf : -2147483648 ≤ first ∧ first ≤ 2147483647) (hl : -2147483648 ≤ last ∧ last ≤ 2147483647) : Ev G mX6_sumByLines 0 [(1, 3), (0, v), (0, first), (0, last), (9, 0), (9, 0)] [] (zH ia w) (.inl (some (0, (zsum (fun j => if first ≤ j ∧ j ≤ last then zTo ia v (15 + j) else 0) (16)))), zH ia w, 0, 0) := by
  have hn := I.1
  refine Ev.iconst fX6_sumByLines_0 ?_
  refine Ev.sistore [(1, 3), (0, v), (0, first), (0, last), (0, 0), (9, 0)] fX6_sumByLines_1 rfl rfl ?_
  refine Ev.iconst fX6_sumByLines_3 ?_
  refine Ev.sistore [(1, 3), (0, v), (0, first), (0, last), (0, 0), (0, 0)] fX6_sumByLines_4 rfl rfl ?_
  exact eX6_sumByLines_L I hv hf hl 2000 0 0 (by omega) (by omega) (by omega) rfl
theorem eX7_isInside {G : zG} {ia : Nat → Int → Int} {w : (Nat → Int → Int) × (Nat → Int → Int)} {s first last : Int} (hG : zGo G) (hs : 0 ≤ s ∧ s < 31) (hf : -2147483648 ≤ first ∧ first ≤ 2147483647) (hl : -2147483648 ≤ last ∧ last ≤ 2147483647) : Ev G mX7_isInside 0 [(0, s), (0, first), (0, last)] [] (zH ia w) (.inl (some (0, if first ≤ zlow s ∧ zhig s ≤ last then 1 else 0)), zH ia w, 0, 0) := by
  have hb : 0 ≤ zlow s ∧ zlow s ≤ 15 ∧ 0 ≤ zhig s ∧ zhig s ≤ 15 := by unfold zlow zhig; omega
  refine Ev.iload_n fX7_isInside_0 rfl ?_
  refine Ev.cSi [(0, s)] [] fX7_isInside_1 lkX7_isInside_338 rfl (eX7_isSpan_t ⟨by omega, by omega⟩) ?_
  refine Ev.if_eq fX7_isInside_4 rfl (by decide) (fun h4 => by exfalso; revert h4; decide) (fun h4 => ?_)
  refine Ev.lows fX7_isInside_7 (gsX7_343 rfl) ?_
  refine Ev.iload_n fX7_isInside_10 rfl ?_
  refine Ev.old 0 (v := (zlow s)) fX7_isInside_11 (by decide) ⟨by omega, by rw [hG.1]; omega, by rw [hG.1]; decide⟩ (hG.2.1 s (by omega) (by omega)) ?_
  refine Ev.iload_n fX7_isInside_12 rfl ?_
  refine Ev.icmp_lt fX7_isInside_13 rfl ⟨by omega, by omega⟩ ⟨by omega, by omega⟩ (fun h13 => ?_) (fun h13 => ?_)
  · refine Ev.iconst fX7_isInside_29 ?_
    exact Ev.zZ fX7_isInside_30 rfl (by first | exact Or.inl rfl | exact Or.inr rfl) (by rw [if_neg (by omega)])
  · refine Ev.highs fX7_isInside_16 (gsX7_347 rfl) ?_
    refine Ev.iload_n fX7_isInside_19 rfl ?_
    refine Ev.old 1 (v := (zhig s)) fX7_isInside_20 (by decide) ⟨by omega, by rw [hG.2.2.1]; omega, by rw [hG.2.2.1]; decide⟩ (hG.2.2.2 s (by omega) (by omega)) ?_
    refine Ev.iload_n fX7_isInside_21 rfl ?_
    refine Ev.icmp_gt fX7_isInside_22 rfl ⟨by omega, by omega⟩ ⟨by omega, by omega⟩ (fun h22 => ?_) (fun h22 => ?_)
    · refine Ev.iconst fX7_isInside_29 ?_
      exact Ev.zZ fX7_isInside_30 rfl (by first | exact Or.inl rfl | exact Or.inr rfl) (by rw [if_neg (by omega)])
    · refine Ev.iconst fX7_isInside_25 ?_
      refine Ev.goto fX7_isInside_26 rfl ?_
      exact Ev.zZ fX7_isInside_30 rfl (by first | exact Or.inl rfl | exact Or.inr rfl) (by rw [if_pos (by omega)])
theorem eX7_isCut {G : zG} {ia : Nat → Int → Int} {w : (Nat → Int → Int) × (Nat → Int → Int)} {s first last : Int} (hG : zGo G) (hs : 0 ≤ s ∧ s < 31) (hf : -2147483648 ≤ first ∧ first ≤ 2147483647) (hl : -2147483648 ≤ last ∧ last ≤ 2147483647) : Ev G mX7_isCut 0 [(0, s), (0, first), (0, last)] [] (zH ia w) (.inl (some (0, if (zlow s ≤ last ∧ first ≤ zhig s) ∧ (zlow s < first ∨ last < zhig s) then 1 else 0)), zH ia w, 0, 0) := by
  have hb : 0 ≤ zlow s ∧ zlow s ≤ 15 ∧ 0 ≤ zhig s ∧ zhig s ≤ 15 := by unfold zlow zhig; omega
  refine Ev.iload_n fX7_isCut_0 rfl ?_
  refine Ev.cSi [(0, s)] [] fX7_isCut_1 lkX7_isCut_338 rfl (eX7_isSpan_t ⟨by omega, by omega⟩) ?_
  refine Ev.if_eq fX7_isCut_4 rfl (by decide) (fun h4 => by exfalso; revert h4; decide) (fun h4 => ?_)
  refine Ev.lows fX7_isCut_7 (gsX7_343 rfl) ?_
  refine Ev.iload_n fX7_isCut_10 rfl ?_
  refine Ev.old 0 (v := (zlow s)) fX7_isCut_11 (by decide) ⟨by omega, by rw [hG.1]; omega, by rw [hG.1]; decide⟩ (hG.2.1 s (by omega) (by omega)) ?_
  refine Ev.iload_n fX7_isCut_12 rfl ?_
  refine Ev.icmp_gt fX7_isCut_13 rfl ⟨by omega, by omega⟩ ⟨by omega, by omega⟩ (fun h13 => ?_) (fun h13 => ?_)
  · refine Ev.iconst fX7_isCut_47 ?_
    exact Ev.zZ fX7_isCut_48 rfl (by first | exact Or.inl rfl | exact Or.inr rfl) (by rw [if_neg (by omega)])
  · refine Ev.highs fX7_isCut_16 (gsX7_347 rfl) ?_
    refine Ev.iload_n fX7_isCut_19 rfl ?_
    refine Ev.old 1 (v := (zhig s)) fX7_isCut_20 (by decide) ⟨by omega, by rw [hG.2.2.1]; omega, by rw [hG.2.2.1]; decide⟩ (hG.2.2.2 s (by omega) (by omega)) ?_
    refine Ev.iload_n fX7_isCut_21 rfl ?_
    refine Ev.icmp_lt fX7_isCut_22 rfl ⟨by omega, by omega⟩ ⟨by omega, by omega⟩ (fun h22 => ?_) (fun h22 => ?_)
    · refine Ev.iconst fX7_isCut_47 ?_
      exact Ev.zZ fX7_isCut_48 rfl (by first | exact Or.inl rfl | exact Or.inr rfl) (by rw [if_neg (by omega)])
    · refine Ev.lows fX7_isCut_25 (gsX7_343 rfl) ?_
      refine Ev.iload_n fX7_isCut_28 rfl ?_
      refine Ev.old 0 (v := (zlow s)) fX7_isCut_29 (by decide) ⟨by omega, by rw [hG.1]; omega, by rw [hG.1]; decide⟩ (hG.2.1 s (by omega) (by omega)) ?_
      refine Ev.iload_n fX7_isCut_30 rfl ?_
      refine Ev.icmp_lt fX7_isCut_31 rfl ⟨by omega, by omega⟩ ⟨by omega, by omega⟩ (fun h31 => ?_) (fun h31 => ?_)
      · refine Ev.iconst fX7_isCut_43 ?_
        refine Ev.goto fX7_isCut_44 rfl ?_
        exact Ev.zZ fX7_isCut_48 rfl (by first | exact Or.inl rfl | exact Or.inr rfl) (by rw [if_pos (by omega)])
      · refine Ev.highs fX7_isCut_34 (gsX7_347 rfl) ?_
        refine Ev.iload_n fX7_isCut_37 rfl ?_
        refine Ev.old 1 (v := (zhig s)) fX7_isCut_38 (by decide) ⟨by omega, by rw [hG.2.2.1]; omega, by rw [hG.2.2.1]; decide⟩ (hG.2.2.2 s (by omega) (by omega)) ?_
        refine Ev.iload_n fX7_isCut_39 rfl ?_
        refine Ev.icmp_le fX7_isCut_40 rfl ⟨by omega, by omega⟩ ⟨by omega, by omega⟩ (fun h40 => ?_) (fun h40 => ?_)
        · refine Ev.iconst fX7_isCut_47 ?_
          exact Ev.zZ fX7_isCut_48 rfl (by first | exact Or.inl rfl | exact Or.inr rfl) (by rw [if_neg (by omega)])
        · refine Ev.iconst fX7_isCut_43 ?_
          refine Ev.goto fX7_isCut_44 rfl ?_
          exact Ev.zZ fX7_isCut_48 rfl (by first | exact Or.inl rfl | exact Or.inr rfl) (by rw [if_pos (by omega)])
theorem zCI.par {ia : Nat → Int → Int} (I : zCI ia) : zPar (ia 4) (ia 3 0) := fun v h1 h2 => ⟨(I.2.1 v h1 h2).1, (I.2.1 v h1 h2).2.1⟩
theorem eX6_earlier_L {G : zG} {ia : Nat → Int → Int} {w : (Nat → Int → Int) × (Nat → Int → Int)} {v m r : Int} (I : zCI ia) (hv : 0 ≤ v ∧ v < ia 3 0) (hm : 0 ≤ m ∧ m < 40) (hp0 : m ≤ zanc (ia 4) 40 (ia 4 v)) (hr : zit (ia 4) m.toNat v = r) : ∀ (n : Nat) (k a : Int), (m - k < n) → (0 ≤ k) → (k ≤ m) → (0 ≤ a) → (a < ia 3 0) → (zit (ia 4) (m - k).toNat a = r) → (m - k ≤ zanc (ia 4) 40 (ia 4 a)) → Ev G mX6_earlier 5 [(1, 3), (0, v), (0, m), (0, a), (0, k)] [] (zH ia w) (.inl (some (0, r)), zH ia w, 0, 0) := by
  intro n
  induction n with
  | zero =>
    intro k a hN hk0 hk1 ha0 ha1 hz hp
    exact absurd hN (by omega)
  | succ n ih =>
    intro k a hN hk0 hk1 ha0 ha1 hz hp
    have hn := I.1
    refine Ev.iload fX6_earlier_5 rfl ?_
    refine Ev.iload_n fX6_earlier_7 rfl ?_
    refine Ev.icmp_ge fX6_earlier_8 rfl ⟨by omega, by omega⟩ ⟨by omega, by omega⟩ (fun h8 => ?_) (fun h8 => ?_)
    · refine Ev.iload_n fX6_earlier_28 rfl ?_
      exact Ev.zI fX6_earlier_29 rfl (by rw [← hz, show (m - k).toNat = 0 by omega]; rfl)
    · refine Ev.iload_n fX6_earlier_11 rfl ?_
      refine Ev.iconst fX6_earlier_12 ?_
      refine Ev.icmp_eq fX6_earlier_13 rfl ⟨by omega, by omega⟩ (by decide) (fun h13 => by exfalso; omega) (fun h13 => ?_)
      refine Ev.aload_n_1 fX6_earlier_16 rfl ?_
      refine Ev.iload_n fX6_earlier_17 rfl ?_
      refine Ev.cVi 3 [(0, a)] [] fX6_earlier_18 lkX6_earlier_72 6 TX6 5 rfl rfl rfl (eX6_parentOf I ⟨by omega, by omega⟩) ?_
      refine Ev.sistore_n [(1, 3), (0, v), (0, m), (0, (ia 4 a)), (0, k)] fX6_earlier_21 rfl rfl ?_
      refine Ev.siinc [(1, 3), (0, v), (0, m), (0, (ia 4 a)), (0, (k + 1))] fX6_earlier_22 rfl rfl rfl ?_
      refine Ev.goto fX6_earlier_25 rfl ?_
      have hq : 0 ≤ ia 4 a := by
            refine Int.not_lt.mp (fun q => ?_)
            rw [zanc_neg q] at hp
            omega
      have hq2 := (I.2.1 a ha0 ha1).2.1
      rw [zanc_pos I.par hq (by omega) (by omega)] at hp
      exact ih (k + 1) (ia 4 a) (by omega) (by omega) (by omega) hq (by omega) (by rw [← hz, show (m - k).toNat = (m - (k + 1)).toNat + 1 by omega]; rfl) (by omega)
theorem eX6_earlier {G : zG} {ia : Nat → Int → Int} {w : (Nat → Int → Int) × (Nat → Int → Int)} {v m r : Int} (I : zCI ia) (hv : 0 ≤ v ∧ v < ia 3 0) (hm : 0 ≤ m ∧ m < 40) (hp0 : m ≤ zanc (ia 4) 40 (ia 4 v)) (hr : zit (ia 4) m.toNat v = r) : Ev G mX6_earlier 0 [(1, 3), (0, v), (0, m), (9, 0), (9, 0)] [] (zH ia w) (.inl (some (0, r)), zH ia w, 0, 0) := by
  have hn := I.1
  refine Ev.iload_n fX6_earlier_0 rfl ?_
  refine Ev.sistore_n [(1, 3), (0, v), (0, m), (0, v), (9, 0)] fX6_earlier_1 rfl rfl ?_
  refine Ev.iconst fX6_earlier_2 ?_
  refine Ev.sistore [(1, 3), (0, v), (0, m), (0, v), (0, 0)] fX6_earlier_3 rfl rfl ?_
  exact eX6_earlier_L I hv hm hp0 hr 50 0 v (by omega) (by omega) (by omega) hv.1 hv.2 (by rw [Int.sub_zero]; exact hr) (by omega)
theorem eX6_ancestorsOf_L {G : zG} {ia : Nat → Int → Int} {w : (Nat → Int → Int) × (Nat → Int → Int)} {v : Int} (I : zCI ia) (hv : 0 ≤ v ∧ v < ia 3 0) : ∀ (n : Nat) (a c : Int), (a + 1 < n) → (0 ≤ c) → (-1 ≤ a) → (a + c < v) → (c + zanc (ia 4) 40 a = zanc (ia 4) 40 (ia 4 v)) → Ev G mX6_ancestorsOf 8 [(1, 3), (0, v), (0, c), (0, a)] [] (zH ia w) (.inl (some (0, (zanc (ia 4) 40 (ia 4 v)))), zH ia w, 0, 0) := by
  intro n
  induction n with
  | zero =>
    intro a c hN hc0 ha0 ha1 hz
    exact absurd hN (by omega)
  | succ n ih =>
    intro a c hN hc0 ha0 ha1 hz
    have hn := I.1
    refine Ev.iload_n fX6_ancestorsOf_8 rfl ?_
    refine Ev.bipush fX6_ancestorsOf_9 rfl ?_
    refine Ev.icmp_ge fX6_ancestorsOf_11 rfl ⟨by omega, by omega⟩ (by decide) (fun h11 => by exfalso; omega) (fun h11 => ?_)
    refine Ev.iload_n fX6_ancestorsOf_14 rfl ?_
    refine Ev.iconst fX6_ancestorsOf_15 ?_
    refine Ev.icmp_eq fX6_ancestorsOf_16 rfl ⟨by omega, by omega⟩ (by decide) (fun h16 => ?_) (fun h16 => ?_)
    · refine Ev.iload_n fX6_ancestorsOf_31 rfl ?_
      exact Ev.zI fX6_ancestorsOf_32 rfl (by rw [← hz, zanc_neg (by omega)]; omega)
    · refine Ev.siinc [(1, 3), (0, v), (0, (c + 1)), (0, a)] fX6_ancestorsOf_19 rfl rfl rfl ?_
      refine Ev.aload_n_1 fX6_ancestorsOf_22 rfl ?_
      refine Ev.iload_n fX6_ancestorsOf_23 rfl ?_
      refine Ev.cVi 3 [(0, a)] [] fX6_ancestorsOf_24 lkX6_ancestorsOf_72 6 TX6 5 rfl rfl rfl (eX6_parentOf I ⟨by omega, by omega⟩) ?_
      refine Ev.sistore_n [(1, 3), (0, v), (0, (c + 1)), (0, (ia 4 a))] fX6_ancestorsOf_27 rfl rfl ?_
      refine Ev.goto fX6_ancestorsOf_28 rfl ?_
      have hq2 := I.2.1 a (by omega) (by omega)
      rw [zanc_pos I.par (by omega) (by omega) (by omega)] at hz
      exact ih (ia 4 a) (c + 1) (by omega) (by omega) (by omega) (by omega) (by omega)
theorem eX6_ancestorsOf {G : zG} {ia : Nat → Int → Int} {w : (Nat → Int → Int) × (Nat → Int → Int)} {v : Int} (I : zCI ia) (hv : 0 ≤ v ∧ v < ia 3 0) : Ev G mX6_ancestorsOf 0 [(1, 3), (0, v), (9, 0), (9, 0)] [] (zH ia w) (.inl (some (0, (zanc (ia 4) 40 (ia 4 v)))), zH ia w, 0, 0) := by
  have hn := I.1
  refine Ev.iconst fX6_ancestorsOf_0 ?_
  refine Ev.sistore_n [(1, 3), (0, v), (0, 0), (9, 0)] fX6_ancestorsOf_1 rfl rfl ?_
  refine Ev.aload_n_1 fX6_ancestorsOf_2 rfl ?_
  refine Ev.iload_n fX6_ancestorsOf_3 rfl ?_
  refine Ev.cVi 3 [(0, v)] [] fX6_ancestorsOf_4 lkX6_ancestorsOf_72 6 TX6 5 rfl rfl rfl (eX6_parentOf I ⟨by omega, by omega⟩) ?_
  refine Ev.sistore_n [(1, 3), (0, v), (0, 0), (0, (ia 4 v))] fX6_ancestorsOf_7 rfl rfl ?_
  have hq2 := I.2.1 v hv.1 hv.2
  exact eX6_ancestorsOf_L I hv 60 (ia 4 v) 0 (by omega) (by omega) (by omega) (by omega) (by omega)
theorem eX6_childrenOf_L {G : zG} {ia : Nat → Int → Int} {w : (Nat → Int → Int) × (Nat → Int → Int)} {v : Int} (I : zCI ia) (hv : 0 ≤ v ∧ v < ia 3 0) : ∀ (n : Nat) (k acc : Int), (ia 3 0 - k < n) → (1 ≤ k) → (k ≤ ia 3 0) → (acc = zsum (fun j => if 1 ≤ j ∧ ia 4 j = v then 1 else 0) k) → Ev G mX6_childrenOf 4 [(1, 3), (0, v), (0, acc), (0, k)] [] (zH ia w) (.inl (some (0, (zsum (fun j => if 1 ≤ j ∧ ia 4 j = v then 1 else 0) (ia 3 0)))), zH ia w, 0, 0) := by
  intro n
  induction n with
  | zero =>
    intro k acc hN hk0 hk1 hacc
    exact absurd hN (by omega)
  | succ n ih =>
    intro k acc hN hk0 hk1 hacc
    have hn := I.1
    refine Ev.iload_n fX6_childrenOf_4 rfl ?_
    refine Ev.aload_n_1 fX6_childrenOf_5 rfl ?_
    refine Ev.gI 3 0 (v := (ia 3 0)) fX6_childrenOf_6 (flX6_9 rfl) rfl rfl rfl ?_
    refine Ev.icmp_ge fX6_childrenOf_9 rfl ⟨by omega, by omega⟩ ⟨by omega, by omega⟩ (fun h9 => ?_) (fun h9 => ?_)
    · refine Ev.iload_n fX6_childrenOf_30 rfl ?_
      exact Ev.zI fX6_childrenOf_31 rfl (by rw [hacc, show k = ia 3 0 by omega])
    · refine Ev.aload_n_1 fX6_childrenOf_12 rfl ?_
      refine Ev.iload_n fX6_childrenOf_13 rfl ?_
      refine Ev.cVi 3 [(0, k)] [] fX6_childrenOf_14 lkX6_childrenOf_72 6 TX6 5 rfl rfl rfl (eX6_parentOf I ⟨by omega, by omega⟩) ?_
      have hq := I.2.1 k (by omega) (by omega)
      refine Ev.iload_n fX6_childrenOf_17 rfl ?_
      refine Ev.icmp_ne fX6_childrenOf_18 rfl ⟨by omega, by omega⟩ ⟨by omega, by omega⟩ (fun h18 => ?_) (fun h18 => ?_)
      · refine Ev.siinc [(1, 3), (0, v), (0, acc), (0, (k + 1))] fX6_childrenOf_24 rfl rfl rfl ?_
        refine Ev.goto fX6_childrenOf_27 rfl ?_
        exact ih (k + 1) acc (by omega) (by omega) (by omega) (by rw [zsum_s (by omega), hacc]; rw [if_neg (by omega)]; omega)
      · refine Ev.siinc [(1, 3), (0, v), (0, (acc + 1)), (0, k)] fX6_childrenOf_21 rfl rfl rfl ?_
        refine Ev.siinc [(1, 3), (0, v), (0, (acc + 1)), (0, (k + 1))] fX6_childrenOf_24 rfl rfl rfl ?_
        refine Ev.goto fX6_childrenOf_27 rfl ?_
        exact ih (k + 1) (acc + 1) (by omega) (by omega) (by omega) (by rw [zsum_s (by omega), hacc]; rw [if_pos ⟨by omega, by omega⟩])
theorem eX6_childrenOf {G : zG} {ia : Nat → Int → Int} {w : (Nat → Int → Int) × (Nat → Int → Int)} {v : Int} (I : zCI ia) (hv : 0 ≤ v ∧ v < ia 3 0) : Ev G mX6_childrenOf 0 [(1, 3), (0, v), (9, 0), (9, 0)] [] (zH ia w) (.inl (some (0, (zsum (fun j => if 1 ≤ j ∧ ia 4 j = v then 1 else 0) (ia 3 0)))), zH ia w, 0, 0) := by
  have hn := I.1
  refine Ev.iconst fX6_childrenOf_0 ?_
  refine Ev.sistore_n [(1, 3), (0, v), (0, 0), (9, 0)] fX6_childrenOf_1 rfl rfl ?_
  refine Ev.iconst fX6_childrenOf_2 ?_
  refine Ev.sistore_n [(1, 3), (0, v), (0, 0), (0, 1)] fX6_childrenOf_3 rfl rfl ?_
  exact eX6_childrenOf_L I hv 2000 1 0 (by omega) (by omega) (by omega) (by rfl)
theorem eX6_withoutChildren_L {G : zG} {ia : Nat → Int → Int} {w : (Nat → Int → Int) × (Nat → Int → Int)}  (I : zCI ia) : ∀ (n : Nat) (k acc : Int), (ia 3 0 - k < n) → (0 ≤ k) → (k ≤ ia 3 0) → (acc = zsum (fun v => if zsum (fun j => if 1 ≤ j ∧ ia 4 j = v then 1 else 0) (ia 3 0) = 0 then 1 else 0) k) → Ev G mX6_withoutChildren 4 [(1, 3), (0, acc), (0, k)] [] (zH ia w) (.inl (some (0, (zsum (fun v => if zsum (fun j => if 1 ≤ j ∧ ia 4 j = v then 1 else 0) (ia 3 0) = 0 then 1 else 0) (ia 3 0)))), zH ia w, 0, 0) := by
  intro n
  induction n with
  | zero =>
    intro k acc hN hk0 hk1 hacc
    exact absurd hN (by omega)
  | succ n ih =>
    intro k acc hN hk0 hk1 hacc
    have hn := I.1
    refine Ev.iload_n fX6_withoutChildren_4 rfl ?_
    refine Ev.aload_n_1 fX6_withoutChildren_5 rfl ?_
    refine Ev.gI 3 0 (v := (ia 3 0)) fX6_withoutChildren_6 (flX6_9 rfl) rfl rfl rfl ?_
    refine Ev.icmp_ge fX6_withoutChildren_9 rfl ⟨by omega, by omega⟩ ⟨by omega, by omega⟩ (fun h9 => ?_) (fun h9 => ?_)
    · refine Ev.iload_n fX6_withoutChildren_29 rfl ?_
      exact Ev.zI fX6_withoutChildren_30 rfl (by rw [hacc, show k = ia 3 0 by omega])
    · have hzb := zsum_le (f := (fun j => if 1 ≤ j ∧ ia 4 j = k then (1 : Int) else 0)) (m := 0) (M := 1) (k := ia 3 0) (by omega) (fun j _ _ => by (try dsimp only); split <;> omega)
      refine Ev.aload_n_1 fX6_withoutChildren_12 rfl ?_
      refine Ev.iload_n fX6_withoutChildren_13 rfl ?_
      refine Ev.cVi 3 [(0, k)] [] fX6_withoutChildren_14 lkX6_withoutChildren_76 6 TX6 5 rfl rfl rfl (eX6_childrenOf I ⟨by omega, by omega⟩) ?_
      refine Ev.if_ne fX6_withoutChildren_17 rfl ⟨by omega, by omega⟩ (fun h17 => ?_) (fun h17 => ?_)
      · refine Ev.siinc [(1, 3), (0, acc), (0, (k + 1))] fX6_withoutChildren_23 rfl rfl rfl ?_
        refine Ev.goto fX6_withoutChildren_26 rfl ?_
        exact ih (k + 1) acc (by omega) (by omega) (by omega) (by rw [zsum_s (by omega), hacc]; rw [if_neg (by omega)]; omega)
      · refine Ev.siinc [(1, 3), (0, (acc + 1)), (0, k)] fX6_withoutChildren_20 rfl rfl rfl ?_
        refine Ev.siinc [(1, 3), (0, (acc + 1)), (0, (k + 1))] fX6_withoutChildren_23 rfl rfl rfl ?_
        refine Ev.goto fX6_withoutChildren_26 rfl ?_
        exact ih (k + 1) (acc + 1) (by omega) (by omega) (by omega) (by rw [zsum_s (by omega), hacc]; rw [if_pos (by omega)])
theorem eX6_withoutChildren {G : zG} {ia : Nat → Int → Int} {w : (Nat → Int → Int) × (Nat → Int → Int)}  (I : zCI ia) : Ev G mX6_withoutChildren 0 [(1, 3), (9, 0), (9, 0)] [] (zH ia w) (.inl (some (0, (zsum (fun v => if zsum (fun j => if 1 ≤ j ∧ ia 4 j = v then 1 else 0) (ia 3 0) = 0 then 1 else 0) (ia 3 0)))), zH ia w, 0, 0) := by
  have hn := I.1
  refine Ev.iconst fX6_withoutChildren_0 ?_
  refine Ev.sistore_n [(1, 3), (0, 0), (9, 0)] fX6_withoutChildren_1 rfl rfl ?_
  refine Ev.iconst fX6_withoutChildren_2 ?_
  refine Ev.sistore_n [(1, 3), (0, 0), (0, 0)] fX6_withoutChildren_3 rfl rfl ?_
  exact eX6_withoutChildren_L I 2000 0 0 (by omega) (by omega) (by omega) rfl
theorem eX6_pagesMadeBy_L {G : zG} {ia : Nat → Int → Int} {w : (Nat → Int → Int) × (Nat → Int → Int)} {v : Int} (I : zCI ia) (hv : 0 ≤ v ∧ v < ia 3 0) : ∀ (n : Nat) (k acc : Int), (31 - k < n) → (0 ≤ k) → (k ≤ 31) → (acc = zsum (fun s => if ia 6 (v * 31 + s) = v then 1 else 0) k) → Ev G mX6_pagesMadeBy 4 [(1, 3), (0, v), (0, acc), (0, k)] [] (zH ia w) (.inl (some (0, (zsum (fun s => if ia 6 (v * 31 + s) = v then 1 else 0) (31)))), zH ia w, 0, 0) := by
  intro n
  induction n with
  | zero =>
    intro k acc hN hk0 hk1 hacc
    exact absurd hN (by omega)
  | succ n ih =>
    intro k acc hN hk0 hk1 hacc
    have hn := I.1
    refine Ev.iload_n fX6_pagesMadeBy_4 rfl ?_
    refine Ev.bipush fX6_pagesMadeBy_5 rfl ?_
    refine Ev.icmp_ge fX6_pagesMadeBy_7 rfl ⟨by omega, by omega⟩ (by decide) (fun h7 => ?_) (fun h7 => ?_)
    · refine Ev.iload_n fX6_pagesMadeBy_29 rfl ?_
      exact Ev.zI fX6_pagesMadeBy_30 rfl (by rw [hacc, show k = 31 by omega])
    · refine Ev.aload_n_1 fX6_pagesMadeBy_10 rfl ?_
      refine Ev.iload_n fX6_pagesMadeBy_11 rfl ?_
      refine Ev.iload_n fX6_pagesMadeBy_12 rfl ?_
      refine Ev.cVi 3 [(0, v), (0, k)] [] fX6_pagesMadeBy_13 lkX6_pagesMadeBy_79 6 TX6 5 rfl rfl rfl (eX6_makerOf I ⟨by omega, by omega⟩ ⟨by omega, by omega⟩) ?_
      have hq := I.2.2.1 v k hv.1 hv.2 (by omega) (by omega)
      refine Ev.iload_n fX6_pagesMadeBy_16 rfl ?_
      refine Ev.icmp_ne fX6_pagesMadeBy_17 rfl ⟨by omega, by omega⟩ ⟨by omega, by omega⟩ (fun h17 => ?_) (fun h17 => ?_)
      · refine Ev.siinc [(1, 3), (0, v), (0, acc), (0, (k + 1))] fX6_pagesMadeBy_23 rfl rfl rfl ?_
        refine Ev.goto fX6_pagesMadeBy_26 rfl ?_
        exact ih (k + 1) acc (by omega) (by omega) (by omega) (by rw [zsum_s (by omega), hacc]; rw [if_neg (by omega)]; omega)
      · refine Ev.siinc [(1, 3), (0, v), (0, (acc + 1)), (0, k)] fX6_pagesMadeBy_20 rfl rfl rfl ?_
        refine Ev.siinc [(1, 3), (0, v), (0, (acc + 1)), (0, (k + 1))] fX6_pagesMadeBy_23 rfl rfl rfl ?_
        refine Ev.goto fX6_pagesMadeBy_26 rfl ?_
        exact ih (k + 1) (acc + 1) (by omega) (by omega) (by omega) (by rw [zsum_s (by omega), hacc]; rw [if_pos (by omega)])
theorem eX6_pagesMadeBy {G : zG} {ia : Nat → Int → Int} {w : (Nat → Int → Int) × (Nat → Int → Int)} {v : Int} (I : zCI ia) (hv : 0 ≤ v ∧ v < ia 3 0) : Ev G mX6_pagesMadeBy 0 [(1, 3), (0, v), (9, 0), (9, 0)] [] (zH ia w) (.inl (some (0, (zsum (fun s => if ia 6 (v * 31 + s) = v then 1 else 0) (31)))), zH ia w, 0, 0) := by
  have hn := I.1
  refine Ev.iconst fX6_pagesMadeBy_0 ?_
  refine Ev.sistore_n [(1, 3), (0, v), (0, 0), (9, 0)] fX6_pagesMadeBy_1 rfl rfl ?_
  refine Ev.iconst fX6_pagesMadeBy_2 ?_
  refine Ev.sistore_n [(1, 3), (0, v), (0, 0), (0, 0)] fX6_pagesMadeBy_3 rfl rfl ?_
  exact eX6_pagesMadeBy_L I hv 2000 0 0 (by omega) (by omega) (by omega) rfl
theorem eX6_pagesMade_L {G : zG} {ia : Nat → Int → Int} {w : (Nat → Int → Int) × (Nat → Int → Int)}  (I : zCI ia) : ∀ (n : Nat) (k acc : Int), (ia 3 0 - k < n) → (0 ≤ k) → (k ≤ ia 3 0) → (acc = zsum (fun v => zsum (fun s => if ia 6 (v * 31 + s) = v then 1 else 0) 31) k) → Ev G mX6_pagesMade 4 [(1, 3), (0, acc), (0, k)] [] (zH ia w) (.inl (some (0, (zsum (fun v => zsum (fun s => if ia 6 (v * 31 + s) = v then 1 else 0) 31) (ia 3 0)))), zH ia w, 0, 0) := by
  intro n
  induction n with
  | zero =>
    intro k acc hN hk0 hk1 hacc
    exact absurd hN (by omega)
  | succ n ih =>
    intro k acc hN hk0 hk1 hacc
    have hn := I.1
    refine Ev.iload_n fX6_pagesMade_4 rfl ?_
    refine Ev.aload_n_1 fX6_pagesMade_5 rfl ?_
    refine Ev.gI 3 0 (v := (ia 3 0)) fX6_pagesMade_6 (flX6_9 rfl) rfl rfl rfl ?_
    refine Ev.icmp_ge fX6_pagesMade_9 rfl ⟨by omega, by omega⟩ ⟨by omega, by omega⟩ (fun h9 => ?_) (fun h9 => ?_)
    · refine Ev.iload_n fX6_pagesMade_26 rfl ?_
      exact Ev.zI fX6_pagesMade_27 rfl (by rw [hacc, show k = ia 3 0 by omega])
    · refine Ev.iload_n fX6_pagesMade_12 rfl ?_
      refine Ev.aload_n_1 fX6_pagesMade_13 rfl ?_
      refine Ev.iload_n fX6_pagesMade_14 rfl ?_
      refine Ev.cVi 3 [(0, k)] [(0, acc)] fX6_pagesMade_15 lkX6_pagesMade_82 6 TX6 5 rfl rfl rfl (eX6_pagesMadeBy I ⟨by omega, by omega⟩) ?_
      refine Ev.iadd fX6_pagesMade_18 ?_
      refine Ev.sistore_n [(1, 3), (0, (acc + (zsum (fun s => if ia 6 (k * 31 + s) = k then 1 else 0) 31))), (0, k)] fX6_pagesMade_19 rfl rfl ?_
      refine Ev.siinc [(1, 3), (0, (acc + (zsum (fun s => if ia 6 (k * 31 + s) = k then 1 else 0) 31))), (0, (k + 1))] fX6_pagesMade_20 rfl rfl rfl ?_
      refine Ev.goto fX6_pagesMade_23 rfl ?_
      exact ih (k + 1) (acc + (zsum (fun s => if ia 6 (k * 31 + s) = k then 1 else 0) 31)) (by omega) (by omega) (by omega) (by rw [zsum_s (by omega), hacc])
theorem eX6_pagesMade {G : zG} {ia : Nat → Int → Int} {w : (Nat → Int → Int) × (Nat → Int → Int)}  (I : zCI ia) : Ev G mX6_pagesMade 0 [(1, 3), (9, 0), (9, 0)] [] (zH ia w) (.inl (some (0, (zsum (fun v => zsum (fun s => if ia 6 (v * 31 + s) = v then 1 else 0) 31) (ia 3 0)))), zH ia w, 0, 0) := by
  have hn := I.1
  refine Ev.iconst fX6_pagesMade_0 ?_
  refine Ev.sistore_n [(1, 3), (0, 0), (9, 0)] fX6_pagesMade_1 rfl rfl ?_
  refine Ev.iconst fX6_pagesMade_2 ?_
  refine Ev.sistore_n [(1, 3), (0, 0), (0, 0)] fX6_pagesMade_3 rfl rfl ?_
  exact eX6_pagesMade_L I 2000 0 0 (by omega) (by omega) (by omega) rfl
theorem eX6_linesNewIn {G : zG} {ia : Nat → Int → Int} {w : (Nat → Int → Int) × (Nat → Int → Int)} {v : Int} (I : zCI ia) (hv : 0 ≤ v ∧ v < ia 3 0) : Ev G mX6_linesNewIn 0 [(1, 3), (0, v), (9, 0)] [] (zH ia w) (.inl (some (0, if ia 4 v = -1 then 0 else (zsum (fun i => if 0 ≤ i ∧ i ≤ 15 ∧ zTo ia v (15 + i) ≠ zTo ia (ia 4 v) (15 + i) then 1 else 0) 16))), zH ia w, 0, 0) := by
  have hn := I.1
  have hq := I.2.1 v hv.1 hv.2
  refine Ev.aload_n_1 fX6_linesNewIn_0 rfl ?_
  refine Ev.iload_n fX6_linesNewIn_1 rfl ?_
  refine Ev.cVi 3 [(0, v)] [] fX6_linesNewIn_2 lkX6_linesNewIn_72 6 TX6 5 rfl rfl rfl (eX6_parentOf I ⟨by omega, by omega⟩) ?_
  refine Ev.sistore_n [(1, 3), (0, v), (0, (ia 4 v))] fX6_linesNewIn_5 rfl rfl ?_
  refine Ev.iload_n fX6_linesNewIn_6 rfl ?_
  refine Ev.iconst fX6_linesNewIn_7 ?_
  refine Ev.icmp_ne fX6_linesNewIn_8 rfl ⟨by omega, by omega⟩ (by decide) (fun h8 => ?_) (fun h8 => ?_)
  · refine Ev.aload_n_1 fX6_linesNewIn_15 rfl ?_
    refine Ev.iload_n fX6_linesNewIn_16 rfl ?_
    refine Ev.iload_n fX6_linesNewIn_17 rfl ?_
    refine Ev.iconst fX6_linesNewIn_18 ?_
    refine Ev.bipush fX6_linesNewIn_19 rfl ?_
    refine Ev.cVi 3 [(0, v), (0, (ia 4 v)), (0, 0), (0, 15)] [] fX6_linesNewIn_21 lkX6_linesNewIn_85 6 TX6 5 rfl rfl rfl (eX6_linesApart I ⟨by omega, by omega⟩ ⟨by omega, by omega⟩ (by decide) (by decide)) ?_
    exact Ev.zI fX6_linesNewIn_24 rfl (by rw [if_neg (by omega)])
  · refine Ev.iconst fX6_linesNewIn_11 ?_
    refine Ev.goto fX6_linesNewIn_12 rfl ?_
    exact Ev.zI fX6_linesNewIn_24 rfl (by rw [if_pos (by omega)])
theorem eX6_othersAlike_L {G : zG} {ia : Nat → Int → Int} {w : (Nat → Int → Int) × (Nat → Int → Int)} {v : Int} (I : zCI ia) (hv : 0 ≤ v ∧ v < ia 3 0) : ∀ (n : Nat) (k acc : Int), (ia 3 0 - k < n) → (0 ≤ k) → (k ≤ ia 3 0) → (acc = zsum (fun j => if j ≠ v ∧ (zsum (fun i => if 0 ≤ i ∧ i ≤ 15 ∧ zTo ia v (15 + i) ≠ zTo ia j (15 + i) then 1 else 0) 16) = 0 then 1 else 0) k) → Ev G mX6_othersAlike 4 [(1, 3), (0, v), (0, acc), (0, k)] [] (zH ia w) (.inl (some (0, (zsum (fun j => if j ≠ v ∧ (zsum (fun i => if 0 ≤ i ∧ i ≤ 15 ∧ zTo ia v (15 + i) ≠ zTo ia j (15 + i) then 1 else 0) 16) = 0 then 1 else 0) (ia 3 0)))), zH ia w, 0, 0) := by
  intro n
  induction n with
  | zero =>
    intro k acc hN hk0 hk1 hacc
    exact absurd hN (by omega)
  | succ n ih =>
    intro k acc hN hk0 hk1 hacc
    have hn := I.1
    refine Ev.iload_n fX6_othersAlike_4 rfl ?_
    refine Ev.aload_n_1 fX6_othersAlike_5 rfl ?_
    refine Ev.gI 3 0 (v := (ia 3 0)) fX6_othersAlike_6 (flX6_9 rfl) rfl rfl rfl ?_
    refine Ev.icmp_ge fX6_othersAlike_9 rfl ⟨by omega, by omega⟩ ⟨by omega, by omega⟩ (fun h9 => ?_) (fun h9 => ?_)
    · refine Ev.iload_n fX6_othersAlike_38 rfl ?_
      exact Ev.zI fX6_othersAlike_39 rfl (by rw [hacc, show k = ia 3 0 by omega])
    · refine Ev.iload_n fX6_othersAlike_12 rfl ?_
      refine Ev.iload_n fX6_othersAlike_13 rfl ?_
      refine Ev.icmp_eq fX6_othersAlike_14 rfl ⟨by omega, by omega⟩ ⟨by omega, by omega⟩ (fun h14 => ?_) (fun h14 => ?_)
      · refine Ev.siinc [(1, 3), (0, v), (0, acc), (0, (k + 1))] fX6_othersAlike_32 rfl rfl rfl ?_
        refine Ev.goto fX6_othersAlike_35 rfl ?_
        exact ih (k + 1) acc (by omega) (by omega) (by omega) (by rw [zsum_s (by omega), hacc]; rw [if_neg (by omega)]; omega)
      · have hzb := zsum_le (f := (fun j => if 0 ≤ j ∧ j ≤ 15 ∧ zTo ia v (15 + j) ≠ zTo ia k (15 + j) then (1 : Int) else 0)) (m := 0) (M := 1) (k := 16) (by omega) (fun j _ _ => by (try dsimp only); split <;> omega)
        refine Ev.aload_n_1 fX6_othersAlike_17 rfl ?_
        refine Ev.iload_n fX6_othersAlike_18 rfl ?_
        refine Ev.iload_n fX6_othersAlike_19 rfl ?_
        refine Ev.iconst fX6_othersAlike_20 ?_
        refine Ev.bipush fX6_othersAlike_21 rfl ?_
        refine Ev.cVi 3 [(0, v), (0, k), (0, 0), (0, 15)] [] fX6_othersAlike_23 lkX6_othersAlike_85 6 TX6 5 rfl rfl rfl (eX6_linesApart I ⟨by omega, by omega⟩ ⟨by omega, by omega⟩ (by decide) (by decide)) ?_
        refine Ev.if_ne fX6_othersAlike_26 rfl ⟨by omega, by omega⟩ (fun h26 => ?_) (fun h26 => ?_)
        · refine Ev.siinc [(1, 3), (0, v), (0, acc), (0, (k + 1))] fX6_othersAlike_32 rfl rfl rfl ?_
          refine Ev.goto fX6_othersAlike_35 rfl ?_
          exact ih (k + 1) acc (by omega) (by omega) (by omega) (by rw [zsum_s (by omega), hacc]; rw [if_neg (by omega)]; omega)
        · refine Ev.siinc [(1, 3), (0, v), (0, (acc + 1)), (0, k)] fX6_othersAlike_29 rfl rfl rfl ?_
          refine Ev.siinc [(1, 3), (0, v), (0, (acc + 1)), (0, (k + 1))] fX6_othersAlike_32 rfl rfl rfl ?_
          refine Ev.goto fX6_othersAlike_35 rfl ?_
          exact ih (k + 1) (acc + 1) (by omega) (by omega) (by omega) (by rw [zsum_s (by omega), hacc]; rw [if_pos ⟨by omega, by omega⟩])
theorem eX6_othersAlike {G : zG} {ia : Nat → Int → Int} {w : (Nat → Int → Int) × (Nat → Int → Int)} {v : Int} (I : zCI ia) (hv : 0 ≤ v ∧ v < ia 3 0) : Ev G mX6_othersAlike 0 [(1, 3), (0, v), (9, 0), (9, 0)] [] (zH ia w) (.inl (some (0, (zsum (fun j => if j ≠ v ∧ (zsum (fun i => if 0 ≤ i ∧ i ≤ 15 ∧ zTo ia v (15 + i) ≠ zTo ia j (15 + i) then 1 else 0) 16) = 0 then 1 else 0) (ia 3 0)))), zH ia w, 0, 0) := by
  have hn := I.1
  refine Ev.iconst fX6_othersAlike_0 ?_
  refine Ev.sistore_n [(1, 3), (0, v), (0, 0), (9, 0)] fX6_othersAlike_1 rfl rfl ?_
  refine Ev.iconst fX6_othersAlike_2 ?_
  refine Ev.sistore_n [(1, 3), (0, v), (0, 0), (0, 0)] fX6_othersAlike_3 rfl rfl ?_
  exact eX6_othersAlike_L I hv 2000 0 0 (by omega) (by omega) (by omega) rfl
theorem zlby_fuel {par yr : Int → Int} {N y : Int} (hp : zPar par N) : ∀ {n m : Nat} {v : Int}, v < N → v < n → v < m → zlby par yr y n v = zlby par yr y m v := by
  intro n
  induction n with
  | zero =>
    intro m v h1 h2 h3
    cases m with
    | zero => rfl
    | succ m =>
      rw [zlby_s, if_neg (by omega)]
      rfl
  | succ n ih =>
    intro m v h1 h2 h3
    cases m with
    | zero =>
      rw [zlby_s, if_neg (by omega)]
      rfl
    | succ m =>
      rw [zlby_s, zlby_s]
      by_cases h : 0 < v ∧ y < yr v
      · obtain ⟨h4, h5⟩ := hp v (by omega) h1
        rw [if_pos h, if_pos h, ih (m := m) (v := par v) (by omega) (by omega) (by omega)]
      · rw [if_neg h, if_neg h]
theorem eX6_latestByYear_L {G : zG} {ia : Nat → Int → Int} {w : (Nat → Int → Int) × (Nat → Int → Int)} {v y r : Int} (I : zCI ia) (hv : 0 ≤ v ∧ v < ia 3 0) (hy : 0 ≤ y ∧ y ≤ 99) (hr : zlby (ia 4) (ia 5) y (v + 1).toNat v = r) : ∀ (n : Nat) (k a : Int), (a < n) → (0 ≤ k) → (0 ≤ a) → (a + k ≤ v) → (zlby (ia 4) (ia 5) y (a + 1).toNat a = r) → Ev G mX6_latestByYear 5 [(1, 3), (0, v), (0, y), (0, a), (0, k)] [] (zH ia w) (.inl (some (0, r)), zH ia w, 0, 0) := by
  intro n
  induction n with
  | zero =>
    intro k a hN hk0 ha0 ha1 hz
    exact absurd hN (by omega)
  | succ n ih =>
    intro k a hN hk0 ha0 ha1 hz
    have hn := I.1
    refine Ev.iload fX6_latestByYear_5 rfl ?_
    refine Ev.bipush fX6_latestByYear_7 rfl ?_
    refine Ev.icmp_ge fX6_latestByYear_9 rfl ⟨by omega, by omega⟩ (by decide) (fun h9 => by exfalso; omega) (fun h9 => ?_)
    refine Ev.iload_n fX6_latestByYear_12 rfl ?_
    refine Ev.if_le fX6_latestByYear_13 rfl ⟨by omega, by omega⟩ (fun h13 => ?_) (fun h13 => ?_)
    · refine Ev.iload_n fX6_latestByYear_37 rfl ?_
      exact Ev.zI fX6_latestByYear_38 rfl (by rw [← hz, show (a + 1).toNat = a.toNat + 1 by omega, zlby_s, if_neg (by omega)])
    · refine Ev.aload_n_1 fX6_latestByYear_16 rfl ?_
      refine Ev.iload_n fX6_latestByYear_17 rfl ?_
      refine Ev.cVi 3 [(0, a)] [] fX6_latestByYear_18 lkX6_latestByYear_89 6 TX6 5 rfl rfl rfl (eX6_yearOf I ⟨by omega, by omega⟩) ?_
      refine Ev.iload_n fX6_latestByYear_21 rfl ?_
      have hq := I.2.1 a (by omega) (by omega)
      refine Ev.icmp_le fX6_latestByYear_22 rfl ⟨by omega, by omega⟩ ⟨by omega, by omega⟩ (fun h22 => ?_) (fun h22 => ?_)
      · refine Ev.iload_n fX6_latestByYear_37 rfl ?_
        exact Ev.zI fX6_latestByYear_38 rfl (by rw [← hz, show (a + 1).toNat = a.toNat + 1 by omega, zlby_s, if_neg (by omega)])
      · refine Ev.aload_n_1 fX6_latestByYear_25 rfl ?_
        refine Ev.iload_n fX6_latestByYear_26 rfl ?_
        refine Ev.cVi 3 [(0, a)] [] fX6_latestByYear_27 lkX6_latestByYear_72 6 TX6 5 rfl rfl rfl (eX6_parentOf I ⟨by omega, by omega⟩) ?_
        refine Ev.sistore_n [(1, 3), (0, v), (0, y), (0, (ia 4 a)), (0, k)] fX6_latestByYear_30 rfl rfl ?_
        refine Ev.siinc [(1, 3), (0, v), (0, y), (0, (ia 4 a)), (0, (k + 1))] fX6_latestByYear_31 rfl rfl rfl ?_
        refine Ev.goto fX6_latestByYear_34 rfl ?_
        have hq2 := I.2.1 a (by omega) (by omega)
        exact ih (k + 1) (ia 4 a) (by omega) (by omega) (by omega) (by omega) (by rw [← hz, show (a + 1).toNat = a.toNat + 1 by omega, zlby_s, if_pos ⟨by omega, by omega⟩]; exact zlby_fuel I.par (by omega) (by omega) (by omega))
theorem eX6_latestByYear {G : zG} {ia : Nat → Int → Int} {w : (Nat → Int → Int) × (Nat → Int → Int)} {v y r : Int} (I : zCI ia) (hv : 0 ≤ v ∧ v < ia 3 0) (hy : 0 ≤ y ∧ y ≤ 99) (hr : zlby (ia 4) (ia 5) y (v + 1).toNat v = r) : Ev G mX6_latestByYear 0 [(1, 3), (0, v), (0, y), (9, 0), (9, 0)] [] (zH ia w) (.inl (some (0, r)), zH ia w, 0, 0) := by
  have hn := I.1
  refine Ev.iload_n fX6_latestByYear_0 rfl ?_
  refine Ev.sistore_n [(1, 3), (0, v), (0, y), (0, v), (9, 0)] fX6_latestByYear_1 rfl rfl ?_
  refine Ev.iconst fX6_latestByYear_2 ?_
  refine Ev.sistore [(1, 3), (0, v), (0, y), (0, v), (0, 0)] fX6_latestByYear_3 rfl rfl ?_
  exact eX6_latestByYear_L I hv hy hr 60 0 v (by omega) (by omega) (by omega) (by omega) hr
