/-! THE CLASS: THE OTHER READS WITH LOOPS (printed by wip/whole/gen/cls3.py) -/
theorem eX6_pagesInBoth_L {G : zG} {ia : Nat → Int → Int} {w : (Nat → Int → Int) × (Nat → Int → Int)} {one other : Int} (I : zCI ia) (ho : 0 ≤ one ∧ one < ia 3 0) (hp : 0 ≤ other ∧ other < ia 3 0) : ∀ (n : Nat) (k acc : Int), (31 - k < n) → (0 ≤ k) → (k ≤ 31) → (acc = zsum (fun s => if ia 6 (one * 31 + s) = ia 6 (other * 31 + s) then 1 else 0) k) → Ev G mX6_pagesInBoth 5 [(1, 3), (0, one), (0, other), (0, acc), (0, k)] [] (zH ia w) (.inl (some (0, (zsum (fun s => if ia 6 (one * 31 + s) = ia 6 (other * 31 + s) then 1 else 0) (31)))), zH ia w, 0, 0) := by
  intro n
  induction n with
  | zero =>
    intro k acc hN hk0 hk1 hacc
    exact absurd hN (by omega)
  | succ n ih =>
    intro k acc hN hk0 hk1 hacc
    have hn := I.1
    refine Ev.iload fX6_pagesInBoth_5 rfl ?_
    refine Ev.bipush fX6_pagesInBoth_7 rfl ?_
    refine Ev.icmp_ge fX6_pagesInBoth_9 rfl ⟨by omega, by omega⟩ (by decide) (fun h9 => ?_) (fun h9 => ?_)
    · refine Ev.iload_n fX6_pagesInBoth_38 rfl ?_
      exact Ev.zI fX6_pagesInBoth_39 rfl (by rw [hacc, show k = 31 by omega])
    · have q1 := I.2.2.1 one k ho.1 ho.2 (by omega) (by omega)
      have q2 := I.2.2.1 other k hp.1 hp.2 (by omega) (by omega)
      refine Ev.aload_n_1 fX6_pagesInBoth_12 rfl ?_
      refine Ev.iload_n fX6_pagesInBoth_13 rfl ?_
      refine Ev.iload fX6_pagesInBoth_14 rfl ?_
      refine Ev.cVi 3 [(0, one), (0, k)] [] fX6_pagesInBoth_16 lkX6_pagesInBoth_79 6 TX6 5 rfl rfl rfl (eX6_makerOf I ⟨by omega, by omega⟩ ⟨by omega, by omega⟩) ?_
      refine Ev.aload_n_1 fX6_pagesInBoth_19 rfl ?_
      refine Ev.iload_n fX6_pagesInBoth_20 rfl ?_
      refine Ev.iload fX6_pagesInBoth_21 rfl ?_
      refine Ev.cVi 3 [(0, other), (0, k)] [(0, (ia 6 (one * 31 + k)))] fX6_pagesInBoth_23 lkX6_pagesInBoth_79 6 TX6 5 rfl rfl rfl (eX6_makerOf I ⟨by omega, by omega⟩ ⟨by omega, by omega⟩) ?_
      refine Ev.icmp_ne fX6_pagesInBoth_26 rfl ⟨by omega, by omega⟩ ⟨by omega, by omega⟩ (fun h26 => ?_) (fun h26 => ?_)
      · refine Ev.siinc [(1, 3), (0, one), (0, other), (0, acc), (0, (k + 1))] fX6_pagesInBoth_32 rfl rfl rfl ?_
        refine Ev.goto fX6_pagesInBoth_35 rfl ?_
        exact ih (k + 1) acc (by omega) (by omega) (by omega) (by rw [zsum_s (by omega), hacc]; rw [if_neg (by omega)]; omega)
      · refine Ev.siinc [(1, 3), (0, one), (0, other), (0, (acc + 1)), (0, k)] fX6_pagesInBoth_29 rfl rfl rfl ?_
        refine Ev.siinc [(1, 3), (0, one), (0, other), (0, (acc + 1)), (0, (k + 1))] fX6_pagesInBoth_32 rfl rfl rfl ?_
        refine Ev.goto fX6_pagesInBoth_35 rfl ?_
        exact ih (k + 1) (acc + 1) (by omega) (by omega) (by omega) (by rw [zsum_s (by omega), hacc]; rw [if_pos (by omega)])
theorem eX6_pagesInBoth {G : zG} {ia : Nat → Int → Int} {w : (Nat → Int → Int) × (Nat → Int → Int)} {one other : Int} (I : zCI ia) (ho : 0 ≤ one ∧ one < ia 3 0) (hp : 0 ≤ other ∧ other < ia 3 0) : Ev G mX6_pagesInBoth 0 [(1, 3), (0, one), (0, other), (9, 0), (9, 0)] [] (zH ia w) (.inl (some (0, (zsum (fun s => if ia 6 (one * 31 + s) = ia 6 (other * 31 + s) then 1 else 0) (31)))), zH ia w, 0, 0) := by
  have hn := I.1
  refine Ev.iconst fX6_pagesInBoth_0 ?_
  refine Ev.sistore_n [(1, 3), (0, one), (0, other), (0, 0), (9, 0)] fX6_pagesInBoth_1 rfl rfl ?_
  refine Ev.iconst fX6_pagesInBoth_2 ?_
  refine Ev.sistore [(1, 3), (0, one), (0, other), (0, 0), (0, 0)] fX6_pagesInBoth_3 rfl rfl ?_
  exact eX6_pagesInBoth_L I ho hp 2000 0 0 (by omega) (by omega) (by omega) rfl
theorem eX6_usersOf_L {G : zG} {ia : Nat → Int → Int} {w : (Nat → Int → Int) × (Nat → Int → Int)} {u s : Int} (I : zCI ia) (hu : -2147483648 ≤ u ∧ u ≤ 2147483647) (hs : 0 ≤ s ∧ s < 31) : ∀ (n : Nat) (k acc : Int), (ia 3 0 - k < n) → (0 ≤ k) → (k ≤ ia 3 0) → (acc = zsum (fun v => if ia 6 (v * 31 + s) = u then 1 else 0) k) → Ev G mX6_usersOf 5 [(1, 3), (0, u), (0, s), (0, acc), (0, k)] [] (zH ia w) (.inl (some (0, (zsum (fun v => if ia 6 (v * 31 + s) = u then 1 else 0) (ia 3 0)))), zH ia w, 0, 0) := by
  intro n
  induction n with
  | zero =>
    intro k acc hN hk0 hk1 hacc
    exact absurd hN (by omega)
  | succ n ih =>
    intro k acc hN hk0 hk1 hacc
    have hn := I.1
    refine Ev.iload fX6_usersOf_5 rfl ?_
    refine Ev.aload_n_1 fX6_usersOf_7 rfl ?_
    refine Ev.gI 3 0 (v := (ia 3 0)) fX6_usersOf_8 (flX6_9 rfl) rfl rfl rfl ?_
    refine Ev.icmp_ge fX6_usersOf_11 rfl ⟨by omega, by omega⟩ ⟨by omega, by omega⟩ (fun h11 => ?_) (fun h11 => ?_)
    · refine Ev.iload_n fX6_usersOf_34 rfl ?_
      exact Ev.zI fX6_usersOf_35 rfl (by rw [hacc, show k = ia 3 0 by omega])
    · have q1 := I.2.2.1 k s (by omega) (by omega) hs.1 hs.2
      refine Ev.aload_n_1 fX6_usersOf_14 rfl ?_
      refine Ev.iload fX6_usersOf_15 rfl ?_
      refine Ev.iload_n fX6_usersOf_17 rfl ?_
      refine Ev.cVi 3 [(0, k), (0, s)] [] fX6_usersOf_18 lkX6_usersOf_79 6 TX6 5 rfl rfl rfl (eX6_makerOf I ⟨by omega, by omega⟩ ⟨by omega, by omega⟩) ?_
      refine Ev.iload_n fX6_usersOf_21 rfl ?_
      refine Ev.icmp_ne fX6_usersOf_22 rfl ⟨by omega, by omega⟩ ⟨by omega, by omega⟩ (fun h22 => ?_) (fun h22 => ?_)
      · refine Ev.siinc [(1, 3), (0, u), (0, s), (0, acc), (0, (k + 1))] fX6_usersOf_28 rfl rfl rfl ?_
        refine Ev.goto fX6_usersOf_31 rfl ?_
        exact ih (k + 1) acc (by omega) (by omega) (by omega) (by rw [zsum_s (by omega), hacc]; rw [if_neg (by omega)]; omega)
      · refine Ev.siinc [(1, 3), (0, u), (0, s), (0, (acc + 1)), (0, k)] fX6_usersOf_25 rfl rfl rfl ?_
        refine Ev.siinc [(1, 3), (0, u), (0, s), (0, (acc + 1)), (0, (k + 1))] fX6_usersOf_28 rfl rfl rfl ?_
        refine Ev.goto fX6_usersOf_31 rfl ?_
        exact ih (k + 1) (acc + 1) (by omega) (by omega) (by omega) (by rw [zsum_s (by omega), hacc]; rw [if_pos (by omega)])
theorem eX6_usersOf {G : zG} {ia : Nat → Int → Int} {w : (Nat → Int → Int) × (Nat → Int → Int)} {u s : Int} (I : zCI ia) (hu : -2147483648 ≤ u ∧ u ≤ 2147483647) (hs : 0 ≤ s ∧ s < 31) : Ev G mX6_usersOf 0 [(1, 3), (0, u), (0, s), (9, 0), (9, 0)] [] (zH ia w) (.inl (some (0, (zsum (fun v => if ia 6 (v * 31 + s) = u then 1 else 0) (ia 3 0)))), zH ia w, 0, 0) := by
  have hn := I.1
  refine Ev.iconst fX6_usersOf_0 ?_
  refine Ev.sistore_n [(1, 3), (0, u), (0, s), (0, 0), (9, 0)] fX6_usersOf_1 rfl rfl ?_
  refine Ev.iconst fX6_usersOf_2 ?_
  refine Ev.sistore [(1, 3), (0, u), (0, s), (0, 0), (0, 0)] fX6_usersOf_3 rfl rfl ?_
  exact eX6_usersOf_L I hu hs 2000 0 0 (by omega) (by omega) (by omega) rfl
theorem eX6_pagesOfOthersMadeBy_L {G : zG} {ia : Nat → Int → Int} {w : (Nat → Int → Int) × (Nat → Int → Int)} {v : Int} (I : zCI ia) (hv : 0 ≤ v ∧ v < ia 3 0) : ∀ (n : Nat) (k acc : Int), (31 - k < n) → (0 ≤ k) → (k ≤ 31) → (acc = zsum (fun s => if ia 6 (v * 31 + s) = v ∧ 1 < (zsum (fun u => if ia 6 (u * 31 + s) = v then 1 else 0) (ia 3 0)) then 1 else 0) k) → Ev G mX6_pagesOfOthersMadeBy 4 [(1, 3), (0, v), (0, acc), (0, k)] [] (zH ia w) (.inl (some (0, (zsum (fun s => if ia 6 (v * 31 + s) = v ∧ 1 < (zsum (fun u => if ia 6 (u * 31 + s) = v then 1 else 0) (ia 3 0)) then 1 else 0) (31)))), zH ia w, 0, 0) := by
  intro n
  induction n with
  | zero =>
    intro k acc hN hk0 hk1 hacc
    exact absurd hN (by omega)
  | succ n ih =>
    intro k acc hN hk0 hk1 hacc
    have hn := I.1
    refine Ev.iload_n fX6_pagesOfOthersMadeBy_4 rfl ?_
    refine Ev.bipush fX6_pagesOfOthersMadeBy_5 rfl ?_
    refine Ev.icmp_ge fX6_pagesOfOthersMadeBy_7 rfl ⟨by omega, by omega⟩ (by decide) (fun h7 => ?_) (fun h7 => ?_)
    · refine Ev.iload_n fX6_pagesOfOthersMadeBy_39 rfl ?_
      exact Ev.zI fX6_pagesOfOthersMadeBy_40 rfl (by rw [hacc, show k = 31 by omega])
    · refine Ev.aload_n_1 fX6_pagesOfOthersMadeBy_10 rfl ?_
      refine Ev.iload_n fX6_pagesOfOthersMadeBy_11 rfl ?_
      refine Ev.iload_n fX6_pagesOfOthersMadeBy_12 rfl ?_
      refine Ev.cVi 3 [(0, v), (0, k)] [] fX6_pagesOfOthersMadeBy_13 lkX6_pagesOfOthersMadeBy_79 6 TX6 5 rfl rfl rfl (eX6_makerOf I ⟨by omega, by omega⟩ ⟨by omega, by omega⟩) ?_
      have q1 := I.2.2.1 v k hv.1 hv.2 (by omega) (by omega)
      refine Ev.iload_n fX6_pagesOfOthersMadeBy_16 rfl ?_
      refine Ev.icmp_ne fX6_pagesOfOthersMadeBy_17 rfl ⟨by omega, by omega⟩ ⟨by omega, by omega⟩ (fun h17 => ?_) (fun h17 => ?_)
      · refine Ev.siinc [(1, 3), (0, v), (0, acc), (0, (k + 1))] fX6_pagesOfOthersMadeBy_33 rfl rfl rfl ?_
        refine Ev.goto fX6_pagesOfOthersMadeBy_36 rfl ?_
        exact ih (k + 1) acc (by omega) (by omega) (by omega) (by rw [zsum_s (by omega), hacc]; rw [if_neg (by omega)]; omega)
      · refine Ev.aload_n_1 fX6_pagesOfOthersMadeBy_20 rfl ?_
        refine Ev.iload_n fX6_pagesOfOthersMadeBy_21 rfl ?_
        refine Ev.iload_n fX6_pagesOfOthersMadeBy_22 rfl ?_
        refine Ev.cVi 3 [(0, v), (0, k)] [] fX6_pagesOfOthersMadeBy_23 lkX6_pagesOfOthersMadeBy_98 6 TX6 5 rfl rfl rfl (eX6_usersOf I ⟨by omega, by omega⟩ ⟨by omega, by omega⟩) ?_
        have hzb := zsum_le (f := (fun u => if ia 6 (u * 31 + k) = v then (1 : Int) else 0)) (m := 0) (M := 1) (k := ia 3 0) (by omega) (fun j _ _ => by (try dsimp only); split <;> omega)
        refine Ev.iconst fX6_pagesOfOthersMadeBy_26 ?_
        refine Ev.icmp_le fX6_pagesOfOthersMadeBy_27 rfl ⟨by omega, by omega⟩ (by decide) (fun h27 => ?_) (fun h27 => ?_)
        · refine Ev.siinc [(1, 3), (0, v), (0, acc), (0, (k + 1))] fX6_pagesOfOthersMadeBy_33 rfl rfl rfl ?_
          refine Ev.goto fX6_pagesOfOthersMadeBy_36 rfl ?_
          exact ih (k + 1) acc (by omega) (by omega) (by omega) (by rw [zsum_s (by omega), hacc]; rw [if_neg (by omega)]; omega)
        · refine Ev.siinc [(1, 3), (0, v), (0, (acc + 1)), (0, k)] fX6_pagesOfOthersMadeBy_30 rfl rfl rfl ?_
          refine Ev.siinc [(1, 3), (0, v), (0, (acc + 1)), (0, (k + 1))] fX6_pagesOfOthersMadeBy_33 rfl rfl rfl ?_
          refine Ev.goto fX6_pagesOfOthersMadeBy_36 rfl ?_
          exact ih (k + 1) (acc + 1) (by omega) (by omega) (by omega) (by rw [zsum_s (by omega), hacc]; rw [if_pos ⟨by omega, by omega⟩])
theorem eX6_pagesOfOthersMadeBy {G : zG} {ia : Nat → Int → Int} {w : (Nat → Int → Int) × (Nat → Int → Int)} {v : Int} (I : zCI ia) (hv : 0 ≤ v ∧ v < ia 3 0) : Ev G mX6_pagesOfOthersMadeBy 0 [(1, 3), (0, v), (9, 0), (9, 0)] [] (zH ia w) (.inl (some (0, (zsum (fun s => if ia 6 (v * 31 + s) = v ∧ 1 < (zsum (fun u => if ia 6 (u * 31 + s) = v then 1 else 0) (ia 3 0)) then 1 else 0) (31)))), zH ia w, 0, 0) := by
  have hn := I.1
  refine Ev.iconst fX6_pagesOfOthersMadeBy_0 ?_
  refine Ev.sistore_n [(1, 3), (0, v), (0, 0), (9, 0)] fX6_pagesOfOthersMadeBy_1 rfl rfl ?_
  refine Ev.iconst fX6_pagesOfOthersMadeBy_2 ?_
  refine Ev.sistore_n [(1, 3), (0, v), (0, 0), (0, 0)] fX6_pagesOfOthersMadeBy_3 rfl rfl ?_
  exact eX6_pagesOfOthersMadeBy_L I hv 2000 0 0 (by omega) (by omega) (by omega) rfl
/-- how many of the pages that a version made others have, too -/
def zln (ia : Nat → Int → Int) (v : Int) : Int := (zsum (fun s => if ia 6 (v * 31 + s) = v ∧ 1 < (zsum (fun u => if ia 6 (u * 31 + s) = v then 1 else 0) (ia 3 0)) then 1 else 0) 31)
theorem zln_in {ia : Nat → Int → Int} {v : Int} : 0 ≤ zln ia v ∧ zln ia v ≤ 31 := by
  have hz := zsum_le (f := fun s => if ia 6 (v * 31 + s) = v ∧ 1 < (zsum (fun u => if ia 6 (u * 31 + s) = v then 1 else 0) (ia 3 0)) then 1 else 0) (m := 0) (M := 1) (k := 31) (by omega) (fun j _ _ => by (try dsimp only); split <;> omega)
  unfold zln
  omega
theorem eX6_withMostPagesOfOthers_L {G : zG} {ia : Nat → Int → Int} {w : (Nat → Int → Int) × (Nat → Int → Int)}  (I : zCI ia) (hc2 : 2 ≤ ia 3 0) : ∀ (n : Nat) (k best most : Int), (ia 3 0 - k < n) → (1 ≤ k) → (k ≤ ia 3 0) → (0 ≤ most) → (most ≤ 31) → (2 ≤ k → best = zmx (zln ia) 1 (k - 2).toNat) → (2 ≤ k → most = zln ia best) → (1 = k → best = 1 ∧ most = 0) → Ev G mX6_withMostPagesOfOthers 6 [(1, 3), (0, best), (0, most), (0, k), (9, 0)] [] (zH ia w) (.inl (some (0, (zmx (zln ia) 1 (ia 3 0 - 2).toNat))), zH ia w, 0, 0) := by
  intro n
  induction n with
  | zero =>
    intro k best most hN hk0 hk1 hm0 hm1 hb hm hh
    exact absurd hN (by omega)
  | succ n ih =>
    intro k best most hN hk0 hk1 hm0 hm1 hb hm hh
    have hn := I.1
    refine Ev.iload_n fX6_withMostPagesOfOthers_6 rfl ?_
    refine Ev.aload_n_1 fX6_withMostPagesOfOthers_7 rfl ?_
    refine Ev.gI 3 0 (v := (ia 3 0)) fX6_withMostPagesOfOthers_8 (flX6_9 rfl) rfl rfl rfl ?_
    refine Ev.icmp_ge fX6_withMostPagesOfOthers_11 rfl ⟨by omega, by omega⟩ ⟨by omega, by omega⟩ (fun h11 => ?_) (fun h11 => ?_)
    · refine Ev.iload_n fX6_withMostPagesOfOthers_38 rfl ?_
      exact Ev.zI fX6_withMostPagesOfOthers_39 rfl (by rw [hb (by omega), show k = ia 3 0 by omega])
    · refine Ev.aload_n_1 fX6_withMostPagesOfOthers_14 rfl ?_
      refine Ev.iload_n fX6_withMostPagesOfOthers_15 rfl ?_
      refine Ev.cVi 3 [(0, k)] [] fX6_withMostPagesOfOthers_16 lkX6_withMostPagesOfOthers_95 6 TX6 5 rfl rfl rfl (eX6_pagesOfOthersMadeBy I ⟨by omega, by omega⟩) ?_
      refine Ev.sistore [(1, 3), (0, best), (0, most), (0, k), (0, (zln ia k))] fX6_withMostPagesOfOthers_19 rfl rfl ?_
      have hz := zln_in (ia := ia) (v := k)
      have hb2 := zln_in (ia := ia) (v := best)
      refine Ev.iload fX6_withMostPagesOfOthers_21 rfl ?_
      refine Ev.iload_n fX6_withMostPagesOfOthers_23 rfl ?_
      refine Ev.icmp_le fX6_withMostPagesOfOthers_24 rfl ⟨by omega, by omega⟩ ⟨by omega, by omega⟩ (fun h24 => ?_) (fun h24 => ?_)
      · refine Ev.siinc [(1, 3), (0, best), (0, most), (0, (k + 1)), (0, (zln ia k))] fX6_withMostPagesOfOthers_32 rfl rfl rfl ?_
        refine Ev.goto fX6_withMostPagesOfOthers_35 rfl ?_
        refine Ev.fg 4 [(1, 3), (0, best), (0, most), (0, (k + 1)), (9, 0)] rfl ?_
        rcases Int.lt_or_eq_of_le hk0 with g | g
        · have hb3 := hb (by omega)
          have hm3 := hm (by omega)
          refine ih (k + 1) best most (by omega) (by omega) (by omega) (by omega) (by omega) (fun _ => ?_) (fun _ => hm3) (fun e => absurd e (by omega))
          rw [show (k + 1 - 2).toNat = (k - 2).toNat + 1 by omega, zmx_s, ← hb3, show (1 : Int) + ((((k - 2).toNat : Nat) : Int) + 1) = k by omega, if_neg (by omega)]
        · subst g
          have h0 := hh rfl
          have hb1 : best = 1 := h0.1
          refine ih (1 + 1) best most (by omega) (by omega) (by omega) (by omega) (by omega) (fun _ => by rw [hb1]; rfl) (fun _ => ?_) (fun e => absurd e (by omega))
          rw [hb1]
          omega
      · refine Ev.iload_n fX6_withMostPagesOfOthers_27 rfl ?_
        refine Ev.sistore_n [(1, 3), (0, k), (0, most), (0, k), (0, (zln ia k))] fX6_withMostPagesOfOthers_28 rfl rfl ?_
        refine Ev.iload fX6_withMostPagesOfOthers_29 rfl ?_
        refine Ev.sistore_n [(1, 3), (0, k), (0, (zln ia k)), (0, k), (0, (zln ia k))] fX6_withMostPagesOfOthers_31 rfl rfl ?_
        refine Ev.siinc [(1, 3), (0, k), (0, (zln ia k)), (0, (k + 1)), (0, (zln ia k))] fX6_withMostPagesOfOthers_32 rfl rfl rfl ?_
        refine Ev.goto fX6_withMostPagesOfOthers_35 rfl ?_
        refine Ev.fg 4 [(1, 3), (0, k), (0, (zln ia k)), (0, (k + 1)), (9, 0)] rfl ?_
        rcases Int.lt_or_eq_of_le hk0 with g | g
        · have hb3 := hb (by omega)
          have hm3 := hm (by omega)
          refine ih (k + 1) k (zln ia k) (by omega) (by omega) (by omega) (by omega) (by omega) (fun _ => ?_) (fun _ => rfl) (fun e => absurd e (by omega))
          rw [show (k + 1 - 2).toNat = (k - 2).toNat + 1 by omega, zmx_s, ← hb3, show (1 : Int) + ((((k - 2).toNat : Nat) : Int) + 1) = k by omega, if_pos (by omega)]
        · subst g
          exact ih (1 + 1) 1 (zln ia 1) (by omega) (by omega) (by omega) (by omega) (by omega) (fun _ => rfl) (fun _ => rfl) (fun e => absurd e (by omega))
theorem eX6_withMostPagesOfOthers {G : zG} {ia : Nat → Int → Int} {w : (Nat → Int → Int) × (Nat → Int → Int)}  (I : zCI ia) (hc2 : 2 ≤ ia 3 0) : Ev G mX6_withMostPagesOfOthers 0 [(1, 3), (9, 0), (9, 0), (9, 0), (9, 0)] [] (zH ia w) (.inl (some (0, (zmx (zln ia) 1 (ia 3 0 - 2).toNat))), zH ia w, 0, 0) := by
  have hn := I.1
  refine Ev.iconst fX6_withMostPagesOfOthers_0 ?_
  refine Ev.sistore_n [(1, 3), (0, 1), (9, 0), (9, 0), (9, 0)] fX6_withMostPagesOfOthers_1 rfl rfl ?_
  refine Ev.iconst fX6_withMostPagesOfOthers_2 ?_
  refine Ev.sistore_n [(1, 3), (0, 1), (0, 0), (9, 0), (9, 0)] fX6_withMostPagesOfOthers_3 rfl rfl ?_
  refine Ev.iconst fX6_withMostPagesOfOthers_4 ?_
  refine Ev.sistore_n [(1, 3), (0, 1), (0, 0), (0, 1), (9, 0)] fX6_withMostPagesOfOthers_5 rfl rfl ?_
  exact eX6_withMostPagesOfOthers_L I hc2 60 1 1 0 (by omega) (by omega) (by omega) (by omega) (by omega) (fun h => absurd h (by omega)) (fun h => absurd h (by omega)) (fun _ => ⟨rfl, rfl⟩)
theorem eX6_versionsAheadOf_L {G : zG} {ia : Nat → Int → Int} {w : (Nat → Int → Int) × (Nat → Int → Int)} {v : Int} (I : zCI ia) (hv : 0 ≤ v ∧ v < ia 3 0) : ∀ (n : Nat) (k acc : Int), (ia 3 0 - k < n) → (0 ≤ k) → (k ≤ ia 3 0) → (acc = zsum (fun j => if zTo ia v 0 < zTo ia j 0 ∨ (zTo ia j 0 = zTo ia v 0 ∧ v < j) then 1 else 0) k) → Ev G mX6_versionsAheadOf 12 [(1, 3), (0, v), (0, (zTo ia v 0)), (0, acc), (0, k), (9, 0)] [] (zH ia w) (.inl (some (0, (zsum (fun j => if zTo ia v 0 < zTo ia j 0 ∨ (zTo ia j 0 = zTo ia v 0 ∧ v < j) then 1 else 0) (ia 3 0)))), zH ia w, 0, 0) := by
  intro n
  induction n with
  | zero =>
    intro k acc hN hk0 hk1 hacc
    exact absurd hN (by omega)
  | succ n ih =>
    intro k acc hN hk0 hk1 hacc
    have hn := I.1
    refine Ev.iload fX6_versionsAheadOf_12 rfl ?_
    refine Ev.aload_n_1 fX6_versionsAheadOf_14 rfl ?_
    refine Ev.gI 3 0 (v := (ia 3 0)) fX6_versionsAheadOf_15 (flX6_9 rfl) rfl rfl rfl ?_
    refine Ev.icmp_ge fX6_versionsAheadOf_18 rfl ⟨by omega, by omega⟩ ⟨by omega, by omega⟩ (fun h18 => ?_) (fun h18 => ?_)
    · refine Ev.iload_n fX6_versionsAheadOf_57 rfl ?_
      exact Ev.zI fX6_versionsAheadOf_58 rfl (by rw [hacc, show k = ia 3 0 by omega])
    · refine Ev.aload_n_1 fX6_versionsAheadOf_21 rfl ?_
      refine Ev.iload fX6_versionsAheadOf_22 rfl ?_
      refine Ev.iconst fX6_versionsAheadOf_24 ?_
      refine Ev.cVi 3 [(0, k), (0, 0)] [] fX6_versionsAheadOf_25 lkX6_versionsAheadOf_41 6 TX6 5 rfl rfl rfl (eX6_totalOf I ⟨by omega, by omega⟩ ⟨by omega, by omega⟩) ?_
      refine Ev.sistore [(1, 3), (0, v), (0, (zTo ia v 0)), (0, acc), (0, k), (0, (zTo ia k 0))] fX6_versionsAheadOf_28 rfl rfl ?_
      have q1 := I.to k 0 (by omega) (by omega) (by omega) (by omega)
      have q2 := I.to v 0 (by omega) (by omega) (by omega) (by omega)
      refine Ev.iload fX6_versionsAheadOf_30 rfl ?_
      refine Ev.iload_n fX6_versionsAheadOf_32 rfl ?_
      refine Ev.icmp_gt fX6_versionsAheadOf_33 rfl ⟨by omega, by omega⟩ ⟨by omega, by omega⟩ (fun h33 => ?_) (fun h33 => ?_)
      · refine Ev.siinc [(1, 3), (0, v), (0, (zTo ia v 0)), (0, (acc + 1)), (0, k), (0, (zTo ia k 0))] fX6_versionsAheadOf_48 rfl rfl rfl ?_
        refine Ev.siinc [(1, 3), (0, v), (0, (zTo ia v 0)), (0, (acc + 1)), (0, (k + 1)), (0, (zTo ia k 0))] fX6_versionsAheadOf_51 rfl rfl rfl ?_
        refine Ev.goto fX6_versionsAheadOf_54 rfl ?_
        refine Ev.fg 5 [(1, 3), (0, v), (0, (zTo ia v 0)), (0, (acc + 1)), (0, (k + 1)), (9, 0)] rfl ?_
        exact ih (k + 1) (acc + 1) (by omega) (by omega) (by omega) (by rw [zsum_s (by omega), hacc]; rw [if_pos (by omega)])
      · refine Ev.iload fX6_versionsAheadOf_36 rfl ?_
        refine Ev.iload_n fX6_versionsAheadOf_38 rfl ?_
        refine Ev.icmp_ne fX6_versionsAheadOf_39 rfl ⟨by omega, by omega⟩ ⟨by omega, by omega⟩ (fun h39 => ?_) (fun h39 => ?_)
        · refine Ev.siinc [(1, 3), (0, v), (0, (zTo ia v 0)), (0, acc), (0, (k + 1)), (0, (zTo ia k 0))] fX6_versionsAheadOf_51 rfl rfl rfl ?_
          refine Ev.goto fX6_versionsAheadOf_54 rfl ?_
          refine Ev.fg 5 [(1, 3), (0, v), (0, (zTo ia v 0)), (0, acc), (0, (k + 1)), (9, 0)] rfl ?_
          exact ih (k + 1) acc (by omega) (by omega) (by omega) (by rw [zsum_s (by omega), hacc]; rw [if_neg (by omega)]; omega)
        · refine Ev.iload fX6_versionsAheadOf_42 rfl ?_
          refine Ev.iload_n fX6_versionsAheadOf_44 rfl ?_
          refine Ev.icmp_le fX6_versionsAheadOf_45 rfl ⟨by omega, by omega⟩ ⟨by omega, by omega⟩ (fun h45 => ?_) (fun h45 => ?_)
          · refine Ev.siinc [(1, 3), (0, v), (0, (zTo ia v 0)), (0, acc), (0, (k + 1)), (0, (zTo ia k 0))] fX6_versionsAheadOf_51 rfl rfl rfl ?_
            refine Ev.goto fX6_versionsAheadOf_54 rfl ?_
            refine Ev.fg 5 [(1, 3), (0, v), (0, (zTo ia v 0)), (0, acc), (0, (k + 1)), (9, 0)] rfl ?_
            exact ih (k + 1) acc (by omega) (by omega) (by omega) (by rw [zsum_s (by omega), hacc]; rw [if_neg (by omega)]; omega)
          · refine Ev.siinc [(1, 3), (0, v), (0, (zTo ia v 0)), (0, (acc + 1)), (0, k), (0, (zTo ia k 0))] fX6_versionsAheadOf_48 rfl rfl rfl ?_
            refine Ev.siinc [(1, 3), (0, v), (0, (zTo ia v 0)), (0, (acc + 1)), (0, (k + 1)), (0, (zTo ia k 0))] fX6_versionsAheadOf_51 rfl rfl rfl ?_
            refine Ev.goto fX6_versionsAheadOf_54 rfl ?_
            refine Ev.fg 5 [(1, 3), (0, v), (0, (zTo ia v 0)), (0, (acc + 1)), (0, (k + 1)), (9, 0)] rfl ?_
            exact ih (k + 1) (acc + 1) (by omega) (by omega) (by omega) (by rw [zsum_s (by omega), hacc]; rw [if_pos (by omega)])
theorem eX6_versionsAheadOf {G : zG} {ia : Nat → Int → Int} {w : (Nat → Int → Int) × (Nat → Int → Int)} {v : Int} (I : zCI ia) (hv : 0 ≤ v ∧ v < ia 3 0) : Ev G mX6_versionsAheadOf 0 [(1, 3), (0, v), (9, 0), (9, 0), (9, 0), (9, 0)] [] (zH ia w) (.inl (some (0, (zsum (fun j => if zTo ia v 0 < zTo ia j 0 ∨ (zTo ia j 0 = zTo ia v 0 ∧ v < j) then 1 else 0) (ia 3 0)))), zH ia w, 0, 0) := by
  have hn := I.1
  refine Ev.aload_n_1 fX6_versionsAheadOf_0 rfl ?_
  refine Ev.iload_n fX6_versionsAheadOf_1 rfl ?_
  refine Ev.iconst fX6_versionsAheadOf_2 ?_
  refine Ev.cVi 3 [(0, v), (0, 0)] [] fX6_versionsAheadOf_3 lkX6_versionsAheadOf_41 6 TX6 5 rfl rfl rfl (eX6_totalOf I ⟨by omega, by omega⟩ ⟨by omega, by omega⟩) ?_
  refine Ev.sistore_n [(1, 3), (0, v), (0, (zTo ia v 0)), (9, 0), (9, 0), (9, 0)] fX6_versionsAheadOf_6 rfl rfl ?_
  refine Ev.iconst fX6_versionsAheadOf_7 ?_
  refine Ev.sistore_n [(1, 3), (0, v), (0, (zTo ia v 0)), (0, 0), (9, 0), (9, 0)] fX6_versionsAheadOf_8 rfl rfl ?_
  refine Ev.iconst fX6_versionsAheadOf_9 ?_
  refine Ev.sistore [(1, 3), (0, v), (0, (zTo ia v 0)), (0, 0), (0, 0), (9, 0)] fX6_versionsAheadOf_10 rfl rfl ?_
  exact eX6_versionsAheadOf_L I hv 60 0 0 (by omega) (by omega) (by omega) rfl
theorem eX6_atPlace_L {G : zG} {ia : Nat → Int → Int} {w : (Nat → Int → Int) × (Nat → Int → Int)} {place r : Int} (I : zCI ia) (hpl : -2147483648 ≤ place ∧ place ≤ 2147483647) (hr : zfnd (fun v => decide ((zsum (fun j => if zTo ia v 0 < zTo ia j 0 ∨ (zTo ia j 0 = zTo ia v 0 ∧ v < j) then 1 else 0) (ia 3 0)) = place)) (ia 3 0).toNat 0 = r) : ∀ (n : Nat) (k : Int), (ia 3 0 - k < n) → (0 ≤ k) → (k ≤ ia 3 0) → (zfnd (fun v => decide ((zsum (fun j => if zTo ia v 0 < zTo ia j 0 ∨ (zTo ia j 0 = zTo ia v 0 ∧ v < j) then 1 else 0) (ia 3 0)) = place)) (ia 3 0 - k).toNat k = r) → Ev G mX6_atPlace 2 [(1, 3), (0, place), (0, k)] [] (zH ia w) (.inl (some (0, r)), zH ia w, 0, 0) := by
  intro n
  induction n with
  | zero =>
    intro k hN hk0 hk1 hz
    exact absurd hN (by omega)
  | succ n ih =>
    intro k hN hk0 hk1 hz
    have hn := I.1
    refine Ev.iload_n fX6_atPlace_2 rfl ?_
    refine Ev.aload_n_1 fX6_atPlace_3 rfl ?_
    refine Ev.gI 3 0 (v := (ia 3 0)) fX6_atPlace_4 (flX6_9 rfl) rfl rfl rfl ?_
    refine Ev.icmp_ge fX6_atPlace_7 rfl ⟨by omega, by omega⟩ ⟨by omega, by omega⟩ (fun h7 => ?_) (fun h7 => ?_)
    · refine Ev.iconst fX6_atPlace_27 ?_
      exact Ev.zI fX6_atPlace_28 rfl (by rw [← hz, show (ia 3 0 - k).toNat = 0 by omega]; rfl)
    · refine Ev.aload_n_1 fX6_atPlace_10 rfl ?_
      refine Ev.iload_n fX6_atPlace_11 rfl ?_
      refine Ev.cVi 3 [(0, k)] [] fX6_atPlace_12 lkX6_atPlace_92 6 TX6 5 rfl rfl rfl (eX6_versionsAheadOf I ⟨by omega, by omega⟩) ?_
      have hzb := zsum_le (f := (fun j => if zTo ia k 0 < zTo ia j 0 ∨ (zTo ia j 0 = zTo ia k 0 ∧ k < j) then (1 : Int) else 0)) (m := 0) (M := 1) (k := ia 3 0) (by omega) (fun j _ _ => by (try dsimp only); split <;> omega)
      refine Ev.iload_n fX6_atPlace_15 rfl ?_
      refine Ev.icmp_ne fX6_atPlace_16 rfl ⟨by omega, by omega⟩ ⟨by omega, by omega⟩ (fun h16 => ?_) (fun h16 => ?_)
      · refine Ev.siinc [(1, 3), (0, place), (0, (k + 1))] fX6_atPlace_21 rfl rfl rfl ?_
        refine Ev.goto fX6_atPlace_24 rfl ?_
        exact ih (k + 1) (by omega) (by omega) (by omega) (by rw [← hz, show (ia 3 0 - k).toNat = (ia 3 0 - (k + 1)).toNat + 1 by omega, zfnd_s, if_neg (by rw [decide_eq_true_eq]; omega)])
      · refine Ev.iload_n fX6_atPlace_19 rfl ?_
        exact Ev.zI fX6_atPlace_20 rfl (by rw [← hz, show (ia 3 0 - k).toNat = (ia 3 0 - (k + 1)).toNat + 1 by omega, zfnd_s, if_pos (decide_eq_true (by omega))])
theorem eX6_atPlace {G : zG} {ia : Nat → Int → Int} {w : (Nat → Int → Int) × (Nat → Int → Int)} {place r : Int} (I : zCI ia) (hpl : -2147483648 ≤ place ∧ place ≤ 2147483647) (hr : zfnd (fun v => decide ((zsum (fun j => if zTo ia v 0 < zTo ia j 0 ∨ (zTo ia j 0 = zTo ia v 0 ∧ v < j) then 1 else 0) (ia 3 0)) = place)) (ia 3 0).toNat 0 = r) : Ev G mX6_atPlace 0 [(1, 3), (0, place), (9, 0)] [] (zH ia w) (.inl (some (0, r)), zH ia w, 0, 0) := by
  have hn := I.1
  refine Ev.iconst fX6_atPlace_0 ?_
  refine Ev.sistore_n [(1, 3), (0, place), (0, 0)] fX6_atPlace_1 rfl rfl ?_
  exact eX6_atPlace_L I hpl hr 60 0 (by omega) (by omega) (by omega) (by rw [Int.sub_zero]; exact hr)
theorem eX6_lineWithMost_L {G : zG} {ia : Nat → Int → Int} {w : (Nat → Int → Int) × (Nat → Int → Int)} {v first last : Int} (I : zCI ia) (hv : 0 ≤ v ∧ v < ia 3 0) (hf : 0 ≤ first ∧ first ≤ last ∧ last < 16) : ∀ (n : Nat) (k best : Int), (16 - k < n) → (0 ≤ k) → (k ≤ 16) → (first ≤ best) → (best ≤ last) → (best = zmx (fun j => zTo ia v (15 + j)) first (min (k - 1) last - first).toNat) → Ev G mX6_lineWithMost 6 [(1, 3), (0, v), (0, first), (0, last), (0, best), (0, k)] [] (zH ia w) (.inl (some (0, (zmx (fun j => zTo ia v (15 + j)) first (last - first).toNat))), zH ia w, 0, 0) := by
  intro n
  induction n with
  | zero =>
    intro k best hN hk0 hk1 hb0 hb1 hb2
    exact absurd hN (by omega)
  | succ n ih =>
    intro k best hN hk0 hk1 hb0 hb1 hb2
    have hn := I.1
    refine Ev.iload fX6_lineWithMost_6 rfl ?_
    refine Ev.bipush fX6_lineWithMost_8 rfl ?_
    refine Ev.icmp_ge fX6_lineWithMost_10 rfl ⟨by omega, by omega⟩ (by decide) (fun h10 => ?_) (fun h10 => ?_)
    · refine Ev.iload fX6_lineWithMost_52 rfl ?_
      exact Ev.zI fX6_lineWithMost_54 rfl (by rw [hb2, show (min (k - 1) last - first).toNat = (last - first).toNat by omega])
    · refine Ev.iload fX6_lineWithMost_13 rfl ?_
      refine Ev.iload_n fX6_lineWithMost_15 rfl ?_
      refine Ev.icmp_le fX6_lineWithMost_16 rfl ⟨by omega, by omega⟩ ⟨by omega, by omega⟩ (fun h16 => ?_) (fun h16 => ?_)
      · refine Ev.siinc [(1, 3), (0, v), (0, first), (0, last), (0, best), (0, (k + 1))] fX6_lineWithMost_46 rfl rfl rfl ?_
        refine Ev.goto fX6_lineWithMost_49 rfl ?_
        exact ih (k + 1) best (by omega) (by omega) (by omega) hb0 hb1 (by rw [hb2, show (min (k + 1 - 1) last - first).toNat = (min (k - 1) last - first).toNat by omega])
      · refine Ev.iload fX6_lineWithMost_19 rfl ?_
        refine Ev.iload_n fX6_lineWithMost_21 rfl ?_
        refine Ev.icmp_gt fX6_lineWithMost_22 rfl ⟨by omega, by omega⟩ ⟨by omega, by omega⟩ (fun h22 => ?_) (fun h22 => ?_)
        · refine Ev.siinc [(1, 3), (0, v), (0, first), (0, last), (0, best), (0, (k + 1))] fX6_lineWithMost_46 rfl rfl rfl ?_
          refine Ev.goto fX6_lineWithMost_49 rfl ?_
          exact ih (k + 1) best (by omega) (by omega) (by omega) hb0 hb1 (by rw [hb2, show (min (k + 1 - 1) last - first).toNat = (min (k - 1) last - first).toNat by omega])
        · have q1 := I.to v (15 + k) (by omega) (by omega) (by omega) (by omega)
          have q2 := I.to v (15 + best) (by omega) (by omega) (by omega) (by omega)
          refine Ev.aload_n_1 fX6_lineWithMost_25 rfl ?_
          refine Ev.iload_n fX6_lineWithMost_26 rfl ?_
          refine Ev.iload fX6_lineWithMost_27 rfl ?_
          refine Ev.cVi 3 [(0, v), (0, k)] [] fX6_lineWithMost_29 lkX6_lineWithMost_69 6 TX6 5 rfl rfl rfl (eX6_amountOn I ⟨by omega, by omega⟩ ⟨by omega, by omega⟩) ?_
          refine Ev.aload_n_1 fX6_lineWithMost_32 rfl ?_
          refine Ev.iload_n fX6_lineWithMost_33 rfl ?_
          refine Ev.iload fX6_lineWithMost_34 rfl ?_
          refine Ev.cVi 3 [(0, v), (0, best)] [(0, (zTo ia v (15 + k)))] fX6_lineWithMost_36 lkX6_lineWithMost_69 6 TX6 5 rfl rfl rfl (eX6_amountOn I ⟨by omega, by omega⟩ ⟨by omega, by omega⟩) ?_
          refine Ev.icmp_le fX6_lineWithMost_39 rfl ⟨by omega, by omega⟩ ⟨by omega, by omega⟩ (fun h39 => ?_) (fun h39 => ?_)
          · refine Ev.siinc [(1, 3), (0, v), (0, first), (0, last), (0, best), (0, (k + 1))] fX6_lineWithMost_46 rfl rfl rfl ?_
            refine Ev.goto fX6_lineWithMost_49 rfl ?_
            exact ih (k + 1) best (by omega) (by omega) (by omega) hb0 hb1 (by rw [show (min (k + 1 - 1) last - first).toNat = (min (k - 1) last - first).toNat + 1 by omega, zmx_s, ← hb2, show first + ((((min (k - 1) last - first).toNat : Nat) : Int) + 1) = k by omega, if_neg (by omega)])
          · refine Ev.iload fX6_lineWithMost_42 rfl ?_
            refine Ev.sistore [(1, 3), (0, v), (0, first), (0, last), (0, k), (0, k)] fX6_lineWithMost_44 rfl rfl ?_
            refine Ev.siinc [(1, 3), (0, v), (0, first), (0, last), (0, k), (0, (k + 1))] fX6_lineWithMost_46 rfl rfl rfl ?_
            refine Ev.goto fX6_lineWithMost_49 rfl ?_
            exact ih (k + 1) k (by omega) (by omega) (by omega) (by omega) (by omega) (by rw [show (min (k + 1 - 1) last - first).toNat = (min (k - 1) last - first).toNat + 1 by omega, zmx_s, ← hb2, show first + ((((min (k - 1) last - first).toNat : Nat) : Int) + 1) = k by omega, if_pos (by omega)])
theorem eX6_lineWithMost {G : zG} {ia : Nat → Int → Int} {w : (Nat → Int → Int) × (Nat → Int → Int)} {v first last : Int} (I : zCI ia) (hv : 0 ≤ v ∧ v < ia 3 0) (hf : 0 ≤ first ∧ first ≤ last ∧ last < 16) : Ev G mX6_lineWithMost 0 [(1, 3), (0, v), (0, first), (0, last), (9, 0), (9, 0)] [] (zH ia w) (.inl (some (0, (zmx (fun j => zTo ia v (15 + j)) first (last - first).toNat))), zH ia w, 0, 0) := by
  have hn := I.1
  refine Ev.iload_n fX6_lineWithMost_0 rfl ?_
  refine Ev.sistore [(1, 3), (0, v), (0, first), (0, last), (0, first), (9, 0)] fX6_lineWithMost_1 rfl rfl ?_
  refine Ev.iconst fX6_lineWithMost_3 ?_
  refine Ev.sistore [(1, 3), (0, v), (0, first), (0, last), (0, first), (0, 0)] fX6_lineWithMost_4 rfl rfl ?_
  exact eX6_lineWithMost_L I hv hf 60 0 first (by omega) (by omega) (by omega) (by omega) (by omega) (by rw [show (min (0 - 1) last - first).toNat = 0 by omega]; rfl)
theorem eX6_lineReaching_L {G : zG} {ia : Nat → Int → Int} {w : (Nat → Int → Int) × (Nat → Int → Int)} {v want r : Int} (I : zCI ia) (hv : 0 ≤ v ∧ v < ia 3 0) (hwt : -2147483648 ≤ want ∧ want ≤ 2147483647) (hr : zfnd (fun l => decide (want ≤ zsum (fun j => zTo ia v (15 + j)) (l + 1))) 16 0 = r) : ∀ (n : Nat) (k acc : Int), (16 - k < n) → (0 ≤ k) → (k ≤ 16) → (acc = zsum (fun j => zTo ia v (15 + j)) k) → (zfnd (fun l => decide (want ≤ zsum (fun j => zTo ia v (15 + j)) (l + 1))) (16 - k).toNat k = r) → Ev G mX6_lineReaching 5 [(1, 3), (0, v), (0, want), (0, acc), (0, k)] [] (zH ia w) (.inl (some (0, r)), zH ia w, 0, 0) := by
  intro n
  induction n with
  | zero =>
    intro k acc hN hk0 hk1 hacc hz
    exact absurd hN (by omega)
  | succ n ih =>
    intro k acc hN hk0 hk1 hacc hz
    have hn := I.1
    refine Ev.iload fX6_lineReaching_5 rfl ?_
    refine Ev.bipush fX6_lineReaching_7 rfl ?_
    refine Ev.icmp_ge fX6_lineReaching_9 rfl ⟨by omega, by omega⟩ (by decide) (fun h9 => ?_) (fun h9 => ?_)
    · refine Ev.iconst fX6_lineReaching_36 ?_
      exact Ev.zI fX6_lineReaching_37 rfl (by rw [← hz, show (16 - k).toNat = 0 by omega]; rfl)
    · have q1 := I.to v (15 + k) (by omega) (by omega) (by omega) (by omega)
      have q2 := zsum_le (f := (fun j => zTo ia v (15 + j))) (m := 0) (M := 15984) (k := k) hk0 (fun j g1 g2 => I.to v (15 + j) (by omega) (by omega) (by omega) (by omega))
      refine Ev.iload_n fX6_lineReaching_12 rfl ?_
      refine Ev.aload_n_1 fX6_lineReaching_13 rfl ?_
      refine Ev.iload_n fX6_lineReaching_14 rfl ?_
      refine Ev.iload fX6_lineReaching_15 rfl ?_
      refine Ev.cVi 3 [(0, v), (0, k)] [(0, acc)] fX6_lineReaching_17 lkX6_lineReaching_69 6 TX6 5 rfl rfl rfl (eX6_amountOn I ⟨by omega, by omega⟩ ⟨by omega, by omega⟩) ?_
      refine Ev.iadd fX6_lineReaching_20 ?_
      refine Ev.sistore_n [(1, 3), (0, v), (0, want), (0, (acc + (zTo ia v (15 + k)))), (0, k)] fX6_lineReaching_21 rfl rfl ?_
      refine Ev.iload_n fX6_lineReaching_22 rfl ?_
      refine Ev.iload_n fX6_lineReaching_23 rfl ?_
      refine Ev.icmp_lt fX6_lineReaching_24 rfl ⟨by omega, by omega⟩ ⟨by omega, by omega⟩ (fun h24 => ?_) (fun h24 => ?_)
      · refine Ev.siinc [(1, 3), (0, v), (0, want), (0, (acc + (zTo ia v (15 + k)))), (0, (k + 1))] fX6_lineReaching_30 rfl rfl rfl ?_
        refine Ev.goto fX6_lineReaching_33 rfl ?_
        exact ih (k + 1) (acc + zTo ia v (15 + k)) (by omega) (by omega) (by omega) (by rw [zsum_s hk0, hacc]) (by rw [← hz, show (16 - k).toNat = (16 - (k + 1)).toNat + 1 by omega, zfnd_s, if_neg (by rw [decide_eq_true_eq, zsum_s hk0]; omega)])
      · refine Ev.iload fX6_lineReaching_27 rfl ?_
        exact Ev.zI fX6_lineReaching_29 rfl (by rw [← hz, show (16 - k).toNat = (16 - (k + 1)).toNat + 1 by omega, zfnd_s, if_pos (decide_eq_true (by rw [zsum_s hk0]; omega))])
theorem eX6_lineReaching {G : zG} {ia : Nat → Int → Int} {w : (Nat → Int → Int) × (Nat → Int → Int)} {v want r : Int} (I : zCI ia) (hv : 0 ≤ v ∧ v < ia 3 0) (hwt : -2147483648 ≤ want ∧ want ≤ 2147483647) (hr : zfnd (fun l => decide (want ≤ zsum (fun j => zTo ia v (15 + j)) (l + 1))) 16 0 = r) : Ev G mX6_lineReaching 0 [(1, 3), (0, v), (0, want), (9, 0), (9, 0)] [] (zH ia w) (.inl (some (0, r)), zH ia w, 0, 0) := by
  have hn := I.1
  refine Ev.iconst fX6_lineReaching_0 ?_
  refine Ev.sistore_n [(1, 3), (0, v), (0, want), (0, 0), (9, 0)] fX6_lineReaching_1 rfl rfl ?_
  refine Ev.iconst fX6_lineReaching_2 ?_
  refine Ev.sistore [(1, 3), (0, v), (0, want), (0, 0), (0, 0)] fX6_lineReaching_3 rfl rfl ?_
  exact eX6_lineReaching_L I hv hwt hr 60 0 0 (by omega) (by omega) (by omega) rfl (by exact hr)
theorem zsin_fuel {par A : Int → Int} {N y : Int} (hp : zPar par N) : ∀ {n m : Nat} {v : Int}, 0 ≤ v → v < N → v < n → v < m → zsin par A y n v = zsin par A y m v := by
  intro n
  induction n with
  | zero =>
    intro m v h0 h1 h2 h3
    omega
  | succ n ih =>
    intro m v h0 h1 h2 h3
    cases m with
    | zero => omega
    | succ m =>
      rw [zsin_s, zsin_s]
      by_cases h : 0 ≤ par v ∧ A (par v) = y
      · obtain ⟨h4, h5⟩ := hp v (by omega) h1
        rw [if_pos h, if_pos h, ih (m := m) (v := par v) (by omega) (by omega) (by omega) (by omega)]
      · rw [if_neg h, if_neg h]
theorem eX6_earliestWithAmountOf_L {G : zG} {ia : Nat → Int → Int} {w : (Nat → Int → Int) × (Nat → Int → Int)} {v l r : Int} (I : zCI ia) (hv : 0 ≤ v ∧ v < ia 3 0) (hl : 0 ≤ l ∧ l < 16) (hr : zsin (ia 4) (fun j => zTo ia j (15 + l)) (zTo ia v (15 + l)) (v + 1).toNat v = r) : ∀ (n : Nat) (k e : Int), (e < n) → (0 ≤ k) → (0 ≤ e) → (e + k ≤ v) → (zsin (ia 4) (fun j => zTo ia j (15 + l)) (zTo ia v (15 + l)) (e + 1).toNat e = r) → Ev G mX6_earliestWithAmountOf 20 [(1, 3), (0, v), (0, l), (0, (zTo ia v (15 + l))), (0, e), (0, (ia 4 e)), (0, k)] [] (zH ia w) (.inl (some (0, r)), zH ia w, 0, 0) := by
  intro n
  induction n with
  | zero =>
    intro k e hN hk0 he0 he1 hz
    exact absurd hN (by omega)
  | succ n ih =>
    intro k e hN hk0 he0 he1 hz
    have hn := I.1
    have q9 := I.to v (15 + l) (by omega) (by omega) (by omega) (by omega)
    have hq2 := I.2.1 e (by omega) (by omega)
    refine Ev.iload fX6_earliestWithAmountOf_20 rfl ?_
    refine Ev.bipush fX6_earliestWithAmountOf_22 rfl ?_
    refine Ev.icmp_ge fX6_earliestWithAmountOf_24 rfl ⟨by omega, by omega⟩ (by decide) (fun h24 => by exfalso; omega) (fun h24 => ?_)
    refine Ev.iload fX6_earliestWithAmountOf_27 rfl ?_
    refine Ev.iconst fX6_earliestWithAmountOf_29 ?_
    refine Ev.icmp_eq fX6_earliestWithAmountOf_30 rfl ⟨by omega, by omega⟩ (by decide) (fun h30 => ?_) (fun h30 => ?_)
    · refine Ev.iload fX6_earliestWithAmountOf_62 rfl ?_
      exact Ev.zI fX6_earliestWithAmountOf_64 rfl (by rw [← hz, show (e + 1).toNat = e.toNat + 1 by omega, zsin_s, if_neg (by omega)])
    · have q1 := I.to (ia 4 e) (15 + l) (by omega) (by omega) (by omega) (by omega)
      refine Ev.aload_n_1 fX6_earliestWithAmountOf_33 rfl ?_
      refine Ev.iload fX6_earliestWithAmountOf_34 rfl ?_
      refine Ev.iload_n fX6_earliestWithAmountOf_36 rfl ?_
      refine Ev.cVi 3 [(0, (ia 4 e)), (0, l)] [] fX6_earliestWithAmountOf_37 lkX6_earliestWithAmountOf_69 6 TX6 5 rfl rfl rfl (eX6_amountOn I ⟨by omega, by omega⟩ ⟨by omega, by omega⟩) ?_
      refine Ev.iload_n fX6_earliestWithAmountOf_40 rfl ?_
      refine Ev.icmp_ne fX6_earliestWithAmountOf_41 rfl ⟨by omega, by omega⟩ ⟨by omega, by omega⟩ (fun h41 => ?_) (fun h41 => ?_)
      · refine Ev.iload fX6_earliestWithAmountOf_62 rfl ?_
        exact Ev.zI fX6_earliestWithAmountOf_64 rfl (by rw [← hz, show (e + 1).toNat = e.toNat + 1 by omega, zsin_s, if_neg (by omega)])
      · refine Ev.iload fX6_earliestWithAmountOf_44 rfl ?_
        refine Ev.sistore [(1, 3), (0, v), (0, l), (0, (zTo ia v (15 + l))), (0, (ia 4 e)), (0, (ia 4 e)), (0, k)] fX6_earliestWithAmountOf_46 rfl rfl ?_
        refine Ev.aload_n_1 fX6_earliestWithAmountOf_48 rfl ?_
        refine Ev.iload fX6_earliestWithAmountOf_49 rfl ?_
        refine Ev.cVi 3 [(0, (ia 4 e))] [] fX6_earliestWithAmountOf_51 lkX6_earliestWithAmountOf_72 6 TX6 5 rfl rfl rfl (eX6_parentOf I ⟨by omega, by omega⟩) ?_
        refine Ev.sistore [(1, 3), (0, v), (0, l), (0, (zTo ia v (15 + l))), (0, (ia 4 e)), (0, (ia 4 (ia 4 e))), (0, k)] fX6_earliestWithAmountOf_54 rfl rfl ?_
        refine Ev.siinc [(1, 3), (0, v), (0, l), (0, (zTo ia v (15 + l))), (0, (ia 4 e)), (0, (ia 4 (ia 4 e))), (0, (k + 1))] fX6_earliestWithAmountOf_56 rfl rfl rfl ?_
        refine Ev.goto fX6_earliestWithAmountOf_59 rfl ?_
        have hq3 := I.2.1 (ia 4 e) (by omega) (by omega)
        exact ih (k + 1) (ia 4 e) (by omega) (by omega) (by omega) (by omega) (by rw [← hz, show (e + 1).toNat = e.toNat + 1 by omega, zsin_s, if_pos ⟨by omega, by omega⟩]; exact zsin_fuel I.par (by omega) (by omega) (by omega) (by omega))
theorem eX6_earliestWithAmountOf {G : zG} {ia : Nat → Int → Int} {w : (Nat → Int → Int) × (Nat → Int → Int)} {v l r : Int} (I : zCI ia) (hv : 0 ≤ v ∧ v < ia 3 0) (hl : 0 ≤ l ∧ l < 16) (hr : zsin (ia 4) (fun j => zTo ia j (15 + l)) (zTo ia v (15 + l)) (v + 1).toNat v = r) : Ev G mX6_earliestWithAmountOf 0 [(1, 3), (0, v), (0, l), (9, 0), (9, 0), (9, 0), (9, 0)] [] (zH ia w) (.inl (some (0, r)), zH ia w, 0, 0) := by
  have hn := I.1
  have q9 := I.to v (15 + l) (by omega) (by omega) (by omega) (by omega)
  refine Ev.aload_n_1 fX6_earliestWithAmountOf_0 rfl ?_
  refine Ev.iload_n fX6_earliestWithAmountOf_1 rfl ?_
  refine Ev.iload_n fX6_earliestWithAmountOf_2 rfl ?_
  refine Ev.cVi 3 [(0, v), (0, l)] [] fX6_earliestWithAmountOf_3 lkX6_earliestWithAmountOf_69 6 TX6 5 rfl rfl rfl (eX6_amountOn I ⟨by omega, by omega⟩ ⟨by omega, by omega⟩) ?_
  refine Ev.sistore_n [(1, 3), (0, v), (0, l), (0, (zTo ia v (15 + l))), (9, 0), (9, 0), (9, 0)] fX6_earliestWithAmountOf_6 rfl rfl ?_
  refine Ev.iload_n fX6_earliestWithAmountOf_7 rfl ?_
  refine Ev.sistore [(1, 3), (0, v), (0, l), (0, (zTo ia v (15 + l))), (0, v), (9, 0), (9, 0)] fX6_earliestWithAmountOf_8 rfl rfl ?_
  refine Ev.aload_n_1 fX6_earliestWithAmountOf_10 rfl ?_
  refine Ev.iload_n fX6_earliestWithAmountOf_11 rfl ?_
  refine Ev.cVi 3 [(0, v)] [] fX6_earliestWithAmountOf_12 lkX6_earliestWithAmountOf_72 6 TX6 5 rfl rfl rfl (eX6_parentOf I ⟨by omega, by omega⟩) ?_
  refine Ev.sistore [(1, 3), (0, v), (0, l), (0, (zTo ia v (15 + l))), (0, v), (0, (ia 4 v)), (9, 0)] fX6_earliestWithAmountOf_15 rfl rfl ?_
  refine Ev.iconst fX6_earliestWithAmountOf_17 ?_
  refine Ev.sistore [(1, 3), (0, v), (0, l), (0, (zTo ia v (15 + l))), (0, v), (0, (ia 4 v)), (0, 0)] fX6_earliestWithAmountOf_18 rfl rfl ?_
  exact eX6_earliestWithAmountOf_L I hv hl hr 60 0 v (by omega) (by omega) (by omega) (by omega) hr
theorem zcom_fuel {par : Int → Int} {N : Int} (hp : zPar par N) : ∀ {n m : Nat} {a b : Int}, 0 ≤ a → 0 ≤ b → a < N → b < N → a + b < n → a + b < m → (∀ v : Int, 0 < v → v < N → 0 ≤ par v) → zcom par n a b = zcom par m a b := by
  intro n
  induction n with
  | zero =>
    intro m a b h0 h1 h2 h3 h4 h5 h6
    omega
  | succ n ih =>
    intro m a b h0 h1 h2 h3 h4 h5 h6
    cases m with
    | zero => omega
    | succ m =>
      rw [zcom_s, zcom_s]
      by_cases h : a = b
      · rw [if_pos h, if_pos h]
      · rw [if_neg h, if_neg h]
        by_cases g : b < a
        · obtain ⟨g4, g5⟩ := hp a h0 h2
          have g6 := h6 a (by omega) h2
          rw [if_pos g, if_pos g, ih (m := m) (a := par a) (b := b) (by omega) (by omega) (by omega) (by omega) (by omega) (by omega) h6]
        · obtain ⟨g4, g5⟩ := hp b h1 h3
          have g6 := h6 b (by omega) h3
          rw [if_neg g, if_neg g, ih (m := m) (a := a) (b := par b) (by omega) (by omega) (by omega) (by omega) (by omega) (by omega) h6]
theorem eX6_latestCommon_L {G : zG} {ia : Nat → Int → Int} {w : (Nat → Int → Int) × (Nat → Int → Int)} {one other r : Int} (I : zCI ia) (ho : 0 ≤ one ∧ one < ia 3 0) (hp : 0 ≤ other ∧ other < ia 3 0) (hr : zcom (ia 4) (one + other + 1).toNat one other = r) : ∀ (n : Nat) (k a b : Int), (a + b < n) → (0 ≤ k) → (0 ≤ a) → (0 ≤ b) → (a < ia 3 0) → (b < ia 3 0) → (a + b + k ≤ one + other) → (zcom (ia 4) (a + b + 1).toNat a b = r) → Ev G mX6_latestCommon 8 [(1, 3), (0, one), (0, other), (0, a), (0, b), (0, k)] [] (zH ia w) (.inl (some (0, r)), zH ia w, 0, 0) := by
  intro n
  induction n with
  | zero =>
    intro k a b hN hk0 ha0 hb0 ha1 hb1 hab hz
    exact absurd hN (by omega)
  | succ n ih =>
    intro k a b hN hk0 ha0 hb0 ha1 hb1 hab hz
    have hn := I.1
    refine Ev.iload fX6_latestCommon_8 rfl ?_
    refine Ev.bipush fX6_latestCommon_10 rfl ?_
    refine Ev.icmp_ge fX6_latestCommon_12 rfl ⟨by omega, by omega⟩ (by decide) (fun h12 => by exfalso; omega) (fun h12 => ?_)
    refine Ev.iload_n fX6_latestCommon_15 rfl ?_
    refine Ev.iload fX6_latestCommon_16 rfl ?_
    refine Ev.icmp_eq fX6_latestCommon_18 rfl ⟨by omega, by omega⟩ ⟨by omega, by omega⟩ (fun h18 => ?_) (fun h18 => ?_)
    · refine Ev.iload_n fX6_latestCommon_50 rfl ?_
      exact Ev.zI fX6_latestCommon_51 rfl (by rw [← hz, show (a + b + 1).toNat = (a + b).toNat + 1 by omega, zcom_s, if_pos (by omega)])
    · have qa := I.2.1 a (by omega) (by omega)
      have qb := I.2.1 b (by omega) (by omega)
      refine Ev.iload_n fX6_latestCommon_21 rfl ?_
      refine Ev.iload fX6_latestCommon_22 rfl ?_
      refine Ev.icmp_le fX6_latestCommon_24 rfl ⟨by omega, by omega⟩ ⟨by omega, by omega⟩ (fun h24 => ?_) (fun h24 => ?_)
      · refine Ev.aload_n_1 fX6_latestCommon_36 rfl ?_
        refine Ev.iload fX6_latestCommon_37 rfl ?_
        refine Ev.cVi 3 [(0, b)] [] fX6_latestCommon_39 lkX6_latestCommon_72 6 TX6 5 rfl rfl rfl (eX6_parentOf I ⟨by omega, by omega⟩) ?_
        refine Ev.sistore [(1, 3), (0, one), (0, other), (0, a), (0, (ia 4 b)), (0, k)] fX6_latestCommon_42 rfl rfl ?_
        refine Ev.siinc [(1, 3), (0, one), (0, other), (0, a), (0, (ia 4 b)), (0, (k + 1))] fX6_latestCommon_44 rfl rfl rfl ?_
        refine Ev.goto fX6_latestCommon_47 rfl ?_
        exact ih (k + 1) a (ia 4 b) (by omega) (by omega) (by omega) (by omega) (by omega) (by omega) (by omega) (by rw [← hz, show (a + b + 1).toNat = (a + b).toNat + 1 by omega, zcom_s, if_neg (by omega), if_neg (by omega)]; exact zcom_fuel I.par (by omega) (by omega) (by omega) (by omega) (by omega) (by omega) (fun v g1 g2 => (I.2.1 v (by omega) g2).2.2.1 g1))
      · refine Ev.aload_n_1 fX6_latestCommon_27 rfl ?_
        refine Ev.iload_n fX6_latestCommon_28 rfl ?_
        refine Ev.cVi 3 [(0, a)] [] fX6_latestCommon_29 lkX6_latestCommon_72 6 TX6 5 rfl rfl rfl (eX6_parentOf I ⟨by omega, by omega⟩) ?_
        refine Ev.sistore_n [(1, 3), (0, one), (0, other), (0, (ia 4 a)), (0, b), (0, k)] fX6_latestCommon_32 rfl rfl ?_
        refine Ev.goto fX6_latestCommon_33 rfl ?_
        refine Ev.siinc [(1, 3), (0, one), (0, other), (0, (ia 4 a)), (0, b), (0, (k + 1))] fX6_latestCommon_44 rfl rfl rfl ?_
        refine Ev.goto fX6_latestCommon_47 rfl ?_
        exact ih (k + 1) (ia 4 a) b (by omega) (by omega) (by omega) (by omega) (by omega) (by omega) (by omega) (by rw [← hz, show (a + b + 1).toNat = (a + b).toNat + 1 by omega, zcom_s, if_neg (by omega), if_pos (by omega)]; exact zcom_fuel I.par (by omega) (by omega) (by omega) (by omega) (by omega) (by omega) (fun v g1 g2 => (I.2.1 v (by omega) g2).2.2.1 g1))
theorem eX6_latestCommon {G : zG} {ia : Nat → Int → Int} {w : (Nat → Int → Int) × (Nat → Int → Int)} {one other r : Int} (I : zCI ia) (ho : 0 ≤ one ∧ one < ia 3 0) (hp : 0 ≤ other ∧ other < ia 3 0) (hr : zcom (ia 4) (one + other + 1).toNat one other = r) : Ev G mX6_latestCommon 0 [(1, 3), (0, one), (0, other), (9, 0), (9, 0), (9, 0)] [] (zH ia w) (.inl (some (0, r)), zH ia w, 0, 0) := by
  have hn := I.1
  refine Ev.iload_n fX6_latestCommon_0 rfl ?_
  refine Ev.sistore_n [(1, 3), (0, one), (0, other), (0, one), (9, 0), (9, 0)] fX6_latestCommon_1 rfl rfl ?_
  refine Ev.iload_n fX6_latestCommon_2 rfl ?_
  refine Ev.sistore [(1, 3), (0, one), (0, other), (0, one), (0, other), (9, 0)] fX6_latestCommon_3 rfl rfl ?_
  refine Ev.iconst fX6_latestCommon_5 ?_
  refine Ev.sistore [(1, 3), (0, one), (0, other), (0, one), (0, other), (0, 0)] fX6_latestCommon_6 rfl rfl ?_
  exact eX6_latestCommon_L I ho hp hr 200 0 one other (by omega) (by omega) (by omega) (by omega) (by omega) (by omega) (by omega) hr
