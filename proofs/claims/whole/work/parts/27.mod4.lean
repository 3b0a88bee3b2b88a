/-! THE MODEL: PUBLIC READS THAT SEARCH (printed by wip/whole/gen/mod4.py) -/
theorem eX8_had_c1 {G : zG} {ia : Nat → Int → Int} {w : (Nat → Int → Int) × (Nat → Int → Int)} {h y : Int} (hrh : -2147483648 ≤ h ∧ h ≤ 2147483647) (hry : -2147483648 ≤ y ∧ y ≤ 2147483647) (hx : ¬ (0 ≤ h ∧ h < 4)) : Ev G mX8_had 0 [(1, 24), (0, h), (0, y), (9, 0)] [] (zH ia w) (.inl (some (0, 0)), zH (zu ia 24 8 1) w, 0, 0) := by
  refine Ev.aload_n_1 fX8_had_0 rfl ?_
  refine Ev.iload_n fX8_had_1 rfl ?_
  refine Ev.cSi [(0, h)] [(1, 24)] fX8_had_2 lkX8_had_80 rfl (eX8_isHouse_f ⟨by omega, by omega⟩ (by omega)) ?_
  refine Ev.if_ne fX8_had_5 rfl (by decide) (fun h5 => by exfalso; revert h5; decide) (fun h5 => ?_)
  refine Ev.iconst fX8_had_8 ?_
  refine Ev.goto fX8_had_9 rfl ?_
  refine Ev.cVi 24 [(0, 1)] [] fX8_had_27 lkX8_had_117 8 TX8 22 rfl rfl rfl eX8_fails_1 ?_
  refine Ev.if_eq fX8_had_30 rfl (by decide) (fun h30 => by exfalso; revert h30; decide) (fun h30 => ?_)
  refine Ev.iconst fX8_had_33 ?_
  exact Ev.zI fX8_had_34 rfl rfl
theorem eX8_had_c2 {G : zG} {ia : Nat → Int → Int} {w : (Nat → Int → Int) × (Nat → Int → Int)} {h y : Int} (hrh : -2147483648 ≤ h ∧ h ≤ 2147483647) (hry : -2147483648 ≤ y ∧ y ≤ 2147483647) (hc0 : 0 ≤ h ∧ h < 4) (hx : ¬ (0 ≤ y ∧ y ≤ 99)) : Ev G mX8_had 0 [(1, 24), (0, h), (0, y), (9, 0)] [] (zH ia w) (.inl (some (0, 0)), zH (zu ia 24 8 2) w, 0, 0) := by
  refine Ev.aload_n_1 fX8_had_0 rfl ?_
  refine Ev.iload_n fX8_had_1 rfl ?_
  refine Ev.cSi [(0, h)] [(1, 24)] fX8_had_2 lkX8_had_80 rfl (eX8_isHouse_t ⟨by omega, by omega⟩) ?_
  refine Ev.if_ne fX8_had_5 rfl (by decide) (fun h5 => ?_) (fun h5 => by exfalso; revert h5; decide)
  refine Ev.iload_n fX8_had_12 rfl ?_
  refine Ev.iconst fX8_had_13 ?_
  refine Ev.bipush fX8_had_14 rfl ?_
  refine Ev.cSi [(0, y), (0, 0), (0, 99)] [(1, 24)] fX8_had_16 lkX8_had_68 rfl (eX8_in_f ⟨by omega, by omega⟩ ⟨by omega, by omega⟩ ⟨by omega, by omega⟩ (by omega)) ?_
  refine Ev.if_eq fX8_had_19 rfl (by decide) (fun h19 => ?_) (fun h19 => by exfalso; revert h19; decide)
  refine Ev.iconst fX8_had_26 ?_
  refine Ev.cVi 24 [(0, 2)] [] fX8_had_27 lkX8_had_117 8 TX8 22 rfl rfl rfl eX8_fails_2 ?_
  refine Ev.if_eq fX8_had_30 rfl (by decide) (fun h30 => by exfalso; revert h30; decide) (fun h30 => ?_)
  refine Ev.iconst fX8_had_33 ?_
  exact Ev.zI fX8_had_34 rfl rfl
theorem eX8_had_0_L {G : zG} {ia ja : Nat → Int → Int} {w : (Nat → Int → Int) × (Nat → Int → Int)} {h y r : Int} (H : zRw ja (ia 25)) (hc0 : 0 ≤ h ∧ h < 4) (hy : 0 ≤ y ∧ y ≤ 99) (Z : ja 5 0 = 0) (hr : zlby (ja 4) (ja 5) y (ja 8 h + 1).toNat (ja 8 h) = r) : ∀ (n : Nat) (a : Int), (a < n) → (0 ≤ a) → (a < ja 3 0) → (zlby (ja 4) (ja 5) y (a + 1).toNat a = r) → Ev G mX8_had 44 [(1, 24), (0, h), (0, y), (0, a)] [] (zH ia w) (.inl (some (0, r)), zH ia w, 0, 0) := by
  intro n
  induction n with
  | zero =>
    intro a hN ha0 ha1 hz
    exact absurd hN (by omega)
  | succ n ih =>
    intro a hN ha0 ha1 hz
    have I := H.1
    have hn := I.1
    have hL := I.2.2.2.2.1 h (by omega) (by omega)
    refine Ev.aload_n_1 fX8_had_44 rfl ?_
    refine Ev.iload_n fX8_had_45 rfl ?_
    refine Ev.iconst fX8_had_46 ?_
    refine Ev.cVi 24 [(0, a), (0, 1)] [] fX8_had_47 lkX8_had_72 8 TX8 22 rfl rfl rfl (eX8_of_yr H ⟨by omega, by omega⟩) ?_
    have hq := I.2.1 a (by omega) (by omega)
    refine Ev.iload_n fX8_had_50 rfl ?_
    refine Ev.icmp_le fX8_had_51 rfl ⟨by omega, by omega⟩ ⟨by omega, by omega⟩ (fun h51 => ?_) (fun h51 => ?_)
    · refine Ev.iload_n fX8_had_64 rfl ?_
      exact Ev.zI fX8_had_65 rfl (by rw [← hz, show (a + 1).toNat = a.toNat + 1 by omega, zlby_s, if_neg (by omega)])
    · refine Ev.aload_n_1 fX8_had_54 rfl ?_
      refine Ev.iload_n fX8_had_55 rfl ?_
      refine Ev.iconst fX8_had_56 ?_
      refine Ev.cVi 24 [(0, a), (0, 0)] [] fX8_had_57 lkX8_had_72 8 TX8 22 rfl rfl rfl (eX8_of_par H ⟨by omega, by omega⟩) ?_
      refine Ev.sistore_n [(1, 24), (0, h), (0, y), (0, (ja 4 a))] fX8_had_60 rfl rfl ?_
      refine Ev.goto fX8_had_61 rfl ?_
      have ha2 : 0 < a := Int.not_le.mp (fun q => by (have e : a = 0 := (by omega)); subst e; omega)
      have hq2 := I.2.1 a (by omega) (by omega)
      exact ih (ja 4 a) (by omega) (by omega) (by omega) (by rw [← hz, show (a + 1).toNat = a.toNat + 1 by omega, zlby_s, if_pos ⟨by omega, by omega⟩]; exact zlby_fuel I.par (by omega) (by omega) (by omega))
theorem eX8_had_0 {G : zG} {ia ja : Nat → Int → Int} {w : (Nat → Int → Int) × (Nat → Int → Int)} {h y r : Int} (H : zRw ja (ia 25)) (hc0 : 0 ≤ h ∧ h < 4) (hy : 0 ≤ y ∧ y ≤ 99) (Z : ja 5 0 = 0) (hr : zlby (ja 4) (ja 5) y (ja 8 h + 1).toNat (ja 8 h) = r) : Ev G mX8_had 0 [(1, 24), (0, h), (0, y), (9, 0)] [] (zH ia w) (.inl (some (0, r)), zH (zu ia 24 8 0) w, 0, 0) := by
  have I := H.1
  have hn := I.1
  have hL := I.2.2.2.2.1 h (by omega) (by omega)
  refine Ev.aload_n_1 fX8_had_0 rfl ?_
  refine Ev.iload_n fX8_had_1 rfl ?_
  refine Ev.cSi [(0, h)] [(1, 24)] fX8_had_2 lkX8_had_80 rfl (eX8_isHouse_t ⟨by omega, by omega⟩) ?_
  refine Ev.if_ne fX8_had_5 rfl (by decide) (fun h5 => ?_) (fun h5 => by exfalso; revert h5; decide)
  refine Ev.iload_n fX8_had_12 rfl ?_
  refine Ev.iconst fX8_had_13 ?_
  refine Ev.bipush fX8_had_14 rfl ?_
  refine Ev.cSi [(0, y), (0, 0), (0, 99)] [(1, 24)] fX8_had_16 lkX8_had_68 rfl (eX8_in_t ⟨by omega, by omega⟩ ⟨by omega, by omega⟩ ⟨by omega, by omega⟩ ⟨by omega, by omega⟩) ?_
  refine Ev.if_eq fX8_had_19 rfl (by decide) (fun h19 => by exfalso; revert h19; decide) (fun h19 => ?_)
  refine Ev.iconst fX8_had_22 ?_
  refine Ev.goto fX8_had_23 rfl ?_
  refine Ev.cVi 24 [(0, 0)] [] fX8_had_27 lkX8_had_117 8 TX8 22 rfl rfl rfl eX8_fails_0 ?_
  refine Ev.if_eq fX8_had_30 rfl (by decide) (fun h30 => ?_) (fun h30 => by exfalso; revert h30; decide)
  refine Ev.aload_n_1 fX8_had_35 rfl ?_
  refine Ev.gR 24 0 25 fX8_had_36 (flX8_7 rfl) rfl rfl rfl ?_
  refine Ev.iconst fX8_had_39 ?_
  refine Ev.iload_n fX8_had_40 rfl ?_
  refine Ev.iadd fX8_had_41 ?_
  refine Ev.ld 25 1968 (v := (ja 8 h)) fX8_had_42 rfl rfl ⟨by omega, by omega⟩ (H.2.2.2.2.2.1 h (by omega) (by omega)) ?_
  refine Ev.sistore_n [(1, 24), (0, h), (0, y), (0, (ja 8 h))] fX8_had_43 rfl rfl ?_
  exact eX8_had_0_L (ia := (zu ia 24 8 0)) H hc0 hy Z hr 60 (ja 8 h) (by omega) (by omega) (by omega) hr
theorem eX8_since_c1 {G : zG} {ia ja : Nat → Int → Int} {w : (Nat → Int → Int) × (Nat → Int → Int)} {v l : Int} (H : zRw ja (ia 25)) (hrv : -2147483648 ≤ v ∧ v ≤ 2147483647) (hrl : -2147483648 ≤ l ∧ l ≤ 2147483647) (hx : ¬ (0 ≤ v ∧ v < ja 3 0)) : Ev G mX8_since 0 [(1, 24), (0, v), (0, l), (9, 0)] [] (zH ia w) (.inl (some (0, 0)), zH (zu ia 24 8 1) w, 0, 0) := by
  have I := H.1
  have hn := I.1
  refine Ev.aload_n_1 fX8_since_0 rfl ?_
  refine Ev.aload_n_1 fX8_since_1 rfl ?_
  refine Ev.iload_n fX8_since_2 rfl ?_
  refine Ev.cVi 24 [(0, v)] [(1, 24)] fX8_since_3 lkX8_since_104 8 TX8 22 rfl rfl rfl (eX8_isVersion_f H ⟨by omega, by omega⟩ (by omega)) ?_
  refine Ev.if_ne fX8_since_6 rfl (by decide) (fun h6 => by exfalso; revert h6; decide) (fun h6 => ?_)
  refine Ev.iconst fX8_since_9 ?_
  refine Ev.goto fX8_since_10 rfl ?_
  refine Ev.cVi 24 [(0, 1)] [] fX8_since_25 lkX8_since_117 8 TX8 22 rfl rfl rfl eX8_fails_1 ?_
  refine Ev.if_eq fX8_since_28 rfl (by decide) (fun h28 => by exfalso; revert h28; decide) (fun h28 => ?_)
  refine Ev.iconst fX8_since_31 ?_
  exact Ev.zI fX8_since_32 rfl rfl
theorem eX8_since_c2 {G : zG} {ia ja : Nat → Int → Int} {w : (Nat → Int → Int) × (Nat → Int → Int)} {v l : Int} (H : zRw ja (ia 25)) (hrv : -2147483648 ≤ v ∧ v ≤ 2147483647) (hrl : -2147483648 ≤ l ∧ l ≤ 2147483647) (hc0 : 0 ≤ v ∧ v < ja 3 0) (hx : ¬ (0 ≤ l ∧ l < 16)) : Ev G mX8_since 0 [(1, 24), (0, v), (0, l), (9, 0)] [] (zH ia w) (.inl (some (0, 0)), zH (zu ia 24 8 2) w, 0, 0) := by
  have I := H.1
  have hn := I.1
  refine Ev.aload_n_1 fX8_since_0 rfl ?_
  refine Ev.aload_n_1 fX8_since_1 rfl ?_
  refine Ev.iload_n fX8_since_2 rfl ?_
  refine Ev.cVi 24 [(0, v)] [(1, 24)] fX8_since_3 lkX8_since_104 8 TX8 22 rfl rfl rfl (eX8_isVersion_t H ⟨by omega, by omega⟩) ?_
  refine Ev.if_ne fX8_since_6 rfl (by decide) (fun h6 => ?_) (fun h6 => by exfalso; revert h6; decide)
  refine Ev.iload_n fX8_since_13 rfl ?_
  refine Ev.cSi [(0, l)] [(1, 24)] fX8_since_14 lkX8_since_84 rfl (eX8_isLine_f ⟨by omega, by omega⟩ (by omega)) ?_
  refine Ev.if_eq fX8_since_17 rfl (by decide) (fun h17 => ?_) (fun h17 => by exfalso; revert h17; decide)
  refine Ev.iconst fX8_since_24 ?_
  refine Ev.cVi 24 [(0, 2)] [] fX8_since_25 lkX8_since_117 8 TX8 22 rfl rfl rfl eX8_fails_2 ?_
  refine Ev.if_eq fX8_since_28 rfl (by decide) (fun h28 => by exfalso; revert h28; decide) (fun h28 => ?_)
  refine Ev.iconst fX8_since_31 ?_
  exact Ev.zI fX8_since_32 rfl rfl
theorem eX8_since_0_L {G : zG} {ia ja : Nat → Int → Int} {w : (Nat → Int → Int) × (Nat → Int → Int)} {v l r : Int} (H : zRw ja (ia 25)) (hv : 0 ≤ v ∧ v < ja 3 0) (hl : 0 ≤ l ∧ l < 16) (hr : zsin (ja 4) (fun j => zTo ja j (15 + l)) (zTo ja v (15 + l)) (v + 1).toNat v = r) : ∀ (n : Nat) (e : Int), (e < n) → (0 ≤ e) → (e < ja 3 0) → (zsin (ja 4) (fun j => zTo ja j (15 + l)) (zTo ja v (15 + l)) (e + 1).toNat e = r) → Ev G mX8_since 35 [(1, 24), (0, v), (0, l), (0, e)] [] (zH ia w) (.inl (some (0, r)), zH ia w, 0, 0) := by
  intro n
  induction n with
  | zero =>
    intro e hN he0 he1 hz
    exact absurd hN (by omega)
  | succ n ih =>
    intro e hN he0 he1 hz
    have I := H.1
    have hn := I.1
    have hq2 := I.2.1 e (by omega) (by omega)
    refine Ev.aload_n_1 fX8_since_35 rfl ?_
    refine Ev.iload_n fX8_since_36 rfl ?_
    refine Ev.iconst fX8_since_37 ?_
    refine Ev.cVi 24 [(0, e), (0, 0)] [] fX8_since_38 lkX8_since_72 8 TX8 22 rfl rfl rfl (eX8_of_par H ⟨by omega, by omega⟩) ?_
    refine Ev.if_lt fX8_since_41 rfl ⟨by omega, by omega⟩ (fun h41 => ?_) (fun h41 => ?_)
    · refine Ev.iload_n fX8_since_74 rfl ?_
      exact Ev.zI fX8_since_75 rfl (by rw [← hz, show (e + 1).toNat = e.toNat + 1 by omega, zsin_s, if_neg (by omega)])
    · refine Ev.aload_n_1 fX8_since_44 rfl ?_
      refine Ev.aload_n_1 fX8_since_45 rfl ?_
      refine Ev.iload_n fX8_since_46 rfl ?_
      refine Ev.iconst fX8_since_47 ?_
      refine Ev.cVi 24 [(0, e), (0, 0)] [(1, 24)] fX8_since_48 lkX8_since_72 8 TX8 22 rfl rfl rfl (eX8_of_par H ⟨by omega, by omega⟩) ?_
      refine Ev.iload_n fX8_since_51 rfl ?_
      refine Ev.cVi 24 [(0, (ja 4 e)), (0, l)] [] fX8_since_52 lkX8_since_90 8 TX8 22 rfl rfl rfl (eX8_amountOf H ⟨by omega, by omega⟩ ⟨by omega, by omega⟩) ?_
      refine Ev.aload_n_1 fX8_since_55 rfl ?_
      refine Ev.iload_n fX8_since_56 rfl ?_
      refine Ev.iload_n fX8_since_57 rfl ?_
      refine Ev.cVi 24 [(0, v), (0, l)] [(0, (zTo ja (ja 4 e) (15 + l)))] fX8_since_58 lkX8_since_90 8 TX8 22 rfl rfl rfl (eX8_amountOf H ⟨by omega, by omega⟩ ⟨by omega, by omega⟩) ?_
      have q1 := I.to (ja 4 e) (15 + l) (by omega) (by omega) (by omega) (by omega)
      have q2 := I.to v (15 + l) (by omega) (by omega) (by omega) (by omega)
      refine Ev.icmp_ne fX8_since_61 rfl ⟨by omega, by omega⟩ ⟨by omega, by omega⟩ (fun h61 => ?_) (fun h61 => ?_)
      · refine Ev.iload_n fX8_since_74 rfl ?_
        exact Ev.zI fX8_since_75 rfl (by rw [← hz, show (e + 1).toNat = e.toNat + 1 by omega, zsin_s, if_neg (by omega)])
      · refine Ev.aload_n_1 fX8_since_64 rfl ?_
        refine Ev.iload_n fX8_since_65 rfl ?_
        refine Ev.iconst fX8_since_66 ?_
        refine Ev.cVi 24 [(0, e), (0, 0)] [] fX8_since_67 lkX8_since_72 8 TX8 22 rfl rfl rfl (eX8_of_par H ⟨by omega, by omega⟩) ?_
        refine Ev.sistore_n [(1, 24), (0, v), (0, l), (0, (ja 4 e))] fX8_since_70 rfl rfl ?_
        refine Ev.goto fX8_since_71 rfl ?_
        exact ih (ja 4 e) (by omega) (by omega) (by omega) (by rw [← hz, show (e + 1).toNat = e.toNat + 1 by omega, zsin_s, if_pos ⟨by omega, by omega⟩]; exact zsin_fuel I.par (by omega) (by omega) (by omega) (by omega))
theorem eX8_since_0 {G : zG} {ia ja : Nat → Int → Int} {w : (Nat → Int → Int) × (Nat → Int → Int)} {v l r : Int} (H : zRw ja (ia 25)) (hv : 0 ≤ v ∧ v < ja 3 0) (hl : 0 ≤ l ∧ l < 16) (hr : zsin (ja 4) (fun j => zTo ja j (15 + l)) (zTo ja v (15 + l)) (v + 1).toNat v = r) : Ev G mX8_since 0 [(1, 24), (0, v), (0, l), (9, 0)] [] (zH ia w) (.inl (some (0, r)), zH (zu ia 24 8 0) w, 0, 0) := by
  have I := H.1
  have hn := I.1
  refine Ev.aload_n_1 fX8_since_0 rfl ?_
  refine Ev.aload_n_1 fX8_since_1 rfl ?_
  refine Ev.iload_n fX8_since_2 rfl ?_
  refine Ev.cVi 24 [(0, v)] [(1, 24)] fX8_since_3 lkX8_since_104 8 TX8 22 rfl rfl rfl (eX8_isVersion_t H ⟨by omega, by omega⟩) ?_
  refine Ev.if_ne fX8_since_6 rfl (by decide) (fun h6 => ?_) (fun h6 => by exfalso; revert h6; decide)
  refine Ev.iload_n fX8_since_13 rfl ?_
  refine Ev.cSi [(0, l)] [(1, 24)] fX8_since_14 lkX8_since_84 rfl (eX8_isLine_t ⟨by omega, by omega⟩) ?_
  refine Ev.if_eq fX8_since_17 rfl (by decide) (fun h17 => by exfalso; revert h17; decide) (fun h17 => ?_)
  refine Ev.iconst fX8_since_20 ?_
  refine Ev.goto fX8_since_21 rfl ?_
  refine Ev.cVi 24 [(0, 0)] [] fX8_since_25 lkX8_since_117 8 TX8 22 rfl rfl rfl eX8_fails_0 ?_
  refine Ev.if_eq fX8_since_28 rfl (by decide) (fun h28 => ?_) (fun h28 => by exfalso; revert h28; decide)
  refine Ev.iload_n fX8_since_33 rfl ?_
  refine Ev.sistore_n [(1, 24), (0, v), (0, l), (0, v)] fX8_since_34 rfl rfl ?_
  exact eX8_since_0_L (ia := (zu ia 24 8 0)) H hv hl hr 60 v (by omega) (by omega) (by omega) hr
theorem eX8_common_0_L {G : zG} {ia ja : Nat → Int → Int} {w : (Nat → Int → Int) × (Nat → Int → Int)} {one other r : Int} (H : zRw ja (ia 25)) (hx : (0 ≤ one ∧ one < ja 3 0) ∧ 0 ≤ other ∧ other < ja 3 0) (hr : zcom (ja 4) (one + other + 1).toNat one other = r) : ∀ (n : Nat) (a b : Int), (a + b < n) → (0 ≤ a) → (0 ≤ b) → (a < ja 3 0) → (b < ja 3 0) → (zcom (ja 4) (a + b + 1).toNat a b = r) → Ev G mX8_common 16 [(1, 24), (0, one), (0, other), (0, a), (0, b)] [] (zH ia w) (.inl (some (0, r)), zH ia w, 0, 0) := by
  intro n
  induction n with
  | zero =>
    intro a b hN ha0 hb0 ha1 hb1 hz
    exact absurd hN (by omega)
  | succ n ih =>
    intro a b hN ha0 hb0 ha1 hb1 hz
    have I := H.1
    have hn := I.1
    have qa := I.2.1 a (by omega) (by omega)
    have qb := I.2.1 b (by omega) (by omega)
    refine Ev.iload_n fX8_common_16 rfl ?_
    refine Ev.iload fX8_common_17 rfl ?_
    refine Ev.icmp_eq fX8_common_19 rfl ⟨by omega, by omega⟩ ⟨by omega, by omega⟩ (fun h19 => ?_) (fun h19 => ?_)
    · refine Ev.iload_n fX8_common_50 rfl ?_
      exact Ev.zI fX8_common_51 rfl (by rw [← hz, show (a + b + 1).toNat = (a + b).toNat + 1 by omega, zcom_s, if_pos (by omega)])
    · refine Ev.iload_n fX8_common_22 rfl ?_
      refine Ev.iload fX8_common_23 rfl ?_
      refine Ev.icmp_le fX8_common_25 rfl ⟨by omega, by omega⟩ ⟨by omega, by omega⟩ (fun h25 => ?_) (fun h25 => ?_)
      · refine Ev.aload_n_1 fX8_common_38 rfl ?_
        refine Ev.iload fX8_common_39 rfl ?_
        refine Ev.iconst fX8_common_41 ?_
        refine Ev.cVi 24 [(0, b), (0, 0)] [] fX8_common_42 lkX8_common_72 8 TX8 22 rfl rfl rfl (eX8_of_par H ⟨by omega, by omega⟩) ?_
        refine Ev.sistore [(1, 24), (0, one), (0, other), (0, a), (0, (ja 4 b))] fX8_common_45 rfl rfl ?_
        refine Ev.goto fX8_common_47 rfl ?_
        exact ih a (ja 4 b) (by omega) (by omega) (by omega) (by omega) (by omega) (by rw [← hz, show (a + b + 1).toNat = (a + b).toNat + 1 by omega, zcom_s, if_neg (by omega), if_neg (by omega)]; exact zcom_fuel I.par (by omega) (by omega) (by omega) (by omega) (by omega) (by omega) (fun q h1 h2 => (I.2.1 q (by omega) h2).2.2.1 h1))
      · refine Ev.aload_n_1 fX8_common_28 rfl ?_
        refine Ev.iload_n fX8_common_29 rfl ?_
        refine Ev.iconst fX8_common_30 ?_
        refine Ev.cVi 24 [(0, a), (0, 0)] [] fX8_common_31 lkX8_common_72 8 TX8 22 rfl rfl rfl (eX8_of_par H ⟨by omega, by omega⟩) ?_
        refine Ev.sistore_n [(1, 24), (0, one), (0, other), (0, (ja 4 a)), (0, b)] fX8_common_34 rfl rfl ?_
        refine Ev.goto fX8_common_35 rfl ?_
        exact ih (ja 4 a) b (by omega) (by omega) (by omega) (by omega) (by omega) (by rw [← hz, show (a + b + 1).toNat = (a + b).toNat + 1 by omega, zcom_s, if_neg (by omega), if_pos (by omega)]; exact zcom_fuel I.par (by omega) (by omega) (by omega) (by omega) (by omega) (by omega) (fun q h1 h2 => (I.2.1 q (by omega) h2).2.2.1 h1))
theorem eX8_common_0 {G : zG} {ia ja : Nat → Int → Int} {w : (Nat → Int → Int) × (Nat → Int → Int)} {one other r : Int} (H : zRw ja (ia 25)) (hx : (0 ≤ one ∧ one < ja 3 0) ∧ 0 ≤ other ∧ other < ja 3 0) (hr : zcom (ja 4) (one + other + 1).toNat one other = r) : Ev G mX8_common 0 [(1, 24), (0, one), (0, other), (9, 0), (9, 0)] [] (zH ia w) (.inl (some (0, r)), zH (zu ia 24 8 0) w, 0, 0) := by
  have I := H.1
  have hn := I.1
  refine Ev.aload_n_1 fX8_common_0 rfl ?_
  refine Ev.iload_n fX8_common_1 rfl ?_
  refine Ev.iload_n fX8_common_2 rfl ?_
  refine Ev.cVi 24 [(0, one), (0, other)] [] fX8_common_3 lkX8_common_143 8 TX8 22 rfl rfl rfl (eX8_areVersions_t H hx) ?_
  refine Ev.if_ne fX8_common_6 rfl (by decide) (fun h6 => ?_) (fun h6 => by exfalso; revert h6; decide)
  refine Ev.iload_n fX8_common_11 rfl ?_
  refine Ev.sistore_n [(1, 24), (0, one), (0, other), (0, one), (9, 0)] fX8_common_12 rfl rfl ?_
  refine Ev.iload_n fX8_common_13 rfl ?_
  refine Ev.sistore [(1, 24), (0, one), (0, other), (0, one), (0, other)] fX8_common_14 rfl rfl ?_
  exact eX8_common_0_L (ia := (zu ia 24 8 0)) H hx hr 200 one other (by omega) (by omega) (by omega) (by omega) (by omega) hr
def zdwn (par : Int → Int) (one : Int) : Nat → Int → Int
  | 0, v => v
  | n + 1, v => if one < v then zdwn par one n (par v) else v
theorem zdwn_s {par : Int → Int} {one : Int} {n : Nat} {v : Int} : zdwn par one (n + 1) v = if one < v then zdwn par one n (par v) else v := rfl
/-- the latest common one is one of the two just if the way down from the other meets it -/
theorem zcom_dwn {par : Int → Int} {N one : Int} (hp : zPar par N) (h0 : 0 ≤ one) (h1 : one < N) (hr : ∀ v : Int, 0 < v → v < N → 0 ≤ par v) : ∀ (n m : Nat) (b : Int), 0 ≤ b → b < N → one + b < n → b < m → (zcom par n one b = one ↔ zdwn par one m b = one) := by
  intro n
  induction n with
  | zero => intro m b h2 h3 h4 h5; omega
  | succ n ih =>
    intro m b h2 h3 h4 h5
    cases m with
    | zero => omega
    | succ m =>
      rw [zcom_s, zdwn_s]
      by_cases e : one = b
      · rw [if_pos e, if_neg (by omega)]
        exact ⟨fun _ => e.symm, fun _ => rfl⟩
      · rw [if_neg e]
        by_cases l : b < one
        · rw [if_pos l, if_neg (by omega)]
          refine ⟨fun h => ?_, fun h => absurd h.symm e⟩
          exfalso
          have h6 : ∀ (n : Nat) (a c : Int), -1 ≤ a → a < N → -1 ≤ c → c < N → a < one → c < one → zcom par n a c < one := by
            intro n
            induction n with
            | zero => intro a c q1 q2 q3 q4 q5 q6; exact q5
            | succ n ih =>
              intro a c q1 q2 q3 q4 q5 q6
              rw [zcom_s]
              by_cases e2 : a = c
              · rw [if_pos e2]; exact q5
              · rw [if_neg e2]
                by_cases l2 : c < a
                · rw [if_pos l2]
                  have := hp a (by omega) q2
                  exact ih (par a) c (by omega) (by omega) q3 q4 (by omega) q6
                · rw [if_neg l2]
                  have := hp c (by omega) q4
                  exact ih a (par c) q1 q2 (by omega) (by omega) q5 (by omega)
          have h7 := hp one h0 h1
          have := h6 n (par one) b (by omega) (by omega) (by omega) h3 (by omega) l
          omega
        · rw [if_neg l, if_pos (by omega)]
          have h7 := hp b h2 h3
          have h8 := hr b (by omega) h3
          exact ih m (par b) h8 (by omega) (by omega) (by omega)
theorem zdwn_fuel {par : Int → Int} {N one : Int} (hp : zPar par N) (h0 : 0 ≤ one) : ∀ {n m : Nat} {v : Int}, v < N → v < n → v < m → zdwn par one n v = zdwn par one m v := by
  intro n
  induction n with
  | zero =>
    intro m v h1 h2 h3
    cases m with
    | zero => rfl
    | succ m => rw [zdwn_s, if_neg (by omega)]; rfl
  | succ n ih =>
    intro m v h1 h2 h3
    cases m with
    | zero => rw [zdwn_s, if_neg (by omega)]; rfl
    | succ m =>
      rw [zdwn_s, zdwn_s]
      by_cases h : one < v
      · have h4 := hp v (by omega) h1
        rw [if_pos h, if_pos h]
        exact ih (by omega) (by omega) (by omega)
      · rw [if_neg h, if_neg h]
theorem eX8_isOf_0_L {G : zG} {ia ja : Nat → Int → Int} {w : (Nat → Int → Int) × (Nat → Int → Int)} {one other r : Int} (H : zRw ja (ia 25)) (hx : (0 ≤ one ∧ one < ja 3 0) ∧ 0 ≤ other ∧ other < ja 3 0) (hr : zdwn (ja 4) one (other + 1).toNat other = r) : ∀ (n : Nat) (b : Int), (b < n) → (0 ≤ b) → (b < ja 3 0) → (zdwn (ja 4) one (b + 1).toNat b = r) → Ev G mX8_isOf 13 [(1, 24), (0, one), (0, other), (0, b)] [] (zH ia w) (.inl (some (0, (if r = one then 1 else 0))), zH ia w, 0, 0) := by
  intro n
  induction n with
  | zero =>
    intro b hN hb0 hb1 hz
    exact absurd hN (by omega)
  | succ n ih =>
    intro b hN hb0 hb1 hz
    have I := H.1
    have hn := I.1
    have qb := I.2.1 b (by omega) (by omega)
    refine Ev.iload_n fX8_isOf_13 rfl ?_
    refine Ev.iload_n fX8_isOf_14 rfl ?_
    refine Ev.icmp_le fX8_isOf_15 rfl ⟨by omega, by omega⟩ ⟨by omega, by omega⟩ (fun h15 => ?_) (fun h15 => ?_)
    · refine Ev.iload_n fX8_isOf_28 rfl ?_
      refine Ev.iload_n fX8_isOf_29 rfl ?_
      refine Ev.icmp_ne fX8_isOf_30 rfl ⟨by omega, by omega⟩ ⟨by omega, by omega⟩ (fun h30 => ?_) (fun h30 => ?_)
      · refine Ev.iconst fX8_isOf_37 ?_
        have hz2 : b = r := (by rw [← hz, show (b + 1).toNat = b.toNat + 1 by omega, zdwn_s, if_neg (by omega)])
        exact Ev.zZ fX8_isOf_38 rfl (by first | exact Or.inl rfl | exact Or.inr rfl) (by rw [if_neg (by omega)])
      · refine Ev.iconst fX8_isOf_33 ?_
        refine Ev.goto fX8_isOf_34 rfl ?_
        have hz2 : b = r := (by rw [← hz, show (b + 1).toNat = b.toNat + 1 by omega, zdwn_s, if_neg (by omega)])
        exact Ev.zZ fX8_isOf_38 rfl (by first | exact Or.inl rfl | exact Or.inr rfl) (by rw [if_pos (by omega)])
    · refine Ev.aload_n_1 fX8_isOf_18 rfl ?_
      refine Ev.iload_n fX8_isOf_19 rfl ?_
      refine Ev.iconst fX8_isOf_20 ?_
      refine Ev.cVi 24 [(0, b), (0, 0)] [] fX8_isOf_21 lkX8_isOf_72 8 TX8 22 rfl rfl rfl (eX8_of_par H ⟨by omega, by omega⟩) ?_
      refine Ev.sistore_n [(1, 24), (0, one), (0, other), (0, (ja 4 b))] fX8_isOf_24 rfl rfl ?_
      refine Ev.goto fX8_isOf_25 rfl ?_
      exact ih (ja 4 b) (by omega) (by omega) (by omega) (by rw [← hz, show (b + 1).toNat = b.toNat + 1 by omega, zdwn_s, if_pos (by omega), show ((ja 4 b) + 1).toNat = ((ja 4 b) + 1).toNat from rfl]; exact zdwn_fuel I.par hx.1.1 (by omega) (by omega) (by omega))
theorem eX8_isOf_0 {G : zG} {ia ja : Nat → Int → Int} {w : (Nat → Int → Int) × (Nat → Int → Int)} {one other r : Int} (H : zRw ja (ia 25)) (hx : (0 ≤ one ∧ one < ja 3 0) ∧ 0 ≤ other ∧ other < ja 3 0) (hr : zdwn (ja 4) one (other + 1).toNat other = r) : Ev G mX8_isOf 0 [(1, 24), (0, one), (0, other), (9, 0)] [] (zH ia w) (.inl (some (0, (if r = one then 1 else 0))), zH (zu ia 24 8 0) w, 0, 0) := by
  have I := H.1
  have hn := I.1
  refine Ev.aload_n_1 fX8_isOf_0 rfl ?_
  refine Ev.iload_n fX8_isOf_1 rfl ?_
  refine Ev.iload_n fX8_isOf_2 rfl ?_
  refine Ev.cVi 24 [(0, one), (0, other)] [] fX8_isOf_3 lkX8_isOf_143 8 TX8 22 rfl rfl rfl (eX8_areVersions_t H hx) ?_
  refine Ev.if_ne fX8_isOf_6 rfl (by decide) (fun h6 => ?_) (fun h6 => by exfalso; revert h6; decide)
  refine Ev.iload_n fX8_isOf_11 rfl ?_
  refine Ev.sistore_n [(1, 24), (0, one), (0, other), (0, other)] fX8_isOf_12 rfl rfl ?_
  exact eX8_isOf_0_L (ia := (zu ia 24 8 0)) H hx hr 60 other (by omega) (by omega) (by omega) hr
