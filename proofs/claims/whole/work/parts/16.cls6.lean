/-! THE CLASS: THE CLERK (printed by wip/whole/gen/cls6.py) -/
theorem eX7_isHouse_b {G : zG} {ia : Nat → Int → Int} {w : (Nat → Int → Int) × (Nat → Int → Int)} (x : Int) (hr : -2147483648 ≤ x ∧ x ≤ 2147483647) : ∃ b : Int, (b = 0 ∨ b = 1) ∧ (b = 1 ↔ 0 ≤ x ∧ x < 4) ∧ Ev G mX7_isHouse 0 [(0, x)] [] (zH ia w) (.inl (some (0, b)), zH ia w, 0, 0) := by
  by_cases h : 0 ≤ x ∧ x < 4
  · exact ⟨1, Or.inr rfl, ⟨fun _ => h, fun _ => rfl⟩, eX7_isHouse_t h⟩
  · exact ⟨0, Or.inl rfl, ⟨fun e => absurd e (by decide), fun e => absurd e h⟩, eX7_isHouse_f hr h⟩
theorem eX7_isLine_b {G : zG} {ia : Nat → Int → Int} {w : (Nat → Int → Int) × (Nat → Int → Int)} (x : Int) (hr : -2147483648 ≤ x ∧ x ≤ 2147483647) : ∃ b : Int, (b = 0 ∨ b = 1) ∧ (b = 1 ↔ 0 ≤ x ∧ x < 16) ∧ Ev G mX7_isLine 0 [(0, x)] [] (zH ia w) (.inl (some (0, b)), zH ia w, 0, 0) := by
  by_cases h : 0 ≤ x ∧ x < 16
  · exact ⟨1, Or.inr rfl, ⟨fun _ => h, fun _ => rfl⟩, eX7_isLine_t h⟩
  · exact ⟨0, Or.inl rfl, ⟨fun e => absurd e (by decide), fun e => absurd e h⟩, eX7_isLine_f hr h⟩
theorem eX7_isSpan_b {G : zG} {ia : Nat → Int → Int} {w : (Nat → Int → Int) × (Nat → Int → Int)} (x : Int) (hr : -2147483648 ≤ x ∧ x ≤ 2147483647) : ∃ b : Int, (b = 0 ∨ b = 1) ∧ (b = 1 ↔ 0 ≤ x ∧ x < 31) ∧ Ev G mX7_isSpan 0 [(0, x)] [] (zH ia w) (.inl (some (0, b)), zH ia w, 0, 0) := by
  by_cases h : 0 ≤ x ∧ x < 31
  · exact ⟨1, Or.inr rfl, ⟨fun _ => h, fun _ => rfl⟩, eX7_isSpan_t h⟩
  · exact ⟨0, Or.inl rfl, ⟨fun e => absurd e (by decide), fun e => absurd e h⟩, eX7_isSpan_f hr h⟩
theorem eX6_has_b {G : zG} {ia : Nat → Int → Int} {w : (Nat → Int → Int) × (Nat → Int → Int)} (I : zCI ia) (x : Int) (hr : -2147483648 ≤ x ∧ x ≤ 2147483647) : ∃ b : Int, (b = 0 ∨ b = 1) ∧ (b = 1 ↔ 0 ≤ x ∧ x < ia 3 0) ∧ Ev G mX6_has 0 [(1, 3), (0, x)] [] (zH ia w) (.inl (some (0, b)), zH ia w, 0, 0) := by
  by_cases h : 0 ≤ x ∧ x < ia 3 0
  · exact ⟨1, Or.inr rfl, ⟨fun _ => h, fun _ => rfl⟩, eX6_has_t I h⟩
  · exact ⟨0, Or.inl rfl, ⟨fun e => absurd e (by decide), fun e => absurd e h⟩, eX6_has_f I hr h⟩
theorem eX1_enter_1 {G : zG} {ia : Nat → Int → Int} {w : (Nat → Int → Int) × (Nat → Int → Int)} {h line amount : Int} (I : zCI ia) (hrh : -2147483648 ≤ h ∧ h ≤ 2147483647) (hrline : -2147483648 ≤ line ∧ line ≤ 2147483647) (hramount : -2147483648 ≤ amount ∧ amount ≤ 2147483647) (hx : ¬ ((0 ≤ h ∧ h < 4) ∧ (0 ≤ line ∧ line < 16) ∧ 0 ≤ amount ∧ amount ≤ 999)) : Ev G mX1_enter 0 [(1, 1), (0, h), (0, line), (0, amount), (9, 0)] [] (zH ia w) (.inl (some (0, (-1))), zH (zu (zu (zu ia 9 0 1) 9 1 0) 9 2 0) w, 0, 0) := by
  have hn := I.1
  refine Ev.iload_n fX1_enter_0 rfl ?_
  obtain ⟨b11, ga11, gb11, ge11⟩ := eX7_isHouse_b (G := G) (ia := ia) (w := w) h ⟨by omega, by omega⟩
  refine Ev.cSNi [(0, h)] [] fX1_enter_1 lkX1_enter_58 rfl ge11 ?_
  refine Ev.if_eq fX1_enter_4 rfl ⟨by omega, by omega⟩ (fun h4 => ?_) (fun h4 => ?_)
  · refine Ev.aload_n_1 fX1_enter_25 rfl ?_
    refine Ev.gR 1 1 9 fX1_enter_26 (flX1_21 rfl) rfl rfl rfl ?_
    refine Ev.iconst fX1_enter_29 ?_
    refine Ev.iconst fX1_enter_30 ?_
    refine Ev.cVi 9 [(0, 1), (0, 0)] [] fX1_enter_31 lkX1_enter_65 4 TX4 3 rfl rfl rfl eX4_refuse ?_
    exact Ev.zI fX1_enter_34 rfl rfl
  · refine Ev.iload_n fX1_enter_7 rfl ?_
    obtain ⟨b12, ga12, gb12, ge12⟩ := eX7_isLine_b (G := G) (ia := ia) (w := w) line ⟨by omega, by omega⟩
    refine Ev.cSNi [(0, line)] [] fX1_enter_8 lkX1_enter_62 rfl ge12 ?_
    refine Ev.if_eq fX1_enter_11 rfl ⟨by omega, by omega⟩ (fun h11 => ?_) (fun h11 => ?_)
    · refine Ev.aload_n_1 fX1_enter_25 rfl ?_
      refine Ev.gR 1 1 9 fX1_enter_26 (flX1_21 rfl) rfl rfl rfl ?_
      refine Ev.iconst fX1_enter_29 ?_
      refine Ev.iconst fX1_enter_30 ?_
      refine Ev.cVi 9 [(0, 1), (0, 0)] [] fX1_enter_31 lkX1_enter_65 4 TX4 3 rfl rfl rfl eX4_refuse ?_
      exact Ev.zI fX1_enter_34 rfl rfl
    · refine Ev.iload_n fX1_enter_14 rfl ?_
      refine Ev.if_lt fX1_enter_15 rfl ⟨by omega, by omega⟩ (fun h15 => ?_) (fun h15 => ?_)
      · refine Ev.aload_n_1 fX1_enter_25 rfl ?_
        refine Ev.gR 1 1 9 fX1_enter_26 (flX1_21 rfl) rfl rfl rfl ?_
        refine Ev.iconst fX1_enter_29 ?_
        refine Ev.iconst fX1_enter_30 ?_
        refine Ev.cVi 9 [(0, 1), (0, 0)] [] fX1_enter_31 lkX1_enter_65 4 TX4 3 rfl rfl rfl eX4_refuse ?_
        exact Ev.zI fX1_enter_34 rfl rfl
      · refine Ev.iload_n fX1_enter_18 rfl ?_
        refine Ev.sipush fX1_enter_19 rfl ?_
        refine Ev.icmp_le fX1_enter_22 rfl ⟨by omega, by omega⟩ (by decide) (fun h22 => by exfalso; omega) (fun h22 => ?_)
        refine Ev.aload_n_1 fX1_enter_25 rfl ?_
        refine Ev.gR 1 1 9 fX1_enter_26 (flX1_21 rfl) rfl rfl rfl ?_
        refine Ev.iconst fX1_enter_29 ?_
        refine Ev.iconst fX1_enter_30 ?_
        refine Ev.cVi 9 [(0, 1), (0, 0)] [] fX1_enter_31 lkX1_enter_65 4 TX4 3 rfl rfl rfl eX4_refuse ?_
        exact Ev.zI fX1_enter_34 rfl rfl
theorem eX1_enter_3 {G : zG} {ia : Nat → Int → Int} {w : (Nat → Int → Int) × (Nat → Int → Int)} {h line amount : Int} (I : zCI ia) (hh : 0 ≤ h ∧ h < 4) (hl : 0 ≤ line ∧ line < 16) (hm : 0 ≤ amount ∧ amount ≤ 999) (hx : zTo ia (ia 8 h) (15 + line) = amount) : Ev G mX1_enter 0 [(1, 1), (0, h), (0, line), (0, amount), (9, 0)] [] (zH ia w) (.inl (some (0, (-1))), zH (zu (zu (zu ia 9 0 3) 9 1 (ia 8 h)) 9 2 0) w, 0, 0) := by
  have hn := I.1
  have hL := I.2.2.2.2.1 h (by omega) (by omega)
  refine Ev.iload_n fX1_enter_0 rfl ?_
  obtain ⟨b13, ga13, gb13, ge13⟩ := eX7_isHouse_b (G := G) (ia := ia) (w := w) h ⟨by omega, by omega⟩
  refine Ev.cSNi [(0, h)] [] fX1_enter_1 lkX1_enter_58 rfl ge13 ?_
  refine Ev.if_eq fX1_enter_4 rfl ⟨by omega, by omega⟩ (fun h4 => by exfalso; omega) (fun h4 => ?_)
  refine Ev.iload_n fX1_enter_7 rfl ?_
  obtain ⟨b14, ga14, gb14, ge14⟩ := eX7_isLine_b (G := G) (ia := ia) (w := w) line ⟨by omega, by omega⟩
  refine Ev.cSNi [(0, line)] [] fX1_enter_8 lkX1_enter_62 rfl ge14 ?_
  refine Ev.if_eq fX1_enter_11 rfl ⟨by omega, by omega⟩ (fun h11 => by exfalso; omega) (fun h11 => ?_)
  refine Ev.iload_n fX1_enter_14 rfl ?_
  refine Ev.if_lt fX1_enter_15 rfl ⟨by omega, by omega⟩ (fun h15 => by exfalso; omega) (fun h15 => ?_)
  refine Ev.iload_n fX1_enter_18 rfl ?_
  refine Ev.sipush fX1_enter_19 rfl ?_
  refine Ev.icmp_le fX1_enter_22 rfl ⟨by omega, by omega⟩ (by decide) (fun h22 => ?_) (fun h22 => by exfalso; omega)
  refine Ev.aload_n_1 fX1_enter_35 rfl ?_
  refine Ev.gR 1 0 2 fX1_enter_36 (flX1_12 rfl) rfl rfl rfl ?_
  refine Ev.iload_n fX1_enter_39 rfl ?_
  refine Ev.cVi 2 [(0, h)] [] fX1_enter_40 lkX1_enter_68 0 TX0 5 rfl rfl rfl (eX0_ledgerOf (r := (ia 8 h)) ⟨by omega, by omega⟩ rfl) ?_
  refine Ev.sistore [(1, 1), (0, h), (0, line), (0, amount), (0, (ia 8 h))] fX1_enter_43 rfl rfl ?_
  refine Ev.aload_n_1 fX1_enter_45 rfl ?_
  refine Ev.gR 1 2 3 fX1_enter_46 (flX1_29 rfl) rfl rfl rfl ?_
  refine Ev.iload fX1_enter_49 rfl ?_
  refine Ev.iload_n fX1_enter_51 rfl ?_
  refine Ev.cVi 3 [(0, (ia 8 h)), (0, line)] [] fX1_enter_52 lkX1_enter_71 6 TX6 5 rfl rfl rfl (eX6_amountOn I ⟨by omega, by omega⟩ ⟨by omega, by omega⟩) ?_
  refine Ev.iload_n fX1_enter_55 rfl ?_
  refine Ev.icmp_ne fX1_enter_56 rfl ⟨by omega, by omega⟩ ⟨by omega, by omega⟩ (fun h56 => by exfalso; omega) (fun h56 => ?_)
  refine Ev.aload_n_1 fX1_enter_59 rfl ?_
  refine Ev.gR 1 1 9 fX1_enter_60 (flX1_21 rfl) rfl rfl rfl ?_
  refine Ev.iconst fX1_enter_63 ?_
  refine Ev.iload fX1_enter_64 rfl ?_
  refine Ev.cVi 9 [(0, 3), (0, (ia 8 h))] [] fX1_enter_66 lkX1_enter_65 4 TX4 3 rfl rfl rfl eX4_refuse ?_
  exact Ev.zI fX1_enter_69 rfl rfl
theorem eX1_enter_2 {G : zG} {ia : Nat → Int → Int} {w : (Nat → Int → Int) × (Nat → Int → Int)} {h line amount : Int} (I : zCI ia) (hh : 0 ≤ h ∧ h < 4) (hl : 0 ≤ line ∧ line < 16) (hm : 0 ≤ amount ∧ amount ≤ 999) (hx : zTo ia (ia 8 h) (15 + line) ≠ amount) (hfu : ia 3 0 = 40) : Ev G mX1_enter 0 [(1, 1), (0, h), (0, line), (0, amount), (9, 0)] [] (zH ia w) (.inl (some (0, (-1))), zH (zu (zu (zu ia 9 0 2) 9 1 0) 9 2 0) w, 0, 0) := by
  have hn := I.1
  have hL := I.2.2.2.2.1 h (by omega) (by omega)
  have hA := I.to (ia 8 h) (15 + line) (by omega) (by omega) (by omega) (by omega)
  refine Ev.iload_n fX1_enter_0 rfl ?_
  obtain ⟨b15, ga15, gb15, ge15⟩ := eX7_isHouse_b (G := G) (ia := ia) (w := w) h ⟨by omega, by omega⟩
  refine Ev.cSNi [(0, h)] [] fX1_enter_1 lkX1_enter_58 rfl ge15 ?_
  refine Ev.if_eq fX1_enter_4 rfl ⟨by omega, by omega⟩ (fun h4 => by exfalso; omega) (fun h4 => ?_)
  refine Ev.iload_n fX1_enter_7 rfl ?_
  obtain ⟨b16, ga16, gb16, ge16⟩ := eX7_isLine_b (G := G) (ia := ia) (w := w) line ⟨by omega, by omega⟩
  refine Ev.cSNi [(0, line)] [] fX1_enter_8 lkX1_enter_62 rfl ge16 ?_
  refine Ev.if_eq fX1_enter_11 rfl ⟨by omega, by omega⟩ (fun h11 => by exfalso; omega) (fun h11 => ?_)
  refine Ev.iload_n fX1_enter_14 rfl ?_
  refine Ev.if_lt fX1_enter_15 rfl ⟨by omega, by omega⟩ (fun h15 => by exfalso; omega) (fun h15 => ?_)
  refine Ev.iload_n fX1_enter_18 rfl ?_
  refine Ev.sipush fX1_enter_19 rfl ?_
  refine Ev.icmp_le fX1_enter_22 rfl ⟨by omega, by omega⟩ (by decide) (fun h22 => ?_) (fun h22 => by exfalso; omega)
  refine Ev.aload_n_1 fX1_enter_35 rfl ?_
  refine Ev.gR 1 0 2 fX1_enter_36 (flX1_12 rfl) rfl rfl rfl ?_
  refine Ev.iload_n fX1_enter_39 rfl ?_
  refine Ev.cVi 2 [(0, h)] [] fX1_enter_40 lkX1_enter_68 0 TX0 5 rfl rfl rfl (eX0_ledgerOf (r := (ia 8 h)) ⟨by omega, by omega⟩ rfl) ?_
  refine Ev.sistore [(1, 1), (0, h), (0, line), (0, amount), (0, (ia 8 h))] fX1_enter_43 rfl rfl ?_
  refine Ev.aload_n_1 fX1_enter_45 rfl ?_
  refine Ev.gR 1 2 3 fX1_enter_46 (flX1_29 rfl) rfl rfl rfl ?_
  refine Ev.iload fX1_enter_49 rfl ?_
  refine Ev.iload_n fX1_enter_51 rfl ?_
  refine Ev.cVi 3 [(0, (ia 8 h)), (0, line)] [] fX1_enter_52 lkX1_enter_71 6 TX6 5 rfl rfl rfl (eX6_amountOn I ⟨by omega, by omega⟩ ⟨by omega, by omega⟩) ?_
  refine Ev.iload_n fX1_enter_55 rfl ?_
  refine Ev.icmp_ne fX1_enter_56 rfl ⟨by omega, by omega⟩ ⟨by omega, by omega⟩ (fun h56 => ?_) (fun h56 => by exfalso; omega)
  refine Ev.aload_n_1 fX1_enter_70 rfl ?_
  refine Ev.gR 1 2 3 fX1_enter_71 (flX1_29 rfl) rfl rfl rfl ?_
  refine Ev.cVi 3 [] [] fX1_enter_74 lkX1_enter_76 6 TX6 5 rfl rfl rfl (eX6_isFull_t I (by omega)) ?_
  refine Ev.if_eq fX1_enter_77 rfl (by decide) (fun h77 => by exfalso; revert h77; decide) (fun h77 => ?_)
  refine Ev.aload_n_1 fX1_enter_80 rfl ?_
  refine Ev.gR 1 1 9 fX1_enter_81 (flX1_21 rfl) rfl rfl rfl ?_
  refine Ev.iconst fX1_enter_84 ?_
  refine Ev.iconst fX1_enter_85 ?_
  refine Ev.cVi 9 [(0, 2), (0, 0)] [] fX1_enter_86 lkX1_enter_65 4 TX4 3 rfl rfl rfl eX4_refuse ?_
  exact Ev.zI fX1_enter_89 rfl rfl
theorem eX1_enter_0 {G : zG} {ia : Nat → Int → Int} {w : (Nat → Int → Int) × (Nat → Int → Int)} {h line amount : Int} (hG : zGo G) (I : zCI ia) (CS : zCS ia) (hh : 0 ≤ h ∧ h < 4) (hl : 0 ≤ line ∧ line < 16) (hm : 0 ≤ amount ∧ amount ≤ 999) (hx : zTo ia (ia 8 h) (15 + line) ≠ amount) (hfu : ia 3 0 < 40) : ∃ ia1 : Nat → Int → Int, zGI ia (fun s => if zlow s ≤ line ∧ line ≤ zhig s then ia 3 0 else ia 8 h) (fun l => if l = line then amount else zTo ia (ia 8 h) (15 + l)) (ia 8 h) (ia 2 2) (-1) ia1 ∧ Ev G mX1_enter 0 [(1, 1), (0, h), (0, line), (0, amount), (9, 0)] [] (zH ia w) (.inl (some (0, (ia 3 0))), zH (zu (zu ia1 8 h (ia 3 0)) 2 3 (ia1 2 3 + 1)) w, 0, 0) := by
  have hn := I.1
  have hL := I.2.2.2.2.1 h (by omega) (by omega)
  have hA := I.to (ia 8 h) (15 + line) (by omega) (by omega) (by omega) (by omega)
  obtain ⟨ia1, J1, E1⟩ := eX6_addWritten (G := G) (w := w) hG I CS hL (by omega) hl hm I.2.2.2.2.2.1
  refine ⟨ia1, J1, ?_⟩
  have I1 := J1.1
  have hN1 := J1.2.1
  refine Ev.iload_n fX1_enter_0 rfl ?_
  obtain ⟨b17, ga17, gb17, ge17⟩ := eX7_isHouse_b (G := G) (ia := ia) (w := w) h ⟨by omega, by omega⟩
  refine Ev.cSNi [(0, h)] [] fX1_enter_1 lkX1_enter_58 rfl ge17 ?_
  refine Ev.if_eq fX1_enter_4 rfl ⟨by omega, by omega⟩ (fun h4 => by exfalso; omega) (fun h4 => ?_)
  refine Ev.iload_n fX1_enter_7 rfl ?_
  obtain ⟨b18, ga18, gb18, ge18⟩ := eX7_isLine_b (G := G) (ia := ia) (w := w) line ⟨by omega, by omega⟩
  refine Ev.cSNi [(0, line)] [] fX1_enter_8 lkX1_enter_62 rfl ge18 ?_
  refine Ev.if_eq fX1_enter_11 rfl ⟨by omega, by omega⟩ (fun h11 => by exfalso; omega) (fun h11 => ?_)
  refine Ev.iload_n fX1_enter_14 rfl ?_
  refine Ev.if_lt fX1_enter_15 rfl ⟨by omega, by omega⟩ (fun h15 => by exfalso; omega) (fun h15 => ?_)
  refine Ev.iload_n fX1_enter_18 rfl ?_
  refine Ev.sipush fX1_enter_19 rfl ?_
  refine Ev.icmp_le fX1_enter_22 rfl ⟨by omega, by omega⟩ (by decide) (fun h22 => ?_) (fun h22 => by exfalso; omega)
  refine Ev.aload_n_1 fX1_enter_35 rfl ?_
  refine Ev.gR 1 0 2 fX1_enter_36 (flX1_12 rfl) rfl rfl rfl ?_
  refine Ev.iload_n fX1_enter_39 rfl ?_
  refine Ev.cVi 2 [(0, h)] [] fX1_enter_40 lkX1_enter_68 0 TX0 5 rfl rfl rfl (eX0_ledgerOf (r := (ia 8 h)) ⟨by omega, by omega⟩ rfl) ?_
  refine Ev.sistore [(1, 1), (0, h), (0, line), (0, amount), (0, (ia 8 h))] fX1_enter_43 rfl rfl ?_
  refine Ev.aload_n_1 fX1_enter_45 rfl ?_
  refine Ev.gR 1 2 3 fX1_enter_46 (flX1_29 rfl) rfl rfl rfl ?_
  refine Ev.iload fX1_enter_49 rfl ?_
  refine Ev.iload_n fX1_enter_51 rfl ?_
  refine Ev.cVi 3 [(0, (ia 8 h)), (0, line)] [] fX1_enter_52 lkX1_enter_71 6 TX6 5 rfl rfl rfl (eX6_amountOn I ⟨by omega, by omega⟩ ⟨by omega, by omega⟩) ?_
  refine Ev.iload_n fX1_enter_55 rfl ?_
  refine Ev.icmp_ne fX1_enter_56 rfl ⟨by omega, by omega⟩ ⟨by omega, by omega⟩ (fun h56 => ?_) (fun h56 => by exfalso; omega)
  refine Ev.aload_n_1 fX1_enter_70 rfl ?_
  refine Ev.gR 1 2 3 fX1_enter_71 (flX1_29 rfl) rfl rfl rfl ?_
  refine Ev.cVi 3 [] [] fX1_enter_74 lkX1_enter_76 6 TX6 5 rfl rfl rfl (eX6_isFull_f I (by omega)) ?_
  refine Ev.if_eq fX1_enter_77 rfl (by decide) (fun h77 => ?_) (fun h77 => by exfalso; revert h77; decide)
  refine Ev.aload_n_1 fX1_enter_90 rfl ?_
  refine Ev.gR 1 0 2 fX1_enter_91 (flX1_12 rfl) rfl rfl rfl ?_
  refine Ev.iload_n fX1_enter_94 rfl ?_
  refine Ev.aload_n_1 fX1_enter_95 rfl ?_
  refine Ev.gR 1 2 3 fX1_enter_96 (flX1_29 rfl) rfl rfl rfl ?_
  refine Ev.iload fX1_enter_99 rfl ?_
  refine Ev.aload_n_1 fX1_enter_101 rfl ?_
  refine Ev.gR 1 0 2 fX1_enter_102 (flX1_12 rfl) rfl rfl rfl ?_
  refine Ev.gI 2 2 (v := (ia 2 2)) fX1_enter_105 (flX1_80 rfl) rfl rfl rfl ?_
  refine Ev.iload_n fX1_enter_108 rfl ?_
  refine Ev.iload_n fX1_enter_109 rfl ?_
  refine Ev.cVi 3 [(0, (ia 8 h)), (0, (ia 2 2)), (0, line), (0, amount)] [(0, h), (1, 2)] fX1_enter_110 lkX1_enter_84 6 TX6 5 rfl rfl rfl E1 ?_
  refine Ev.cVv 2 [(0, h), (0, (ia 3 0))] [] fX1_enter_113 lkX1_enter_87 0 TX0 5 rfl rfl rfl (eX0_giveLedger I1 ⟨by omega, by omega⟩ ⟨by omega, by omega⟩) ?_
  refine Ev.aload_n_1 fX1_enter_116 rfl ?_
  refine Ev.gR 1 0 2 fX1_enter_117 (flX1_12 rfl) rfl rfl rfl ?_
  refine Ev.dup fX1_enter_120 rfl ?_
  refine Ev.gI 2 3 (v := (ia1 2 3)) fX1_enter_121 (flX1_91 rfl) rfl rfl rfl ?_
  refine Ev.iconst fX1_enter_124 ?_
  refine Ev.iadd fX1_enter_125 ?_
  refine Ev.pI 2 3 fX1_enter_126 (flX1_91 rfl) rfl rfl trivial ?_
  refine Ev.aload_n_1 fX1_enter_129 rfl ?_
  refine Ev.gR 1 0 2 fX1_enter_130 (flX1_12 rfl) rfl rfl rfl ?_
  refine Ev.iload_n fX1_enter_133 rfl ?_
  refine Ev.cVi 2 [(0, h)] [] fX1_enter_134 lkX1_enter_68 0 TX0 5 rfl rfl rfl (eX0_ledgerOf (r := (ia 3 0)) ⟨by omega, by omega⟩ (by first | rfl | (simp [zu]))) ?_
  exact Ev.zI fX1_enter_137 rfl rfl
theorem eX1_copyLines_1 {G : zG} {ia : Nat → Int → Int} {w : (Nat → Int → Int) × (Nat → Int → Int)} {h v first last : Int} (I : zCI ia) (hrh : -2147483648 ≤ h ∧ h ≤ 2147483647) (hrv : -2147483648 ≤ v ∧ v ≤ 2147483647) (hrfirst : -2147483648 ≤ first ∧ first ≤ 2147483647) (hrlast : -2147483648 ≤ last ∧ last ≤ 2147483647) (hx : ¬ ((0 ≤ h ∧ h < 4) ∧ (0 ≤ first ∧ first < 16) ∧ 0 ≤ last ∧ last < 16)) : Ev G mX1_copyLines 0 [(1, 1), (0, h), (0, v), (0, first), (0, last), (9, 0)] [] (zH ia w) (.inl (some (0, (-1))), zH (zu (zu (zu ia 9 0 1) 9 1 0) 9 2 0) w, 0, 0) := by
  have hn := I.1
  refine Ev.iload_n fX1_copyLines_0 rfl ?_
  obtain ⟨b19, ga19, gb19, ge19⟩ := eX7_isHouse_b (G := G) (ia := ia) (w := w) h ⟨by omega, by omega⟩
  refine Ev.cSNi [(0, h)] [] fX1_copyLines_1 lkX1_copyLines_58 rfl ge19 ?_
  refine Ev.if_eq fX1_copyLines_4 rfl ⟨by omega, by omega⟩ (fun h4 => ?_) (fun h4 => ?_)
  · refine Ev.aload_n_1 fX1_copyLines_22 rfl ?_
    refine Ev.gR 1 1 9 fX1_copyLines_23 (flX1_21 rfl) rfl rfl rfl ?_
    refine Ev.iconst fX1_copyLines_26 ?_
    refine Ev.iconst fX1_copyLines_27 ?_
    refine Ev.cVi 9 [(0, 1), (0, 0)] [] fX1_copyLines_28 lkX1_copyLines_65 4 TX4 3 rfl rfl rfl eX4_refuse ?_
    exact Ev.zI fX1_copyLines_31 rfl rfl
  · refine Ev.iload_n fX1_copyLines_7 rfl ?_
    obtain ⟨b20, ga20, gb20, ge20⟩ := eX7_isLine_b (G := G) (ia := ia) (w := w) first ⟨by omega, by omega⟩
    refine Ev.cSNi [(0, first)] [] fX1_copyLines_8 lkX1_copyLines_62 rfl ge20 ?_
    refine Ev.if_eq fX1_copyLines_11 rfl ⟨by omega, by omega⟩ (fun h11 => ?_) (fun h11 => ?_)
    · refine Ev.aload_n_1 fX1_copyLines_22 rfl ?_
      refine Ev.gR 1 1 9 fX1_copyLines_23 (flX1_21 rfl) rfl rfl rfl ?_
      refine Ev.iconst fX1_copyLines_26 ?_
      refine Ev.iconst fX1_copyLines_27 ?_
      refine Ev.cVi 9 [(0, 1), (0, 0)] [] fX1_copyLines_28 lkX1_copyLines_65 4 TX4 3 rfl rfl rfl eX4_refuse ?_
      exact Ev.zI fX1_copyLines_31 rfl rfl
    · refine Ev.iload fX1_copyLines_14 rfl ?_
      obtain ⟨b21, ga21, gb21, ge21⟩ := eX7_isLine_b (G := G) (ia := ia) (w := w) last ⟨by omega, by omega⟩
      refine Ev.cSNi [(0, last)] [] fX1_copyLines_16 lkX1_copyLines_62 rfl ge21 ?_
      refine Ev.if_ne fX1_copyLines_19 rfl ⟨by omega, by omega⟩ (fun h19 => by exfalso; omega) (fun h19 => ?_)
      refine Ev.aload_n_1 fX1_copyLines_22 rfl ?_
      refine Ev.gR 1 1 9 fX1_copyLines_23 (flX1_21 rfl) rfl rfl rfl ?_
      refine Ev.iconst fX1_copyLines_26 ?_
      refine Ev.iconst fX1_copyLines_27 ?_
      refine Ev.cVi 9 [(0, 1), (0, 0)] [] fX1_copyLines_28 lkX1_copyLines_65 4 TX4 3 rfl rfl rfl eX4_refuse ?_
      exact Ev.zI fX1_copyLines_31 rfl rfl
theorem eX1_copyLines_4 {G : zG} {ia : Nat → Int → Int} {w : (Nat → Int → Int) × (Nat → Int → Int)} {h v first last : Int} (I : zCI ia) (hrv : -2147483648 ≤ v ∧ v ≤ 2147483647) (hh : 0 ≤ h ∧ h < 4) (hf : 0 ≤ first ∧ first < 16) (hl : 0 ≤ last ∧ last < 16) (hx : ¬ (0 ≤ v ∧ v < ia 3 0)) : Ev G mX1_copyLines 0 [(1, 1), (0, h), (0, v), (0, first), (0, last), (9, 0)] [] (zH ia w) (.inl (some (0, (-1))), zH (zu (zu (zu ia 9 0 4) 9 1 (ia 3 0)) 9 2 0) w, 0, 0) := by
  have hn := I.1
  refine Ev.iload_n fX1_copyLines_0 rfl ?_
  obtain ⟨b22, ga22, gb22, ge22⟩ := eX7_isHouse_b (G := G) (ia := ia) (w := w) h ⟨by omega, by omega⟩
  refine Ev.cSNi [(0, h)] [] fX1_copyLines_1 lkX1_copyLines_58 rfl ge22 ?_
  refine Ev.if_eq fX1_copyLines_4 rfl ⟨by omega, by omega⟩ (fun h4 => by exfalso; omega) (fun h4 => ?_)
  refine Ev.iload_n fX1_copyLines_7 rfl ?_
  obtain ⟨b23, ga23, gb23, ge23⟩ := eX7_isLine_b (G := G) (ia := ia) (w := w) first ⟨by omega, by omega⟩
  refine Ev.cSNi [(0, first)] [] fX1_copyLines_8 lkX1_copyLines_62 rfl ge23 ?_
  refine Ev.if_eq fX1_copyLines_11 rfl ⟨by omega, by omega⟩ (fun h11 => by exfalso; omega) (fun h11 => ?_)
  refine Ev.iload fX1_copyLines_14 rfl ?_
  obtain ⟨b24, ga24, gb24, ge24⟩ := eX7_isLine_b (G := G) (ia := ia) (w := w) last ⟨by omega, by omega⟩
  refine Ev.cSNi [(0, last)] [] fX1_copyLines_16 lkX1_copyLines_62 rfl ge24 ?_
  refine Ev.if_ne fX1_copyLines_19 rfl ⟨by omega, by omega⟩ (fun h19 => ?_) (fun h19 => by exfalso; omega)
  refine Ev.aload_n_1 fX1_copyLines_32 rfl ?_
  refine Ev.gR 1 2 3 fX1_copyLines_33 (flX1_29 rfl) rfl rfl rfl ?_
  refine Ev.iload_n fX1_copyLines_36 rfl ?_
  obtain ⟨b25, ga25, gb25, ge25⟩ := eX6_has_b (G := G) (w := w) I v ⟨by omega, by omega⟩
  refine Ev.cVi 3 [(0, v)] [] fX1_copyLines_37 lkX1_copyLines_94 6 TX6 5 rfl rfl rfl ge25 ?_
  refine Ev.if_ne fX1_copyLines_40 rfl ⟨by omega, by omega⟩ (fun h40 => by exfalso; omega) (fun h40 => ?_)
  refine Ev.aload_n_1 fX1_copyLines_43 rfl ?_
  refine Ev.gR 1 1 9 fX1_copyLines_44 (flX1_21 rfl) rfl rfl rfl ?_
  refine Ev.iconst fX1_copyLines_47 ?_
  refine Ev.aload_n_1 fX1_copyLines_48 rfl ?_
  refine Ev.gR 1 2 3 fX1_copyLines_49 (flX1_29 rfl) rfl rfl rfl ?_
  refine Ev.cVi 3 [] [(0, 4), (1, 9)] fX1_copyLines_52 lkX1_copyLines_97 6 TX6 5 rfl rfl rfl eX6_size ?_
  refine Ev.cVi 9 [(0, 4), (0, (ia 3 0))] [] fX1_copyLines_55 lkX1_copyLines_65 4 TX4 3 rfl rfl rfl eX4_refuse ?_
  exact Ev.zI fX1_copyLines_58 rfl rfl
theorem eX1_copyLines_5 {G : zG} {ia : Nat → Int → Int} {w : (Nat → Int → Int) × (Nat → Int → Int)} {h v first last : Int} (I : zCI ia) (hh : 0 ≤ h ∧ h < 4) (hf : 0 ≤ first ∧ first < 16) (hl : 0 ≤ last ∧ last < 16) (hv : 0 ≤ v ∧ v < ia 3 0) (hx : last < first) : Ev G mX1_copyLines 0 [(1, 1), (0, h), (0, v), (0, first), (0, last), (9, 0)] [] (zH ia w) (.inl (some (0, (-1))), zH (zu (zu (zu ia 9 0 5) 9 1 (first - last)) 9 2 0) w, 0, 0) := by
  have hn := I.1
  refine Ev.iload_n fX1_copyLines_0 rfl ?_
  obtain ⟨b26, ga26, gb26, ge26⟩ := eX7_isHouse_b (G := G) (ia := ia) (w := w) h ⟨by omega, by omega⟩
  refine Ev.cSNi [(0, h)] [] fX1_copyLines_1 lkX1_copyLines_58 rfl ge26 ?_
  refine Ev.if_eq fX1_copyLines_4 rfl ⟨by omega, by omega⟩ (fun h4 => by exfalso; omega) (fun h4 => ?_)
  refine Ev.iload_n fX1_copyLines_7 rfl ?_
  obtain ⟨b27, ga27, gb27, ge27⟩ := eX7_isLine_b (G := G) (ia := ia) (w := w) first ⟨by omega, by omega⟩
  refine Ev.cSNi [(0, first)] [] fX1_copyLines_8 lkX1_copyLines_62 rfl ge27 ?_
  refine Ev.if_eq fX1_copyLines_11 rfl ⟨by omega, by omega⟩ (fun h11 => by exfalso; omega) (fun h11 => ?_)
  refine Ev.iload fX1_copyLines_14 rfl ?_
  obtain ⟨b28, ga28, gb28, ge28⟩ := eX7_isLine_b (G := G) (ia := ia) (w := w) last ⟨by omega, by omega⟩
  refine Ev.cSNi [(0, last)] [] fX1_copyLines_16 lkX1_copyLines_62 rfl ge28 ?_
  refine Ev.if_ne fX1_copyLines_19 rfl ⟨by omega, by omega⟩ (fun h19 => ?_) (fun h19 => by exfalso; omega)
  refine Ev.aload_n_1 fX1_copyLines_32 rfl ?_
  refine Ev.gR 1 2 3 fX1_copyLines_33 (flX1_29 rfl) rfl rfl rfl ?_
  refine Ev.iload_n fX1_copyLines_36 rfl ?_
  obtain ⟨b29, ga29, gb29, ge29⟩ := eX6_has_b (G := G) (w := w) I v ⟨by omega, by omega⟩
  refine Ev.cVi 3 [(0, v)] [] fX1_copyLines_37 lkX1_copyLines_94 6 TX6 5 rfl rfl rfl ge29 ?_
  refine Ev.if_ne fX1_copyLines_40 rfl ⟨by omega, by omega⟩ (fun h40 => ?_) (fun h40 => by exfalso; omega)
  refine Ev.iload fX1_copyLines_59 rfl ?_
  refine Ev.iload_n fX1_copyLines_61 rfl ?_
  refine Ev.icmp_ge fX1_copyLines_62 rfl ⟨by omega, by omega⟩ ⟨by omega, by omega⟩ (fun h62 => by exfalso; omega) (fun h62 => ?_)
  refine Ev.aload_n_1 fX1_copyLines_65 rfl ?_
  refine Ev.gR 1 1 9 fX1_copyLines_66 (flX1_21 rfl) rfl rfl rfl ?_
  refine Ev.iconst fX1_copyLines_69 ?_
  refine Ev.iload_n fX1_copyLines_70 rfl ?_
  refine Ev.iload fX1_copyLines_71 rfl ?_
  refine Ev.isub fX1_copyLines_73 ?_
  refine Ev.cVi 9 [(0, 5), (0, (first - last))] [] fX1_copyLines_74 lkX1_copyLines_65 4 TX4 3 rfl rfl rfl eX4_refuse ?_
  exact Ev.zI fX1_copyLines_77 rfl rfl
theorem eX1_copyLines_3 {G : zG} {ia : Nat → Int → Int} {w : (Nat → Int → Int) × (Nat → Int → Int)} {h v first last : Int} (I : zCI ia) (hh : 0 ≤ h ∧ h < 4) (hf : 0 ≤ first ∧ first < 16) (hl : 0 ≤ last ∧ last < 16) (hv : 0 ≤ v ∧ v < ia 3 0) (hfl : first ≤ last) (hx : (zsum (fun i => if first ≤ i ∧ i ≤ last ∧ zTo ia (ia 8 h) (15 + i) ≠ zTo ia v (15 + i) then 1 else 0) 16) = 0) : Ev G mX1_copyLines 0 [(1, 1), (0, h), (0, v), (0, first), (0, last), (9, 0)] [] (zH ia w) (.inl (some (0, (-1))), zH (zu (zu (zu ia 9 0 3) 9 1 (ia 8 h)) 9 2 0) w, 0, 0) := by
  have hn := I.1
  have hL := I.2.2.2.2.1 h (by omega) (by omega)
  have hzb := zsum_le (f := (fun i => if first ≤ i ∧ i ≤ last ∧ zTo ia (ia 8 h) (15 + i) ≠ zTo ia v (15 + i) then (1 : Int) else 0)) (m := 0) (M := 1) (k := 16) (by omega) (fun j _ _ => by (try dsimp only); split <;> omega)
  refine Ev.iload_n fX1_copyLines_0 rfl ?_
  obtain ⟨b30, ga30, gb30, ge30⟩ := eX7_isHouse_b (G := G) (ia := ia) (w := w) h ⟨by omega, by omega⟩
  refine Ev.cSNi [(0, h)] [] fX1_copyLines_1 lkX1_copyLines_58 rfl ge30 ?_
  refine Ev.if_eq fX1_copyLines_4 rfl ⟨by omega, by omega⟩ (fun h4 => by exfalso; omega) (fun h4 => ?_)
  refine Ev.iload_n fX1_copyLines_7 rfl ?_
  obtain ⟨b31, ga31, gb31, ge31⟩ := eX7_isLine_b (G := G) (ia := ia) (w := w) first ⟨by omega, by omega⟩
  refine Ev.cSNi [(0, first)] [] fX1_copyLines_8 lkX1_copyLines_62 rfl ge31 ?_
  refine Ev.if_eq fX1_copyLines_11 rfl ⟨by omega, by omega⟩ (fun h11 => by exfalso; omega) (fun h11 => ?_)
  refine Ev.iload fX1_copyLines_14 rfl ?_
  obtain ⟨b32, ga32, gb32, ge32⟩ := eX7_isLine_b (G := G) (ia := ia) (w := w) last ⟨by omega, by omega⟩
  refine Ev.cSNi [(0, last)] [] fX1_copyLines_16 lkX1_copyLines_62 rfl ge32 ?_
  refine Ev.if_ne fX1_copyLines_19 rfl ⟨by omega, by omega⟩ (fun h19 => ?_) (fun h19 => by exfalso; omega)
  refine Ev.aload_n_1 fX1_copyLines_32 rfl ?_
  refine Ev.gR 1 2 3 fX1_copyLines_33 (flX1_29 rfl) rfl rfl rfl ?_
  refine Ev.iload_n fX1_copyLines_36 rfl ?_
  obtain ⟨b33, ga33, gb33, ge33⟩ := eX6_has_b (G := G) (w := w) I v ⟨by omega, by omega⟩
  refine Ev.cVi 3 [(0, v)] [] fX1_copyLines_37 lkX1_copyLines_94 6 TX6 5 rfl rfl rfl ge33 ?_
  refine Ev.if_ne fX1_copyLines_40 rfl ⟨by omega, by omega⟩ (fun h40 => ?_) (fun h40 => by exfalso; omega)
  refine Ev.iload fX1_copyLines_59 rfl ?_
  refine Ev.iload_n fX1_copyLines_61 rfl ?_
  refine Ev.icmp_ge fX1_copyLines_62 rfl ⟨by omega, by omega⟩ ⟨by omega, by omega⟩ (fun h62 => ?_) (fun h62 => by exfalso; omega)
  refine Ev.aload_n_1 fX1_copyLines_78 rfl ?_
  refine Ev.gR 1 0 2 fX1_copyLines_79 (flX1_12 rfl) rfl rfl rfl ?_
  refine Ev.iload_n fX1_copyLines_82 rfl ?_
  refine Ev.cVi 2 [(0, h)] [] fX1_copyLines_83 lkX1_copyLines_68 0 TX0 5 rfl rfl rfl (eX0_ledgerOf (r := (ia 8 h)) ⟨by omega, by omega⟩ rfl) ?_
  refine Ev.sistore [(1, 1), (0, h), (0, v), (0, first), (0, last), (0, (ia 8 h))] fX1_copyLines_86 rfl rfl ?_
  refine Ev.aload_n_1 fX1_copyLines_88 rfl ?_
  refine Ev.gR 1 2 3 fX1_copyLines_89 (flX1_29 rfl) rfl rfl rfl ?_
  refine Ev.iload fX1_copyLines_92 rfl ?_
  refine Ev.iload_n fX1_copyLines_94 rfl ?_
  refine Ev.iload_n fX1_copyLines_95 rfl ?_
  refine Ev.iload fX1_copyLines_96 rfl ?_
  refine Ev.cVi 3 [(0, (ia 8 h)), (0, v), (0, first), (0, last)] [] fX1_copyLines_98 lkX1_copyLines_101 6 TX6 5 rfl rfl rfl (eX6_linesApart I ⟨by omega, by omega⟩ ⟨by omega, by omega⟩ ⟨by omega, by omega⟩ ⟨by omega, by omega⟩) ?_
  refine Ev.if_ne fX1_copyLines_101 rfl ⟨by omega, by omega⟩ (fun h101 => by exfalso; omega) (fun h101 => ?_)
  refine Ev.aload_n_1 fX1_copyLines_104 rfl ?_
  refine Ev.gR 1 1 9 fX1_copyLines_105 (flX1_21 rfl) rfl rfl rfl ?_
  refine Ev.iconst fX1_copyLines_108 ?_
  refine Ev.iload fX1_copyLines_109 rfl ?_
  refine Ev.cVi 9 [(0, 3), (0, (ia 8 h))] [] fX1_copyLines_111 lkX1_copyLines_65 4 TX4 3 rfl rfl rfl eX4_refuse ?_
  exact Ev.zI fX1_copyLines_114 rfl rfl
theorem eX1_copyLines_2 {G : zG} {ia : Nat → Int → Int} {w : (Nat → Int → Int) × (Nat → Int → Int)} {h v first last : Int} (I : zCI ia) (hh : 0 ≤ h ∧ h < 4) (hf : 0 ≤ first ∧ first < 16) (hl : 0 ≤ last ∧ last < 16) (hv : 0 ≤ v ∧ v < ia 3 0) (hfl : first ≤ last) (hx : (zsum (fun i => if first ≤ i ∧ i ≤ last ∧ zTo ia (ia 8 h) (15 + i) ≠ zTo ia v (15 + i) then 1 else 0) 16) ≠ 0) (hfu : ia 3 0 = 40) : Ev G mX1_copyLines 0 [(1, 1), (0, h), (0, v), (0, first), (0, last), (9, 0)] [] (zH ia w) (.inl (some (0, (-1))), zH (zu (zu (zu ia 9 0 2) 9 1 0) 9 2 0) w, 0, 0) := by
  have hn := I.1
  have hL := I.2.2.2.2.1 h (by omega) (by omega)
  have hzb := zsum_le (f := (fun i => if first ≤ i ∧ i ≤ last ∧ zTo ia (ia 8 h) (15 + i) ≠ zTo ia v (15 + i) then (1 : Int) else 0)) (m := 0) (M := 1) (k := 16) (by omega) (fun j _ _ => by (try dsimp only); split <;> omega)
  refine Ev.iload_n fX1_copyLines_0 rfl ?_
  obtain ⟨b34, ga34, gb34, ge34⟩ := eX7_isHouse_b (G := G) (ia := ia) (w := w) h ⟨by omega, by omega⟩
  refine Ev.cSNi [(0, h)] [] fX1_copyLines_1 lkX1_copyLines_58 rfl ge34 ?_
  refine Ev.if_eq fX1_copyLines_4 rfl ⟨by omega, by omega⟩ (fun h4 => by exfalso; omega) (fun h4 => ?_)
  refine Ev.iload_n fX1_copyLines_7 rfl ?_
  obtain ⟨b35, ga35, gb35, ge35⟩ := eX7_isLine_b (G := G) (ia := ia) (w := w) first ⟨by omega, by omega⟩
  refine Ev.cSNi [(0, first)] [] fX1_copyLines_8 lkX1_copyLines_62 rfl ge35 ?_
  refine Ev.if_eq fX1_copyLines_11 rfl ⟨by omega, by omega⟩ (fun h11 => by exfalso; omega) (fun h11 => ?_)
  refine Ev.iload fX1_copyLines_14 rfl ?_
  obtain ⟨b36, ga36, gb36, ge36⟩ := eX7_isLine_b (G := G) (ia := ia) (w := w) last ⟨by omega, by omega⟩
  refine Ev.cSNi [(0, last)] [] fX1_copyLines_16 lkX1_copyLines_62 rfl ge36 ?_
  refine Ev.if_ne fX1_copyLines_19 rfl ⟨by omega, by omega⟩ (fun h19 => ?_) (fun h19 => by exfalso; omega)
  refine Ev.aload_n_1 fX1_copyLines_32 rfl ?_
  refine Ev.gR 1 2 3 fX1_copyLines_33 (flX1_29 rfl) rfl rfl rfl ?_
  refine Ev.iload_n fX1_copyLines_36 rfl ?_
  obtain ⟨b37, ga37, gb37, ge37⟩ := eX6_has_b (G := G) (w := w) I v ⟨by omega, by omega⟩
  refine Ev.cVi 3 [(0, v)] [] fX1_copyLines_37 lkX1_copyLines_94 6 TX6 5 rfl rfl rfl ge37 ?_
  refine Ev.if_ne fX1_copyLines_40 rfl ⟨by omega, by omega⟩ (fun h40 => ?_) (fun h40 => by exfalso; omega)
  refine Ev.iload fX1_copyLines_59 rfl ?_
  refine Ev.iload_n fX1_copyLines_61 rfl ?_
  refine Ev.icmp_ge fX1_copyLines_62 rfl ⟨by omega, by omega⟩ ⟨by omega, by omega⟩ (fun h62 => ?_) (fun h62 => by exfalso; omega)
  refine Ev.aload_n_1 fX1_copyLines_78 rfl ?_
  refine Ev.gR 1 0 2 fX1_copyLines_79 (flX1_12 rfl) rfl rfl rfl ?_
  refine Ev.iload_n fX1_copyLines_82 rfl ?_
  refine Ev.cVi 2 [(0, h)] [] fX1_copyLines_83 lkX1_copyLines_68 0 TX0 5 rfl rfl rfl (eX0_ledgerOf (r := (ia 8 h)) ⟨by omega, by omega⟩ rfl) ?_
  refine Ev.sistore [(1, 1), (0, h), (0, v), (0, first), (0, last), (0, (ia 8 h))] fX1_copyLines_86 rfl rfl ?_
  refine Ev.aload_n_1 fX1_copyLines_88 rfl ?_
  refine Ev.gR 1 2 3 fX1_copyLines_89 (flX1_29 rfl) rfl rfl rfl ?_
  refine Ev.iload fX1_copyLines_92 rfl ?_
  refine Ev.iload_n fX1_copyLines_94 rfl ?_
  refine Ev.iload_n fX1_copyLines_95 rfl ?_
  refine Ev.iload fX1_copyLines_96 rfl ?_
  refine Ev.cVi 3 [(0, (ia 8 h)), (0, v), (0, first), (0, last)] [] fX1_copyLines_98 lkX1_copyLines_101 6 TX6 5 rfl rfl rfl (eX6_linesApart I ⟨by omega, by omega⟩ ⟨by omega, by omega⟩ ⟨by omega, by omega⟩ ⟨by omega, by omega⟩) ?_
  refine Ev.if_ne fX1_copyLines_101 rfl ⟨by omega, by omega⟩ (fun h101 => ?_) (fun h101 => by exfalso; omega)
  refine Ev.aload_n_1 fX1_copyLines_115 rfl ?_
  refine Ev.gR 1 2 3 fX1_copyLines_116 (flX1_29 rfl) rfl rfl rfl ?_
  refine Ev.cVi 3 [] [] fX1_copyLines_119 lkX1_copyLines_76 6 TX6 5 rfl rfl rfl (eX6_isFull_t I (by omega)) ?_
  refine Ev.if_eq fX1_copyLines_122 rfl (by decide) (fun h122 => by exfalso; revert h122; decide) (fun h122 => ?_)
  refine Ev.aload_n_1 fX1_copyLines_125 rfl ?_
  refine Ev.gR 1 1 9 fX1_copyLines_126 (flX1_21 rfl) rfl rfl rfl ?_
  refine Ev.iconst fX1_copyLines_129 ?_
  refine Ev.iconst fX1_copyLines_130 ?_
  refine Ev.cVi 9 [(0, 2), (0, 0)] [] fX1_copyLines_131 lkX1_copyLines_65 4 TX4 3 rfl rfl rfl eX4_refuse ?_
  exact Ev.zI fX1_copyLines_134 rfl rfl
theorem eX1_copyLines_0 {G : zG} {ia : Nat → Int → Int} {w : (Nat → Int → Int) × (Nat → Int → Int)} {h v first last : Int} (hG : zGo G) (I : zCI ia) (CS : zCS ia) (hh : 0 ≤ h ∧ h < 4) (hf : 0 ≤ first ∧ first < 16) (hl : 0 ≤ last ∧ last < 16) (hv : 0 ≤ v ∧ v < ia 3 0) (hfl : first ≤ last) (hx : (zsum (fun i => if first ≤ i ∧ i ≤ last ∧ zTo ia (ia 8 h) (15 + i) ≠ zTo ia v (15 + i) then 1 else 0) 16) ≠ 0) (hfu : ia 3 0 < 40) : ∃ ia1 : Nat → Int → Int, zGI ia (fun s => if first ≤ zlow s ∧ zhig s ≤ last then v else if zlow s ≤ last ∧ first ≤ zhig s then ia 3 0 else ia 8 h) (fun l => if first ≤ l ∧ l ≤ last then zTo ia v (15 + l) else zTo ia (ia 8 h) (15 + l)) (ia 8 h) (ia 2 2) (-1) ia1 ∧ Ev G mX1_copyLines 0 [(1, 1), (0, h), (0, v), (0, first), (0, last), (9, 0)] [] (zH ia w) (.inl (some (0, (ia 3 0))), zH (zu (zu ia1 8 h (ia 3 0)) 2 4 (ia1 2 4 + 1)) w, 0, 0) := by
  have hn := I.1
  have hL := I.2.2.2.2.1 h (by omega) (by omega)
  have hzb := zsum_le (f := (fun i => if first ≤ i ∧ i ≤ last ∧ zTo ia (ia 8 h) (15 + i) ≠ zTo ia v (15 + i) then (1 : Int) else 0)) (m := 0) (M := 1) (k := 16) (by omega) (fun j _ _ => by (try dsimp only); split <;> omega)
  obtain ⟨ia1, J1, E1⟩ := eX6_addGrafted (G := G) (w := w) hG I CS hL (by omega) hv ⟨hf.1, hfl, hl.2⟩ I.2.2.2.2.2.1
  refine ⟨ia1, J1, ?_⟩
  have I1 := J1.1
  have hN1 := J1.2.1
  refine Ev.iload_n fX1_copyLines_0 rfl ?_
  obtain ⟨b38, ga38, gb38, ge38⟩ := eX7_isHouse_b (G := G) (ia := ia) (w := w) h ⟨by omega, by omega⟩
  refine Ev.cSNi [(0, h)] [] fX1_copyLines_1 lkX1_copyLines_58 rfl ge38 ?_
  refine Ev.if_eq fX1_copyLines_4 rfl ⟨by omega, by omega⟩ (fun h4 => by exfalso; omega) (fun h4 => ?_)
  refine Ev.iload_n fX1_copyLines_7 rfl ?_
  obtain ⟨b39, ga39, gb39, ge39⟩ := eX7_isLine_b (G := G) (ia := ia) (w := w) first ⟨by omega, by omega⟩
  refine Ev.cSNi [(0, first)] [] fX1_copyLines_8 lkX1_copyLines_62 rfl ge39 ?_
  refine Ev.if_eq fX1_copyLines_11 rfl ⟨by omega, by omega⟩ (fun h11 => by exfalso; omega) (fun h11 => ?_)
  refine Ev.iload fX1_copyLines_14 rfl ?_
  obtain ⟨b40, ga40, gb40, ge40⟩ := eX7_isLine_b (G := G) (ia := ia) (w := w) last ⟨by omega, by omega⟩
  refine Ev.cSNi [(0, last)] [] fX1_copyLines_16 lkX1_copyLines_62 rfl ge40 ?_
  refine Ev.if_ne fX1_copyLines_19 rfl ⟨by omega, by omega⟩ (fun h19 => ?_) (fun h19 => by exfalso; omega)
  refine Ev.aload_n_1 fX1_copyLines_32 rfl ?_
  refine Ev.gR 1 2 3 fX1_copyLines_33 (flX1_29 rfl) rfl rfl rfl ?_
  refine Ev.iload_n fX1_copyLines_36 rfl ?_
  obtain ⟨b41, ga41, gb41, ge41⟩ := eX6_has_b (G := G) (w := w) I v ⟨by omega, by omega⟩
  refine Ev.cVi 3 [(0, v)] [] fX1_copyLines_37 lkX1_copyLines_94 6 TX6 5 rfl rfl rfl ge41 ?_
  refine Ev.if_ne fX1_copyLines_40 rfl ⟨by omega, by omega⟩ (fun h40 => ?_) (fun h40 => by exfalso; omega)
  refine Ev.iload fX1_copyLines_59 rfl ?_
  refine Ev.iload_n fX1_copyLines_61 rfl ?_
  refine Ev.icmp_ge fX1_copyLines_62 rfl ⟨by omega, by omega⟩ ⟨by omega, by omega⟩ (fun h62 => ?_) (fun h62 => by exfalso; omega)
  refine Ev.aload_n_1 fX1_copyLines_78 rfl ?_
  refine Ev.gR 1 0 2 fX1_copyLines_79 (flX1_12 rfl) rfl rfl rfl ?_
  refine Ev.iload_n fX1_copyLines_82 rfl ?_
  refine Ev.cVi 2 [(0, h)] [] fX1_copyLines_83 lkX1_copyLines_68 0 TX0 5 rfl rfl rfl (eX0_ledgerOf (r := (ia 8 h)) ⟨by omega, by omega⟩ rfl) ?_
  refine Ev.sistore [(1, 1), (0, h), (0, v), (0, first), (0, last), (0, (ia 8 h))] fX1_copyLines_86 rfl rfl ?_
  refine Ev.aload_n_1 fX1_copyLines_88 rfl ?_
  refine Ev.gR 1 2 3 fX1_copyLines_89 (flX1_29 rfl) rfl rfl rfl ?_
  refine Ev.iload fX1_copyLines_92 rfl ?_
  refine Ev.iload_n fX1_copyLines_94 rfl ?_
  refine Ev.iload_n fX1_copyLines_95 rfl ?_
  refine Ev.iload fX1_copyLines_96 rfl ?_
  refine Ev.cVi 3 [(0, (ia 8 h)), (0, v), (0, first), (0, last)] [] fX1_copyLines_98 lkX1_copyLines_101 6 TX6 5 rfl rfl rfl (eX6_linesApart I ⟨by omega, by omega⟩ ⟨by omega, by omega⟩ ⟨by omega, by omega⟩ ⟨by omega, by omega⟩) ?_
  refine Ev.if_ne fX1_copyLines_101 rfl ⟨by omega, by omega⟩ (fun h101 => ?_) (fun h101 => by exfalso; omega)
  refine Ev.aload_n_1 fX1_copyLines_115 rfl ?_
  refine Ev.gR 1 2 3 fX1_copyLines_116 (flX1_29 rfl) rfl rfl rfl ?_
  refine Ev.cVi 3 [] [] fX1_copyLines_119 lkX1_copyLines_76 6 TX6 5 rfl rfl rfl (eX6_isFull_f I (by omega)) ?_
  refine Ev.if_eq fX1_copyLines_122 rfl (by decide) (fun h122 => ?_) (fun h122 => by exfalso; revert h122; decide)
  refine Ev.aload_n_1 fX1_copyLines_135 rfl ?_
  refine Ev.gR 1 0 2 fX1_copyLines_136 (flX1_12 rfl) rfl rfl rfl ?_
  refine Ev.iload_n fX1_copyLines_139 rfl ?_
  refine Ev.aload_n_1 fX1_copyLines_140 rfl ?_
  refine Ev.gR 1 2 3 fX1_copyLines_141 (flX1_29 rfl) rfl rfl rfl ?_
  refine Ev.iload fX1_copyLines_144 rfl ?_
  refine Ev.aload_n_1 fX1_copyLines_146 rfl ?_
  refine Ev.gR 1 0 2 fX1_copyLines_147 (flX1_12 rfl) rfl rfl rfl ?_
  refine Ev.gI 2 2 (v := (ia 2 2)) fX1_copyLines_150 (flX1_80 rfl) rfl rfl rfl ?_
  refine Ev.iload_n fX1_copyLines_153 rfl ?_
  refine Ev.iload_n fX1_copyLines_154 rfl ?_
  refine Ev.iload fX1_copyLines_155 rfl ?_
  refine Ev.cVi 3 [(0, (ia 8 h)), (0, (ia 2 2)), (0, v), (0, first), (0, last)] [(0, h), (1, 2)] fX1_copyLines_157 lkX1_copyLines_104 6 TX6 5 rfl rfl rfl E1 ?_
  refine Ev.cVv 2 [(0, h), (0, (ia 3 0))] [] fX1_copyLines_160 lkX1_copyLines_87 0 TX0 5 rfl rfl rfl (eX0_giveLedger I1 ⟨by omega, by omega⟩ ⟨by omega, by omega⟩) ?_
  refine Ev.aload_n_1 fX1_copyLines_163 rfl ?_
  refine Ev.gR 1 0 2 fX1_copyLines_164 (flX1_12 rfl) rfl rfl rfl ?_
  refine Ev.dup fX1_copyLines_167 rfl ?_
  refine Ev.gI 2 4 (v := (ia1 2 4)) fX1_copyLines_168 (flX1_108 rfl) rfl rfl rfl ?_
  refine Ev.iconst fX1_copyLines_171 ?_
  refine Ev.iadd fX1_copyLines_172 ?_
  refine Ev.pI 2 4 fX1_copyLines_173 (flX1_108 rfl) rfl rfl trivial ?_
  refine Ev.aload_n_1 fX1_copyLines_176 rfl ?_
  refine Ev.gR 1 0 2 fX1_copyLines_177 (flX1_12 rfl) rfl rfl rfl ?_
  refine Ev.iload_n fX1_copyLines_180 rfl ?_
  refine Ev.cVi 2 [(0, h)] [] fX1_copyLines_181 lkX1_copyLines_68 0 TX0 5 rfl rfl rfl (eX0_ledgerOf (r := (ia 3 0)) ⟨by omega, by omega⟩ (by first | rfl | (simp [zu]))) ?_
  exact Ev.zI fX1_copyLines_184 rfl rfl
theorem eX1_takeOver_1 {G : zG} {ia : Nat → Int → Int} {w : (Nat → Int → Int) × (Nat → Int → Int)} {h g : Int} (I : zCI ia) (hrh : -2147483648 ≤ h ∧ h ≤ 2147483647) (hrg : -2147483648 ≤ g ∧ g ≤ 2147483647) (hx : ¬ ((0 ≤ h ∧ h < 4) ∧ 0 ≤ g ∧ g < 4)) : Ev G mX1_takeOver 0 [(1, 1), (0, h), (0, g), (9, 0)] [] (zH ia w) (.inl (some (0, (-1))), zH (zu (zu (zu ia 9 0 1) 9 1 0) 9 2 0) w, 0, 0) := by
  have hn := I.1
  refine Ev.iload_n fX1_takeOver_0 rfl ?_
  obtain ⟨b42, ga42, gb42, ge42⟩ := eX7_isHouse_b (G := G) (ia := ia) (w := w) h ⟨by omega, by omega⟩
  refine Ev.cSNi [(0, h)] [] fX1_takeOver_1 lkX1_takeOver_58 rfl ge42 ?_
  refine Ev.if_eq fX1_takeOver_4 rfl ⟨by omega, by omega⟩ (fun h4 => ?_) (fun h4 => ?_)
  · refine Ev.aload_n_1 fX1_takeOver_14 rfl ?_
    refine Ev.gR 1 1 9 fX1_takeOver_15 (flX1_21 rfl) rfl rfl rfl ?_
    refine Ev.iconst fX1_takeOver_18 ?_
    refine Ev.iconst fX1_takeOver_19 ?_
    refine Ev.cVi 9 [(0, 1), (0, 0)] [] fX1_takeOver_20 lkX1_takeOver_65 4 TX4 3 rfl rfl rfl eX4_refuse ?_
    exact Ev.zI fX1_takeOver_23 rfl rfl
  · refine Ev.iload_n fX1_takeOver_7 rfl ?_
    obtain ⟨b43, ga43, gb43, ge43⟩ := eX7_isHouse_b (G := G) (ia := ia) (w := w) g ⟨by omega, by omega⟩
    refine Ev.cSNi [(0, g)] [] fX1_takeOver_8 lkX1_takeOver_58 rfl ge43 ?_
    refine Ev.if_ne fX1_takeOver_11 rfl ⟨by omega, by omega⟩ (fun h11 => by exfalso; omega) (fun h11 => ?_)
    refine Ev.aload_n_1 fX1_takeOver_14 rfl ?_
    refine Ev.gR 1 1 9 fX1_takeOver_15 (flX1_21 rfl) rfl rfl rfl ?_
    refine Ev.iconst fX1_takeOver_18 ?_
    refine Ev.iconst fX1_takeOver_19 ?_
    refine Ev.cVi 9 [(0, 1), (0, 0)] [] fX1_takeOver_20 lkX1_takeOver_65 4 TX4 3 rfl rfl rfl eX4_refuse ?_
    exact Ev.zI fX1_takeOver_23 rfl rfl
theorem eX1_takeOver_6 {G : zG} {ia : Nat → Int → Int} {w : (Nat → Int → Int) × (Nat → Int → Int)} {h g : Int} (I : zCI ia) (hh : 0 ≤ h ∧ h < 4) (hg : 0 ≤ g ∧ g < 4) (hx : h = g) : Ev G mX1_takeOver 0 [(1, 1), (0, h), (0, g), (9, 0)] [] (zH ia w) (.inl (some (0, (-1))), zH (zu (zu (zu ia 9 0 6) 9 1 h) 9 2 0) w, 0, 0) := by
  have hn := I.1
  refine Ev.iload_n fX1_takeOver_0 rfl ?_
  obtain ⟨b44, ga44, gb44, ge44⟩ := eX7_isHouse_b (G := G) (ia := ia) (w := w) h ⟨by omega, by omega⟩
  refine Ev.cSNi [(0, h)] [] fX1_takeOver_1 lkX1_takeOver_58 rfl ge44 ?_
  refine Ev.if_eq fX1_takeOver_4 rfl ⟨by omega, by omega⟩ (fun h4 => by exfalso; omega) (fun h4 => ?_)
  refine Ev.iload_n fX1_takeOver_7 rfl ?_
  obtain ⟨b45, ga45, gb45, ge45⟩ := eX7_isHouse_b (G := G) (ia := ia) (w := w) g ⟨by omega, by omega⟩
  refine Ev.cSNi [(0, g)] [] fX1_takeOver_8 lkX1_takeOver_58 rfl ge45 ?_
  refine Ev.if_ne fX1_takeOver_11 rfl ⟨by omega, by omega⟩ (fun h11 => ?_) (fun h11 => by exfalso; omega)
  refine Ev.iload_n fX1_takeOver_24 rfl ?_
  refine Ev.iload_n fX1_takeOver_25 rfl ?_
  refine Ev.icmp_ne fX1_takeOver_26 rfl ⟨by omega, by omega⟩ ⟨by omega, by omega⟩ (fun h26 => by exfalso; omega) (fun h26 => ?_)
  refine Ev.aload_n_1 fX1_takeOver_29 rfl ?_
  refine Ev.gR 1 1 9 fX1_takeOver_30 (flX1_21 rfl) rfl rfl rfl ?_
  refine Ev.bipush fX1_takeOver_33 rfl ?_
  refine Ev.iload_n fX1_takeOver_35 rfl ?_
  refine Ev.cVi 9 [(0, 6), (0, h)] [] fX1_takeOver_36 lkX1_takeOver_65 4 TX4 3 rfl rfl rfl eX4_refuse ?_
  exact Ev.zI fX1_takeOver_39 rfl rfl
theorem eX1_takeOver_3 {G : zG} {ia : Nat → Int → Int} {w : (Nat → Int → Int) × (Nat → Int → Int)} {h g : Int} (I : zCI ia) (hh : 0 ≤ h ∧ h < 4) (hg : 0 ≤ g ∧ g < 4) (hne : h ≠ g) (hx : ia 8 h = ia 8 g) : Ev G mX1_takeOver 0 [(1, 1), (0, h), (0, g), (9, 0)] [] (zH ia w) (.inl (some (0, (-1))), zH (zu (zu (zu ia 9 0 3) 9 1 (ia 8 g)) 9 2 0) w, 0, 0) := by
  have hn := I.1
  have hL := I.2.2.2.2.1 h (by omega) (by omega)
  have hL2 := I.2.2.2.2.1 g (by omega) (by omega)
  refine Ev.iload_n fX1_takeOver_0 rfl ?_
  obtain ⟨b46, ga46, gb46, ge46⟩ := eX7_isHouse_b (G := G) (ia := ia) (w := w) h ⟨by omega, by omega⟩
  refine Ev.cSNi [(0, h)] [] fX1_takeOver_1 lkX1_takeOver_58 rfl ge46 ?_
  refine Ev.if_eq fX1_takeOver_4 rfl ⟨by omega, by omega⟩ (fun h4 => by exfalso; omega) (fun h4 => ?_)
  refine Ev.iload_n fX1_takeOver_7 rfl ?_
  obtain ⟨b47, ga47, gb47, ge47⟩ := eX7_isHouse_b (G := G) (ia := ia) (w := w) g ⟨by omega, by omega⟩
  refine Ev.cSNi [(0, g)] [] fX1_takeOver_8 lkX1_takeOver_58 rfl ge47 ?_
  refine Ev.if_ne fX1_takeOver_11 rfl ⟨by omega, by omega⟩ (fun h11 => ?_) (fun h11 => by exfalso; omega)
  refine Ev.iload_n fX1_takeOver_24 rfl ?_
  refine Ev.iload_n fX1_takeOver_25 rfl ?_
  refine Ev.icmp_ne fX1_takeOver_26 rfl ⟨by omega, by omega⟩ ⟨by omega, by omega⟩ (fun h26 => ?_) (fun h26 => by exfalso; omega)
  refine Ev.aload_n_1 fX1_takeOver_40 rfl ?_
  refine Ev.gR 1 0 2 fX1_takeOver_41 (flX1_12 rfl) rfl rfl rfl ?_
  refine Ev.iload_n fX1_takeOver_44 rfl ?_
  refine Ev.cVi 2 [(0, g)] [] fX1_takeOver_45 lkX1_takeOver_68 0 TX0 5 rfl rfl rfl (eX0_ledgerOf (r := (ia 8 g)) ⟨by omega, by omega⟩ rfl) ?_
  refine Ev.sistore_n [(1, 1), (0, h), (0, g), (0, (ia 8 g))] fX1_takeOver_48 rfl rfl ?_
  refine Ev.aload_n_1 fX1_takeOver_49 rfl ?_
  refine Ev.gR 1 0 2 fX1_takeOver_50 (flX1_12 rfl) rfl rfl rfl ?_
  refine Ev.iload_n fX1_takeOver_53 rfl ?_
  refine Ev.cVi 2 [(0, h)] [] fX1_takeOver_54 lkX1_takeOver_68 0 TX0 5 rfl rfl rfl (eX0_ledgerOf (r := (ia 8 h)) ⟨by omega, by omega⟩ rfl) ?_
  refine Ev.iload_n fX1_takeOver_57 rfl ?_
  refine Ev.icmp_ne fX1_takeOver_58 rfl ⟨by omega, by omega⟩ ⟨by omega, by omega⟩ (fun h58 => by exfalso; omega) (fun h58 => ?_)
  refine Ev.aload_n_1 fX1_takeOver_61 rfl ?_
  refine Ev.gR 1 1 9 fX1_takeOver_62 (flX1_21 rfl) rfl rfl rfl ?_
  refine Ev.iconst fX1_takeOver_65 ?_
  refine Ev.iload_n fX1_takeOver_66 rfl ?_
  refine Ev.cVi 9 [(0, 3), (0, (ia 8 g))] [] fX1_takeOver_67 lkX1_takeOver_65 4 TX4 3 rfl rfl rfl eX4_refuse ?_
  exact Ev.zI fX1_takeOver_70 rfl rfl
theorem eX1_takeOver_0 {G : zG} {ia : Nat → Int → Int} {w : (Nat → Int → Int) × (Nat → Int → Int)} {h g : Int} (I : zCI ia) (hh : 0 ≤ h ∧ h < 4) (hg : 0 ≤ g ∧ g < 4) (hne : h ≠ g) (hx : ia 8 h ≠ ia 8 g) : Ev G mX1_takeOver 0 [(1, 1), (0, h), (0, g), (9, 0)] [] (zH ia w) (.inl (some (0, (ia 8 g))), zH (zu ia 8 h (ia 8 g)) w, 0, 0) := by
  have hn := I.1
  have hL := I.2.2.2.2.1 h (by omega) (by omega)
  have hL2 := I.2.2.2.2.1 g (by omega) (by omega)
  refine Ev.iload_n fX1_takeOver_0 rfl ?_
  obtain ⟨b48, ga48, gb48, ge48⟩ := eX7_isHouse_b (G := G) (ia := ia) (w := w) h ⟨by omega, by omega⟩
  refine Ev.cSNi [(0, h)] [] fX1_takeOver_1 lkX1_takeOver_58 rfl ge48 ?_
  refine Ev.if_eq fX1_takeOver_4 rfl ⟨by omega, by omega⟩ (fun h4 => by exfalso; omega) (fun h4 => ?_)
  refine Ev.iload_n fX1_takeOver_7 rfl ?_
  obtain ⟨b49, ga49, gb49, ge49⟩ := eX7_isHouse_b (G := G) (ia := ia) (w := w) g ⟨by omega, by omega⟩
  refine Ev.cSNi [(0, g)] [] fX1_takeOver_8 lkX1_takeOver_58 rfl ge49 ?_
  refine Ev.if_ne fX1_takeOver_11 rfl ⟨by omega, by omega⟩ (fun h11 => ?_) (fun h11 => by exfalso; omega)
  refine Ev.iload_n fX1_takeOver_24 rfl ?_
  refine Ev.iload_n fX1_takeOver_25 rfl ?_
  refine Ev.icmp_ne fX1_takeOver_26 rfl ⟨by omega, by omega⟩ ⟨by omega, by omega⟩ (fun h26 => ?_) (fun h26 => by exfalso; omega)
  refine Ev.aload_n_1 fX1_takeOver_40 rfl ?_
  refine Ev.gR 1 0 2 fX1_takeOver_41 (flX1_12 rfl) rfl rfl rfl ?_
  refine Ev.iload_n fX1_takeOver_44 rfl ?_
  refine Ev.cVi 2 [(0, g)] [] fX1_takeOver_45 lkX1_takeOver_68 0 TX0 5 rfl rfl rfl (eX0_ledgerOf (r := (ia 8 g)) ⟨by omega, by omega⟩ rfl) ?_
  refine Ev.sistore_n [(1, 1), (0, h), (0, g), (0, (ia 8 g))] fX1_takeOver_48 rfl rfl ?_
  refine Ev.aload_n_1 fX1_takeOver_49 rfl ?_
  refine Ev.gR 1 0 2 fX1_takeOver_50 (flX1_12 rfl) rfl rfl rfl ?_
  refine Ev.iload_n fX1_takeOver_53 rfl ?_
  refine Ev.cVi 2 [(0, h)] [] fX1_takeOver_54 lkX1_takeOver_68 0 TX0 5 rfl rfl rfl (eX0_ledgerOf (r := (ia 8 h)) ⟨by omega, by omega⟩ rfl) ?_
  refine Ev.iload_n fX1_takeOver_57 rfl ?_
  refine Ev.icmp_ne fX1_takeOver_58 rfl ⟨by omega, by omega⟩ ⟨by omega, by omega⟩ (fun h58 => ?_) (fun h58 => by exfalso; omega)
  refine Ev.aload_n_1 fX1_takeOver_71 rfl ?_
  refine Ev.gR 1 0 2 fX1_takeOver_72 (flX1_12 rfl) rfl rfl rfl ?_
  refine Ev.iload_n fX1_takeOver_75 rfl ?_
  refine Ev.iload_n fX1_takeOver_76 rfl ?_
  refine Ev.cVv 2 [(0, h), (0, (ia 8 g))] [] fX1_takeOver_77 lkX1_takeOver_87 0 TX0 5 rfl rfl rfl (eX0_giveLedger I ⟨by omega, by omega⟩ ⟨by omega, by omega⟩) ?_
  refine Ev.iload_n fX1_takeOver_80 rfl ?_
  exact Ev.zI fX1_takeOver_81 rfl rfl
theorem eX1_goBack_1 {G : zG} {ia : Nat → Int → Int} {w : (Nat → Int → Int) × (Nat → Int → Int)} {h m : Int} (I : zCI ia) (hrh : -2147483648 ≤ h ∧ h ≤ 2147483647) (hrm : -2147483648 ≤ m ∧ m ≤ 2147483647) (hx : ¬ ((0 ≤ h ∧ h < 4) ∧ 1 ≤ m ∧ m < 40)) : Ev G mX1_goBack 0 [(1, 1), (0, h), (0, m), (9, 0), (9, 0)] [] (zH ia w) (.inl (some (0, (-1))), zH (zu (zu (zu ia 9 0 1) 9 1 0) 9 2 0) w, 0, 0) := by
  have hn := I.1
  refine Ev.iload_n fX1_goBack_0 rfl ?_
  obtain ⟨b50, ga50, gb50, ge50⟩ := eX7_isHouse_b (G := G) (ia := ia) (w := w) h ⟨by omega, by omega⟩
  refine Ev.cSNi [(0, h)] [] fX1_goBack_1 lkX1_goBack_58 rfl ge50 ?_
  refine Ev.if_eq fX1_goBack_4 rfl ⟨by omega, by omega⟩ (fun h4 => ?_) (fun h4 => ?_)
  · refine Ev.aload_n_1 fX1_goBack_18 rfl ?_
    refine Ev.gR 1 1 9 fX1_goBack_19 (flX1_21 rfl) rfl rfl rfl ?_
    refine Ev.iconst fX1_goBack_22 ?_
    refine Ev.iconst fX1_goBack_23 ?_
    refine Ev.cVi 9 [(0, 1), (0, 0)] [] fX1_goBack_24 lkX1_goBack_65 4 TX4 3 rfl rfl rfl eX4_refuse ?_
    exact Ev.zI fX1_goBack_27 rfl rfl
  · refine Ev.iload_n fX1_goBack_7 rfl ?_
    refine Ev.iconst fX1_goBack_8 ?_
    refine Ev.icmp_lt fX1_goBack_9 rfl ⟨by omega, by omega⟩ (by decide) (fun h9 => ?_) (fun h9 => ?_)
    · refine Ev.aload_n_1 fX1_goBack_18 rfl ?_
      refine Ev.gR 1 1 9 fX1_goBack_19 (flX1_21 rfl) rfl rfl rfl ?_
      refine Ev.iconst fX1_goBack_22 ?_
      refine Ev.iconst fX1_goBack_23 ?_
      refine Ev.cVi 9 [(0, 1), (0, 0)] [] fX1_goBack_24 lkX1_goBack_65 4 TX4 3 rfl rfl rfl eX4_refuse ?_
      exact Ev.zI fX1_goBack_27 rfl rfl
    · refine Ev.iload_n fX1_goBack_12 rfl ?_
      refine Ev.bipush fX1_goBack_13 rfl ?_
      refine Ev.icmp_lt fX1_goBack_15 rfl ⟨by omega, by omega⟩ (by decide) (fun h15 => by exfalso; omega) (fun h15 => ?_)
      refine Ev.aload_n_1 fX1_goBack_18 rfl ?_
      refine Ev.gR 1 1 9 fX1_goBack_19 (flX1_21 rfl) rfl rfl rfl ?_
      refine Ev.iconst fX1_goBack_22 ?_
      refine Ev.iconst fX1_goBack_23 ?_
      refine Ev.cVi 9 [(0, 1), (0, 0)] [] fX1_goBack_24 lkX1_goBack_65 4 TX4 3 rfl rfl rfl eX4_refuse ?_
      exact Ev.zI fX1_goBack_27 rfl rfl
theorem eX1_goBack_7 {G : zG} {ia : Nat → Int → Int} {w : (Nat → Int → Int) × (Nat → Int → Int)} {h m : Int} (I : zCI ia) (hh : 0 ≤ h ∧ h < 4) (hm : 1 ≤ m ∧ m < 40) (hx : (zanc (ia 4) 40 (ia 4 (ia 8 h))) < m) : Ev G mX1_goBack 0 [(1, 1), (0, h), (0, m), (9, 0), (9, 0)] [] (zH ia w) (.inl (some (0, (-1))), zH (zu (zu (zu ia 9 0 7) 9 1 (zanc (ia 4) 40 (ia 4 (ia 8 h)))) 9 2 0) w, 0, 0) := by
  have hn := I.1
  have hL := I.2.2.2.2.1 h (by omega) (by omega)
  have hq9 := I.2.1 (ia 8 h) (by omega) (by omega)
  have ha9 := zanc_le I.par 40 (ia 4 (ia 8 h)) (by omega) (by omega)
  refine Ev.iload_n fX1_goBack_0 rfl ?_
  obtain ⟨b51, ga51, gb51, ge51⟩ := eX7_isHouse_b (G := G) (ia := ia) (w := w) h ⟨by omega, by omega⟩
  refine Ev.cSNi [(0, h)] [] fX1_goBack_1 lkX1_goBack_58 rfl ge51 ?_
  refine Ev.if_eq fX1_goBack_4 rfl ⟨by omega, by omega⟩ (fun h4 => by exfalso; omega) (fun h4 => ?_)
  refine Ev.iload_n fX1_goBack_7 rfl ?_
  refine Ev.iconst fX1_goBack_8 ?_
  refine Ev.icmp_lt fX1_goBack_9 rfl ⟨by omega, by omega⟩ (by decide) (fun h9 => by exfalso; omega) (fun h9 => ?_)
  refine Ev.iload_n fX1_goBack_12 rfl ?_
  refine Ev.bipush fX1_goBack_13 rfl ?_
  refine Ev.icmp_lt fX1_goBack_15 rfl ⟨by omega, by omega⟩ (by decide) (fun h15 => ?_) (fun h15 => by exfalso; omega)
  refine Ev.aload_n_1 fX1_goBack_28 rfl ?_
  refine Ev.gR 1 0 2 fX1_goBack_29 (flX1_12 rfl) rfl rfl rfl ?_
  refine Ev.iload_n fX1_goBack_32 rfl ?_
  refine Ev.cVi 2 [(0, h)] [] fX1_goBack_33 lkX1_goBack_68 0 TX0 5 rfl rfl rfl (eX0_ledgerOf (r := (ia 8 h)) ⟨by omega, by omega⟩ rfl) ?_
  refine Ev.sistore_n [(1, 1), (0, h), (0, m), (0, (ia 8 h)), (9, 0)] fX1_goBack_36 rfl rfl ?_
  refine Ev.aload_n_1 fX1_goBack_37 rfl ?_
  refine Ev.gR 1 2 3 fX1_goBack_38 (flX1_29 rfl) rfl rfl rfl ?_
  refine Ev.iload_n fX1_goBack_41 rfl ?_
  refine Ev.cVi 3 [(0, (ia 8 h))] [] fX1_goBack_42 lkX1_goBack_111 6 TX6 5 rfl rfl rfl (eX6_ancestorsOf I ⟨by omega, by omega⟩) ?_
  refine Ev.sistore [(1, 1), (0, h), (0, m), (0, (ia 8 h)), (0, (zanc (ia 4) 40 (ia 4 (ia 8 h))))] fX1_goBack_45 rfl rfl ?_
  refine Ev.iload fX1_goBack_47 rfl ?_
  refine Ev.iload_n fX1_goBack_49 rfl ?_
  refine Ev.icmp_ge fX1_goBack_50 rfl ⟨by omega, by omega⟩ ⟨by omega, by omega⟩ (fun h50 => by exfalso; omega) (fun h50 => ?_)
  refine Ev.aload_n_1 fX1_goBack_53 rfl ?_
  refine Ev.gR 1 1 9 fX1_goBack_54 (flX1_21 rfl) rfl rfl rfl ?_
  refine Ev.bipush fX1_goBack_57 rfl ?_
  refine Ev.iload fX1_goBack_59 rfl ?_
  refine Ev.cVi 9 [(0, 7), (0, (zanc (ia 4) 40 (ia 4 (ia 8 h))))] [] fX1_goBack_61 lkX1_goBack_65 4 TX4 3 rfl rfl rfl eX4_refuse ?_
  exact Ev.zI fX1_goBack_64 rfl rfl
theorem eX1_goBack_0 {G : zG} {ia : Nat → Int → Int} {w : (Nat → Int → Int) × (Nat → Int → Int)} {h m : Int} (I : zCI ia) (hh : 0 ≤ h ∧ h < 4) (hm : 1 ≤ m ∧ m < 40) (hx : m ≤ (zanc (ia 4) 40 (ia 4 (ia 8 h)))) (hz : 0 ≤ (zit (ia 4) m.toNat (ia 8 h)) ∧ (zit (ia 4) m.toNat (ia 8 h)) < ia 3 0) : Ev G mX1_goBack 0 [(1, 1), (0, h), (0, m), (9, 0), (9, 0)] [] (zH ia w) (.inl (some (0, (zit (ia 4) m.toNat (ia 8 h)))), zH (zu ia 8 h (zit (ia 4) m.toNat (ia 8 h))) w, 0, 0) := by
  have hn := I.1
  have hL := I.2.2.2.2.1 h (by omega) (by omega)
  have hq9 := I.2.1 (ia 8 h) (by omega) (by omega)
  have ha9 := zanc_le I.par 40 (ia 4 (ia 8 h)) (by omega) (by omega)
  refine Ev.iload_n fX1_goBack_0 rfl ?_
  obtain ⟨b52, ga52, gb52, ge52⟩ := eX7_isHouse_b (G := G) (ia := ia) (w := w) h ⟨by omega, by omega⟩
  refine Ev.cSNi [(0, h)] [] fX1_goBack_1 lkX1_goBack_58 rfl ge52 ?_
  refine Ev.if_eq fX1_goBack_4 rfl ⟨by omega, by omega⟩ (fun h4 => by exfalso; omega) (fun h4 => ?_)
  refine Ev.iload_n fX1_goBack_7 rfl ?_
  refine Ev.iconst fX1_goBack_8 ?_
  refine Ev.icmp_lt fX1_goBack_9 rfl ⟨by omega, by omega⟩ (by decide) (fun h9 => by exfalso; omega) (fun h9 => ?_)
  refine Ev.iload_n fX1_goBack_12 rfl ?_
  refine Ev.bipush fX1_goBack_13 rfl ?_
  refine Ev.icmp_lt fX1_goBack_15 rfl ⟨by omega, by omega⟩ (by decide) (fun h15 => ?_) (fun h15 => by exfalso; omega)
  refine Ev.aload_n_1 fX1_goBack_28 rfl ?_
  refine Ev.gR 1 0 2 fX1_goBack_29 (flX1_12 rfl) rfl rfl rfl ?_
  refine Ev.iload_n fX1_goBack_32 rfl ?_
  refine Ev.cVi 2 [(0, h)] [] fX1_goBack_33 lkX1_goBack_68 0 TX0 5 rfl rfl rfl (eX0_ledgerOf (r := (ia 8 h)) ⟨by omega, by omega⟩ rfl) ?_
  refine Ev.sistore_n [(1, 1), (0, h), (0, m), (0, (ia 8 h)), (9, 0)] fX1_goBack_36 rfl rfl ?_
  refine Ev.aload_n_1 fX1_goBack_37 rfl ?_
  refine Ev.gR 1 2 3 fX1_goBack_38 (flX1_29 rfl) rfl rfl rfl ?_
  refine Ev.iload_n fX1_goBack_41 rfl ?_
  refine Ev.cVi 3 [(0, (ia 8 h))] [] fX1_goBack_42 lkX1_goBack_111 6 TX6 5 rfl rfl rfl (eX6_ancestorsOf I ⟨by omega, by omega⟩) ?_
  refine Ev.sistore [(1, 1), (0, h), (0, m), (0, (ia 8 h)), (0, (zanc (ia 4) 40 (ia 4 (ia 8 h))))] fX1_goBack_45 rfl rfl ?_
  refine Ev.iload fX1_goBack_47 rfl ?_
  refine Ev.iload_n fX1_goBack_49 rfl ?_
  refine Ev.icmp_ge fX1_goBack_50 rfl ⟨by omega, by omega⟩ ⟨by omega, by omega⟩ (fun h50 => ?_) (fun h50 => by exfalso; omega)
  refine Ev.aload_n_1 fX1_goBack_65 rfl ?_
  refine Ev.gR 1 0 2 fX1_goBack_66 (flX1_12 rfl) rfl rfl rfl ?_
  refine Ev.iload_n fX1_goBack_69 rfl ?_
  refine Ev.aload_n_1 fX1_goBack_70 rfl ?_
  refine Ev.gR 1 2 3 fX1_goBack_71 (flX1_29 rfl) rfl rfl rfl ?_
  refine Ev.iload_n fX1_goBack_74 rfl ?_
  refine Ev.iload_n fX1_goBack_75 rfl ?_
  refine Ev.cVi 3 [(0, (ia 8 h)), (0, m)] [(0, h), (1, 2)] fX1_goBack_76 lkX1_goBack_114 6 TX6 5 rfl rfl rfl (eX6_earlier I ⟨by omega, by omega⟩ ⟨by omega, by omega⟩ (by omega) rfl) ?_
  refine Ev.cVv 2 [(0, h), (0, (zit (ia 4) m.toNat (ia 8 h)))] [] fX1_goBack_79 lkX1_goBack_87 0 TX0 5 rfl rfl rfl (eX0_giveLedger I ⟨by omega, by omega⟩ ⟨by omega, by omega⟩) ?_
  refine Ev.aload_n_1 fX1_goBack_82 rfl ?_
  refine Ev.gR 1 0 2 fX1_goBack_83 (flX1_12 rfl) rfl rfl rfl ?_
  refine Ev.iload_n fX1_goBack_86 rfl ?_
  refine Ev.cVi 2 [(0, h)] [] fX1_goBack_87 lkX1_goBack_68 0 TX0 5 rfl rfl rfl (eX0_ledgerOf (r := (zit (ia 4) m.toNat (ia 8 h))) ⟨by omega, by omega⟩ (by first | rfl | (simp [zu]))) ?_
  exact Ev.zI fX1_goBack_90 rfl rfl
theorem eX1_letGoBy_1 {G : zG} {ia : Nat → Int → Int} {w : (Nat → Int → Int) × (Nat → Int → Int)} {y : Int} (I : zCI ia) (hry : -2147483648 ≤ y ∧ y ≤ 2147483647) (hx : ¬ (1 ≤ y ∧ y ≤ 99)) : Ev G mX1_letGoBy 0 [(1, 1), (0, y)] [] (zH ia w) (.inl (some (0, (-1))), zH (zu (zu (zu ia 9 0 1) 9 1 0) 9 2 0) w, 0, 0) := by
  have hn := I.1
  refine Ev.iload_n fX1_letGoBy_0 rfl ?_
  refine Ev.iconst fX1_letGoBy_1 ?_
  refine Ev.icmp_lt fX1_letGoBy_2 rfl ⟨by omega, by omega⟩ (by decide) (fun h2 => ?_) (fun h2 => ?_)
  · refine Ev.aload_n_1 fX1_letGoBy_11 rfl ?_
    refine Ev.gR 1 1 9 fX1_letGoBy_12 (flX1_21 rfl) rfl rfl rfl ?_
    refine Ev.iconst fX1_letGoBy_15 ?_
    refine Ev.iconst fX1_letGoBy_16 ?_
    refine Ev.cVi 9 [(0, 1), (0, 0)] [] fX1_letGoBy_17 lkX1_letGoBy_65 4 TX4 3 rfl rfl rfl eX4_refuse ?_
    exact Ev.zI fX1_letGoBy_20 rfl rfl
  · refine Ev.iload_n fX1_letGoBy_5 rfl ?_
    refine Ev.bipush fX1_letGoBy_6 rfl ?_
    refine Ev.icmp_le fX1_letGoBy_8 rfl ⟨by omega, by omega⟩ (by decide) (fun h8 => by exfalso; omega) (fun h8 => ?_)
    refine Ev.aload_n_1 fX1_letGoBy_11 rfl ?_
    refine Ev.gR 1 1 9 fX1_letGoBy_12 (flX1_21 rfl) rfl rfl rfl ?_
    refine Ev.iconst fX1_letGoBy_15 ?_
    refine Ev.iconst fX1_letGoBy_16 ?_
    refine Ev.cVi 9 [(0, 1), (0, 0)] [] fX1_letGoBy_17 lkX1_letGoBy_65 4 TX4 3 rfl rfl rfl eX4_refuse ?_
    exact Ev.zI fX1_letGoBy_20 rfl rfl
theorem eX1_letGoBy_8 {G : zG} {ia : Nat → Int → Int} {w : (Nat → Int → Int) × (Nat → Int → Int)} {y : Int} (I : zCI ia) (hy : 1 ≤ y ∧ y ≤ 99) (hx : 99 < ia 2 2 + y) : Ev G mX1_letGoBy 0 [(1, 1), (0, y)] [] (zH ia w) (.inl (some (0, (-1))), zH (zu (zu (zu ia 9 0 8) 9 1 (((ia 2 2) + y) - 99)) 9 2 0) w, 0, 0) := by
  have hn := I.1
  have hY := I.2.2.2.2.2.1
  refine Ev.iload_n fX1_letGoBy_0 rfl ?_
  refine Ev.iconst fX1_letGoBy_1 ?_
  refine Ev.icmp_lt fX1_letGoBy_2 rfl ⟨by omega, by omega⟩ (by decide) (fun h2 => by exfalso; omega) (fun h2 => ?_)
  refine Ev.iload_n fX1_letGoBy_5 rfl ?_
  refine Ev.bipush fX1_letGoBy_6 rfl ?_
  refine Ev.icmp_le fX1_letGoBy_8 rfl ⟨by omega, by omega⟩ (by decide) (fun h8 => ?_) (fun h8 => by exfalso; omega)
  refine Ev.aload_n_1 fX1_letGoBy_21 rfl ?_
  refine Ev.gR 1 0 2 fX1_letGoBy_22 (flX1_12 rfl) rfl rfl rfl ?_
  refine Ev.gI 2 2 (v := (ia 2 2)) fX1_letGoBy_25 (flX1_80 rfl) rfl rfl rfl ?_
  refine Ev.iload_n fX1_letGoBy_28 rfl ?_
  refine Ev.iadd fX1_letGoBy_29 ?_
  refine Ev.bipush fX1_letGoBy_30 rfl ?_
  refine Ev.icmp_le fX1_letGoBy_32 rfl ⟨by omega, by omega⟩ (by decide) (fun h32 => by exfalso; omega) (fun h32 => ?_)
  refine Ev.aload_n_1 fX1_letGoBy_35 rfl ?_
  refine Ev.gR 1 1 9 fX1_letGoBy_36 (flX1_21 rfl) rfl rfl rfl ?_
  refine Ev.bipush fX1_letGoBy_39 rfl ?_
  refine Ev.aload_n_1 fX1_letGoBy_41 rfl ?_
  refine Ev.gR 1 0 2 fX1_letGoBy_42 (flX1_12 rfl) rfl rfl rfl ?_
  refine Ev.gI 2 2 (v := (ia 2 2)) fX1_letGoBy_45 (flX1_80 rfl) rfl rfl rfl ?_
  refine Ev.iload_n fX1_letGoBy_48 rfl ?_
  refine Ev.iadd fX1_letGoBy_49 ?_
  refine Ev.bipush fX1_letGoBy_50 rfl ?_
  refine Ev.isub fX1_letGoBy_52 ?_
  refine Ev.cVi 9 [(0, 8), (0, (((ia 2 2) + y) - 99))] [] fX1_letGoBy_53 lkX1_letGoBy_65 4 TX4 3 rfl rfl rfl eX4_refuse ?_
  exact Ev.zI fX1_letGoBy_56 rfl rfl
theorem eX1_letGoBy_0 {G : zG} {ia : Nat → Int → Int} {w : (Nat → Int → Int) × (Nat → Int → Int)} {y : Int} (I : zCI ia) (hy : 1 ≤ y ∧ y ≤ 99) (hx : ia 2 2 + y ≤ 99) : Ev G mX1_letGoBy 0 [(1, 1), (0, y)] [] (zH ia w) (.inl (some (0, (ia 2 2 + y))), zH (zu ia 2 2 ((ia 2 2) + y)) w, 0, 0) := by
  have hn := I.1
  have hY := I.2.2.2.2.2.1
  refine Ev.iload_n fX1_letGoBy_0 rfl ?_
  refine Ev.iconst fX1_letGoBy_1 ?_
  refine Ev.icmp_lt fX1_letGoBy_2 rfl ⟨by omega, by omega⟩ (by decide) (fun h2 => by exfalso; omega) (fun h2 => ?_)
  refine Ev.iload_n fX1_letGoBy_5 rfl ?_
  refine Ev.bipush fX1_letGoBy_6 rfl ?_
  refine Ev.icmp_le fX1_letGoBy_8 rfl ⟨by omega, by omega⟩ (by decide) (fun h8 => ?_) (fun h8 => by exfalso; omega)
  refine Ev.aload_n_1 fX1_letGoBy_21 rfl ?_
  refine Ev.gR 1 0 2 fX1_letGoBy_22 (flX1_12 rfl) rfl rfl rfl ?_
  refine Ev.gI 2 2 (v := (ia 2 2)) fX1_letGoBy_25 (flX1_80 rfl) rfl rfl rfl ?_
  refine Ev.iload_n fX1_letGoBy_28 rfl ?_
  refine Ev.iadd fX1_letGoBy_29 ?_
  refine Ev.bipush fX1_letGoBy_30 rfl ?_
  refine Ev.icmp_le fX1_letGoBy_32 rfl ⟨by omega, by omega⟩ (by decide) (fun h32 => ?_) (fun h32 => by exfalso; omega)
  refine Ev.aload_n_1 fX1_letGoBy_57 rfl ?_
  refine Ev.gR 1 0 2 fX1_letGoBy_58 (flX1_12 rfl) rfl rfl rfl ?_
  refine Ev.dup fX1_letGoBy_61 rfl ?_
  refine Ev.gI 2 2 (v := (ia 2 2)) fX1_letGoBy_62 (flX1_80 rfl) rfl rfl rfl ?_
  refine Ev.iload_n fX1_letGoBy_65 rfl ?_
  refine Ev.iadd fX1_letGoBy_66 ?_
  refine Ev.pI 2 2 fX1_letGoBy_67 (flX1_80 rfl) rfl rfl trivial ?_
  refine Ev.aload_n_1 fX1_letGoBy_70 rfl ?_
  refine Ev.gR 1 0 2 fX1_letGoBy_71 (flX1_12 rfl) rfl rfl rfl ?_
  refine Ev.gI 2 2 (v := ((ia 2 2) + y)) fX1_letGoBy_74 (flX1_80 rfl) rfl rfl rfl ?_
  exact Ev.zI fX1_letGoBy_77 rfl rfl
