/-! THE MODEL: SMALL METHODS (printed by wip/whole/gen/mod1.py) -/
/-- the row has what the books of the heap ja have -/
def zRw (ja : Nat → Int → Int) (g : Int → Int) : Prop :=
  zCI ja ∧ g 0 = ja 3 0 ∧ g 1 = ja 2 2 ∧ g 2 = ja 2 3 ∧ g 3 = ja 2 4 ∧ (∀ h : Int, 0 ≤ h → h < 4 → g (4 + h) = ja 8 h) ∧
  ∀ v : Int, 0 ≤ v → v < ja 3 0 → g (8 + 49 * v + 0) = ja 4 v ∧ g (8 + 49 * v + 1) = ja 5 v ∧
    (∀ l : Int, 0 ≤ l → l < 16 → g (8 + 49 * v + (2 + l)) = zTo ja v (15 + l)) ∧ ∀ s : Int, 0 ≤ s → s < 31 → g (8 + 49 * v + (18 + s)) = ja 6 (v * 31 + s)
/-- the model's spans -/
def zLH (ia : Nat → Int → Int) : Prop := (∀ s : Int, 0 ≤ s → s < 31 → ia 31 s = zlow s) ∧ ∀ s : Int, 0 ≤ s → s < 31 → ia 32 s = zhig s
theorem eX8_thrown {G : zG} {ia : Nat → Int → Int} {w : (Nat → Int → Int) × (Nat → Int → Int)}   : Ev G mX8_thrown 0 [(1, 24)] [] (zH ia w) (.inl (some (0, (ia 24 8))), zH ia w, 0, 0) := by
  refine Ev.aload_n_1 fX8_thrown_0 rfl ?_
  refine Ev.gI 24 8 (v := (ia 24 8)) fX8_thrown_1 (flX8_42 rfl) rfl rfl rfl ?_
  exact Ev.zI fX8_thrown_4 rfl rfl
theorem eX8_fails_1 {G : zG} {ia : Nat → Int → Int} {w : (Nat → Int → Int) × (Nat → Int → Int)}   : Ev G mX8_fails 0 [(1, 24), (0, 1)] [] (zH ia w) (.inl (some (0, 1)), zH (zu ia 24 8 1) w, 0, 0) := by
  refine Ev.aload_n_1 fX8_fails_0 rfl ?_
  refine Ev.iload_n fX8_fails_1 rfl ?_
  refine Ev.pI 24 8 fX8_fails_2 (flX8_42 rfl) rfl rfl trivial ?_
  refine Ev.iload_n fX8_fails_5 rfl ?_
  refine Ev.if_le fX8_fails_6 rfl (by decide) (fun h6 => by exfalso; revert h6; decide) (fun h6 => ?_)
  refine Ev.iconst fX8_fails_9 ?_
  refine Ev.goto fX8_fails_10 rfl ?_
  exact Ev.zZ fX8_fails_14 rfl (by first | exact Or.inl rfl | exact Or.inr rfl) rfl
theorem eX8_fails_2 {G : zG} {ia : Nat → Int → Int} {w : (Nat → Int → Int) × (Nat → Int → Int)}   : Ev G mX8_fails 0 [(1, 24), (0, 2)] [] (zH ia w) (.inl (some (0, 1)), zH (zu ia 24 8 2) w, 0, 0) := by
  refine Ev.aload_n_1 fX8_fails_0 rfl ?_
  refine Ev.iload_n fX8_fails_1 rfl ?_
  refine Ev.pI 24 8 fX8_fails_2 (flX8_42 rfl) rfl rfl trivial ?_
  refine Ev.iload_n fX8_fails_5 rfl ?_
  refine Ev.if_le fX8_fails_6 rfl (by decide) (fun h6 => by exfalso; revert h6; decide) (fun h6 => ?_)
  refine Ev.iconst fX8_fails_9 ?_
  refine Ev.goto fX8_fails_10 rfl ?_
  exact Ev.zZ fX8_fails_14 rfl (by first | exact Or.inl rfl | exact Or.inr rfl) rfl
theorem eX8_fails_0 {G : zG} {ia : Nat → Int → Int} {w : (Nat → Int → Int) × (Nat → Int → Int)}   : Ev G mX8_fails 0 [(1, 24), (0, 0)] [] (zH ia w) (.inl (some (0, 0)), zH (zu ia 24 8 0) w, 0, 0) := by
  refine Ev.aload_n_1 fX8_fails_0 rfl ?_
  refine Ev.iload_n fX8_fails_1 rfl ?_
  refine Ev.pI 24 8 fX8_fails_2 (flX8_42 rfl) rfl rfl trivial ?_
  refine Ev.iload_n fX8_fails_5 rfl ?_
  refine Ev.if_le fX8_fails_6 rfl (by decide) (fun h6 => ?_) (fun h6 => by exfalso; revert h6; decide)
  refine Ev.iconst fX8_fails_13 ?_
  exact Ev.zZ fX8_fails_14 rfl (by first | exact Or.inl rfl | exact Or.inr rfl) rfl
theorem eX8_in_t {G : zG} {ia : Nat → Int → Int} {w : (Nat → Int → Int) × (Nat → Int → Int)} {x a b : Int} (hrx : -2147483648 ≤ x ∧ x ≤ 2147483647) (hra : -2147483648 ≤ a ∧ a ≤ 2147483647) (hrb : -2147483648 ≤ b ∧ b ≤ 2147483647) (hx : a ≤ x ∧ x ≤ b) : Ev G mX8_in 0 [(0, x), (0, a), (0, b)] [] (zH ia w) (.inl (some (0, 1)), zH ia w, 0, 0) := by
  refine Ev.iload_n fX8_in_0 rfl ?_
  refine Ev.iload_n fX8_in_1 rfl ?_
  refine Ev.icmp_lt fX8_in_2 rfl ⟨by omega, by omega⟩ ⟨by omega, by omega⟩ (fun h2 => by exfalso; omega) (fun h2 => ?_)
  refine Ev.iload_n fX8_in_5 rfl ?_
  refine Ev.iload_n fX8_in_6 rfl ?_
  refine Ev.icmp_gt fX8_in_7 rfl ⟨by omega, by omega⟩ ⟨by omega, by omega⟩ (fun h7 => by exfalso; omega) (fun h7 => ?_)
  refine Ev.iconst fX8_in_10 ?_
  refine Ev.goto fX8_in_11 rfl ?_
  exact Ev.zZ fX8_in_15 rfl (by first | exact Or.inl rfl | exact Or.inr rfl) rfl
theorem eX8_in_f {G : zG} {ia : Nat → Int → Int} {w : (Nat → Int → Int) × (Nat → Int → Int)} {x a b : Int} (hrx : -2147483648 ≤ x ∧ x ≤ 2147483647) (hra : -2147483648 ≤ a ∧ a ≤ 2147483647) (hrb : -2147483648 ≤ b ∧ b ≤ 2147483647) (hx : ¬ (a ≤ x ∧ x ≤ b)) : Ev G mX8_in 0 [(0, x), (0, a), (0, b)] [] (zH ia w) (.inl (some (0, 0)), zH ia w, 0, 0) := by
  refine Ev.iload_n fX8_in_0 rfl ?_
  refine Ev.iload_n fX8_in_1 rfl ?_
  refine Ev.icmp_lt fX8_in_2 rfl ⟨by omega, by omega⟩ ⟨by omega, by omega⟩ (fun h2 => ?_) (fun h2 => ?_)
  · refine Ev.iconst fX8_in_14 ?_
    exact Ev.zZ fX8_in_15 rfl (by first | exact Or.inl rfl | exact Or.inr rfl) rfl
  · refine Ev.iload_n fX8_in_5 rfl ?_
    refine Ev.iload_n fX8_in_6 rfl ?_
    refine Ev.icmp_gt fX8_in_7 rfl ⟨by omega, by omega⟩ ⟨by omega, by omega⟩ (fun h7 => ?_) (fun h7 => by exfalso; omega)
    refine Ev.iconst fX8_in_14 ?_
    exact Ev.zZ fX8_in_15 rfl (by first | exact Or.inl rfl | exact Or.inr rfl) rfl
theorem eX8_isHouse_t {G : zG} {ia : Nat → Int → Int} {w : (Nat → Int → Int) × (Nat → Int → Int)} {x : Int} (hx : 0 ≤ x ∧ x < 4) : Ev G mX8_isHouse 0 [(0, x)] [] (zH ia w) (.inl (some (0, 1)), zH ia w, 0, 0) := by
  refine Ev.iload_n fX8_isHouse_0 rfl ?_
  refine Ev.iconst fX8_isHouse_1 ?_
  refine Ev.iconst fX8_isHouse_2 ?_
  refine Ev.cSi [(0, x), (0, 0), (0, 3)] [] fX8_isHouse_3 lkX8_isHouse_68 rfl (eX8_in_t ⟨by omega, by omega⟩ ⟨by omega, by omega⟩ ⟨by omega, by omega⟩ ⟨by omega, by omega⟩) ?_
  exact Ev.zZ fX8_isHouse_6 rfl (by first | exact Or.inl rfl | exact Or.inr rfl) rfl
theorem eX8_isHouse_f {G : zG} {ia : Nat → Int → Int} {w : (Nat → Int → Int) × (Nat → Int → Int)} {x : Int} (hrx : -2147483648 ≤ x ∧ x ≤ 2147483647) (hx : ¬ (0 ≤ x ∧ x < 4)) : Ev G mX8_isHouse 0 [(0, x)] [] (zH ia w) (.inl (some (0, 0)), zH ia w, 0, 0) := by
  refine Ev.iload_n fX8_isHouse_0 rfl ?_
  refine Ev.iconst fX8_isHouse_1 ?_
  refine Ev.iconst fX8_isHouse_2 ?_
  refine Ev.cSi [(0, x), (0, 0), (0, 3)] [] fX8_isHouse_3 lkX8_isHouse_68 rfl (eX8_in_f ⟨by omega, by omega⟩ ⟨by omega, by omega⟩ ⟨by omega, by omega⟩ (by omega)) ?_
  exact Ev.zZ fX8_isHouse_6 rfl (by first | exact Or.inl rfl | exact Or.inr rfl) rfl
theorem eX8_isLine_t {G : zG} {ia : Nat → Int → Int} {w : (Nat → Int → Int) × (Nat → Int → Int)} {x : Int} (hx : 0 ≤ x ∧ x < 16) : Ev G mX8_isLine 0 [(0, x)] [] (zH ia w) (.inl (some (0, 1)), zH ia w, 0, 0) := by
  refine Ev.iload_n fX8_isLine_0 rfl ?_
  refine Ev.iconst fX8_isLine_1 ?_
  refine Ev.bipush fX8_isLine_2 rfl ?_
  refine Ev.cSi [(0, x), (0, 0), (0, 15)] [] fX8_isLine_4 lkX8_isLine_68 rfl (eX8_in_t ⟨by omega, by omega⟩ ⟨by omega, by omega⟩ ⟨by omega, by omega⟩ ⟨by omega, by omega⟩) ?_
  exact Ev.zZ fX8_isLine_7 rfl (by first | exact Or.inl rfl | exact Or.inr rfl) rfl
theorem eX8_isLine_f {G : zG} {ia : Nat → Int → Int} {w : (Nat → Int → Int) × (Nat → Int → Int)} {x : Int} (hrx : -2147483648 ≤ x ∧ x ≤ 2147483647) (hx : ¬ (0 ≤ x ∧ x < 16)) : Ev G mX8_isLine 0 [(0, x)] [] (zH ia w) (.inl (some (0, 0)), zH ia w, 0, 0) := by
  refine Ev.iload_n fX8_isLine_0 rfl ?_
  refine Ev.iconst fX8_isLine_1 ?_
  refine Ev.bipush fX8_isLine_2 rfl ?_
  refine Ev.cSi [(0, x), (0, 0), (0, 15)] [] fX8_isLine_4 lkX8_isLine_68 rfl (eX8_in_f ⟨by omega, by omega⟩ ⟨by omega, by omega⟩ ⟨by omega, by omega⟩ (by omega)) ?_
  exact Ev.zZ fX8_isLine_7 rfl (by first | exact Or.inl rfl | exact Or.inr rfl) rfl
theorem eX8_isVersion_t {G : zG} {ia ja : Nat → Int → Int} {w : (Nat → Int → Int) × (Nat → Int → Int)} {v : Int} (H : zRw ja (ia 25)) (hv : 0 ≤ v ∧ v < ja 3 0) : Ev G mX8_isVersion 0 [(1, 24), (0, v)] [] (zH ia w) (.inl (some (0, 1)), zH ia w, 0, 0) := by
  have I := H.1
  have hn := I.1
  refine Ev.iload_n fX8_isVersion_0 rfl ?_
  refine Ev.iconst fX8_isVersion_1 ?_
  refine Ev.aload_n_1 fX8_isVersion_2 rfl ?_
  refine Ev.gR 24 0 25 fX8_isVersion_3 (flX8_7 rfl) rfl rfl rfl ?_
  refine Ev.iconst fX8_isVersion_6 ?_
  refine Ev.ld 25 1968 (v := (ja 3 0)) fX8_isVersion_7 rfl rfl (by decide) H.2.1 ?_
  refine Ev.iconst fX8_isVersion_8 ?_
  refine Ev.isub fX8_isVersion_9 ?_
  refine Ev.cSi [(0, v), (0, 0), (0, ((ja 3 0) - 1))] [] fX8_isVersion_10 lkX8_isVersion_68 rfl (eX8_in_t ⟨by omega, by omega⟩ ⟨by omega, by omega⟩ ⟨by omega, by omega⟩ ⟨by omega, by omega⟩) ?_
  exact Ev.zZ fX8_isVersion_13 rfl (by first | exact Or.inl rfl | exact Or.inr rfl) rfl
theorem eX8_isVersion_f {G : zG} {ia ja : Nat → Int → Int} {w : (Nat → Int → Int) × (Nat → Int → Int)} {v : Int} (H : zRw ja (ia 25)) (hrv : -2147483648 ≤ v ∧ v ≤ 2147483647) (hv : ¬ (0 ≤ v ∧ v < ja 3 0)) : Ev G mX8_isVersion 0 [(1, 24), (0, v)] [] (zH ia w) (.inl (some (0, 0)), zH ia w, 0, 0) := by
  have I := H.1
  have hn := I.1
  refine Ev.iload_n fX8_isVersion_0 rfl ?_
  refine Ev.iconst fX8_isVersion_1 ?_
  refine Ev.aload_n_1 fX8_isVersion_2 rfl ?_
  refine Ev.gR 24 0 25 fX8_isVersion_3 (flX8_7 rfl) rfl rfl rfl ?_
  refine Ev.iconst fX8_isVersion_6 ?_
  refine Ev.ld 25 1968 (v := (ja 3 0)) fX8_isVersion_7 rfl rfl (by decide) H.2.1 ?_
  refine Ev.iconst fX8_isVersion_8 ?_
  refine Ev.isub fX8_isVersion_9 ?_
  refine Ev.cSi [(0, v), (0, 0), (0, ((ja 3 0) - 1))] [] fX8_isVersion_10 lkX8_isVersion_68 rfl (eX8_in_f ⟨by omega, by omega⟩ ⟨by omega, by omega⟩ ⟨by omega, by omega⟩ (by omega)) ?_
  exact Ev.zZ fX8_isVersion_13 rfl (by first | exact Or.inl rfl | exact Or.inr rfl) rfl
theorem eX8_areLines_t {G : zG} {ia : Nat → Int → Int} {w : (Nat → Int → Int) × (Nat → Int → Int)} {a b : Int} (hx : 0 ≤ a ∧ a ≤ b ∧ b < 16) : Ev G mX8_areLines 0 [(0, a), (0, b)] [] (zH ia w) (.inl (some (0, 1)), zH ia w, 0, 0) := by
  refine Ev.iload_n fX8_areLines_0 rfl ?_
  refine Ev.cSi [(0, a)] [] fX8_areLines_1 lkX8_areLines_84 rfl (eX8_isLine_t ⟨by omega, by omega⟩) ?_
  refine Ev.if_eq fX8_areLines_4 rfl (by decide) (fun h4 => by exfalso; revert h4; decide) (fun h4 => ?_)
  refine Ev.iload_n fX8_areLines_7 rfl ?_
  refine Ev.cSi [(0, b)] [] fX8_areLines_8 lkX8_areLines_84 rfl (eX8_isLine_t ⟨by omega, by omega⟩) ?_
  refine Ev.if_eq fX8_areLines_11 rfl (by decide) (fun h11 => by exfalso; revert h11; decide) (fun h11 => ?_)
  refine Ev.iload_n fX8_areLines_14 rfl ?_
  refine Ev.iload_n fX8_areLines_15 rfl ?_
  refine Ev.icmp_gt fX8_areLines_16 rfl ⟨by omega, by omega⟩ ⟨by omega, by omega⟩ (fun h16 => by exfalso; omega) (fun h16 => ?_)
  refine Ev.iconst fX8_areLines_19 ?_
  refine Ev.goto fX8_areLines_20 rfl ?_
  exact Ev.zZ fX8_areLines_24 rfl (by first | exact Or.inl rfl | exact Or.inr rfl) rfl
theorem eX8_isLine_b {G : zG} {ia : Nat → Int → Int} {w : (Nat → Int → Int) × (Nat → Int → Int)} (x : Int) (hr : -2147483648 ≤ x ∧ x ≤ 2147483647) : ∃ b : Int, (b = 0 ∨ b = 1) ∧ (b = 1 ↔ 0 ≤ x ∧ x < 16) ∧ Ev G mX8_isLine 0 [(0, x)] [] (zH ia w) (.inl (some (0, b)), zH ia w, 0, 0) := by
  by_cases h : 0 ≤ x ∧ x < 16
  · exact ⟨1, Or.inr rfl, ⟨fun _ => h, fun _ => rfl⟩, eX8_isLine_t h⟩
  · exact ⟨0, Or.inl rfl, ⟨fun e => absurd e (by decide), fun e => absurd e h⟩, eX8_isLine_f hr h⟩
theorem eX8_areLines_f {G : zG} {ia : Nat → Int → Int} {w : (Nat → Int → Int) × (Nat → Int → Int)} {a b : Int} (hra : -2147483648 ≤ a ∧ a ≤ 2147483647) (hrb : -2147483648 ≤ b ∧ b ≤ 2147483647) (hx : ¬ (0 ≤ a ∧ a ≤ b ∧ b < 16)) : Ev G mX8_areLines 0 [(0, a), (0, b)] [] (zH ia w) (.inl (some (0, 0)), zH ia w, 0, 0) := by
  refine Ev.iload_n fX8_areLines_0 rfl ?_
  obtain ⟨b65, ga65, gb65, ge65⟩ := eX8_isLine_b (G := G) (ia := ia) (w := w) a ⟨by omega, by omega⟩
  refine Ev.cSi [(0, a)] [] fX8_areLines_1 lkX8_areLines_84 rfl ge65 ?_
  refine Ev.if_eq fX8_areLines_4 rfl ⟨by omega, by omega⟩ (fun h4 => ?_) (fun h4 => ?_)
  · refine Ev.iconst fX8_areLines_23 ?_
    exact Ev.zZ fX8_areLines_24 rfl (by first | exact Or.inl rfl | exact Or.inr rfl) rfl
  · refine Ev.iload_n fX8_areLines_7 rfl ?_
    obtain ⟨b66, ga66, gb66, ge66⟩ := eX8_isLine_b (G := G) (ia := ia) (w := w) b ⟨by omega, by omega⟩
    refine Ev.cSi [(0, b)] [] fX8_areLines_8 lkX8_areLines_84 rfl ge66 ?_
    refine Ev.if_eq fX8_areLines_11 rfl ⟨by omega, by omega⟩ (fun h11 => ?_) (fun h11 => ?_)
    · refine Ev.iconst fX8_areLines_23 ?_
      exact Ev.zZ fX8_areLines_24 rfl (by first | exact Or.inl rfl | exact Or.inr rfl) rfl
    · refine Ev.iload_n fX8_areLines_14 rfl ?_
      refine Ev.iload_n fX8_areLines_15 rfl ?_
      refine Ev.icmp_gt fX8_areLines_16 rfl ⟨by omega, by omega⟩ ⟨by omega, by omega⟩ (fun h16 => ?_) (fun h16 => by exfalso; omega)
      refine Ev.iconst fX8_areLines_23 ?_
      exact Ev.zZ fX8_areLines_24 rfl (by first | exact Or.inl rfl | exact Or.inr rfl) rfl
theorem eX8_of {G : zG} {ia : Nat → Int → Int} {w : (Nat → Int → Int) × (Nat → Int → Int)} {v x r : Int} (hv : 0 ≤ v ∧ v < 40) (hx : 0 ≤ x ∧ x < 49) (hr : ia 25 (8 + 49 * v + x) = r) : Ev G mX8_of 0 [(1, 24), (0, v), (0, x)] [] (zH ia w) (.inl (some (0, r)), zH ia w, 0, 0) := by
  refine Ev.aload_n_1 fX8_of_0 rfl ?_
  refine Ev.gR 24 0 25 fX8_of_1 (flX8_7 rfl) rfl rfl rfl ?_
  refine Ev.bipush fX8_of_4 rfl ?_
  refine Ev.bipush fX8_of_6 rfl ?_
  refine Ev.iload_n fX8_of_8 rfl ?_
  refine Ev.imul fX8_of_9 ?_
  refine Ev.iadd fX8_of_10 ?_
  refine Ev.iload_n fX8_of_11 rfl ?_
  refine Ev.iadd fX8_of_12 ?_
  refine Ev.ld 25 1968 (v := r) fX8_of_13 rfl rfl ⟨by omega, by omega⟩ hr ?_
  exact Ev.zI fX8_of_14 rfl rfl
theorem eX8_of_par {G : zG} {ia ja : Nat → Int → Int} {w : (Nat → Int → Int) × (Nat → Int → Int)} {v : Int}  (H : zRw ja (ia 25)) (hv : 0 ≤ v ∧ v < ja 3 0) : Ev G mX8_of 0 [(1, 24), (0, v), (0, 0)] [] (zH ia w) (.inl (some (0, (ja 4 v))), zH ia w, 0, 0) := by
  have I := H.1
  have hn := I.1
  exact eX8_of ⟨by omega, by omega⟩ ⟨by omega, by omega⟩ (H.2.2.2.2.2.2 v hv.1 hv.2).1
theorem eX8_of_yr {G : zG} {ia ja : Nat → Int → Int} {w : (Nat → Int → Int) × (Nat → Int → Int)} {v : Int}  (H : zRw ja (ia 25)) (hv : 0 ≤ v ∧ v < ja 3 0) : Ev G mX8_of 0 [(1, 24), (0, v), (0, 1)] [] (zH ia w) (.inl (some (0, (ja 5 v))), zH ia w, 0, 0) := by
  have I := H.1
  have hn := I.1
  exact eX8_of ⟨by omega, by omega⟩ ⟨by omega, by omega⟩ (H.2.2.2.2.2.2 v hv.1 hv.2).2.1
theorem eX8_of_amt {G : zG} {ia ja : Nat → Int → Int} {w : (Nat → Int → Int) × (Nat → Int → Int)} {v : Int} {l : Int} (H : zRw ja (ia 25)) (hv : 0 ≤ v ∧ v < ja 3 0) (hl : 0 ≤ l ∧ l < 16) : Ev G mX8_of 0 [(1, 24), (0, v), (0, (2 + l))] [] (zH ia w) (.inl (some (0, (zTo ja v (15 + l)))), zH ia w, 0, 0) := by
  have I := H.1
  have hn := I.1
  exact eX8_of ⟨by omega, by omega⟩ ⟨by omega, by omega⟩ ((H.2.2.2.2.2.2 v hv.1 hv.2).2.2.1 l hl.1 hl.2)
theorem eX8_of_mk {G : zG} {ia ja : Nat → Int → Int} {w : (Nat → Int → Int) × (Nat → Int → Int)} {v : Int} {s : Int} (H : zRw ja (ia 25)) (hv : 0 ≤ v ∧ v < ja 3 0) (hs : 0 ≤ s ∧ s < 31) : Ev G mX8_of 0 [(1, 24), (0, v), (0, (18 + s))] [] (zH ia w) (.inl (some (0, (ja 6 (v * 31 + s)))), zH ia w, 0, 0) := by
  have I := H.1
  have hn := I.1
  exact eX8_of ⟨by omega, by omega⟩ ⟨by omega, by omega⟩ ((H.2.2.2.2.2.2 v hv.1 hv.2).2.2.2 s hs.1 hs.2)
theorem eX8_amountOf {G : zG} {ia ja : Nat → Int → Int} {w : (Nat → Int → Int) × (Nat → Int → Int)} {v l : Int} (H : zRw ja (ia 25)) (hv : 0 ≤ v ∧ v < ja 3 0) (hl : 0 ≤ l ∧ l < 16) : Ev G mX8_amountOf 0 [(1, 24), (0, v), (0, l)] [] (zH ia w) (.inl (some (0, (zTo ja v (15 + l)))), zH ia w, 0, 0) := by
  have I := H.1
  have hn := I.1
  refine Ev.aload_n_1 fX8_amountOf_0 rfl ?_
  refine Ev.iload_n fX8_amountOf_1 rfl ?_
  refine Ev.iconst fX8_amountOf_2 ?_
  refine Ev.iload_n fX8_amountOf_3 rfl ?_
  refine Ev.iadd fX8_amountOf_4 ?_
  refine Ev.cVi 24 [(0, v), (0, (2 + l))] [] fX8_amountOf_5 lkX8_amountOf_72 8 TX8 22 rfl rfl rfl (eX8_of_amt H ⟨by omega, by omega⟩ ⟨by omega, by omega⟩) ?_
  exact Ev.zI fX8_amountOf_8 rfl rfl
