/-! THE CLASS: SMALL METHODS, READS OF VERSIONS AND PAGES (printed by wip/whole/gen/cls1.py) -/
/-- the old arrays hold the spans' lowest and highest lines -/
def zGo (G : zG) : Prop := (G.2.2.2.2.2.1 0).1 = 31 ∧ (∀ s : Int, 0 ≤ s → s < 31 → (G.2.2.2.2.2.1 0).2 s = zlow s) ∧ (G.2.2.2.2.2.1 1).1 = 31 ∧ (∀ s : Int, 0 ≤ s → s < 31 → (G.2.2.2.2.2.1 1).2 s = zhig s)
/-- the sum that the page of a version for a span keeps -/
def zTo (ia : Nat → Int → Int) (v s : Int) : Int := ia 7 (ia 6 (v * 31 + s) * 31 + s)
/-- the class's versions and books are sound -/
def zCI (ia : Nat → Int → Int) : Prop := (1 ≤ ia 3 0 ∧ ia 3 0 ≤ 40) ∧
  (∀ v : Int, 0 ≤ v → v < ia 3 0 → -1 ≤ ia 4 v ∧ ia 4 v < v ∧ (0 < v → 0 ≤ ia 4 v) ∧ 0 ≤ ia 5 v ∧ ia 5 v ≤ 99) ∧
  (∀ v s : Int, 0 ≤ v → v < ia 3 0 → 0 ≤ s → s < 31 → 0 ≤ ia 6 (v * 31 + s) ∧ ia 6 (v * 31 + s) ≤ v) ∧
  (∀ v s : Int, 0 ≤ v → v < ia 3 0 → 0 ≤ s → s < 31 → 0 ≤ zTo ia v s ∧ zTo ia v s ≤ 999 * (zhig s - zlow s + 1)) ∧
  (∀ h : Int, 0 ≤ h → h < 4 → 0 ≤ ia 8 h ∧ ia 8 h < ia 3 0) ∧
  (0 ≤ ia 2 2 ∧ ia 2 2 ≤ 99) ∧ (0 ≤ ia 2 3 ∧ ia 2 3 ≤ 100000 ∧ 0 ≤ ia 2 4 ∧ ia 2 4 ≤ 100000)
theorem zspan {s : Int} (h : 0 ≤ s ∧ s < 31) : 0 ≤ zlow s ∧ zlow s ≤ zhig s ∧ zhig s ≤ 15 := by
  unfold zlow zhig
  omega
theorem zCI.to {ia : Nat → Int → Int} (I : zCI ia) (v s : Int) (h1 : 0 ≤ v) (h2 : v < ia 3 0) (h3 : 0 ≤ s) (h4 : s < 31) : 0 ≤ zTo ia v s ∧ zTo ia v s ≤ 15984 := by
  have h := I.2.2.2.1 v s h1 h2 h3 h4
  have g := zspan ⟨h3, h4⟩
  omega
theorem eX7_isHouse_t {G : zG} {ia : Nat → Int → Int} {w : (Nat → Int → Int) × (Nat → Int → Int)} {x : Int} (hx : 0 ≤ x ∧ x < 4) : Ev G mX7_isHouse 0 [(0, x)] [] (zH ia w) (.inl (some (0, 1)), zH ia w, 0, 0) := by
  refine Ev.iload_n fX7_isHouse_0 rfl ?_
  refine Ev.if_lt fX7_isHouse_1 rfl ⟨by omega, by omega⟩ (fun h1 => by exfalso; omega) (fun h1 => ?_)
  refine Ev.iload_n fX7_isHouse_4 rfl ?_
  refine Ev.iconst fX7_isHouse_5 ?_
  refine Ev.icmp_ge fX7_isHouse_6 rfl ⟨by omega, by omega⟩ (by decide) (fun h6 => by exfalso; omega) (fun h6 => ?_)
  refine Ev.iconst fX7_isHouse_9 ?_
  refine Ev.goto fX7_isHouse_10 rfl ?_
  exact Ev.zZ fX7_isHouse_14 rfl (by first | exact Or.inl rfl | exact Or.inr rfl) rfl
theorem eX7_isHouse_f {G : zG} {ia : Nat → Int → Int} {w : (Nat → Int → Int) × (Nat → Int → Int)} {x : Int} (hr : -2147483648 ≤ x ∧ x ≤ 2147483647) (hx : ¬ (0 ≤ x ∧ x < 4)) : Ev G mX7_isHouse 0 [(0, x)] [] (zH ia w) (.inl (some (0, 0)), zH ia w, 0, 0) := by
  refine Ev.iload_n fX7_isHouse_0 rfl ?_
  refine Ev.if_lt fX7_isHouse_1 rfl ⟨by omega, by omega⟩ (fun h1 => ?_) (fun h1 => ?_)
  · refine Ev.iconst fX7_isHouse_13 ?_
    exact Ev.zZ fX7_isHouse_14 rfl (by first | exact Or.inl rfl | exact Or.inr rfl) rfl
  · refine Ev.iload_n fX7_isHouse_4 rfl ?_
    refine Ev.iconst fX7_isHouse_5 ?_
    refine Ev.icmp_ge fX7_isHouse_6 rfl ⟨by omega, by omega⟩ (by decide) (fun h6 => ?_) (fun h6 => by exfalso; omega)
    refine Ev.iconst fX7_isHouse_13 ?_
    exact Ev.zZ fX7_isHouse_14 rfl (by first | exact Or.inl rfl | exact Or.inr rfl) rfl
theorem eX7_isLine_t {G : zG} {ia : Nat → Int → Int} {w : (Nat → Int → Int) × (Nat → Int → Int)} {x : Int} (hx : 0 ≤ x ∧ x < 16) : Ev G mX7_isLine 0 [(0, x)] [] (zH ia w) (.inl (some (0, 1)), zH ia w, 0, 0) := by
  refine Ev.iload_n fX7_isLine_0 rfl ?_
  refine Ev.if_lt fX7_isLine_1 rfl ⟨by omega, by omega⟩ (fun h1 => by exfalso; omega) (fun h1 => ?_)
  refine Ev.iload_n fX7_isLine_4 rfl ?_
  refine Ev.bipush fX7_isLine_5 rfl ?_
  refine Ev.icmp_ge fX7_isLine_7 rfl ⟨by omega, by omega⟩ (by decide) (fun h7 => by exfalso; omega) (fun h7 => ?_)
  refine Ev.iconst fX7_isLine_10 ?_
  refine Ev.goto fX7_isLine_11 rfl ?_
  exact Ev.zZ fX7_isLine_15 rfl (by first | exact Or.inl rfl | exact Or.inr rfl) rfl
theorem eX7_isLine_f {G : zG} {ia : Nat → Int → Int} {w : (Nat → Int → Int) × (Nat → Int → Int)} {x : Int} (hr : -2147483648 ≤ x ∧ x ≤ 2147483647) (hx : ¬ (0 ≤ x ∧ x < 16)) : Ev G mX7_isLine 0 [(0, x)] [] (zH ia w) (.inl (some (0, 0)), zH ia w, 0, 0) := by
  refine Ev.iload_n fX7_isLine_0 rfl ?_
  refine Ev.if_lt fX7_isLine_1 rfl ⟨by omega, by omega⟩ (fun h1 => ?_) (fun h1 => ?_)
  · refine Ev.iconst fX7_isLine_14 ?_
    exact Ev.zZ fX7_isLine_15 rfl (by first | exact Or.inl rfl | exact Or.inr rfl) rfl
  · refine Ev.iload_n fX7_isLine_4 rfl ?_
    refine Ev.bipush fX7_isLine_5 rfl ?_
    refine Ev.icmp_ge fX7_isLine_7 rfl ⟨by omega, by omega⟩ (by decide) (fun h7 => ?_) (fun h7 => by exfalso; omega)
    refine Ev.iconst fX7_isLine_14 ?_
    exact Ev.zZ fX7_isLine_15 rfl (by first | exact Or.inl rfl | exact Or.inr rfl) rfl
theorem eX7_isSpan_t {G : zG} {ia : Nat → Int → Int} {w : (Nat → Int → Int) × (Nat → Int → Int)} {x : Int} (hx : 0 ≤ x ∧ x < 31) : Ev G mX7_isSpan 0 [(0, x)] [] (zH ia w) (.inl (some (0, 1)), zH ia w, 0, 0) := by
  refine Ev.iload_n fX7_isSpan_0 rfl ?_
  refine Ev.if_lt fX7_isSpan_1 rfl ⟨by omega, by omega⟩ (fun h1 => by exfalso; omega) (fun h1 => ?_)
  refine Ev.iload_n fX7_isSpan_4 rfl ?_
  refine Ev.bipush fX7_isSpan_5 rfl ?_
  refine Ev.icmp_ge fX7_isSpan_7 rfl ⟨by omega, by omega⟩ (by decide) (fun h7 => by exfalso; omega) (fun h7 => ?_)
  refine Ev.iconst fX7_isSpan_10 ?_
  refine Ev.goto fX7_isSpan_11 rfl ?_
  exact Ev.zZ fX7_isSpan_15 rfl (by first | exact Or.inl rfl | exact Or.inr rfl) rfl
theorem eX7_isSpan_f {G : zG} {ia : Nat → Int → Int} {w : (Nat → Int → Int) × (Nat → Int → Int)} {x : Int} (hr : -2147483648 ≤ x ∧ x ≤ 2147483647) (hx : ¬ (0 ≤ x ∧ x < 31)) : Ev G mX7_isSpan 0 [(0, x)] [] (zH ia w) (.inl (some (0, 0)), zH ia w, 0, 0) := by
  refine Ev.iload_n fX7_isSpan_0 rfl ?_
  refine Ev.if_lt fX7_isSpan_1 rfl ⟨by omega, by omega⟩ (fun h1 => ?_) (fun h1 => ?_)
  · refine Ev.iconst fX7_isSpan_14 ?_
    exact Ev.zZ fX7_isSpan_15 rfl (by first | exact Or.inl rfl | exact Or.inr rfl) rfl
  · refine Ev.iload_n fX7_isSpan_4 rfl ?_
    refine Ev.bipush fX7_isSpan_5 rfl ?_
    refine Ev.icmp_ge fX7_isSpan_7 rfl ⟨by omega, by omega⟩ (by decide) (fun h7 => ?_) (fun h7 => by exfalso; omega)
    refine Ev.iconst fX7_isSpan_14 ?_
    exact Ev.zZ fX7_isSpan_15 rfl (by first | exact Or.inl rfl | exact Or.inr rfl) rfl
theorem eX7_isDigit_t {G : zG} {ia : Nat → Int → Int} {w : (Nat → Int → Int) × (Nat → Int → Int)} {x : Int} (hx : 48 ≤ x ∧ x ≤ 57) : Ev G mX7_isDigit 0 [(0, x)] [] (zH ia w) (.inl (some (0, 1)), zH ia w, 0, 0) := by
  refine Ev.iload_n fX7_isDigit_0 rfl ?_
  refine Ev.bipush fX7_isDigit_1 rfl ?_
  refine Ev.icmp_lt fX7_isDigit_3 rfl ⟨by omega, by omega⟩ (by decide) (fun h3 => by exfalso; omega) (fun h3 => ?_)
  refine Ev.iload_n fX7_isDigit_6 rfl ?_
  refine Ev.bipush fX7_isDigit_7 rfl ?_
  refine Ev.icmp_gt fX7_isDigit_9 rfl ⟨by omega, by omega⟩ (by decide) (fun h9 => by exfalso; omega) (fun h9 => ?_)
  refine Ev.iconst fX7_isDigit_12 ?_
  refine Ev.goto fX7_isDigit_13 rfl ?_
  exact Ev.zZ fX7_isDigit_17 rfl (by first | exact Or.inl rfl | exact Or.inr rfl) rfl
theorem eX7_isDigit_f {G : zG} {ia : Nat → Int → Int} {w : (Nat → Int → Int) × (Nat → Int → Int)} {x : Int} (hr : 0 ≤ x ∧ x ≤ 65535) (hx : ¬ (48 ≤ x ∧ x ≤ 57)) : Ev G mX7_isDigit 0 [(0, x)] [] (zH ia w) (.inl (some (0, 0)), zH ia w, 0, 0) := by
  refine Ev.iload_n fX7_isDigit_0 rfl ?_
  refine Ev.bipush fX7_isDigit_1 rfl ?_
  refine Ev.icmp_lt fX7_isDigit_3 rfl ⟨by omega, by omega⟩ (by decide) (fun h3 => ?_) (fun h3 => ?_)
  · refine Ev.iconst fX7_isDigit_16 ?_
    exact Ev.zZ fX7_isDigit_17 rfl (by first | exact Or.inl rfl | exact Or.inr rfl) rfl
  · refine Ev.iload_n fX7_isDigit_6 rfl ?_
    refine Ev.bipush fX7_isDigit_7 rfl ?_
    refine Ev.icmp_gt fX7_isDigit_9 rfl ⟨by omega, by omega⟩ (by decide) (fun h9 => ?_) (fun h9 => by exfalso; omega)
    refine Ev.iconst fX7_isDigit_16 ?_
    exact Ev.zZ fX7_isDigit_17 rfl (by first | exact Or.inl rfl | exact Or.inr rfl) rfl
theorem eX6_has_t {G : zG} {ia : Nat → Int → Int} {w : (Nat → Int → Int) × (Nat → Int → Int)} {v : Int} (I : zCI ia) (hv : 0 ≤ v ∧ v < ia 3 0) : Ev G mX6_has 0 [(1, 3), (0, v)] [] (zH ia w) (.inl (some (0, 1)), zH ia w, 0, 0) := by
  have hn := I.1
  refine Ev.iload_n fX6_has_0 rfl ?_
  refine Ev.if_lt fX6_has_1 rfl ⟨by omega, by omega⟩ (fun h1 => by exfalso; omega) (fun h1 => ?_)
  refine Ev.iload_n fX6_has_4 rfl ?_
  refine Ev.aload_n_1 fX6_has_5 rfl ?_
  refine Ev.gI 3 0 (v := (ia 3 0)) fX6_has_6 (flX6_9 rfl) rfl rfl rfl ?_
  refine Ev.icmp_ge fX6_has_9 rfl ⟨by omega, by omega⟩ ⟨by omega, by omega⟩ (fun h9 => by exfalso; omega) (fun h9 => ?_)
  refine Ev.iload_n fX6_has_12 rfl ?_
  refine Ev.bipush fX6_has_13 rfl ?_
  refine Ev.icmp_ge fX6_has_15 rfl ⟨by omega, by omega⟩ (by decide) (fun h15 => by exfalso; omega) (fun h15 => ?_)
  refine Ev.iconst fX6_has_18 ?_
  refine Ev.goto fX6_has_19 rfl ?_
  exact Ev.zZ fX6_has_23 rfl (by first | exact Or.inl rfl | exact Or.inr rfl) rfl
theorem eX6_has_f {G : zG} {ia : Nat → Int → Int} {w : (Nat → Int → Int) × (Nat → Int → Int)} {v : Int} (I : zCI ia) (hr : -2147483648 ≤ v ∧ v ≤ 2147483647) (hv : ¬ (0 ≤ v ∧ v < ia 3 0)) : Ev G mX6_has 0 [(1, 3), (0, v)] [] (zH ia w) (.inl (some (0, 0)), zH ia w, 0, 0) := by
  have hn := I.1
  refine Ev.iload_n fX6_has_0 rfl ?_
  refine Ev.if_lt fX6_has_1 rfl ⟨by omega, by omega⟩ (fun h1 => ?_) (fun h1 => ?_)
  · refine Ev.iconst fX6_has_22 ?_
    exact Ev.zZ fX6_has_23 rfl (by first | exact Or.inl rfl | exact Or.inr rfl) rfl
  · refine Ev.iload_n fX6_has_4 rfl ?_
    refine Ev.aload_n_1 fX6_has_5 rfl ?_
    refine Ev.gI 3 0 (v := (ia 3 0)) fX6_has_6 (flX6_9 rfl) rfl rfl rfl ?_
    refine Ev.icmp_ge fX6_has_9 rfl ⟨by omega, by omega⟩ ⟨by omega, by omega⟩ (fun h9 => ?_) (fun h9 => by exfalso; omega)
    refine Ev.iconst fX6_has_22 ?_
    exact Ev.zZ fX6_has_23 rfl (by first | exact Or.inl rfl | exact Or.inr rfl) rfl
theorem eX6_has {G : zG} {ia : Nat → Int → Int} {w : (Nat → Int → Int) × (Nat → Int → Int)} {v : Int} (I : zCI ia) (hr : -2147483648 ≤ v ∧ v ≤ 2147483647) : Ev G mX6_has 0 [(1, 3), (0, v)] [] (zH ia w) (.inl (some (0, if 0 ≤ v ∧ v < ia 3 0 then 1 else 0)), zH ia w, 0, 0) := by
  by_cases h : 0 ≤ v ∧ v < ia 3 0
  · rw [if_pos h]
    exact eX6_has_t I h
  · rw [if_neg h]
    exact eX6_has_f I hr h
theorem eX6_size {G : zG} {ia : Nat → Int → Int} {w : (Nat → Int → Int) × (Nat → Int → Int)}   : Ev G mX6_size 0 [(1, 3)] [] (zH ia w) (.inl (some (0, (ia 3 0))), zH ia w, 0, 0) := by
  refine Ev.aload_n_1 fX6_size_0 rfl ?_
  refine Ev.gI 3 0 (v := (ia 3 0)) fX6_size_1 (flX6_9 rfl) rfl rfl rfl ?_
  exact Ev.zI fX6_size_4 rfl rfl
theorem eX6_isFull_t {G : zG} {ia : Nat → Int → Int} {w : (Nat → Int → Int) × (Nat → Int → Int)}  (I : zCI ia) (hf : 40 ≤ ia 3 0) : Ev G mX6_isFull 0 [(1, 3)] [] (zH ia w) (.inl (some (0, 1)), zH ia w, 0, 0) := by
  have hn := I.1
  refine Ev.aload_n_1 fX6_isFull_0 rfl ?_
  refine Ev.gI 3 0 (v := (ia 3 0)) fX6_isFull_1 (flX6_9 rfl) rfl rfl rfl ?_
  refine Ev.bipush fX6_isFull_4 rfl ?_
  refine Ev.icmp_lt fX6_isFull_6 rfl ⟨by omega, by omega⟩ (by decide) (fun h6 => by exfalso; omega) (fun h6 => ?_)
  refine Ev.iconst fX6_isFull_9 ?_
  refine Ev.goto fX6_isFull_10 rfl ?_
  exact Ev.zZ fX6_isFull_14 rfl (by first | exact Or.inl rfl | exact Or.inr rfl) rfl
theorem eX6_isFull_f {G : zG} {ia : Nat → Int → Int} {w : (Nat → Int → Int) × (Nat → Int → Int)}  (I : zCI ia) (hf : ia 3 0 < 40) : Ev G mX6_isFull 0 [(1, 3)] [] (zH ia w) (.inl (some (0, 0)), zH ia w, 0, 0) := by
  have hn := I.1
  refine Ev.aload_n_1 fX6_isFull_0 rfl ?_
  refine Ev.gI 3 0 (v := (ia 3 0)) fX6_isFull_1 (flX6_9 rfl) rfl rfl rfl ?_
  refine Ev.bipush fX6_isFull_4 rfl ?_
  refine Ev.icmp_lt fX6_isFull_6 rfl ⟨by omega, by omega⟩ (by decide) (fun h6 => ?_) (fun h6 => by exfalso; omega)
  refine Ev.iconst fX6_isFull_13 ?_
  exact Ev.zZ fX6_isFull_14 rfl (by first | exact Or.inl rfl | exact Or.inr rfl) rfl
theorem eX6_parentOf {G : zG} {ia : Nat → Int → Int} {w : (Nat → Int → Int) × (Nat → Int → Int)} {v : Int} (I : zCI ia) (hv : 0 ≤ v ∧ v < ia 3 0) : Ev G mX6_parentOf 0 [(1, 3), (0, v)] [] (zH ia w) (.inl (some (0, (ia 4 v))), zH ia w, 0, 0) := by
  have hn := I.1
  refine Ev.aload_n_1 fX6_parentOf_0 rfl ?_
  refine Ev.iload_n fX6_parentOf_1 rfl ?_
  refine Ev.cVi 3 [(0, v)] [] fX6_parentOf_2 lkX6_parentOf_34 6 TX6 5 rfl rfl rfl (eX6_has_t I ⟨by omega, by omega⟩) ?_
  refine Ev.if_eq fX6_parentOf_5 rfl (by decide) (fun h5 => by exfalso; revert h5; decide) (fun h5 => ?_)
  refine Ev.aload_n_1 fX6_parentOf_8 rfl ?_
  refine Ev.gR 3 1 4 fX6_parentOf_9 (flX6_15 rfl) rfl rfl rfl ?_
  refine Ev.iload_n fX6_parentOf_12 rfl ?_
  refine Ev.ld 4 40 (v := (ia 4 v)) fX6_parentOf_13 rfl rfl ⟨by omega, by omega⟩ rfl ?_
  refine Ev.goto fX6_parentOf_14 rfl ?_
  exact Ev.zI fX6_parentOf_18 rfl rfl
theorem eX6_yearOf {G : zG} {ia : Nat → Int → Int} {w : (Nat → Int → Int) × (Nat → Int → Int)} {v : Int} (I : zCI ia) (hv : 0 ≤ v ∧ v < ia 3 0) : Ev G mX6_yearOf 0 [(1, 3), (0, v)] [] (zH ia w) (.inl (some (0, (ia 5 v))), zH ia w, 0, 0) := by
  have hn := I.1
  refine Ev.aload_n_1 fX6_yearOf_0 rfl ?_
  refine Ev.iload_n fX6_yearOf_1 rfl ?_
  refine Ev.cVi 3 [(0, v)] [] fX6_yearOf_2 lkX6_yearOf_34 6 TX6 5 rfl rfl rfl (eX6_has_t I ⟨by omega, by omega⟩) ?_
  refine Ev.if_eq fX6_yearOf_5 rfl (by decide) (fun h5 => by exfalso; revert h5; decide) (fun h5 => ?_)
  refine Ev.aload_n_1 fX6_yearOf_8 rfl ?_
  refine Ev.gR 3 2 5 fX6_yearOf_9 (flX6_19 rfl) rfl rfl rfl ?_
  refine Ev.iload_n fX6_yearOf_12 rfl ?_
  refine Ev.ld 5 40 (v := (ia 5 v)) fX6_yearOf_13 rfl rfl ⟨by omega, by omega⟩ rfl ?_
  refine Ev.goto fX6_yearOf_14 rfl ?_
  exact Ev.zI fX6_yearOf_18 rfl rfl
theorem eX6_makerOf {G : zG} {ia : Nat → Int → Int} {w : (Nat → Int → Int) × (Nat → Int → Int)} {v s : Int} (I : zCI ia) (hv : 0 ≤ v ∧ v < ia 3 0) (hs : 0 ≤ s ∧ s < 31) : Ev G mX6_makerOf 0 [(1, 3), (0, v), (0, s)] [] (zH ia w) (.inl (some (0, (ia 6 (v * 31 + s)))), zH ia w, 0, 0) := by
  have hn := I.1
  refine Ev.aload_n_1 fX6_makerOf_0 rfl ?_
  refine Ev.iload_n fX6_makerOf_1 rfl ?_
  refine Ev.cVi 3 [(0, v)] [] fX6_makerOf_2 lkX6_makerOf_34 6 TX6 5 rfl rfl rfl (eX6_has_t I ⟨by omega, by omega⟩) ?_
  refine Ev.if_eq fX6_makerOf_5 rfl (by decide) (fun h5 => by exfalso; revert h5; decide) (fun h5 => ?_)
  refine Ev.iload_n fX6_makerOf_8 rfl ?_
  refine Ev.cSNi [(0, s)] [] fX6_makerOf_9 lkX6_makerOf_38 rfl (eX7_isSpan_t ⟨by omega, by omega⟩) ?_
  refine Ev.if_eq fX6_makerOf_12 rfl (by decide) (fun h12 => by exfalso; revert h12; decide) (fun h12 => ?_)
  refine Ev.aload_n_1 fX6_makerOf_15 rfl ?_
  refine Ev.gR 3 3 6 fX6_makerOf_16 (flX6_22 rfl) rfl rfl rfl ?_
  refine Ev.iload_n fX6_makerOf_19 rfl ?_
  refine Ev.bipush fX6_makerOf_20 rfl ?_
  refine Ev.imul fX6_makerOf_22 ?_
  refine Ev.iload_n fX6_makerOf_23 rfl ?_
  refine Ev.iadd fX6_makerOf_24 ?_
  refine Ev.ld 6 1240 (v := (ia 6 ((v * 31) + s))) fX6_makerOf_25 rfl rfl ⟨by omega, by omega⟩ rfl ?_
  refine Ev.goto fX6_makerOf_26 rfl ?_
  exact Ev.zI fX6_makerOf_30 rfl rfl
theorem eX6_totalOf {G : zG} {ia : Nat → Int → Int} {w : (Nat → Int → Int) × (Nat → Int → Int)} {v s : Int} (I : zCI ia) (hv : 0 ≤ v ∧ v < ia 3 0) (hs : 0 ≤ s ∧ s < 31) : Ev G mX6_totalOf 0 [(1, 3), (0, v), (0, s), (9, 0)] [] (zH ia w) (.inl (some (0, (zTo ia v s))), zH ia w, 0, 0) := by
  have hn := I.1
  have hm := I.2.2.1 v s hv.1 hv.2 hs.1 hs.2
  refine Ev.aload_n_1 fX6_totalOf_0 rfl ?_
  refine Ev.iload_n fX6_totalOf_1 rfl ?_
  refine Ev.cVi 3 [(0, v)] [] fX6_totalOf_2 lkX6_totalOf_34 6 TX6 5 rfl rfl rfl (eX6_has_t I ⟨by omega, by omega⟩) ?_
  refine Ev.if_eq fX6_totalOf_5 rfl (by decide) (fun h5 => by exfalso; revert h5; decide) (fun h5 => ?_)
  refine Ev.iload_n fX6_totalOf_8 rfl ?_
  refine Ev.cSNi [(0, s)] [] fX6_totalOf_9 lkX6_totalOf_38 rfl (eX7_isSpan_t ⟨by omega, by omega⟩) ?_
  refine Ev.if_ne fX6_totalOf_12 rfl (by decide) (fun h12 => ?_) (fun h12 => by exfalso; revert h12; decide)
  refine Ev.aload_n_1 fX6_totalOf_17 rfl ?_
  refine Ev.gR 3 3 6 fX6_totalOf_18 (flX6_22 rfl) rfl rfl rfl ?_
  refine Ev.iload_n fX6_totalOf_21 rfl ?_
  refine Ev.bipush fX6_totalOf_22 rfl ?_
  refine Ev.imul fX6_totalOf_24 ?_
  refine Ev.iload_n fX6_totalOf_25 rfl ?_
  refine Ev.iadd fX6_totalOf_26 ?_
  refine Ev.ld 6 1240 (v := (ia 6 ((v * 31) + s))) fX6_totalOf_27 rfl rfl ⟨by omega, by omega⟩ rfl ?_
  refine Ev.sistore_n [(1, 3), (0, v), (0, s), (0, (ia 6 ((v * 31) + s)))] fX6_totalOf_28 rfl rfl ?_
  refine Ev.aload_n_1 fX6_totalOf_29 rfl ?_
  refine Ev.iload_n fX6_totalOf_30 rfl ?_
  refine Ev.cVi 3 [(0, (ia 6 ((v * 31) + s)))] [] fX6_totalOf_31 lkX6_totalOf_34 6 TX6 5 rfl rfl rfl (eX6_has_t I ⟨by omega, by omega⟩) ?_
  refine Ev.if_eq fX6_totalOf_34 rfl (by decide) (fun h34 => by exfalso; revert h34; decide) (fun h34 => ?_)
  refine Ev.aload_n_1 fX6_totalOf_37 rfl ?_
  refine Ev.gR 3 4 7 fX6_totalOf_38 (flX6_25 rfl) rfl rfl rfl ?_
  refine Ev.iload_n fX6_totalOf_41 rfl ?_
  refine Ev.bipush fX6_totalOf_42 rfl ?_
  refine Ev.imul fX6_totalOf_44 ?_
  refine Ev.iload_n fX6_totalOf_45 rfl ?_
  refine Ev.iadd fX6_totalOf_46 ?_
  refine Ev.ld 7 1240 (v := (ia 7 (((ia 6 ((v * 31) + s)) * 31) + s))) fX6_totalOf_47 rfl rfl ⟨by omega, by omega⟩ rfl ?_
  refine Ev.goto fX6_totalOf_48 rfl ?_
  exact Ev.zI fX6_totalOf_52 rfl rfl
theorem eX6_amountOn {G : zG} {ia : Nat → Int → Int} {w : (Nat → Int → Int) × (Nat → Int → Int)} {v l : Int} (I : zCI ia) (hv : 0 ≤ v ∧ v < ia 3 0) (hl : 0 ≤ l ∧ l < 16) : Ev G mX6_amountOn 0 [(1, 3), (0, v), (0, l)] [] (zH ia w) (.inl (some (0, (zTo ia v (15 + l)))), zH ia w, 0, 0) := by
  have hn := I.1
  refine Ev.aload_n_1 fX6_amountOn_0 rfl ?_
  refine Ev.iload_n fX6_amountOn_1 rfl ?_
  refine Ev.bipush fX6_amountOn_2 rfl ?_
  refine Ev.iload_n fX6_amountOn_4 rfl ?_
  refine Ev.iadd fX6_amountOn_5 ?_
  refine Ev.cVi 3 [(0, v), (0, (15 + l))] [] fX6_amountOn_6 lkX6_amountOn_41 6 TX6 5 rfl rfl rfl (eX6_totalOf I ⟨by omega, by omega⟩ ⟨by omega, by omega⟩) ?_
  exact Ev.zI fX6_amountOn_9 rfl rfl
theorem eX6_totalOfHalves {G : zG} {ia : Nat → Int → Int} {w : (Nat → Int → Int) × (Nat → Int → Int)} {v s : Int} (I : zCI ia) (hv : 0 ≤ v ∧ v < ia 3 0) (hs : 0 ≤ s ∧ s < 15) : Ev G mX6_totalOfHalves 0 [(1, 3), (0, v), (0, s)] [] (zH ia w) (.inl (some (0, (zTo ia v (2 * s + 1) + zTo ia v (2 * s + 2)))), zH ia w, 0, 0) := by
  have hn := I.1
  refine Ev.aload_n_1 fX6_totalOfHalves_0 rfl ?_
  refine Ev.iload_n fX6_totalOfHalves_1 rfl ?_
  refine Ev.iconst fX6_totalOfHalves_2 ?_
  refine Ev.iload_n fX6_totalOfHalves_3 rfl ?_
  refine Ev.imul fX6_totalOfHalves_4 ?_
  refine Ev.iconst fX6_totalOfHalves_5 ?_
  refine Ev.iadd fX6_totalOfHalves_6 ?_
  refine Ev.cVi 3 [(0, v), (0, ((2 * s) + 1))] [] fX6_totalOfHalves_7 lkX6_totalOfHalves_41 6 TX6 5 rfl rfl rfl (eX6_totalOf I ⟨by omega, by omega⟩ ⟨by omega, by omega⟩) ?_
  refine Ev.aload_n_1 fX6_totalOfHalves_10 rfl ?_
  refine Ev.iload_n fX6_totalOfHalves_11 rfl ?_
  refine Ev.iconst fX6_totalOfHalves_12 ?_
  refine Ev.iload_n fX6_totalOfHalves_13 rfl ?_
  refine Ev.imul fX6_totalOfHalves_14 ?_
  refine Ev.iconst fX6_totalOfHalves_15 ?_
  refine Ev.iadd fX6_totalOfHalves_16 ?_
  refine Ev.cVi 3 [(0, v), (0, ((2 * s) + 2))] [(0, (zTo ia v ((2 * s) + 1)))] fX6_totalOfHalves_17 lkX6_totalOfHalves_41 6 TX6 5 rfl rfl rfl (eX6_totalOf I ⟨by omega, by omega⟩ ⟨by omega, by omega⟩) ?_
  refine Ev.iadd fX6_totalOfHalves_20 ?_
  exact Ev.zI fX6_totalOfHalves_21 rfl rfl
theorem eX6_linesApart_L {G : zG} {ia : Nat → Int → Int} {w : (Nat → Int → Int) × (Nat → Int → Int)} {one other first last : Int} (I : zCI ia) (ho : 0 ≤ one ∧ one < ia 3 0) (hp : 0 ≤ other ∧ other < ia 3 0) (hf : -2147483648 ≤ first ∧ first ≤ 2147483647) (hl : -2147483648 ≤ last ∧ last ≤ 2147483647) : ∀ (n : Nat) (k acc : Int), (16 - k < n) → (0 ≤ k) → (k ≤ 16) → (acc = zsum (fun j => if first ≤ j ∧ j ≤ last ∧ zTo ia one (15 + j) ≠ zTo ia other (15 + j) then 1 else 0) k) → Ev G mX6_linesApart 6 [(1, 3), (0, one), (0, other), (0, first), (0, last), (0, acc), (0, k)] [] (zH ia w) (.inl (some (0, zsum (fun j => if first ≤ j ∧ j ≤ last ∧ zTo ia one (15 + j) ≠ zTo ia other (15 + j) then 1 else 0) 16)), zH ia w, 0, 0) := by
  intro n
  induction n with
  | zero =>
    intro k acc hN hk0 hk1 hacc
    exact absurd hN (by omega)
  | succ n ih =>
    intro k acc hN hk0 hk1 hacc
    have hn := I.1
    refine Ev.iload fX6_linesApart_6 rfl ?_
    refine Ev.bipush fX6_linesApart_8 rfl ?_
    refine Ev.icmp_ge fX6_linesApart_10 rfl ⟨by omega, by omega⟩ (by decide) (fun h10 => ?_) (fun h10 => ?_)
    · refine Ev.iload fX6_linesApart_52 rfl ?_
      exact Ev.zI fX6_linesApart_54 rfl (by rw [hacc, show k = 16 by omega])
    · refine Ev.iload fX6_linesApart_13 rfl ?_
      refine Ev.iload_n fX6_linesApart_15 rfl ?_
      refine Ev.icmp_lt fX6_linesApart_16 rfl ⟨by omega, by omega⟩ ⟨by omega, by omega⟩ (fun h16 => ?_) (fun h16 => ?_)
      · refine Ev.siinc [(1, 3), (0, one), (0, other), (0, first), (0, last), (0, acc), (0, (k + 1))] fX6_linesApart_46 rfl rfl rfl ?_
        refine Ev.goto fX6_linesApart_49 rfl ?_
        exact ih (k + 1) acc (by omega) (by omega) (by omega) (by rw [zsum_s hk0, hacc]; rw [if_neg (by omega)]; omega)
      · refine Ev.iload fX6_linesApart_19 rfl ?_
        refine Ev.iload fX6_linesApart_21 rfl ?_
        refine Ev.icmp_gt fX6_linesApart_23 rfl ⟨by omega, by omega⟩ ⟨by omega, by omega⟩ (fun h23 => ?_) (fun h23 => ?_)
        · refine Ev.siinc [(1, 3), (0, one), (0, other), (0, first), (0, last), (0, acc), (0, (k + 1))] fX6_linesApart_46 rfl rfl rfl ?_
          refine Ev.goto fX6_linesApart_49 rfl ?_
          exact ih (k + 1) acc (by omega) (by omega) (by omega) (by rw [zsum_s hk0, hacc]; rw [if_neg (by omega)]; omega)
        · have t1 := I.to one (15 + k) ho.1 ho.2 (by omega) (by omega)
          have t2 := I.to other (15 + k) hp.1 hp.2 (by omega) (by omega)
          refine Ev.aload_n_1 fX6_linesApart_26 rfl ?_
          refine Ev.iload_n fX6_linesApart_27 rfl ?_
          refine Ev.iload fX6_linesApart_28 rfl ?_
          refine Ev.cVi 3 [(0, one), (0, k)] [] fX6_linesApart_30 lkX6_linesApart_69 6 TX6 5 rfl rfl rfl (eX6_amountOn I ⟨by omega, by omega⟩ ⟨by omega, by omega⟩) ?_
          refine Ev.aload_n_1 fX6_linesApart_33 rfl ?_
          refine Ev.iload_n fX6_linesApart_34 rfl ?_
          refine Ev.iload fX6_linesApart_35 rfl ?_
          refine Ev.cVi 3 [(0, other), (0, k)] [(0, (zTo ia one (15 + k)))] fX6_linesApart_37 lkX6_linesApart_69 6 TX6 5 rfl rfl rfl (eX6_amountOn I ⟨by omega, by omega⟩ ⟨by omega, by omega⟩) ?_
          refine Ev.icmp_eq fX6_linesApart_40 rfl ⟨by omega, by omega⟩ ⟨by omega, by omega⟩ (fun h40 => ?_) (fun h40 => ?_)
          · refine Ev.siinc [(1, 3), (0, one), (0, other), (0, first), (0, last), (0, acc), (0, (k + 1))] fX6_linesApart_46 rfl rfl rfl ?_
            refine Ev.goto fX6_linesApart_49 rfl ?_
            exact ih (k + 1) acc (by omega) (by omega) (by omega) (by rw [zsum_s hk0, hacc]; rw [if_neg (by omega)]; omega)
          · refine Ev.siinc [(1, 3), (0, one), (0, other), (0, first), (0, last), (0, (acc + 1)), (0, k)] fX6_linesApart_43 rfl rfl rfl ?_
            refine Ev.siinc [(1, 3), (0, one), (0, other), (0, first), (0, last), (0, (acc + 1)), (0, (k + 1))] fX6_linesApart_46 rfl rfl rfl ?_
            refine Ev.goto fX6_linesApart_49 rfl ?_
            exact ih (k + 1) (acc + 1) (by omega) (by omega) (by omega) (by rw [zsum_s hk0, hacc]; rw [if_pos (by refine ⟨?_, ?_, ?_⟩ <;> omega)])
theorem eX6_linesApart {G : zG} {ia : Nat → Int → Int} {w : (Nat → Int → Int) × (Nat → Int → Int)} {one other first last : Int} (I : zCI ia) (ho : 0 ≤ one ∧ one < ia 3 0) (hp : 0 ≤ other ∧ other < ia 3 0) (hf : -2147483648 ≤ first ∧ first ≤ 2147483647) (hl : -2147483648 ≤ last ∧ last ≤ 2147483647) : Ev G mX6_linesApart 0 [(1, 3), (0, one), (0, other), (0, first), (0, last), (9, 0), (9, 0)] [] (zH ia w) (.inl (some (0, (zsum (fun j => if first ≤ j ∧ j ≤ last ∧ zTo ia one (15 + j) ≠ zTo ia other (15 + j) then 1 else 0) 16))), zH ia w, 0, 0) := by
  have hn := I.1
  refine Ev.iconst fX6_linesApart_0 ?_
  refine Ev.sistore [(1, 3), (0, one), (0, other), (0, first), (0, last), (0, 0), (9, 0)] fX6_linesApart_1 rfl rfl ?_
  refine Ev.iconst fX6_linesApart_3 ?_
  refine Ev.sistore [(1, 3), (0, one), (0, other), (0, first), (0, last), (0, 0), (0, 0)] fX6_linesApart_4 rfl rfl ?_
  exact eX6_linesApart_L I ho hp hf hl 1000 0 0 (by omega) (by omega) (by omega) rfl
