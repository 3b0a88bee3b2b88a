/-! COMMANDS ONE BY ONE, BOTH SIDES (printed by wip/whole/gen/rel6.py) -/
theorem zdv_999 {ch : Int → Int} {n : Nat} {p : Int} (hn : n = 1 ∨ n = 2 ∨ n = 3) : 0 ≤ zdv ch n p 0 ∧ zdv ch n p 0 ≤ 999 := by
  have h := zdv_in (ch := ch) n p 0 (Int.le_refl 0)
  refine ⟨h.1, Int.le_trans h.2 ?_⟩
  rcases hn with rfl | rfl | rfl <;> decide
theorem zbad {a q : Int} {c mf : Int → Int} {P9 : Prop} (h : (a, (0 : Int), c) = (q, 1, mf)) : P9 := absurd (zpr h).2.1 (by decide)
theorem zrn_121 {ch : Int → Int} {p q : Int} {nf mf : Int → Int} (hc : ch p = 121) (hR : zrd ch p nf = (q, 1, mf)) : ∀ j : Int, 0 ≤ j → j < zcn (ch p) → 0 ≤ mf j ∧ mf j ≤ 999 := by
  rw [zrd_l hc (by decide), show zfL 121 = [50] from rfl, show ([50] : List Int).length = 1 from rfl] at hR
  by_cases c0 : 48 ≤ ch (p + 1) ∧ ch (p + 1) ≤ 57
  rotate_left
  · rw [zpt_n0 (m := 2) c0 (by decide) (by decide)] at hR
    exact zbad hR
  rw [zpt_n1 (m := 2) c0 (by decide) (by decide)] at hR
  rw [zpt_0] at hR
  obtain ⟨rfl, _, rfl⟩ := zpr hR
  intro j h1 h2
  rw [hc, show zcn 121 = 1 from rfl] at h2
  have h3 : j = 0 := by omega
  subst h3
  · show 0 ≤ zdv ch 2 (p + 1) 0 ∧ zdv ch 2 (p + 1) 0 ≤ 999
    exact zdv_999 (by decide)
theorem zrn_119 {ch : Int → Int} {p q : Int} {nf mf : Int → Int} (hc : ch p = 119) (hR : zrd ch p nf = (q, 1, mf)) : ∀ j : Int, 0 ≤ j → j < zcn (ch p) → 0 ≤ mf j ∧ mf j ≤ 999 := by
  rw [zrd_l hc (by decide), show zfL 119 = [49, 47, 50, 61, 51] from rfl, show ([49, 47, 50, 61, 51] : List Int).length = 5 from rfl] at hR
  by_cases c0 : 48 ≤ ch (p + 1) ∧ ch (p + 1) ≤ 57
  rotate_left
  · rw [zpt_n0 (m := 1) c0 (by decide) (by decide)] at hR
    exact zbad hR
  rw [zpt_n1 (m := 1) c0 (by decide) (by decide)] at hR
  by_cases c1 : ch (zdn ch 1 (p + 1)) = 47
  rotate_left
  · rw [zpt_s0 c1 (by decide) (by decide)] at hR
    exact zbad hR
  rw [zpt_s1 c1 (by decide) (by decide)] at hR
  by_cases c2 : 48 ≤ ch ((zdn ch 1 (p + 1)) + 1) ∧ ch ((zdn ch 1 (p + 1)) + 1) ≤ 57
  rotate_left
  · rw [zpt_n0 (m := 2) c2 (by decide) (by decide)] at hR
    exact zbad hR
  rw [zpt_n1 (m := 2) c2 (by decide) (by decide)] at hR
  by_cases c3 : ch (zdn ch 2 ((zdn ch 1 (p + 1)) + 1)) = 61
  rotate_left
  · rw [zpt_s0 c3 (by decide) (by decide)] at hR
    exact zbad hR
  rw [zpt_s1 c3 (by decide) (by decide)] at hR
  by_cases c4 : 48 ≤ ch ((zdn ch 2 ((zdn ch 1 (p + 1)) + 1)) + 1) ∧ ch ((zdn ch 2 ((zdn ch 1 (p + 1)) + 1)) + 1) ≤ 57
  rotate_left
  · rw [zpt_n0 (m := 3) c4 (by decide) (by decide)] at hR
    exact zbad hR
  rw [zpt_n1 (m := 3) c4 (by decide) (by decide)] at hR
  rw [zpt_0] at hR
  obtain ⟨rfl, _, rfl⟩ := zpr hR
  intro j h1 h2
  rw [hc, show zcn 119 = 3 from rfl] at h2
  have h3 : j = 0 ∨ j = 1 ∨ j = 2 := by omega
  rcases h3 with rfl | rfl | rfl
  · show 0 ≤ zdv ch 1 (p + 1) 0 ∧ zdv ch 1 (p + 1) 0 ≤ 999
    exact zdv_999 (by decide)
  · show 0 ≤ zdv ch 2 ((zdn ch 1 (p + 1)) + 1) 0 ∧ zdv ch 2 ((zdn ch 1 (p + 1)) + 1) 0 ≤ 999
    exact zdv_999 (by decide)
  · show 0 ≤ zdv ch 3 ((zdn ch 2 ((zdn ch 1 (p + 1)) + 1)) + 1) 0 ∧ zdv ch 3 ((zdn ch 2 ((zdn ch 1 (p + 1)) + 1)) + 1) 0 ≤ 999
    exact zdv_999 (by decide)
theorem zrn_103 {ch : Int → Int} {p q : Int} {nf mf : Int → Int} (hc : ch p = 103) (hR : zrd ch p nf = (q, 1, mf)) : ∀ j : Int, 0 ≤ j → j < zcn (ch p) → 0 ≤ mf j ∧ mf j ≤ 999 := by
  rw [zrd_l hc (by decide), show zfL 103 = [49, 47, 50, 58, 50, 45, 50] from rfl, show ([49, 47, 50, 58, 50, 45, 50] : List Int).length = 7 from rfl] at hR
  by_cases c0 : 48 ≤ ch (p + 1) ∧ ch (p + 1) ≤ 57
  rotate_left
  · rw [zpt_n0 (m := 1) c0 (by decide) (by decide)] at hR
    exact zbad hR
  rw [zpt_n1 (m := 1) c0 (by decide) (by decide)] at hR
  by_cases c1 : ch (zdn ch 1 (p + 1)) = 47
  rotate_left
  · rw [zpt_s0 c1 (by decide) (by decide)] at hR
    exact zbad hR
  rw [zpt_s1 c1 (by decide) (by decide)] at hR
  by_cases c2 : 48 ≤ ch ((zdn ch 1 (p + 1)) + 1) ∧ ch ((zdn ch 1 (p + 1)) + 1) ≤ 57
  rotate_left
  · rw [zpt_n0 (m := 2) c2 (by decide) (by decide)] at hR
    exact zbad hR
  rw [zpt_n1 (m := 2) c2 (by decide) (by decide)] at hR
  by_cases c3 : ch (zdn ch 2 ((zdn ch 1 (p + 1)) + 1)) = 58
  rotate_left
  · rw [zpt_s0 c3 (by decide) (by decide)] at hR
    exact zbad hR
  rw [zpt_s1 c3 (by decide) (by decide)] at hR
  by_cases c4 : 48 ≤ ch ((zdn ch 2 ((zdn ch 1 (p + 1)) + 1)) + 1) ∧ ch ((zdn ch 2 ((zdn ch 1 (p + 1)) + 1)) + 1) ≤ 57
  rotate_left
  · rw [zpt_n0 (m := 2) c4 (by decide) (by decide)] at hR
    exact zbad hR
  rw [zpt_n1 (m := 2) c4 (by decide) (by decide)] at hR
  by_cases c5 : ch (zdn ch 2 ((zdn ch 2 ((zdn ch 1 (p + 1)) + 1)) + 1)) = 45
  rotate_left
  · rw [zpt_s0 c5 (by decide) (by decide)] at hR
    exact zbad hR
  rw [zpt_s1 c5 (by decide) (by decide)] at hR
  by_cases c6 : 48 ≤ ch ((zdn ch 2 ((zdn ch 2 ((zdn ch 1 (p + 1)) + 1)) + 1)) + 1) ∧ ch ((zdn ch 2 ((zdn ch 2 ((zdn ch 1 (p + 1)) + 1)) + 1)) + 1) ≤ 57
  rotate_left
  · rw [zpt_n0 (m := 2) c6 (by decide) (by decide)] at hR
    exact zbad hR
  rw [zpt_n1 (m := 2) c6 (by decide) (by decide)] at hR
  rw [zpt_0] at hR
  obtain ⟨rfl, _, rfl⟩ := zpr hR
  intro j h1 h2
  rw [hc, show zcn 103 = 4 from rfl] at h2
  have h3 : j = 0 ∨ j = 1 ∨ j = 2 ∨ j = 3 := by omega
  rcases h3 with rfl | rfl | rfl | rfl
  · show 0 ≤ zdv ch 1 (p + 1) 0 ∧ zdv ch 1 (p + 1) 0 ≤ 999
    exact zdv_999 (by decide)
  · show 0 ≤ zdv ch 2 ((zdn ch 1 (p + 1)) + 1) 0 ∧ zdv ch 2 ((zdn ch 1 (p + 1)) + 1) 0 ≤ 999
    exact zdv_999 (by decide)
  · show 0 ≤ zdv ch 2 ((zdn ch 2 ((zdn ch 1 (p + 1)) + 1)) + 1) 0 ∧ zdv ch 2 ((zdn ch 2 ((zdn ch 1 (p + 1)) + 1)) + 1) 0 ≤ 999
    exact zdv_999 (by decide)
  · show 0 ≤ zdv ch 2 ((zdn ch 2 ((zdn ch 2 ((zdn ch 1 (p + 1)) + 1)) + 1)) + 1) 0 ∧ zdv ch 2 ((zdn ch 2 ((zdn ch 2 ((zdn ch 1 (p + 1)) + 1)) + 1)) + 1) 0 ≤ 999
    exact zdv_999 (by decide)
theorem zrn_102 {ch : Int → Int} {p q : Int} {nf mf : Int → Int} (hc : ch p = 102) (hR : zrd ch p nf = (q, 1, mf)) : ∀ j : Int, 0 ≤ j → j < zcn (ch p) → 0 ≤ mf j ∧ mf j ≤ 999 := by
  rw [zrd_l hc (by decide), show zfL 102 = [49, 60, 49] from rfl, show ([49, 60, 49] : List Int).length = 3 from rfl] at hR
  by_cases c0 : 48 ≤ ch (p + 1) ∧ ch (p + 1) ≤ 57
  rotate_left
  · rw [zpt_n0 (m := 1) c0 (by decide) (by decide)] at hR
    exact zbad hR
  rw [zpt_n1 (m := 1) c0 (by decide) (by decide)] at hR
  by_cases c1 : ch (zdn ch 1 (p + 1)) = 60
  rotate_left
  · rw [zpt_s0 c1 (by decide) (by decide)] at hR
    exact zbad hR
  rw [zpt_s1 c1 (by decide) (by decide)] at hR
  by_cases c2 : 48 ≤ ch ((zdn ch 1 (p + 1)) + 1) ∧ ch ((zdn ch 1 (p + 1)) + 1) ≤ 57
  rotate_left
  · rw [zpt_n0 (m := 1) c2 (by decide) (by decide)] at hR
    exact zbad hR
  rw [zpt_n1 (m := 1) c2 (by decide) (by decide)] at hR
  rw [zpt_0] at hR
  obtain ⟨rfl, _, rfl⟩ := zpr hR
  intro j h1 h2
  rw [hc, show zcn 102 = 2 from rfl] at h2
  have h3 : j = 0 ∨ j = 1 := by omega
  rcases h3 with rfl | rfl
  · show 0 ≤ zdv ch 1 (p + 1) 0 ∧ zdv ch 1 (p + 1) 0 ≤ 999
    exact zdv_999 (by decide)
  · show 0 ≤ zdv ch 1 ((zdn ch 1 (p + 1)) + 1) 0 ∧ zdv ch 1 ((zdn ch 1 (p + 1)) + 1) 0 ≤ 999
    exact zdv_999 (by decide)
theorem zrn_98 {ch : Int → Int} {p q : Int} {nf mf : Int → Int} (hc : ch p = 98) (hR : zrd ch p nf = (q, 1, mf)) : ∀ j : Int, 0 ≤ j → j < zcn (ch p) → 0 ≤ mf j ∧ mf j ≤ 999 := by
  rw [zrd_l hc (by decide), show zfL 98 = [49, 42, 50] from rfl, show ([49, 42, 50] : List Int).length = 3 from rfl] at hR
  by_cases c0 : 48 ≤ ch (p + 1) ∧ ch (p + 1) ≤ 57
  rotate_left
  · rw [zpt_n0 (m := 1) c0 (by decide) (by decide)] at hR
    exact zbad hR
  rw [zpt_n1 (m := 1) c0 (by decide) (by decide)] at hR
  by_cases c1 : ch (zdn ch 1 (p + 1)) = 42
  rotate_left
  · rw [zpt_s0 c1 (by decide) (by decide)] at hR
    exact zbad hR
  rw [zpt_s1 c1 (by decide) (by decide)] at hR
  by_cases c2 : 48 ≤ ch ((zdn ch 1 (p + 1)) + 1) ∧ ch ((zdn ch 1 (p + 1)) + 1) ≤ 57
  rotate_left
  · rw [zpt_n0 (m := 2) c2 (by decide) (by decide)] at hR
    exact zbad hR
  rw [zpt_n1 (m := 2) c2 (by decide) (by decide)] at hR
  rw [zpt_0] at hR
  obtain ⟨rfl, _, rfl⟩ := zpr hR
  intro j h1 h2
  rw [hc, show zcn 98 = 2 from rfl] at h2
  have h3 : j = 0 ∨ j = 1 := by omega
  rcases h3 with rfl | rfl
  · show 0 ≤ zdv ch 1 (p + 1) 0 ∧ zdv ch 1 (p + 1) 0 ≤ 999
    exact zdv_999 (by decide)
  · show 0 ≤ zdv ch 2 ((zdn ch 1 (p + 1)) + 1) 0 ∧ zdv ch 2 ((zdn ch 1 (p + 1)) + 1) 0 ≤ 999
    exact zdv_999 (by decide)
theorem zfL_in {x : Int} (h : zfL x ≠ []) : x = 119 ∨ x = 103 ∨ x = 102 ∨ x = 98 ∨ x = 121 := by
  unfold zfL at h
  by_cases h1 : x = 119
  · exact Or.inl h1
  · by_cases h2 : x = 103
    · exact Or.inr (Or.inl h2)
    · by_cases h3 : x = 102
      · exact Or.inr (Or.inr (Or.inl h3))
      · by_cases h4 : x = 98
        · exact Or.inr (Or.inr (Or.inr (Or.inl h4)))
        · by_cases h5 : x = 121
          · exact Or.inr (Or.inr (Or.inr (Or.inr h5)))
          · rw [if_neg h1, if_neg h2, if_neg h3, if_neg h4, if_neg h5] at h
            exact absurd rfl h
theorem zrd_l1 {ch : Int → Int} {p q : Int} {nf mf : Int → Int} (hR : zrd ch p nf = (q, 1, mf)) : zfL (ch p) ≠ [] := by
  intro h
  unfold zrd at hR
  rw [if_pos h] at hR
  exact zbad hR
theorem zrn {ch : Int → Int} {p q : Int} {nf mf : Int → Int} (hR : zrd ch p nf = (q, 1, mf)) : ∀ j : Int, 0 ≤ j → j < zcn (ch p) → 0 ≤ mf j ∧ mf j ≤ 999 := by
  rcases zfL_in (zrd_l1 hR) with h | h | h | h | h
  · exact zrn_119 h hR
  · exact zrn_103 h hR
  · exact zrn_102 h hR
  · exact zrn_98 h hR
  · exact zrn_121 h hR
theorem zDf_c {ia : Nat → Int → Int} {p k : Int} {nf : Int → Int} {c : Nat} (h1 : c ≠ 19) (h2 : c ≠ 21) : zDf ia p k nf c = ia c := by
  funext i
  unfold zDf
  rw [if_neg (fun e => h1 e.1), if_neg (fun e => h1 e.1), if_neg h2]
theorem zVw_df {ia : Nat → Int → Int} {p k : Int} {nf g : Int → Int} (V : zVw ia g) : zVw (zDf ia p k nf) g := zVw_cg V (zSbk_of fun c _ h2 => zDf_c (by omega) (by omega))
/-- a command that was read, carried out by both sides -/
def zCC9 (G : zG) (w : (Nat → Int → Int) × (Nat → Int → Int)) (m x : Int) (mf : Int → Int) (ia : Nat → Int → Int) : Prop :=
  (∃ a b : Int, (1 ≤ a ∧ a ≤ 8) ∧ (0 ≤ b ∧ b ≤ 100) ∧ Ev G mX1_carryOut 0 [(1, 1), (1, 19), (9, 0)] [] (zH ia w) (.inl (some (0, (-1))), zH (zu (zu (zu ia 9 0 a) 9 1 b) 9 2 0) w, 0, 0) ∧ ∀ ib, zMd ia ib → ib 33 (5 * m) = x → (∀ j : Int, 0 ≤ j → j < zcn x → ib 33 (5 * m + 1 + j) = mf j) → ∀ w2, Ev G mX8_carries 0 [(1, 24), (0, (5 * m))] [] (zH ib w2) (.inl (some (0, 0)), zH (zrf ib a b (zwi ib)) w2, 0, 0)) ∨
  (∃ (r : Int) (ia1 : Nat → Int → Int), (0 ≤ r ∧ r ≤ 1000) ∧ Ev G mX1_carryOut 0 [(1, 1), (1, 19), (9, 0)] [] (zH ia w) (.inl (some (0, r)), zH ia1 w, 0, 0) ∧ zGv ia ia1 ∧ (∀ c : Nat, c < 2 ∨ 8 < c → ia1 c = ia c) ∧ ∀ ib, zMd ia ib → ib 33 (5 * m) = x → (∀ j : Int, 0 ≤ j → j < zcn x → ib 33 (5 * m + 1 + j) = mf j) → ∃ g2, zVw ia1 g2 ∧ ∀ w2, Ev G mX8_carries 0 [(1, 24), (0, (5 * m))] [] (zH ib w2) (.inl (some (0, r)), zH (zgr (zKp ib 25) g2) w2, 0, 0))
theorem cj_carry_119 {G : zG} {w : (Nat → Int → Int) × (Nat → Int → Int)} {ia : Nat → Int → Int} {g mf : Int → Int} {q m : Int} (hG : zGo G) (V : zVw ia g) (hm : 0 ≤ m ∧ m ≤ 30) (hn : ∀ j : Int, 0 ≤ j → j < zcn 119 → 0 ≤ mf j ∧ mf j ≤ 999) : zCC9 G w m 119 mf (zDf ia q 119 mf) := by
  have r9 : ∀ j : Int, 0 ≤ j → j < zcn 119 → zI32 (mf j) := fun j h1 h2 => by
    have := hn j h1 h2
    exact ⟨by omega, by omega⟩
  rcases cj_write (G := G) (w := w) hG (zVw_df (p := q) (k := 119) (nf := mf) V) (r9 0 (by decide) (by decide)) (r9 1 (by decide) (by decide)) (r9 2 (by decide) (by decide)) with ⟨a, b, ha, hb, E1, E2⟩ | ⟨r, ia1, hr, E1, Gv, F, E2⟩
  · refine Or.inl ⟨a, b, ha, hb, eX1_carryOut_119 E1, fun ib D hk hj w2 => ?_⟩
    · have h9 := E2 ib D w2
      have n0 : ib 33 (5 * m + 1) = mf 0 := by
        have h := hj 0 (by decide) (by decide)
        rw [show 5 * m + 1 + 0 = 5 * m + 1 by omega] at h
        exact h
      have n1 : ib 33 (5 * m + 2) = mf 1 := by
        have h := hj 1 (by decide) (by decide)
        rw [show 5 * m + 1 + 1 = 5 * m + 2 by omega] at h
        exact h
      have n2 : ib 33 (5 * m + 3) = mf 2 := by
        have h := hj 2 (by decide) (by decide)
        rw [show 5 * m + 1 + 2 = 5 * m + 3 by omega] at h
        exact h
      rw [← n0, ← n1, ← n2] at h9
      exact eX8_carries_119 hm hk h9
  · refine Or.inr ⟨r, ia1, hr, eX1_carryOut_119 E1, Gv, F, fun ib D hk hj => ?_⟩
    obtain ⟨g2, V2, E3⟩ := E2 ib D
    refine ⟨g2, V2, fun w2 => ?_⟩
    · have h9 := E3 w2
      have n0 : ib 33 (5 * m + 1) = mf 0 := by
        have h := hj 0 (by decide) (by decide)
        rw [show 5 * m + 1 + 0 = 5 * m + 1 by omega] at h
        exact h
      have n1 : ib 33 (5 * m + 2) = mf 1 := by
        have h := hj 1 (by decide) (by decide)
        rw [show 5 * m + 1 + 1 = 5 * m + 2 by omega] at h
        exact h
      have n2 : ib 33 (5 * m + 3) = mf 2 := by
        have h := hj 2 (by decide) (by decide)
        rw [show 5 * m + 1 + 2 = 5 * m + 3 by omega] at h
        exact h
      rw [← n0, ← n1, ← n2] at h9
      exact eX8_carries_119 hm hk h9
theorem cj_carry_103 {G : zG} {w : (Nat → Int → Int) × (Nat → Int → Int)} {ia : Nat → Int → Int} {g mf : Int → Int} {q m : Int} (hG : zGo G) (V : zVw ia g) (hm : 0 ≤ m ∧ m ≤ 30) (hn : ∀ j : Int, 0 ≤ j → j < zcn 103 → 0 ≤ mf j ∧ mf j ≤ 999) : zCC9 G w m 103 mf (zDf ia q 103 mf) := by
  have r9 : ∀ j : Int, 0 ≤ j → j < zcn 103 → zI32 (mf j) := fun j h1 h2 => by
    have := hn j h1 h2
    exact ⟨by omega, by omega⟩
  rcases cj_graft (G := G) (w := w) hG (zVw_df (p := q) (k := 103) (nf := mf) V) (r9 0 (by decide) (by decide)) (r9 1 (by decide) (by decide)) (r9 2 (by decide) (by decide)) (r9 3 (by decide) (by decide)) with ⟨a, b, ha, hb, E1, E2⟩ | ⟨r, ia1, hr, E1, Gv, F, E2⟩
  · refine Or.inl ⟨a, b, ha, hb, eX1_carryOut_103 E1, fun ib D hk hj w2 => ?_⟩
    · have h9 := E2 ib D w2
      have n0 : ib 33 (5 * m + 1) = mf 0 := by
        have h := hj 0 (by decide) (by decide)
        rw [show 5 * m + 1 + 0 = 5 * m + 1 by omega] at h
        exact h
      have n1 : ib 33 (5 * m + 2) = mf 1 := by
        have h := hj 1 (by decide) (by decide)
        rw [show 5 * m + 1 + 1 = 5 * m + 2 by omega] at h
        exact h
      have n2 : ib 33 (5 * m + 3) = mf 2 := by
        have h := hj 2 (by decide) (by decide)
        rw [show 5 * m + 1 + 2 = 5 * m + 3 by omega] at h
        exact h
      have n3 : ib 33 (5 * m + 4) = mf 3 := by
        have h := hj 3 (by decide) (by decide)
        rw [show 5 * m + 1 + 3 = 5 * m + 4 by omega] at h
        exact h
      rw [← n0, ← n1, ← n2, ← n3] at h9
      exact eX8_carries_103 hm hk h9
  · refine Or.inr ⟨r, ia1, hr, eX1_carryOut_103 E1, Gv, F, fun ib D hk hj => ?_⟩
    obtain ⟨g2, V2, E3⟩ := E2 ib D
    refine ⟨g2, V2, fun w2 => ?_⟩
    · have h9 := E3 w2
      have n0 : ib 33 (5 * m + 1) = mf 0 := by
        have h := hj 0 (by decide) (by decide)
        rw [show 5 * m + 1 + 0 = 5 * m + 1 by omega] at h
        exact h
      have n1 : ib 33 (5 * m + 2) = mf 1 := by
        have h := hj 1 (by decide) (by decide)
        rw [show 5 * m + 1 + 1 = 5 * m + 2 by omega] at h
        exact h
      have n2 : ib 33 (5 * m + 3) = mf 2 := by
        have h := hj 2 (by decide) (by decide)
        rw [show 5 * m + 1 + 2 = 5 * m + 3 by omega] at h
        exact h
      have n3 : ib 33 (5 * m + 4) = mf 3 := by
        have h := hj 3 (by decide) (by decide)
        rw [show 5 * m + 1 + 3 = 5 * m + 4 by omega] at h
        exact h
      rw [← n0, ← n1, ← n2, ← n3] at h9
      exact eX8_carries_103 hm hk h9
theorem cj_carry_102 {G : zG} {w : (Nat → Int → Int) × (Nat → Int → Int)} {ia : Nat → Int → Int} {g mf : Int → Int} {q m : Int} (hG : zGo G) (V : zVw ia g) (hm : 0 ≤ m ∧ m ≤ 30) (hn : ∀ j : Int, 0 ≤ j → j < zcn 102 → 0 ≤ mf j ∧ mf j ≤ 999) : zCC9 G w m 102 mf (zDf ia q 102 mf) := by
  have r9 : ∀ j : Int, 0 ≤ j → j < zcn 102 → zI32 (mf j) := fun j h1 h2 => by
    have := hn j h1 h2
    exact ⟨by omega, by omega⟩
  rcases cj_fork (G := G) (w := w) (zVw_df (p := q) (k := 102) (nf := mf) V) (r9 0 (by decide) (by decide)) (r9 1 (by decide) (by decide)) with ⟨a, b, ha, hb, E1, E2⟩ | ⟨r, ia1, hr, E1, Gv, F, E2⟩
  · refine Or.inl ⟨a, b, ha, hb, eX1_carryOut_102 E1, fun ib D hk hj w2 => ?_⟩
    · have h9 := E2 ib D w2
      have n0 : ib 33 (5 * m + 1) = mf 0 := by
        have h := hj 0 (by decide) (by decide)
        rw [show 5 * m + 1 + 0 = 5 * m + 1 by omega] at h
        exact h
      have n1 : ib 33 (5 * m + 2) = mf 1 := by
        have h := hj 1 (by decide) (by decide)
        rw [show 5 * m + 1 + 1 = 5 * m + 2 by omega] at h
        exact h
      rw [← n0, ← n1] at h9
      exact eX8_carries_102 hm hk h9
  · refine Or.inr ⟨r, ia1, hr, eX1_carryOut_102 E1, Gv, F, fun ib D hk hj => ?_⟩
    obtain ⟨g2, V2, E3⟩ := E2 ib D
    refine ⟨g2, V2, fun w2 => ?_⟩
    · have h9 := E3 w2
      have n0 : ib 33 (5 * m + 1) = mf 0 := by
        have h := hj 0 (by decide) (by decide)
        rw [show 5 * m + 1 + 0 = 5 * m + 1 by omega] at h
        exact h
      have n1 : ib 33 (5 * m + 2) = mf 1 := by
        have h := hj 1 (by decide) (by decide)
        rw [show 5 * m + 1 + 1 = 5 * m + 2 by omega] at h
        exact h
      rw [← n0, ← n1] at h9
      exact eX8_carries_102 hm hk h9
theorem cj_carry_98 {G : zG} {w : (Nat → Int → Int) × (Nat → Int → Int)} {ia : Nat → Int → Int} {g mf : Int → Int} {q m : Int} (hG : zGo G) (V : zVw ia g) (hm : 0 ≤ m ∧ m ≤ 30) (hn : ∀ j : Int, 0 ≤ j → j < zcn 98 → 0 ≤ mf j ∧ mf j ≤ 999) : zCC9 G w m 98 mf (zDf ia q 98 mf) := by
  have r9 : ∀ j : Int, 0 ≤ j → j < zcn 98 → zI32 (mf j) := fun j h1 h2 => by
    have := hn j h1 h2
    exact ⟨by omega, by omega⟩
  rcases cj_back (G := G) (w := w) (zVw_df (p := q) (k := 98) (nf := mf) V) (r9 0 (by decide) (by decide)) (r9 1 (by decide) (by decide)) with ⟨a, b, ha, hb, E1, E2⟩ | ⟨r, ia1, hr, E1, Gv, F, E2⟩
  · refine Or.inl ⟨a, b, ha, hb, eX1_carryOut_98 E1, fun ib D hk hj w2 => ?_⟩
    · have h9 := E2 ib D w2
      have n0 : ib 33 (5 * m + 1) = mf 0 := by
        have h := hj 0 (by decide) (by decide)
        rw [show 5 * m + 1 + 0 = 5 * m + 1 by omega] at h
        exact h
      have n1 : ib 33 (5 * m + 2) = mf 1 := by
        have h := hj 1 (by decide) (by decide)
        rw [show 5 * m + 1 + 1 = 5 * m + 2 by omega] at h
        exact h
      rw [← n0, ← n1] at h9
      exact eX8_carries_98 hm hk h9
  · refine Or.inr ⟨r, ia1, hr, eX1_carryOut_98 E1, Gv, F, fun ib D hk hj => ?_⟩
    obtain ⟨g2, V2, E3⟩ := E2 ib D
    refine ⟨g2, V2, fun w2 => ?_⟩
    · have h9 := E3 w2
      have n0 : ib 33 (5 * m + 1) = mf 0 := by
        have h := hj 0 (by decide) (by decide)
        rw [show 5 * m + 1 + 0 = 5 * m + 1 by omega] at h
        exact h
      have n1 : ib 33 (5 * m + 2) = mf 1 := by
        have h := hj 1 (by decide) (by decide)
        rw [show 5 * m + 1 + 1 = 5 * m + 2 by omega] at h
        exact h
      rw [← n0, ← n1] at h9
      exact eX8_carries_98 hm hk h9
theorem cj_carry_121 {G : zG} {w : (Nat → Int → Int) × (Nat → Int → Int)} {ia : Nat → Int → Int} {g mf : Int → Int} {q m : Int} (hG : zGo G) (V : zVw ia g) (hm : 0 ≤ m ∧ m ≤ 30) (hn : ∀ j : Int, 0 ≤ j → j < zcn 121 → 0 ≤ mf j ∧ mf j ≤ 999) : zCC9 G w m 121 mf (zDf ia q 121 mf) := by
  have r9 : ∀ j : Int, 0 ≤ j → j < zcn 121 → zI32 (mf j) := fun j h1 h2 => by
    have := hn j h1 h2
    exact ⟨by omega, by omega⟩
  rcases cj_pass (G := G) (w := w) (zVw_df (p := q) (k := 121) (nf := mf) V) (r9 0 (by decide) (by decide)) with ⟨a, b, ha, hb, E1, E2⟩ | ⟨r, ia1, hr, E1, Gv, F, E2⟩
  · refine Or.inl ⟨a, b, ha, hb, eX1_carryOut_121 E1, fun ib D hk hj w2 => ?_⟩
    · have h9 := E2 ib D w2
      have n0 : ib 33 (5 * m + 1) = mf 0 := by
        have h := hj 0 (by decide) (by decide)
        rw [show 5 * m + 1 + 0 = 5 * m + 1 by omega] at h
        exact h
      rw [← n0] at h9
      exact eX8_carries_121 hm hk h9
  · refine Or.inr ⟨r, ia1, hr, eX1_carryOut_121 E1, Gv, F, fun ib D hk hj => ?_⟩
    obtain ⟨g2, V2, E3⟩ := E2 ib D
    refine ⟨g2, V2, fun w2 => ?_⟩
    · have h9 := E3 w2
      have n0 : ib 33 (5 * m + 1) = mf 0 := by
        have h := hj 0 (by decide) (by decide)
        rw [show 5 * m + 1 + 0 = 5 * m + 1 by omega] at h
        exact h
      rw [← n0] at h9
      exact eX8_carries_121 hm hk h9
theorem cj_carry {G : zG} {w : (Nat → Int → Int) × (Nat → Int → Int)} {ia : Nat → Int → Int} {g mf : Int → Int} {q m x : Int} (hG : zGo G) (V : zVw ia g) (hm : 0 ≤ m ∧ m ≤ 30) (hx : zfL x ≠ []) (hn : ∀ j : Int, 0 ≤ j → j < zcn x → 0 ≤ mf j ∧ mf j ≤ 999) : zCC9 G w m x mf (zDf ia q x mf) := by
  rcases zfL_in hx with rfl | rfl | rfl | rfl | rfl
  · exact cj_carry_119 hG V hm hn
  · exact cj_carry_103 hG V hm hn
  · exact cj_carry_102 hG V hm hn
  · exact cj_carry_98 hG V hm hn
  · exact cj_carry_121 hG V hm hn
/-! the loop -/
theorem zch_cg {ia ja : Nat → Int → Int} (h1 : ja 19 1 = ia 19 1) (h2 : ja 20 = ia 20) : zch ja = zch ia := by
  funext p
  unfold zch
  rw [h1, h2]
theorem zDI_cg {ia ja : Nat → Int → Int} (h1 : ja 19 1 = ia 19 1) (h2 : ja 20 = ia 20) (D : zDI ia) : zDI ja := by
  unfold zDI
  rw [h1, h2]
  exact D
def zMC (ia ib : Nat → Int → Int) (m M : Int) (T : Int → Int) : Prop := zMd ia ib ∧ ib 24 6 = 1 ∧ ib 24 8 = 0 ∧ ib 24 7 = m ∧ ib 24 21 = M ∧ ib 33 = T
def zJF (ib jb : Nat → Int → Int) : Prop := (∀ c : Nat, c ≠ 24 → c ≠ 25 → jb c = ib c) ∧ ∀ j : Int, j < 7 ∨ 11 < j → jb 24 j = ib 24 j
def zCF (ia jx : Nat → Int → Int) : Prop := zGv ia jx ∧ (∀ c : Nat, c < 2 ∨ 8 < c → c ≠ 9 → c ≠ 19 → c ≠ 21 → jx c = ia c) ∧ jx 19 1 = ia 19 1
def zCC (ch : Int → Int) (L p : Int) (nf : Int → Int) (ia : Nat → Int → Int) : Prop := (∃ g, zVw ia g) ∧ zDI ia ∧ zch ia = ch ∧ ia 19 1 = L ∧ ia 19 2 = p ∧ ia 21 = nf ∧ (0 ≤ p ∧ p ≤ L) ∧ (0 ≤ ia 17 1 ∧ ia 17 1 ≤ 8) ∧ 1 ≤ ia 18 (ia 17 1 * 8) ∧ ia 18 (ia 17 1 * 8) ≤ ia 3 0
def zExS (G : zG) (w : (Nat → Int → Int) × (Nat → Int → Int)) (ch : Int → Int) (L : Int) (n : Nat) (m p : Int) (nf : Int → Int) (ia : Nat → Int → Int) : Prop :=
  ∃ (jx : Nat → Int → Int) (M : Int), zCF ia jx ∧ jx 9 = ia 9 ∧ (0 ≤ M ∧ M ≤ 31) ∧ Ev G mX7_commands 58 [(1, 0), (0, m), (0, 0)] [] (zH ia w) (.inl (some (0, M)), zH (zKe (zu jx 19 1 0)) w, 0, 0) ∧
    ∀ (ib : Nat → Int → Int) (T : Int → Int) (M2 : Int), (0 ≤ M2 ∧ M2 ≤ 30) → zok ch L T n m p nf M2 → zMC ia ib m M2 T → M2 = M ∧ ∃ jb, zJF ib jb ∧ (∀ j : Int, j < 7 ∨ 8 < j → jb 24 j = ib 24 j) ∧ jb 24 8 = 0 ∧ zVw jx (jb 25) ∧ ∀ w2 O g9, (∀ r9, Ev G mX8_commands 118 [(1, 24), (0, 1), (0, r9)] [] (zH jb w2) O) → Ev G mX8_commands 69 [(1, 24), (0, 1), (0, g9)] [] (zH ib w2) O
def zExR (G : zG) (w : (Nat → Int → Int) × (Nat → Int → Int)) (ch : Int → Int) (L : Int) (n : Nat) (m p : Int) (nf : Int → Int) (ia : Nat → Int → Int) : Prop :=
  ∃ (jx : Nat → Int → Int) (a b q : Int), zCF ia jx ∧ (1 ≤ a ∧ a ≤ 8) ∧ (0 ≤ b ∧ b ≤ 100) ∧ (0 ≤ q ∧ q ≤ 60) ∧ (jx 9 0 = a ∧ jx 9 1 = b ∧ jx 9 2 = q) ∧ Ev G mX7_commands 58 [(1, 0), (0, m), (0, 0)] [] (zH ia w) (.inr "java/lang/UnsupportedOperationException", zH (zBa (zu jx 19 1 0)) w, 1, 6) ∧
    ∀ (ib : Nat → Int → Int) (T : Int → Int) (M2 : Int), (0 ≤ M2 ∧ M2 ≤ 30) → zok ch L T n m p nf M2 → zMC ia ib m M2 T → ∃ jb, zJF ib jb ∧ jb 24 8 = 1 ∧ jb 24 9 = a ∧ jb 24 10 = b ∧ jb 24 11 = q ∧ ∀ w2 O g9, Ev G mX8_commands 118 [(1, 24), (0, 1), (0, 0)] [] (zH jb w2) O → Ev G mX8_commands 69 [(1, 24), (0, 1), (0, g9)] [] (zH ib w2) O
theorem zok_lt {ch T : Int → Int} {L : Int} : ∀ (n : Nat) (m p : Int) (nf : Int → Int) (M : Int), zok ch L T n m p nf M → m < M
  | 0, _, _, _, _, h => False.elim h
  | n + 1, m, p, nf, M, ⟨q, mf, h1, h2, h3⟩ => by
    rcases h3 with h3 | h3
    · omega
    · have := zok_lt n (m + 1) (q + 1) mf M h3.2.2
      omega
theorem zKp_w {ib : Nat → Int → Int} {c : Nat} (h : ib 24 6 = 1) : zKp ib c = zu ib 24 8 0 := if_pos h
theorem zTb_of {jx : Nat → Int → Int} (h1 : 0 ≤ jx 17 1 ∧ jx 17 1 ≤ 8) (h2 : 1 ≤ jx 18 (jx 17 1 * 8) ∧ jx 18 (jx 17 1 * 8) ≤ jx 3 0) (h3 : jx 3 0 ≤ 40) : zTb jx := ⟨h1, ⟨by omega, h3⟩, h2⟩
theorem zex {G : zG} {ch : Int → Int} {L : Int} (hG : zGo G) (hL : 0 ≤ L ∧ L ≤ 60) (hz : ∀ p : Int, L ≤ p → ch p = 0) : ∀ (n : Nat) (m p : Int) (nf : Int → Int) (ia : Nat → Int → Int), (0 ≤ m ∧ 2 * m ≤ p) → (∃ (T : Int → Int) (M : Int), zok ch L T n m p nf M) → zCC ch L p nf ia → ∀ w, zExS G w ch L n m p nf ia ∨ zExR G w ch L n m p nf ia := by
  intro n
  induction n with
  | zero =>
    intro m p nf ia hm hok
    obtain ⟨T, M, h⟩ := hok
    exact False.elim h
  | succ n ih =>
    intro m p nf ia hm hok C w
    obtain ⟨T0, M0, q, mf, hR, hmt, hrest⟩ := hok
    obtain ⟨⟨g, V⟩, D, c1, c2, c3, c4, c5, c6, c7⟩ := C
    have hn := V.1.1.1
    have hI := zrd_in hz c5.2 hR
    have hpq := hI.2.2.2 rfl
    have hx := zrd_l1 hR
    have hRi : zrd (zch ia) (ia 19 2) (ia 21) = (q, 1, mf) := by rw [c1, c3, c4]; exact hR
    have hpp : 0 ≤ ia 19 2 ∧ ia 19 2 ≤ ia 19 1 := by rw [c2, c3]; exact c5
    have eK : (if zfL (zch ia (ia 19 2)) = [] then ia 19 3 else zch ia (ia 19 2)) = ch p := by rw [c1, c3, if_neg hx]
    have hD1 : ∀ ja : Nat → Int → Int, (∀ c : Nat, c < 2 ∨ 8 < c → ja c = zDf ia q (ch p) mf c) → ja 19 1 = L ∧ ja 19 2 = q ∧ ja 20 = ia 20 ∧ ja 21 = mf ∧ ja 17 = ia 17 ∧ ja 18 = ia 18 ∧ zDI ja ∧ zch ja = ch := fun ja hF => by
      have e1 : ja 19 1 = ia 19 1 := by rw [hF 19 (by decide)]; rfl
      have e2 : ja 20 = ia 20 := by rw [hF 20 (by decide)]; rfl
      refine ⟨by rw [e1]; exact c2, by rw [hF 19 (by decide)]; rfl, e2, by rw [hF 21 (by decide)]; rfl, by rw [hF 17 (by decide)]; rfl, by rw [hF 18 (by decide)]; rfl, zDI_cg e1 e2 D, by rw [zch_cg e1 e2]; exact c1⟩
    rcases cj_carry (G := G) (w := w) (q := q) (m := m) (x := ch p) hG V ⟨hm.1, by omega⟩ hx (zrn hR) with ⟨a, b, ha, hb, E1, E2⟩ | ⟨r, ia1, hr, E1, Gv, F, E2⟩
    · -- refused
      refine Or.inr ?_
      generalize hja : zu (zu (zu (zDf ia q (ch p) mf) 9 0 a) 9 1 b) 9 2 0 = ja at E1
      have jc : ∀ c : Nat, c ≠ 9 → ja c = zDf ia q (ch p) mf c := fun c h => by
        rw [← hja]
        funext i
        rw [zu_nc h, zu_nc h, zu_nc h]
      have jd : ∀ c : Nat, c ≠ 9 → c ≠ 19 → c ≠ 21 → ja c = ia c := fun c h1 h2 h3 => by rw [jc c h1, zDf_c h2 h3]
      have j9 : ja 9 0 = a ∧ ja 9 1 = b := by rw [← hja]; exact ⟨rfl, rfl⟩
      have e1 : ja 19 1 = ia 19 1 := by rw [jc 19 (by decide)]; rfl
      have e2 : ja 20 = ia 20 := jd 20 (by decide) (by decide) (by decide)
      have e3 : ja 19 2 = q := by rw [jc 19 (by decide)]; rfl
      have D2 : zDI ja := zDI_cg e1 e2 D
      have hch2 : zch ja = ch := by rw [zch_cg e1 e2]; exact c1
      have hE : Ev G mX1_carryOut 0 [(1, 1), (1, 19), (9, 0)] [] (zH (zDf ia q (if zfL (zch ia (ia 19 2)) = [] then ia 19 3 else zch ia (ia 19 2)) mf) w) (.inl (some (0, (-1))), zH ja w, 0, 0) := by rw [eK]; exact E1
      -- the class
      have hcl : ∃ jx : Nat → Int → Int, zCF ia jx ∧ (jx 9 0 = a ∧ jx 9 1 = b ∧ jx 9 2 = m) ∧ Ev G mX7_commands 58 [(1, 0), (0, m), (0, 0)] [] (zH ia w) (.inr "java/lang/UnsupportedOperationException", zH (zBa (zu jx 19 1 0)) w, 1, 6) := by
        have tb : ∀ jx : Nat → Int → Int, jx 17 = ia 17 → jx 18 = ia 18 → jx 3 = ia 3 → zTb jx := fun jx h1 h2 h3 => zTb_of (by rw [h1]; exact c6) (by rw [h1, h2, h3]; exact c7) (by rw [h3]; exact hn.2)
        have cf : ∀ jx : Nat → Int → Int, (∀ c : Nat, c ≠ 9 → c ≠ 19 → jx c = ja c) → jx 19 1 = ja 19 1 → zCF ia jx := fun jx h1 h2 => by
          refine ⟨⟨?_, fun v _ _ => ?_⟩, fun c h3 h4 h5 h6 => by rw [h1 c h4 h5, jd c h4 h5 h6], by rw [h2, e1]⟩
          · rw [h1 3 (by decide) (by decide), jd 3 (by decide) (by decide) (by decide)]
            omega
          · rw [h1 4 (by decide) (by decide), h1 5 (by decide) (by decide), h1 6 (by decide) (by decide), jd 4 (by decide) (by decide) (by decide), jd 5 (by decide) (by decide) (by decide), jd 6 (by decide) (by decide) (by decide)]
            refine ⟨rfl, rfl, fun s _ _ => ⟨rfl, ?_⟩⟩
            unfold zTo
            rw [h1 6 (by decide) (by decide), h1 7 (by decide) (by decide), jd 6 (by decide) (by decide) (by decide), jd 7 (by decide) (by decide) (by decide)]
        by_cases hc : ch q = 59
        · refine ⟨zu (zu ja 9 2 m) 19 2 (ja 19 2 + 1), cf _ (fun c h1 h2 => by funext i; rw [zu_nc h2, zu_nc h1]) rfl, ⟨?_, ?_, ?_⟩, eX7_commands_ref_t (G := G) (w := w) D hpp hRi hE D2 (by rw [e3]; omega) ⟨hm.1, by omega⟩ (by rw [hch2, e3]; exact hc) (tb _ ?_ ?_ ?_)⟩
          · rw [zu_nc (by decide), zu_ni (by decide)]; exact j9.1
          · rw [zu_nc (by decide), zu_ni (by decide)]; exact j9.2
          · rw [zu_nc (by decide), zu_same]
          · funext i; rw [zu_nc (by decide), zu_nc (by decide), zu_nc (by decide), jd 17 (by decide) (by decide) (by decide)]
          · funext i; rw [zu_nc (by decide), zu_nc (by decide), zu_nc (by decide), jd 18 (by decide) (by decide) (by decide)]
          · funext i; rw [zu_nc (by decide), zu_nc (by decide), zu_nc (by decide), jd 3 (by decide) (by decide) (by decide)]
        · refine ⟨zu ja 9 2 m, cf _ (fun c h1 h2 => by funext i; rw [zu_nc h1]) rfl, ⟨?_, ?_, ?_⟩, eX7_commands_ref_f (G := G) (w := w) D hpp hRi hE D2 (by rw [e3]; omega) ⟨hm.1, by omega⟩ (by rw [hch2, e3]; exact hc) (tb _ ?_ ?_ ?_)⟩
          · rw [zu_ni (by decide)]; exact j9.1
          · rw [zu_ni (by decide)]; exact j9.2
          · rw [zu_same]
          · funext i; rw [zu_nc (by decide), zu_nc (by decide), jd 17 (by decide) (by decide) (by decide)]
          · funext i; rw [zu_nc (by decide), zu_nc (by decide), jd 18 (by decide) (by decide) (by decide)]
          · funext i; rw [zu_nc (by decide), zu_nc (by decide), jd 3 (by decide) (by decide) (by decide)]
      obtain ⟨jx, k1, k2, k3⟩ := hcl
      refine ⟨jx, a, b, m, k1, ha, hb, ⟨hm.1, by omega⟩, k2, k3, fun ib T M2 hM2 hk hMC => ?_⟩
      obtain ⟨Md, d6, d8, d7, d21, d33⟩ := hMC
      have hlt := zok_lt _ _ _ _ _ hk
      obtain ⟨q2, mf2, hR2, hmt2, _⟩ := hk
      obtain ⟨rfl, _, rfl⟩ := zpr (hR.symm.trans hR2)
      have Md2 : zMd (zDf ia q (ch p) mf) ib := ⟨zVw_df Md.1, Md.2⟩
      have Em := E2 ib Md2 (by rw [d33]; exact hmt2.1) (fun j h1 h2 => by rw [d33]; exact hmt2.2 j h1 h2)
      have ew : zwi ib = m := by
        unfold zwi
        rw [if_neg (by omega), d7]
      rw [ew] at Em
      have r24 : ∀ j : Int, j < 8 ∨ 11 < j → zrf ib a b m 24 j = ib 24 j := fun j h => zrf_24 h
      refine ⟨zrf ib a b m, ⟨fun c h1 _ => zrf_c h1, fun j h => r24 j (by omega)⟩, rfl, rfl, rfl, rfl, fun w2 O g9 next => ?_⟩
      exact eX8_commands_ref ⟨hm.1, by omega⟩ hM2 d7 d21 d8 hlt (Em w2) rfl (by rw [r24 7 (by decide)]; exact d7) (by rw [r24 21 (by decide)]; exact d21) next
    · -- carried out
      obtain ⟨e1, e3, e2, e4, e17, e18, D2, hch2⟩ := hD1 ia1 F
      have hE : Ev G mX1_carryOut 0 [(1, 1), (1, 19), (9, 0)] [] (zH (zDf ia q (if zfL (zch ia (ia 19 2)) = [] then ia 19 3 else zch ia (ia 19 2)) mf) w) (.inl (some (0, r)), zH ia1 w, 0, 0) := by rw [eK]; exact E1
      have n3 : (zDf ia q (ch p) mf) 3 0 = ia 3 0 := rfl
      have G1 : zGv ia ia1 := Gv
      -- the model's step
      have ms : ∀ (ib : Nat → Int → Int) (T : Int → Int) (M2 : Int), (0 ≤ M2 ∧ M2 ≤ 30) → zok ch L T (n + 1) m p nf M2 → zMC ia ib m M2 T → ∃ g2, zVw ia1 g2 ∧ ∀ w2 O g9, Ev G mX8_commands 69 [(1, 24), (0, 1), (0, r)] [] (zH (zu (zgr (zu ib 24 8 0) g2) 24 7 (m + 1)) w2) O → Ev G mX8_commands 69 [(1, 24), (0, 1), (0, g9)] [] (zH ib w2) O := fun ib T M2 hM2 hk hMC => by
        obtain ⟨Md, d6, d8, d7, d21, d33⟩ := hMC
        have hlt := zok_lt _ _ _ _ _ hk
        obtain ⟨q2, mf2, hR2, hmt2, _⟩ := hk
        obtain ⟨rfl, _, rfl⟩ := zpr (hR.symm.trans hR2)
        have Md2 : zMd (zDf ia q (ch p) mf) ib := ⟨zVw_df Md.1, Md.2⟩
        obtain ⟨g2, V2, Em⟩ := E2 ib Md2 (by rw [d33]; exact hmt2.1) (fun j h1 h2 => by rw [d33]; exact hmt2.2 j h1 h2)
        rw [zKp_w d6] at Em
        refine ⟨g2, V2, fun w2 O g9 next => ?_⟩
        exact eX8_commands_ok ⟨hm.1, by omega⟩ hM2 d7 d21 d8 hlt (Em w2) (by rw [zgr_c (by decide), zu_same]) (by rw [zgr_c (by decide), zu_ni (by decide)]; exact d7) next
      -- what the model's heap is then
      have mh : ∀ (ib : Nat → Int → Int) (g2 : Int → Int), (∀ c : Nat, c ≠ 24 → c ≠ 25 → zu (zgr (zu ib 24 8 0) g2) 24 7 (m + 1) c = ib c) ∧ (∀ j : Int, j < 7 ∨ 8 < j → zu (zgr (zu ib 24 8 0) g2) 24 7 (m + 1) 24 j = ib 24 j) ∧ zu (zgr (zu ib 24 8 0) g2) 24 7 (m + 1) 24 8 = 0 ∧ zu (zgr (zu ib 24 8 0) g2) 24 7 (m + 1) 24 7 = m + 1 ∧ zu (zgr (zu ib 24 8 0) g2) 24 7 (m + 1) 25 = g2 := fun ib g2 => by
        refine ⟨fun c h1 h2 => ?_, fun j h => ?_, rfl, zu_same, ?_⟩
        · funext i
          rw [zu_nc h1, zgr_c h2, zu_nc h1]
        · rw [zu_ni (by omega), zgr_c (by decide), zu_ni (by omega)]
        · funext i
          rw [zu_nc (by decide), zgr_25]
      rcases hrest with ⟨hq, hM⟩ | ⟨hq, hc, hok2⟩
      · -- the text ends here
        refine Or.inl ?_
        have hcq : zch ia1 (ia1 19 2) ≠ 59 := by
          rw [hch2, e3, hz q (by omega)]
          decide
        have hR0 : zrd (zch ia1) (ia1 19 2) (ia1 21) = (q, 0, ia1 21) := by
          unfold zrd
          rw [hch2, e3, hz q (by omega), if_pos (show zfL 0 = [] from rfl)]
        have hend := eX7_commands_end (G := G) (w := w) (ja := ia1) (q := m + 1) D2 (by rw [e1, e3]; omega) hR0 ⟨by omega, by omega⟩ (by rw [e17]; exact c6)
        have hcls := eX7_commands_ok_f (G := G) (w := w) D hpp hRi hE D2 (by rw [e3]; omega) ⟨by omega, by omega⟩ ⟨hm.1, by omega⟩ hcq hend
        refine ⟨_, m + 1, ?_, ?_, ⟨by omega, by omega⟩, hcls, fun ib T M2 hM2 hk hMC => ?_⟩
        · refine ⟨?_, fun c h1 h2 h3 h4 => ?_, ?_⟩
          · exact zGv_tr G1 (zGv_refl Gv.1.2)
          · rw [zDf_c h3 h4, F c h1, zDf_c h3 h4]
          · show ia1 19 1 = ia 19 1
            rw [e1, c2]
        · rw [zDf_c (by decide) (by decide), F 9 (by decide), zDf_c (by decide) (by decide)]
        · obtain ⟨g2, V2, Em⟩ := ms ib T M2 hM2 hk hMC
          obtain ⟨m1, m2, m3, m4, m5⟩ := mh ib g2
          obtain ⟨Md, d6, d8, d7, d21, d33⟩ := hMC
          have hlt := zok_lt _ _ _ _ _ hk
          obtain ⟨q2, mf2, hR2, hmt2, hr2⟩ := hk
          obtain ⟨rfl, _, rfl⟩ := zpr (hR.symm.trans hR2)
          have hM2e : M2 = m + 1 := by
            rcases hr2 with h | h
            · exact h.2
            · exact absurd h.1 (by omega)
          refine ⟨hM2e, _, ⟨m1, fun j h => m2 j (by omega)⟩, m2, m3, ?_, fun w2 O g9 next => Em w2 O g9 (eX8_commands_done ⟨by omega, by omega⟩ m4 (by rw [m2 21 (by decide), d21, hM2e]) (next r))⟩
          rw [m5]
          exact zVw_df V2
      · -- another command follows
        have hcq : zch ia1 (ia1 19 2) = 59 := by rw [hch2, e3]; exact hc
        have C2 : zCC ch L (q + 1) mf (zu ia1 19 2 (ia1 19 2 + 1)) := by
          have s : ∀ c : Nat, c ≠ 19 → zu ia1 19 2 (ia1 19 2 + 1) c = ia1 c := fun c h => by funext i; rw [zu_nc h]
          have Vx : ∃ g, zVw ia1 g := by
            obtain ⟨gx, Vx, _⟩ := E2 (fun c i => if c = 25 then g i else if c = 31 then zlow i else if c = 32 then zhig i else if c = 33 then T0 i else 0) ⟨zVw_df V, ⟨fun _ _ _ => rfl, fun _ _ _ => rfl⟩, Or.inl rfl, ⟨Int.le_refl 0, (by decide : (0 : Int) ≤ 8)⟩⟩ hmt.1 hmt.2
            exact ⟨gx, Vx⟩
          obtain ⟨gx, Vx⟩ := Vx
          refine ⟨⟨gx, zVw_cg Vx (zSbk_of fun c _ h2 => s c (by omega))⟩, zDI_cg rfl (s 20 (by decide)) D2, by rw [zch_cg rfl (s 20 (by decide))]; exact hch2, e1, ?_, by rw [s 21 (by decide)]; exact e4, by omega, ?_, ?_⟩
          · rw [zu_same, e3]
          · rw [s 17 (by decide), e17]; exact c6
          · rw [s 17 (by decide), s 18 (by decide), s 3 (by decide), e17, e18]
            have := Gv.1.1
            exact ⟨c7.1, Int.le_trans c7.2 this⟩
        have s : ∀ c : Nat, c ≠ 19 → zu ia1 19 2 (ia1 19 2 + 1) c = ia1 c := fun c h => by funext i; rw [zu_nc h]
        have cf : ∀ jx : Nat → Int → Int, zCF (zu ia1 19 2 (ia1 19 2 + 1)) jx → zCF ia jx := fun jx h => by
          refine ⟨zGv_tr G1 (zGv_tr (show zGv ia1 (zu ia1 19 2 (ia1 19 2 + 1)) from zGv_refl Gv.1.2) h.1), fun c h1 h2 h3 h4 => by rw [h.2.1 c h1 h2 h3 h4, s c h3, F c h1, zDf_c h3 h4], ?_⟩
          rw [h.2.2]
          show ia1 19 1 = ia 19 1
          rw [e1, c2]
        have mm : ∀ (ib : Nat → Int → Int) (T : Int → Int) (M2 : Int) (g2 : Int → Int), zok ch L T (n + 1) m p nf M2 → zMC ia ib m M2 T → zVw ia1 g2 → zok ch L T n (m + 1) (q + 1) mf M2 ∧ zMC (zu ia1 19 2 (ia1 19 2 + 1)) (zu (zgr (zu ib 24 8 0) g2) 24 7 (m + 1)) (m + 1) M2 T := fun ib T M2 g2 hk hMC V2 => by
          obtain ⟨m1, m2, m3, m4, m5⟩ := mh ib g2
          obtain ⟨Md, d6, d8, d7, d21, d33⟩ := hMC
          obtain ⟨q2, mf2, hR2, hmt2, hr2⟩ := hk
          obtain ⟨rfl, _, rfl⟩ := zpr (hR.symm.trans hR2)
          refine ⟨?_, ⟨?_, ?_, ?_, ?_⟩, ?_, m3, m4, ?_, ?_⟩
          · rcases hr2 with h | h
            · exact absurd h.1 (by omega)
            · exact h.2.2
          · rw [m5]
            exact zVw_cg V2 (zSbk_of fun c _ h2 => s c (by omega))
          · exact zLH_of (m1 31 (by decide) (by decide)) (m1 32 (by decide) (by decide)) Md.2.1
          · rw [m2 6 (by decide)]
            exact Md.2.2.1
          · rw [m2 5 (by decide)]
            exact Md.2.2.2
          · rw [m2 6 (by decide)]
            exact d6
          · rw [m2 21 (by decide)]
            exact d21
          · rw [m1 33 (by decide) (by decide)]
            exact d33
        rcases ih (m + 1) (q + 1) mf (zu ia1 19 2 (ia1 19 2 + 1)) ⟨by omega, by omega⟩ ⟨T0, M0, hok2⟩ C2 w with ⟨jx, M, k1, k2, k3, k4, k5⟩ | ⟨jx, a, b, q9, k1, ha, hb, hq9, k2, k3, k5⟩
        · refine Or.inl ⟨jx, M, cf jx k1, ?_, k3, eX7_commands_ok_t (G := G) (w := w) D hpp hRi hE D2 (by rw [e3]; omega) ⟨by omega, by omega⟩ ⟨hm.1, by omega⟩ hcq k4, fun ib T M2 hM2 hk hMC => ?_⟩
          · rw [k2, s 9 (by decide), F 9 (by decide), zDf_c (by decide) (by decide)]
          · obtain ⟨g2, V2, Em⟩ := ms ib T M2 hM2 hk hMC
            obtain ⟨m1, m2, m3, m4, m5⟩ := mh ib g2
            obtain ⟨hk2, hMC2⟩ := mm ib T M2 g2 hk hMC V2
            obtain ⟨x1, jb, x2, x3, x4, x5, x6⟩ := k5 _ T M2 hM2 hk2 hMC2
            refine ⟨x1, jb, ⟨fun c h1 h2 => (x2.1 c h1 h2).trans (m1 c h1 h2), fun j h => (x2.2 j h).trans (m2 j (by omega))⟩, fun j h => (x3 j h).trans (m2 j h), x4, x5, fun w2 O g9 next => Em w2 O g9 (x6 w2 O r next)⟩
        · refine Or.inr ⟨jx, a, b, q9, cf jx k1, ha, hb, hq9, k2, eX7_commands_ok_t (G := G) (w := w) D hpp hRi hE D2 (by rw [e3]; omega) ⟨by omega, by omega⟩ ⟨hm.1, by omega⟩ hcq k3, fun ib T M2 hM2 hk hMC => ?_⟩
          obtain ⟨g2, V2, Em⟩ := ms ib T M2 hM2 hk hMC
          obtain ⟨m1, m2, m3, m4, m5⟩ := mh ib g2
          obtain ⟨hk2, hMC2⟩ := mm ib T M2 g2 hk hMC V2
          obtain ⟨jb, x2, x3, x4, x5, x6, x7⟩ := k5 _ T M2 hM2 hk2 hMC2
          exact ⟨jb, ⟨fun c h1 h2 => (x2.1 c h1 h2).trans (m1 c h1 h2), fun j h => (x2.2 j h).trans (m2 j (by omega))⟩, x3, x4, x5, x6, fun w2 O g9 next => Em w2 O g9 (x7 w2 O r next)⟩
