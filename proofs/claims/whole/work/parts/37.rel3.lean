/-! THE FIVE CHANGES, BOTH SIDES -/
/-- what the model's changes want: the row fits the books of ia -/
def zMd (ia ib : Nat → Int → Int) : Prop := zVw ia (ib 25) ∧ zLH ib ∧ (ib 24 6 = 0 ∨ ib 24 6 = 1) ∧ (0 ≤ ib 24 5 ∧ ib 24 5 ≤ 8)
/-- both sides refuse alike, or both make the same change -/
def zCJ (G : zG) (w : (Nat → Int → Int) × (Nat → Int → Int)) (M1 : zM) (l1 : List zSV) (M2 : zM) (l2 : List zSV) (ia : Nat → Int → Int) : Prop :=
  (∃ a b : Int, (1 ≤ a ∧ a ≤ 8) ∧ (0 ≤ b ∧ b ≤ 100) ∧ Ev G M1 0 l1 [] (zH ia w) (.inl (some (0, (-1))), zH (zu (zu (zu ia 9 0 a) 9 1 b) 9 2 0) w, 0, 0) ∧ ∀ ib, zMd ia ib → ∀ w2, Ev G M2 0 l2 [] (zH ib w2) (.inl (some (0, 0)), zH (zrf ib a b (zwi ib)) w2, 0, 0)) ∨
  (∃ (r : Int) (ia1 : Nat → Int → Int), (0 ≤ r ∧ r ≤ 1000) ∧ Ev G M1 0 l1 [] (zH ia w) (.inl (some (0, r)), zH ia1 w, 0, 0) ∧ zGv ia ia1 ∧ (∀ c : Nat, c < 2 ∨ 8 < c → ia1 c = ia c) ∧ ∀ ib, zMd ia ib → ∃ g2, zVw ia1 g2 ∧ ∀ w2, Ev G M2 0 l2 [] (zH ib w2) (.inl (some (0, r)), zH (zgr (zKp ib 25) g2) w2, 0, 0))
theorem zNw9_f {ia ia1 : Nat → Int → Int} {fr amt : Int → Int} {p y h N j : Int} (J : zGI ia fr amt p y (-1) ia1) (c : Nat) (hc : c < 2 ∨ 8 < c) : zNw9 ia1 h N j c = ia c := by
  rw [zNw9_c (by omega) (by omega)]
  exact J.2.2.1 c (by omega) (by omega) (by omega) (by omega) (by omega)
theorem cj_write {G : zG} {w : (Nat → Int → Int) × (Nat → Int → Int)} {ia : Nat → Int → Int} {g : Int → Int} {h line amount : Int} (hG : zGo G) (V : zVw ia g) (hrh : -2147483648 ≤ h ∧ h ≤ 2147483647) (hrl : -2147483648 ≤ line ∧ line ≤ 2147483647) (hra : -2147483648 ≤ amount ∧ amount ≤ 2147483647) : zCJ G w mX1_enter [(1, 1), (0, h), (0, line), (0, amount), (9, 0)] mX8_write [(1, 24), (0, h), (0, line), (0, amount), (9, 0), (9, 0)] ia := by
  have I := V.1.1
  have CS := V.2.1
  have hn := I.1
  by_cases hx : (0 ≤ h ∧ h < 4) ∧ (0 ≤ line ∧ line < 16) ∧ 0 ≤ amount ∧ amount ≤ 999
  · obtain ⟨hh, hl, hm⟩ := hx
    have hq := I.2.2.2.2.1 h hh.1 hh.2
    by_cases he : zTo ia (ia 8 h) (15 + line) = amount
    · exact Or.inl ⟨3, ia 8 h, by decide, by omega, eX1_enter_3 I hh hl hm he, fun ib D w2 => eX8_write_3 D.1.1 D.2.2.1 hh hl hm he⟩
    · by_cases hf : ia 3 0 < 40
      · obtain ⟨ia1, J, E1⟩ := eX1_enter_0 (G := G) (w := w) hG I CS hh hl hm he hf
        exact Or.inr ⟨ia 3 0, zNw9 ia1 h (ia 3 0) 3, by omega, E1, zNw9_gv J hf, zNw9_f J, fun ib D => ⟨zgw (ib 25) (ia 3 0) (ia 8 h) (ia 2 2) h line amount, zVw_write D.1 hh hl hf J, fun w2 => eX8_write_0 D.1.1 D.2.2.1 D.2.2.2 D.2.1 hh hl hm he hf⟩⟩
      · exact Or.inl ⟨2, 0, by decide, by decide, eX1_enter_2 I hh hl hm he (by omega), fun ib D w2 => eX8_write_2 D.1.1 D.2.2.1 hh hl hm he (by omega)⟩
  · exact Or.inl ⟨1, 0, by decide, by decide, eX1_enter_1 I hrh hrl hra hx, fun ib D w2 => eX8_write_1 D.2.2.1 hrh hrl hra hx⟩
theorem cj_graft {G : zG} {w : (Nat → Int → Int) × (Nat → Int → Int)} {ia : Nat → Int → Int} {g : Int → Int} {h v first last : Int} (hG : zGo G) (V : zVw ia g) (hrh : -2147483648 ≤ h ∧ h ≤ 2147483647) (hrv : -2147483648 ≤ v ∧ v ≤ 2147483647) (hrf : -2147483648 ≤ first ∧ first ≤ 2147483647) (hrl : -2147483648 ≤ last ∧ last ≤ 2147483647) : zCJ G w mX1_copyLines [(1, 1), (0, h), (0, v), (0, first), (0, last), (9, 0)] mX8_graft [(1, 24), (0, h), (0, v), (0, first), (0, last), (9, 0), (9, 0)] ia := by
  have I := V.1.1
  have CS := V.2.1
  have hn := I.1
  by_cases hx : (0 ≤ h ∧ h < 4) ∧ (0 ≤ first ∧ first < 16) ∧ 0 ≤ last ∧ last < 16
  · obtain ⟨hh, hf, hl⟩ := hx
    have hq := I.2.2.2.2.1 h hh.1 hh.2
    by_cases hv : 0 ≤ v ∧ v < ia 3 0
    · by_cases ho : last < first
      · exact Or.inl ⟨5, first - last, by decide, by omega, eX1_copyLines_5 I hh hf hl hv ho, fun ib D w2 => eX8_graft_5 D.1.1 D.2.2.1 hh hf hl hv ho⟩
      · have hfl : first ≤ last := by omega
        have hz := zap_0 (A := fun i => zTo ia (ia 8 h) (15 + i)) (B := fun i => zTo ia v (15 + i)) hf.1 hl.2
        by_cases he : ∀ i : Int, first ≤ i → i ≤ last → zTo ia (ia 8 h) (15 + i) = zTo ia v (15 + i)
        · exact Or.inl ⟨3, ia 8 h, by decide, by omega, eX1_copyLines_3 I hh hf hl hv hfl (hz.mpr he), fun ib D w2 => eX8_graft_3 D.1.1 D.2.2.1 hh hf hl hv hfl he⟩
        · by_cases hf4 : ia 3 0 < 40
          · obtain ⟨ia1, J, E1⟩ := eX1_copyLines_0 (G := G) (w := w) hG I CS hh hf hl hv hfl (fun e => he (hz.mp e)) hf4
            exact Or.inr ⟨ia 3 0, zNw9 ia1 h (ia 3 0) 4, by omega, E1, zNw9_gv J hf4, zNw9_f J, fun ib D => ⟨zgg (ib 25) (ia 3 0) (ia 8 h) (ia 2 2) h v first last, zVw_graft D.1 hh ⟨hf.1, hfl, hl.2⟩ hv hf4 J, fun w2 => eX8_graft_0 D.1.1 D.2.2.1 D.2.2.2 D.2.1 hh hf hl hv hfl he hf4⟩⟩
          · exact Or.inl ⟨2, 0, by decide, by decide, eX1_copyLines_2 I hh hf hl hv hfl (fun e => he (hz.mp e)) (by omega), fun ib D w2 => eX8_graft_2 D.1.1 D.2.2.1 hh hf hl hv hfl he (by omega)⟩
    · exact Or.inl ⟨4, ia 3 0, by decide, by omega, eX1_copyLines_4 I hrv hh hf hl hv, fun ib D w2 => eX8_graft_4 D.1.1 D.2.2.1 hrv hh hf hl hv⟩
  · exact Or.inl ⟨1, 0, by decide, by decide, eX1_copyLines_1 I hrh hrv hrf hrl hx, fun ib D w2 => eX8_graft_1 D.2.2.1 hrh hrv hrf hrl hx⟩
theorem zu_f {ia : Nat → Int → Int} {c0 : Nat} {i x : Int} (h0 : 2 ≤ c0 ∧ c0 ≤ 8) (c : Nat) (hc : c < 2 ∨ 8 < c) : zu ia c0 i x c = ia c := by
  funext j
  exact zu_nc (by omega)
theorem zGv_8 {ia : Nat → Int → Int} {i x : Int} (h : ia 3 0 ≤ 40) : zGv ia (zu ia 8 i x) := zGv_refl h
theorem zGv_2 {ia : Nat → Int → Int} {i x : Int} (h : ia 3 0 ≤ 40) : zGv ia (zu ia 2 i x) := zGv_refl h
theorem cj_fork {G : zG} {w : (Nat → Int → Int) × (Nat → Int → Int)} {ia : Nat → Int → Int} {g : Int → Int} {h f : Int} (V : zVw ia g) (hrh : -2147483648 ≤ h ∧ h ≤ 2147483647) (hrf : -2147483648 ≤ f ∧ f ≤ 2147483647) : zCJ G w mX1_takeOver [(1, 1), (0, h), (0, f), (9, 0)] mX8_fork [(1, 24), (0, h), (0, f)] ia := by
  have I := V.1.1
  have hn := I.1
  by_cases hx : (0 ≤ h ∧ h < 4) ∧ 0 ≤ f ∧ f < 4
  · obtain ⟨hh, hf⟩ := hx
    have hq := I.2.2.2.2.1 f hf.1 hf.2
    by_cases he : h = f
    · exact Or.inl ⟨6, h, by decide, by omega, eX1_takeOver_6 I hh hf he, fun ib D w2 => eX8_fork_6 D.2.2.1 hh hf he⟩
    · by_cases hs : ia 8 h = ia 8 f
      · refine Or.inl ⟨3, ia 8 f, by decide, by omega, eX1_takeOver_3 I hh hf he hs, fun ib D w2 => ?_⟩
        have := eX8_fork_3 (G := G) (w := w2) D.1.1 D.2.2.1 hh hf he hs
        rw [hs] at this
        exact this
      · exact Or.inr ⟨ia 8 f, zu ia 8 h (ia 8 f), by omega, eX1_takeOver_0 I hh hf he hs, zGv_8 hn.2, zu_f (by decide), fun ib D => ⟨zgf (ib 25) h (ia 8 f), zVw_led D.1 hh hq, fun w2 => eX8_fork_0 D.1.1 D.2.2.1 D.2.2.2 hh hf he hs⟩⟩
  · exact Or.inl ⟨1, 0, by decide, by decide, eX1_takeOver_1 I hrh hrf hx, fun ib D w2 => eX8_fork_1 D.2.2.1 hrh hrf hx⟩
theorem zit_in {par : Int → Int} {N v m : Int} (hp : zPar par N) (hN : N ≤ 40) (hv : 0 ≤ v ∧ v < N) (hm : m ≤ zanc par 40 (par v)) : ∀ k : Nat, (k : Int) ≤ m → (0 ≤ zit par k v ∧ zit par k v < N) ∧ m - k ≤ zanc par 40 (par (zit par k v))
  | 0, _ => ⟨hv, by show m - ((0 : Nat) : Int) ≤ zanc par 40 (par v); omega⟩
  | k + 1, hk => by
    obtain ⟨h1, h2⟩ := zit_in hp hN hv hm k (by omega)
    obtain ⟨h3, h4⟩ := hp _ h1.1 h1.2
    rw [zit_s]
    have h5 : 0 ≤ par (zit par k v) := by
      rcases Int.lt_or_le (par (zit par k v)) 0 with h | h
      · rw [zanc_neg h] at h2
        exact absurd h2 (by omega)
      · exact h
    rw [zanc_pos hp h5 (by omega) (by omega)] at h2
    exact ⟨⟨h5, by omega⟩, by omega⟩
theorem cj_back {G : zG} {w : (Nat → Int → Int) × (Nat → Int → Int)} {ia : Nat → Int → Int} {g : Int → Int} {h m : Int} (V : zVw ia g) (hrh : -2147483648 ≤ h ∧ h ≤ 2147483647) (hrm : -2147483648 ≤ m ∧ m ≤ 2147483647) : zCJ G w mX1_goBack [(1, 1), (0, h), (0, m), (9, 0), (9, 0)] mX8_back [(1, 24), (0, h), (0, m), (9, 0), (9, 0)] ia := by
  have I := V.1.1
  have hn := I.1
  by_cases hx : (0 ≤ h ∧ h < 4) ∧ 1 ≤ m ∧ m < 40
  · obtain ⟨hh, hm⟩ := hx
    have hq := I.2.2.2.2.1 h hh.1 hh.2
    have hpv := I.par _ hq.1 hq.2
    have hza := zanc_le I.par 40 (ia 4 (ia 8 h)) (by omega) (by omega)
    by_cases he : zanc (ia 4) 40 (ia 4 (ia 8 h)) < m
    · exact Or.inl ⟨7, zanc (ia 4) 40 (ia 4 (ia 8 h)), by decide, by omega, eX1_goBack_7 I hh hm he, fun ib D w2 => eX8_back_7 D.1.1 D.2.2.1 hh hm he⟩
    · have hz : ∀ k : Int, 0 ≤ k → k ≤ m → 0 ≤ zit (ia 4) k.toNat (ia 8 h) ∧ zit (ia 4) k.toNat (ia 8 h) < ia 3 0 := fun k h1 h2 => (zit_in I.par hn.2 hq (by omega : m ≤ _) k.toNat (by omega)).1
      have hz2 := hz m (by omega) (by omega)
      exact Or.inr ⟨zit (ia 4) m.toNat (ia 8 h), zu ia 8 h (zit (ia 4) m.toNat (ia 8 h)), by omega, eX1_goBack_0 I hh hm (by omega) hz2, zGv_8 hn.2, zu_f (by decide), fun ib D => ⟨zgf (ib 25) h (zit (ia 4) m.toNat (ia 8 h)), zVw_led D.1 hh hz2, fun w2 => eX8_back_0 D.1.1 D.2.2.1 D.2.2.2 hh hm (by omega) hz⟩⟩
  · exact Or.inl ⟨1, 0, by decide, by decide, eX1_goBack_1 I hrh hrm hx, fun ib D w2 => eX8_back_1 D.2.2.1 hrh hrm hx⟩
theorem cj_pass {G : zG} {w : (Nat → Int → Int) × (Nat → Int → Int)} {ia : Nat → Int → Int} {g : Int → Int} {y : Int} (V : zVw ia g) (hry : -2147483648 ≤ y ∧ y ≤ 2147483647) : zCJ G w mX1_letGoBy [(1, 1), (0, y)] mX8_pass [(1, 24), (0, y)] ia := by
  have I := V.1.1
  have hn := I.1
  have hy2 := I.2.2.2.2.2.1
  by_cases hx : 1 ≤ y ∧ y ≤ 99
  · by_cases he : 99 < ia 2 2 + y
    · exact Or.inl ⟨8, ia 2 2 + y - 99, by decide, by omega, eX1_letGoBy_8 I hx he, fun ib D w2 => eX8_pass_8 D.1.1 D.2.2.1 hx he⟩
    · exact Or.inr ⟨ia 2 2 + y, zu ia 2 2 (ia 2 2 + y), by omega, eX1_letGoBy_0 I hx (by omega), zGv_2 hn.2, zu_f (by decide), fun ib D => ⟨zru (ib 25) 1 (ia 2 2 + y), zVw_year D.1 (by omega), fun w2 => eX8_pass_0 D.1.1 D.2.2.1 D.2.2.2 hx (by omega)⟩⟩
  · exact Or.inl ⟨1, 0, by decide, by decide, eX1_letGoBy_1 I hry hx, fun ib D w2 => eX8_pass_1 D.2.2.1 hry hx⟩
