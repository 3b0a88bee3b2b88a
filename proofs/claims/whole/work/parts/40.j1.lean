/-! WHOLE CALLS, BOTH SIDES: THE READS (printed by wip/whole/gen/j1.py) -/
abbrev zI32 (x : Int) : Prop := -2147483648 ≤ x ∧ x ≤ 2147483647
/-- a call of the class and the call of the model behind it: the same exception or the same answer, and the cells fit again -/
def zJT (G : zG) (M1 : zM) (l1 : List zSV) (M2 : zM) (l2 : List zSV) (e1 e2 : String) (ia : Nat → Int → Int) : Prop :=
  ∀ w : (Nat → Int → Int) × (Nat → Int → Int), ∃ (ia1 : Nat → Int → Int) (k r : Int), zI32 r ∧ ((k = 0 ∧ Ev G M1 0 l1 [] (zH ia w) (.inl (some (0, r)), zH ia1 w, 0, 0)) ∨ (k = 1 ∧ Ev G M1 0 l1 [] (zH ia w) (.inr e1, zH ia1 w, 1, 6)) ∨ (k = 2 ∧ e2 ≠ "java/lang/Error" ∧ Ev G M1 0 l1 [] (zH ia w) (.inr e2, zH ia1 w, 1, 6))) ∧
    ∀ w2 : (Nat → Int → Int) × (Nat → Int → Int), ∃ (ib1 : Nat → Int → Int) (v : Int), Ev G M2 0 l2 [] (zH ia1 w2) (.inl (some (0, v)), zH ib1 w2, 0, 0) ∧ (k = 0 → v = r) ∧ zI32 v ∧ ib1 24 8 = k ∧ zQq ib1 ib1
theorem zJT_0 {G : zG} {M1 M2 : zM} {l1 l2 : List zSV} {e1 e2 : String} {ia : Nat → Int → Int} {r : Int} (Q : zQq ia ia) (hr : zI32 r) (h1 : ∀ w, Ev G M1 0 l1 [] (zH ia w) (.inl (some (0, r)), zH ia w, 0, 0)) (h2 : ∀ w, Ev G M2 0 l2 [] (zH ia w) (.inl (some (0, r)), zH (zu ia 24 8 0) w, 0, 0)) : zJT G M1 l1 M2 l2 e1 e2 ia :=
  fun w => ⟨ia, 0, r, hr, Or.inl ⟨rfl, h1 w⟩, fun w2 => ⟨zu ia 24 8 0, r, h2 w2, fun _ => rfl, hr, rfl, zQq_code Q⟩⟩
theorem zJT_1 {G : zG} {M1 M2 : zM} {l1 l2 : List zSV} {e1 e2 : String} {ia : Nat → Int → Int} {v : Int} (Q : zQq ia ia) (hv : zI32 v) (h1 : ∀ w, Ev G M1 0 l1 [] (zH ia w) (.inr e1, zH ia w, 1, 6)) (h2 : ∀ w, Ev G M2 0 l2 [] (zH ia w) (.inl (some (0, v)), zH (zu ia 24 8 1) w, 0, 0)) : zJT G M1 l1 M2 l2 e1 e2 ia :=
  fun w => ⟨ia, 1, 0, by decide, Or.inr (Or.inl ⟨rfl, h1 w⟩), fun w2 => ⟨zu ia 24 8 1, v, h2 w2, fun e => absurd e (by decide), hv, rfl, zQq_code Q⟩⟩
theorem zJT_2 {G : zG} {M1 M2 : zM} {l1 l2 : List zSV} {e1 e2 : String} {ia : Nat → Int → Int} {v : Int} (Q : zQq ia ia) (he : e2 ≠ "java/lang/Error") (hv : zI32 v) (h1 : ∀ w, Ev G M1 0 l1 [] (zH ia w) (.inr e2, zH ia w, 1, 6)) (h2 : ∀ w, Ev G M2 0 l2 [] (zH ia w) (.inl (some (0, v)), zH (zu ia 24 8 2) w, 0, 0)) : zJT G M1 l1 M2 l2 e1 e2 ia :=
  fun w => ⟨ia, 2, 0, by decide, Or.inr (Or.inr ⟨rfl, he, h1 w⟩), fun w2 => ⟨zu ia 24 8 2, v, h2 w2, fun e => absurd e (by decide), hv, rfl, zQq_code Q⟩⟩
theorem zu_twice {ia : Nat → Int → Int} {c : Nat} {i x y : Int} : zu (zu ia c i x) c i y = zu ia c i y := by
  funext c2 j
  unfold zu
  by_cases h : c2 = c ∧ j = i
  · rw [if_pos h, if_pos h]
  · rw [if_neg h, if_neg h, if_neg h]
/-! ranges -/
theorem zsum01 {F : Int → Int} {k : Int} (hk : 0 ≤ k) (hF : ∀ j, F j = 0 ∨ F j = 1) : 0 ≤ zsum F k ∧ zsum F k ≤ k := by
  have h := zsum_le (f := F) (m := 0) (M := 1) hk (fun j _ _ => by rcases hF j with e | e <;> rw [e] <;> decide)
  omega
theorem zif01 {p : Prop} {d : Decidable p} : (@ite Int p d 1 0 = 0) ∨ (@ite Int p d 1 0 = 1) := by
  split
  · exact Or.inr rfl
  · exact Or.inl rfl
theorem zfnd_in {Pb : Int → Bool} : ∀ (n : Nat) (k : Int), zfnd Pb n k = -1 ∨ (k ≤ zfnd Pb n k ∧ zfnd Pb n k < k + n)
  | 0, k => Or.inl rfl
  | n + 1, k => by
    rw [zfnd_s]
    split
    · exact Or.inr ⟨by omega, by omega⟩
    · rcases zfnd_in (Pb := Pb) n (k + 1) with h | h
      · exact Or.inl h
      · exact Or.inr ⟨by omega, by omega⟩
theorem zlby_in {par yr : Int → Int} {N y : Int} (hp : zPar par N) : ∀ (n : Nat) (v : Int), -1 ≤ v → v < N → -1 ≤ zlby par yr y n v ∧ zlby par yr y n v < N
  | 0, v, h1, h2 => ⟨h1, h2⟩
  | n + 1, v, h1, h2 => by
    rw [zlby_s]
    split
    · rename_i h
      have h3 := hp v (by omega) h2
      exact zlby_in hp n (par v) h3.1 (by omega)
    · exact ⟨h1, h2⟩
theorem zsin_in {par A : Int → Int} {N y : Int} (hp : zPar par N) : ∀ (n : Nat) (v : Int), 0 ≤ v → v < N → 0 ≤ zsin par A y n v ∧ zsin par A y n v < N
  | 0, v, h1, h2 => ⟨h1, h2⟩
  | n + 1, v, h1, h2 => by
    rw [zsin_s]
    split
    · rename_i h
      have h3 := hp v h1 h2
      exact zsin_in hp n (par v) h.1 (by omega)
    · exact ⟨h1, h2⟩
theorem zcom_in {par : Int → Int} {N : Int} (hp : zPar par N) (hr : ∀ v : Int, 0 < v → v < N → 0 ≤ par v) : ∀ (n : Nat) (a b : Int), 0 ≤ a → a < N → 0 ≤ b → b < N → 0 ≤ zcom par n a b ∧ zcom par n a b < N
  | 0, a, b, h1, h2, h3, h4 => ⟨h1, h2⟩
  | n + 1, a, b, h1, h2, h3, h4 => by
    rw [zcom_s]
    split
    · exact ⟨h1, h2⟩
    · split
      · have h5 := hp a h1 h2
        exact zcom_in hp hr n (par a) b (hr a (by omega) h2) (by omega) h3 h4
      · have h5 := hp b h3 h4
        exact zcom_in hp hr n a (par b) h1 h2 (hr b (by omega) h4) (by omega)
theorem zmade_in {ia : Nat → Int → Int} (I : zCI ia) : 0 ≤ zsum (fun v => zsum (fun s => if ia 6 (v * 31 + s) = v then 1 else 0) 31) (ia 3 0) ∧ zsum (fun v => zsum (fun s => if ia 6 (v * 31 + s) = v then 1 else 0) 31) (ia 3 0) ≤ 31 * ia 3 0 := by
  have hn := I.1
  have h := zsum_le (f := fun v => zsum (fun s => if ia 6 (v * 31 + s) = v then 1 else 0) 31) (m := 0) (M := 31) (k := ia 3 0) (by omega) (fun j _ _ => zsum01 (by decide) (fun _ => zif01))
  omega
/-! texts of a line -/
theorem zdgs_ok {n : Int} (h : 0 ≤ n ∧ n ≤ 999) : ∀ x ∈ zdgs n, 0 ≤ x ∧ x ≤ 65535 := by
  intro x hx
  unfold zdgs at hx
  rcases List.mem_append.mp hx with h1 | h1
  · split at h1
    · rw [List.mem_singleton] at h1
      omega
    · cases h1
  · rcases List.mem_append.mp h1 with h2 | h2
    · split at h2
      · rw [List.mem_singleton] at h2
        omega
      · cases h2
    · rw [List.mem_singleton] at h2
      omega
theorem zse_ok {l : List Int} {c : Int} (hl : ∀ x ∈ l, 0 ≤ x ∧ x ≤ 65535) (hc : 0 ≤ c ∧ c ≤ 65535) : ∀ x ∈ zse l c, 0 ≤ x ∧ x ≤ 65535 := by
  intro x hx
  unfold zse at hx
  split at hx
  · exact hl x hx
  · rcases List.mem_append.mp hx with h1 | h1
    · exact hl x h1
    · rw [List.mem_singleton] at h1
      omega
theorem zlt_ok {A : Int → Int} (hA : ∀ j : Int, 0 ≤ j → j < 16 → 0 ≤ A j ∧ A j ≤ 999) : ∀ (n : Nat) (k : Int) (l : List Int), k + n = 16 → 0 ≤ k → ((l.length : Int) ≤ 7 * k ∧ (k ≤ 10 → (l.length : Int) ≤ 6 * k) ∧ (10 ≤ k → (l.length : Int) ≤ 7 * k - 10)) → (∀ x ∈ l, 0 ≤ x ∧ x ≤ 65535) → ((zlt A n k l).length : Int) ≤ 109 ∧ ∀ x ∈ zlt A n k l, 0 ≤ x ∧ x ≤ 65535
  | 0, k, l, h1, h2, h3, h4 => ⟨by show (l.length : Int) ≤ 109; omega, h4⟩
  | n + 1, k, l, h1, h2, h3, h4 => by
    show ((zlt A n (k + 1) (if A k = 0 then l else zse l 44 ++ zdgs k ++ [61] ++ zdgs (A k))).length : Int) ≤ 109 ∧ _
    have ha := hA k h2 (by omega)
    have q1 := (zse_len l 44).2
    have q2 := zdgs_len k
    have q3 := zdgs_len (A k)
    have q4 : ((zse l 44 ++ zdgs k ++ [61] ++ zdgs (A k)).length : Nat) = (zse l 44).length + (zdgs k).length + 1 + (zdgs (A k)).length := by
      simp only [List.length_append, List.length_cons, List.length_nil]
    refine zlt_ok hA n (k + 1) _ (by omega) (by omega) ?_ ?_
    · split
      · exact ⟨by omega, fun _ => by omega, fun _ => by omega⟩
      · exact ⟨by omega, fun _ => by omega, fun _ => by omega⟩
    · split
      · exact h4
      · intro x hx
        rcases List.mem_append.mp hx with h5 | h5
        · rcases List.mem_append.mp h5 with h6 | h6
          · rcases List.mem_append.mp h6 with h7 | h7
            · exact zse_ok h4 (by decide) x h7
            · exact zdgs_ok ⟨h2, by omega⟩ x h7
          · rw [List.mem_singleton] at h6
            omega
        · exact zdgs_ok ha x h5
theorem zlg_ok {par : Int → Int} {N : Int} (hp : zPar par N) (hN : N ≤ 40) : ∀ (n : Nat) (v k : Int) (l : List Int), v < n → -1 ≤ v ∧ v < N → 0 ≤ k → v + k ≤ 39 → k ≤ 40 → ((l = [] ∧ k = 0) ∨ ((v ≤ 9 → (l.length : Int) + 2 * v + 2 ≤ 109) ∧ (9 ≤ v → (l.length : Int) + 3 * v - 7 ≤ 109))) → (∀ x ∈ l, 0 ≤ x ∧ x ≤ 65535) → ((zlg par n v l).length : Int) ≤ 109 ∧ ∀ x ∈ zlg par n v l, 0 ≤ x ∧ x ≤ 65535
  | 0, v, k, l, h1, h2, h3, h4, h5, h6, h7 => by
    refine ⟨?_, h7⟩
    show (l.length : Int) ≤ 109
    rcases h6 with h6 | h6
    · rw [h6.1]
      decide
    · omega
  | n + 1, v, k, l, h1, h2, h3, h4, h5, h6, h7 => by
    show ((if v < 0 then l else zlg par n (par v) (zse l 60 ++ zdgs v)).length : Int) ≤ 109 ∧ ∀ x ∈ (if v < 0 then l else zlg par n (par v) (zse l 60 ++ zdgs v)), 0 ≤ x ∧ x ≤ 65535
    by_cases hv : v < 0
    · rw [if_pos hv]
      refine ⟨?_, h7⟩
      rcases h6 with h6 | h6
      · rw [h6.1]
        decide
      · omega
    · rw [if_neg hv]
      have hq := hp v (by omega) h2.2
      have q1 := zse_len l 60
      have q2 := zdgs_len v
      have q0 : (l = [] → l.length = 0) := fun e => by rw [e]; rfl
      have q4 : ((zse l 60 ++ zdgs v).length : Nat) = (zse l 60).length + (zdgs v).length := by
        simp only [List.length_append]
      refine zlg_ok hp hN n (par v) (k + 1) _ (by omega) ⟨by omega, by omega⟩ (by omega) (by omega) (by omega) (Or.inr ?_) ?_
      · rcases h6 with h6 | h6
        · have := q0 h6.1
          have := q1.1 h6.1
          omega
        · omega
      · intro x hx
        rcases List.mem_append.mp hx with h8 | h8
        · exact zse_ok h7 (by decide) x h8
        · exact zdgs_ok ⟨by omega, by omega⟩ x h8
theorem zLi_new {ia : Nat → Int → Int} {l : List Int} (h1 : (l.length : Int) ≤ 109) (h2 : ∀ x ∈ l, 0 ≤ x ∧ x ≤ 65535) (Q : zQq ia ia) : zQq (zSm (zu (zSc ia l) 24 8 0) l) (zSm (zu (zSc ia l) 24 8 0) l) := by
  obtain ⟨V, P, D, X, R, L, W, H⟩ := Q
  refine ⟨V, P, D, X, R, ⟨⟨?_, ?_⟩, ?_, fun i h3 h4 => ?_⟩, W, H⟩
  · show 0 ≤ (l.length : Int)
    omega
  · exact h1
  · rfl
  · have h5 : i < (l.length : Int) := h4
    have e1 : zSm (zu (zSc ia l) 24 8 0) l 30 i = l.getD i.toNat 0 := by
      unfold zSm
      rw [if_neg (by omega), if_pos (by omega)]
    have e2 : zSm (zu (zSc ia l) 24 8 0) l 23 i = l.getD i.toNat 0 := by
      show zSc ia l 23 i = _
      unfold zSc
      rw [if_neg (by omega), if_pos (by omega)]
    rw [e1, e2]
    refine ⟨rfl, h2 _ ?_⟩
    rw [List.getD_eq_getElem?_getD, List.getElem?_eq_getElem (by omega : i.toNat < l.length)]
    exact List.getElem_mem _
theorem j_ledger {G : zG} {ia : Nat → Int → Int} {v : Int} (Q : zQq ia ia) (hrv : zI32 v) : zJT G mX7_ledger [(1, 0), (0, v)] mX8_ledger [(1, 24), (0, v)] "java/lang/IndexOutOfBoundsException" "java/lang/Error" ia := by
  have H := Q.1.1
  have I := H.1
  have hn := I.1
  by_cases c0 : 0 ≤ v ∧ v < 4
  rotate_left
  · exact zJT_1 Q (v := 0) (by decide) (fun w => eX7_ledger_x0 I hrv c0) (fun w2 => eX8_ledger_c1 H hrv c0)
  have h := I.2.2.2.2.1 v c0.1 c0.2
  exact zJT_0 Q ⟨by omega, by omega⟩ (fun w => eX7_ledger_0 I c0) (fun w2 => eX8_ledger_0 H c0)
theorem j_amount {G : zG} {ia : Nat → Int → Int} {v : Int} {l : Int} (Q : zQq ia ia) (hrv : zI32 v) (hrl : zI32 l) : zJT G mX7_amount [(1, 0), (0, v), (0, l)] mX8_amount [(1, 24), (0, v), (0, l)] "java/lang/IndexOutOfBoundsException" "java/lang/IllegalArgumentException" ia := by
  have H := Q.1.1
  have I := H.1
  have hn := I.1
  by_cases c0 : 0 ≤ v ∧ v < ia 3 0
  rotate_left
  · exact zJT_1 Q (v := 0) (by decide) (fun w => eX7_amount_x0 I hrv hrl c0) (fun w2 => eX8_amount_c1 H hrv hrl c0)
  by_cases c1 : 0 ≤ l ∧ l < 16
  rotate_left
  · exact zJT_2 Q (v := 0) (by simp) (by decide) (fun w => eX7_amount_x1 I hrv hrl c0 (fun e => c1 ⟨e.1, e.2.2⟩)) (fun w2 => eX8_amount_c2 H hrv hrl c0 c1)
  have h := I.to v (15 + l) c0.1 c0.2 (by omega) (by omega)
  exact zJT_0 Q ⟨by omega, by omega⟩ (fun w => eX7_amount_0 I c0 ⟨c1.1, Int.le_refl _, c1.2⟩) (fun w2 => eX8_amount_0 H c0 c1)
theorem j_sum {G : zG} {ia : Nat → Int → Int} {v : Int} {first : Int} {last : Int} (Q : zQq ia ia) (hrv : zI32 v) (hrfirst : zI32 first) (hrlast : zI32 last) (hG : zGo G) : zJT G mX7_sum [(1, 0), (0, v), (0, first), (0, last)] mX8_sum [(1, 24), (0, v), (0, first), (0, last)] "java/lang/IndexOutOfBoundsException" "java/lang/IllegalArgumentException" ia := by
  have H := Q.1.1
  have I := H.1
  have hn := I.1
  by_cases c0 : 0 ≤ v ∧ v < ia 3 0
  rotate_left
  · exact zJT_1 Q (v := 0) (by decide) (fun w => eX7_sum_x0 I hrv hrfirst hrlast c0) (fun w2 => eX8_sum_c1 H hrv hrfirst hrlast c0)
  by_cases c1 : 0 ≤ first ∧ first ≤ last ∧ last < 16
  rotate_left
  · exact zJT_2 Q (v := 0) (by simp) (by decide) (fun w => eX7_sum_x1 I hrv hrfirst hrlast c0 c1) (fun w2 => eX8_sum_c2 H hrv hrfirst hrlast c0 c1)
  have h := zsum_le (f := fun j => if first ≤ j ∧ j ≤ last then zTo ia v (15 + j) else 0) (m := 0) (M := 15984) (k := 16) (by decide) (fun j h1 h2 => by
    have := I.to v (15 + j) c0.1 c0.2 (by omega) (by omega)
    show 0 ≤ (if _ then zTo ia v (15 + j) else 0) ∧ (if _ then zTo ia v (15 + j) else 0) ≤ 15984
    split <;> omega)
  exact zJT_0 Q ⟨by omega, by omega⟩ (fun w => by
    have h9 := eX7_sum_0 (G := G) (w := w) I c0 c1 hG
    rw [zpg_sum Q.1.2.1 c0.1 c0.2 c1] at h9
    exact h9) (fun w2 => eX8_sum_0 H c0 c1)
theorem j_sumAgain {G : zG} {ia : Nat → Int → Int} {v : Int} {first : Int} {last : Int} (Q : zQq ia ia) (hrv : zI32 v) (hrfirst : zI32 first) (hrlast : zI32 last) : zJT G mX7_sumAgain [(1, 0), (0, v), (0, first), (0, last)] mX8_sumAgain [(1, 24), (0, v), (0, first), (0, last)] "java/lang/IndexOutOfBoundsException" "java/lang/IllegalArgumentException" ia := by
  have H := Q.1.1
  have I := H.1
  have hn := I.1
  by_cases c0 : 0 ≤ v ∧ v < ia 3 0
  rotate_left
  · exact zJT_1 Q (v := 0) (by decide) (fun w => eX7_sumAgain_x0 I hrv hrfirst hrlast c0) (fun w2 => eX8_sumAgain_c1 H hrv hrfirst hrlast c0)
  by_cases c1 : 0 ≤ first ∧ first ≤ last ∧ last < 16
  rotate_left
  · exact zJT_2 Q (v := 0) (by simp) (by decide) (fun w => eX7_sumAgain_x1 I hrv hrfirst hrlast c0 c1) (fun w2 => eX8_sumAgain_c2 H hrv hrfirst hrlast c0 c1)
  have h := zsum_le (f := fun j => if first ≤ j ∧ j ≤ last then zTo ia v (15 + j) else 0) (m := 0) (M := 15984) (k := 16) (by decide) (fun j h1 h2 => by
    have := I.to v (15 + j) c0.1 c0.2 (by omega) (by omega)
    show 0 ≤ (if _ then zTo ia v (15 + j) else 0) ∧ (if _ then zTo ia v (15 + j) else 0) ≤ 15984
    split <;> omega)
  exact zJT_0 Q ⟨by omega, by omega⟩ (fun w => eX7_sumAgain_0 I c0 c1) (fun w2 => eX8_sumAgain_0 H c0 c1)
theorem j_most {G : zG} {ia : Nat → Int → Int} {v : Int} {first : Int} {last : Int} (Q : zQq ia ia) (hrv : zI32 v) (hrfirst : zI32 first) (hrlast : zI32 last) : zJT G mX7_most [(1, 0), (0, v), (0, first), (0, last)] mX8_most [(1, 24), (0, v), (0, first), (0, last), (9, 0), (9, 0)] "java/lang/IndexOutOfBoundsException" "java/lang/IllegalArgumentException" ia := by
  have H := Q.1.1
  have I := H.1
  have hn := I.1
  by_cases c0 : 0 ≤ v ∧ v < ia 3 0
  rotate_left
  · exact zJT_1 Q (v := 0) (by decide) (fun w => eX7_most_x0 I hrv hrfirst hrlast c0) (fun w2 => eX8_most_c1 H hrv hrfirst hrlast c0)
  by_cases c1 : 0 ≤ first ∧ first ≤ last ∧ last < 16
  rotate_left
  · exact zJT_2 Q (v := 0) (by simp) (by decide) (fun w => eX7_most_x1 I hrv hrfirst hrlast c0 c1) (fun w2 => eX8_most_c2 H hrv hrfirst hrlast c0 c1)
  have h := zmx_in (A := fun j => zTo ia v (15 + j)) (lo := first) (last - first).toNat
  exact zJT_0 Q ⟨by omega, by omega⟩ (fun w => eX7_most_0 I c0 c1) (fun w2 => eX8_most_0 H c0 c1)
theorem j_reached {G : zG} {ia : Nat → Int → Int} {v : Int} {want : Int} (Q : zQq ia ia) (hrv : zI32 v) (hrwant : zI32 want) : zJT G mX7_reached [(1, 0), (0, v), (0, want), (9, 0)] mX8_reached [(1, 24), (0, v), (0, want), (9, 0)] "java/lang/IndexOutOfBoundsException" "java/util/NoSuchElementException" ia := by
  have H := Q.1.1
  have I := H.1
  have hn := I.1
  by_cases c0 : 0 ≤ v ∧ v < ia 3 0
  rotate_left
  · exact zJT_1 Q (v := 0) (by decide) (fun w => eX7_reached_x0 I hrv hrwant c0) (fun w2 => eX8_reached_c1 H hrv hrwant c0)
  rcases zfnd_in (Pb := fun l => decide (want ≤ zsum (fun j => zTo ia v (15 + j)) (l + 1))) 16 0 with h | h
  · refine zJT_2 Q (v := 0) (by simp) (by decide) (fun w => eX7_reached_x1 I hrwant c0 h) (fun w2 => ?_)
    have h9 := eX8_reached_c2 (G := G) (w := w2) H c0 hrwant h rfl
    rw [zu_twice] at h9
    exact h9
  · exact zJT_0 Q ⟨by omega, by omega⟩ (fun w => eX7_reached_0 I hrwant c0 rfl ⟨h.1, by omega⟩) (fun w2 => eX8_reached_0 H c0 hrwant rfl h.1)
theorem j_versionOf {G : zG} {ia : Nat → Int → Int} {v : Int} {what : Int} (Q : zQq ia ia) (hrv : zI32 v) (hrwhat : zI32 what) : zJT G mX7_versionOf [(1, 0), (0, v), (0, what)] mX8_versionOf [(1, 24), (0, v), (0, what)] "java/lang/IndexOutOfBoundsException" "java/lang/IllegalArgumentException" ia := by
  have H := Q.1.1
  have I := H.1
  have hn := I.1
  by_cases c0 : 0 ≤ v ∧ v < ia 3 0
  rotate_left
  · exact zJT_1 Q (v := 0) (by decide) (fun w => eX7_versionOf_x0 I hrv hrwhat c0) (fun w2 => eX8_versionOf_c1 H hrv hrwhat c0)
  by_cases c1 : 0 ≤ what ∧ what ≤ 6
  rotate_left
  · exact zJT_2 Q (v := 0) (by simp) (by decide) (fun w => eX7_versionOf_x1 I hrwhat c0 c1) (fun w2 => eX8_versionOf_c2 H hrv hrwhat c0 c1)
  have hp := I.2.1 v c0.1 c0.2
  have h9 : what = 0 ∨ what = 1 ∨ what = 2 ∨ what = 3 ∨ what = 4 ∨ what = 5 ∨ what = 6 := by omega
  rcases h9 with rfl | rfl | rfl | rfl | rfl | rfl | rfl
  · exact zJT_0 Q ⟨by omega, by omega⟩ (fun w => eX7_versionOf_0 I c0) (fun w2 => eX8_versionOf_0 H c0)
  · exact zJT_0 Q ⟨by omega, by omega⟩ (fun w => eX7_versionOf_1 I c0) (fun w2 => eX8_versionOf_1 H c0)
  · have h := zanc_le I.par 40 (ia 4 v) (by omega) (by omega)
    exact zJT_0 Q ⟨by omega, by omega⟩ (fun w => eX7_versionOf_2 I c0) (fun w2 => eX8_versionOf_2 H c0)
  · have h := zsum01 (F := fun j => if 1 ≤ j ∧ ia 4 j = v then 1 else 0) (k := ia 3 0) (by omega) (fun _ => zif01)
    exact zJT_0 Q ⟨by omega, by omega⟩ (fun w => eX7_versionOf_3 I c0) (fun w2 => eX8_versionOf_3 H c0)
  · have h := zsum01 (F := fun s => if ia 6 (v * 31 + s) = v then 1 else 0) (k := 31) (by omega) (fun _ => zif01)
    exact zJT_0 Q ⟨by omega, by omega⟩ (fun w => eX7_versionOf_4 I c0) (fun w2 => eX8_versionOf_4 H c0)
  · by_cases e : v = 0
    · refine zJT_0 Q (r := 0) (by decide) (fun w => ?_) (fun w2 => eX8_versionOf_5a H c0 e)
      have h := eX7_versionOf_5 (G := G) (w := w) I c0
      rw [if_pos (by omega)] at h
      exact h
    · have h := zsum01 (F := fun i => if 0 ≤ i ∧ i ≤ 15 ∧ zTo ia v (15 + i) ≠ zTo ia (ia 4 v) (15 + i) then 1 else 0) (k := 16) (by omega) (fun _ => zif01)
      refine zJT_0 Q ⟨by omega, by omega⟩ (fun w => ?_) (fun w2 => eX8_versionOf_5b H c0 e ⟨by omega, by omega⟩)
      have h := eX7_versionOf_5 (G := G) (w := w) I c0
      rw [if_neg (by omega)] at h
      exact h
  · have h := zsum01 (F := fun h => if ia 8 h = v then 1 else 0) (k := 4) (by omega) (fun _ => zif01)
    exact zJT_0 Q ⟨by omega, by omega⟩ (fun w => eX7_versionOf_6 I c0) (fun w2 => eX8_versionOf_6 H c0)
theorem j_maker {G : zG} {ia : Nat → Int → Int} {v : Int} {s : Int} (Q : zQq ia ia) (hrv : zI32 v) (hrs : zI32 s) : zJT G mX7_maker [(1, 0), (0, v), (0, s)] mX8_maker [(1, 24), (0, v), (0, s)] "java/lang/IndexOutOfBoundsException" "java/lang/IllegalArgumentException" ia := by
  have H := Q.1.1
  have I := H.1
  have hn := I.1
  by_cases c0 : 0 ≤ v ∧ v < ia 3 0
  rotate_left
  · exact zJT_1 Q (v := 0) (by decide) (fun w => eX7_maker_x0 I hrv hrs c0) (fun w2 => eX8_maker_c1 H hrv hrs c0)
  by_cases c1 : 0 ≤ s ∧ s ≤ 30
  rotate_left
  · exact zJT_2 Q (v := 0) (by simp) (by decide) (fun w => eX7_maker_x1 I hrv hrs c0 (fun e => c1 ⟨e.1, by omega⟩)) (fun w2 => eX8_maker_c2 H hrv hrs c0 c1)
  have h := I.2.2.1 v s c0.1 c0.2 c1.1 (by omega)
  exact zJT_0 Q ⟨by omega, by omega⟩ (fun w => eX7_maker_0 I c0 ⟨c1.1, by omega⟩) (fun w2 => eX8_maker_0 H c0 c1)
theorem j_users {G : zG} {ia : Nat → Int → Int} {v : Int} {s : Int} (Q : zQq ia ia) (hrv : zI32 v) (hrs : zI32 s) : zJT G mX7_users [(1, 0), (0, v), (0, s)] mX8_users [(1, 24), (0, v), (0, s)] "java/lang/IndexOutOfBoundsException" "java/lang/IllegalArgumentException" ia := by
  have H := Q.1.1
  have I := H.1
  have hn := I.1
  by_cases c0 : 0 ≤ v ∧ v < ia 3 0
  rotate_left
  · exact zJT_1 Q (v := 0) (by decide) (fun w => eX7_users_x0 I hrv hrs c0) (fun w2 => eX8_users_c1 H hrv hrs c0)
  by_cases c1 : 0 ≤ s ∧ s ≤ 30
  rotate_left
  · exact zJT_2 Q (v := 0) (by simp) (by decide) (fun w => eX7_users_x1 I hrv hrs c0 (fun e => c1 ⟨e.1, by omega⟩)) (fun w2 => eX8_users_c2 H hrv hrs c0 c1)
  have h := zsum01 (F := fun j => if ia 6 (j * 31 + s) = ia 6 (v * 31 + s) then 1 else 0) (k := ia 3 0) (by omega) (fun _ => zif01)
  exact zJT_0 Q ⟨by omega, by omega⟩ (fun w => eX7_users_0 I c0 ⟨c1.1, by omega⟩) (fun w2 => eX8_users_0 H c0 c1)
theorem j_had {G : zG} {ia : Nat → Int → Int} {h : Int} {y : Int} (Q : zQq ia ia) (hrh : zI32 h) (hry : zI32 y) : zJT G mX7_had [(1, 0), (0, h), (0, y)] mX8_had [(1, 24), (0, h), (0, y), (9, 0)] "java/lang/IndexOutOfBoundsException" "java/lang/IllegalArgumentException" ia := by
  have H := Q.1.1
  have I := H.1
  have hn := I.1
  by_cases c0 : 0 ≤ h ∧ h < 4
  rotate_left
  · exact zJT_1 Q (v := 0) (by decide) (fun w => eX7_had_x0 I hrh hry c0) (fun w2 => eX8_had_c1 hrh hry c0)
  by_cases c1 : 0 ≤ y ∧ y ≤ 99
  rotate_left
  · exact zJT_2 Q (v := 0) (by simp) (by decide) (fun w => eX7_had_x1 I hry c0 c1) (fun w2 => eX8_had_c2 hrh hry c0 c1)
  have hq := I.2.2.2.2.1 h c0.1 c0.2
  have h9 := zlby_in (yr := ia 5) (y := y) I.par (ia 8 h + 1).toNat (ia 8 h) (by omega) hq.2
  exact zJT_0 Q ⟨by omega, by omega⟩ (fun w => eX7_had_0 I c0 c1 rfl) (fun w2 => eX8_had_0 H c0 c1 Q.1.2.2.1 rfl)
theorem j_since {G : zG} {ia : Nat → Int → Int} {v : Int} {l : Int} (Q : zQq ia ia) (hrv : zI32 v) (hrl : zI32 l) : zJT G mX7_since [(1, 0), (0, v), (0, l)] mX8_since [(1, 24), (0, v), (0, l), (9, 0)] "java/lang/IndexOutOfBoundsException" "java/lang/IllegalArgumentException" ia := by
  have H := Q.1.1
  have I := H.1
  have hn := I.1
  by_cases c0 : 0 ≤ v ∧ v < ia 3 0
  rotate_left
  · exact zJT_1 Q (v := 0) (by decide) (fun w => eX7_since_x0 I hrv hrl c0) (fun w2 => eX8_since_c1 H hrv hrl c0)
  by_cases c1 : 0 ≤ l ∧ l < 16
  rotate_left
  · exact zJT_2 Q (v := 0) (by simp) (by decide) (fun w => eX7_since_x1 I hrv hrl c0 (fun e => c1 ⟨e.1, e.2.2⟩)) (fun w2 => eX8_since_c2 H hrv hrl c0 c1)
  have h9 := zsin_in (A := fun j => zTo ia j (15 + l)) (y := zTo ia v (15 + l)) I.par (v + 1).toNat v c0.1 c0.2
  exact zJT_0 Q ⟨by omega, by omega⟩ (fun w => eX7_since_0 I c0 ⟨c1.1, Int.le_refl _, c1.2⟩ rfl) (fun w2 => eX8_since_0 H c0 c1 rfl)
theorem j_common {G : zG} {ia : Nat → Int → Int} {one : Int} {other : Int} (Q : zQq ia ia) (hrone : zI32 one) (hrother : zI32 other) : zJT G mX7_common [(1, 0), (0, one), (0, other)] mX8_common [(1, 24), (0, one), (0, other), (9, 0), (9, 0)] "java/lang/IndexOutOfBoundsException" "java/lang/Error" ia := by
  have H := Q.1.1
  have I := H.1
  have hn := I.1
  by_cases c0 : 0 ≤ one ∧ one < ia 3 0
  rotate_left
  · exact zJT_1 Q (v := 0) (by decide) (fun w => eX7_common_x0 I hrone hrother c0) (fun w2 => eX8_common_c1 H hrone hrother (fun e => c0 e.1))
  by_cases c1 : 0 ≤ other ∧ other < ia 3 0
  rotate_left
  · exact zJT_1 Q (v := 0) (by decide) (fun w => eX7_common_x1 I hrone hrother c0 c1) (fun w2 => eX8_common_c1 H hrone hrother (fun e => c1 e.2))
  have h9 := zcom_in I.par (fun v h1 h2 => (I.2.1 v (by omega) h2).2.2.1 h1) (one + other + 1).toNat one other c0.1 c0.2 c1.1 c1.2
  exact zJT_0 Q ⟨by omega, by omega⟩ (fun w => eX7_common_0 I c0 c1 rfl) (fun w2 => eX8_common_0 H ⟨c0, c1⟩ rfl)
theorem j_apart {G : zG} {ia : Nat → Int → Int} {one : Int} {other : Int} (Q : zQq ia ia) (hrone : zI32 one) (hrother : zI32 other) : zJT G mX7_apart [(1, 0), (0, one), (0, other)] mX8_apart [(1, 24), (0, one), (0, other)] "java/lang/IndexOutOfBoundsException" "java/lang/Error" ia := by
  have H := Q.1.1
  have I := H.1
  have hn := I.1
  by_cases c0 : 0 ≤ one ∧ one < ia 3 0
  rotate_left
  · exact zJT_1 Q (v := 0) (by decide) (fun w => eX7_apart_x0 I hrone hrother c0) (fun w2 => eX8_apart_c1 H hrone hrother (fun e => c0 e.1))
  by_cases c1 : 0 ≤ other ∧ other < ia 3 0
  rotate_left
  · exact zJT_1 Q (v := 0) (by decide) (fun w => eX7_apart_x1 I hrone hrother c0 c1) (fun w2 => eX8_apart_c1 H hrone hrother (fun e => c1 e.2))
  have h := zsum01 (F := fun i => if 0 ≤ i ∧ i ≤ 15 ∧ zTo ia one (15 + i) ≠ zTo ia other (15 + i) then 1 else 0) (k := 16) (by omega) (fun _ => zif01)
  exact zJT_0 Q ⟨by omega, by omega⟩ (fun w => eX7_apart_0 I c0 c1) (fun w2 => eX8_apart_0 H ⟨c0, c1⟩)
theorem j_shared {G : zG} {ia : Nat → Int → Int} {one : Int} {other : Int} (Q : zQq ia ia) (hrone : zI32 one) (hrother : zI32 other) : zJT G mX7_shared [(1, 0), (0, one), (0, other)] mX8_shared [(1, 24), (0, one), (0, other), (9, 0), (9, 0)] "java/lang/IndexOutOfBoundsException" "java/lang/Error" ia := by
  have H := Q.1.1
  have I := H.1
  have hn := I.1
  by_cases c0 : 0 ≤ one ∧ one < ia 3 0
  rotate_left
  · exact zJT_1 Q (v := 0) (by decide) (fun w => eX7_shared_x0 I hrone hrother c0) (fun w2 => eX8_shared_c1 H hrone hrother (fun e => c0 e.1))
  by_cases c1 : 0 ≤ other ∧ other < ia 3 0
  rotate_left
  · exact zJT_1 Q (v := 0) (by decide) (fun w => eX7_shared_x1 I hrone hrother c0 c1) (fun w2 => eX8_shared_c1 H hrone hrother (fun e => c1 e.2))
  have h := zsum01 (F := fun s => if ia 6 (one * 31 + s) = ia 6 (other * 31 + s) then 1 else 0) (k := 31) (by omega) (fun _ => zif01)
  exact zJT_0 Q ⟨by omega, by omega⟩ (fun w => eX7_shared_0 I c0 c1) (fun w2 => eX8_shared_0 H ⟨c0, c1⟩)
theorem j_isOf {G : zG} {ia : Nat → Int → Int} {one : Int} {other : Int} (Q : zQq ia ia) (hrone : zI32 one) (hrother : zI32 other) : zJT G mX7_isOf [(1, 0), (0, one), (0, other)] mX8_isOf [(1, 24), (0, one), (0, other), (9, 0)] "java/lang/IndexOutOfBoundsException" "java/lang/Error" ia := by
  have H := Q.1.1
  have I := H.1
  have hn := I.1
  by_cases c0 : 0 ≤ one ∧ one < ia 3 0
  rotate_left
  · exact zJT_1 Q (v := 0) (by decide) (fun w => eX7_isOf_x0 I hrone hrother c0) (fun w2 => eX8_isOf_c1 H hrone hrother (fun e => c0 e.1))
  by_cases c1 : 0 ≤ other ∧ other < ia 3 0
  rotate_left
  · exact zJT_1 Q (v := 0) (by decide) (fun w => eX7_isOf_x1 I hrone hrother c0 c1) (fun w2 => eX8_isOf_c1 H hrone hrother (fun e => c1 e.2))
  have h9 := zcom_in I.par (fun v h1 h2 => (I.2.1 v (by omega) h2).2.2.1 h1) (one + other + 1).toNat one other c0.1 c0.2 c1.1 c1.2
  have hd := zcom_dwn (one := one) I.par c0.1 c0.2 (fun v h1 h2 => (I.2.1 v (by omega) h2).2.2.1 h1) (one + other + 1).toNat (other + 1).toNat other c1.1 c1.2 (by omega) (by omega)
  have he : (if zcom (ia 4) (one + other + 1).toNat one other = one then (1 : Int) else 0) = if zdwn (ia 4) one (other + 1).toNat other = one then 1 else 0 := by
    by_cases e : zdwn (ia 4) one (other + 1).toNat other = one
    · rw [if_pos e, if_pos (hd.mpr e)]
    · rw [if_neg e, if_neg (fun e2 => e (hd.mp e2))]
  refine zJT_0 Q (r := if zdwn (ia 4) one (other + 1).toNat other = one then 1 else 0) (by split <;> decide) (fun w => ?_) (fun w2 => eX8_isOf_0 H ⟨c0, c1⟩ rfl)
  rw [← he]
  exact eX7_isOf_0 I c0 c1 rfl ⟨by omega, by omega⟩
theorem j_wouldMake {G : zG} {ia : Nat → Int → Int} {first : Int} {last : Int} (Q : zQq ia ia) (hrfirst : zI32 first) (hrlast : zI32 last) (hG : zGo G) : zJT G mX7_wouldMake [(1, 0), (0, first), (0, last), (9, 0), (9, 0)] mX8_wouldMake [(1, 24), (0, first), (0, last), (9, 0), (9, 0)] "java/lang/IllegalArgumentException" "java/lang/Error" ia := by
  have H := Q.1.1
  have I := H.1
  have hn := I.1
  by_cases c0 : 0 ≤ first ∧ first ≤ last ∧ last < 16
  rotate_left
  · exact zJT_1 Q (v := 0) (by decide) (fun w => eX7_wouldMake_x0 I hrfirst hrlast c0) (fun w2 => eX8_wouldMake_c1 hrfirst hrlast c0)
  have h := zsum01 (F := fun s => if (zlow s ≤ last ∧ first ≤ zhig s) ∧ (zlow s < first ∨ last < zhig s) then 1 else 0) (k := 31) (by omega) (fun _ => zif01)
  exact zJT_0 Q ⟨by omega, by omega⟩ (fun w => eX7_wouldMake hG c0) (fun w2 => eX8_wouldMake_0 H Q.2.2.2.2.2.2.2 c0)
theorem j_alike {G : zG} {ia : Nat → Int → Int} {v : Int} (Q : zQq ia ia) (hrv : zI32 v) : zJT G mX7_alike [(1, 0), (0, v)] mX8_alike [(1, 24), (0, v), (9, 0), (9, 0)] "java/lang/IndexOutOfBoundsException" "java/lang/Error" ia := by
  have H := Q.1.1
  have I := H.1
  have hn := I.1
  by_cases c0 : 0 ≤ v ∧ v < ia 3 0
  rotate_left
  · exact zJT_1 Q (v := 0) (by decide) (fun w => eX7_alike_x0 I hrv c0) (fun w2 => eX8_alike_c1 H hrv c0)
  have h := zsum01 (F := fun j => if j ≠ v ∧ (zsum (fun i => if 0 ≤ i ∧ i ≤ 15 ∧ zTo ia v (15 + i) ≠ zTo ia j (15 + i) then 1 else 0) 16) = 0 then 1 else 0) (k := ia 3 0) (by omega) (fun _ => zif01)
  refine zJT_0 Q ⟨by omega, by omega⟩ (fun w => eX7_alike_0 I c0) (fun w2 => ?_)
  have h9 := eX8_alike_0 (G := G) (w := w2) H c0
  have e9 : zsum (fun j => if j ≠ v ∧ (zsum (fun i => if 0 ≤ i ∧ i ≤ 15 ∧ zTo ia j (15 + i) ≠ zTo ia v (15 + i) then 1 else 0) 16) = 0 then 1 else 0) (ia 3 0) = zsum (fun j => if j ≠ v ∧ (zsum (fun i => if 0 ≤ i ∧ i ≤ 15 ∧ zTo ia v (15 + i) ≠ zTo ia j (15 + i) then 1 else 0) 16) = 0 then 1 else 0) (ia 3 0) := by
    refine zsum_congr (fun j h1 h2 => ?_)
    have e8 : zsum (fun i => if 0 ≤ i ∧ i ≤ 15 ∧ zTo ia j (15 + i) ≠ zTo ia v (15 + i) then 1 else 0) 16 = zsum (fun i => if 0 ≤ i ∧ i ≤ 15 ∧ zTo ia v (15 + i) ≠ zTo ia j (15 + i) then (1 : Int) else 0) 16 := by
      refine zsum_congr (fun i h3 h4 => ?_)
      by_cases e : 0 ≤ i ∧ i ≤ 15 ∧ zTo ia v (15 + i) ≠ zTo ia j (15 + i)
      · rw [if_pos e, if_pos ⟨e.1, e.2.1, fun e2 => e.2.2 e2.symm⟩]
      · rw [if_neg e, if_neg (fun e2 => e ⟨e2.1, e2.2.1, fun e3 => e2.2.2 e3.symm⟩)]
    rw [e8]
  rw [e9] at h9
  exact h9
theorem j_richest {G : zG} {ia : Nat → Int → Int} {place : Int} (Q : zQq ia ia) (hrplace : zI32 place) : zJT G mX7_richest [(1, 0), (0, place), (9, 0)] mX8_richest [(1, 24), (0, place), (9, 0), (9, 0), (9, 0), (9, 0), (9, 0)] "java/util/NoSuchElementException" "java/lang/Error" ia := by
  have H := Q.1.1
  have I := H.1
  have hn := I.1
  have TS := zTS_of Q.1.2.1
  rcases zfnd_in (Pb := fun v => decide ((zsum (fun j => if zTo ia v 0 < zTo ia j 0 ∨ (zTo ia j 0 = zTo ia v 0 ∧ v < j) then 1 else 0) (ia 3 0)) = place)) (ia 3 0).toNat 0 with h | h
  · exact zJT_1 Q (v := 0) (by decide) (fun w => eX7_richest_x0 I hrplace h) (fun w2 => eX8_richest_c1 H TS hrplace h rfl)
  · exact zJT_0 Q ⟨by omega, by omega⟩ (fun w => eX7_richest_0 I hrplace rfl ⟨h.1, by omega⟩) (fun w2 => eX8_richest_0 H TS hrplace rfl h.1)
theorem j_busiest {G : zG} {ia : Nat → Int → Int} (Q : zQq ia ia) : zJT G mX7_busiest [(1, 0)] mX8_busiest [(1, 24), (9, 0), (9, 0)] "java/util/NoSuchElementException" "java/lang/Error" ia := by
  have H := Q.1.1
  have I := H.1
  have hn := I.1
  by_cases c0 : 2 ≤ ia 3 0
  rotate_left
  · exact zJT_1 Q (v := 0) (by decide) (fun w => eX7_busiest_x0 I (by omega)) (fun w2 => eX8_busiest_c1 H (by omega))
  have h := zmx_in (A := zln ia) (lo := 1) (ia 3 0 - 2).toNat
  exact zJT_0 Q ⟨by omega, by omega⟩ (fun w => eX7_busiest_0 I c0) (fun w2 => eX8_busiest_0 H c0)
theorem j_reason {G : zG} {ia : Nat → Int → Int} {k : Int} (Q : zQq ia ia) (hrk : zI32 k) : zJT G mX7_reason [(1, 0), (0, k)] mX8_reason [(1, 24), (0, k)] "java/lang/IllegalArgumentException" "java/util/NoSuchElementException" ia := by
  have H := Q.1.1
  have I := H.1
  have hn := I.1
  by_cases c0 : 0 ≤ k ∧ k ≤ 2
  rotate_left
  · exact zJT_1 Q (v := 0) (by decide) (fun w => eX7_reason_x0 hrk c0) (fun w2 => eX8_reason_c1 hrk c0)
  have R := Q.2.2.2.2.1
  obtain ⟨r1, r2, r3, r4, r5, r6⟩ := R
  have R : ia 24 9 = ia 9 0 ∧ True := ⟨r1, trivial⟩
  by_cases e : ia 9 0 = 0
  · exact zJT_2 Q (v := 0) (by simp) (by decide) (fun w => eX7_reason_x1 c0 e) (fun w2 => eX8_reason_c2 c0 (by rw [r1]; exact e))
  have h9 : k = 0 ∨ k = 1 ∨ k = 2 := by omega
  rcases h9 with rfl | rfl | rfl
  · refine zJT_0 Q (r := ia 9 0) ⟨by omega, by omega⟩ (fun w => eX7_reason_0 (by omega)) (fun w2 => ?_)
    have h9 := eX8_reason_0 (G := G) (ia := ia) (w := w2) (by rw [R.1]; omega)
    rw [r1] at h9
    exact h9
  · refine zJT_0 Q (r := ia 9 1) ⟨by omega, by omega⟩ (fun w => eX7_reason_1 (by omega)) (fun w2 => ?_)
    have h9 := eX8_reason_1 (G := G) (ia := ia) (w := w2) (by rw [R.1]; omega)
    rw [r2] at h9
    exact h9
  · refine zJT_0 Q (r := ia 9 2) ⟨by omega, by omega⟩ (fun w => eX7_reason_2 (by omega)) (fun w2 => ?_)
    have h9 := eX8_reason_2 (G := G) (ia := ia) (w := w2) (by rw [R.1]; omega)
    rw [r3] at h9
    exact h9
theorem j_character {G : zG} {ia : Nat → Int → Int} {i : Int} (Q : zQq ia ia) (hri : zI32 i) : zJT G mX7_character [(1, 0), (0, i)] mX8_character [(1, 24), (0, i)] "java/lang/IndexOutOfBoundsException" "java/lang/Error" ia := by
  have H := Q.1.1
  have I := H.1
  have hn := I.1
  obtain ⟨l1, l2, l3⟩ := Q.2.2.2.2.2.1
  by_cases c0 : 0 ≤ i ∧ i < ia 22 1
  · obtain ⟨q1, q2, q3⟩ := l3 i c0.1 c0.2
    refine zJT_0 Q (r := ia 23 i) ⟨by omega, by omega⟩ (fun w => eX7_character_0 l1.2 c0 ⟨q2, q3⟩) (fun w2 => ?_)
    have h9 := eX8_character_0 (G := G) (w := w2) (ia := ia) (i := i) (by rw [l2]; omega) (by rw [l2]; exact c0) (by rw [q1]; exact ⟨q2, q3⟩)
    rw [q1] at h9
    exact h9
  · exact zJT_1 Q (v := 32) (by decide) (fun w => eX7_character_x0 hri l1 c0) (fun w2 => eX8_character_c1 hri (by rw [l2]; omega) (by rw [l2]; exact c0))
theorem j_account {G : zG} {ia : Nat → Int → Int} {k : Int} (Q : zQq ia ia) (hrk : zI32 k) : zJT G mX7_account [(1, 0), (0, k)] mX8_account [(1, 24), (0, k)] "java/lang/IllegalArgumentException" "java/lang/Error" ia := by
  have H := Q.1.1
  have I := H.1
  have hn := I.1
  by_cases c0 : 0 ≤ k ∧ k ≤ 8
  rotate_left
  · exact zJT_1 Q (v := 0) (by decide) (fun w => eX7_account_x0 hrk c0) (fun w2 => eX8_account_c1 hrk c0)
  have h9 : k = 0 ∨ k = 1 ∨ k = 2 ∨ k = 3 ∨ k = 4 ∨ k = 5 ∨ k = 6 ∨ k = 7 ∨ k = 8 := by omega
  have hy := I.2.2.2.2.2.1
  have hwr := I.2.2.2.2.2.2
  rcases h9 with rfl | rfl | rfl | rfl | rfl | rfl | rfl | rfl | rfl
  · skip
    exact zJT_0 Q ⟨by omega, by omega⟩ (fun w => eX7_account_0 I) (fun w2 => eX8_account_0 H)
  · skip
    exact zJT_0 Q ⟨by omega, by omega⟩ (fun w => eX7_account_1 I) (fun w2 => eX8_account_1 H)
  · have h := zmade_in I
    exact zJT_0 Q ⟨by omega, by omega⟩ (fun w => eX7_account_2 I) (fun w2 => eX8_account_2 H)
  · have h := zsum01 (F := fun v => if 0 < zsum (fun h => if ia 8 h = v then 1 else 0) 4 then 1 else 0) (k := ia 3 0) (by omega) (fun _ => zif01)
    exact zJT_0 Q ⟨by omega, by omega⟩ (fun w => eX7_account_3 I) (fun w2 => eX8_account_3 H)
  · have h := zsum01 (F := fun v => if zsum (fun j => if 1 ≤ j ∧ ia 4 j = v then 1 else 0) (ia 3 0) = 0 then 1 else 0) (k := ia 3 0) (by omega) (fun _ => zif01)
    exact zJT_0 Q ⟨by omega, by omega⟩ (fun w => eX7_account_4 I) (fun w2 => eX8_account_4 H)
  · skip
    exact zJT_0 Q ⟨by omega, by omega⟩ (fun w => eX7_account_5 I) (fun w2 => eX8_account_5 H)
  · skip
    exact zJT_0 Q ⟨by omega, by omega⟩ (fun w => eX7_account_6 I) (fun w2 => eX8_account_6 H)
  · have h := Q.2.1
    have h1 := h.1
    refine zJT_0 Q (r := ia 17 1) ⟨by omega, by omega⟩ (fun w => eX7_account_7 I) (fun w2 => ?_)
    have h9 := eX8_account_7 (G := G) (w := w2) H
    rw [h.2.1] at h9
    exact h9
  · have h := Q.2.2.2.1
    have h1 := h.1.1
    have h2 := h.1.2.1
    refine zJT_0 Q (r := ia 19 1) ⟨by omega, by omega⟩ (fun w => eX7_account_8 I) (fun w2 => ?_)
    have h9 := eX8_account_8 (G := G) (w := w2) H
    rw [h.2.1] at h9
    exact h9
theorem j_line {G : zG} {ia : Nat → Int → Int} {v : Int} (Q : zQq ia ia) (hrv : zI32 v) : zJT G mX7_line [(1, 0), (0, v), (9, 0), (9, 0)] mX8_line [(1, 24), (0, v), (9, 0)] "java/lang/IndexOutOfBoundsException" "java/lang/Error" ia := by
  have H := Q.1.1
  have I := H.1
  have hn := I.1
  by_cases c0 : 0 ≤ v ∧ v < ia 3 0
  rotate_left
  · exact zJT_1 Q (v := 0) (by decide) (fun w => eX7_line_x0 I hrv c0) (fun w2 => eX8_line_c1 H hrv c0)
  have hA : ∀ j : Int, 0 ≤ j → j < 16 → 0 ≤ zTo ia v (15 + j) ∧ zTo ia v (15 + j) ≤ 999 := fun j h1 h2 => by
    have h4 := I.2.2.2.1 v (15 + j) c0.1 c0.2 (by omega) (by omega)
    have h5 := (zsp (s := 15 + j) ⟨by omega, by omega⟩).2 (by omega)
    rw [h5.1, h5.2] at h4
    omega
  have h := zlt_ok (A := fun j => zTo ia v (15 + j)) hA 16 0 [] (by omega) (by omega) ⟨by simp, fun _ => by simp, fun h => absurd h (by decide)⟩ (fun x hx => by cases hx)
  intro w
  refine ⟨zSc ia (zlt (fun j => zTo ia v (15 + j)) 16 0 []), 0, (((zlt (fun j => zTo ia v (15 + j)) 16 0 []).length : Int)), ⟨by omega, by omega⟩, Or.inl ⟨rfl, eX7_line_0 I c0⟩, fun w2 => ⟨zSm (zu (zSc ia (zlt (fun j => zTo ia v (15 + j)) 16 0 [])) 24 8 0) (zlt (fun j => zTo ia v (15 + j)) 16 0 []), (((zlt (fun j => zTo ia v (15 + j)) 16 0 []).length : Int)), eX8_line_0 (ja := ia) H c0, fun _ => rfl, ⟨by omega, by omega⟩, rfl, zLi_new h.1 h.2 Q⟩⟩
theorem j_lineage {G : zG} {ia : Nat → Int → Int} {v : Int} (Q : zQq ia ia) (hrv : zI32 v) : zJT G mX7_lineage [(1, 0), (0, v), (9, 0), (9, 0)] mX8_lineage [(1, 24), (0, v), (9, 0)] "java/lang/IndexOutOfBoundsException" "java/lang/Error" ia := by
  have H := Q.1.1
  have I := H.1
  have hn := I.1
  by_cases c0 : 0 ≤ v ∧ v < ia 3 0
  rotate_left
  · exact zJT_1 Q (v := 0) (by decide) (fun w => eX7_lineage_x0 I hrv c0) (fun w2 => eX8_lineage_c1 H hrv c0)
  have h := zlg_ok I.par hn.2 40 v 0 [] (by omega) ⟨by omega, c0.2⟩ (by omega) (by omega) (by omega) (Or.inl ⟨rfl, rfl⟩) (fun x hx => by cases hx)
  intro w
  refine ⟨zSc ia (zlg (ia 4) 40 v []), 0, (((zlg (ia 4) 40 v []).length : Int)), ⟨by omega, by omega⟩, Or.inl ⟨rfl, eX7_lineage_0 I c0⟩, fun w2 => ⟨zSm (zu (zSc ia (zlg (ia 4) 40 v [])) 24 8 0) (zlg (ia 4) 40 v []), (((zlg (ia 4) 40 v []).length : Int)), eX8_lineage_0 (ja := ia) H c0, fun _ => rfl, ⟨by omega, by omega⟩, rfl, zLi_new h.1 h.2 Q⟩⟩
