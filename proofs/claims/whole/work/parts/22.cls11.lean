/-! THE CLASS: LINES OF TEXT (printed by wip/whole/gen/cls11.py) -/
/-- the heap with this text as the script's -/
def zSc (ia : Nat → Int → Int) (l : List Int) : Nat → Int → Int := fun c i => if c = 22 ∧ i = 1 then (l.length : Int) else if c = 23 ∧ 0 ≤ i ∧ i < (l.length : Int) then l.getD i.toNat 0 else ia c i
theorem zSc_put {ia : Nat → Int → Int} {l : List Int} {x : Int} : zu (zu (zSc ia l) 23 (l.length : Int) x) 22 1 ((l.length : Int) + 1) = zSc ia (l ++ [x]) := by
  funext c i
  unfold zu zSc
  have hl : ((l ++ [x]).length : Int) = (l.length : Int) + 1 := by simp
  rw [hl]
  by_cases h : c = 22 ∧ i = 1
  · rw [if_pos h, if_pos h]
  · rw [if_neg h, if_neg h]
    by_cases h2 : c = 23 ∧ i = (l.length : Int)
    · rw [if_pos h2, if_neg h, if_pos (by omega), h2.2]
      rw [List.getD_eq_getElem?_getD, show ((l.length : Int)).toNat = l.length by omega, List.getElem?_append_right (Nat.le_refl _)]
      simp
    · rw [if_neg h2, if_neg h]
      by_cases h3 : c = 23 ∧ 0 ≤ i ∧ i < (l.length : Int)
      · rw [if_pos h3, if_pos (by omega), List.getD_eq_getElem?_getD, List.getD_eq_getElem?_getD, List.getElem?_append_left (by omega)]
      · rw [if_neg h3, if_neg (by omega)]
theorem zSc_nil {ia : Nat → Int → Int} : zu ia 22 1 0 = zSc ia [] := by
  funext c i
  unfold zu zSc
  by_cases h : c = 22 ∧ i = 1
  · rw [if_pos h, if_pos h]
    rfl
  · rw [if_neg h, if_neg h, if_neg (by simp only [List.length_nil]; omega)]
def zdgs (n : Int) : List Int := (if 100 ≤ n then [48 + n / 100] else []) ++ ((if 10 ≤ n then [48 + n / 10 % 10] else []) ++ [48 + n % 10])
theorem zdgs_len (n : Int) : 1 ≤ (zdgs n).length ∧ (zdgs n).length ≤ 3 ∧ (n < 100 → (zdgs n).length ≤ 2) ∧ (n < 10 → (zdgs n).length = 1) ∧ (10 ≤ n → 2 ≤ (zdgs n).length) ∧ (100 ≤ n → (zdgs n).length = 3) := by
  unfold zdgs
  by_cases h1 : 100 ≤ n
  · rw [if_pos h1, if_pos (show 10 ≤ n by omega)]
    refine ⟨by simp, by simp, fun h => ?_, fun h => ?_, fun h => by simp, fun h => by simp⟩ <;> omega
  · rw [if_neg h1]
    by_cases h2 : 10 ≤ n
    · rw [if_pos h2]
      refine ⟨by simp, by simp, fun h => by simp, fun h => ?_, fun h => by simp, fun h => absurd h h1⟩
      omega
    · rw [if_neg h2]
      exact ⟨by simp, by simp, fun h => by simp, fun h => by simp, fun h => absurd h h2, fun h => absurd h h1⟩
def zse (l : List Int) (x : Int) : List Int := if l = [] then l else l ++ [x]
theorem zse_len (l : List Int) (x : Int) : (l = [] → (zse l x).length = 0) ∧ (zse l x).length ≤ l.length + 1 := by
  unfold zse
  split
  · rename_i h
    subst h
    exact ⟨fun _ => rfl, by simp⟩
  · exact ⟨fun h => absurd h (by assumption), by simp⟩
def zlt (A : Int → Int) : Nat → Int → List Int → List Int
  | 0, _, l => l
  | n + 1, k, l => zlt A n (k + 1) (if A k = 0 then l else zse l 44 ++ zdgs k ++ [61] ++ zdgs (A k))
def zlg (par : Int → Int) : Nat → Int → List Int → List Int
  | 0, _, l => l
  | n + 1, v, l => if v < 0 then l else zlg par n (par v) (zse l 60 ++ zdgs v)
theorem eX5_put_z {G : zG} {ia : Nat → Int → Int} {w : (Nat → Int → Int) × (Nat → Int → Int)} {l : List Int} {x : Int} (hl : (l.length : Int) < 109) (hc : 0 ≤ x ∧ x ≤ 65535) : Ev G mX5_put 0 [(1, 22), (0, x)] [] (zH (zSc ia l) w) (.inl none, zH (zSc ia (l ++ [x])) w, 0, 0) := by
  have h := eX5_put (G := G) (ia := zSc ia l) (w := w) (c := x) ⟨by show 0 ≤ (l.length : Int); omega, hl⟩ hc
  rw [show zSc ia l 22 1 = (l.length : Int) from rfl, zSc_put] at h
  exact h
theorem eX5_separate_f {G : zG} {ia : Nat → Int → Int} {w : (Nat → Int → Int) × (Nat → Int → Int)} {l : List Int} {c : Int} (hl : (l.length : Int) ≤ 109) (he : l.length = 0) : Ev G mX5_separate 0 [(1, 22), (0, c)] [] (zH (zSc ia l) w) (.inl none, zH (zSc ia l) w, 0, 0) := by
  refine Ev.aload_n_1 fX5_separate_0 rfl ?_
  refine Ev.gI 22 1 (v := (l.length : Int)) fX5_separate_1 (flX5_15 rfl) rfl rfl rfl ?_
  refine Ev.if_le fX5_separate_4 rfl ⟨by omega, by omega⟩ (fun h4 => ?_) (fun h4 => by exfalso; omega)
  exact Ev.zV fX5_separate_12 rfl
theorem eX5_separate_t {G : zG} {ia : Nat → Int → Int} {w : (Nat → Int → Int) × (Nat → Int → Int)} {l : List Int} {c : Int} (hl : (l.length : Int) < 109) (he : 0 < l.length) (hc : 0 ≤ c ∧ c ≤ 65535) : Ev G mX5_separate 0 [(1, 22), (0, c)] [] (zH (zSc ia l) w) (.inl none, zH (zSc ia (l ++ [c])) w, 0, 0) := by
  refine Ev.aload_n_1 fX5_separate_0 rfl ?_
  refine Ev.gI 22 1 (v := (l.length : Int)) fX5_separate_1 (flX5_15 rfl) rfl rfl rfl ?_
  refine Ev.if_le fX5_separate_4 rfl ⟨by omega, by omega⟩ (fun h4 => by exfalso; omega) (fun h4 => ?_)
  refine Ev.aload_n_1 fX5_separate_7 rfl ?_
  refine Ev.iload_n fX5_separate_8 rfl ?_
  refine Ev.cVv 22 [(0, c)] [] fX5_separate_9 lkX5_separate_19 5 TX5 2 rfl rfl rfl (eX5_put_z (by first | omega | (simp only [List.length_append, List.length_cons, List.length_nil]; omega)) ⟨by omega, by omega⟩) ?_
  exact Ev.zV fX5_separate_12 rfl
theorem eX5_separate_z {G : zG} {ia : Nat → Int → Int} {w : (Nat → Int → Int) × (Nat → Int → Int)} {l : List Int} {c : Int} (hl : (l.length : Int) < 109) (hc : 0 ≤ c ∧ c ≤ 65535) : Ev G mX5_separate 0 [(1, 22), (0, c)] [] (zH (zSc ia l) w) (.inl none, zH (zSc ia (zse l c)) w, 0, 0) := by
  unfold zse
  by_cases h : l = []
  · rw [if_pos h]
    exact eX5_separate_f (by omega) (by rw [h]; rfl)
  · rw [if_neg h]
    exact eX5_separate_t hl (List.length_pos_iff.mpr h) hc
theorem eX5_putNumber_1 {G : zG} {ia : Nat → Int → Int} {w : (Nat → Int → Int) × (Nat → Int → Int)} {l : List Int} {n : Int} (hl : (l.length : Int) ≤ 108) (hn : 0 ≤ n ∧ n < 10) : Ev G mX5_putNumber 0 [(1, 22), (0, n)] [] (zH (zSc ia l) w) (.inl none, zH (zSc ia (l ++ [(48 + (n % 10))])) w, 0, 0) := by
  refine Ev.iload_n fX5_putNumber_0 rfl ?_
  refine Ev.bipush fX5_putNumber_1 rfl ?_
  refine Ev.icmp_lt fX5_putNumber_3 rfl ⟨by omega, by omega⟩ (by decide) (fun h3 => ?_) (fun h3 => by exfalso; omega)
  refine Ev.iload_n fX5_putNumber_18 rfl ?_
  refine Ev.bipush fX5_putNumber_19 rfl ?_
  refine Ev.icmp_lt fX5_putNumber_21 rfl ⟨by omega, by omega⟩ (by decide) (fun h21 => ?_) (fun h21 => by exfalso; omega)
  refine Ev.aload_n_1 fX5_putNumber_39 rfl ?_
  refine Ev.bipush fX5_putNumber_40 rfl ?_
  refine Ev.iload_n fX5_putNumber_42 rfl ?_
  refine Ev.bipush fX5_putNumber_43 rfl ?_
  refine Ev.irem fX5_putNumber_45 ⟨by omega, by omega⟩ (by decide) ?_
  refine Ev.iadd fX5_putNumber_46 ?_
  refine Ev.i2c fX5_putNumber_47 ?_
  rw [show ((48 + (n % 10)) % 65536) = (48 + (n % 10)) by omega]
  refine Ev.cVv 22 [(0, (48 + (n % 10)))] [] fX5_putNumber_48 lkX5_putNumber_19 5 TX5 2 rfl rfl rfl (eX5_put_z (by first | omega | (simp only [List.length_append, List.length_cons, List.length_nil]; omega)) ⟨by omega, by omega⟩) ?_
  exact Ev.zV fX5_putNumber_51 rfl
theorem eX5_putNumber_2 {G : zG} {ia : Nat → Int → Int} {w : (Nat → Int → Int) × (Nat → Int → Int)} {l : List Int} {n : Int} (hl : (l.length : Int) ≤ 107) (hn : 10 ≤ n ∧ n < 100) : Ev G mX5_putNumber 0 [(1, 22), (0, n)] [] (zH (zSc ia l) w) (.inl none, zH (zSc ia ((l ++ [(48 + ((n / 10) % 10))]) ++ [(48 + (n % 10))])) w, 0, 0) := by
  refine Ev.iload_n fX5_putNumber_0 rfl ?_
  refine Ev.bipush fX5_putNumber_1 rfl ?_
  refine Ev.icmp_lt fX5_putNumber_3 rfl ⟨by omega, by omega⟩ (by decide) (fun h3 => ?_) (fun h3 => by exfalso; omega)
  refine Ev.iload_n fX5_putNumber_18 rfl ?_
  refine Ev.bipush fX5_putNumber_19 rfl ?_
  refine Ev.icmp_lt fX5_putNumber_21 rfl ⟨by omega, by omega⟩ (by decide) (fun h21 => by exfalso; omega) (fun h21 => ?_)
  refine Ev.aload_n_1 fX5_putNumber_24 rfl ?_
  refine Ev.bipush fX5_putNumber_25 rfl ?_
  refine Ev.iload_n fX5_putNumber_27 rfl ?_
  refine Ev.bipush fX5_putNumber_28 rfl ?_
  refine Ev.idiv fX5_putNumber_30 ⟨by omega, by omega⟩ (by decide) ?_
  refine Ev.bipush fX5_putNumber_31 rfl ?_
  refine Ev.irem fX5_putNumber_33 ⟨by omega, by omega⟩ (by decide) ?_
  refine Ev.iadd fX5_putNumber_34 ?_
  refine Ev.i2c fX5_putNumber_35 ?_
  rw [show ((48 + ((n / 10) % 10)) % 65536) = (48 + ((n / 10) % 10)) by omega]
  refine Ev.cVv 22 [(0, (48 + ((n / 10) % 10)))] [] fX5_putNumber_36 lkX5_putNumber_19 5 TX5 2 rfl rfl rfl (eX5_put_z (by first | omega | (simp only [List.length_append, List.length_cons, List.length_nil]; omega)) ⟨by omega, by omega⟩) ?_
  refine Ev.aload_n_1 fX5_putNumber_39 rfl ?_
  refine Ev.bipush fX5_putNumber_40 rfl ?_
  refine Ev.iload_n fX5_putNumber_42 rfl ?_
  refine Ev.bipush fX5_putNumber_43 rfl ?_
  refine Ev.irem fX5_putNumber_45 ⟨by omega, by omega⟩ (by decide) ?_
  refine Ev.iadd fX5_putNumber_46 ?_
  refine Ev.i2c fX5_putNumber_47 ?_
  rw [show ((48 + (n % 10)) % 65536) = (48 + (n % 10)) by omega]
  refine Ev.cVv 22 [(0, (48 + (n % 10)))] [] fX5_putNumber_48 lkX5_putNumber_19 5 TX5 2 rfl rfl rfl (eX5_put_z (by first | omega | (simp only [List.length_append, List.length_cons, List.length_nil]; omega)) ⟨by omega, by omega⟩) ?_
  exact Ev.zV fX5_putNumber_51 rfl
theorem eX5_putNumber_3 {G : zG} {ia : Nat → Int → Int} {w : (Nat → Int → Int) × (Nat → Int → Int)} {l : List Int} {n : Int} (hl : (l.length : Int) ≤ 106) (hn : 100 ≤ n ∧ n ≤ 999) : Ev G mX5_putNumber 0 [(1, 22), (0, n)] [] (zH (zSc ia l) w) (.inl none, zH (zSc ia (((l ++ [(48 + (n / 100))]) ++ [(48 + ((n / 10) % 10))]) ++ [(48 + (n % 10))])) w, 0, 0) := by
  refine Ev.iload_n fX5_putNumber_0 rfl ?_
  refine Ev.bipush fX5_putNumber_1 rfl ?_
  refine Ev.icmp_lt fX5_putNumber_3 rfl ⟨by omega, by omega⟩ (by decide) (fun h3 => by exfalso; omega) (fun h3 => ?_)
  refine Ev.aload_n_1 fX5_putNumber_6 rfl ?_
  refine Ev.bipush fX5_putNumber_7 rfl ?_
  refine Ev.iload_n fX5_putNumber_9 rfl ?_
  refine Ev.bipush fX5_putNumber_10 rfl ?_
  refine Ev.idiv fX5_putNumber_12 ⟨by omega, by omega⟩ (by decide) ?_
  refine Ev.iadd fX5_putNumber_13 ?_
  refine Ev.i2c fX5_putNumber_14 ?_
  rw [show ((48 + (n / 100)) % 65536) = (48 + (n / 100)) by omega]
  refine Ev.cVv 22 [(0, (48 + (n / 100)))] [] fX5_putNumber_15 lkX5_putNumber_19 5 TX5 2 rfl rfl rfl (eX5_put_z (by first | omega | (simp only [List.length_append, List.length_cons, List.length_nil]; omega)) ⟨by omega, by omega⟩) ?_
  refine Ev.iload_n fX5_putNumber_18 rfl ?_
  refine Ev.bipush fX5_putNumber_19 rfl ?_
  refine Ev.icmp_lt fX5_putNumber_21 rfl ⟨by omega, by omega⟩ (by decide) (fun h21 => by exfalso; omega) (fun h21 => ?_)
  refine Ev.aload_n_1 fX5_putNumber_24 rfl ?_
  refine Ev.bipush fX5_putNumber_25 rfl ?_
  refine Ev.iload_n fX5_putNumber_27 rfl ?_
  refine Ev.bipush fX5_putNumber_28 rfl ?_
  refine Ev.idiv fX5_putNumber_30 ⟨by omega, by omega⟩ (by decide) ?_
  refine Ev.bipush fX5_putNumber_31 rfl ?_
  refine Ev.irem fX5_putNumber_33 ⟨by omega, by omega⟩ (by decide) ?_
  refine Ev.iadd fX5_putNumber_34 ?_
  refine Ev.i2c fX5_putNumber_35 ?_
  rw [show ((48 + ((n / 10) % 10)) % 65536) = (48 + ((n / 10) % 10)) by omega]
  refine Ev.cVv 22 [(0, (48 + ((n / 10) % 10)))] [] fX5_putNumber_36 lkX5_putNumber_19 5 TX5 2 rfl rfl rfl (eX5_put_z (by first | omega | (simp only [List.length_append, List.length_cons, List.length_nil]; omega)) ⟨by omega, by omega⟩) ?_
  refine Ev.aload_n_1 fX5_putNumber_39 rfl ?_
  refine Ev.bipush fX5_putNumber_40 rfl ?_
  refine Ev.iload_n fX5_putNumber_42 rfl ?_
  refine Ev.bipush fX5_putNumber_43 rfl ?_
  refine Ev.irem fX5_putNumber_45 ⟨by omega, by omega⟩ (by decide) ?_
  refine Ev.iadd fX5_putNumber_46 ?_
  refine Ev.i2c fX5_putNumber_47 ?_
  rw [show ((48 + (n % 10)) % 65536) = (48 + (n % 10)) by omega]
  refine Ev.cVv 22 [(0, (48 + (n % 10)))] [] fX5_putNumber_48 lkX5_putNumber_19 5 TX5 2 rfl rfl rfl (eX5_put_z (by first | omega | (simp only [List.length_append, List.length_cons, List.length_nil]; omega)) ⟨by omega, by omega⟩) ?_
  exact Ev.zV fX5_putNumber_51 rfl
theorem eX5_putNumber_z {G : zG} {ia : Nat → Int → Int} {w : (Nat → Int → Int) × (Nat → Int → Int)} {l : List Int} {n : Int} (hl : ((l.length + (zdgs n).length : Nat) : Int) ≤ 109) (hn : 0 ≤ n ∧ n ≤ 999) : Ev G mX5_putNumber 0 [(1, 22), (0, n)] [] (zH (zSc ia l) w) (.inl none, zH (zSc ia (l ++ zdgs n)) w, 0, 0) := by
  have hz := zdgs_len n
  by_cases h1 : 100 ≤ n
  · have h := eX5_putNumber_3 (G := G) (ia := ia) (w := w) (l := l) (by omega) ⟨h1, hn.2⟩
    unfold zdgs
    rw [if_pos h1, if_pos (show 10 ≤ n by omega)]
    simpa only [List.append_assoc] using h
  · by_cases h2 : 10 ≤ n
    · have h := eX5_putNumber_2 (G := G) (ia := ia) (w := w) (l := l) (by omega) ⟨h2, by omega⟩
      unfold zdgs
      rw [if_neg h1, if_pos h2]
      simpa only [List.append_assoc, List.nil_append] using h
    · have h := eX5_putNumber_1 (G := G) (ia := ia) (w := w) (l := l) (by omega) ⟨hn.1, by omega⟩
      unfold zdgs
      rw [if_neg h1, if_neg h2]
      exact h
theorem zCI_sc {ia : Nat → Int → Int} {l : List Int} (I : zCI ia) : zCI (zSc ia l) := I
theorem zTo_sc {ia : Nat → Int → Int} {l : List Int} {v s : Int} : zTo (zSc ia l) v s = zTo ia v s := rfl
theorem eX7_line_L {G : zG} {ia : Nat → Int → Int} {w : (Nat → Int → Int) × (Nat → Int → Int)} {v : Int} (I : zCI ia) (hv : 0 ≤ v ∧ v < ia 3 0) : ∀ (n : Nat) (k : Int) (l : List Int), k + n = 16 → 0 ≤ k → ((l.length : Int) ≤ 7 * k ∧ (k ≤ 10 → (l.length : Int) ≤ 6 * k) ∧ (10 ≤ k → (l.length : Int) ≤ 7 * k - 10)) → Ev G mX7_line 14 [(1, 0), (0, v), (0, k), (9, 0)] [] (zH (zSc ia l) w) (.inl (some (0, ((zlt (fun j => zTo ia v (15 + j)) n k l).length : Int))), zH (zSc ia (zlt (fun j => zTo ia v (15 + j)) n k l)) w, 0, 0) := by
  have hn := I.1
  intro n
  induction n with
  | zero =>
    intro k l h1 h2 h3
    show Ev _ _ _ _ _ _ (.inl (some (0, (l.length : Int))), zH (zSc ia l) w, 0, 0)
    refine Ev.iload_n fX7_line_14 rfl ?_
    refine Ev.bipush fX7_line_15 rfl ?_
    refine Ev.icmp_ge fX7_line_17 rfl ⟨by omega, by omega⟩ (by decide) (fun h17 => ?_) (fun h17 => by exfalso; omega)
    refine Ev.aload_n_1 fX7_line_74 rfl ?_
    refine Ev.gR 0 9 22 fX7_line_75 (flX7_62 rfl) rfl rfl rfl ?_
    refine Ev.cVi 22 [] [] fX7_line_78 lkX7_line_262 5 TX5 2 rfl rfl rfl eX5_size ?_
    exact Ev.zI fX7_line_81 rfl rfl
  | succ n ih =>
    intro k l h1 h2 h3
    have hA := I.to v (15 + k) hv.1 hv.2 (by omega) (by omega)
    have hA2 : zTo ia v (15 + k) ≤ 999 := by
      have h4 := I.2.2.2.1 v (15 + k) hv.1 hv.2 (by omega) (by omega)
      have h5 := (zsp (s := 15 + k) ⟨by omega, by omega⟩).2 (by omega)
      rw [h5.1, h5.2] at h4
      omega
    by_cases hz : zTo ia v (15 + k) = 0
    · have e : zlt (fun j => zTo ia v (15 + j)) (n + 1) k l = zlt (fun j => zTo ia v (15 + j)) n (k + 1) l := by
        show zlt _ n (k + 1) (if zTo ia v (15 + k) = 0 then l else _) = _
        rw [if_pos hz]
      rw [e]
      refine Ev.iload_n fX7_line_14 rfl ?_
      refine Ev.bipush fX7_line_15 rfl ?_
      refine Ev.icmp_ge fX7_line_17 rfl ⟨by omega, by omega⟩ (by decide) (fun h17 => by exfalso; omega) (fun h17 => ?_)
      refine Ev.aload_n_1 fX7_line_20 rfl ?_
      refine Ev.gR 0 3 3 fX7_line_21 (flX7_32 rfl) rfl rfl rfl ?_
      refine Ev.iload_n fX7_line_24 rfl ?_
      refine Ev.iload_n fX7_line_25 rfl ?_
      refine Ev.cVi 3 [(0, v), (0, k)] [] fX7_line_26 lkX7_line_106 6 TX6 5 rfl rfl rfl (eX6_amountOn (zCI_sc (l := l) I) ⟨by show 0 ≤ v; omega, by show v < ia 3 0; omega⟩ ⟨by omega, by omega⟩) ?_
      refine Ev.sistore_n [(1, 0), (0, v), (0, k), (0, (zTo ia v (15 + k)))] fX7_line_29 rfl rfl ?_
      refine Ev.iload_n fX7_line_30 rfl ?_
      refine Ev.if_eq fX7_line_31 rfl ⟨by omega, by omega⟩ (fun h31 => ?_) (fun h31 => by exfalso; omega)
      refine Ev.siinc [(1, 0), (0, v), (0, (k + 1)), (0, (zTo ia v (15 + k)))] fX7_line_68 rfl rfl rfl ?_
      refine Ev.goto fX7_line_71 rfl ?_
      refine Ev.fg 3 [(1, 0), (0, v), (0, (k + 1)), (9, 0)] rfl ?_
      exact ih (k + 1) l (by omega) (by omega) ⟨by omega, fun _ => by omega, fun _ => by omega⟩
    · have e : zlt (fun j => zTo ia v (15 + j)) (n + 1) k l = zlt (fun j => zTo ia v (15 + j)) n (k + 1) (zse l 44 ++ zdgs k ++ [61] ++ zdgs (zTo ia v (15 + k))) := by
        show zlt _ n (k + 1) (if zTo ia v (15 + k) = 0 then l else _) = _
        rw [if_neg hz]
      rw [e]
      have q1 := (zse_len l 44).2
      have q2 := zdgs_len k
      have q3 := zdgs_len (zTo ia v (15 + k))
      have q4 : ((zse l 44 ++ zdgs k ++ [61] ++ zdgs (zTo ia v (15 + k))).length : Nat) = (zse l 44).length + (zdgs k).length + 1 + (zdgs (zTo ia v (15 + k))).length := by
        simp only [List.length_append, List.length_cons, List.length_nil]
      refine Ev.iload_n fX7_line_14 rfl ?_
      refine Ev.bipush fX7_line_15 rfl ?_
      refine Ev.icmp_ge fX7_line_17 rfl ⟨by omega, by omega⟩ (by decide) (fun h17 => by exfalso; omega) (fun h17 => ?_)
      refine Ev.aload_n_1 fX7_line_20 rfl ?_
      refine Ev.gR 0 3 3 fX7_line_21 (flX7_32 rfl) rfl rfl rfl ?_
      refine Ev.iload_n fX7_line_24 rfl ?_
      refine Ev.iload_n fX7_line_25 rfl ?_
      refine Ev.cVi 3 [(0, v), (0, k)] [] fX7_line_26 lkX7_line_106 6 TX6 5 rfl rfl rfl (eX6_amountOn (zCI_sc (l := l) I) ⟨by show 0 ≤ v; omega, by show v < ia 3 0; omega⟩ ⟨by omega, by omega⟩) ?_
      refine Ev.sistore_n [(1, 0), (0, v), (0, k), (0, (zTo ia v (15 + k)))] fX7_line_29 rfl rfl ?_
      refine Ev.iload_n fX7_line_30 rfl ?_
      refine Ev.if_eq fX7_line_31 rfl ⟨by omega, by omega⟩ (fun h31 => by exfalso; omega) (fun h31 => ?_)
      refine Ev.aload_n_1 fX7_line_34 rfl ?_
      refine Ev.gR 0 9 22 fX7_line_35 (flX7_62 rfl) rfl rfl rfl ?_
      refine Ev.bipush fX7_line_38 rfl ?_
      refine Ev.cVv 22 [(0, 44)] [] fX7_line_40 lkX7_line_255 5 TX5 2 rfl rfl rfl (eX5_separate_z (by omega) (by decide)) ?_
      refine Ev.aload_n_1 fX7_line_43 rfl ?_
      refine Ev.gR 0 9 22 fX7_line_44 (flX7_62 rfl) rfl rfl rfl ?_
      refine Ev.iload_n fX7_line_47 rfl ?_
      refine Ev.cVv 22 [(0, k)] [] fX7_line_48 lkX7_line_258 5 TX5 2 rfl rfl rfl (eX5_putNumber_z (by first | omega | (simp only [List.length_append, List.length_cons, List.length_nil]; omega)) ⟨by omega, by omega⟩) ?_
      refine Ev.aload_n_1 fX7_line_51 rfl ?_
      refine Ev.gR 0 9 22 fX7_line_52 (flX7_62 rfl) rfl rfl rfl ?_
      refine Ev.bipush fX7_line_55 rfl ?_
      refine Ev.cVv 22 [(0, 61)] [] fX7_line_57 lkX7_line_261 5 TX5 2 rfl rfl rfl (eX5_put_z (by first | omega | (simp only [List.length_append, List.length_cons, List.length_nil]; omega)) ⟨by omega, by omega⟩) ?_
      refine Ev.aload_n_1 fX7_line_60 rfl ?_
      refine Ev.gR 0 9 22 fX7_line_61 (flX7_62 rfl) rfl rfl rfl ?_
      refine Ev.iload_n fX7_line_64 rfl ?_
      refine Ev.cVv 22 [(0, (zTo ia v (15 + k)))] [] fX7_line_65 lkX7_line_258 5 TX5 2 rfl rfl rfl (eX5_putNumber_z (by first | omega | (simp only [List.length_append, List.length_cons, List.length_nil]; omega)) ⟨by omega, by omega⟩) ?_
      refine Ev.siinc [(1, 0), (0, v), (0, (k + 1)), (0, (zTo ia v (15 + k)))] fX7_line_68 rfl rfl rfl ?_
      refine Ev.goto fX7_line_71 rfl ?_
      refine Ev.fg 3 [(1, 0), (0, v), (0, (k + 1)), (9, 0)] rfl ?_
      exact ih (k + 1) (zse l 44 ++ zdgs k ++ [61] ++ zdgs (zTo ia v (15 + k))) (by omega) (by omega) ⟨by omega, fun _ => by omega, fun _ => by omega⟩
theorem eX7_line_x0 {G : zG} {ia : Nat → Int → Int} {w : (Nat → Int → Int) × (Nat → Int → Int)} {v : Int} (I : zCI ia) (hrv : -2147483648 ≤ v ∧ v ≤ 2147483647) (hx : ¬ (0 ≤ v ∧ v < ia 3 0)) : Ev G mX7_line 0 [(1, 0), (0, v), (9, 0), (9, 0)] [] (zH ia w) (.inr "java/lang/IndexOutOfBoundsException", zH ia w, 1, 6) := by
  have hn := I.1
  refine Ev.aload_n_1 fX7_line_0 rfl ?_
  refine Ev.iload_n fX7_line_1 rfl ?_
  exact Ev.xV 0 [(0, v)] [] fX7_line_2 lkX7_line_99 7 TX7 10 rfl rfl rfl rfl (eX7_checkVersion_x I ⟨by omega, by omega⟩ (by omega))
theorem eX7_line_0 {G : zG} {ia : Nat → Int → Int} {w : (Nat → Int → Int) × (Nat → Int → Int)} {v : Int} (I : zCI ia) (hc0 : 0 ≤ v ∧ v < ia 3 0) : Ev G mX7_line 0 [(1, 0), (0, v), (9, 0), (9, 0)] [] (zH ia w) (.inl (some (0, (((zlt (fun j => zTo ia v (15 + j)) 16 0 []).length : Int)))), zH (zSc ia (zlt (fun j => zTo ia v (15 + j)) 16 0 [])) w, 0, 0) := by
  have hn := I.1
  refine Ev.aload_n_1 fX7_line_0 rfl ?_
  refine Ev.iload_n fX7_line_1 rfl ?_
  refine Ev.cVv 0 [(0, v)] [] fX7_line_2 lkX7_line_99 7 TX7 10 rfl rfl rfl (eX7_checkVersion_0 I ⟨by omega, by omega⟩) ?_
  refine Ev.aload_n_1 fX7_line_5 rfl ?_
  refine Ev.gR 0 9 22 fX7_line_6 (flX7_62 rfl) rfl rfl rfl ?_
  have e9 := eX5_clear (G := G) (ia := ia) (w := w)
  rw [zSc_nil] at e9
  refine Ev.cVv 22 [] [] fX7_line_9 lkX7_line_254 5 TX5 2 rfl rfl rfl e9 ?_
  refine Ev.iconst fX7_line_12 ?_
  refine Ev.sistore_n [(1, 0), (0, v), (0, 0), (9, 0)] fX7_line_13 rfl rfl ?_
  exact eX7_line_L I hc0 16 0 [] (by omega) (by omega) ⟨by simp, fun _ => by simp, fun h => absurd h (by decide)⟩
theorem eX7_lineage_L {G : zG} {ia : Nat → Int → Int} {w : (Nat → Int → Int) × (Nat → Int → Int)} {v0 : Int} (I : zCI ia) : ∀ (n : Nat) (v k : Int) (l : List Int), v < n → -1 ≤ v ∧ v < ia 3 0 → 0 ≤ k → v + k ≤ 39 → k ≤ 40 → ((l = [] ∧ k = 0) ∨ ((v ≤ 9 → (l.length : Int) + 2 * v + 2 ≤ 109) ∧ (9 ≤ v → (l.length : Int) + 3 * v - 7 ≤ 109))) → Ev G mX7_lineage 16 [(1, 0), (0, v0), (0, v), (0, k)] [] (zH (zSc ia l) w) (.inl (some (0, ((zlg (ia 4) n v l).length : Int))), zH (zSc ia (zlg (ia 4) n v l)) w, 0, 0) := by
  have hn := I.1
  intro n
  induction n with
  | zero =>
    intro v k l h1 h2 h3 h4 h5 h6
    show Ev _ _ _ _ _ _ (.inl (some (0, (l.length : Int))), zH (zSc ia l) w, 0, 0)
    have hv : v = -1 := by omega
    subst hv
    refine Ev.iload_n fX7_lineage_16 rfl ?_
    refine Ev.bipush fX7_lineage_17 rfl ?_
    refine Ev.icmp_ge fX7_lineage_19 rfl ⟨by omega, by omega⟩ (by decide) (fun h19 => ?_) (fun h19 => ?_)
    · refine Ev.aload_n_1 fX7_lineage_59 rfl ?_
      refine Ev.gR 0 9 22 fX7_lineage_60 (flX7_62 rfl) rfl rfl rfl ?_
      refine Ev.cVi 22 [] [] fX7_lineage_63 lkX7_lineage_262 5 TX5 2 rfl rfl rfl eX5_size ?_
      exact Ev.zI fX7_lineage_66 rfl rfl
    · refine Ev.iload_n fX7_lineage_22 rfl ?_
      refine Ev.iconst fX7_lineage_23 ?_
      refine Ev.icmp_eq fX7_lineage_24 rfl (by decide) (by decide) (fun h24 => ?_) (fun h24 => by exfalso; revert h24; decide)
      refine Ev.aload_n_1 fX7_lineage_59 rfl ?_
      refine Ev.gR 0 9 22 fX7_lineage_60 (flX7_62 rfl) rfl rfl rfl ?_
      refine Ev.cVi 22 [] [] fX7_lineage_63 lkX7_lineage_262 5 TX5 2 rfl rfl rfl eX5_size ?_
      exact Ev.zI fX7_lineage_66 rfl rfl
  | succ n ih =>
    intro v k l h1 h2 h3 h4 h5 h6
    rcases Int.lt_or_le v 0 with hv | hv
    · have e : zlg (ia 4) (n + 1) v l = l := by
        show (if v < 0 then l else _) = l
        rw [if_pos hv]
      rw [e]
      have hv : v = -1 := by omega
      subst hv
      refine Ev.iload_n fX7_lineage_16 rfl ?_
      refine Ev.bipush fX7_lineage_17 rfl ?_
      refine Ev.icmp_ge fX7_lineage_19 rfl ⟨by omega, by omega⟩ (by decide) (fun h19 => ?_) (fun h19 => ?_)
      · refine Ev.aload_n_1 fX7_lineage_59 rfl ?_
        refine Ev.gR 0 9 22 fX7_lineage_60 (flX7_62 rfl) rfl rfl rfl ?_
        refine Ev.cVi 22 [] [] fX7_lineage_63 lkX7_lineage_262 5 TX5 2 rfl rfl rfl eX5_size ?_
        exact Ev.zI fX7_lineage_66 rfl rfl
      · refine Ev.iload_n fX7_lineage_22 rfl ?_
        refine Ev.iconst fX7_lineage_23 ?_
        refine Ev.icmp_eq fX7_lineage_24 rfl (by decide) (by decide) (fun h24 => ?_) (fun h24 => by exfalso; revert h24; decide)
        refine Ev.aload_n_1 fX7_lineage_59 rfl ?_
        refine Ev.gR 0 9 22 fX7_lineage_60 (flX7_62 rfl) rfl rfl rfl ?_
        refine Ev.cVi 22 [] [] fX7_lineage_63 lkX7_lineage_262 5 TX5 2 rfl rfl rfl eX5_size ?_
        exact Ev.zI fX7_lineage_66 rfl rfl
    · have e : zlg (ia 4) (n + 1) v l = zlg (ia 4) n (ia 4 v) (zse l 60 ++ zdgs v) := by
        show (if v < 0 then l else _) = _
        rw [if_neg (by omega)]
      rw [e]
      have hp := I.2.1 v hv h2.2
      have q1 := zse_len l 60
      have q2 := zdgs_len v
      have q0 : (l = [] → l.length = 0) := fun e => by rw [e]; rfl
      have q4 : ((zse l 60 ++ zdgs v).length : Nat) = (zse l 60).length + (zdgs v).length := by
        simp only [List.length_append]
      have q5 : (l.length : Int) ≤ 108 ∧ (((zse l 60).length + (zdgs v).length : Nat) : Int) ≤ 109 ∧ (ia 4 v ≤ 9 → (((zse l 60 ++ zdgs v).length : Nat) : Int) + 2 * ia 4 v + 2 ≤ 109) ∧ (9 ≤ ia 4 v → (((zse l 60 ++ zdgs v).length : Nat) : Int) + 3 * ia 4 v - 7 ≤ 109) := by
        rcases h6 with h6 | h6
        · have := q0 h6.1
          have := q1.1 h6.1
          omega
        · omega
      refine Ev.iload_n fX7_lineage_16 rfl ?_
      refine Ev.bipush fX7_lineage_17 rfl ?_
      refine Ev.icmp_ge fX7_lineage_19 rfl ⟨by omega, by omega⟩ (by decide) (fun h19 => by exfalso; omega) (fun h19 => ?_)
      refine Ev.iload_n fX7_lineage_22 rfl ?_
      refine Ev.iconst fX7_lineage_23 ?_
      refine Ev.icmp_eq fX7_lineage_24 rfl ⟨by omega, by omega⟩ (by decide) (fun h24 => by exfalso; omega) (fun h24 => ?_)
      refine Ev.aload_n_1 fX7_lineage_27 rfl ?_
      refine Ev.gR 0 9 22 fX7_lineage_28 (flX7_62 rfl) rfl rfl rfl ?_
      refine Ev.bipush fX7_lineage_31 rfl ?_
      refine Ev.cVv 22 [(0, 60)] [] fX7_lineage_33 lkX7_lineage_255 5 TX5 2 rfl rfl rfl (eX5_separate_z (by omega) (by decide)) ?_
      refine Ev.aload_n_1 fX7_lineage_36 rfl ?_
      refine Ev.gR 0 9 22 fX7_lineage_37 (flX7_62 rfl) rfl rfl rfl ?_
      refine Ev.iload_n fX7_lineage_40 rfl ?_
      refine Ev.cVv 22 [(0, v)] [] fX7_lineage_41 lkX7_lineage_258 5 TX5 2 rfl rfl rfl (eX5_putNumber_z (by first | omega | (simp only [List.length_append, List.length_cons, List.length_nil]; omega)) ⟨by omega, by omega⟩) ?_
      refine Ev.aload_n_1 fX7_lineage_44 rfl ?_
      refine Ev.gR 0 3 3 fX7_lineage_45 (flX7_32 rfl) rfl rfl rfl ?_
      refine Ev.iload_n fX7_lineage_48 rfl ?_
      refine Ev.cVi 3 [(0, v)] [] fX7_lineage_49 lkX7_lineage_130 6 TX6 5 rfl rfl rfl (eX6_parentOf (zCI_sc (l := ((zse l 60) ++ zdgs v)) I) ⟨by show 0 ≤ v; omega, by show v < ia 3 0; omega⟩) ?_
      refine Ev.sistore_n [(1, 0), (0, v0), (0, (ia 4 v)), (0, k)] fX7_lineage_52 rfl rfl ?_
      refine Ev.siinc [(1, 0), (0, v0), (0, (ia 4 v)), (0, (k + 1))] fX7_lineage_53 rfl rfl rfl ?_
      refine Ev.goto fX7_lineage_56 rfl ?_
      exact ih (ia 4 v) (k + 1) (zse l 60 ++ zdgs v) (by omega) ⟨by omega, by omega⟩ (by omega) (by omega) (by omega) (Or.inr ⟨q5.2.2.1, q5.2.2.2⟩)
theorem eX7_lineage_x0 {G : zG} {ia : Nat → Int → Int} {w : (Nat → Int → Int) × (Nat → Int → Int)} {v : Int} (I : zCI ia) (hrv : -2147483648 ≤ v ∧ v ≤ 2147483647) (hx : ¬ (0 ≤ v ∧ v < ia 3 0)) : Ev G mX7_lineage 0 [(1, 0), (0, v), (9, 0), (9, 0)] [] (zH ia w) (.inr "java/lang/IndexOutOfBoundsException", zH ia w, 1, 6) := by
  have hn := I.1
  refine Ev.aload_n_1 fX7_lineage_0 rfl ?_
  refine Ev.iload_n fX7_lineage_1 rfl ?_
  exact Ev.xV 0 [(0, v)] [] fX7_lineage_2 lkX7_lineage_99 7 TX7 10 rfl rfl rfl rfl (eX7_checkVersion_x I ⟨by omega, by omega⟩ (by omega))
theorem eX7_lineage_0 {G : zG} {ia : Nat → Int → Int} {w : (Nat → Int → Int) × (Nat → Int → Int)} {v : Int} (I : zCI ia) (hc0 : 0 ≤ v ∧ v < ia 3 0) : Ev G mX7_lineage 0 [(1, 0), (0, v), (9, 0), (9, 0)] [] (zH ia w) (.inl (some (0, (((zlg (ia 4) 40 v []).length : Int)))), zH (zSc ia (zlg (ia 4) 40 v [])) w, 0, 0) := by
  have hn := I.1
  refine Ev.aload_n_1 fX7_lineage_0 rfl ?_
  refine Ev.iload_n fX7_lineage_1 rfl ?_
  refine Ev.cVv 0 [(0, v)] [] fX7_lineage_2 lkX7_lineage_99 7 TX7 10 rfl rfl rfl (eX7_checkVersion_0 I ⟨by omega, by omega⟩) ?_
  refine Ev.aload_n_1 fX7_lineage_5 rfl ?_
  refine Ev.gR 0 9 22 fX7_lineage_6 (flX7_62 rfl) rfl rfl rfl ?_
  have e9 := eX5_clear (G := G) (ia := ia) (w := w)
  rw [zSc_nil] at e9
  refine Ev.cVv 22 [] [] fX7_lineage_9 lkX7_lineage_254 5 TX5 2 rfl rfl rfl e9 ?_
  refine Ev.iload_n fX7_lineage_12 rfl ?_
  refine Ev.sistore_n [(1, 0), (0, v), (0, v), (9, 0)] fX7_lineage_13 rfl rfl ?_
  refine Ev.iconst fX7_lineage_14 ?_
  refine Ev.sistore_n [(1, 0), (0, v), (0, v), (0, 0)] fX7_lineage_15 rfl rfl ?_
  exact eX7_lineage_L I 40 v 0 [] (by omega) ⟨by omega, by omega⟩ (by omega) (by omega) (by omega) (Or.inl ⟨rfl, rfl⟩)
