/-! THE MODEL: LINES OF TEXT (printed by wip/whole/gen/mod9.py) -/
/-- the heap with this text as the model's line -/
def zSm (ia : Nat → Int → Int) (l : List Int) : Nat → Int → Int := fun c i => if c = 24 ∧ i = 16 then (l.length : Int) else if c = 30 ∧ 0 ≤ i ∧ i < (l.length : Int) then l.getD i.toNat 0 else ia c i
theorem zSm_put {ia : Nat → Int → Int} {l : List Int} {x : Int} : zu (zu (zSm ia l) 30 (l.length : Int) x) 24 16 ((l.length : Int) + 1) = zSm ia (l ++ [x]) := by
  funext c i
  unfold zu zSm
  have hl : ((l ++ [x]).length : Int) = (l.length : Int) + 1 := by simp
  rw [hl]
  by_cases h : c = 24 ∧ i = 16
  · rw [if_pos h, if_pos h]
  · rw [if_neg h, if_neg h]
    by_cases h2 : c = 30 ∧ i = (l.length : Int)
    · rw [if_pos h2, if_neg h, if_pos (by omega), h2.2]
      rw [List.getD_eq_getElem?_getD, show ((l.length : Int)).toNat = l.length by omega, List.getElem?_append_right (Nat.le_refl _)]
      simp
    · rw [if_neg h2, if_neg h]
      by_cases h3 : c = 30 ∧ 0 ≤ i ∧ i < (l.length : Int)
      · rw [if_pos h3, if_pos (by omega), List.getD_eq_getElem?_getD, List.getD_eq_getElem?_getD, List.getElem?_append_left (by omega)]
      · rw [if_neg h3, if_neg (by omega)]
theorem zSm_nil {ia : Nat → Int → Int} : zu ia 24 16 0 = zSm ia [] := by
  funext c i
  unfold zu zSm
  by_cases h : c = 24 ∧ i = 16
  · rw [if_pos h, if_pos h]
    rfl
  · rw [if_neg h, if_neg h, if_neg (by simp only [List.length_nil]; omega)]
theorem zSm_nil' {ia : Nat → Int → Int} : zu ia 24 ((16 : Nat) : Int) 0 = zSm ia [] := zSm_nil
theorem zRw_sm {ia ja : Nat → Int → Int} {l : List Int} (H : zRw ja (ia 25)) : zRw ja (zSm ia l 25) := H
theorem eX8_writes {G : zG} {ia : Nat → Int → Int} {w : (Nat → Int → Int) × (Nat → Int → Int)} {x : Int} (hl : 0 ≤ ia 24 16 ∧ ia 24 16 < 160) (hx : 0 ≤ x ∧ x ≤ 65535) : Ev G mX8_writes 0 [(1, 24), (0, x)] [] (zH ia w) (.inl none, zH (zu (zu ia 30 (ia 24 16) (x % 65536)) 24 16 (ia 24 16 + 1)) w, 0, 0) := by
  refine Ev.aload_n_1 fX8_writes_0 rfl ?_
  refine Ev.gR 24 15 30 fX8_writes_1 (flX8_29 rfl) rfl rfl rfl ?_
  refine Ev.aload_n_1 fX8_writes_4 rfl ?_
  refine Ev.gI 24 16 (v := (ia 24 16)) fX8_writes_5 (flX8_197 rfl) rfl rfl rfl ?_
  refine Ev.iload_n fX8_writes_8 rfl ?_
  refine Ev.i2c fX8_writes_9 ?_
  refine Ev.stC 30 160 fX8_writes_10 rfl rfl ⟨by omega, by omega⟩ ⟨by omega, by omega⟩ ?_
  refine Ev.aload_n_1 fX8_writes_11 rfl ?_
  refine Ev.dup fX8_writes_12 rfl ?_
  refine Ev.gI 24 16 (v := (ia 24 16)) fX8_writes_13 (flX8_197 rfl) rfl rfl rfl ?_
  refine Ev.iconst fX8_writes_16 ?_
  refine Ev.iadd fX8_writes_17 ?_
  refine Ev.pI 24 16 fX8_writes_18 (flX8_197 rfl) rfl rfl trivial ?_
  exact Ev.zV fX8_writes_21 rfl
theorem eX8_put_z {G : zG} {ia : Nat → Int → Int} {w : (Nat → Int → Int) × (Nat → Int → Int)} {l : List Int} {x : Int} (hl : (l.length : Int) < 160) (hc : 0 ≤ x ∧ x ≤ 65535) : Ev G mX8_writes 0 [(1, 24), (0, x)] [] (zH (zSm ia l) w) (.inl none, zH (zSm ia (l ++ [x])) w, 0, 0) := by
  have h := eX8_writes (G := G) (ia := zSm ia l) (w := w) (x := x) ⟨by show 0 ≤ (l.length : Int); omega, hl⟩ hc
  rw [show zSm ia l 24 16 = (l.length : Int) from rfl, show x % 65536 = x by omega, zSm_put] at h
  exact h
theorem eX8_wNum_1 {G : zG} {ia : Nat → Int → Int} {w : (Nat → Int → Int) × (Nat → Int → Int)} {l : List Int} {n : Int} (hl : (l.length : Int) ≤ 159) (hn : 0 ≤ n ∧ n < 10) : Ev G mX8_writesNumber 0 [(1, 24), (0, n)] [] (zH (zSm ia l) w) (.inl none, zH (zSm ia (l ++ [(48 + (n % 10))])) w, 0, 0) := by
  refine Ev.iload_n fX8_writesNumber_0 rfl ?_
  refine Ev.bipush fX8_writesNumber_1 rfl ?_
  refine Ev.icmp_le fX8_writesNumber_3 rfl ⟨by omega, by omega⟩ (by decide) (fun h3 => ?_) (fun h3 => by exfalso; omega)
  refine Ev.iload_n fX8_writesNumber_17 rfl ?_
  refine Ev.bipush fX8_writesNumber_18 rfl ?_
  refine Ev.icmp_le fX8_writesNumber_20 rfl ⟨by omega, by omega⟩ (by decide) (fun h20 => ?_) (fun h20 => by exfalso; omega)
  refine Ev.aload_n_1 fX8_writesNumber_37 rfl ?_
  refine Ev.bipush fX8_writesNumber_38 rfl ?_
  refine Ev.iload_n fX8_writesNumber_40 rfl ?_
  refine Ev.bipush fX8_writesNumber_41 rfl ?_
  refine Ev.irem fX8_writesNumber_43 ⟨by omega, by omega⟩ (by decide) ?_
  refine Ev.iadd fX8_writesNumber_44 ?_
  refine Ev.cVv 24 [(0, (48 + (n % 10)))] [] fX8_writesNumber_45 lkX8_writesNumber_200 8 TX8 22 rfl rfl rfl (eX8_put_z (by first | omega | (simp only [List.length_append, List.length_cons, List.length_nil]; omega)) ⟨by omega, by omega⟩) ?_
  exact Ev.zV fX8_writesNumber_48 rfl
theorem eX8_wNum_2 {G : zG} {ia : Nat → Int → Int} {w : (Nat → Int → Int) × (Nat → Int → Int)} {l : List Int} {n : Int} (hl : (l.length : Int) ≤ 158) (hn : 10 ≤ n ∧ n < 100) : Ev G mX8_writesNumber 0 [(1, 24), (0, n)] [] (zH (zSm ia l) w) (.inl none, zH (zSm ia ((l ++ [(48 + ((n / 10) % 10))]) ++ [(48 + (n % 10))])) w, 0, 0) := by
  refine Ev.iload_n fX8_writesNumber_0 rfl ?_
  refine Ev.bipush fX8_writesNumber_1 rfl ?_
  refine Ev.icmp_le fX8_writesNumber_3 rfl ⟨by omega, by omega⟩ (by decide) (fun h3 => ?_) (fun h3 => by exfalso; omega)
  refine Ev.iload_n fX8_writesNumber_17 rfl ?_
  refine Ev.bipush fX8_writesNumber_18 rfl ?_
  refine Ev.icmp_le fX8_writesNumber_20 rfl ⟨by omega, by omega⟩ (by decide) (fun h20 => by exfalso; omega) (fun h20 => ?_)
  refine Ev.aload_n_1 fX8_writesNumber_23 rfl ?_
  refine Ev.bipush fX8_writesNumber_24 rfl ?_
  refine Ev.iload_n fX8_writesNumber_26 rfl ?_
  refine Ev.bipush fX8_writesNumber_27 rfl ?_
  refine Ev.idiv fX8_writesNumber_29 ⟨by omega, by omega⟩ (by decide) ?_
  refine Ev.bipush fX8_writesNumber_30 rfl ?_
  refine Ev.irem fX8_writesNumber_32 ⟨by omega, by omega⟩ (by decide) ?_
  refine Ev.iadd fX8_writesNumber_33 ?_
  refine Ev.cVv 24 [(0, (48 + ((n / 10) % 10)))] [] fX8_writesNumber_34 lkX8_writesNumber_200 8 TX8 22 rfl rfl rfl (eX8_put_z (by first | omega | (simp only [List.length_append, List.length_cons, List.length_nil]; omega)) ⟨by omega, by omega⟩) ?_
  refine Ev.aload_n_1 fX8_writesNumber_37 rfl ?_
  refine Ev.bipush fX8_writesNumber_38 rfl ?_
  refine Ev.iload_n fX8_writesNumber_40 rfl ?_
  refine Ev.bipush fX8_writesNumber_41 rfl ?_
  refine Ev.irem fX8_writesNumber_43 ⟨by omega, by omega⟩ (by decide) ?_
  refine Ev.iadd fX8_writesNumber_44 ?_
  refine Ev.cVv 24 [(0, (48 + (n % 10)))] [] fX8_writesNumber_45 lkX8_writesNumber_200 8 TX8 22 rfl rfl rfl (eX8_put_z (by first | omega | (simp only [List.length_append, List.length_cons, List.length_nil]; omega)) ⟨by omega, by omega⟩) ?_
  exact Ev.zV fX8_writesNumber_48 rfl
theorem eX8_wNum_3 {G : zG} {ia : Nat → Int → Int} {w : (Nat → Int → Int) × (Nat → Int → Int)} {l : List Int} {n : Int} (hl : (l.length : Int) ≤ 157) (hn : 100 ≤ n ∧ n ≤ 999) : Ev G mX8_writesNumber 0 [(1, 24), (0, n)] [] (zH (zSm ia l) w) (.inl none, zH (zSm ia (((l ++ [(48 + (n / 100))]) ++ [(48 + ((n / 10) % 10))]) ++ [(48 + (n % 10))])) w, 0, 0) := by
  refine Ev.iload_n fX8_writesNumber_0 rfl ?_
  refine Ev.bipush fX8_writesNumber_1 rfl ?_
  refine Ev.icmp_le fX8_writesNumber_3 rfl ⟨by omega, by omega⟩ (by decide) (fun h3 => by exfalso; omega) (fun h3 => ?_)
  refine Ev.aload_n_1 fX8_writesNumber_6 rfl ?_
  refine Ev.bipush fX8_writesNumber_7 rfl ?_
  refine Ev.iload_n fX8_writesNumber_9 rfl ?_
  refine Ev.bipush fX8_writesNumber_10 rfl ?_
  refine Ev.idiv fX8_writesNumber_12 ⟨by omega, by omega⟩ (by decide) ?_
  refine Ev.iadd fX8_writesNumber_13 ?_
  refine Ev.cVv 24 [(0, (48 + (n / 100)))] [] fX8_writesNumber_14 lkX8_writesNumber_200 8 TX8 22 rfl rfl rfl (eX8_put_z (by first | omega | (simp only [List.length_append, List.length_cons, List.length_nil]; omega)) ⟨by omega, by omega⟩) ?_
  refine Ev.iload_n fX8_writesNumber_17 rfl ?_
  refine Ev.bipush fX8_writesNumber_18 rfl ?_
  refine Ev.icmp_le fX8_writesNumber_20 rfl ⟨by omega, by omega⟩ (by decide) (fun h20 => by exfalso; omega) (fun h20 => ?_)
  refine Ev.aload_n_1 fX8_writesNumber_23 rfl ?_
  refine Ev.bipush fX8_writesNumber_24 rfl ?_
  refine Ev.iload_n fX8_writesNumber_26 rfl ?_
  refine Ev.bipush fX8_writesNumber_27 rfl ?_
  refine Ev.idiv fX8_writesNumber_29 ⟨by omega, by omega⟩ (by decide) ?_
  refine Ev.bipush fX8_writesNumber_30 rfl ?_
  refine Ev.irem fX8_writesNumber_32 ⟨by omega, by omega⟩ (by decide) ?_
  refine Ev.iadd fX8_writesNumber_33 ?_
  refine Ev.cVv 24 [(0, (48 + ((n / 10) % 10)))] [] fX8_writesNumber_34 lkX8_writesNumber_200 8 TX8 22 rfl rfl rfl (eX8_put_z (by first | omega | (simp only [List.length_append, List.length_cons, List.length_nil]; omega)) ⟨by omega, by omega⟩) ?_
  refine Ev.aload_n_1 fX8_writesNumber_37 rfl ?_
  refine Ev.bipush fX8_writesNumber_38 rfl ?_
  refine Ev.iload_n fX8_writesNumber_40 rfl ?_
  refine Ev.bipush fX8_writesNumber_41 rfl ?_
  refine Ev.irem fX8_writesNumber_43 ⟨by omega, by omega⟩ (by decide) ?_
  refine Ev.iadd fX8_writesNumber_44 ?_
  refine Ev.cVv 24 [(0, (48 + (n % 10)))] [] fX8_writesNumber_45 lkX8_writesNumber_200 8 TX8 22 rfl rfl rfl (eX8_put_z (by first | omega | (simp only [List.length_append, List.length_cons, List.length_nil]; omega)) ⟨by omega, by omega⟩) ?_
  exact Ev.zV fX8_writesNumber_48 rfl
theorem eX8_wNum_z {G : zG} {ia : Nat → Int → Int} {w : (Nat → Int → Int) × (Nat → Int → Int)} {l : List Int} {n : Int} (hl : ((l.length + (zdgs n).length : Nat) : Int) ≤ 160) (hn : 0 ≤ n ∧ n ≤ 999) : Ev G mX8_writesNumber 0 [(1, 24), (0, n)] [] (zH (zSm ia l) w) (.inl none, zH (zSm ia (l ++ zdgs n)) w, 0, 0) := by
  have hz := zdgs_len n
  by_cases h1 : 100 ≤ n
  · have h := eX8_wNum_3 (G := G) (ia := ia) (w := w) (l := l) (by omega) ⟨h1, hn.2⟩
    unfold zdgs
    rw [if_pos h1, if_pos (show 10 ≤ n by omega)]
    simpa only [List.append_assoc] using h
  · by_cases h2 : 10 ≤ n
    · have h := eX8_wNum_2 (G := G) (ia := ia) (w := w) (l := l) (by omega) ⟨h2, by omega⟩
      unfold zdgs
      rw [if_neg h1, if_pos h2]
      simpa only [List.append_assoc, List.nil_append] using h
    · have h := eX8_wNum_1 (G := G) (ia := ia) (w := w) (l := l) (by omega) ⟨hn.1, by omega⟩
      unfold zdgs
      rw [if_neg h1, if_neg h2]
      exact h
theorem zse_e {l : List Int} {x : Int} (h : l = []) : zse l x = l := if_pos h
theorem zse_n {l : List Int} {x : Int} (h : l ≠ []) : zse l x = l ++ [x] := if_neg h
theorem eX8_line_L {G : zG} {ia ja : Nat → Int → Int} {w : (Nat → Int → Int) × (Nat → Int → Int)} {v : Int} (H : zRw ja (ia 25)) (hv : 0 ≤ v ∧ v < ja 3 0) : ∀ (n : Nat) (k : Int) (l : List Int), k + n = 16 → 0 ≤ k → ((l.length : Int) ≤ 7 * k ∧ (k ≤ 10 → (l.length : Int) ≤ 6 * k) ∧ (10 ≤ k → (l.length : Int) ≤ 7 * k - 10)) → Ev G mX8_line 29 [(1, 24), (0, v), (0, k)] [] (zH (zSm ia l) w) (.inl (some (0, ((zlt (fun j => zTo ja v (15 + j)) n k l).length : Int))), zH (zSm ia (zlt (fun j => zTo ja v (15 + j)) n k l)) w, 0, 0) := by
  have I := H.1
  have hn := I.1
  intro n
  induction n with
  | zero =>
    intro k l h1 h2 h3
    show Ev _ _ _ _ _ _ (.inl (some (0, (l.length : Int))), zH (zSm ia l) w, 0, 0)
    refine Ev.iload_n fX8_line_29 rfl ?_
    refine Ev.bipush fX8_line_30 rfl ?_
    refine Ev.icmp_ge fX8_line_32 rfl ⟨by omega, by omega⟩ (by decide) (fun h32 => ?_) (fun h32 => by exfalso; omega)
    refine Ev.aload_n_1 fX8_line_87 rfl ?_
    refine Ev.gI 24 16 (v := (l.length : Int)) fX8_line_88 (flX8_197 rfl) rfl rfl rfl ?_
    exact Ev.zI fX8_line_91 rfl rfl
  | succ n ih =>
    intro k l h1 h2 h3
    have hA := I.to v (15 + k) hv.1 hv.2 (by omega) (by omega)
    have hA2 : zTo ja v (15 + k) ≤ 999 := by
      have h4 := I.2.2.2.1 v (15 + k) hv.1 hv.2 (by omega) (by omega)
      have h5 := (zsp (s := 15 + k) ⟨by omega, by omega⟩).2 (by omega)
      rw [h5.1, h5.2] at h4
      omega
    by_cases hz : zTo ja v (15 + k) = 0
    · have e : zlt (fun j => zTo ja v (15 + j)) (n + 1) k l = zlt (fun j => zTo ja v (15 + j)) n (k + 1) l := by
        show zlt _ n (k + 1) (if zTo ja v (15 + k) = 0 then l else _) = _
        rw [if_pos hz]
      rw [e]
      refine Ev.iload_n fX8_line_29 rfl ?_
      refine Ev.bipush fX8_line_30 rfl ?_
      refine Ev.icmp_ge fX8_line_32 rfl ⟨by omega, by omega⟩ (by decide) (fun h32 => by exfalso; omega) (fun h32 => ?_)
      refine Ev.aload_n_1 fX8_line_35 rfl ?_
      refine Ev.iload_n fX8_line_36 rfl ?_
      refine Ev.iload_n fX8_line_37 rfl ?_
      refine Ev.cVi 24 [(0, v), (0, k)] [] fX8_line_38 lkX8_line_90 8 TX8 22 rfl rfl rfl (eX8_amountOf (zRw_sm (l := l) H) ⟨by omega, by omega⟩ ⟨by omega, by omega⟩) ?_
      refine Ev.if_ne fX8_line_41 rfl ⟨by omega, by omega⟩ (fun h41 => by exfalso; omega) (fun h41 => ?_)
      refine Ev.goto fX8_line_44 rfl ?_
      refine Ev.siinc [(1, 24), (0, v), (0, (k + 1))] fX8_line_81 rfl rfl rfl ?_
      refine Ev.goto fX8_line_84 rfl ?_
      exact ih (k + 1) l (by omega) (by omega) ⟨by omega, fun _ => by omega, fun _ => by omega⟩
    · have q2 := zdgs_len k
      have q3 := zdgs_len (zTo ja v (15 + k))
      by_cases hl : l = []
      · have e : zlt (fun j => zTo ja v (15 + j)) (n + 1) k l = zlt (fun j => zTo ja v (15 + j)) n (k + 1) (((l ++ zdgs k) ++ [61]) ++ zdgs (zTo ja v (15 + k))) := by
          show zlt _ n (k + 1) (if zTo ja v (15 + k) = 0 then l else _) = _
          rw [if_neg hz, zse_e hl]
        rw [e]
        have q1 : l.length = 0 := by rw [hl]; rfl
        have q4 : ((((l ++ zdgs k) ++ [61]) ++ zdgs (zTo ja v (15 + k))).length : Nat) = l.length + 0 + (zdgs k).length + 1 + (zdgs (zTo ja v (15 + k))).length := by
          simp only [List.length_append, List.length_cons, List.length_nil]; try omega
        refine Ev.iload_n fX8_line_29 rfl ?_
        refine Ev.bipush fX8_line_30 rfl ?_
        refine Ev.icmp_ge fX8_line_32 rfl ⟨by omega, by omega⟩ (by decide) (fun h32 => by exfalso; omega) (fun h32 => ?_)
        refine Ev.aload_n_1 fX8_line_35 rfl ?_
        refine Ev.iload_n fX8_line_36 rfl ?_
        refine Ev.iload_n fX8_line_37 rfl ?_
        refine Ev.cVi 24 [(0, v), (0, k)] [] fX8_line_38 lkX8_line_90 8 TX8 22 rfl rfl rfl (eX8_amountOf (zRw_sm (l := l) H) ⟨by omega, by omega⟩ ⟨by omega, by omega⟩) ?_
        refine Ev.if_ne fX8_line_41 rfl ⟨by omega, by omega⟩ (fun h41 => ?_) (fun h41 => by exfalso; omega)
        refine Ev.aload_n_1 fX8_line_47 rfl ?_
        refine Ev.gI 24 16 (v := (l.length : Int)) fX8_line_48 (flX8_197 rfl) rfl rfl rfl ?_
        refine Ev.if_le fX8_line_51 rfl ⟨by omega, by omega⟩ (fun h51 => ?_) (fun h51 => by exfalso; omega)
        refine Ev.aload_n_1 fX8_line_60 rfl ?_
        refine Ev.iload_n fX8_line_61 rfl ?_
        refine Ev.cVv 24 [(0, k)] [] fX8_line_62 lkX8_line_204 8 TX8 22 rfl rfl rfl (eX8_wNum_z (by first | omega | (simp only [List.length_append, List.length_cons, List.length_nil]; omega)) ⟨by omega, by omega⟩) ?_
        refine Ev.aload_n_1 fX8_line_65 rfl ?_
        refine Ev.bipush fX8_line_66 rfl ?_
        refine Ev.cVv 24 [(0, 61)] [] fX8_line_68 lkX8_line_200 8 TX8 22 rfl rfl rfl (eX8_put_z (by first | omega | (simp only [List.length_append, List.length_cons, List.length_nil]; omega)) ⟨by omega, by omega⟩) ?_
        refine Ev.aload_n_1 fX8_line_71 rfl ?_
        refine Ev.aload_n_1 fX8_line_72 rfl ?_
        refine Ev.iload_n fX8_line_73 rfl ?_
        refine Ev.iload_n fX8_line_74 rfl ?_
        refine Ev.cVi 24 [(0, v), (0, k)] [(1, 24)] fX8_line_75 lkX8_line_90 8 TX8 22 rfl rfl rfl (eX8_amountOf (zRw_sm (l := ((l ++ zdgs k) ++ [61])) H) ⟨by omega, by omega⟩ ⟨by omega, by omega⟩) ?_
        refine Ev.cVv 24 [(0, (zTo ja v (15 + k)))] [] fX8_line_78 lkX8_line_204 8 TX8 22 rfl rfl rfl (eX8_wNum_z (by first | omega | (simp only [List.length_append, List.length_cons, List.length_nil]; omega)) ⟨by omega, by omega⟩) ?_
        refine Ev.siinc [(1, 24), (0, v), (0, (k + 1))] fX8_line_81 rfl rfl rfl ?_
        refine Ev.goto fX8_line_84 rfl ?_
        exact ih (k + 1) (((l ++ zdgs k) ++ [61]) ++ zdgs (zTo ja v (15 + k))) (by omega) (by omega) ⟨by omega, fun _ => by omega, fun _ => by omega⟩
      · have e : zlt (fun j => zTo ja v (15 + j)) (n + 1) k l = zlt (fun j => zTo ja v (15 + j)) n (k + 1) ((((l ++ [44]) ++ zdgs k) ++ [61]) ++ zdgs (zTo ja v (15 + k))) := by
          show zlt _ n (k + 1) (if zTo ja v (15 + k) = 0 then l else _) = _
          rw [if_neg hz, zse_n hl]
        rw [e]
        have q1 : 0 < l.length := List.length_pos_iff.mpr hl
        have q4 : (((((l ++ [44]) ++ zdgs k) ++ [61]) ++ zdgs (zTo ja v (15 + k))).length : Nat) = l.length + 1 + (zdgs k).length + 1 + (zdgs (zTo ja v (15 + k))).length := by
          simp only [List.length_append, List.length_cons, List.length_nil]; try omega
        refine Ev.iload_n fX8_line_29 rfl ?_
        refine Ev.bipush fX8_line_30 rfl ?_
        refine Ev.icmp_ge fX8_line_32 rfl ⟨by omega, by omega⟩ (by decide) (fun h32 => by exfalso; omega) (fun h32 => ?_)
        refine Ev.aload_n_1 fX8_line_35 rfl ?_
        refine Ev.iload_n fX8_line_36 rfl ?_
        refine Ev.iload_n fX8_line_37 rfl ?_
        refine Ev.cVi 24 [(0, v), (0, k)] [] fX8_line_38 lkX8_line_90 8 TX8 22 rfl rfl rfl (eX8_amountOf (zRw_sm (l := l) H) ⟨by omega, by omega⟩ ⟨by omega, by omega⟩) ?_
        refine Ev.if_ne fX8_line_41 rfl ⟨by omega, by omega⟩ (fun h41 => ?_) (fun h41 => by exfalso; omega)
        refine Ev.aload_n_1 fX8_line_47 rfl ?_
        refine Ev.gI 24 16 (v := (l.length : Int)) fX8_line_48 (flX8_197 rfl) rfl rfl rfl ?_
        refine Ev.if_le fX8_line_51 rfl ⟨by omega, by omega⟩ (fun h51 => by exfalso; omega) (fun h51 => ?_)
        refine Ev.aload_n_1 fX8_line_54 rfl ?_
        refine Ev.bipush fX8_line_55 rfl ?_
        refine Ev.cVv 24 [(0, 44)] [] fX8_line_57 lkX8_line_200 8 TX8 22 rfl rfl rfl (eX8_put_z (by first | omega | (simp only [List.length_append, List.length_cons, List.length_nil]; omega)) ⟨by omega, by omega⟩) ?_
        refine Ev.aload_n_1 fX8_line_60 rfl ?_
        refine Ev.iload_n fX8_line_61 rfl ?_
        refine Ev.cVv 24 [(0, k)] [] fX8_line_62 lkX8_line_204 8 TX8 22 rfl rfl rfl (eX8_wNum_z (by first | omega | (simp only [List.length_append, List.length_cons, List.length_nil]; omega)) ⟨by omega, by omega⟩) ?_
        refine Ev.aload_n_1 fX8_line_65 rfl ?_
        refine Ev.bipush fX8_line_66 rfl ?_
        refine Ev.cVv 24 [(0, 61)] [] fX8_line_68 lkX8_line_200 8 TX8 22 rfl rfl rfl (eX8_put_z (by first | omega | (simp only [List.length_append, List.length_cons, List.length_nil]; omega)) ⟨by omega, by omega⟩) ?_
        refine Ev.aload_n_1 fX8_line_71 rfl ?_
        refine Ev.aload_n_1 fX8_line_72 rfl ?_
        refine Ev.iload_n fX8_line_73 rfl ?_
        refine Ev.iload_n fX8_line_74 rfl ?_
        refine Ev.cVi 24 [(0, v), (0, k)] [(1, 24)] fX8_line_75 lkX8_line_90 8 TX8 22 rfl rfl rfl (eX8_amountOf (zRw_sm (l := (((l ++ [44]) ++ zdgs k) ++ [61])) H) ⟨by omega, by omega⟩ ⟨by omega, by omega⟩) ?_
        refine Ev.cVv 24 [(0, (zTo ja v (15 + k)))] [] fX8_line_78 lkX8_line_204 8 TX8 22 rfl rfl rfl (eX8_wNum_z (by first | omega | (simp only [List.length_append, List.length_cons, List.length_nil]; omega)) ⟨by omega, by omega⟩) ?_
        refine Ev.siinc [(1, 24), (0, v), (0, (k + 1))] fX8_line_81 rfl rfl rfl ?_
        refine Ev.goto fX8_line_84 rfl ?_
        exact ih (k + 1) ((((l ++ [44]) ++ zdgs k) ++ [61]) ++ zdgs (zTo ja v (15 + k))) (by omega) (by omega) ⟨by omega, fun _ => by omega, fun _ => by omega⟩
theorem eX8_line_c1 {G : zG} {ia ja : Nat → Int → Int} {w : (Nat → Int → Int) × (Nat → Int → Int)} {v : Int} (H : zRw ja (ia 25)) (hrv : -2147483648 ≤ v ∧ v ≤ 2147483647) (hx : ¬ (0 ≤ v ∧ v < ja 3 0)) : Ev G mX8_line 0 [(1, 24), (0, v), (9, 0)] [] (zH ia w) (.inl (some (0, 0)), zH (zu ia 24 8 1) w, 0, 0) := by
  have I := H.1
  have hn := I.1
  refine Ev.aload_n_1 fX8_line_0 rfl ?_
  refine Ev.aload_n_1 fX8_line_1 rfl ?_
  refine Ev.iload_n fX8_line_2 rfl ?_
  refine Ev.cVi 24 [(0, v)] [(1, 24)] fX8_line_3 lkX8_line_104 8 TX8 22 rfl rfl rfl (eX8_isVersion_f H ⟨by omega, by omega⟩ (by omega)) ?_
  refine Ev.if_eq fX8_line_6 rfl (by decide) (fun h6 => ?_) (fun h6 => by exfalso; revert h6; decide)
  refine Ev.iconst fX8_line_13 ?_
  refine Ev.cVi 24 [(0, 1)] [] fX8_line_14 lkX8_line_117 8 TX8 22 rfl rfl rfl eX8_fails_1 ?_
  refine Ev.if_eq fX8_line_17 rfl (by decide) (fun h17 => by exfalso; revert h17; decide) (fun h17 => ?_)
  refine Ev.iconst fX8_line_20 ?_
  exact Ev.zI fX8_line_21 rfl rfl
theorem eX8_line_0 {G : zG} {ia ja : Nat → Int → Int} {w : (Nat → Int → Int) × (Nat → Int → Int)} {v : Int} (H : zRw ja (ia 25)) (hc0 : 0 ≤ v ∧ v < ja 3 0) : Ev G mX8_line 0 [(1, 24), (0, v), (9, 0)] [] (zH ia w) (.inl (some (0, (((zlt (fun j => zTo ja v (15 + j)) 16 0 []).length : Int)))), zH (zSm (zu ia 24 8 0) (zlt (fun j => zTo ja v (15 + j)) 16 0 [])) w, 0, 0) := by
  have I := H.1
  have hn := I.1
  refine Ev.aload_n_1 fX8_line_0 rfl ?_
  refine Ev.aload_n_1 fX8_line_1 rfl ?_
  refine Ev.iload_n fX8_line_2 rfl ?_
  refine Ev.cVi 24 [(0, v)] [(1, 24)] fX8_line_3 lkX8_line_104 8 TX8 22 rfl rfl rfl (eX8_isVersion_t H ⟨by omega, by omega⟩) ?_
  refine Ev.if_eq fX8_line_6 rfl (by decide) (fun h6 => by exfalso; revert h6; decide) (fun h6 => ?_)
  refine Ev.iconst fX8_line_9 ?_
  refine Ev.goto fX8_line_10 rfl ?_
  refine Ev.cVi 24 [(0, 0)] [] fX8_line_14 lkX8_line_117 8 TX8 22 rfl rfl rfl eX8_fails_0 ?_
  refine Ev.if_eq fX8_line_17 rfl (by decide) (fun h17 => ?_) (fun h17 => by exfalso; revert h17; decide)
  refine Ev.aload_n_1 fX8_line_22 rfl ?_
  refine Ev.iconst fX8_line_23 ?_
  refine Ev.pI 24 16 fX8_line_24 (flX8_197 rfl) rfl rfl trivial ?_
  rw [zSm_nil']
  refine Ev.iconst fX8_line_27 ?_
  refine Ev.sistore_n [(1, 24), (0, v), (0, 0)] fX8_line_28 rfl rfl ?_
  exact eX8_line_L (ia := (zu ia 24 8 0)) H hc0 16 0 [] (by omega) (by omega) ⟨by simp, fun _ => by simp, fun h => absurd h (by decide)⟩
theorem eX8_lineage_L {G : zG} {ia ja : Nat → Int → Int} {w : (Nat → Int → Int) × (Nat → Int → Int)} {v0 : Int} (H : zRw ja (ia 25)) : ∀ (n : Nat) (v k : Int) (l : List Int), v < n → -1 ≤ v ∧ v < ja 3 0 → 0 ≤ k → v + k ≤ 39 → k ≤ 40 → ((l = [] ∧ k = 0) ∨ ((v ≤ 9 → (l.length : Int) + 2 * v + 2 ≤ 109) ∧ (9 ≤ v → (l.length : Int) + 3 * v - 7 ≤ 109))) → Ev G mX8_lineage 29 [(1, 24), (0, v0), (0, v)] [] (zH (zSm ia l) w) (.inl (some (0, ((zlg (ja 4) n v l).length : Int))), zH (zSm ia (zlg (ja 4) n v l)) w, 0, 0) := by
  have I := H.1
  have hn := I.1
  intro n
  induction n with
  | zero =>
    intro v k l h1 h2 h3 h4 h5 h6
    show Ev _ _ _ _ _ _ (.inl (some (0, (l.length : Int))), zH (zSm ia l) w, 0, 0)
    have hv : v = -1 := by omega
    subst hv
    refine Ev.iload_n fX8_lineage_29 rfl ?_
    refine Ev.if_lt fX8_lineage_30 rfl (by decide) (fun h30 => ?_) (fun h30 => by exfalso; revert h30; decide)
    refine Ev.aload_n_1 fX8_lineage_61 rfl ?_
    refine Ev.gI 24 16 (v := (l.length : Int)) fX8_lineage_62 (flX8_197 rfl) rfl rfl rfl ?_
    exact Ev.zI fX8_lineage_65 rfl rfl
  | succ n ih =>
    intro v k l h1 h2 h3 h4 h5 h6
    rcases Int.lt_or_le v 0 with hv | hv
    · have e : zlg (ja 4) (n + 1) v l = l := by
        show (if v < 0 then l else _) = l
        rw [if_pos hv]
      rw [e]
      have hv : v = -1 := by omega
      subst hv
      refine Ev.iload_n fX8_lineage_29 rfl ?_
      refine Ev.if_lt fX8_lineage_30 rfl (by decide) (fun h30 => ?_) (fun h30 => by exfalso; revert h30; decide)
      refine Ev.aload_n_1 fX8_lineage_61 rfl ?_
      refine Ev.gI 24 16 (v := (l.length : Int)) fX8_lineage_62 (flX8_197 rfl) rfl rfl rfl ?_
      exact Ev.zI fX8_lineage_65 rfl rfl
    · have hp := I.2.1 v hv h2.2
      have q2 := zdgs_len v
      by_cases hl : l = []
      · have e : zlg (ja 4) (n + 1) v l = zlg (ja 4) n (ja 4 v) (l ++ zdgs v) := by
          show (if v < 0 then l else _) = _
          rw [if_neg (by omega), zse_e hl]
        rw [e]
        have q1 : l.length = 0 := by rw [hl]; rfl
        have q4 : ((l ++ zdgs v).length : Nat) = l.length + 0 + (zdgs v).length := by
          simp only [List.length_append, List.length_cons, List.length_nil]; try omega
        have q5 : (l.length : Int) ≤ 108 ∧ ((((l ++ zdgs v).length : Nat)) : Int) ≤ 109 ∧ (ja 4 v ≤ 9 → (((l ++ zdgs v).length : Nat) : Int) + 2 * ja 4 v + 2 ≤ 109) ∧ (9 ≤ ja 4 v → (((l ++ zdgs v).length : Nat) : Int) + 3 * ja 4 v - 7 ≤ 109) := by
          rcases h6 with h6 | h6
          · omega
          · omega
        refine Ev.iload_n fX8_lineage_29 rfl ?_
        refine Ev.if_lt fX8_lineage_30 rfl ⟨by omega, by omega⟩ (fun h30 => by exfalso; omega) (fun h30 => ?_)
        refine Ev.aload_n_1 fX8_lineage_33 rfl ?_
        refine Ev.gI 24 16 (v := (l.length : Int)) fX8_lineage_34 (flX8_197 rfl) rfl rfl rfl ?_
        refine Ev.if_le fX8_lineage_37 rfl ⟨by omega, by omega⟩ (fun h37 => ?_) (fun h37 => by exfalso; omega)
        refine Ev.aload_n_1 fX8_lineage_46 rfl ?_
        refine Ev.iload_n fX8_lineage_47 rfl ?_
        refine Ev.cVv 24 [(0, v)] [] fX8_lineage_48 lkX8_lineage_204 8 TX8 22 rfl rfl rfl (eX8_wNum_z (by first | omega | (simp only [List.length_append, List.length_cons, List.length_nil]; omega)) ⟨by omega, by omega⟩) ?_
        refine Ev.aload_n_1 fX8_lineage_51 rfl ?_
        refine Ev.iload_n fX8_lineage_52 rfl ?_
        refine Ev.iconst fX8_lineage_53 ?_
        refine Ev.cVi 24 [(0, v), (0, 0)] [] fX8_lineage_54 lkX8_lineage_72 8 TX8 22 rfl rfl rfl (eX8_of_par (zRw_sm (l := (l ++ zdgs v)) H) ⟨by omega, by omega⟩) ?_
        refine Ev.sistore_n [(1, 24), (0, v0), (0, (ja 4 v))] fX8_lineage_57 rfl rfl ?_
        refine Ev.goto fX8_lineage_58 rfl ?_
        exact ih (ja 4 v) (k + 1) (l ++ zdgs v) (by omega) ⟨by omega, by omega⟩ (by omega) (by omega) (by omega) (Or.inr ⟨q5.2.2.1, q5.2.2.2⟩)
      · have e : zlg (ja 4) (n + 1) v l = zlg (ja 4) n (ja 4 v) ((l ++ [60]) ++ zdgs v) := by
          show (if v < 0 then l else _) = _
          rw [if_neg (by omega), zse_n hl]
        rw [e]
        have q1 : 0 < l.length := List.length_pos_iff.mpr hl
        have q4 : (((l ++ [60]) ++ zdgs v).length : Nat) = l.length + 1 + (zdgs v).length := by
          simp only [List.length_append, List.length_cons, List.length_nil]; try omega
        have q5 : (l.length : Int) ≤ 108 ∧ (((((l ++ [60]) ++ zdgs v).length : Nat)) : Int) ≤ 109 ∧ (ja 4 v ≤ 9 → ((((l ++ [60]) ++ zdgs v).length : Nat) : Int) + 2 * ja 4 v + 2 ≤ 109) ∧ (9 ≤ ja 4 v → ((((l ++ [60]) ++ zdgs v).length : Nat) : Int) + 3 * ja 4 v - 7 ≤ 109) := by
          rcases h6 with h6 | h6
          · exact absurd h6.1 hl
          · omega
        refine Ev.iload_n fX8_lineage_29 rfl ?_
        refine Ev.if_lt fX8_lineage_30 rfl ⟨by omega, by omega⟩ (fun h30 => by exfalso; omega) (fun h30 => ?_)
        refine Ev.aload_n_1 fX8_lineage_33 rfl ?_
        refine Ev.gI 24 16 (v := (l.length : Int)) fX8_lineage_34 (flX8_197 rfl) rfl rfl rfl ?_
        refine Ev.if_le fX8_lineage_37 rfl ⟨by omega, by omega⟩ (fun h37 => by exfalso; omega) (fun h37 => ?_)
        refine Ev.aload_n_1 fX8_lineage_40 rfl ?_
        refine Ev.bipush fX8_lineage_41 rfl ?_
        refine Ev.cVv 24 [(0, 60)] [] fX8_lineage_43 lkX8_lineage_200 8 TX8 22 rfl rfl rfl (eX8_put_z (by first | omega | (simp only [List.length_append, List.length_cons, List.length_nil]; omega)) ⟨by omega, by omega⟩) ?_
        refine Ev.aload_n_1 fX8_lineage_46 rfl ?_
        refine Ev.iload_n fX8_lineage_47 rfl ?_
        refine Ev.cVv 24 [(0, v)] [] fX8_lineage_48 lkX8_lineage_204 8 TX8 22 rfl rfl rfl (eX8_wNum_z (by first | omega | (simp only [List.length_append, List.length_cons, List.length_nil]; omega)) ⟨by omega, by omega⟩) ?_
        refine Ev.aload_n_1 fX8_lineage_51 rfl ?_
        refine Ev.iload_n fX8_lineage_52 rfl ?_
        refine Ev.iconst fX8_lineage_53 ?_
        refine Ev.cVi 24 [(0, v), (0, 0)] [] fX8_lineage_54 lkX8_lineage_72 8 TX8 22 rfl rfl rfl (eX8_of_par (zRw_sm (l := ((l ++ [60]) ++ zdgs v)) H) ⟨by omega, by omega⟩) ?_
        refine Ev.sistore_n [(1, 24), (0, v0), (0, (ja 4 v))] fX8_lineage_57 rfl rfl ?_
        refine Ev.goto fX8_lineage_58 rfl ?_
        exact ih (ja 4 v) (k + 1) ((l ++ [60]) ++ zdgs v) (by omega) ⟨by omega, by omega⟩ (by omega) (by omega) (by omega) (Or.inr ⟨q5.2.2.1, q5.2.2.2⟩)
theorem eX8_lineage_c1 {G : zG} {ia ja : Nat → Int → Int} {w : (Nat → Int → Int) × (Nat → Int → Int)} {v : Int} (H : zRw ja (ia 25)) (hrv : -2147483648 ≤ v ∧ v ≤ 2147483647) (hx : ¬ (0 ≤ v ∧ v < ja 3 0)) : Ev G mX8_lineage 0 [(1, 24), (0, v), (9, 0)] [] (zH ia w) (.inl (some (0, 0)), zH (zu ia 24 8 1) w, 0, 0) := by
  have I := H.1
  have hn := I.1
  refine Ev.aload_n_1 fX8_lineage_0 rfl ?_
  refine Ev.aload_n_1 fX8_lineage_1 rfl ?_
  refine Ev.iload_n fX8_lineage_2 rfl ?_
  refine Ev.cVi 24 [(0, v)] [(1, 24)] fX8_lineage_3 lkX8_lineage_104 8 TX8 22 rfl rfl rfl (eX8_isVersion_f H ⟨by omega, by omega⟩ (by omega)) ?_
  refine Ev.if_eq fX8_lineage_6 rfl (by decide) (fun h6 => ?_) (fun h6 => by exfalso; revert h6; decide)
  refine Ev.iconst fX8_lineage_13 ?_
  refine Ev.cVi 24 [(0, 1)] [] fX8_lineage_14 lkX8_lineage_117 8 TX8 22 rfl rfl rfl eX8_fails_1 ?_
  refine Ev.if_eq fX8_lineage_17 rfl (by decide) (fun h17 => by exfalso; revert h17; decide) (fun h17 => ?_)
  refine Ev.iconst fX8_lineage_20 ?_
  exact Ev.zI fX8_lineage_21 rfl rfl
theorem eX8_lineage_0 {G : zG} {ia ja : Nat → Int → Int} {w : (Nat → Int → Int) × (Nat → Int → Int)} {v : Int} (H : zRw ja (ia 25)) (hc0 : 0 ≤ v ∧ v < ja 3 0) : Ev G mX8_lineage 0 [(1, 24), (0, v), (9, 0)] [] (zH ia w) (.inl (some (0, (((zlg (ja 4) 40 v []).length : Int)))), zH (zSm (zu ia 24 8 0) (zlg (ja 4) 40 v [])) w, 0, 0) := by
  have I := H.1
  have hn := I.1
  refine Ev.aload_n_1 fX8_lineage_0 rfl ?_
  refine Ev.aload_n_1 fX8_lineage_1 rfl ?_
  refine Ev.iload_n fX8_lineage_2 rfl ?_
  refine Ev.cVi 24 [(0, v)] [(1, 24)] fX8_lineage_3 lkX8_lineage_104 8 TX8 22 rfl rfl rfl (eX8_isVersion_t H ⟨by omega, by omega⟩) ?_
  refine Ev.if_eq fX8_lineage_6 rfl (by decide) (fun h6 => by exfalso; revert h6; decide) (fun h6 => ?_)
  refine Ev.iconst fX8_lineage_9 ?_
  refine Ev.goto fX8_lineage_10 rfl ?_
  refine Ev.cVi 24 [(0, 0)] [] fX8_lineage_14 lkX8_lineage_117 8 TX8 22 rfl rfl rfl eX8_fails_0 ?_
  refine Ev.if_eq fX8_lineage_17 rfl (by decide) (fun h17 => ?_) (fun h17 => by exfalso; revert h17; decide)
  refine Ev.aload_n_1 fX8_lineage_22 rfl ?_
  refine Ev.iconst fX8_lineage_23 ?_
  refine Ev.pI 24 16 fX8_lineage_24 (flX8_197 rfl) rfl rfl trivial ?_
  rw [zSm_nil']
  refine Ev.iload_n fX8_lineage_27 rfl ?_
  refine Ev.sistore_n [(1, 24), (0, v), (0, v)] fX8_lineage_28 rfl rfl ?_
  exact eX8_lineage_L (ia := (zu ia 24 8 0)) H 40 v 0 [] (by omega) ⟨by omega, by omega⟩ (by omega) (by omega) (by omega) (Or.inl ⟨rfl, rfl⟩)
