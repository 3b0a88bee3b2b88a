/-! THE CLASS: THE DRAFT (printed by wip/whole/gen/cls7.py) -/
theorem eJ_isEmpty_t {G : zG} {ia : Nat → Int → Int} {w : (Nat → Int → Int) × (Nat → Int → Int)} {i : Nat} {L : Int} (hib : Nat.ble (i + 1) 24 = true) (hL : ((zSl.getD i 0 : Nat) : Int) = L) (hL0 : 0 ≤ L ∧ L ≤ 7) (hx : L = 0) : Ev G mJ0_isEmpty_aae02 0 [(2, (i : Int))] [] (zH ia w) (.inl (some (0, 1)), zH ia w, 0, 0) := by
  have hi : i < 24 := Nat.le_of_ble_eq_true hib
  refine Ev.aload_n_2 fJ0_isEmpty_aae02_0 rfl ?_
  refine Ev.sVal i (by first | decide | exact hi) fJ0_isEmpty_aae02_1 (gsJ0_9 rfl) ?_
  refine Ev.sLenE i hib fJ0_isEmpty_aae02_4 hL ?_
  refine Ev.if_ne fJ0_isEmpty_aae02_5 rfl ⟨by omega, by omega⟩ (fun h5 => by exfalso; omega) (fun h5 => ?_)
  refine Ev.iconst fJ0_isEmpty_aae02_8 ?_
  refine Ev.goto fJ0_isEmpty_aae02_9 rfl ?_
  exact Ev.zZ fJ0_isEmpty_aae02_13 rfl (by first | exact Or.inl rfl | exact Or.inr rfl) rfl
theorem eJ_isEmpty_f {G : zG} {ia : Nat → Int → Int} {w : (Nat → Int → Int) × (Nat → Int → Int)} {i : Nat} {L : Int} (hib : Nat.ble (i + 1) 24 = true) (hL : ((zSl.getD i 0 : Nat) : Int) = L) (hL0 : 0 ≤ L ∧ L ≤ 7) (hx : 0 < L) : Ev G mJ0_isEmpty_aae02 0 [(2, (i : Int))] [] (zH ia w) (.inl (some (0, 0)), zH ia w, 0, 0) := by
  have hi : i < 24 := Nat.le_of_ble_eq_true hib
  refine Ev.aload_n_2 fJ0_isEmpty_aae02_0 rfl ?_
  refine Ev.sVal i (by first | decide | exact hi) fJ0_isEmpty_aae02_1 (gsJ0_9 rfl) ?_
  refine Ev.sLenE i hib fJ0_isEmpty_aae02_4 hL ?_
  refine Ev.if_ne fJ0_isEmpty_aae02_5 rfl ⟨by omega, by omega⟩ (fun h5 => ?_) (fun h5 => by exfalso; omega)
  refine Ev.iconst fJ0_isEmpty_aae02_12 ?_
  exact Ev.zZ fJ0_isEmpty_aae02_13 rfl (by first | exact Or.inl rfl | exact Or.inr rfl) rfl
theorem eJ_coder {G : zG} {ia : Nat → Int → Int} {w : (Nat → Int → Int) × (Nat → Int → Int)} {i : Nat} (hib : Nat.ble (i + 1) 24 = true) : Ev G mJ0_coder_7d493 0 [(2, (i : Int))] [] (zH ia w) (.inl (some (0, 0)), zH ia w, 0, 0) := by
  have hi : i < 24 := Nat.le_of_ble_eq_true hib
  refine Ev.sComp fJ0_coder_7d493_0 (gsJ0_38 rfl) ?_
  refine Ev.if_eq fJ0_coder_7d493_3 rfl (by decide) (fun h3 => by exfalso; revert h3; decide) (fun h3 => ?_)
  refine Ev.aload_n_2 fJ0_coder_7d493_6 rfl ?_
  refine Ev.sCod i (by first | decide | exact hi) fJ0_coder_7d493_7 (gsJ0_15 rfl) ?_
  refine Ev.goto fJ0_coder_7d493_10 rfl ?_
  exact Ev.zB fJ0_coder_7d493_14 rfl rfl
theorem eJ_isLatin1 {G : zG} {ia : Nat → Int → Int} {w : (Nat → Int → Int) × (Nat → Int → Int)} {i : Nat} (hib : Nat.ble (i + 1) 24 = true) : Ev G mJ0_isLatin1_aae02 0 [(2, (i : Int))] [] (zH ia w) (.inl (some (0, 1)), zH ia w, 0, 0) := by
  have hi : i < 24 := Nat.le_of_ble_eq_true hib
  refine Ev.sComp fJ0_isLatin1_aae02_0 (gsJ0_38 rfl) ?_
  refine Ev.if_eq fJ0_isLatin1_aae02_3 rfl (by decide) (fun h3 => by exfalso; revert h3; decide) (fun h3 => ?_)
  refine Ev.aload_n_2 fJ0_isLatin1_aae02_6 rfl ?_
  refine Ev.sCod i (by first | decide | exact hi) fJ0_isLatin1_aae02_7 (gsJ0_15 rfl) ?_
  refine Ev.if_ne fJ0_isLatin1_aae02_10 rfl (by decide) (fun h10 => by exfalso; revert h10; decide) (fun h10 => ?_)
  refine Ev.iconst fJ0_isLatin1_aae02_13 ?_
  refine Ev.goto fJ0_isLatin1_aae02_14 rfl ?_
  exact Ev.zZ fJ0_isLatin1_aae02_18 rfl (by first | exact Or.inl rfl | exact Or.inr rfl) rfl
theorem eJ_length {G : zG} {ia : Nat → Int → Int} {w : (Nat → Int → Int) × (Nat → Int → Int)} {i : Nat} {L : Int} (hib : Nat.ble (i + 1) 24 = true) (hL : ((zSl.getD i 0 : Nat) : Int) = L) (hL0 : 0 ≤ L ∧ L ≤ 7) : Ev G mJ0_length_8abf5 0 [(2, (i : Int))] [] (zH ia w) (.inl (some (0, L)), zH ia w, 0, 0) := by
  have hi : i < 24 := Nat.le_of_ble_eq_true hib
  refine Ev.aload_n_2 fJ0_length_8abf5_0 rfl ?_
  refine Ev.sVal i (by first | decide | exact hi) fJ0_length_8abf5_1 (gsJ0_9 rfl) ?_
  refine Ev.sLenE i hib fJ0_length_8abf5_4 hL ?_
  refine Ev.aload_n_2 fJ0_length_8abf5_5 rfl ?_
  refine Ev.cVTi i [] [(0, L)] fJ0_length_8abf5_6 lkJ0_length_8abf5_335 rfl (by rw [hib]; rfl) (eJ_coder hib) ?_
  refine Ev.ishr0 fJ0_length_8abf5_9 ?_
  exact Ev.zI fJ0_length_8abf5_10 rfl rfl
theorem eJ_check3 {G : zG} {ia : Nat → Int → Int} {w : (Nat → Int → Int) × (Nat → Int → Int)} {j L : Int} (hj : 0 ≤ j ∧ j < L ∧ L ≤ 7) : Ev G mJ3_checkIndex_8e157 0 [(0, j), (0, L), (8, 0)] [] (zH ia w) (.inl (some (0, j)), zH ia w, 0, 0) := by
  refine Ev.iload_n fJ3_checkIndex_8e157_0 rfl ?_
  refine Ev.if_lt fJ3_checkIndex_8e157_1 rfl ⟨by omega, by omega⟩ (fun h1 => by exfalso; omega) (fun h1 => ?_)
  refine Ev.iload_n fJ3_checkIndex_8e157_4 rfl ?_
  refine Ev.iload_n fJ3_checkIndex_8e157_5 rfl ?_
  refine Ev.icmp_lt fJ3_checkIndex_8e157_6 rfl ⟨by omega, by omega⟩ ⟨by omega, by omega⟩ (fun h6 => ?_) (fun h6 => by exfalso; omega)
  refine Ev.iload_n fJ3_checkIndex_8e157_16 rfl ?_
  exact Ev.zI fJ3_checkIndex_8e157_17 rfl rfl
theorem eJ_check2 {G : zG} {ia : Nat → Int → Int} {w : (Nat → Int → Int) × (Nat → Int → Int)} {j L : Int} (hj : 0 ≤ j ∧ j < L ∧ L ≤ 7) : Ev G mJ0_checkIndex_df160 0 [(0, j), (0, L)] [] (zH ia w) (.inl none, zH ia w, 0, 0) := by
  refine Ev.iload_n fJ0_checkIndex_df160_0 rfl ?_
  refine Ev.iload_n fJ0_checkIndex_df160_1 rfl ?_
  refine Ev.sForm fJ0_checkIndex_df160_2 (gsJ0_1053 rfl) ?_
  refine Ev.cSi [(0, j), (0, L), (8, 0)] [] fJ0_checkIndex_df160_5 lkJ0_checkIndex_df160_1059 rfl (eJ_check3 hj) ?_
  refine Ev.pop fJ0_checkIndex_df160_8 rfl ?_
  exact Ev.zV fJ0_checkIndex_df160_9 rfl
theorem eJ_charAt1 {G : zG} {ia : Nat → Int → Int} {w : (Nat → Int → Int) × (Nat → Int → Int)} {i j : Nat} {L b : Int} (hib : Nat.ble (i + 1) 24 = true) (hL : ((zSl.getD i 0 : Nat) : Int) = L) (hL0 : 0 ≤ L ∧ L ≤ 7) (hjL : (j : Int) < L) (hb : (zSb.getD i []).getD j 0 = Int32.ofInt b) (hb2 : 0 ≤ b ∧ b ≤ 127) : Ev G mJ1_charAt_3b067 0 [(7, (i : Int)), (0, (j : Int))] [] (zH ia w) (.inl (some (0, b)), zH ia w, 0, 0) := by
  have hi : i < 24 := Nat.le_of_ble_eq_true hib
  have hj : j < zSl.getD i 0 := by omega
  have hj2 : zSl.getD i 0 ≤ 2147483647 := by omega
  refine Ev.iload_n fJ1_charAt_3b067_0 rfl ?_
  refine Ev.aload_n_7 fJ1_charAt_3b067_1 rfl ?_
  refine Ev.sLenE i hib fJ1_charAt_3b067_2 hL ?_
  refine Ev.cSv [(0, (j : Int)), (0, L)] [] fJ1_charAt_3b067_3 lkJ1_charAt_3b067_9 rfl (eJ_check2 ⟨by omega, by omega, by omega⟩) ?_
  refine Ev.aload_n_7 fJ1_charAt_3b067_6 rfl ?_
  refine Ev.iload_n fJ1_charAt_3b067_7 rfl ?_
  refine Ev.sByte i j b hi fJ1_charAt_3b067_8 hj hj2 hb ?_
  refine Ev.sipush fJ1_charAt_3b067_9 rfl ?_
  refine Ev.iand 8 (by decide) fJ1_charAt_3b067_12 (by decide) ?_
  refine Ev.i2c fJ1_charAt_3b067_13 ?_
  exact Ev.zC fJ1_charAt_3b067_14 rfl ⟨by omega, by omega⟩ (by omega)
theorem eJ_charAt {G : zG} {ia : Nat → Int → Int} {w : (Nat → Int → Int) × (Nat → Int → Int)} {i j : Nat} {L b : Int} (hib : Nat.ble (i + 1) 24 = true) (hL : ((zSl.getD i 0 : Nat) : Int) = L) (hL0 : 0 ≤ L ∧ L ≤ 7) (hjL : (j : Int) < L) (hb : (zSb.getD i []).getD j 0 = Int32.ofInt b) (hb2 : 0 ≤ b ∧ b ≤ 127) : Ev G mJ0_charAt_5068e 0 [(2, (i : Int)), (0, (j : Int))] [] (zH ia w) (.inl (some (0, b)), zH ia w, 0, 0) := by
  have hi : i < 24 := Nat.le_of_ble_eq_true hib
  have hj : j < zSl.getD i 0 := by omega
  have hj2 : zSl.getD i 0 ≤ 2147483647 := by omega
  refine Ev.aload_n_2 fJ0_charAt_5068e_0 rfl ?_
  refine Ev.cVTi i [] [] fJ0_charAt_5068e_1 lkJ0_charAt_5068e_492 rfl (by rw [hib]; rfl) (eJ_isLatin1 hib) ?_
  refine Ev.if_eq fJ0_charAt_5068e_4 rfl (by decide) (fun h4 => by exfalso; revert h4; decide) (fun h4 => ?_)
  refine Ev.aload_n_2 fJ0_charAt_5068e_7 rfl ?_
  refine Ev.sVal i (by first | decide | exact hi) fJ0_charAt_5068e_8 (gsJ0_9 rfl) ?_
  refine Ev.iload_n fJ0_charAt_5068e_11 rfl ?_
  refine Ev.cSi [(7, (i : Int)), (0, (j : Int))] [] fJ0_charAt_5068e_12 lkJ0_charAt_5068e_495 rfl (eJ_charAt1 hib hL hL0 hjL hb hb2) ?_
  exact Ev.zC fJ0_charAt_5068e_15 rfl ⟨by omega, by omega⟩ rfl
theorem eX7_isDigit_b {G : zG} {ia : Nat → Int → Int} {w : (Nat → Int → Int) × (Nat → Int → Int)} (x : Int) (hr : 0 ≤ x ∧ x ≤ 65535) : ∃ b : Int, (b = 0 ∨ b = 1) ∧ (b = 1 ↔ 48 ≤ x ∧ x ≤ 57) ∧ Ev G mX7_isDigit 0 [(0, x)] [] (zH ia w) (.inl (some (0, b)), zH ia w, 0, 0) := by
  by_cases h : 48 ≤ x ∧ x ≤ 57
  · exact ⟨1, Or.inr rfl, ⟨fun _ => h, fun _ => rfl⟩, eX7_isDigit_t h⟩
  · exact ⟨0, Or.inl rfl, ⟨fun e => absurd e (by decide), fun e => absurd e h⟩, eX7_isDigit_f hr h⟩
theorem eX2_size {G : zG} {ia : Nat → Int → Int} {w : (Nat → Int → Int) × (Nat → Int → Int)}   : Ev G mX2_size 0 [(1, 19)] [] (zH ia w) (.inl (some (0, (ia 19 1))), zH ia w, 0, 0) := by
  refine Ev.aload_n_1 fX2_size_0 rfl ?_
  refine Ev.gI 19 1 (v := (ia 19 1)) fX2_size_1 (flX2_15 rfl) rfl rfl rfl ?_
  exact Ev.zI fX2_size_4 rfl rfl
theorem eX2_isFull_t {G : zG} {ia : Nat → Int → Int} {w : (Nat → Int → Int) × (Nat → Int → Int)}  (hl : ia 19 1 = 60) : Ev G mX2_isFull 0 [(1, 19)] [] (zH ia w) (.inl (some (0, 1)), zH ia w, 0, 0) := by
  refine Ev.aload_n_1 fX2_isFull_0 rfl ?_
  refine Ev.gI 19 1 (v := (ia 19 1)) fX2_isFull_1 (flX2_15 rfl) rfl rfl rfl ?_
  refine Ev.bipush fX2_isFull_4 rfl ?_
  refine Ev.icmp_lt fX2_isFull_6 rfl ⟨by omega, by omega⟩ (by decide) (fun h6 => by exfalso; omega) (fun h6 => ?_)
  refine Ev.iconst fX2_isFull_9 ?_
  refine Ev.goto fX2_isFull_10 rfl ?_
  exact Ev.zZ fX2_isFull_14 rfl (by first | exact Or.inl rfl | exact Or.inr rfl) rfl
theorem eX2_isFull_f {G : zG} {ia : Nat → Int → Int} {w : (Nat → Int → Int) × (Nat → Int → Int)}  (hl : 0 ≤ ia 19 1 ∧ ia 19 1 < 60) : Ev G mX2_isFull 0 [(1, 19)] [] (zH ia w) (.inl (some (0, 0)), zH ia w, 0, 0) := by
  refine Ev.aload_n_1 fX2_isFull_0 rfl ?_
  refine Ev.gI 19 1 (v := (ia 19 1)) fX2_isFull_1 (flX2_15 rfl) rfl rfl rfl ?_
  refine Ev.bipush fX2_isFull_4 rfl ?_
  refine Ev.icmp_lt fX2_isFull_6 rfl ⟨by omega, by omega⟩ (by decide) (fun h6 => ?_) (fun h6 => by exfalso; omega)
  refine Ev.iconst fX2_isFull_13 ?_
  exact Ev.zZ fX2_isFull_14 rfl (by first | exact Or.inl rfl | exact Or.inr rfl) rfl
theorem eX2_put {G : zG} {ia : Nat → Int → Int} {w : (Nat → Int → Int) × (Nat → Int → Int)} {c : Int} (hl : 0 ≤ ia 19 1 ∧ ia 19 1 < 60) (hc : 0 ≤ c ∧ c ≤ 65535) : Ev G mX2_put 0 [(1, 19), (0, c)] [] (zH ia w) (.inl none, zH (zu (zu ia 20 (ia 19 1) c) 19 1 ((ia 19 1) + 1)) w, 0, 0) := by
  refine Ev.aload_n_1 fX2_put_0 rfl ?_
  refine Ev.cVi 19 [] [] fX2_put_1 lkX2_put_30 2 TX2 5 rfl rfl rfl (eX2_isFull_f hl) ?_
  refine Ev.if_ne fX2_put_4 rfl (by decide) (fun h4 => by exfalso; revert h4; decide) (fun h4 => ?_)
  refine Ev.aload_n_1 fX2_put_7 rfl ?_
  refine Ev.gR 19 0 20 fX2_put_8 (flX2_9 rfl) rfl rfl rfl ?_
  refine Ev.aload_n_1 fX2_put_11 rfl ?_
  refine Ev.gI 19 1 (v := (ia 19 1)) fX2_put_12 (flX2_15 rfl) rfl rfl rfl ?_
  refine Ev.iload_n fX2_put_15 rfl ?_
  refine Ev.stC 20 60 fX2_put_16 rfl rfl ⟨by omega, by omega⟩ ⟨by omega, by omega⟩ ?_
  refine Ev.aload_n_1 fX2_put_17 rfl ?_
  refine Ev.dup fX2_put_18 rfl ?_
  refine Ev.gI 19 1 (v := (ia 19 1)) fX2_put_19 (flX2_15 rfl) rfl rfl rfl ?_
  refine Ev.iconst fX2_put_22 ?_
  refine Ev.iadd fX2_put_23 ?_
  refine Ev.pI 19 1 fX2_put_24 (flX2_15 rfl) rfl rfl trivial ?_
  exact Ev.zV fX2_put_27 rfl
theorem eX2_clear {G : zG} {ia : Nat → Int → Int} {w : (Nat → Int → Int) × (Nat → Int → Int)}   : Ev G mX2_clear 0 [(1, 19)] [] (zH ia w) (.inl none, zH (zu ia 19 1 0) w, 0, 0) := by
  refine Ev.aload_n_1 fX2_clear_0 rfl ?_
  refine Ev.iconst fX2_clear_1 ?_
  refine Ev.pI 19 1 fX2_clear_2 (flX2_15 rfl) rfl rfl trivial ?_
  exact Ev.zV fX2_clear_5 rfl
theorem eX2_rewind {G : zG} {ia : Nat → Int → Int} {w : (Nat → Int → Int) × (Nat → Int → Int)}   : Ev G mX2_rewind 0 [(1, 19)] [] (zH ia w) (.inl none, zH (zu ia 19 2 0) w, 0, 0) := by
  refine Ev.aload_n_1 fX2_rewind_0 rfl ?_
  refine Ev.iconst fX2_rewind_1 ?_
  refine Ev.pI 19 2 fX2_rewind_2 (flX2_19 rfl) rfl rfl trivial ?_
  exact Ev.zV fX2_rewind_5 rfl
theorem eX2_kind {G : zG} {ia : Nat → Int → Int} {w : (Nat → Int → Int) × (Nat → Int → Int)} {p k : Int} {nf : Int → Int} (hk : 0 ≤ k ∧ k ≤ 65535) : Ev G mX2_kind 0 [(1, 19)] [] (zH (zDf ia p k nf) w) (.inl (some (0, k)), zH (zDf ia p k nf) w, 0, 0) := by
  refine Ev.aload_n_1 fX2_kind_0 rfl ?_
  refine Ev.gI 19 3 (v := k) fX2_kind_1 (flX2_22 rfl) rfl rfl rfl ?_
  exact Ev.zC fX2_kind_4 rfl ⟨by omega, by omega⟩ rfl
theorem eX2_number {G : zG} {ia : Nat → Int → Int} {w : (Nat → Int → Int) × (Nat → Int → Int)} {p k : Int} {nf : Int → Int} {j : Int} (hj : 0 ≤ j ∧ j < 4) : Ev G mX2_number 0 [(1, 19), (0, j)] [] (zH (zDf ia p k nf) w) (.inl (some (0, (nf j))), zH (zDf ia p k nf) w, 0, 0) := by
  refine Ev.iload_n fX2_number_0 rfl ?_
  refine Ev.if_lt fX2_number_1 rfl ⟨by omega, by omega⟩ (fun h1 => by exfalso; omega) (fun h1 => ?_)
  refine Ev.iload_n fX2_number_4 rfl ?_
  refine Ev.iconst fX2_number_5 ?_
  refine Ev.icmp_ge fX2_number_6 rfl ⟨by omega, by omega⟩ (by decide) (fun h6 => by exfalso; omega) (fun h6 => ?_)
  refine Ev.aload_n_1 fX2_number_9 rfl ?_
  refine Ev.gR 19 4 21 fX2_number_10 (flX2_26 rfl) rfl rfl rfl ?_
  refine Ev.iload_n fX2_number_13 rfl ?_
  refine Ev.ld 21 4 (v := (nf j)) fX2_number_14 rfl rfl ⟨by omega, by omega⟩ rfl ?_
  refine Ev.goto fX2_number_15 rfl ?_
  exact Ev.zI fX2_number_19 rfl rfl
theorem eX2_signAhead {G : zG} {ia : Nat → Int → Int} {w : (Nat → Int → Int) × (Nat → Int → Int)} {p k : Int} {nf : Int → Int} (D : zDI ia) (hp : 0 ≤ p ∧ p ≤ 60) : Ev G mX2_signAhead 0 [(1, 19)] [] (zH (zDf ia p k nf) w) (.inl (some (0, (zch ia p))), zH (zDf ia p k nf) w, 0, 0) := by
  have hl1 := D.1
  have hl2 := D.2.1
  refine Ev.aload_n_1 fX2_signAhead_0 rfl ?_
  refine Ev.gI 19 2 (v := p) fX2_signAhead_1 (flX2_19 rfl) rfl rfl rfl ?_
  refine Ev.if_lt fX2_signAhead_4 rfl ⟨by omega, by omega⟩ (fun h4 => ?_) (fun h4 => ?_)
  · refine Ev.iconst fX2_signAhead_39 ?_
    exact Ev.zC fX2_signAhead_40 rfl (by first | decide | exact h9) (by unfold zch; rw [if_neg (by omega)])
  · refine Ev.aload_n_1 fX2_signAhead_7 rfl ?_
    refine Ev.gI 19 2 (v := p) fX2_signAhead_8 (flX2_19 rfl) rfl rfl rfl ?_
    refine Ev.aload_n_1 fX2_signAhead_11 rfl ?_
    refine Ev.gI 19 1 (v := (ia 19 1)) fX2_signAhead_12 (flX2_15 rfl) rfl rfl rfl ?_
    refine Ev.icmp_ge fX2_signAhead_15 rfl ⟨by omega, by omega⟩ ⟨by omega, by omega⟩ (fun h15 => ?_) (fun h15 => ?_)
    · refine Ev.iconst fX2_signAhead_39 ?_
      exact Ev.zC fX2_signAhead_40 rfl (by first | decide | exact h9) (by unfold zch; rw [if_neg (by omega)])
    · refine Ev.aload_n_1 fX2_signAhead_18 rfl ?_
      refine Ev.gI 19 2 (v := p) fX2_signAhead_19 (flX2_19 rfl) rfl rfl rfl ?_
      refine Ev.bipush fX2_signAhead_22 rfl ?_
      refine Ev.icmp_ge fX2_signAhead_24 rfl ⟨by omega, by omega⟩ (by decide) (fun h24 => by exfalso; omega) (fun h24 => ?_)
      refine Ev.aload_n_1 fX2_signAhead_27 rfl ?_
      refine Ev.gR 19 0 20 fX2_signAhead_28 (flX2_9 rfl) rfl rfl rfl ?_
      refine Ev.aload_n_1 fX2_signAhead_31 rfl ?_
      refine Ev.gI 19 2 (v := p) fX2_signAhead_32 (flX2_19 rfl) rfl rfl rfl ?_
      refine Ev.cld 20 60 (v := (ia 20 p)) fX2_signAhead_35 rfl rfl ⟨by omega, by omega⟩ rfl ?_
      refine Ev.goto fX2_signAhead_36 rfl ?_
      have h9 := D.2.2 p (by omega) (by omega)
      exact Ev.zC fX2_signAhead_40 rfl (by first | decide | exact h9) (by unfold zch; rw [if_pos (by omega)])
theorem eX2_readSign_t {G : zG} {ia : Nat → Int → Int} {w : (Nat → Int → Int) × (Nat → Int → Int)} {p k : Int} {nf : Int → Int} {c : Int} (D : zDI ia) (hp : 0 ≤ p ∧ p ≤ 60) (hc : zch ia p = c) : Ev G mX2_readSign 0 [(1, 19), (0, c)] [] (zH (zDf ia p k nf) w) (.inl (some (0, 1)), zH (zDf ia (p + 1) k nf) w, 0, 0) := by
  have hch := zch_in D p
  refine Ev.aload_n_1 fX2_readSign_0 rfl ?_
  refine Ev.cVi 19 [] [] fX2_readSign_1 lkX2_readSign_44 2 TX2 5 rfl rfl rfl (eX2_signAhead D ⟨by omega, by omega⟩) ?_
  refine Ev.iload_n fX2_readSign_4 rfl ?_
  refine Ev.icmp_eq fX2_readSign_5 rfl ⟨by omega, by omega⟩ ⟨by omega, by omega⟩ (fun h5 => ?_) (fun h5 => by exfalso; omega)
  refine Ev.aload_n_1 fX2_readSign_10 rfl ?_
  refine Ev.dup fX2_readSign_11 rfl ?_
  refine Ev.gI 19 2 (v := p) fX2_readSign_12 (flX2_19 rfl) rfl rfl rfl ?_
  refine Ev.iconst fX2_readSign_15 ?_
  refine Ev.iadd fX2_readSign_16 ?_
  refine Ev.pI 19 2 fX2_readSign_17 (flX2_19 rfl) rfl rfl trivial ?_
  rw [zD_p']
  refine Ev.iconst fX2_readSign_20 ?_
  exact Ev.zZ fX2_readSign_21 rfl (by first | exact Or.inl rfl | exact Or.inr rfl) rfl
theorem eX2_readSign_f {G : zG} {ia : Nat → Int → Int} {w : (Nat → Int → Int) × (Nat → Int → Int)} {p k : Int} {nf : Int → Int} {c : Int} (D : zDI ia) (hp : 0 ≤ p ∧ p ≤ 60) (hr : 0 ≤ c ∧ c ≤ 65535) (hc : zch ia p ≠ c) : Ev G mX2_readSign 0 [(1, 19), (0, c)] [] (zH (zDf ia p k nf) w) (.inl (some (0, 0)), zH (zDf ia p k nf) w, 0, 0) := by
  have hch := zch_in D p
  refine Ev.aload_n_1 fX2_readSign_0 rfl ?_
  refine Ev.cVi 19 [] [] fX2_readSign_1 lkX2_readSign_44 2 TX2 5 rfl rfl rfl (eX2_signAhead D ⟨by omega, by omega⟩) ?_
  refine Ev.iload_n fX2_readSign_4 rfl ?_
  refine Ev.icmp_eq fX2_readSign_5 rfl ⟨by omega, by omega⟩ ⟨by omega, by omega⟩ (fun h5 => by exfalso; omega) (fun h5 => ?_)
  refine Ev.iconst fX2_readSign_8 ?_
  exact Ev.zZ fX2_readSign_9 rfl (by first | exact Or.inl rfl | exact Or.inr rfl) rfl
theorem eX2_readNumber_L {G : zG} {ia : Nat → Int → Int} {w : (Nat → Int → Int) × (Nat → Int → Int)} {mx pl k : Int} {nf : Int → Int} (D : zDI ia) (hm : 1 ≤ mx ∧ mx ≤ 3) (hpl : 0 ≤ pl ∧ pl ≤ 10) : ∀ (n : Nat) (p v dg : Int), mx - dg < n → 0 ≤ dg → dg ≤ mx → 0 ≤ p ∧ p ≤ 60 → 0 ≤ v → (dg = 0 → v = 0) → (dg = 1 → v ≤ 9) → (dg = 2 → v ≤ 99) → Ev G mX2_readNumber 5 [(1, 19), (0, pl), (0, mx), (0, v), (0, dg)] [] (zH (zDf ia p k nf) w) (.inl (some (0, (if 0 < dg + (zdn (zch ia) (mx - dg).toNat p - p) then 1 else 0))), zH (zDf ia (zdn (zch ia) (mx - dg).toNat p) k (zup nf pl (zdv (zch ia) (mx - dg).toNat p v))) w, 0, 0) := by
  intro n
  induction n with
  | zero =>
    intro p v dg h1 h2 h3 h4 h5 h6 h7 h8
    exact absurd h1 (by omega)
  | succ n ih =>
    intro p v dg h1 h2 h3 h4 h5 h6 h7 h8
    have hl1 := D.1
    have hl2 := D.2.1
    have hch := zch_in D p
    by_cases hmx : dg < mx
    · by_cases hdg : 48 ≤ zch ia p ∧ zch ia p ≤ 57
      · have e : (mx - dg).toNat = (mx - (dg + 1)).toNat + 1 := by omega
        have hpL : p < ia 19 1 := by
          rcases Int.lt_or_le p (ia 19 1) with q | q
          · exact q
          · have := zch_end p q
            omega
        have e2 : ∀ q : Int, dg + (q - p) = (dg + 1) + (q - (p + 1)) := fun q => by omega
        rw [e, zdn_t hdg, zdv_t hdg, e2]
        refine Ev.iload fX2_readNumber_5 rfl ?_
        refine Ev.iload_n fX2_readNumber_7 rfl ?_
        refine Ev.icmp_ge fX2_readNumber_8 rfl ⟨by omega, by omega⟩ ⟨by omega, by omega⟩ (fun h8 => by exfalso; omega) (fun h8 => ?_)
        refine Ev.aload_n_1 fX2_readNumber_11 rfl ?_
        refine Ev.cVi 19 [] [] fX2_readNumber_12 lkX2_readNumber_44 2 TX2 5 rfl rfl rfl (eX2_signAhead D ⟨by omega, by omega⟩) ?_
        obtain ⟨b53, ga53, gb53, ge53⟩ := eX7_isDigit_b (G := G) (ia := (zDf ia p k nf)) (w := w) (zch ia p) ⟨by omega, by omega⟩
        refine Ev.cSNi [(0, (zch ia p))] [] fX2_readNumber_15 lkX2_readNumber_64 rfl ge53 ?_
        refine Ev.if_eq fX2_readNumber_18 rfl ⟨by omega, by omega⟩ (fun h18 => by exfalso; omega) (fun h18 => ?_)
        refine Ev.bipush fX2_readNumber_21 rfl ?_
        refine Ev.iload_n fX2_readNumber_23 rfl ?_
        refine Ev.imul fX2_readNumber_24 ?_
        refine Ev.aload_n_1 fX2_readNumber_25 rfl ?_
        refine Ev.cVi 19 [] [(0, (10 * v))] fX2_readNumber_26 lkX2_readNumber_44 2 TX2 5 rfl rfl rfl (eX2_signAhead D ⟨by omega, by omega⟩) ?_
        refine Ev.bipush fX2_readNumber_29 rfl ?_
        refine Ev.isub fX2_readNumber_31 ?_
        refine Ev.iadd fX2_readNumber_32 ?_
        refine Ev.sistore_n [(1, 19), (0, pl), (0, mx), (0, ((10 * v) + ((zch ia p) - 48))), (0, dg)] fX2_readNumber_33 rfl rfl ?_
        refine Ev.siinc [(1, 19), (0, pl), (0, mx), (0, ((10 * v) + ((zch ia p) - 48))), (0, (dg + 1))] fX2_readNumber_34 rfl rfl rfl ?_
        refine Ev.aload_n_1 fX2_readNumber_37 rfl ?_
        refine Ev.dup fX2_readNumber_38 rfl ?_
        refine Ev.gI 19 2 (v := p) fX2_readNumber_39 (flX2_19 rfl) rfl rfl rfl ?_
        refine Ev.iconst fX2_readNumber_42 ?_
        refine Ev.iadd fX2_readNumber_43 ?_
        refine Ev.pI 19 2 fX2_readNumber_44 (flX2_19 rfl) rfl rfl trivial ?_
        rw [zD_p']
        refine Ev.goto fX2_readNumber_47 rfl ?_
        exact ih (p + 1) (10 * v + (zch ia p - 48)) (dg + 1) (by omega) (by omega) (by omega) ⟨by omega, by omega⟩ (by omega) (fun q => by omega) (fun q => by omega) (fun q => by omega)
      · rw [zdn_f hdg, zdv_f hdg]
        rcases Int.lt_or_le pl 4 with h9 | h9
        · refine Ev.iload fX2_readNumber_5 rfl ?_
          refine Ev.iload_n fX2_readNumber_7 rfl ?_
          refine Ev.icmp_ge fX2_readNumber_8 rfl ⟨by omega, by omega⟩ ⟨by omega, by omega⟩ (fun h8 => by exfalso; omega) (fun h8 => ?_)
          refine Ev.aload_n_1 fX2_readNumber_11 rfl ?_
          refine Ev.cVi 19 [] [] fX2_readNumber_12 lkX2_readNumber_44 2 TX2 5 rfl rfl rfl (eX2_signAhead D ⟨by omega, by omega⟩) ?_
          obtain ⟨b54, ga54, gb54, ge54⟩ := eX7_isDigit_b (G := G) (ia := (zDf ia p k nf)) (w := w) (zch ia p) ⟨by omega, by omega⟩
          refine Ev.cSNi [(0, (zch ia p))] [] fX2_readNumber_15 lkX2_readNumber_64 rfl ge54 ?_
          refine Ev.if_eq fX2_readNumber_18 rfl ⟨by omega, by omega⟩ (fun h18 => ?_) (fun h18 => by exfalso; omega)
          refine Ev.iload_n fX2_readNumber_50 rfl ?_
          refine Ev.if_lt fX2_readNumber_51 rfl ⟨by omega, by omega⟩ (fun h51 => by exfalso; omega) (fun h51 => ?_)
          refine Ev.iload_n fX2_readNumber_54 rfl ?_
          refine Ev.iconst fX2_readNumber_55 ?_
          refine Ev.icmp_ge fX2_readNumber_56 rfl ⟨by omega, by omega⟩ (by decide) (fun h56 => by exfalso; omega) (fun h56 => ?_)
          refine Ev.aload_n_1 fX2_readNumber_59 rfl ?_
          refine Ev.gR 19 4 21 fX2_readNumber_60 (flX2_26 rfl) rfl rfl rfl ?_
          refine Ev.iload_n fX2_readNumber_63 rfl ?_
          refine Ev.iload_n fX2_readNumber_64 rfl ?_
          refine Ev.stI 21 4 fX2_readNumber_65 rfl rfl ⟨by omega, by omega⟩ ?_
          rw [zD_n (by omega)]
          refine Ev.iload fX2_readNumber_66 rfl ?_
          refine Ev.if_le fX2_readNumber_68 rfl ⟨by omega, by omega⟩ (fun h68 => ?_) (fun h68 => ?_)
          · refine Ev.iconst fX2_readNumber_75 ?_
            exact Ev.zZ fX2_readNumber_76 rfl (by first | exact Or.inl rfl | exact Or.inr rfl) (by rw [if_neg (by omega)])
          · refine Ev.iconst fX2_readNumber_71 ?_
            refine Ev.goto fX2_readNumber_72 rfl ?_
            exact Ev.zZ fX2_readNumber_76 rfl (by first | exact Or.inl rfl | exact Or.inr rfl) (by rw [if_pos (by omega)])
        · rw [zup_ge h9]
          refine Ev.iload fX2_readNumber_5 rfl ?_
          refine Ev.iload_n fX2_readNumber_7 rfl ?_
          refine Ev.icmp_ge fX2_readNumber_8 rfl ⟨by omega, by omega⟩ ⟨by omega, by omega⟩ (fun h8 => by exfalso; omega) (fun h8 => ?_)
          refine Ev.aload_n_1 fX2_readNumber_11 rfl ?_
          refine Ev.cVi 19 [] [] fX2_readNumber_12 lkX2_readNumber_44 2 TX2 5 rfl rfl rfl (eX2_signAhead D ⟨by omega, by omega⟩) ?_
          obtain ⟨b55, ga55, gb55, ge55⟩ := eX7_isDigit_b (G := G) (ia := (zDf ia p k nf)) (w := w) (zch ia p) ⟨by omega, by omega⟩
          refine Ev.cSNi [(0, (zch ia p))] [] fX2_readNumber_15 lkX2_readNumber_64 rfl ge55 ?_
          refine Ev.if_eq fX2_readNumber_18 rfl ⟨by omega, by omega⟩ (fun h18 => ?_) (fun h18 => by exfalso; omega)
          refine Ev.iload_n fX2_readNumber_50 rfl ?_
          refine Ev.if_lt fX2_readNumber_51 rfl ⟨by omega, by omega⟩ (fun h51 => by exfalso; omega) (fun h51 => ?_)
          refine Ev.iload_n fX2_readNumber_54 rfl ?_
          refine Ev.iconst fX2_readNumber_55 ?_
          refine Ev.icmp_ge fX2_readNumber_56 rfl ⟨by omega, by omega⟩ (by decide) (fun h56 => ?_) (fun h56 => by exfalso; omega)
          refine Ev.iload fX2_readNumber_66 rfl ?_
          refine Ev.if_le fX2_readNumber_68 rfl ⟨by omega, by omega⟩ (fun h68 => ?_) (fun h68 => ?_)
          · refine Ev.iconst fX2_readNumber_75 ?_
            exact Ev.zZ fX2_readNumber_76 rfl (by first | exact Or.inl rfl | exact Or.inr rfl) (by rw [if_neg (by omega)])
          · refine Ev.iconst fX2_readNumber_71 ?_
            refine Ev.goto fX2_readNumber_72 rfl ?_
            exact Ev.zZ fX2_readNumber_76 rfl (by first | exact Or.inl rfl | exact Or.inr rfl) (by rw [if_pos (by omega)])
    · have e : (mx - dg).toNat = 0 := by omega
      rw [e, zdn_0, zdv_0]
      rcases Int.lt_or_le pl 4 with h9 | h9
      · refine Ev.iload fX2_readNumber_5 rfl ?_
        refine Ev.iload_n fX2_readNumber_7 rfl ?_
        refine Ev.icmp_ge fX2_readNumber_8 rfl ⟨by omega, by omega⟩ ⟨by omega, by omega⟩ (fun h8 => ?_) (fun h8 => by exfalso; omega)
        refine Ev.iload_n fX2_readNumber_50 rfl ?_
        refine Ev.if_lt fX2_readNumber_51 rfl ⟨by omega, by omega⟩ (fun h51 => by exfalso; omega) (fun h51 => ?_)
        refine Ev.iload_n fX2_readNumber_54 rfl ?_
        refine Ev.iconst fX2_readNumber_55 ?_
        refine Ev.icmp_ge fX2_readNumber_56 rfl ⟨by omega, by omega⟩ (by decide) (fun h56 => by exfalso; omega) (fun h56 => ?_)
        refine Ev.aload_n_1 fX2_readNumber_59 rfl ?_
        refine Ev.gR 19 4 21 fX2_readNumber_60 (flX2_26 rfl) rfl rfl rfl ?_
        refine Ev.iload_n fX2_readNumber_63 rfl ?_
        refine Ev.iload_n fX2_readNumber_64 rfl ?_
        refine Ev.stI 21 4 fX2_readNumber_65 rfl rfl ⟨by omega, by omega⟩ ?_
        rw [zD_n (by omega)]
        refine Ev.iload fX2_readNumber_66 rfl ?_
        refine Ev.if_le fX2_readNumber_68 rfl ⟨by omega, by omega⟩ (fun h68 => ?_) (fun h68 => ?_)
        · refine Ev.iconst fX2_readNumber_75 ?_
          exact Ev.zZ fX2_readNumber_76 rfl (by first | exact Or.inl rfl | exact Or.inr rfl) (by rw [if_neg (by omega)])
        · refine Ev.iconst fX2_readNumber_71 ?_
          refine Ev.goto fX2_readNumber_72 rfl ?_
          exact Ev.zZ fX2_readNumber_76 rfl (by first | exact Or.inl rfl | exact Or.inr rfl) (by rw [if_pos (by omega)])
      · rw [zup_ge h9]
        refine Ev.iload fX2_readNumber_5 rfl ?_
        refine Ev.iload_n fX2_readNumber_7 rfl ?_
        refine Ev.icmp_ge fX2_readNumber_8 rfl ⟨by omega, by omega⟩ ⟨by omega, by omega⟩ (fun h8 => ?_) (fun h8 => by exfalso; omega)
        refine Ev.iload_n fX2_readNumber_50 rfl ?_
        refine Ev.if_lt fX2_readNumber_51 rfl ⟨by omega, by omega⟩ (fun h51 => by exfalso; omega) (fun h51 => ?_)
        refine Ev.iload_n fX2_readNumber_54 rfl ?_
        refine Ev.iconst fX2_readNumber_55 ?_
        refine Ev.icmp_ge fX2_readNumber_56 rfl ⟨by omega, by omega⟩ (by decide) (fun h56 => ?_) (fun h56 => by exfalso; omega)
        refine Ev.iload fX2_readNumber_66 rfl ?_
        refine Ev.if_le fX2_readNumber_68 rfl ⟨by omega, by omega⟩ (fun h68 => ?_) (fun h68 => ?_)
        · refine Ev.iconst fX2_readNumber_75 ?_
          exact Ev.zZ fX2_readNumber_76 rfl (by first | exact Or.inl rfl | exact Or.inr rfl) (by rw [if_neg (by omega)])
        · refine Ev.iconst fX2_readNumber_71 ?_
          refine Ev.goto fX2_readNumber_72 rfl ?_
          exact Ev.zZ fX2_readNumber_76 rfl (by first | exact Or.inl rfl | exact Or.inr rfl) (by rw [if_pos (by omega)])
theorem eX2_readNumber {G : zG} {ia : Nat → Int → Int} {w : (Nat → Int → Int) × (Nat → Int → Int)} {mx pl p k : Int} {nf : Int → Int} (D : zDI ia) (hp : 0 ≤ p ∧ p ≤ 60) (hm : 1 ≤ mx ∧ mx ≤ 3) (hpl : 0 ≤ pl ∧ pl ≤ 10) : Ev G mX2_readNumber 0 [(1, 19), (0, pl), (0, mx), (9, 0), (9, 0)] [] (zH (zDf ia p k nf) w) (.inl (some (0, (if zdn (zch ia) mx.toNat p = p then 0 else 1))), zH (zDf ia (zdn (zch ia) mx.toNat p) k (zup nf pl (zdv (zch ia) mx.toNat p 0))) w, 0, 0) := by
  have h := eX2_readNumber_L (G := G) (w := w) (k := k) (nf := nf) D hm hpl 10 p 0 0 (by omega) (by omega) (by omega) hp (by omega) (fun _ => rfl) (fun _ => by omega) (fun _ => by omega)
  have e : (if 0 < 0 + (zdn (zch ia) (mx - 0).toNat p - p) then (1 : Int) else 0) = if zdn (zch ia) mx.toNat p = p then 0 else 1 := by
    have := zdn_in (ch := zch ia) mx.toNat p
    rw [Int.sub_zero]
    by_cases h2 : zdn (zch ia) mx.toNat p = p
    · rw [if_pos h2, if_neg (by omega)]
    · rw [if_neg h2, if_pos (by omega)]
  rw [e, Int.sub_zero] at h
  refine Ev.iconst fX2_readNumber_0 ?_
  refine Ev.sistore_n [(1, 19), (0, pl), (0, mx), (0, 0), (9, 0)] fX2_readNumber_1 rfl rfl ?_
  refine Ev.iconst fX2_readNumber_2 ?_
  refine Ev.sistore [(1, 19), (0, pl), (0, mx), (0, 0), (0, 0)] fX2_readNumber_3 rfl rfl ?_
  exact h
