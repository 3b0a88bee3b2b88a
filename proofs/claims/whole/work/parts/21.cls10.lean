/-! THE CLASS: PUBLIC CHANGES (printed by wip/whole/gen/cls10.py) -/
/-- the heap with a mark of what there is, behind the marks that are kept -/
def zNo (ia : Nat → Int → Int) : Nat → Int → Int := (zcp (zu (zu (zu (zu ia 18 (ia 17 1 * 8) (ia 3 0)) 18 ((ia 17 1 * 8) + 1) (ia 2 2)) 18 ((ia 17 1 * 8) + 2) (ia 2 3)) 18 ((ia 17 1 * 8) + 3) (ia 2 4)) 8 0 18 ((ia 17 1 * 8) + 4) 4)
/-- the heap with the books as the mark behind the kept ones says -/
def zBa (ia : Nat → Int → Int) : Nat → Int → Int := (zcp (zu (zu (zu (zu ia 3 0 (ia 18 (ia 17 1 * 8))) 2 2 (ia 18 ((ia 17 1 * 8) + 1))) 2 3 (ia 18 ((ia 17 1 * 8) + 2))) 2 4 (ia 18 ((ia 17 1 * 8) + 3))) 18 ((ia 17 1 * 8) + 4) 8 0 4)
/-- the heap with the newest mark kept -/
def zKe (ia : Nat → Int → Int) : Nat → Int → Int := if ia 17 1 < 8 then zu ia 17 1 (ia 17 1 + 1) else zcp ia 18 8 18 0 64
def zTb (ia : Nat → Int → Int) : Prop := (0 ≤ ia 17 1 ∧ ia 17 1 ≤ 8) ∧ (1 ≤ ia 3 0 ∧ ia 3 0 ≤ 40) ∧ 1 ≤ ia 18 (ia 17 1 * 8) ∧ ia 18 (ia 17 1 * 8) ≤ ia 3 0
theorem eX3_note_z {G : zG} {ia : Nat → Int → Int} {w : (Nat → Int → Int) × (Nat → Int → Int)} (hk : 0 ≤ ia 17 1 ∧ ia 17 1 ≤ 8) : Ev G mX3_note 0 [(1, 17), (1, 2)] [] (zH ia w) (.inl none, zH (zNo ia) w, 0, 0) := eX3_note hk
theorem eX3_takeBack_z {G : zG} {ia : Nat → Int → Int} {w : (Nat → Int → Int) × (Nat → Int → Int)} (h : zTb ia) : Ev G mX3_takeBack 0 [(1, 17), (1, 2)] [] (zH ia w) (.inl none, zH (zBa ia) w, 0, 0) := eX3_takeBack h.1 h.2.1 h.2.2
theorem eX3_keep_z {G : zG} {ia : Nat → Int → Int} {w : (Nat → Int → Int) × (Nat → Int → Int)} (hk : 0 ≤ ia 17 1 ∧ ia 17 1 ≤ 8) : Ev G mX3_keep 0 [(1, 17)] [] (zH ia w) (.inl none, zH (zKe ia) w, 0, 0) := by
  unfold zKe
  by_cases h : ia 17 1 < 8
  · rw [if_pos h]
    exact eX3_keep_lt ⟨hk.1, h⟩
  · rw [if_neg h]
    exact eX3_keep_ge (by omega)
theorem eX7_settled_x {G : zG} {ia : Nat → Int → Int} {w : (Nat → Int → Int) × (Nat → Int → Int)}  (ht : zTb ia) : Ev G mX7_settled 0 [(1, 0), (0, (-1))] [] (zH ia w) (.inr "java/lang/UnsupportedOperationException", zH (zBa ia) w, 1, 6) := by
  refine Ev.iload_n fX7_settled_0 rfl ?_
  refine Ev.iconst fX7_settled_1 ?_
  refine Ev.icmp_ne fX7_settled_2 rfl (by decide) (by decide) (fun h2 => by exfalso; revert h2; decide) (fun h2 => ?_)
  refine Ev.aload_n_1 fX7_settled_5 rfl ?_
  refine Ev.gR 0 6 17 fX7_settled_6 (flX7_44 rfl) rfl rfl rfl ?_
  refine Ev.aload_n_1 fX7_settled_9 rfl ?_
  refine Ev.gR 0 2 2 fX7_settled_10 (flX7_25 rfl) rfl rfl rfl ?_
  refine Ev.cVv 17 [(1, 2)] [] fX7_settled_13 lkX7_settled_303 3 TX3 2 rfl rfl rfl (eX3_takeBack_z ht) ?_
  exact Ev.throwW (pc9 := 0) 0 (thX7_314_318 rfl) fX7_settled_16 fX7_settled_19 fX7_settled_20 fX7_settled_23 fX7_settled_26 rfl rfl (by decide) (by decide)
theorem eX7_settled_0 {G : zG} {ia : Nat → Int → Int} {w : (Nat → Int → Int) × (Nat → Int → Int)} {r : Int} (hk : 0 ≤ ia 17 1 ∧ ia 17 1 ≤ 8) (hr : 0 ≤ r ∧ r ≤ 2147483647) : Ev G mX7_settled 0 [(1, 0), (0, r)] [] (zH ia w) (.inl (some (0, r)), zH (zKe ia) w, 0, 0) := by
  refine Ev.iload_n fX7_settled_0 rfl ?_
  refine Ev.iconst fX7_settled_1 ?_
  refine Ev.icmp_ne fX7_settled_2 rfl ⟨by omega, by omega⟩ (by decide) (fun h2 => ?_) (fun h2 => by exfalso; omega)
  refine Ev.aload_n_1 fX7_settled_27 rfl ?_
  refine Ev.gR 0 6 17 fX7_settled_28 (flX7_44 rfl) rfl rfl rfl ?_
  refine Ev.cVv 17 [] [] fX7_settled_31 lkX7_settled_319 3 TX3 2 rfl rfl rfl (eX3_keep_z hk) ?_
  refine Ev.iload_n fX7_settled_34 rfl ?_
  exact Ev.zI fX7_settled_35 rfl rfl
theorem eX7_write_x {G : zG} {ia ja : Nat → Int → Int} {w : (Nat → Int → Int) × (Nat → Int → Int)} {h line amount : Int} (hk : 0 ≤ ia 17 1 ∧ ia 17 1 ≤ 8) (hE : Ev G mX1_enter 0 [(1, 1), (0, h), (0, line), (0, amount), (9, 0)] [] (zH (zNo ia) w) (.inl (some (0, (-1))), zH ja w, 0, 0)) (ht : zTb ja) : Ev G mX7_write 0 [(1, 0), (0, h), (0, line), (0, amount)] [] (zH ia w) (.inr "java/lang/UnsupportedOperationException", zH (zBa ja) w, 1, 6) := by
  refine Ev.aload_n_1 fX7_write_0 rfl ?_
  refine Ev.gR 0 6 17 fX7_write_1 (flX7_44 rfl) rfl rfl rfl ?_
  refine Ev.aload_n_1 fX7_write_4 rfl ?_
  refine Ev.gR 0 2 2 fX7_write_5 (flX7_25 rfl) rfl rfl rfl ?_
  refine Ev.cVv 17 [(1, 2)] [] fX7_write_8 lkX7_write_66 3 TX3 2 rfl rfl rfl (eX3_note_z hk) ?_
  refine Ev.aload_n_1 fX7_write_11 rfl ?_
  refine Ev.aload_n_1 fX7_write_12 rfl ?_
  refine Ev.gR 0 0 1 fX7_write_13 (flX7_10 rfl) rfl rfl rfl ?_
  refine Ev.iload_n fX7_write_16 rfl ?_
  refine Ev.iload_n fX7_write_17 rfl ?_
  refine Ev.iload_n fX7_write_18 rfl ?_
  refine Ev.cVi 1 [(0, h), (0, line), (0, amount)] [(1, 0)] fX7_write_19 lkX7_write_70 1 TX1 3 rfl rfl rfl hE ?_
  exact Ev.xV 0 [(0, (-1))] [] fX7_write_22 lkX7_write_74 7 TX7 10 rfl rfl rfl rfl (eX7_settled_x ht)
theorem eX7_write_0 {G : zG} {ia ja : Nat → Int → Int} {w : (Nat → Int → Int) × (Nat → Int → Int)} {h line amount r : Int} (hk : 0 ≤ ia 17 1 ∧ ia 17 1 ≤ 8) (hE : Ev G mX1_enter 0 [(1, 1), (0, h), (0, line), (0, amount), (9, 0)] [] (zH (zNo ia) w) (.inl (some (0, r)), zH ja w, 0, 0)) (hj : 0 ≤ ja 17 1 ∧ ja 17 1 ≤ 8) (hr : 0 ≤ r ∧ r ≤ 2147483647) : Ev G mX7_write 0 [(1, 0), (0, h), (0, line), (0, amount)] [] (zH ia w) (.inl (some (0, r)), zH (zKe ja) w, 0, 0) := by
  refine Ev.aload_n_1 fX7_write_0 rfl ?_
  refine Ev.gR 0 6 17 fX7_write_1 (flX7_44 rfl) rfl rfl rfl ?_
  refine Ev.aload_n_1 fX7_write_4 rfl ?_
  refine Ev.gR 0 2 2 fX7_write_5 (flX7_25 rfl) rfl rfl rfl ?_
  refine Ev.cVv 17 [(1, 2)] [] fX7_write_8 lkX7_write_66 3 TX3 2 rfl rfl rfl (eX3_note_z hk) ?_
  refine Ev.aload_n_1 fX7_write_11 rfl ?_
  refine Ev.aload_n_1 fX7_write_12 rfl ?_
  refine Ev.gR 0 0 1 fX7_write_13 (flX7_10 rfl) rfl rfl rfl ?_
  refine Ev.iload_n fX7_write_16 rfl ?_
  refine Ev.iload_n fX7_write_17 rfl ?_
  refine Ev.iload_n fX7_write_18 rfl ?_
  refine Ev.cVi 1 [(0, h), (0, line), (0, amount)] [(1, 0)] fX7_write_19 lkX7_write_70 1 TX1 3 rfl rfl rfl hE ?_
  refine Ev.cVi 0 [(0, r)] [] fX7_write_22 lkX7_write_74 7 TX7 10 rfl rfl rfl (eX7_settled_0 hj hr) ?_
  exact Ev.zI fX7_write_25 rfl rfl
theorem eX7_graft_x {G : zG} {ia ja : Nat → Int → Int} {w : (Nat → Int → Int) × (Nat → Int → Int)} {h v first last : Int} (hk : 0 ≤ ia 17 1 ∧ ia 17 1 ≤ 8) (hE : Ev G mX1_copyLines 0 [(1, 1), (0, h), (0, v), (0, first), (0, last), (9, 0)] [] (zH (zNo ia) w) (.inl (some (0, (-1))), zH ja w, 0, 0)) (ht : zTb ja) : Ev G mX7_graft 0 [(1, 0), (0, h), (0, v), (0, first), (0, last)] [] (zH ia w) (.inr "java/lang/UnsupportedOperationException", zH (zBa ja) w, 1, 6) := by
  refine Ev.aload_n_1 fX7_graft_0 rfl ?_
  refine Ev.gR 0 6 17 fX7_graft_1 (flX7_44 rfl) rfl rfl rfl ?_
  refine Ev.aload_n_1 fX7_graft_4 rfl ?_
  refine Ev.gR 0 2 2 fX7_graft_5 (flX7_25 rfl) rfl rfl rfl ?_
  refine Ev.cVv 17 [(1, 2)] [] fX7_graft_8 lkX7_graft_66 3 TX3 2 rfl rfl rfl (eX3_note_z hk) ?_
  refine Ev.aload_n_1 fX7_graft_11 rfl ?_
  refine Ev.aload_n_1 fX7_graft_12 rfl ?_
  refine Ev.gR 0 0 1 fX7_graft_13 (flX7_10 rfl) rfl rfl rfl ?_
  refine Ev.iload_n fX7_graft_16 rfl ?_
  refine Ev.iload_n fX7_graft_17 rfl ?_
  refine Ev.iload_n fX7_graft_18 rfl ?_
  refine Ev.iload fX7_graft_19 rfl ?_
  refine Ev.cVi 1 [(0, h), (0, v), (0, first), (0, last)] [(1, 0)] fX7_graft_21 lkX7_graft_78 1 TX1 3 rfl rfl rfl hE ?_
  exact Ev.xV 0 [(0, (-1))] [] fX7_graft_24 lkX7_graft_74 7 TX7 10 rfl rfl rfl rfl (eX7_settled_x ht)
theorem eX7_graft_0 {G : zG} {ia ja : Nat → Int → Int} {w : (Nat → Int → Int) × (Nat → Int → Int)} {h v first last r : Int} (hk : 0 ≤ ia 17 1 ∧ ia 17 1 ≤ 8) (hE : Ev G mX1_copyLines 0 [(1, 1), (0, h), (0, v), (0, first), (0, last), (9, 0)] [] (zH (zNo ia) w) (.inl (some (0, r)), zH ja w, 0, 0)) (hj : 0 ≤ ja 17 1 ∧ ja 17 1 ≤ 8) (hr : 0 ≤ r ∧ r ≤ 2147483647) : Ev G mX7_graft 0 [(1, 0), (0, h), (0, v), (0, first), (0, last)] [] (zH ia w) (.inl (some (0, r)), zH (zKe ja) w, 0, 0) := by
  refine Ev.aload_n_1 fX7_graft_0 rfl ?_
  refine Ev.gR 0 6 17 fX7_graft_1 (flX7_44 rfl) rfl rfl rfl ?_
  refine Ev.aload_n_1 fX7_graft_4 rfl ?_
  refine Ev.gR 0 2 2 fX7_graft_5 (flX7_25 rfl) rfl rfl rfl ?_
  refine Ev.cVv 17 [(1, 2)] [] fX7_graft_8 lkX7_graft_66 3 TX3 2 rfl rfl rfl (eX3_note_z hk) ?_
  refine Ev.aload_n_1 fX7_graft_11 rfl ?_
  refine Ev.aload_n_1 fX7_graft_12 rfl ?_
  refine Ev.gR 0 0 1 fX7_graft_13 (flX7_10 rfl) rfl rfl rfl ?_
  refine Ev.iload_n fX7_graft_16 rfl ?_
  refine Ev.iload_n fX7_graft_17 rfl ?_
  refine Ev.iload_n fX7_graft_18 rfl ?_
  refine Ev.iload fX7_graft_19 rfl ?_
  refine Ev.cVi 1 [(0, h), (0, v), (0, first), (0, last)] [(1, 0)] fX7_graft_21 lkX7_graft_78 1 TX1 3 rfl rfl rfl hE ?_
  refine Ev.cVi 0 [(0, r)] [] fX7_graft_24 lkX7_graft_74 7 TX7 10 rfl rfl rfl (eX7_settled_0 hj hr) ?_
  exact Ev.zI fX7_graft_27 rfl rfl
theorem eX7_fork_x {G : zG} {ia ja : Nat → Int → Int} {w : (Nat → Int → Int) × (Nat → Int → Int)} {h g : Int} (hk : 0 ≤ ia 17 1 ∧ ia 17 1 ≤ 8) (hE : Ev G mX1_takeOver 0 [(1, 1), (0, h), (0, g), (9, 0)] [] (zH (zNo ia) w) (.inl (some (0, (-1))), zH ja w, 0, 0)) (ht : zTb ja) : Ev G mX7_fork 0 [(1, 0), (0, h), (0, g)] [] (zH ia w) (.inr "java/lang/UnsupportedOperationException", zH (zBa ja) w, 1, 6) := by
  refine Ev.aload_n_1 fX7_fork_0 rfl ?_
  refine Ev.gR 0 6 17 fX7_fork_1 (flX7_44 rfl) rfl rfl rfl ?_
  refine Ev.aload_n_1 fX7_fork_4 rfl ?_
  refine Ev.gR 0 2 2 fX7_fork_5 (flX7_25 rfl) rfl rfl rfl ?_
  refine Ev.cVv 17 [(1, 2)] [] fX7_fork_8 lkX7_fork_66 3 TX3 2 rfl rfl rfl (eX3_note_z hk) ?_
  refine Ev.aload_n_1 fX7_fork_11 rfl ?_
  refine Ev.aload_n_1 fX7_fork_12 rfl ?_
  refine Ev.gR 0 0 1 fX7_fork_13 (flX7_10 rfl) rfl rfl rfl ?_
  refine Ev.iload_n fX7_fork_16 rfl ?_
  refine Ev.iload_n fX7_fork_17 rfl ?_
  refine Ev.cVi 1 [(0, h), (0, g)] [(1, 0)] fX7_fork_18 lkX7_fork_82 1 TX1 3 rfl rfl rfl hE ?_
  exact Ev.xV 0 [(0, (-1))] [] fX7_fork_21 lkX7_fork_74 7 TX7 10 rfl rfl rfl rfl (eX7_settled_x ht)
theorem eX7_fork_0 {G : zG} {ia ja : Nat → Int → Int} {w : (Nat → Int → Int) × (Nat → Int → Int)} {h g r : Int} (hk : 0 ≤ ia 17 1 ∧ ia 17 1 ≤ 8) (hE : Ev G mX1_takeOver 0 [(1, 1), (0, h), (0, g), (9, 0)] [] (zH (zNo ia) w) (.inl (some (0, r)), zH ja w, 0, 0)) (hj : 0 ≤ ja 17 1 ∧ ja 17 1 ≤ 8) (hr : 0 ≤ r ∧ r ≤ 2147483647) : Ev G mX7_fork 0 [(1, 0), (0, h), (0, g)] [] (zH ia w) (.inl (some (0, r)), zH (zKe ja) w, 0, 0) := by
  refine Ev.aload_n_1 fX7_fork_0 rfl ?_
  refine Ev.gR 0 6 17 fX7_fork_1 (flX7_44 rfl) rfl rfl rfl ?_
  refine Ev.aload_n_1 fX7_fork_4 rfl ?_
  refine Ev.gR 0 2 2 fX7_fork_5 (flX7_25 rfl) rfl rfl rfl ?_
  refine Ev.cVv 17 [(1, 2)] [] fX7_fork_8 lkX7_fork_66 3 TX3 2 rfl rfl rfl (eX3_note_z hk) ?_
  refine Ev.aload_n_1 fX7_fork_11 rfl ?_
  refine Ev.aload_n_1 fX7_fork_12 rfl ?_
  refine Ev.gR 0 0 1 fX7_fork_13 (flX7_10 rfl) rfl rfl rfl ?_
  refine Ev.iload_n fX7_fork_16 rfl ?_
  refine Ev.iload_n fX7_fork_17 rfl ?_
  refine Ev.cVi 1 [(0, h), (0, g)] [(1, 0)] fX7_fork_18 lkX7_fork_82 1 TX1 3 rfl rfl rfl hE ?_
  refine Ev.cVi 0 [(0, r)] [] fX7_fork_21 lkX7_fork_74 7 TX7 10 rfl rfl rfl (eX7_settled_0 hj hr) ?_
  exact Ev.zI fX7_fork_24 rfl rfl
theorem eX7_back_x {G : zG} {ia ja : Nat → Int → Int} {w : (Nat → Int → Int) × (Nat → Int → Int)} {h m : Int} (hk : 0 ≤ ia 17 1 ∧ ia 17 1 ≤ 8) (hE : Ev G mX1_goBack 0 [(1, 1), (0, h), (0, m), (9, 0), (9, 0)] [] (zH (zNo ia) w) (.inl (some (0, (-1))), zH ja w, 0, 0)) (ht : zTb ja) : Ev G mX7_back 0 [(1, 0), (0, h), (0, m)] [] (zH ia w) (.inr "java/lang/UnsupportedOperationException", zH (zBa ja) w, 1, 6) := by
  refine Ev.aload_n_1 fX7_back_0 rfl ?_
  refine Ev.gR 0 6 17 fX7_back_1 (flX7_44 rfl) rfl rfl rfl ?_
  refine Ev.aload_n_1 fX7_back_4 rfl ?_
  refine Ev.gR 0 2 2 fX7_back_5 (flX7_25 rfl) rfl rfl rfl ?_
  refine Ev.cVv 17 [(1, 2)] [] fX7_back_8 lkX7_back_66 3 TX3 2 rfl rfl rfl (eX3_note_z hk) ?_
  refine Ev.aload_n_1 fX7_back_11 rfl ?_
  refine Ev.aload_n_1 fX7_back_12 rfl ?_
  refine Ev.gR 0 0 1 fX7_back_13 (flX7_10 rfl) rfl rfl rfl ?_
  refine Ev.iload_n fX7_back_16 rfl ?_
  refine Ev.iload_n fX7_back_17 rfl ?_
  refine Ev.cVi 1 [(0, h), (0, m)] [(1, 0)] fX7_back_18 lkX7_back_86 1 TX1 3 rfl rfl rfl hE ?_
  exact Ev.xV 0 [(0, (-1))] [] fX7_back_21 lkX7_back_74 7 TX7 10 rfl rfl rfl rfl (eX7_settled_x ht)
theorem eX7_back_0 {G : zG} {ia ja : Nat → Int → Int} {w : (Nat → Int → Int) × (Nat → Int → Int)} {h m r : Int} (hk : 0 ≤ ia 17 1 ∧ ia 17 1 ≤ 8) (hE : Ev G mX1_goBack 0 [(1, 1), (0, h), (0, m), (9, 0), (9, 0)] [] (zH (zNo ia) w) (.inl (some (0, r)), zH ja w, 0, 0)) (hj : 0 ≤ ja 17 1 ∧ ja 17 1 ≤ 8) (hr : 0 ≤ r ∧ r ≤ 2147483647) : Ev G mX7_back 0 [(1, 0), (0, h), (0, m)] [] (zH ia w) (.inl (some (0, r)), zH (zKe ja) w, 0, 0) := by
  refine Ev.aload_n_1 fX7_back_0 rfl ?_
  refine Ev.gR 0 6 17 fX7_back_1 (flX7_44 rfl) rfl rfl rfl ?_
  refine Ev.aload_n_1 fX7_back_4 rfl ?_
  refine Ev.gR 0 2 2 fX7_back_5 (flX7_25 rfl) rfl rfl rfl ?_
  refine Ev.cVv 17 [(1, 2)] [] fX7_back_8 lkX7_back_66 3 TX3 2 rfl rfl rfl (eX3_note_z hk) ?_
  refine Ev.aload_n_1 fX7_back_11 rfl ?_
  refine Ev.aload_n_1 fX7_back_12 rfl ?_
  refine Ev.gR 0 0 1 fX7_back_13 (flX7_10 rfl) rfl rfl rfl ?_
  refine Ev.iload_n fX7_back_16 rfl ?_
  refine Ev.iload_n fX7_back_17 rfl ?_
  refine Ev.cVi 1 [(0, h), (0, m)] [(1, 0)] fX7_back_18 lkX7_back_86 1 TX1 3 rfl rfl rfl hE ?_
  refine Ev.cVi 0 [(0, r)] [] fX7_back_21 lkX7_back_74 7 TX7 10 rfl rfl rfl (eX7_settled_0 hj hr) ?_
  exact Ev.zI fX7_back_24 rfl rfl
theorem eX7_pass_x {G : zG} {ia ja : Nat → Int → Int} {w : (Nat → Int → Int) × (Nat → Int → Int)} {y : Int} (hk : 0 ≤ ia 17 1 ∧ ia 17 1 ≤ 8) (hE : Ev G mX1_letGoBy 0 [(1, 1), (0, y)] [] (zH (zNo ia) w) (.inl (some (0, (-1))), zH ja w, 0, 0)) (ht : zTb ja) : Ev G mX7_pass 0 [(1, 0), (0, y)] [] (zH ia w) (.inr "java/lang/UnsupportedOperationException", zH (zBa ja) w, 1, 6) := by
  refine Ev.aload_n_1 fX7_pass_0 rfl ?_
  refine Ev.gR 0 6 17 fX7_pass_1 (flX7_44 rfl) rfl rfl rfl ?_
  refine Ev.aload_n_1 fX7_pass_4 rfl ?_
  refine Ev.gR 0 2 2 fX7_pass_5 (flX7_25 rfl) rfl rfl rfl ?_
  refine Ev.cVv 17 [(1, 2)] [] fX7_pass_8 lkX7_pass_66 3 TX3 2 rfl rfl rfl (eX3_note_z hk) ?_
  refine Ev.aload_n_1 fX7_pass_11 rfl ?_
  refine Ev.aload_n_1 fX7_pass_12 rfl ?_
  refine Ev.gR 0 0 1 fX7_pass_13 (flX7_10 rfl) rfl rfl rfl ?_
  refine Ev.iload_n fX7_pass_16 rfl ?_
  refine Ev.cVi 1 [(0, y)] [(1, 0)] fX7_pass_17 lkX7_pass_89 1 TX1 3 rfl rfl rfl hE ?_
  exact Ev.xV 0 [(0, (-1))] [] fX7_pass_20 lkX7_pass_74 7 TX7 10 rfl rfl rfl rfl (eX7_settled_x ht)
theorem eX7_pass_0 {G : zG} {ia ja : Nat → Int → Int} {w : (Nat → Int → Int) × (Nat → Int → Int)} {y r : Int} (hk : 0 ≤ ia 17 1 ∧ ia 17 1 ≤ 8) (hE : Ev G mX1_letGoBy 0 [(1, 1), (0, y)] [] (zH (zNo ia) w) (.inl (some (0, r)), zH ja w, 0, 0)) (hj : 0 ≤ ja 17 1 ∧ ja 17 1 ≤ 8) (hr : 0 ≤ r ∧ r ≤ 2147483647) : Ev G mX7_pass 0 [(1, 0), (0, y)] [] (zH ia w) (.inl (some (0, r)), zH (zKe ja) w, 0, 0) := by
  refine Ev.aload_n_1 fX7_pass_0 rfl ?_
  refine Ev.gR 0 6 17 fX7_pass_1 (flX7_44 rfl) rfl rfl rfl ?_
  refine Ev.aload_n_1 fX7_pass_4 rfl ?_
  refine Ev.gR 0 2 2 fX7_pass_5 (flX7_25 rfl) rfl rfl rfl ?_
  refine Ev.cVv 17 [(1, 2)] [] fX7_pass_8 lkX7_pass_66 3 TX3 2 rfl rfl rfl (eX3_note_z hk) ?_
  refine Ev.aload_n_1 fX7_pass_11 rfl ?_
  refine Ev.aload_n_1 fX7_pass_12 rfl ?_
  refine Ev.gR 0 0 1 fX7_pass_13 (flX7_10 rfl) rfl rfl rfl ?_
  refine Ev.iload_n fX7_pass_16 rfl ?_
  refine Ev.cVi 1 [(0, y)] [(1, 0)] fX7_pass_17 lkX7_pass_89 1 TX1 3 rfl rfl rfl hE ?_
  refine Ev.cVi 0 [(0, r)] [] fX7_pass_20 lkX7_pass_74 7 TX7 10 rfl rfl rfl (eX7_settled_0 hj hr) ?_
  exact Ev.zI fX7_pass_23 rfl rfl
theorem eX7_append_x0 {G : zG} {ia : Nat → Int → Int} {w : (Nat → Int → Int) × (Nat → Int → Int)} {c : Int} (hl : ia 19 1 = 60) : Ev G mX7_append 0 [(1, 0), (0, c)] [] (zH ia w) (.inr "java/lang/IllegalStateException", zH ia w, 1, 6) := by
  refine Ev.aload_n_1 fX7_append_0 rfl ?_
  refine Ev.gR 0 7 19 fX7_append_1 (flX7_51 rfl) rfl rfl rfl ?_
  refine Ev.cVi 19 [] [] fX7_append_4 lkX7_append_203 2 TX2 5 rfl rfl rfl (eX2_isFull_t hl) ?_
  refine Ev.if_eq fX7_append_7 rfl (by decide) (fun h7 => by exfalso; revert h7; decide) (fun h7 => ?_)
  exact Ev.throw (pc9 := 0) 10 (thX7_207_211 rfl) fX7_append_10 fX7_append_13 fX7_append_14 fX7_append_16 fX7_append_19 rfl rfl (by decide) (by decide)
theorem eX7_append_0 {G : zG} {ia : Nat → Int → Int} {w : (Nat → Int → Int) × (Nat → Int → Int)} {c : Int} (hl : 0 ≤ ia 19 1 ∧ ia 19 1 < 60) (hc : 0 ≤ c ∧ c ≤ 65535) : Ev G mX7_append 0 [(1, 0), (0, c)] [] (zH ia w) (.inl (some (0, ((ia 19 1) + 1))), zH (zu (zu ia 20 (ia 19 1) c) 19 1 ((ia 19 1) + 1)) w, 0, 0) := by
  refine Ev.aload_n_1 fX7_append_0 rfl ?_
  refine Ev.gR 0 7 19 fX7_append_1 (flX7_51 rfl) rfl rfl rfl ?_
  refine Ev.cVi 19 [] [] fX7_append_4 lkX7_append_203 2 TX2 5 rfl rfl rfl (eX2_isFull_f hl) ?_
  refine Ev.if_eq fX7_append_7 rfl (by decide) (fun h7 => ?_) (fun h7 => by exfalso; revert h7; decide)
  refine Ev.aload_n_1 fX7_append_20 rfl ?_
  refine Ev.gR 0 7 19 fX7_append_21 (flX7_51 rfl) rfl rfl rfl ?_
  refine Ev.iload_n fX7_append_24 rfl ?_
  refine Ev.cVv 19 [(0, c)] [] fX7_append_25 lkX7_append_212 2 TX2 5 rfl rfl rfl (eX2_put hl hc) ?_
  refine Ev.aload_n_1 fX7_append_28 rfl ?_
  refine Ev.gR 0 7 19 fX7_append_29 (flX7_51 rfl) rfl rfl rfl ?_
  refine Ev.cVi 19 [] [] fX7_append_32 lkX7_append_216 2 TX2 5 rfl rfl rfl eX2_size ?_
  exact Ev.zI fX7_append_35 rfl rfl
theorem eX7_faultPosition {G : zG} {ia : Nat → Int → Int} {w : (Nat → Int → Int) × (Nat → Int → Int)}   : Ev G mX7_faultPosition 0 [(1, 0)] [] (zH ia w) (.inl (some (0, (ia 0 8))), zH ia w, 0, 0) := by
  refine Ev.aload_n_1 fX7_faultPosition_0 rfl ?_
  refine Ev.gI 0 8 (v := (ia 0 8)) fX7_faultPosition_1 (flX7_55 rfl) rfl rfl rfl ?_
  exact Ev.zI fX7_faultPosition_4 rfl rfl
theorem eX7_reason_x0 {G : zG} {ia : Nat → Int → Int} {w : (Nat → Int → Int) × (Nat → Int → Int)} {k : Int} (hrk : -2147483648 ≤ k ∧ k ≤ 2147483647) (hx : ¬ (0 ≤ k ∧ k ≤ 2)) : Ev G mX7_reason 0 [(1, 0), (0, k)] [] (zH ia w) (.inr "java/lang/IllegalArgumentException", zH ia w, 1, 6) := by
  refine Ev.iload_n fX7_reason_0 rfl ?_
  refine Ev.if_lt fX7_reason_1 rfl ⟨by omega, by omega⟩ (fun h1 => ?_) (fun h1 => ?_)
  · exact Ev.throw (pc9 := 0) 18 (thX7_151_155 rfl) fX7_reason_9 fX7_reason_12 fX7_reason_13 fX7_reason_15 fX7_reason_18 rfl rfl (by decide) (by decide)
  · refine Ev.iload_n fX7_reason_4 rfl ?_
    refine Ev.iconst fX7_reason_5 ?_
    refine Ev.icmp_le fX7_reason_6 rfl ⟨by omega, by omega⟩ (by decide) (fun h6 => by exfalso; omega) (fun h6 => ?_)
    exact Ev.throw (pc9 := 0) 18 (thX7_151_155 rfl) fX7_reason_9 fX7_reason_12 fX7_reason_13 fX7_reason_15 fX7_reason_18 rfl rfl (by decide) (by decide)
theorem eX7_reason_x1 {G : zG} {ia : Nat → Int → Int} {w : (Nat → Int → Int) × (Nat → Int → Int)} {k : Int} (hk : 0 ≤ k ∧ k ≤ 2) (hx : ia 9 0 = 0) : Ev G mX7_reason 0 [(1, 0), (0, k)] [] (zH ia w) (.inr "java/util/NoSuchElementException", zH ia w, 1, 6) := by
  refine Ev.iload_n fX7_reason_0 rfl ?_
  refine Ev.if_lt fX7_reason_1 rfl ⟨by omega, by omega⟩ (fun h1 => by exfalso; omega) (fun h1 => ?_)
  refine Ev.iload_n fX7_reason_4 rfl ?_
  refine Ev.iconst fX7_reason_5 ?_
  refine Ev.icmp_le fX7_reason_6 rfl ⟨by omega, by omega⟩ (by decide) (fun h6 => ?_) (fun h6 => by exfalso; omega)
  refine Ev.aload_n_1 fX7_reason_19 rfl ?_
  refine Ev.gR 0 1 9 fX7_reason_20 (flX7_20 rfl) rfl rfl rfl ?_
  refine Ev.gI 9 0 (v := (ia 9 0)) fX7_reason_23 (flX7_246 rfl) rfl rfl rfl ?_
  refine Ev.if_ne fX7_reason_26 rfl ⟨by omega, by omega⟩ (fun h26 => by exfalso; omega) (fun h26 => ?_)
  exact Ev.throwX (pc9 := 0) 19 (thX7_123_127 rfl) fX7_reason_29 fX7_reason_32 fX7_reason_33 fX7_reason_35 fX7_reason_38 rfl rfl (by decide) (by decide)
theorem eX7_reason_0 {G : zG} {ia : Nat → Int → Int} {w : (Nat → Int → Int) × (Nat → Int → Int)}  (hx : 1 ≤ ia 9 0 ∧ ia 9 0 ≤ 8) : Ev G mX7_reason 0 [(1, 0), (0, 0)] [] (zH ia w) (.inl (some (0, (ia 9 0))), zH ia w, 0, 0) := by
  refine Ev.iload_n fX7_reason_0 rfl ?_
  refine Ev.if_lt fX7_reason_1 rfl (by decide) (fun h1 => by exfalso; revert h1; decide) (fun h1 => ?_)
  refine Ev.iload_n fX7_reason_4 rfl ?_
  refine Ev.iconst fX7_reason_5 ?_
  refine Ev.icmp_le fX7_reason_6 rfl (by decide) (by decide) (fun h6 => ?_) (fun h6 => by exfalso; revert h6; decide)
  refine Ev.aload_n_1 fX7_reason_19 rfl ?_
  refine Ev.gR 0 1 9 fX7_reason_20 (flX7_20 rfl) rfl rfl rfl ?_
  refine Ev.gI 9 0 (v := (ia 9 0)) fX7_reason_23 (flX7_246 rfl) rfl rfl rfl ?_
  refine Ev.if_ne fX7_reason_26 rfl ⟨by omega, by omega⟩ (fun h26 => ?_) (fun h26 => by exfalso; omega)
  refine Ev.iload_n fX7_reason_39 rfl ?_
  refine Ev.if_ne fX7_reason_40 rfl (by decide) (fun h40 => by exfalso; revert h40; decide) (fun h40 => ?_)
  refine Ev.aload_n_1 fX7_reason_43 rfl ?_
  refine Ev.gR 0 1 9 fX7_reason_44 (flX7_20 rfl) rfl rfl rfl ?_
  refine Ev.gI 9 0 (v := (ia 9 0)) fX7_reason_47 (flX7_246 rfl) rfl rfl rfl ?_
  exact Ev.zI fX7_reason_50 rfl rfl
theorem eX7_reason_1 {G : zG} {ia : Nat → Int → Int} {w : (Nat → Int → Int) × (Nat → Int → Int)}  (hx : 1 ≤ ia 9 0 ∧ ia 9 0 ≤ 8) : Ev G mX7_reason 0 [(1, 0), (0, 1)] [] (zH ia w) (.inl (some (0, (ia 9 1))), zH ia w, 0, 0) := by
  refine Ev.iload_n fX7_reason_0 rfl ?_
  refine Ev.if_lt fX7_reason_1 rfl (by decide) (fun h1 => by exfalso; revert h1; decide) (fun h1 => ?_)
  refine Ev.iload_n fX7_reason_4 rfl ?_
  refine Ev.iconst fX7_reason_5 ?_
  refine Ev.icmp_le fX7_reason_6 rfl (by decide) (by decide) (fun h6 => ?_) (fun h6 => by exfalso; revert h6; decide)
  refine Ev.aload_n_1 fX7_reason_19 rfl ?_
  refine Ev.gR 0 1 9 fX7_reason_20 (flX7_20 rfl) rfl rfl rfl ?_
  refine Ev.gI 9 0 (v := (ia 9 0)) fX7_reason_23 (flX7_246 rfl) rfl rfl rfl ?_
  refine Ev.if_ne fX7_reason_26 rfl ⟨by omega, by omega⟩ (fun h26 => ?_) (fun h26 => by exfalso; omega)
  refine Ev.iload_n fX7_reason_39 rfl ?_
  refine Ev.if_ne fX7_reason_40 rfl (by decide) (fun h40 => ?_) (fun h40 => by exfalso; revert h40; decide)
  refine Ev.iload_n fX7_reason_51 rfl ?_
  refine Ev.iconst fX7_reason_52 ?_
  refine Ev.icmp_ne fX7_reason_53 rfl (by decide) (by decide) (fun h53 => by exfalso; revert h53; decide) (fun h53 => ?_)
  refine Ev.aload_n_1 fX7_reason_56 rfl ?_
  refine Ev.gR 0 1 9 fX7_reason_57 (flX7_20 rfl) rfl rfl rfl ?_
  refine Ev.gI 9 1 (v := (ia 9 1)) fX7_reason_60 (flX7_251 rfl) rfl rfl rfl ?_
  refine Ev.goto fX7_reason_63 rfl ?_
  exact Ev.zI fX7_reason_73 rfl rfl
theorem eX7_reason_2 {G : zG} {ia : Nat → Int → Int} {w : (Nat → Int → Int) × (Nat → Int → Int)}  (hx : 1 ≤ ia 9 0 ∧ ia 9 0 ≤ 8) : Ev G mX7_reason 0 [(1, 0), (0, 2)] [] (zH ia w) (.inl (some (0, (ia 9 2))), zH ia w, 0, 0) := by
  refine Ev.iload_n fX7_reason_0 rfl ?_
  refine Ev.if_lt fX7_reason_1 rfl (by decide) (fun h1 => by exfalso; revert h1; decide) (fun h1 => ?_)
  refine Ev.iload_n fX7_reason_4 rfl ?_
  refine Ev.iconst fX7_reason_5 ?_
  refine Ev.icmp_le fX7_reason_6 rfl (by decide) (by decide) (fun h6 => ?_) (fun h6 => by exfalso; revert h6; decide)
  refine Ev.aload_n_1 fX7_reason_19 rfl ?_
  refine Ev.gR 0 1 9 fX7_reason_20 (flX7_20 rfl) rfl rfl rfl ?_
  refine Ev.gI 9 0 (v := (ia 9 0)) fX7_reason_23 (flX7_246 rfl) rfl rfl rfl ?_
  refine Ev.if_ne fX7_reason_26 rfl ⟨by omega, by omega⟩ (fun h26 => ?_) (fun h26 => by exfalso; omega)
  refine Ev.iload_n fX7_reason_39 rfl ?_
  refine Ev.if_ne fX7_reason_40 rfl (by decide) (fun h40 => ?_) (fun h40 => by exfalso; revert h40; decide)
  refine Ev.iload_n fX7_reason_51 rfl ?_
  refine Ev.iconst fX7_reason_52 ?_
  refine Ev.icmp_ne fX7_reason_53 rfl (by decide) (by decide) (fun h53 => ?_) (fun h53 => by exfalso; revert h53; decide)
  refine Ev.aload_n_1 fX7_reason_66 rfl ?_
  refine Ev.gR 0 1 9 fX7_reason_67 (flX7_20 rfl) rfl rfl rfl ?_
  refine Ev.gI 9 2 (v := (ia 9 2)) fX7_reason_70 (flX7_235 rfl) rfl rfl rfl ?_
  exact Ev.zI fX7_reason_73 rfl rfl
theorem eX7_account_0 {G : zG} {ia : Nat → Int → Int} {w : (Nat → Int → Int) × (Nat → Int → Int)}  (I : zCI ia) : Ev G mX7_account 0 [(1, 0), (0, 0)] [] (zH ia w) (.inl (some (0, (ia 3 0))), zH ia w, 0, 0) := by
  have hn := I.1
  refine Ev.iload_n fX7_account_0 rfl ?_
  refine Ev.tableIn fX7_account_1 (by decide) (by decide) rfl rfl ?_
  refine Ev.aload_n_1 fX7_account_52 rfl ?_
  refine Ev.gR 0 3 3 fX7_account_53 (flX7_32 rfl) rfl rfl rfl ?_
  refine Ev.cVi 3 [] [] fX7_account_56 lkX7_account_194 6 TX6 5 rfl rfl rfl eX6_size ?_
  exact Ev.zI fX7_account_59 rfl rfl
theorem eX7_account_1 {G : zG} {ia : Nat → Int → Int} {w : (Nat → Int → Int) × (Nat → Int → Int)}  (I : zCI ia) : Ev G mX7_account 0 [(1, 0), (0, 1)] [] (zH ia w) (.inl (some (0, (ia 2 2))), zH ia w, 0, 0) := by
  have hn := I.1
  refine Ev.iload_n fX7_account_0 rfl ?_
  refine Ev.tableIn fX7_account_1 (by decide) (by decide) rfl rfl ?_
  refine Ev.aload_n_1 fX7_account_60 rfl ?_
  refine Ev.gR 0 2 2 fX7_account_61 (flX7_25 rfl) rfl rfl rfl ?_
  refine Ev.gI 2 2 (v := (ia 2 2)) fX7_account_64 (flX7_280 rfl) rfl rfl rfl ?_
  exact Ev.zI fX7_account_67 rfl rfl
theorem eX7_account_2 {G : zG} {ia : Nat → Int → Int} {w : (Nat → Int → Int) × (Nat → Int → Int)}  (I : zCI ia) : Ev G mX7_account 0 [(1, 0), (0, 2)] [] (zH ia w) (.inl (some (0, (zsum (fun v => zsum (fun s => if ia 6 (v * 31 + s) = v then 1 else 0) 31) (ia 3 0)))), zH ia w, 0, 0) := by
  have hn := I.1
  refine Ev.iload_n fX7_account_0 rfl ?_
  refine Ev.tableIn fX7_account_1 (by decide) (by decide) rfl rfl ?_
  refine Ev.aload_n_1 fX7_account_68 rfl ?_
  refine Ev.gR 0 3 3 fX7_account_69 (flX7_32 rfl) rfl rfl rfl ?_
  refine Ev.cVi 3 [] [] fX7_account_72 lkX7_account_277 6 TX6 5 rfl rfl rfl (eX6_pagesMade I) ?_
  exact Ev.zI fX7_account_75 rfl rfl
theorem eX7_account_3 {G : zG} {ia : Nat → Int → Int} {w : (Nat → Int → Int) × (Nat → Int → Int)}  (I : zCI ia) : Ev G mX7_account 0 [(1, 0), (0, 3)] [] (zH ia w) (.inl (some (0, (zsum (fun v => if 0 < zsum (fun h => if ia 8 h = v then 1 else 0) 4 then 1 else 0) (ia 3 0)))), zH ia w, 0, 0) := by
  have hn := I.1
  refine Ev.iload_n fX7_account_0 rfl ?_
  refine Ev.tableIn fX7_account_1 (by decide) (by decide) rfl rfl ?_
  refine Ev.aload_n_1 fX7_account_76 rfl ?_
  refine Ev.gR 0 2 2 fX7_account_77 (flX7_25 rfl) rfl rfl rfl ?_
  refine Ev.cVi 2 [] [] fX7_account_80 lkX7_account_283 0 TX0 5 rfl rfl rfl (eX0_versionsOfHouses I) ?_
  exact Ev.zI fX7_account_83 rfl rfl
theorem eX7_account_4 {G : zG} {ia : Nat → Int → Int} {w : (Nat → Int → Int) × (Nat → Int → Int)}  (I : zCI ia) : Ev G mX7_account 0 [(1, 0), (0, 4)] [] (zH ia w) (.inl (some (0, (zsum (fun v => if zsum (fun j => if 1 ≤ j ∧ ia 4 j = v then 1 else 0) (ia 3 0) = 0 then 1 else 0) (ia 3 0)))), zH ia w, 0, 0) := by
  have hn := I.1
  refine Ev.iload_n fX7_account_0 rfl ?_
  refine Ev.tableIn fX7_account_1 (by decide) (by decide) rfl rfl ?_
  refine Ev.aload_n_1 fX7_account_84 rfl ?_
  refine Ev.gR 0 3 3 fX7_account_85 (flX7_32 rfl) rfl rfl rfl ?_
  refine Ev.cVi 3 [] [] fX7_account_88 lkX7_account_286 6 TX6 5 rfl rfl rfl (eX6_withoutChildren I) ?_
  exact Ev.zI fX7_account_91 rfl rfl
theorem eX7_account_5 {G : zG} {ia : Nat → Int → Int} {w : (Nat → Int → Int) × (Nat → Int → Int)}  (I : zCI ia) : Ev G mX7_account 0 [(1, 0), (0, 5)] [] (zH ia w) (.inl (some (0, (ia 2 3))), zH ia w, 0, 0) := by
  have hn := I.1
  refine Ev.iload_n fX7_account_0 rfl ?_
  refine Ev.tableIn fX7_account_1 (by decide) (by decide) rfl rfl ?_
  refine Ev.aload_n_1 fX7_account_92 rfl ?_
  refine Ev.gR 0 2 2 fX7_account_93 (flX7_25 rfl) rfl rfl rfl ?_
  refine Ev.gI 2 3 (v := (ia 2 3)) fX7_account_96 (flX7_289 rfl) rfl rfl rfl ?_
  exact Ev.zI fX7_account_99 rfl rfl
theorem eX7_account_6 {G : zG} {ia : Nat → Int → Int} {w : (Nat → Int → Int) × (Nat → Int → Int)}  (I : zCI ia) : Ev G mX7_account 0 [(1, 0), (0, 6)] [] (zH ia w) (.inl (some (0, (ia 2 4))), zH ia w, 0, 0) := by
  have hn := I.1
  refine Ev.iload_n fX7_account_0 rfl ?_
  refine Ev.tableIn fX7_account_1 (by decide) (by decide) rfl rfl ?_
  refine Ev.aload_n_1 fX7_account_100 rfl ?_
  refine Ev.gR 0 2 2 fX7_account_101 (flX7_25 rfl) rfl rfl rfl ?_
  refine Ev.gI 2 4 (v := (ia 2 4)) fX7_account_104 (flX7_292 rfl) rfl rfl rfl ?_
  exact Ev.zI fX7_account_107 rfl rfl
theorem eX7_account_7 {G : zG} {ia : Nat → Int → Int} {w : (Nat → Int → Int) × (Nat → Int → Int)}  (I : zCI ia) : Ev G mX7_account 0 [(1, 0), (0, 7)] [] (zH ia w) (.inl (some (0, (ia 17 1))), zH ia w, 0, 0) := by
  have hn := I.1
  refine Ev.iload_n fX7_account_0 rfl ?_
  refine Ev.tableIn fX7_account_1 (by decide) (by decide) rfl rfl ?_
  refine Ev.aload_n_1 fX7_account_108 rfl ?_
  refine Ev.gR 0 6 17 fX7_account_109 (flX7_44 rfl) rfl rfl rfl ?_
  refine Ev.cVi 17 [] [] fX7_account_112 lkX7_account_295 3 TX3 2 rfl rfl rfl eX3_size ?_
  exact Ev.zI fX7_account_115 rfl rfl
theorem eX7_account_8 {G : zG} {ia : Nat → Int → Int} {w : (Nat → Int → Int) × (Nat → Int → Int)}  (I : zCI ia) : Ev G mX7_account 0 [(1, 0), (0, 8)] [] (zH ia w) (.inl (some (0, (ia 19 1))), zH ia w, 0, 0) := by
  have hn := I.1
  refine Ev.iload_n fX7_account_0 rfl ?_
  refine Ev.tableIn fX7_account_1 (by decide) (by decide) rfl rfl ?_
  refine Ev.aload_n_1 fX7_account_116 rfl ?_
  refine Ev.gR 0 7 19 fX7_account_117 (flX7_51 rfl) rfl rfl rfl ?_
  refine Ev.cVi 19 [] [] fX7_account_120 lkX7_account_216 2 TX2 5 rfl rfl rfl eX2_size ?_
  exact Ev.zI fX7_account_123 rfl rfl
theorem eX7_account_x0 {G : zG} {ia : Nat → Int → Int} {w : (Nat → Int → Int) × (Nat → Int → Int)} {k : Int} (hrk : -2147483648 ≤ k ∧ k ≤ 2147483647) (hx : ¬ (0 ≤ k ∧ k ≤ 8)) : Ev G mX7_account 0 [(1, 0), (0, k)] [] (zH ia w) (.inr "java/lang/IllegalArgumentException", zH ia w, 1, 6) := by
  refine Ev.iload_n fX7_account_0 rfl ?_
  refine Ev.tableOut fX7_account_1 ⟨by omega, by omega⟩ (by omega) rfl ?_
  exact Ev.throwW (pc9 := 0) 21 (thX7_151_155 rfl) fX7_account_124 fX7_account_127 fX7_account_128 fX7_account_131 fX7_account_134 rfl rfl (by decide) (by decide)
theorem eX7_undo_x0 {G : zG} {ia : Nat → Int → Int} {w : (Nat → Int → Int) × (Nat → Int → Int)}  (hx : ia 17 1 = 0) : Ev G mX7_undo 0 [(1, 0)] [] (zH ia w) (.inr "java/lang/IllegalStateException", zH ia w, 1, 6) := by
  refine Ev.aload_n_1 fX7_undo_0 rfl ?_
  refine Ev.gR 0 6 17 fX7_undo_1 (flX7_44 rfl) rfl rfl rfl ?_
  refine Ev.cVi 17 [] [] fX7_undo_4 lkX7_undo_295 3 TX3 2 rfl rfl rfl eX3_size ?_
  refine Ev.iconst fX7_undo_7 ?_
  refine Ev.icmp_ge fX7_undo_8 rfl ⟨by omega, by omega⟩ (by decide) (fun h8 => by exfalso; omega) (fun h8 => ?_)
  exact Ev.throwW (pc9 := 0) 22 (thX7_207_211 rfl) fX7_undo_11 fX7_undo_14 fX7_undo_15 fX7_undo_18 fX7_undo_21 rfl rfl (by decide) (by decide)
theorem eX7_undo_0 {G : zG} {ia : Nat → Int → Int} {w : (Nat → Int → Int) × (Nat → Int → Int)}  (hk : 1 ≤ ia 17 1 ∧ ia 17 1 ≤ 8) (ht : zTb (zu ia 17 1 ((ia 17 1) - 1))) : Ev G mX7_undo 0 [(1, 0)] [] (zH ia w) (.inl (some (0, (ia 17 1 - 1))), zH (zBa (zu ia 17 1 ((ia 17 1) - 1))) w, 0, 0) := by
  refine Ev.aload_n_1 fX7_undo_0 rfl ?_
  refine Ev.gR 0 6 17 fX7_undo_1 (flX7_44 rfl) rfl rfl rfl ?_
  refine Ev.cVi 17 [] [] fX7_undo_4 lkX7_undo_295 3 TX3 2 rfl rfl rfl eX3_size ?_
  refine Ev.iconst fX7_undo_7 ?_
  refine Ev.icmp_ge fX7_undo_8 rfl ⟨by omega, by omega⟩ (by decide) (fun h8 => ?_) (fun h8 => by exfalso; omega)
  refine Ev.aload_n_1 fX7_undo_22 rfl ?_
  refine Ev.gR 0 6 17 fX7_undo_23 (flX7_44 rfl) rfl rfl rfl ?_
  refine Ev.cVv 17 [] [] fX7_undo_26 lkX7_undo_300 3 TX3 2 rfl rfl rfl (eX3_dropLatest hk) ?_
  refine Ev.aload_n_1 fX7_undo_29 rfl ?_
  refine Ev.gR 0 6 17 fX7_undo_30 (flX7_44 rfl) rfl rfl rfl ?_
  refine Ev.aload_n_1 fX7_undo_33 rfl ?_
  refine Ev.gR 0 2 2 fX7_undo_34 (flX7_25 rfl) rfl rfl rfl ?_
  refine Ev.cVv 17 [(1, 2)] [] fX7_undo_37 lkX7_undo_303 3 TX3 2 rfl rfl rfl (eX3_takeBack_z ht) ?_
  refine Ev.aload_n_1 fX7_undo_40 rfl ?_
  refine Ev.gR 0 6 17 fX7_undo_41 (flX7_44 rfl) rfl rfl rfl ?_
  have e9 := eX3_size (G := G) (ia := zBa (zu ia 17 1 ((ia 17 1) - 1))) (w := w)
  rw [show (zBa (zu ia 17 1 ((ia 17 1) - 1))) 17 1 = ia 17 1 - 1 from rfl] at e9
  refine Ev.cVi 17 [] [] fX7_undo_44 lkX7_undo_295 3 TX3 2 rfl rfl rfl e9 ?_
  exact Ev.zI fX7_undo_47 rfl rfl
def zSv (ia : Nat → Int → Int) : Nat → Int → Int := (zu (zu (zu (zcp (zcp (zcp (zcp (zcp (zu ia 11 0 (ia 3 0)) 4 0 12 0 40) 5 0 13 0 40) 6 0 14 0 1240) 7 0 15 0 1240) 8 0 16 0 4) 10 2 (ia 2 2)) 10 3 (ia 2 3)) 10 4 (ia 2 4))
def zRs (ia : Nat → Int → Int) : Nat → Int → Int := (zu (zu (zu (zcp (zcp (zcp (zcp (zcp (zu ia 3 0 (ia 11 0)) 12 0 4 0 40) 13 0 5 0 40) 14 0 6 0 1240) 15 0 7 0 1240) 16 0 8 0 4) 2 2 (ia 10 2)) 2 3 (ia 10 3)) 2 4 (ia 10 4))
theorem eX0_save {G : zG} {ia : Nat → Int → Int} {w : (Nat → Int → Int) × (Nat → Int → Int)} : Ev G mX0_copyFrom 0 [(1, 10), (1, 2)] [] (zH ia w) (.inl none, zH (zSv ia) w, 0, 0) := eX0_copyFrom_10
theorem eX0_restore {G : zG} {ia : Nat → Int → Int} {w : (Nat → Int → Int) × (Nat → Int → Int)} : Ev G mX0_copyFrom 0 [(1, 2), (1, 10)] [] (zH ia w) (.inl none, zH (zRs ia) w, 0, 0) := eX0_copyFrom_2
theorem eX7_save {G : zG} {ia : Nat → Int → Int} {w : (Nat → Int → Int) × (Nat → Int → Int)}   : Ev G mX7_save 0 [(1, 0)] [] (zH ia w) (.inl (some (0, (ia 3 0))), zH (zu (zSv ia) 0 5 1) w, 0, 0) := by
  refine Ev.aload_n_1 fX7_save_0 rfl ?_
  refine Ev.gR 0 4 10 fX7_save_1 (flX7_34 rfl) rfl rfl rfl ?_
  refine Ev.aload_n_1 fX7_save_4 rfl ?_
  refine Ev.gR 0 2 2 fX7_save_5 (flX7_25 rfl) rfl rfl rfl ?_
  refine Ev.cVv 10 [(1, 2)] [] fX7_save_8 lkX7_save_306 0 TX0 5 rfl rfl rfl eX0_save ?_
  refine Ev.aload_n_1 fX7_save_11 rfl ?_
  refine Ev.iconst fX7_save_12 ?_
  refine Ev.pI 0 5 fX7_save_13 (flX7_37 rfl) rfl rfl (by first | exact Or.inl rfl | exact Or.inr rfl) ?_
  refine Ev.aload_n_1 fX7_save_16 rfl ?_
  refine Ev.gR 0 3 3 fX7_save_17 (flX7_32 rfl) rfl rfl rfl ?_
  have e9 := eX6_size (G := G) (ia := (zu (zSv ia) 0 5 1)) (w := w)
  rw [show (zu (zSv ia) 0 5 1) 3 0 = ia 3 0 from rfl] at e9
  refine Ev.cVi 3 [] [] fX7_save_20 lkX7_save_194 6 TX6 5 rfl rfl rfl e9 ?_
  exact Ev.zI fX7_save_23 rfl rfl
theorem eX7_restore_x0 {G : zG} {ia : Nat → Int → Int} {w : (Nat → Int → Int) × (Nat → Int → Int)}  (hx : ia 0 5 = 0) : Ev G mX7_restore 0 [(1, 0)] [] (zH ia w) (.inr "java/lang/IllegalStateException", zH ia w, 1, 6) := by
  refine Ev.aload_n_1 fX7_restore_0 rfl ?_
  refine Ev.gI 0 5 (v := (ia 0 5)) fX7_restore_1 (flX7_37 rfl) rfl rfl rfl ?_
  refine Ev.if_ne fX7_restore_4 rfl ⟨by omega, by omega⟩ (fun h4 => by exfalso; omega) (fun h4 => ?_)
  exact Ev.throwW (pc9 := 0) 23 (thX7_207_211 rfl) fX7_restore_7 fX7_restore_10 fX7_restore_11 fX7_restore_14 fX7_restore_17 rfl rfl (by decide) (by decide)
theorem eX7_restore_0 {G : zG} {ia : Nat → Int → Int} {w : (Nat → Int → Int) × (Nat → Int → Int)}  (hx : ia 0 5 = 1) : Ev G mX7_restore 0 [(1, 0)] [] (zH ia w) (.inl (some (0, (ia 11 0))), zH (zu (zRs ia) 17 1 0) w, 0, 0) := by
  refine Ev.aload_n_1 fX7_restore_0 rfl ?_
  refine Ev.gI 0 5 (v := (ia 0 5)) fX7_restore_1 (flX7_37 rfl) rfl rfl rfl ?_
  refine Ev.if_ne fX7_restore_4 rfl ⟨by omega, by omega⟩ (fun h4 => ?_) (fun h4 => by exfalso; omega)
  refine Ev.aload_n_1 fX7_restore_18 rfl ?_
  refine Ev.gR 0 2 2 fX7_restore_19 (flX7_25 rfl) rfl rfl rfl ?_
  refine Ev.aload_n_1 fX7_restore_22 rfl ?_
  refine Ev.gR 0 4 10 fX7_restore_23 (flX7_34 rfl) rfl rfl rfl ?_
  refine Ev.cVv 2 [(1, 10)] [] fX7_restore_26 lkX7_restore_306 0 TX0 5 rfl rfl rfl eX0_restore ?_
  refine Ev.aload_n_1 fX7_restore_29 rfl ?_
  refine Ev.gR 0 6 17 fX7_restore_30 (flX7_44 rfl) rfl rfl rfl ?_
  refine Ev.cVv 17 [] [] fX7_restore_33 lkX7_restore_311 3 TX3 2 rfl rfl rfl eX3_forget ?_
  refine Ev.aload_n_1 fX7_restore_36 rfl ?_
  refine Ev.gR 0 3 3 fX7_restore_37 (flX7_32 rfl) rfl rfl rfl ?_
  have e9 := eX6_size (G := G) (ia := (zu (zRs ia) 17 1 0)) (w := w)
  rw [show (zu (zRs ia) 17 1 0) 3 0 = ia 11 0 from rfl] at e9
  refine Ev.cVi 3 [] [] fX7_restore_40 lkX7_restore_194 6 TX6 5 rfl rfl rfl e9 ?_
  exact Ev.zI fX7_restore_43 rfl rfl
theorem eX7_character_x0 {G : zG} {ia : Nat → Int → Int} {w : (Nat → Int → Int) × (Nat → Int → Int)} {i : Int} (hri : -2147483648 ≤ i ∧ i ≤ 2147483647) (hl : 0 ≤ ia 22 1 ∧ ia 22 1 ≤ 109) (hx : ¬ (0 ≤ i ∧ i < ia 22 1)) : Ev G mX7_character 0 [(1, 0), (0, i)] [] (zH ia w) (.inr "java/lang/IndexOutOfBoundsException", zH ia w, 1, 6) := by
  refine Ev.iload_n fX7_character_0 rfl ?_
  refine Ev.if_lt fX7_character_1 rfl ⟨by omega, by omega⟩ (fun h1 => ?_) (fun h1 => ?_)
  · exact Ev.throwW (pc9 := 0) 20 (thX7_263_267 rfl) fX7_character_15 fX7_character_18 fX7_character_19 fX7_character_22 fX7_character_25 rfl rfl (by decide) (by decide)
  · refine Ev.iload_n fX7_character_4 rfl ?_
    refine Ev.aload_n_1 fX7_character_5 rfl ?_
    refine Ev.gR 0 9 22 fX7_character_6 (flX7_62 rfl) rfl rfl rfl ?_
    refine Ev.cVi 22 [] [(0, i)] fX7_character_9 lkX7_character_262 5 TX5 2 rfl rfl rfl eX5_size ?_
    refine Ev.icmp_lt fX7_character_12 rfl ⟨by omega, by omega⟩ ⟨by omega, by omega⟩ (fun h12 => by exfalso; omega) (fun h12 => ?_)
    exact Ev.throwW (pc9 := 0) 20 (thX7_263_267 rfl) fX7_character_15 fX7_character_18 fX7_character_19 fX7_character_22 fX7_character_25 rfl rfl (by decide) (by decide)
theorem eX7_character_0 {G : zG} {ia : Nat → Int → Int} {w : (Nat → Int → Int) × (Nat → Int → Int)} {i : Int} (hl : ia 22 1 ≤ 109) (hi : 0 ≤ i ∧ i < ia 22 1) (hc : 0 ≤ ia 23 i ∧ ia 23 i ≤ 65535) : Ev G mX7_character 0 [(1, 0), (0, i)] [] (zH ia w) (.inl (some (0, (ia 23 i))), zH ia w, 0, 0) := by
  refine Ev.iload_n fX7_character_0 rfl ?_
  refine Ev.if_lt fX7_character_1 rfl ⟨by omega, by omega⟩ (fun h1 => by exfalso; omega) (fun h1 => ?_)
  refine Ev.iload_n fX7_character_4 rfl ?_
  refine Ev.aload_n_1 fX7_character_5 rfl ?_
  refine Ev.gR 0 9 22 fX7_character_6 (flX7_62 rfl) rfl rfl rfl ?_
  refine Ev.cVi 22 [] [(0, i)] fX7_character_9 lkX7_character_262 5 TX5 2 rfl rfl rfl eX5_size ?_
  refine Ev.icmp_lt fX7_character_12 rfl ⟨by omega, by omega⟩ ⟨by omega, by omega⟩ (fun h12 => ?_) (fun h12 => by exfalso; omega)
  refine Ev.aload_n_1 fX7_character_26 rfl ?_
  refine Ev.gR 0 9 22 fX7_character_27 (flX7_62 rfl) rfl rfl rfl ?_
  refine Ev.iload_n fX7_character_30 rfl ?_
  refine Ev.cVi 22 [(0, i)] [] fX7_character_31 lkX7_character_268 5 TX5 2 rfl rfl rfl (eX5_signAt ⟨hi.1, hi.2, hl⟩ hc) ?_
  exact Ev.zC fX7_character_34 rfl ⟨by omega, by omega⟩ rfl
theorem eX7_mean_x0 {G : zG} {ia : Nat → Int → Int} {w : (Nat → Int → Int) × (Nat → Int → Int)} {v : Int} (I : zCI ia) (hrv : -2147483648 ≤ v ∧ v ≤ 2147483647) (hx : ¬ (0 ≤ v ∧ v < ia 3 0)) : Ev G mX7_mean 0 [(1, 0), (0, v)] [] (zH ia w) (.inr "java/lang/IndexOutOfBoundsException", zH ia w, 1, 6) := by
  have hn := I.1
  refine Ev.aload_n_1 fX7_mean_0 rfl ?_
  refine Ev.iload_n fX7_mean_1 rfl ?_
  exact Ev.xV 0 [(0, v)] [] fX7_mean_2 lkX7_mean_99 7 TX7 10 rfl rfl rfl rfl (eX7_checkVersion_x I ⟨by omega, by omega⟩ (by omega))
theorem eX7_mean_0 {G : zG} {ia : Nat → Int → Int} {w : (Nat → Int → Int) × (Nat → Int → Int)} {v : Int} (I : zCI ia) (hc0 : 0 ≤ v ∧ v < ia 3 0) (hne : vf_n64 (FP.ddiv (FP.i2d (Int32.ofInt (zTo ia v 0))) (UInt64.ofNat 4625196817309499392))) : Ev G mX7_mean 0 [(1, 0), (0, v)] [] (zH ia w) (.inl (some (5, (zD (FP.ddiv (FP.i2d (Int32.ofInt (zTo ia v 0))) (UInt64.ofNat 4625196817309499392))))), zH ia w, 0, 0) := by
  have hn := I.1
  refine Ev.aload_n_1 fX7_mean_0 rfl ?_
  refine Ev.iload_n fX7_mean_1 rfl ?_
  refine Ev.cVv 0 [(0, v)] [] fX7_mean_2 lkX7_mean_99 7 TX7 10 rfl rfl rfl (eX7_checkVersion_0 I ⟨by omega, by omega⟩) ?_
  refine Ev.aload_n_1 fX7_mean_5 rfl ?_
  refine Ev.gR 0 3 3 fX7_mean_6 (flX7_32 rfl) rfl rfl rfl ?_
  refine Ev.iload_n fX7_mean_9 rfl ?_
  refine Ev.iconst fX7_mean_10 ?_
  refine Ev.cVi 3 [(0, v), (0, 0)] [] fX7_mean_11 lkX7_mean_272 6 TX6 5 rfl rfl rfl (eX6_totalOf I ⟨by omega, by omega⟩ ⟨by omega, by omega⟩) ?_
  refine Ev.i2d fX7_mean_14 ?_
  refine Ev.ldcD (b := 4625196817309499392) fX7_mean_15 (cdX7_275 rfl) ?_
  rw [show ((4625196817309499392 : Nat) : Int) = zD (UInt64.ofNat 4625196817309499392) from rfl]
  refine Ev.ddiv fX7_mean_18 hne ?_
  exact Ev.retD (st := []) (O := (.inl none, zH ia w, 0, 0)) fX7_mean_19 rfl
theorem eX7_spared {G : zG} {ia : Nat → Int → Int} {w : (Nat → Int → Int) × (Nat → Int → Int)}  (I : zCI ia) (hne : vf_n32 (FP.fdiv (FP.i2f (Int32.ofInt ((ia 3 0) * 31 - (zsum (fun v => zsum (fun s => if ia 6 (v * 31 + s) = v then 1 else 0) 31) (ia 3 0))))) (FP.i2f (Int32.ofInt ((ia 3 0) * 31))))) : Ev G mX7_spared 0 [(1, 0), (9, 0)] [] (zH ia w) (.inl (some (6, (zS (FP.fdiv (FP.i2f (Int32.ofInt ((ia 3 0) * 31 - (zsum (fun v => zsum (fun s => if ia 6 (v * 31 + s) = v then 1 else 0) 31) (ia 3 0))))) (FP.i2f (Int32.ofInt ((ia 3 0) * 31))))))), zH ia w, 0, 0) := by
  have hn := I.1
  refine Ev.aload_n_1 fX7_spared_0 rfl ?_
  refine Ev.gR 0 3 3 fX7_spared_1 (flX7_32 rfl) rfl rfl rfl ?_
  refine Ev.cVi 3 [] [] fX7_spared_4 lkX7_spared_194 6 TX6 5 rfl rfl rfl eX6_size ?_
  refine Ev.bipush fX7_spared_7 rfl ?_
  refine Ev.imul fX7_spared_9 ?_
  refine Ev.sistore_n [(1, 0), (0, ((ia 3 0) * 31))] fX7_spared_10 rfl rfl ?_
  refine Ev.iload_n fX7_spared_11 rfl ?_
  refine Ev.if_le fX7_spared_12 rfl ⟨by omega, by omega⟩ (fun h12 => by exfalso; omega) (fun h12 => ?_)
  refine Ev.iload_n fX7_spared_15 rfl ?_
  refine Ev.aload_n_1 fX7_spared_16 rfl ?_
  refine Ev.gR 0 3 3 fX7_spared_17 (flX7_32 rfl) rfl rfl rfl ?_
  refine Ev.cVi 3 [] [(0, ((ia 3 0) * 31))] fX7_spared_20 lkX7_spared_277 6 TX6 5 rfl rfl rfl (eX6_pagesMade I) ?_
  refine Ev.isub fX7_spared_23 ?_
  refine Ev.i2f fX7_spared_24 ?_
  refine Ev.iload_n fX7_spared_25 rfl ?_
  refine Ev.i2f fX7_spared_26 ?_
  refine Ev.fdiv fX7_spared_27 hne ?_
  refine Ev.goto fX7_spared_28 rfl ?_
  exact Ev.retF (st := []) (O := (.inl none, zH ia w, 0, 0)) fX7_spared_32 rfl
