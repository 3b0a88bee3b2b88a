/-! THE LAW'S WRAPPERS (printed by wip/whole/gen/law1.py) -/
theorem Ev.lst {G : zG} {M : zM} {pc pc9 : Nat} {ls st : List zSV} {ia : Nat → Int → Int} {w : (Nat → Int → Int) × (Nat → Int → Int)} {O : zO} {x : Int} (hf : zf M pc = some (.lastore, 1, pc9)) (kk : Ev G M pc9 ls st (zH ia (zu w.1 34 0 x, w.2)) O) : Ev G M pc ls ((4, x) :: (0, 0) :: (1, 34) :: st) (zH ia w) O := by
  obtain ⟨lo, da⟩ := w
  exact Ev.lastore 34 1 hf rfl (by decide) (by decide) kk
theorem Ev.lld {G : zG} {M : zM} {pc pc9 : Nat} {ls st : List zSV} {ia : Nat → Int → Int} {w : (Nat → Int → Int) × (Nat → Int → Int)} {O : zO} {v : Int} (hf : zf M pc = some (.laload, 1, pc9)) (hv : w.1 34 0 = v) (kk : Ev G M pc9 ls ((4, v) :: st) (zH ia w) O) : Ev G M pc ls ((0, 0) :: (1, 34) :: st) (zH ia w) O := by
  subst hv
  obtain ⟨lo, da⟩ := w
  exact Ev.laload 34 1 hf rfl (by decide) (by decide) kk
theorem Ev.dst {G : zG} {M : zM} {pc pc9 : Nat} {ls st : List zSV} {ia : Nat → Int → Int} {w : (Nat → Int → Int) × (Nat → Int → Int)} {O : zO} {x : Int} (hf : zf M pc = some (.dastore, 1, pc9)) (kk : Ev G M pc9 ls st (zH ia (w.1, zu w.2 35 0 x)) O) : Ev G M pc ls ((5, x) :: (0, 0) :: (1, 35) :: st) (zH ia w) O := by
  obtain ⟨lo, da⟩ := w
  exact Ev.dastore 35 1 hf rfl (by decide) (by decide) kk
theorem Ev.dld {G : zG} {M : zM} {pc pc9 : Nat} {ls st : List zSV} {ia : Nat → Int → Int} {w : (Nat → Int → Int) × (Nat → Int → Int)} {O : zO} {v : Int} (hf : zf M pc = some (.daload, 1, pc9)) (hv : w.2 35 0 = v) (kk : Ev G M pc9 ls ((5, v) :: st) (zH ia w) O) : Ev G M pc ls ((0, 0) :: (1, 35) :: st) (zH ia w) O := by
  subst hv
  obtain ⟨lo, da⟩ := w
  exact Ev.daload 35 1 hf rfl (by decide) (by decide) kk
/-- a wrapper: its code, what it stores, and the model's call behind it -/
def zJL (G : zG) (ML : zM) (lL : List zSV) (M2 : zM) (l2 : List zSV) (cv : Int → Int) (ia : Nat → Int → Int) : Prop :=
  ∀ w : (Nat → Int → Int) × (Nat → Int → Int), ∃ (ia1 : Nat → Int → Int) (w1 : (Nat → Int → Int) × (Nat → Int → Int)) (k r : Int) (ce : Nat), (0 ≤ k ∧ k ≤ 2) ∧ zI32 r ∧ ce ≤ 1 ∧ Ev G ML 0 lL [] (zH ia w) (.inl (some (0, k)), zH ia1 w1, ce, 6 * ce) ∧ (k = 0 → w1.1 34 0 = cv r) ∧
    ∀ w2 : (Nat → Int → Int) × (Nat → Int → Int), ∃ (ib1 : Nat → Int → Int) (v : Int), Ev G M2 0 l2 [] (zH ia1 w2) (.inl (some (0, v)), zH ib1 w2, 0, 0) ∧ (k = 0 → v = r) ∧ zI32 v ∧ ib1 24 8 = k ∧ zQq ib1 ib1
theorem ll_write {G : zG} {ia : Nat → Int → Int} {p0 p1 p2 : Int} {M2 : zM} {l2 : List zSV} (J : zJT G mX7_write [(1, 0), (0, p0), (0, p1), (0, p2)] M2 l2 "java/lang/UnsupportedOperationException" "java/lang/Error" ia) : zJL G mL_write [(1, 0), (0, p0), (0, p1), (0, p2), (1, 34), (9, 0)] M2 l2 (fun r => r) ia := by
  intro w
  obtain ⟨ia1, k, r, hr, hc, hm⟩ := J w
  rcases hc with ⟨hk, E⟩ | ⟨hk, E⟩ | ⟨hk, he, E⟩
  · subst hk
    refine ⟨ia1, (zu w.1 34 0 r, w.2), 0, r, 0, by decide, hr, by decide, ?_, fun _ => (show zu w.1 34 0 r 34 0 = r from zu_same), hm⟩
    refine Ev.aload_1 fL_write_0 rfl ?_
    refine Ev.iconst fL_write_2 ?_
    refine Ev.aload_n_1 fL_write_3 rfl ?_
    refine Ev.iload_n fL_write_4 rfl ?_
    refine Ev.iload_n fL_write_5 rfl ?_
    refine Ev.iload_n fL_write_6 rfl ?_
    refine Ev.cVi 0 [(0, p0), (0, p1), (0, p2)] [(0, 0), (1, 34)] fL_write_7 lkL_write_7 7 TX7 10 rfl rfl rfl E ?_
    refine Ev.i2l fL_write_10 hr ?_
    refine Ev.lst fL_write_11 ?_
    refine Ev.goto fL_write_12 rfl ?_
    refine Ev.iconst fL_write_19 ?_
    exact Ev.zI fL_write_20 rfl rfl
  · subst hk
    refine ⟨ia1, w, 1, r, 1, by decide, hr, by decide, ?_, fun e => absurd e (by decide), hm⟩
    refine Ev.aload_1 fL_write_0 rfl ?_
    refine Ev.iconst fL_write_2 ?_
    refine Ev.aload_n_1 fL_write_3 rfl ?_
    refine Ev.iload_n fL_write_4 rfl ?_
    refine Ev.iload_n fL_write_5 rfl ?_
    refine Ev.iload_n fL_write_6 rfl ?_
    refine Ev.catchV (ce1 := 1) (sl1 := 6) (ce2 := 0) (sl2 := 0) (rest := [(0, 0), (1, 34)]) 0 [(0, p0), (0, p1), (0, p2)] fL_write_7 lkL_write_7 rfl 7 TX7 10 rfl rfl rfl (Nat.le_of_ble_eq_true rfl) (by decide) rfl [] [] (0, 12, 15, 13) "java/lang/UnsupportedOperationException" rfl (fun z hz => by cases hz) rfl (by decide) (zT_in 294 (by decide +kernel) rfl) (zNw_in 387 (by decide +kernel) rfl) (Or.inl fL_write_15) rfl rfl rfl ?_ E
    refine Ev.iconst fL_write_17 ?_
    exact Ev.zI fL_write_18 rfl rfl
  · subst hk
    exact absurd rfl he
theorem ll_graft {G : zG} {ia : Nat → Int → Int} {p0 p1 p2 p3 : Int} {M2 : zM} {l2 : List zSV} (J : zJT G mX7_graft [(1, 0), (0, p0), (0, p1), (0, p2), (0, p3)] M2 l2 "java/lang/UnsupportedOperationException" "java/lang/Error" ia) : zJL G mL_graft [(1, 0), (0, p0), (0, p1), (0, p2), (0, p3), (1, 34), (9, 0)] M2 l2 (fun r => r) ia := by
  intro w
  obtain ⟨ia1, k, r, hr, hc, hm⟩ := J w
  rcases hc with ⟨hk, E⟩ | ⟨hk, E⟩ | ⟨hk, he, E⟩
  · subst hk
    refine ⟨ia1, (zu w.1 34 0 r, w.2), 0, r, 0, by decide, hr, by decide, ?_, fun _ => (show zu w.1 34 0 r 34 0 = r from zu_same), hm⟩
    refine Ev.aload_1 fL_graft_0 rfl ?_
    refine Ev.iconst fL_graft_2 ?_
    refine Ev.aload_n_1 fL_graft_3 rfl ?_
    refine Ev.iload_n fL_graft_4 rfl ?_
    refine Ev.iload_n fL_graft_5 rfl ?_
    refine Ev.iload_n fL_graft_6 rfl ?_
    refine Ev.iload fL_graft_7 rfl ?_
    refine Ev.cVi 0 [(0, p0), (0, p1), (0, p2), (0, p3)] [(0, 0), (1, 34)] fL_graft_9 lkL_graft_15 7 TX7 10 rfl rfl rfl E ?_
    refine Ev.i2l fL_graft_12 hr ?_
    refine Ev.lst fL_graft_13 ?_
    refine Ev.goto fL_graft_14 rfl ?_
    refine Ev.iconst fL_graft_21 ?_
    exact Ev.zI fL_graft_22 rfl rfl
  · subst hk
    refine ⟨ia1, w, 1, r, 1, by decide, hr, by decide, ?_, fun e => absurd e (by decide), hm⟩
    refine Ev.aload_1 fL_graft_0 rfl ?_
    refine Ev.iconst fL_graft_2 ?_
    refine Ev.aload_n_1 fL_graft_3 rfl ?_
    refine Ev.iload_n fL_graft_4 rfl ?_
    refine Ev.iload_n fL_graft_5 rfl ?_
    refine Ev.iload_n fL_graft_6 rfl ?_
    refine Ev.iload fL_graft_7 rfl ?_
    refine Ev.catchV (ce1 := 1) (sl1 := 6) (ce2 := 0) (sl2 := 0) (rest := [(0, 0), (1, 34)]) 0 [(0, p0), (0, p1), (0, p2), (0, p3)] fL_graft_9 lkL_graft_15 rfl 7 TX7 10 rfl rfl rfl (Nat.le_of_ble_eq_true rfl) (by decide) rfl [] [] (0, 14, 17, 13) "java/lang/UnsupportedOperationException" rfl (fun z hz => by cases hz) rfl (by decide) (zT_in 294 (by decide +kernel) rfl) (zNw_in 387 (by decide +kernel) rfl) (Or.inl fL_graft_17) rfl rfl rfl ?_ E
    refine Ev.iconst fL_graft_19 ?_
    exact Ev.zI fL_graft_20 rfl rfl
  · subst hk
    exact absurd rfl he
theorem ll_fork {G : zG} {ia : Nat → Int → Int} {p0 p1 : Int} {M2 : zM} {l2 : List zSV} (J : zJT G mX7_fork [(1, 0), (0, p0), (0, p1)] M2 l2 "java/lang/UnsupportedOperationException" "java/lang/Error" ia) : zJL G mL_fork [(1, 0), (0, p0), (0, p1), (1, 34), (9, 0)] M2 l2 (fun r => r) ia := by
  intro w
  obtain ⟨ia1, k, r, hr, hc, hm⟩ := J w
  rcases hc with ⟨hk, E⟩ | ⟨hk, E⟩ | ⟨hk, he, E⟩
  · subst hk
    refine ⟨ia1, (zu w.1 34 0 r, w.2), 0, r, 0, by decide, hr, by decide, ?_, fun _ => (show zu w.1 34 0 r 34 0 = r from zu_same), hm⟩
    refine Ev.aload_n_1 fL_fork_0 rfl ?_
    refine Ev.iconst fL_fork_1 ?_
    refine Ev.aload_n_1 fL_fork_2 rfl ?_
    refine Ev.iload_n fL_fork_3 rfl ?_
    refine Ev.iload_n fL_fork_4 rfl ?_
    refine Ev.cVi 0 [(0, p0), (0, p1)] [(0, 0), (1, 34)] fL_fork_5 lkL_fork_19 7 TX7 10 rfl rfl rfl E ?_
    refine Ev.i2l fL_fork_8 hr ?_
    refine Ev.lst fL_fork_9 ?_
    refine Ev.goto fL_fork_10 rfl ?_
    refine Ev.iconst fL_fork_17 ?_
    exact Ev.zI fL_fork_18 rfl rfl
  · subst hk
    refine ⟨ia1, w, 1, r, 1, by decide, hr, by decide, ?_, fun e => absurd e (by decide), hm⟩
    refine Ev.aload_n_1 fL_fork_0 rfl ?_
    refine Ev.iconst fL_fork_1 ?_
    refine Ev.aload_n_1 fL_fork_2 rfl ?_
    refine Ev.iload_n fL_fork_3 rfl ?_
    refine Ev.iload_n fL_fork_4 rfl ?_
    refine Ev.catchV (ce1 := 1) (sl1 := 6) (ce2 := 0) (sl2 := 0) (rest := [(0, 0), (1, 34)]) 0 [(0, p0), (0, p1)] fL_fork_5 lkL_fork_19 rfl 7 TX7 10 rfl rfl rfl (Nat.le_of_ble_eq_true rfl) (by decide) rfl [] [] (0, 10, 13, 13) "java/lang/UnsupportedOperationException" rfl (fun z hz => by cases hz) rfl (by decide) (zT_in 294 (by decide +kernel) rfl) (zNw_in 387 (by decide +kernel) rfl) (Or.inl fL_fork_13) rfl rfl rfl ?_ E
    refine Ev.iconst fL_fork_15 ?_
    exact Ev.zI fL_fork_16 rfl rfl
  · subst hk
    exact absurd rfl he
theorem ll_back {G : zG} {ia : Nat → Int → Int} {p0 p1 : Int} {M2 : zM} {l2 : List zSV} (J : zJT G mX7_back [(1, 0), (0, p0), (0, p1)] M2 l2 "java/lang/UnsupportedOperationException" "java/lang/Error" ia) : zJL G mL_back [(1, 0), (0, p0), (0, p1), (1, 34), (9, 0)] M2 l2 (fun r => r) ia := by
  intro w
  obtain ⟨ia1, k, r, hr, hc, hm⟩ := J w
  rcases hc with ⟨hk, E⟩ | ⟨hk, E⟩ | ⟨hk, he, E⟩
  · subst hk
    refine ⟨ia1, (zu w.1 34 0 r, w.2), 0, r, 0, by decide, hr, by decide, ?_, fun _ => (show zu w.1 34 0 r 34 0 = r from zu_same), hm⟩
    refine Ev.aload_n_1 fL_back_0 rfl ?_
    refine Ev.iconst fL_back_1 ?_
    refine Ev.aload_n_1 fL_back_2 rfl ?_
    refine Ev.iload_n fL_back_3 rfl ?_
    refine Ev.iload_n fL_back_4 rfl ?_
    refine Ev.cVi 0 [(0, p0), (0, p1)] [(0, 0), (1, 34)] fL_back_5 lkL_back_23 7 TX7 10 rfl rfl rfl E ?_
    refine Ev.i2l fL_back_8 hr ?_
    refine Ev.lst fL_back_9 ?_
    refine Ev.goto fL_back_10 rfl ?_
    refine Ev.iconst fL_back_17 ?_
    exact Ev.zI fL_back_18 rfl rfl
  · subst hk
    refine ⟨ia1, w, 1, r, 1, by decide, hr, by decide, ?_, fun e => absurd e (by decide), hm⟩
    refine Ev.aload_n_1 fL_back_0 rfl ?_
    refine Ev.iconst fL_back_1 ?_
    refine Ev.aload_n_1 fL_back_2 rfl ?_
    refine Ev.iload_n fL_back_3 rfl ?_
    refine Ev.iload_n fL_back_4 rfl ?_
    refine Ev.catchV (ce1 := 1) (sl1 := 6) (ce2 := 0) (sl2 := 0) (rest := [(0, 0), (1, 34)]) 0 [(0, p0), (0, p1)] fL_back_5 lkL_back_23 rfl 7 TX7 10 rfl rfl rfl (Nat.le_of_ble_eq_true rfl) (by decide) rfl [] [] (0, 10, 13, 13) "java/lang/UnsupportedOperationException" rfl (fun z hz => by cases hz) rfl (by decide) (zT_in 294 (by decide +kernel) rfl) (zNw_in 387 (by decide +kernel) rfl) (Or.inl fL_back_13) rfl rfl rfl ?_ E
    refine Ev.iconst fL_back_15 ?_
    exact Ev.zI fL_back_16 rfl rfl
  · subst hk
    exact absurd rfl he
theorem ll_pass {G : zG} {ia : Nat → Int → Int} {p0 : Int} {M2 : zM} {l2 : List zSV} (J : zJT G mX7_pass [(1, 0), (0, p0)] M2 l2 "java/lang/UnsupportedOperationException" "java/lang/Error" ia) : zJL G mL_pass [(1, 0), (0, p0), (1, 34), (9, 0)] M2 l2 (fun r => r) ia := by
  intro w
  obtain ⟨ia1, k, r, hr, hc, hm⟩ := J w
  rcases hc with ⟨hk, E⟩ | ⟨hk, E⟩ | ⟨hk, he, E⟩
  · subst hk
    refine ⟨ia1, (zu w.1 34 0 r, w.2), 0, r, 0, by decide, hr, by decide, ?_, fun _ => (show zu w.1 34 0 r 34 0 = r from zu_same), hm⟩
    refine Ev.aload_n_1 fL_pass_0 rfl ?_
    refine Ev.iconst fL_pass_1 ?_
    refine Ev.aload_n_1 fL_pass_2 rfl ?_
    refine Ev.iload_n fL_pass_3 rfl ?_
    refine Ev.cVi 0 [(0, p0)] [(0, 0), (1, 34)] fL_pass_4 lkL_pass_26 7 TX7 10 rfl rfl rfl E ?_
    refine Ev.i2l fL_pass_7 hr ?_
    refine Ev.lst fL_pass_8 ?_
    refine Ev.goto fL_pass_9 rfl ?_
    refine Ev.iconst fL_pass_15 ?_
    exact Ev.zI fL_pass_16 rfl rfl
  · subst hk
    refine ⟨ia1, w, 1, r, 1, by decide, hr, by decide, ?_, fun e => absurd e (by decide), hm⟩
    refine Ev.aload_n_1 fL_pass_0 rfl ?_
    refine Ev.iconst fL_pass_1 ?_
    refine Ev.aload_n_1 fL_pass_2 rfl ?_
    refine Ev.iload_n fL_pass_3 rfl ?_
    refine Ev.catchV (ce1 := 1) (sl1 := 6) (ce2 := 0) (sl2 := 0) (rest := [(0, 0), (1, 34)]) 0 [(0, p0)] fL_pass_4 lkL_pass_26 rfl 7 TX7 10 rfl rfl rfl (Nat.le_of_ble_eq_true rfl) (by decide) rfl [] [] (0, 9, 12, 13) "java/lang/UnsupportedOperationException" rfl (fun z hz => by cases hz) rfl (by decide) (zT_in 294 (by decide +kernel) rfl) (zNw_in 387 (by decide +kernel) rfl) (Or.inr ⟨3, rfl, fL_pass_12⟩) rfl rfl rfl ?_ E
    refine Ev.iconst fL_pass_13 ?_
    exact Ev.zI fL_pass_14 rfl rfl
  · subst hk
    exact absurd rfl he
theorem ll_ledger {G : zG} {ia : Nat → Int → Int} {p0 : Int} {M2 : zM} {l2 : List zSV} (J : zJT G mX7_ledger [(1, 0), (0, p0)] M2 l2 "java/lang/IndexOutOfBoundsException" "java/lang/Error" ia) : zJL G mL_ledger [(1, 0), (0, p0), (1, 34), (9, 0)] M2 l2 (fun r => r) ia := by
  intro w
  obtain ⟨ia1, k, r, hr, hc, hm⟩ := J w
  rcases hc with ⟨hk, E⟩ | ⟨hk, E⟩ | ⟨hk, he, E⟩
  · subst hk
    refine ⟨ia1, (zu w.1 34 0 r, w.2), 0, r, 0, by decide, hr, by decide, ?_, fun _ => (show zu w.1 34 0 r 34 0 = r from zu_same), hm⟩
    refine Ev.aload_n_1 fL_ledger_0 rfl ?_
    refine Ev.iconst fL_ledger_1 ?_
    refine Ev.aload_n_1 fL_ledger_2 rfl ?_
    refine Ev.iload_n fL_ledger_3 rfl ?_
    refine Ev.cVi 0 [(0, p0)] [(0, 0), (1, 34)] fL_ledger_4 lkL_ledger_30 7 TX7 10 rfl rfl rfl E ?_
    refine Ev.i2l fL_ledger_7 hr ?_
    refine Ev.lst fL_ledger_8 ?_
    refine Ev.goto fL_ledger_9 rfl ?_
    refine Ev.iconst fL_ledger_15 ?_
    exact Ev.zI fL_ledger_16 rfl rfl
  · subst hk
    refine ⟨ia1, w, 1, r, 1, by decide, hr, by decide, ?_, fun e => absurd e (by decide), hm⟩
    refine Ev.aload_n_1 fL_ledger_0 rfl ?_
    refine Ev.iconst fL_ledger_1 ?_
    refine Ev.aload_n_1 fL_ledger_2 rfl ?_
    refine Ev.iload_n fL_ledger_3 rfl ?_
    refine Ev.catchV (ce1 := 1) (sl1 := 6) (ce2 := 0) (sl2 := 0) (rest := [(0, 0), (1, 34)]) 0 [(0, p0)] fL_ledger_4 lkL_ledger_30 rfl 7 TX7 10 rfl rfl rfl (Nat.le_of_ble_eq_true rfl) (by decide) rfl [] [] (0, 9, 12, 33) "java/lang/IndexOutOfBoundsException" rfl (fun z hz => by cases hz) rfl (by decide) (zT_in 537 (by decide +kernel) rfl) (zNw_in 548 (by decide +kernel) rfl) (Or.inr ⟨3, rfl, fL_ledger_12⟩) rfl rfl rfl ?_ E
    refine Ev.iconst fL_ledger_13 ?_
    exact Ev.zI fL_ledger_14 rfl rfl
  · subst hk
    exact absurd rfl he
theorem ll_amount {G : zG} {ia : Nat → Int → Int} {p0 p1 : Int} {M2 : zM} {l2 : List zSV} (J : zJT G mX7_amount [(1, 0), (0, p0), (0, p1)] M2 l2 "java/lang/IndexOutOfBoundsException" "java/lang/IllegalArgumentException" ia) : zJL G mL_amount [(1, 0), (0, p0), (0, p1), (1, 34), (9, 0)] M2 l2 (fun r => r) ia := by
  intro w
  obtain ⟨ia1, k, r, hr, hc, hm⟩ := J w
  rcases hc with ⟨hk, E⟩ | ⟨hk, E⟩ | ⟨hk, he, E⟩
  · subst hk
    refine ⟨ia1, (zu w.1 34 0 r, w.2), 0, r, 0, by decide, hr, by decide, ?_, fun _ => (show zu w.1 34 0 r 34 0 = r from zu_same), hm⟩
    refine Ev.aload_n_1 fL_amount_0 rfl ?_
    refine Ev.iconst fL_amount_1 ?_
    refine Ev.aload_n_1 fL_amount_2 rfl ?_
    refine Ev.iload_n fL_amount_3 rfl ?_
    refine Ev.iload_n fL_amount_4 rfl ?_
    refine Ev.cVi 0 [(0, p0), (0, p1)] [(0, 0), (1, 34)] fL_amount_5 lkL_amount_35 7 TX7 10 rfl rfl rfl E ?_
    refine Ev.i2l fL_amount_8 hr ?_
    refine Ev.lst fL_amount_9 ?_
    refine Ev.goto fL_amount_10 rfl ?_
    refine Ev.iconst fL_amount_21 ?_
    exact Ev.zI fL_amount_22 rfl rfl
  · subst hk
    refine ⟨ia1, w, 1, r, 1, by decide, hr, by decide, ?_, fun e => absurd e (by decide), hm⟩
    refine Ev.aload_n_1 fL_amount_0 rfl ?_
    refine Ev.iconst fL_amount_1 ?_
    refine Ev.aload_n_1 fL_amount_2 rfl ?_
    refine Ev.iload_n fL_amount_3 rfl ?_
    refine Ev.iload_n fL_amount_4 rfl ?_
    refine Ev.catchV (ce1 := 1) (sl1 := 6) (ce2 := 0) (sl2 := 0) (rest := [(0, 0), (1, 34)]) 0 [(0, p0), (0, p1)] fL_amount_5 lkL_amount_35 rfl 7 TX7 10 rfl rfl rfl (Nat.le_of_ble_eq_true rfl) (by decide) rfl [] [(0, 10, 17, 38)] (0, 10, 13, 33) "java/lang/IndexOutOfBoundsException" rfl (fun z hz => by cases hz) rfl (by decide) (zT_in 537 (by decide +kernel) rfl) (zNw_in 548 (by decide +kernel) rfl) (Or.inl fL_amount_13) rfl rfl rfl ?_ E
    refine Ev.iconst fL_amount_15 ?_
    exact Ev.zI fL_amount_16 rfl rfl
  · subst hk
    refine ⟨ia1, w, 2, r, 1, by decide, hr, by decide, ?_, fun e => absurd e (by decide), hm⟩
    refine Ev.aload_n_1 fL_amount_0 rfl ?_
    refine Ev.iconst fL_amount_1 ?_
    refine Ev.aload_n_1 fL_amount_2 rfl ?_
    refine Ev.iload_n fL_amount_3 rfl ?_
    refine Ev.iload_n fL_amount_4 rfl ?_
    refine Ev.catchV (ce1 := 1) (sl1 := 6) (ce2 := 0) (sl2 := 0) (rest := [(0, 0), (1, 34)]) 0 [(0, p0), (0, p1)] fL_amount_5 lkL_amount_35 rfl 7 TX7 10 rfl rfl rfl (Nat.le_of_ble_eq_true rfl) (by decide) rfl [(0, 10, 13, 33)] [] (0, 10, 17, 38) "java/lang/IllegalArgumentException" rfl (fun z hz => by
      rw [List.mem_singleton] at hz
      subst hz
      exact ⟨by decide, "java/lang/IndexOutOfBoundsException", zT_in 537 (by decide +kernel) rfl, by first | decide | simp [zNc]⟩) rfl (by decide) (zT_in 566 (by decide +kernel) rfl) (zNw_in 583 (by decide +kernel) rfl) (Or.inl fL_amount_17) rfl rfl rfl ?_ E
    refine Ev.iconst fL_amount_19 ?_
    exact Ev.zI fL_amount_20 rfl rfl
theorem ll_sum {G : zG} {ia : Nat → Int → Int} {p0 p1 p2 : Int} {M2 : zM} {l2 : List zSV} (J : zJT G mX7_sum [(1, 0), (0, p0), (0, p1), (0, p2)] M2 l2 "java/lang/IndexOutOfBoundsException" "java/lang/IllegalArgumentException" ia) : zJL G mL_sum [(1, 0), (0, p0), (0, p1), (0, p2), (1, 34), (9, 0)] M2 l2 (fun r => r) ia := by
  intro w
  obtain ⟨ia1, k, r, hr, hc, hm⟩ := J w
  rcases hc with ⟨hk, E⟩ | ⟨hk, E⟩ | ⟨hk, he, E⟩
  · subst hk
    refine ⟨ia1, (zu w.1 34 0 r, w.2), 0, r, 0, by decide, hr, by decide, ?_, fun _ => (show zu w.1 34 0 r 34 0 = r from zu_same), hm⟩
    refine Ev.aload_1 fL_sum_0 rfl ?_
    refine Ev.iconst fL_sum_2 ?_
    refine Ev.aload_n_1 fL_sum_3 rfl ?_
    refine Ev.iload_n fL_sum_4 rfl ?_
    refine Ev.iload_n fL_sum_5 rfl ?_
    refine Ev.iload_n fL_sum_6 rfl ?_
    refine Ev.cVi 0 [(0, p0), (0, p1), (0, p2)] [(0, 0), (1, 34)] fL_sum_7 lkL_sum_40 7 TX7 10 rfl rfl rfl E ?_
    refine Ev.i2l fL_sum_10 hr ?_
    refine Ev.lst fL_sum_11 ?_
    refine Ev.goto fL_sum_12 rfl ?_
    refine Ev.iconst fL_sum_23 ?_
    exact Ev.zI fL_sum_24 rfl rfl
  · subst hk
    refine ⟨ia1, w, 1, r, 1, by decide, hr, by decide, ?_, fun e => absurd e (by decide), hm⟩
    refine Ev.aload_1 fL_sum_0 rfl ?_
    refine Ev.iconst fL_sum_2 ?_
    refine Ev.aload_n_1 fL_sum_3 rfl ?_
    refine Ev.iload_n fL_sum_4 rfl ?_
    refine Ev.iload_n fL_sum_5 rfl ?_
    refine Ev.iload_n fL_sum_6 rfl ?_
    refine Ev.catchV (ce1 := 1) (sl1 := 6) (ce2 := 0) (sl2 := 0) (rest := [(0, 0), (1, 34)]) 0 [(0, p0), (0, p1), (0, p2)] fL_sum_7 lkL_sum_40 rfl 7 TX7 10 rfl rfl rfl (Nat.le_of_ble_eq_true rfl) (by decide) rfl [] [(0, 12, 19, 38)] (0, 12, 15, 33) "java/lang/IndexOutOfBoundsException" rfl (fun z hz => by cases hz) rfl (by decide) (zT_in 537 (by decide +kernel) rfl) (zNw_in 548 (by decide +kernel) rfl) (Or.inl fL_sum_15) rfl rfl rfl ?_ E
    refine Ev.iconst fL_sum_17 ?_
    exact Ev.zI fL_sum_18 rfl rfl
  · subst hk
    refine ⟨ia1, w, 2, r, 1, by decide, hr, by decide, ?_, fun e => absurd e (by decide), hm⟩
    refine Ev.aload_1 fL_sum_0 rfl ?_
    refine Ev.iconst fL_sum_2 ?_
    refine Ev.aload_n_1 fL_sum_3 rfl ?_
    refine Ev.iload_n fL_sum_4 rfl ?_
    refine Ev.iload_n fL_sum_5 rfl ?_
    refine Ev.iload_n fL_sum_6 rfl ?_
    refine Ev.catchV (ce1 := 1) (sl1 := 6) (ce2 := 0) (sl2 := 0) (rest := [(0, 0), (1, 34)]) 0 [(0, p0), (0, p1), (0, p2)] fL_sum_7 lkL_sum_40 rfl 7 TX7 10 rfl rfl rfl (Nat.le_of_ble_eq_true rfl) (by decide) rfl [(0, 12, 15, 33)] [] (0, 12, 19, 38) "java/lang/IllegalArgumentException" rfl (fun z hz => by
      rw [List.mem_singleton] at hz
      subst hz
      exact ⟨by decide, "java/lang/IndexOutOfBoundsException", zT_in 537 (by decide +kernel) rfl, by first | decide | simp [zNc]⟩) rfl (by decide) (zT_in 566 (by decide +kernel) rfl) (zNw_in 583 (by decide +kernel) rfl) (Or.inl fL_sum_19) rfl rfl rfl ?_ E
    refine Ev.iconst fL_sum_21 ?_
    exact Ev.zI fL_sum_22 rfl rfl
theorem ll_sumAgain {G : zG} {ia : Nat → Int → Int} {p0 p1 p2 : Int} {M2 : zM} {l2 : List zSV} (J : zJT G mX7_sumAgain [(1, 0), (0, p0), (0, p1), (0, p2)] M2 l2 "java/lang/IndexOutOfBoundsException" "java/lang/IllegalArgumentException" ia) : zJL G mL_sumAgain [(1, 0), (0, p0), (0, p1), (0, p2), (1, 34), (9, 0)] M2 l2 (fun r => r) ia := by
  intro w
  obtain ⟨ia1, k, r, hr, hc, hm⟩ := J w
  rcases hc with ⟨hk, E⟩ | ⟨hk, E⟩ | ⟨hk, he, E⟩
  · subst hk
    refine ⟨ia1, (zu w.1 34 0 r, w.2), 0, r, 0, by decide, hr, by decide, ?_, fun _ => (show zu w.1 34 0 r 34 0 = r from zu_same), hm⟩
    refine Ev.aload_1 fL_sumAgain_0 rfl ?_
    refine Ev.iconst fL_sumAgain_2 ?_
    refine Ev.aload_n_1 fL_sumAgain_3 rfl ?_
    refine Ev.iload_n fL_sumAgain_4 rfl ?_
    refine Ev.iload_n fL_sumAgain_5 rfl ?_
    refine Ev.iload_n fL_sumAgain_6 rfl ?_
    refine Ev.cVi 0 [(0, p0), (0, p1), (0, p2)] [(0, 0), (1, 34)] fL_sumAgain_7 lkL_sumAgain_43 7 TX7 10 rfl rfl rfl E ?_
    refine Ev.i2l fL_sumAgain_10 hr ?_
    refine Ev.lst fL_sumAgain_11 ?_
    refine Ev.goto fL_sumAgain_12 rfl ?_
    refine Ev.iconst fL_sumAgain_23 ?_
    exact Ev.zI fL_sumAgain_24 rfl rfl
  · subst hk
    refine ⟨ia1, w, 1, r, 1, by decide, hr, by decide, ?_, fun e => absurd e (by decide), hm⟩
    refine Ev.aload_1 fL_sumAgain_0 rfl ?_
    refine Ev.iconst fL_sumAgain_2 ?_
    refine Ev.aload_n_1 fL_sumAgain_3 rfl ?_
    refine Ev.iload_n fL_sumAgain_4 rfl ?_
    refine Ev.iload_n fL_sumAgain_5 rfl ?_
    refine Ev.iload_n fL_sumAgain_6 rfl ?_
    refine Ev.catchV (ce1 := 1) (sl1 := 6) (ce2 := 0) (sl2 := 0) (rest := [(0, 0), (1, 34)]) 0 [(0, p0), (0, p1), (0, p2)] fL_sumAgain_7 lkL_sumAgain_43 rfl 7 TX7 10 rfl rfl rfl (Nat.le_of_ble_eq_true rfl) (by decide) rfl [] [(0, 12, 19, 38)] (0, 12, 15, 33) "java/lang/IndexOutOfBoundsException" rfl (fun z hz => by cases hz) rfl (by decide) (zT_in 537 (by decide +kernel) rfl) (zNw_in 548 (by decide +kernel) rfl) (Or.inl fL_sumAgain_15) rfl rfl rfl ?_ E
    refine Ev.iconst fL_sumAgain_17 ?_
    exact Ev.zI fL_sumAgain_18 rfl rfl
  · subst hk
    refine ⟨ia1, w, 2, r, 1, by decide, hr, by decide, ?_, fun e => absurd e (by decide), hm⟩
    refine Ev.aload_1 fL_sumAgain_0 rfl ?_
    refine Ev.iconst fL_sumAgain_2 ?_
    refine Ev.aload_n_1 fL_sumAgain_3 rfl ?_
    refine Ev.iload_n fL_sumAgain_4 rfl ?_
    refine Ev.iload_n fL_sumAgain_5 rfl ?_
    refine Ev.iload_n fL_sumAgain_6 rfl ?_
    refine Ev.catchV (ce1 := 1) (sl1 := 6) (ce2 := 0) (sl2 := 0) (rest := [(0, 0), (1, 34)]) 0 [(0, p0), (0, p1), (0, p2)] fL_sumAgain_7 lkL_sumAgain_43 rfl 7 TX7 10 rfl rfl rfl (Nat.le_of_ble_eq_true rfl) (by decide) rfl [(0, 12, 15, 33)] [] (0, 12, 19, 38) "java/lang/IllegalArgumentException" rfl (fun z hz => by
      rw [List.mem_singleton] at hz
      subst hz
      exact ⟨by decide, "java/lang/IndexOutOfBoundsException", zT_in 537 (by decide +kernel) rfl, by first | decide | simp [zNc]⟩) rfl (by decide) (zT_in 566 (by decide +kernel) rfl) (zNw_in 583 (by decide +kernel) rfl) (Or.inl fL_sumAgain_19) rfl rfl rfl ?_ E
    refine Ev.iconst fL_sumAgain_21 ?_
    exact Ev.zI fL_sumAgain_22 rfl rfl
theorem ll_most {G : zG} {ia : Nat → Int → Int} {p0 p1 p2 : Int} {M2 : zM} {l2 : List zSV} (J : zJT G mX7_most [(1, 0), (0, p0), (0, p1), (0, p2)] M2 l2 "java/lang/IndexOutOfBoundsException" "java/lang/IllegalArgumentException" ia) : zJL G mL_most [(1, 0), (0, p0), (0, p1), (0, p2), (1, 34), (9, 0)] M2 l2 (fun r => r) ia := by
  intro w
  obtain ⟨ia1, k, r, hr, hc, hm⟩ := J w
  rcases hc with ⟨hk, E⟩ | ⟨hk, E⟩ | ⟨hk, he, E⟩
  · subst hk
    refine ⟨ia1, (zu w.1 34 0 r, w.2), 0, r, 0, by decide, hr, by decide, ?_, fun _ => (show zu w.1 34 0 r 34 0 = r from zu_same), hm⟩
    refine Ev.aload_1 fL_most_0 rfl ?_
    refine Ev.iconst fL_most_2 ?_
    refine Ev.aload_n_1 fL_most_3 rfl ?_
    refine Ev.iload_n fL_most_4 rfl ?_
    refine Ev.iload_n fL_most_5 rfl ?_
    refine Ev.iload_n fL_most_6 rfl ?_
    refine Ev.cVi 0 [(0, p0), (0, p1), (0, p2)] [(0, 0), (1, 34)] fL_most_7 lkL_most_46 7 TX7 10 rfl rfl rfl E ?_
    refine Ev.i2l fL_most_10 hr ?_
    refine Ev.lst fL_most_11 ?_
    refine Ev.goto fL_most_12 rfl ?_
    refine Ev.iconst fL_most_23 ?_
    exact Ev.zI fL_most_24 rfl rfl
  · subst hk
    refine ⟨ia1, w, 1, r, 1, by decide, hr, by decide, ?_, fun e => absurd e (by decide), hm⟩
    refine Ev.aload_1 fL_most_0 rfl ?_
    refine Ev.iconst fL_most_2 ?_
    refine Ev.aload_n_1 fL_most_3 rfl ?_
    refine Ev.iload_n fL_most_4 rfl ?_
    refine Ev.iload_n fL_most_5 rfl ?_
    refine Ev.iload_n fL_most_6 rfl ?_
    refine Ev.catchV (ce1 := 1) (sl1 := 6) (ce2 := 0) (sl2 := 0) (rest := [(0, 0), (1, 34)]) 0 [(0, p0), (0, p1), (0, p2)] fL_most_7 lkL_most_46 rfl 7 TX7 10 rfl rfl rfl (Nat.le_of_ble_eq_true rfl) (by decide) rfl [] [(0, 12, 19, 38)] (0, 12, 15, 33) "java/lang/IndexOutOfBoundsException" rfl (fun z hz => by cases hz) rfl (by decide) (zT_in 537 (by decide +kernel) rfl) (zNw_in 548 (by decide +kernel) rfl) (Or.inl fL_most_15) rfl rfl rfl ?_ E
    refine Ev.iconst fL_most_17 ?_
    exact Ev.zI fL_most_18 rfl rfl
  · subst hk
    refine ⟨ia1, w, 2, r, 1, by decide, hr, by decide, ?_, fun e => absurd e (by decide), hm⟩
    refine Ev.aload_1 fL_most_0 rfl ?_
    refine Ev.iconst fL_most_2 ?_
    refine Ev.aload_n_1 fL_most_3 rfl ?_
    refine Ev.iload_n fL_most_4 rfl ?_
    refine Ev.iload_n fL_most_5 rfl ?_
    refine Ev.iload_n fL_most_6 rfl ?_
    refine Ev.catchV (ce1 := 1) (sl1 := 6) (ce2 := 0) (sl2 := 0) (rest := [(0, 0), (1, 34)]) 0 [(0, p0), (0, p1), (0, p2)] fL_most_7 lkL_most_46 rfl 7 TX7 10 rfl rfl rfl (Nat.le_of_ble_eq_true rfl) (by decide) rfl [(0, 12, 15, 33)] [] (0, 12, 19, 38) "java/lang/IllegalArgumentException" rfl (fun z hz => by
      rw [List.mem_singleton] at hz
      subst hz
      exact ⟨by decide, "java/lang/IndexOutOfBoundsException", zT_in 537 (by decide +kernel) rfl, by first | decide | simp [zNc]⟩) rfl (by decide) (zT_in 566 (by decide +kernel) rfl) (zNw_in 583 (by decide +kernel) rfl) (Or.inl fL_most_19) rfl rfl rfl ?_ E
    refine Ev.iconst fL_most_21 ?_
    exact Ev.zI fL_most_22 rfl rfl
theorem ll_reached {G : zG} {ia : Nat → Int → Int} {p0 p1 : Int} {M2 : zM} {l2 : List zSV} (J : zJT G mX7_reached [(1, 0), (0, p0), (0, p1), (9, 0)] M2 l2 "java/lang/IndexOutOfBoundsException" "java/util/NoSuchElementException" ia) : zJL G mL_reached [(1, 0), (0, p0), (0, p1), (1, 34), (9, 0)] M2 l2 (fun r => r) ia := by
  intro w
  obtain ⟨ia1, k, r, hr, hc, hm⟩ := J w
  rcases hc with ⟨hk, E⟩ | ⟨hk, E⟩ | ⟨hk, he, E⟩
  · subst hk
    refine ⟨ia1, (zu w.1 34 0 r, w.2), 0, r, 0, by decide, hr, by decide, ?_, fun _ => (show zu w.1 34 0 r 34 0 = r from zu_same), hm⟩
    refine Ev.aload_n_1 fL_reached_0 rfl ?_
    refine Ev.iconst fL_reached_1 ?_
    refine Ev.aload_n_1 fL_reached_2 rfl ?_
    refine Ev.iload_n fL_reached_3 rfl ?_
    refine Ev.iload_n fL_reached_4 rfl ?_
    refine Ev.cVi 0 [(0, p0), (0, p1)] [(0, 0), (1, 34)] fL_reached_5 lkL_reached_49 7 TX7 10 rfl rfl rfl E ?_
    refine Ev.i2l fL_reached_8 hr ?_
    refine Ev.lst fL_reached_9 ?_
    refine Ev.goto fL_reached_10 rfl ?_
    refine Ev.iconst fL_reached_21 ?_
    exact Ev.zI fL_reached_22 rfl rfl
  · subst hk
    refine ⟨ia1, w, 1, r, 1, by decide, hr, by decide, ?_, fun e => absurd e (by decide), hm⟩
    refine Ev.aload_n_1 fL_reached_0 rfl ?_
    refine Ev.iconst fL_reached_1 ?_
    refine Ev.aload_n_1 fL_reached_2 rfl ?_
    refine Ev.iload_n fL_reached_3 rfl ?_
    refine Ev.iload_n fL_reached_4 rfl ?_
    refine Ev.catchV (ce1 := 1) (sl1 := 6) (ce2 := 0) (sl2 := 0) (rest := [(0, 0), (1, 34)]) 0 [(0, p0), (0, p1)] fL_reached_5 lkL_reached_49 rfl 7 TX7 10 rfl rfl rfl (Nat.le_of_ble_eq_true rfl) (by decide) rfl [] [(0, 10, 17, 52)] (0, 10, 13, 33) "java/lang/IndexOutOfBoundsException" rfl (fun z hz => by cases hz) rfl (by decide) (zT_in 537 (by decide +kernel) rfl) (zNw_in 548 (by decide +kernel) rfl) (Or.inl fL_reached_13) rfl rfl rfl ?_ E
    refine Ev.iconst fL_reached_15 ?_
    exact Ev.zI fL_reached_16 rfl rfl
  · subst hk
    refine ⟨ia1, w, 2, r, 1, by decide, hr, by decide, ?_, fun e => absurd e (by decide), hm⟩
    refine Ev.aload_n_1 fL_reached_0 rfl ?_
    refine Ev.iconst fL_reached_1 ?_
    refine Ev.aload_n_1 fL_reached_2 rfl ?_
    refine Ev.iload_n fL_reached_3 rfl ?_
    refine Ev.iload_n fL_reached_4 rfl ?_
    refine Ev.catchV (ce1 := 1) (sl1 := 6) (ce2 := 0) (sl2 := 0) (rest := [(0, 0), (1, 34)]) 0 [(0, p0), (0, p1)] fL_reached_5 lkL_reached_49 rfl 7 TX7 10 rfl rfl rfl (Nat.le_of_ble_eq_true rfl) (by decide) rfl [(0, 10, 13, 33)] [] (0, 10, 17, 52) "java/util/NoSuchElementException" rfl (fun z hz => by
      rw [List.mem_singleton] at hz
      subst hz
      exact ⟨by decide, "java/lang/IndexOutOfBoundsException", zT_in 537 (by decide +kernel) rfl, by first | decide | simp [zNc]⟩) rfl (by decide) (zT_in 634 (by decide +kernel) rfl) (zNw_in 645 (by decide +kernel) rfl) (Or.inl fL_reached_17) rfl rfl rfl ?_ E
    refine Ev.iconst fL_reached_19 ?_
    exact Ev.zI fL_reached_20 rfl rfl
theorem ll_versionOf {G : zG} {ia : Nat → Int → Int} {p0 p1 : Int} {M2 : zM} {l2 : List zSV} (J : zJT G mX7_versionOf [(1, 0), (0, p0), (0, p1)] M2 l2 "java/lang/IndexOutOfBoundsException" "java/lang/IllegalArgumentException" ia) : zJL G mL_versionOf [(1, 0), (0, p0), (0, p1), (1, 34), (9, 0)] M2 l2 (fun r => r) ia := by
  intro w
  obtain ⟨ia1, k, r, hr, hc, hm⟩ := J w
  rcases hc with ⟨hk, E⟩ | ⟨hk, E⟩ | ⟨hk, he, E⟩
  · subst hk
    refine ⟨ia1, (zu w.1 34 0 r, w.2), 0, r, 0, by decide, hr, by decide, ?_, fun _ => (show zu w.1 34 0 r 34 0 = r from zu_same), hm⟩
    refine Ev.aload_n_1 fL_versionOf_0 rfl ?_
    refine Ev.iconst fL_versionOf_1 ?_
    refine Ev.aload_n_1 fL_versionOf_2 rfl ?_
    refine Ev.iload_n fL_versionOf_3 rfl ?_
    refine Ev.iload_n fL_versionOf_4 rfl ?_
    refine Ev.cVi 0 [(0, p0), (0, p1)] [(0, 0), (1, 34)] fL_versionOf_5 lkL_versionOf_54 7 TX7 10 rfl rfl rfl E ?_
    refine Ev.i2l fL_versionOf_8 hr ?_
    refine Ev.lst fL_versionOf_9 ?_
    refine Ev.goto fL_versionOf_10 rfl ?_
    refine Ev.iconst fL_versionOf_21 ?_
    exact Ev.zI fL_versionOf_22 rfl rfl
  · subst hk
    refine ⟨ia1, w, 1, r, 1, by decide, hr, by decide, ?_, fun e => absurd e (by decide), hm⟩
    refine Ev.aload_n_1 fL_versionOf_0 rfl ?_
    refine Ev.iconst fL_versionOf_1 ?_
    refine Ev.aload_n_1 fL_versionOf_2 rfl ?_
    refine Ev.iload_n fL_versionOf_3 rfl ?_
    refine Ev.iload_n fL_versionOf_4 rfl ?_
    refine Ev.catchV (ce1 := 1) (sl1 := 6) (ce2 := 0) (sl2 := 0) (rest := [(0, 0), (1, 34)]) 0 [(0, p0), (0, p1)] fL_versionOf_5 lkL_versionOf_54 rfl 7 TX7 10 rfl rfl rfl (Nat.le_of_ble_eq_true rfl) (by decide) rfl [] [(0, 10, 17, 38)] (0, 10, 13, 33) "java/lang/IndexOutOfBoundsException" rfl (fun z hz => by cases hz) rfl (by decide) (zT_in 537 (by decide +kernel) rfl) (zNw_in 548 (by decide +kernel) rfl) (Or.inl fL_versionOf_13) rfl rfl rfl ?_ E
    refine Ev.iconst fL_versionOf_15 ?_
    exact Ev.zI fL_versionOf_16 rfl rfl
  · subst hk
    refine ⟨ia1, w, 2, r, 1, by decide, hr, by decide, ?_, fun e => absurd e (by decide), hm⟩
    refine Ev.aload_n_1 fL_versionOf_0 rfl ?_
    refine Ev.iconst fL_versionOf_1 ?_
    refine Ev.aload_n_1 fL_versionOf_2 rfl ?_
    refine Ev.iload_n fL_versionOf_3 rfl ?_
    refine Ev.iload_n fL_versionOf_4 rfl ?_
    refine Ev.catchV (ce1 := 1) (sl1 := 6) (ce2 := 0) (sl2 := 0) (rest := [(0, 0), (1, 34)]) 0 [(0, p0), (0, p1)] fL_versionOf_5 lkL_versionOf_54 rfl 7 TX7 10 rfl rfl rfl (Nat.le_of_ble_eq_true rfl) (by decide) rfl [(0, 10, 13, 33)] [] (0, 10, 17, 38) "java/lang/IllegalArgumentException" rfl (fun z hz => by
      rw [List.mem_singleton] at hz
      subst hz
      exact ⟨by decide, "java/lang/IndexOutOfBoundsException", zT_in 537 (by decide +kernel) rfl, by first | decide | simp [zNc]⟩) rfl (by decide) (zT_in 566 (by decide +kernel) rfl) (zNw_in 583 (by decide +kernel) rfl) (Or.inl fL_versionOf_17) rfl rfl rfl ?_ E
    refine Ev.iconst fL_versionOf_19 ?_
    exact Ev.zI fL_versionOf_20 rfl rfl
theorem ll_maker {G : zG} {ia : Nat → Int → Int} {p0 p1 : Int} {M2 : zM} {l2 : List zSV} (J : zJT G mX7_maker [(1, 0), (0, p0), (0, p1)] M2 l2 "java/lang/IndexOutOfBoundsException" "java/lang/IllegalArgumentException" ia) : zJL G mL_maker [(1, 0), (0, p0), (0, p1), (1, 34), (9, 0)] M2 l2 (fun r => r) ia := by
  intro w
  obtain ⟨ia1, k, r, hr, hc, hm⟩ := J w
  rcases hc with ⟨hk, E⟩ | ⟨hk, E⟩ | ⟨hk, he, E⟩
  · subst hk
    refine ⟨ia1, (zu w.1 34 0 r, w.2), 0, r, 0, by decide, hr, by decide, ?_, fun _ => (show zu w.1 34 0 r 34 0 = r from zu_same), hm⟩
    refine Ev.aload_n_1 fL_maker_0 rfl ?_
    refine Ev.iconst fL_maker_1 ?_
    refine Ev.aload_n_1 fL_maker_2 rfl ?_
    refine Ev.iload_n fL_maker_3 rfl ?_
    refine Ev.iload_n fL_maker_4 rfl ?_
    refine Ev.cVi 0 [(0, p0), (0, p1)] [(0, 0), (1, 34)] fL_maker_5 lkL_maker_57 7 TX7 10 rfl rfl rfl E ?_
    refine Ev.i2l fL_maker_8 hr ?_
    refine Ev.lst fL_maker_9 ?_
    refine Ev.goto fL_maker_10 rfl ?_
    refine Ev.iconst fL_maker_21 ?_
    exact Ev.zI fL_maker_22 rfl rfl
  · subst hk
    refine ⟨ia1, w, 1, r, 1, by decide, hr, by decide, ?_, fun e => absurd e (by decide), hm⟩
    refine Ev.aload_n_1 fL_maker_0 rfl ?_
    refine Ev.iconst fL_maker_1 ?_
    refine Ev.aload_n_1 fL_maker_2 rfl ?_
    refine Ev.iload_n fL_maker_3 rfl ?_
    refine Ev.iload_n fL_maker_4 rfl ?_
    refine Ev.catchV (ce1 := 1) (sl1 := 6) (ce2 := 0) (sl2 := 0) (rest := [(0, 0), (1, 34)]) 0 [(0, p0), (0, p1)] fL_maker_5 lkL_maker_57 rfl 7 TX7 10 rfl rfl rfl (Nat.le_of_ble_eq_true rfl) (by decide) rfl [] [(0, 10, 17, 38)] (0, 10, 13, 33) "java/lang/IndexOutOfBoundsException" rfl (fun z hz => by cases hz) rfl (by decide) (zT_in 537 (by decide +kernel) rfl) (zNw_in 548 (by decide +kernel) rfl) (Or.inl fL_maker_13) rfl rfl rfl ?_ E
    refine Ev.iconst fL_maker_15 ?_
    exact Ev.zI fL_maker_16 rfl rfl
  · subst hk
    refine ⟨ia1, w, 2, r, 1, by decide, hr, by decide, ?_, fun e => absurd e (by decide), hm⟩
    refine Ev.aload_n_1 fL_maker_0 rfl ?_
    refine Ev.iconst fL_maker_1 ?_
    refine Ev.aload_n_1 fL_maker_2 rfl ?_
    refine Ev.iload_n fL_maker_3 rfl ?_
    refine Ev.iload_n fL_maker_4 rfl ?_
    refine Ev.catchV (ce1 := 1) (sl1 := 6) (ce2 := 0) (sl2 := 0) (rest := [(0, 0), (1, 34)]) 0 [(0, p0), (0, p1)] fL_maker_5 lkL_maker_57 rfl 7 TX7 10 rfl rfl rfl (Nat.le_of_ble_eq_true rfl) (by decide) rfl [(0, 10, 13, 33)] [] (0, 10, 17, 38) "java/lang/IllegalArgumentException" rfl (fun z hz => by
      rw [List.mem_singleton] at hz
      subst hz
      exact ⟨by decide, "java/lang/IndexOutOfBoundsException", zT_in 537 (by decide +kernel) rfl, by first | decide | simp [zNc]⟩) rfl (by decide) (zT_in 566 (by decide +kernel) rfl) (zNw_in 583 (by decide +kernel) rfl) (Or.inl fL_maker_17) rfl rfl rfl ?_ E
    refine Ev.iconst fL_maker_19 ?_
    exact Ev.zI fL_maker_20 rfl rfl
theorem ll_had {G : zG} {ia : Nat → Int → Int} {p0 p1 : Int} {M2 : zM} {l2 : List zSV} (J : zJT G mX7_had [(1, 0), (0, p0), (0, p1)] M2 l2 "java/lang/IndexOutOfBoundsException" "java/lang/IllegalArgumentException" ia) : zJL G mL_had [(1, 0), (0, p0), (0, p1), (1, 34), (9, 0)] M2 l2 (fun r => r) ia := by
  intro w
  obtain ⟨ia1, k, r, hr, hc, hm⟩ := J w
  rcases hc with ⟨hk, E⟩ | ⟨hk, E⟩ | ⟨hk, he, E⟩
  · subst hk
    refine ⟨ia1, (zu w.1 34 0 r, w.2), 0, r, 0, by decide, hr, by decide, ?_, fun _ => (show zu w.1 34 0 r 34 0 = r from zu_same), hm⟩
    refine Ev.aload_n_1 fL_had_0 rfl ?_
    refine Ev.iconst fL_had_1 ?_
    refine Ev.aload_n_1 fL_had_2 rfl ?_
    refine Ev.iload_n fL_had_3 rfl ?_
    refine Ev.iload_n fL_had_4 rfl ?_
    refine Ev.cVi 0 [(0, p0), (0, p1)] [(0, 0), (1, 34)] fL_had_5 lkL_had_60 7 TX7 10 rfl rfl rfl E ?_
    refine Ev.i2l fL_had_8 hr ?_
    refine Ev.lst fL_had_9 ?_
    refine Ev.goto fL_had_10 rfl ?_
    refine Ev.iconst fL_had_21 ?_
    exact Ev.zI fL_had_22 rfl rfl
  · subst hk
    refine ⟨ia1, w, 1, r, 1, by decide, hr, by decide, ?_, fun e => absurd e (by decide), hm⟩
    refine Ev.aload_n_1 fL_had_0 rfl ?_
    refine Ev.iconst fL_had_1 ?_
    refine Ev.aload_n_1 fL_had_2 rfl ?_
    refine Ev.iload_n fL_had_3 rfl ?_
    refine Ev.iload_n fL_had_4 rfl ?_
    refine Ev.catchV (ce1 := 1) (sl1 := 6) (ce2 := 0) (sl2 := 0) (rest := [(0, 0), (1, 34)]) 0 [(0, p0), (0, p1)] fL_had_5 lkL_had_60 rfl 7 TX7 10 rfl rfl rfl (Nat.le_of_ble_eq_true rfl) (by decide) rfl [] [(0, 10, 17, 38)] (0, 10, 13, 33) "java/lang/IndexOutOfBoundsException" rfl (fun z hz => by cases hz) rfl (by decide) (zT_in 537 (by decide +kernel) rfl) (zNw_in 548 (by decide +kernel) rfl) (Or.inl fL_had_13) rfl rfl rfl ?_ E
    refine Ev.iconst fL_had_15 ?_
    exact Ev.zI fL_had_16 rfl rfl
  · subst hk
    refine ⟨ia1, w, 2, r, 1, by decide, hr, by decide, ?_, fun e => absurd e (by decide), hm⟩
    refine Ev.aload_n_1 fL_had_0 rfl ?_
    refine Ev.iconst fL_had_1 ?_
    refine Ev.aload_n_1 fL_had_2 rfl ?_
    refine Ev.iload_n fL_had_3 rfl ?_
    refine Ev.iload_n fL_had_4 rfl ?_
    refine Ev.catchV (ce1 := 1) (sl1 := 6) (ce2 := 0) (sl2 := 0) (rest := [(0, 0), (1, 34)]) 0 [(0, p0), (0, p1)] fL_had_5 lkL_had_60 rfl 7 TX7 10 rfl rfl rfl (Nat.le_of_ble_eq_true rfl) (by decide) rfl [(0, 10, 13, 33)] [] (0, 10, 17, 38) "java/lang/IllegalArgumentException" rfl (fun z hz => by
      rw [List.mem_singleton] at hz
      subst hz
      exact ⟨by decide, "java/lang/IndexOutOfBoundsException", zT_in 537 (by decide +kernel) rfl, by first | decide | simp [zNc]⟩) rfl (by decide) (zT_in 566 (by decide +kernel) rfl) (zNw_in 583 (by decide +kernel) rfl) (Or.inl fL_had_17) rfl rfl rfl ?_ E
    refine Ev.iconst fL_had_19 ?_
    exact Ev.zI fL_had_20 rfl rfl
theorem ll_since {G : zG} {ia : Nat → Int → Int} {p0 p1 : Int} {M2 : zM} {l2 : List zSV} (J : zJT G mX7_since [(1, 0), (0, p0), (0, p1)] M2 l2 "java/lang/IndexOutOfBoundsException" "java/lang/IllegalArgumentException" ia) : zJL G mL_since [(1, 0), (0, p0), (0, p1), (1, 34), (9, 0)] M2 l2 (fun r => r) ia := by
  intro w
  obtain ⟨ia1, k, r, hr, hc, hm⟩ := J w
  rcases hc with ⟨hk, E⟩ | ⟨hk, E⟩ | ⟨hk, he, E⟩
  · subst hk
    refine ⟨ia1, (zu w.1 34 0 r, w.2), 0, r, 0, by decide, hr, by decide, ?_, fun _ => (show zu w.1 34 0 r 34 0 = r from zu_same), hm⟩
    refine Ev.aload_n_1 fL_since_0 rfl ?_
    refine Ev.iconst fL_since_1 ?_
    refine Ev.aload_n_1 fL_since_2 rfl ?_
    refine Ev.iload_n fL_since_3 rfl ?_
    refine Ev.iload_n fL_since_4 rfl ?_
    refine Ev.cVi 0 [(0, p0), (0, p1)] [(0, 0), (1, 34)] fL_since_5 lkL_since_63 7 TX7 10 rfl rfl rfl E ?_
    refine Ev.i2l fL_since_8 hr ?_
    refine Ev.lst fL_since_9 ?_
    refine Ev.goto fL_since_10 rfl ?_
    refine Ev.iconst fL_since_21 ?_
    exact Ev.zI fL_since_22 rfl rfl
  · subst hk
    refine ⟨ia1, w, 1, r, 1, by decide, hr, by decide, ?_, fun e => absurd e (by decide), hm⟩
    refine Ev.aload_n_1 fL_since_0 rfl ?_
    refine Ev.iconst fL_since_1 ?_
    refine Ev.aload_n_1 fL_since_2 rfl ?_
    refine Ev.iload_n fL_since_3 rfl ?_
    refine Ev.iload_n fL_since_4 rfl ?_
    refine Ev.catchV (ce1 := 1) (sl1 := 6) (ce2 := 0) (sl2 := 0) (rest := [(0, 0), (1, 34)]) 0 [(0, p0), (0, p1)] fL_since_5 lkL_since_63 rfl 7 TX7 10 rfl rfl rfl (Nat.le_of_ble_eq_true rfl) (by decide) rfl [] [(0, 10, 17, 38)] (0, 10, 13, 33) "java/lang/IndexOutOfBoundsException" rfl (fun z hz => by cases hz) rfl (by decide) (zT_in 537 (by decide +kernel) rfl) (zNw_in 548 (by decide +kernel) rfl) (Or.inl fL_since_13) rfl rfl rfl ?_ E
    refine Ev.iconst fL_since_15 ?_
    exact Ev.zI fL_since_16 rfl rfl
  · subst hk
    refine ⟨ia1, w, 2, r, 1, by decide, hr, by decide, ?_, fun e => absurd e (by decide), hm⟩
    refine Ev.aload_n_1 fL_since_0 rfl ?_
    refine Ev.iconst fL_since_1 ?_
    refine Ev.aload_n_1 fL_since_2 rfl ?_
    refine Ev.iload_n fL_since_3 rfl ?_
    refine Ev.iload_n fL_since_4 rfl ?_
    refine Ev.catchV (ce1 := 1) (sl1 := 6) (ce2 := 0) (sl2 := 0) (rest := [(0, 0), (1, 34)]) 0 [(0, p0), (0, p1)] fL_since_5 lkL_since_63 rfl 7 TX7 10 rfl rfl rfl (Nat.le_of_ble_eq_true rfl) (by decide) rfl [(0, 10, 13, 33)] [] (0, 10, 17, 38) "java/lang/IllegalArgumentException" rfl (fun z hz => by
      rw [List.mem_singleton] at hz
      subst hz
      exact ⟨by decide, "java/lang/IndexOutOfBoundsException", zT_in 537 (by decide +kernel) rfl, by first | decide | simp [zNc]⟩) rfl (by decide) (zT_in 566 (by decide +kernel) rfl) (zNw_in 583 (by decide +kernel) rfl) (Or.inl fL_since_17) rfl rfl rfl ?_ E
    refine Ev.iconst fL_since_19 ?_
    exact Ev.zI fL_since_20 rfl rfl
theorem ll_common {G : zG} {ia : Nat → Int → Int} {p0 p1 : Int} {M2 : zM} {l2 : List zSV} (J : zJT G mX7_common [(1, 0), (0, p0), (0, p1)] M2 l2 "java/lang/IndexOutOfBoundsException" "java/lang/Error" ia) : zJL G mL_common [(1, 0), (0, p0), (0, p1), (1, 34), (9, 0)] M2 l2 (fun r => r) ia := by
  intro w
  obtain ⟨ia1, k, r, hr, hc, hm⟩ := J w
  rcases hc with ⟨hk, E⟩ | ⟨hk, E⟩ | ⟨hk, he, E⟩
  · subst hk
    refine ⟨ia1, (zu w.1 34 0 r, w.2), 0, r, 0, by decide, hr, by decide, ?_, fun _ => (show zu w.1 34 0 r 34 0 = r from zu_same), hm⟩
    refine Ev.aload_n_1 fL_common_0 rfl ?_
    refine Ev.iconst fL_common_1 ?_
    refine Ev.aload_n_1 fL_common_2 rfl ?_
    refine Ev.iload_n fL_common_3 rfl ?_
    refine Ev.iload_n fL_common_4 rfl ?_
    refine Ev.cVi 0 [(0, p0), (0, p1)] [(0, 0), (1, 34)] fL_common_5 lkL_common_66 7 TX7 10 rfl rfl rfl E ?_
    refine Ev.i2l fL_common_8 hr ?_
    refine Ev.lst fL_common_9 ?_
    refine Ev.goto fL_common_10 rfl ?_
    refine Ev.iconst fL_common_17 ?_
    exact Ev.zI fL_common_18 rfl rfl
  · subst hk
    refine ⟨ia1, w, 1, r, 1, by decide, hr, by decide, ?_, fun e => absurd e (by decide), hm⟩
    refine Ev.aload_n_1 fL_common_0 rfl ?_
    refine Ev.iconst fL_common_1 ?_
    refine Ev.aload_n_1 fL_common_2 rfl ?_
    refine Ev.iload_n fL_common_3 rfl ?_
    refine Ev.iload_n fL_common_4 rfl ?_
    refine Ev.catchV (ce1 := 1) (sl1 := 6) (ce2 := 0) (sl2 := 0) (rest := [(0, 0), (1, 34)]) 0 [(0, p0), (0, p1)] fL_common_5 lkL_common_66 rfl 7 TX7 10 rfl rfl rfl (Nat.le_of_ble_eq_true rfl) (by decide) rfl [] [] (0, 10, 13, 33) "java/lang/IndexOutOfBoundsException" rfl (fun z hz => by cases hz) rfl (by decide) (zT_in 537 (by decide +kernel) rfl) (zNw_in 548 (by decide +kernel) rfl) (Or.inl fL_common_13) rfl rfl rfl ?_ E
    refine Ev.iconst fL_common_15 ?_
    exact Ev.zI fL_common_16 rfl rfl
  · subst hk
    exact absurd rfl he
theorem ll_apart {G : zG} {ia : Nat → Int → Int} {p0 p1 : Int} {M2 : zM} {l2 : List zSV} (J : zJT G mX7_apart [(1, 0), (0, p0), (0, p1)] M2 l2 "java/lang/IndexOutOfBoundsException" "java/lang/Error" ia) : zJL G mL_apart [(1, 0), (0, p0), (0, p1), (1, 34), (9, 0)] M2 l2 (fun r => r) ia := by
  intro w
  obtain ⟨ia1, k, r, hr, hc, hm⟩ := J w
  rcases hc with ⟨hk, E⟩ | ⟨hk, E⟩ | ⟨hk, he, E⟩
  · subst hk
    refine ⟨ia1, (zu w.1 34 0 r, w.2), 0, r, 0, by decide, hr, by decide, ?_, fun _ => (show zu w.1 34 0 r 34 0 = r from zu_same), hm⟩
    refine Ev.aload_n_1 fL_apart_0 rfl ?_
    refine Ev.iconst fL_apart_1 ?_
    refine Ev.aload_n_1 fL_apart_2 rfl ?_
    refine Ev.iload_n fL_apart_3 rfl ?_
    refine Ev.iload_n fL_apart_4 rfl ?_
    refine Ev.cVi 0 [(0, p0), (0, p1)] [(0, 0), (1, 34)] fL_apart_5 lkL_apart_69 7 TX7 10 rfl rfl rfl E ?_
    refine Ev.i2l fL_apart_8 hr ?_
    refine Ev.lst fL_apart_9 ?_
    refine Ev.goto fL_apart_10 rfl ?_
    refine Ev.iconst fL_apart_17 ?_
    exact Ev.zI fL_apart_18 rfl rfl
  · subst hk
    refine ⟨ia1, w, 1, r, 1, by decide, hr, by decide, ?_, fun e => absurd e (by decide), hm⟩
    refine Ev.aload_n_1 fL_apart_0 rfl ?_
    refine Ev.iconst fL_apart_1 ?_
    refine Ev.aload_n_1 fL_apart_2 rfl ?_
    refine Ev.iload_n fL_apart_3 rfl ?_
    refine Ev.iload_n fL_apart_4 rfl ?_
    refine Ev.catchV (ce1 := 1) (sl1 := 6) (ce2 := 0) (sl2 := 0) (rest := [(0, 0), (1, 34)]) 0 [(0, p0), (0, p1)] fL_apart_5 lkL_apart_69 rfl 7 TX7 10 rfl rfl rfl (Nat.le_of_ble_eq_true rfl) (by decide) rfl [] [] (0, 10, 13, 33) "java/lang/IndexOutOfBoundsException" rfl (fun z hz => by cases hz) rfl (by decide) (zT_in 537 (by decide +kernel) rfl) (zNw_in 548 (by decide +kernel) rfl) (Or.inl fL_apart_13) rfl rfl rfl ?_ E
    refine Ev.iconst fL_apart_15 ?_
    exact Ev.zI fL_apart_16 rfl rfl
  · subst hk
    exact absurd rfl he
theorem ll_shared {G : zG} {ia : Nat → Int → Int} {p0 p1 : Int} {M2 : zM} {l2 : List zSV} (J : zJT G mX7_shared [(1, 0), (0, p0), (0, p1)] M2 l2 "java/lang/IndexOutOfBoundsException" "java/lang/Error" ia) : zJL G mL_shared [(1, 0), (0, p0), (0, p1), (1, 34), (9, 0)] M2 l2 (fun r => r) ia := by
  intro w
  obtain ⟨ia1, k, r, hr, hc, hm⟩ := J w
  rcases hc with ⟨hk, E⟩ | ⟨hk, E⟩ | ⟨hk, he, E⟩
  · subst hk
    refine ⟨ia1, (zu w.1 34 0 r, w.2), 0, r, 0, by decide, hr, by decide, ?_, fun _ => (show zu w.1 34 0 r 34 0 = r from zu_same), hm⟩
    refine Ev.aload_n_1 fL_shared_0 rfl ?_
    refine Ev.iconst fL_shared_1 ?_
    refine Ev.aload_n_1 fL_shared_2 rfl ?_
    refine Ev.iload_n fL_shared_3 rfl ?_
    refine Ev.iload_n fL_shared_4 rfl ?_
    refine Ev.cVi 0 [(0, p0), (0, p1)] [(0, 0), (1, 34)] fL_shared_5 lkL_shared_72 7 TX7 10 rfl rfl rfl E ?_
    refine Ev.i2l fL_shared_8 hr ?_
    refine Ev.lst fL_shared_9 ?_
    refine Ev.goto fL_shared_10 rfl ?_
    refine Ev.iconst fL_shared_17 ?_
    exact Ev.zI fL_shared_18 rfl rfl
  · subst hk
    refine ⟨ia1, w, 1, r, 1, by decide, hr, by decide, ?_, fun e => absurd e (by decide), hm⟩
    refine Ev.aload_n_1 fL_shared_0 rfl ?_
    refine Ev.iconst fL_shared_1 ?_
    refine Ev.aload_n_1 fL_shared_2 rfl ?_
    refine Ev.iload_n fL_shared_3 rfl ?_
    refine Ev.iload_n fL_shared_4 rfl ?_
    refine Ev.catchV (ce1 := 1) (sl1 := 6) (ce2 := 0) (sl2 := 0) (rest := [(0, 0), (1, 34)]) 0 [(0, p0), (0, p1)] fL_shared_5 lkL_shared_72 rfl 7 TX7 10 rfl rfl rfl (Nat.le_of_ble_eq_true rfl) (by decide) rfl [] [] (0, 10, 13, 33) "java/lang/IndexOutOfBoundsException" rfl (fun z hz => by cases hz) rfl (by decide) (zT_in 537 (by decide +kernel) rfl) (zNw_in 548 (by decide +kernel) rfl) (Or.inl fL_shared_13) rfl rfl rfl ?_ E
    refine Ev.iconst fL_shared_15 ?_
    exact Ev.zI fL_shared_16 rfl rfl
  · subst hk
    exact absurd rfl he
theorem ll_isOf {G : zG} {ia : Nat → Int → Int} {p0 p1 : Int} {M2 : zM} {l2 : List zSV} (J : zJT G mX7_isOf [(1, 0), (0, p0), (0, p1)] M2 l2 "java/lang/IndexOutOfBoundsException" "java/lang/Error" ia) : zJL G mL_isOf [(1, 0), (0, p0), (0, p1), (1, 34), (9, 0)] M2 l2 (fun r => if r = 0 then 0 else 1) ia := by
  intro w
  obtain ⟨ia1, k, r, hr, hc, hm⟩ := J w
  rcases hc with ⟨hk, E⟩ | ⟨hk, E⟩ | ⟨hk, he, E⟩
  · subst hk
    refine ⟨ia1, (zu w.1 34 0 (if r = 0 then 0 else 1), w.2), 0, r, 0, by decide, hr, by decide, ?_, fun _ => (show zu w.1 34 0 (if r = 0 then 0 else 1) 34 0 = _ from zu_same), hm⟩
    refine Ev.aload_n_1 fL_isOf_0 rfl ?_
    refine Ev.iconst fL_isOf_1 ?_
    refine Ev.aload_n_1 fL_isOf_2 rfl ?_
    refine Ev.iload_n fL_isOf_3 rfl ?_
    refine Ev.iload_n fL_isOf_4 rfl ?_
    refine Ev.cVi 0 [(0, p0), (0, p1)] [(0, 0), (1, 34)] fL_isOf_5 lkL_isOf_75 7 TX7 10 rfl rfl rfl E ?_
    refine Ev.if_eq fL_isOf_8 rfl hr (fun h8 => ?_) (fun h8 => ?_)
    · rw [if_pos h8]
      refine Ev.lconst fL_isOf_15 ?_
      refine Ev.lst fL_isOf_16 ?_
      refine Ev.goto fL_isOf_17 rfl ?_
      refine Ev.iconst fL_isOf_24 ?_
      exact Ev.zI fL_isOf_25 rfl rfl
    · rw [if_neg h8]
      refine Ev.lconst fL_isOf_11 ?_
      refine Ev.goto fL_isOf_12 rfl ?_
      refine Ev.lst fL_isOf_16 ?_
      refine Ev.goto fL_isOf_17 rfl ?_
      refine Ev.iconst fL_isOf_24 ?_
      exact Ev.zI fL_isOf_25 rfl rfl
  · subst hk
    refine ⟨ia1, w, 1, r, 1, by decide, hr, by decide, ?_, fun e => absurd e (by decide), hm⟩
    refine Ev.aload_n_1 fL_isOf_0 rfl ?_
    refine Ev.iconst fL_isOf_1 ?_
    refine Ev.aload_n_1 fL_isOf_2 rfl ?_
    refine Ev.iload_n fL_isOf_3 rfl ?_
    refine Ev.iload_n fL_isOf_4 rfl ?_
    refine Ev.catchV (ce1 := 1) (sl1 := 6) (ce2 := 0) (sl2 := 0) (rest := [(0, 0), (1, 34)]) 0 [(0, p0), (0, p1)] fL_isOf_5 lkL_isOf_75 rfl 7 TX7 10 rfl rfl rfl (Nat.le_of_ble_eq_true rfl) (by decide) rfl [] [] (0, 17, 20, 33) "java/lang/IndexOutOfBoundsException" rfl (fun z hz => by cases hz) rfl (by decide) (zT_in 537 (by decide +kernel) rfl) (zNw_in 548 (by decide +kernel) rfl) (Or.inl fL_isOf_20) rfl rfl rfl ?_ E
    refine Ev.iconst fL_isOf_22 ?_
    exact Ev.zI fL_isOf_23 rfl rfl
  · subst hk
    exact absurd rfl he
theorem ll_users {G : zG} {ia : Nat → Int → Int} {p0 p1 : Int} {M2 : zM} {l2 : List zSV} (J : zJT G mX7_users [(1, 0), (0, p0), (0, p1)] M2 l2 "java/lang/IndexOutOfBoundsException" "java/lang/IllegalArgumentException" ia) : zJL G mL_users [(1, 0), (0, p0), (0, p1), (1, 34), (9, 0)] M2 l2 (fun r => r) ia := by
  intro w
  obtain ⟨ia1, k, r, hr, hc, hm⟩ := J w
  rcases hc with ⟨hk, E⟩ | ⟨hk, E⟩ | ⟨hk, he, E⟩
  · subst hk
    refine ⟨ia1, (zu w.1 34 0 r, w.2), 0, r, 0, by decide, hr, by decide, ?_, fun _ => (show zu w.1 34 0 r 34 0 = r from zu_same), hm⟩
    refine Ev.aload_n_1 fL_users_0 rfl ?_
    refine Ev.iconst fL_users_1 ?_
    refine Ev.aload_n_1 fL_users_2 rfl ?_
    refine Ev.iload_n fL_users_3 rfl ?_
    refine Ev.iload_n fL_users_4 rfl ?_
    refine Ev.cVi 0 [(0, p0), (0, p1)] [(0, 0), (1, 34)] fL_users_5 lkL_users_79 7 TX7 10 rfl rfl rfl E ?_
    refine Ev.i2l fL_users_8 hr ?_
    refine Ev.lst fL_users_9 ?_
    refine Ev.goto fL_users_10 rfl ?_
    refine Ev.iconst fL_users_21 ?_
    exact Ev.zI fL_users_22 rfl rfl
  · subst hk
    refine ⟨ia1, w, 1, r, 1, by decide, hr, by decide, ?_, fun e => absurd e (by decide), hm⟩
    refine Ev.aload_n_1 fL_users_0 rfl ?_
    refine Ev.iconst fL_users_1 ?_
    refine Ev.aload_n_1 fL_users_2 rfl ?_
    refine Ev.iload_n fL_users_3 rfl ?_
    refine Ev.iload_n fL_users_4 rfl ?_
    refine Ev.catchV (ce1 := 1) (sl1 := 6) (ce2 := 0) (sl2 := 0) (rest := [(0, 0), (1, 34)]) 0 [(0, p0), (0, p1)] fL_users_5 lkL_users_79 rfl 7 TX7 10 rfl rfl rfl (Nat.le_of_ble_eq_true rfl) (by decide) rfl [] [(0, 10, 17, 38)] (0, 10, 13, 33) "java/lang/IndexOutOfBoundsException" rfl (fun z hz => by cases hz) rfl (by decide) (zT_in 537 (by decide +kernel) rfl) (zNw_in 548 (by decide +kernel) rfl) (Or.inl fL_users_13) rfl rfl rfl ?_ E
    refine Ev.iconst fL_users_15 ?_
    exact Ev.zI fL_users_16 rfl rfl
  · subst hk
    refine ⟨ia1, w, 2, r, 1, by decide, hr, by decide, ?_, fun e => absurd e (by decide), hm⟩
    refine Ev.aload_n_1 fL_users_0 rfl ?_
    refine Ev.iconst fL_users_1 ?_
    refine Ev.aload_n_1 fL_users_2 rfl ?_
    refine Ev.iload_n fL_users_3 rfl ?_
    refine Ev.iload_n fL_users_4 rfl ?_
    refine Ev.catchV (ce1 := 1) (sl1 := 6) (ce2 := 0) (sl2 := 0) (rest := [(0, 0), (1, 34)]) 0 [(0, p0), (0, p1)] fL_users_5 lkL_users_79 rfl 7 TX7 10 rfl rfl rfl (Nat.le_of_ble_eq_true rfl) (by decide) rfl [(0, 10, 13, 33)] [] (0, 10, 17, 38) "java/lang/IllegalArgumentException" rfl (fun z hz => by
      rw [List.mem_singleton] at hz
      subst hz
      exact ⟨by decide, "java/lang/IndexOutOfBoundsException", zT_in 537 (by decide +kernel) rfl, by first | decide | simp [zNc]⟩) rfl (by decide) (zT_in 566 (by decide +kernel) rfl) (zNw_in 583 (by decide +kernel) rfl) (Or.inl fL_users_17) rfl rfl rfl ?_ E
    refine Ev.iconst fL_users_19 ?_
    exact Ev.zI fL_users_20 rfl rfl
theorem ll_wouldMake {G : zG} {ia : Nat → Int → Int} {p0 p1 : Int} {M2 : zM} {l2 : List zSV} (J : zJT G mX7_wouldMake [(1, 0), (0, p0), (0, p1), (9, 0), (9, 0)] M2 l2 "java/lang/IllegalArgumentException" "java/lang/Error" ia) : zJL G mL_wouldMake [(1, 0), (0, p0), (0, p1), (1, 34), (9, 0)] M2 l2 (fun r => r) ia := by
  intro w
  obtain ⟨ia1, k, r, hr, hc, hm⟩ := J w
  rcases hc with ⟨hk, E⟩ | ⟨hk, E⟩ | ⟨hk, he, E⟩
  · subst hk
    refine ⟨ia1, (zu w.1 34 0 r, w.2), 0, r, 0, by decide, hr, by decide, ?_, fun _ => (show zu w.1 34 0 r 34 0 = r from zu_same), hm⟩
    refine Ev.aload_n_1 fL_wouldMake_0 rfl ?_
    refine Ev.iconst fL_wouldMake_1 ?_
    refine Ev.aload_n_1 fL_wouldMake_2 rfl ?_
    refine Ev.iload_n fL_wouldMake_3 rfl ?_
    refine Ev.iload_n fL_wouldMake_4 rfl ?_
    refine Ev.cVi 0 [(0, p0), (0, p1)] [(0, 0), (1, 34)] fL_wouldMake_5 lkL_wouldMake_82 7 TX7 10 rfl rfl rfl E ?_
    refine Ev.i2l fL_wouldMake_8 hr ?_
    refine Ev.lst fL_wouldMake_9 ?_
    refine Ev.goto fL_wouldMake_10 rfl ?_
    refine Ev.iconst fL_wouldMake_17 ?_
    exact Ev.zI fL_wouldMake_18 rfl rfl
  · subst hk
    refine ⟨ia1, w, 1, r, 1, by decide, hr, by decide, ?_, fun e => absurd e (by decide), hm⟩
    refine Ev.aload_n_1 fL_wouldMake_0 rfl ?_
    refine Ev.iconst fL_wouldMake_1 ?_
    refine Ev.aload_n_1 fL_wouldMake_2 rfl ?_
    refine Ev.iload_n fL_wouldMake_3 rfl ?_
    refine Ev.iload_n fL_wouldMake_4 rfl ?_
    refine Ev.catchV (ce1 := 1) (sl1 := 6) (ce2 := 0) (sl2 := 0) (rest := [(0, 0), (1, 34)]) 0 [(0, p0), (0, p1)] fL_wouldMake_5 lkL_wouldMake_82 rfl 7 TX7 10 rfl rfl rfl (Nat.le_of_ble_eq_true rfl) (by decide) rfl [] [] (0, 10, 13, 38) "java/lang/IllegalArgumentException" rfl (fun z hz => by cases hz) rfl (by decide) (zT_in 566 (by decide +kernel) rfl) (zNw_in 583 (by decide +kernel) rfl) (Or.inl fL_wouldMake_13) rfl rfl rfl ?_ E
    refine Ev.iconst fL_wouldMake_15 ?_
    exact Ev.zI fL_wouldMake_16 rfl rfl
  · subst hk
    exact absurd rfl he
theorem ll_alike {G : zG} {ia : Nat → Int → Int} {p0 : Int} {M2 : zM} {l2 : List zSV} (J : zJT G mX7_alike [(1, 0), (0, p0)] M2 l2 "java/lang/IndexOutOfBoundsException" "java/lang/Error" ia) : zJL G mL_alike [(1, 0), (0, p0), (1, 34), (9, 0)] M2 l2 (fun r => r) ia := by
  intro w
  obtain ⟨ia1, k, r, hr, hc, hm⟩ := J w
  rcases hc with ⟨hk, E⟩ | ⟨hk, E⟩ | ⟨hk, he, E⟩
  · subst hk
    refine ⟨ia1, (zu w.1 34 0 r, w.2), 0, r, 0, by decide, hr, by decide, ?_, fun _ => (show zu w.1 34 0 r 34 0 = r from zu_same), hm⟩
    refine Ev.aload_n_1 fL_alike_0 rfl ?_
    refine Ev.iconst fL_alike_1 ?_
    refine Ev.aload_n_1 fL_alike_2 rfl ?_
    refine Ev.iload_n fL_alike_3 rfl ?_
    refine Ev.cVi 0 [(0, p0)] [(0, 0), (1, 34)] fL_alike_4 lkL_alike_85 7 TX7 10 rfl rfl rfl E ?_
    refine Ev.i2l fL_alike_7 hr ?_
    refine Ev.lst fL_alike_8 ?_
    refine Ev.goto fL_alike_9 rfl ?_
    refine Ev.iconst fL_alike_15 ?_
    exact Ev.zI fL_alike_16 rfl rfl
  · subst hk
    refine ⟨ia1, w, 1, r, 1, by decide, hr, by decide, ?_, fun e => absurd e (by decide), hm⟩
    refine Ev.aload_n_1 fL_alike_0 rfl ?_
    refine Ev.iconst fL_alike_1 ?_
    refine Ev.aload_n_1 fL_alike_2 rfl ?_
    refine Ev.iload_n fL_alike_3 rfl ?_
    refine Ev.catchV (ce1 := 1) (sl1 := 6) (ce2 := 0) (sl2 := 0) (rest := [(0, 0), (1, 34)]) 0 [(0, p0)] fL_alike_4 lkL_alike_85 rfl 7 TX7 10 rfl rfl rfl (Nat.le_of_ble_eq_true rfl) (by decide) rfl [] [] (0, 9, 12, 33) "java/lang/IndexOutOfBoundsException" rfl (fun z hz => by cases hz) rfl (by decide) (zT_in 537 (by decide +kernel) rfl) (zNw_in 548 (by decide +kernel) rfl) (Or.inr ⟨3, rfl, fL_alike_12⟩) rfl rfl rfl ?_ E
    refine Ev.iconst fL_alike_13 ?_
    exact Ev.zI fL_alike_14 rfl rfl
  · subst hk
    exact absurd rfl he
theorem ll_richest {G : zG} {ia : Nat → Int → Int} {p0 : Int} {M2 : zM} {l2 : List zSV} (J : zJT G mX7_richest [(1, 0), (0, p0), (9, 0)] M2 l2 "java/util/NoSuchElementException" "java/lang/Error" ia) : zJL G mL_richest [(1, 0), (0, p0), (1, 34), (9, 0)] M2 l2 (fun r => r) ia := by
  intro w
  obtain ⟨ia1, k, r, hr, hc, hm⟩ := J w
  rcases hc with ⟨hk, E⟩ | ⟨hk, E⟩ | ⟨hk, he, E⟩
  · subst hk
    refine ⟨ia1, (zu w.1 34 0 r, w.2), 0, r, 0, by decide, hr, by decide, ?_, fun _ => (show zu w.1 34 0 r 34 0 = r from zu_same), hm⟩
    refine Ev.aload_n_1 fL_richest_0 rfl ?_
    refine Ev.iconst fL_richest_1 ?_
    refine Ev.aload_n_1 fL_richest_2 rfl ?_
    refine Ev.iload_n fL_richest_3 rfl ?_
    refine Ev.cVi 0 [(0, p0)] [(0, 0), (1, 34)] fL_richest_4 lkL_richest_88 7 TX7 10 rfl rfl rfl E ?_
    refine Ev.i2l fL_richest_7 hr ?_
    refine Ev.lst fL_richest_8 ?_
    refine Ev.goto fL_richest_9 rfl ?_
    refine Ev.iconst fL_richest_15 ?_
    exact Ev.zI fL_richest_16 rfl rfl
  · subst hk
    refine ⟨ia1, w, 1, r, 1, by decide, hr, by decide, ?_, fun e => absurd e (by decide), hm⟩
    refine Ev.aload_n_1 fL_richest_0 rfl ?_
    refine Ev.iconst fL_richest_1 ?_
    refine Ev.aload_n_1 fL_richest_2 rfl ?_
    refine Ev.iload_n fL_richest_3 rfl ?_
    refine Ev.catchV (ce1 := 1) (sl1 := 6) (ce2 := 0) (sl2 := 0) (rest := [(0, 0), (1, 34)]) 0 [(0, p0)] fL_richest_4 lkL_richest_88 rfl 7 TX7 10 rfl rfl rfl (Nat.le_of_ble_eq_true rfl) (by decide) rfl [] [] (0, 9, 12, 52) "java/util/NoSuchElementException" rfl (fun z hz => by cases hz) rfl (by decide) (zT_in 634 (by decide +kernel) rfl) (zNw_in 645 (by decide +kernel) rfl) (Or.inr ⟨3, rfl, fL_richest_12⟩) rfl rfl rfl ?_ E
    refine Ev.iconst fL_richest_13 ?_
    exact Ev.zI fL_richest_14 rfl rfl
  · subst hk
    exact absurd rfl he
theorem ll_busiest {G : zG} {ia : Nat → Int → Int} {M2 : zM} {l2 : List zSV} (J : zJT G mX7_busiest [(1, 0)] M2 l2 "java/util/NoSuchElementException" "java/lang/Error" ia) : zJL G mL_busiest [(1, 0), (1, 34), (9, 0)] M2 l2 (fun r => r) ia := by
  intro w
  obtain ⟨ia1, k, r, hr, hc, hm⟩ := J w
  rcases hc with ⟨hk, E⟩ | ⟨hk, E⟩ | ⟨hk, he, E⟩
  · subst hk
    refine ⟨ia1, (zu w.1 34 0 r, w.2), 0, r, 0, by decide, hr, by decide, ?_, fun _ => (show zu w.1 34 0 r 34 0 = r from zu_same), hm⟩
    refine Ev.aload_n_1 fL_busiest_0 rfl ?_
    refine Ev.iconst fL_busiest_1 ?_
    refine Ev.aload_n_1 fL_busiest_2 rfl ?_
    refine Ev.cVi 0 [] [(0, 0), (1, 34)] fL_busiest_3 lkL_busiest_91 7 TX7 10 rfl rfl rfl E ?_
    refine Ev.i2l fL_busiest_6 hr ?_
    refine Ev.lst fL_busiest_7 ?_
    refine Ev.goto fL_busiest_8 rfl ?_
    refine Ev.iconst fL_busiest_14 ?_
    exact Ev.zI fL_busiest_15 rfl rfl
  · subst hk
    refine ⟨ia1, w, 1, r, 1, by decide, hr, by decide, ?_, fun e => absurd e (by decide), hm⟩
    refine Ev.aload_n_1 fL_busiest_0 rfl ?_
    refine Ev.iconst fL_busiest_1 ?_
    refine Ev.aload_n_1 fL_busiest_2 rfl ?_
    refine Ev.catchV (ce1 := 1) (sl1 := 6) (ce2 := 0) (sl2 := 0) (rest := [(0, 0), (1, 34)]) 0 [] fL_busiest_3 lkL_busiest_91 rfl 7 TX7 10 rfl rfl rfl (Nat.le_of_ble_eq_true rfl) (by decide) rfl [] [] (0, 8, 11, 52) "java/util/NoSuchElementException" rfl (fun z hz => by cases hz) rfl (by decide) (zT_in 634 (by decide +kernel) rfl) (zNw_in 645 (by decide +kernel) rfl) (Or.inr ⟨2, rfl, fL_busiest_11⟩) rfl rfl rfl ?_ E
    refine Ev.iconst fL_busiest_12 ?_
    exact Ev.zI fL_busiest_13 rfl rfl
  · subst hk
    exact absurd rfl he
theorem ll_append {G : zG} {ia : Nat → Int → Int} {p0 : Int} {M2 : zM} {l2 : List zSV} (J : zJT G mX7_append [(1, 0), (0, p0)] M2 l2 "java/lang/IllegalStateException" "java/lang/Error" ia) : zJL G mL_append [(1, 0), (0, p0), (1, 34), (9, 0)] M2 l2 (fun r => r) ia := by
  intro w
  obtain ⟨ia1, k, r, hr, hc, hm⟩ := J w
  rcases hc with ⟨hk, E⟩ | ⟨hk, E⟩ | ⟨hk, he, E⟩
  · subst hk
    refine ⟨ia1, (zu w.1 34 0 r, w.2), 0, r, 0, by decide, hr, by decide, ?_, fun _ => (show zu w.1 34 0 r 34 0 = r from zu_same), hm⟩
    refine Ev.aload_n_1 fL_append_0 rfl ?_
    refine Ev.iconst fL_append_1 ?_
    refine Ev.aload_n_1 fL_append_2 rfl ?_
    refine Ev.iload_n fL_append_3 rfl ?_
    refine Ev.cVi 0 [(0, p0)] [(0, 0), (1, 34)] fL_append_4 lkL_append_95 7 TX7 10 rfl rfl rfl E ?_
    refine Ev.i2l fL_append_7 hr ?_
    refine Ev.lst fL_append_8 ?_
    refine Ev.goto fL_append_9 rfl ?_
    refine Ev.iconst fL_append_15 ?_
    exact Ev.zI fL_append_16 rfl rfl
  · subst hk
    refine ⟨ia1, w, 1, r, 1, by decide, hr, by decide, ?_, fun e => absurd e (by decide), hm⟩
    refine Ev.aload_n_1 fL_append_0 rfl ?_
    refine Ev.iconst fL_append_1 ?_
    refine Ev.aload_n_1 fL_append_2 rfl ?_
    refine Ev.iload_n fL_append_3 rfl ?_
    refine Ev.catchV (ce1 := 1) (sl1 := 6) (ce2 := 0) (sl2 := 0) (rest := [(0, 0), (1, 34)]) 0 [(0, p0)] fL_append_4 lkL_append_95 rfl 7 TX7 10 rfl rfl rfl (Nat.le_of_ble_eq_true rfl) (by decide) rfl [] [] (0, 9, 12, 99) "java/lang/IllegalStateException" rfl (fun z hz => by cases hz) rfl (by decide) (zT_in 827 (by decide +kernel) rfl) (zNw_in 838 (by decide +kernel) rfl) (Or.inr ⟨3, rfl, fL_append_12⟩) rfl rfl rfl ?_ E
    refine Ev.iconst fL_append_13 ?_
    exact Ev.zI fL_append_14 rfl rfl
  · subst hk
    exact absurd rfl he
theorem ll_commands {G : zG} {ia : Nat → Int → Int} {M2 : zM} {l2 : List zSV} (J : zJT G mX7_commands [(1, 0), (9, 0), (9, 0)] M2 l2 "java/lang/IllegalArgumentException" "java/lang/UnsupportedOperationException" ia) : zJL G mL_commands [(1, 0), (1, 34), (9, 0)] M2 l2 (fun r => r) ia := by
  intro w
  obtain ⟨ia1, k, r, hr, hc, hm⟩ := J w
  rcases hc with ⟨hk, E⟩ | ⟨hk, E⟩ | ⟨hk, he, E⟩
  · subst hk
    refine ⟨ia1, (zu w.1 34 0 r, w.2), 0, r, 0, by decide, hr, by decide, ?_, fun _ => (show zu w.1 34 0 r 34 0 = r from zu_same), hm⟩
    refine Ev.aload_n_1 fL_commands_0 rfl ?_
    refine Ev.iconst fL_commands_1 ?_
    refine Ev.aload_n_1 fL_commands_2 rfl ?_
    refine Ev.cVi 0 [] [(0, 0), (1, 34)] fL_commands_3 lkL_commands_101 7 TX7 10 rfl rfl rfl E ?_
    refine Ev.i2l fL_commands_6 hr ?_
    refine Ev.lst fL_commands_7 ?_
    refine Ev.goto fL_commands_8 rfl ?_
    refine Ev.iconst fL_commands_17 ?_
    exact Ev.zI fL_commands_18 rfl rfl
  · subst hk
    refine ⟨ia1, w, 1, r, 1, by decide, hr, by decide, ?_, fun e => absurd e (by decide), hm⟩
    refine Ev.aload_n_1 fL_commands_0 rfl ?_
    refine Ev.iconst fL_commands_1 ?_
    refine Ev.aload_n_1 fL_commands_2 rfl ?_
    refine Ev.catchV (ce1 := 1) (sl1 := 6) (ce2 := 0) (sl2 := 0) (rest := [(0, 0), (1, 34)]) 0 [] fL_commands_3 lkL_commands_101 rfl 7 TX7 10 rfl rfl rfl (Nat.le_of_ble_eq_true rfl) (by decide) rfl [] [(0, 8, 14, 13)] (0, 8, 11, 38) "java/lang/IllegalArgumentException" rfl (fun z hz => by cases hz) rfl (by decide) (zT_in 566 (by decide +kernel) rfl) (zNw_in 583 (by decide +kernel) rfl) (Or.inr ⟨2, rfl, fL_commands_11⟩) rfl rfl rfl ?_ E
    refine Ev.iconst fL_commands_12 ?_
    exact Ev.zI fL_commands_13 rfl rfl
  · subst hk
    refine ⟨ia1, w, 2, r, 1, by decide, hr, by decide, ?_, fun e => absurd e (by decide), hm⟩
    refine Ev.aload_n_1 fL_commands_0 rfl ?_
    refine Ev.iconst fL_commands_1 ?_
    refine Ev.aload_n_1 fL_commands_2 rfl ?_
    refine Ev.catchV (ce1 := 1) (sl1 := 6) (ce2 := 0) (sl2 := 0) (rest := [(0, 0), (1, 34)]) 0 [] fL_commands_3 lkL_commands_101 rfl 7 TX7 10 rfl rfl rfl (Nat.le_of_ble_eq_true rfl) (by decide) rfl [(0, 8, 11, 38)] [] (0, 8, 14, 13) "java/lang/UnsupportedOperationException" rfl (fun z hz => by
      rw [List.mem_singleton] at hz
      subst hz
      exact ⟨by decide, "java/lang/IllegalArgumentException", zT_in 566 (by decide +kernel) rfl, by first | decide | simp [zNc]⟩) rfl (by decide) (zT_in 294 (by decide +kernel) rfl) (zNw_in 387 (by decide +kernel) rfl) (Or.inr ⟨2, rfl, fL_commands_14⟩) rfl rfl rfl ?_ E
    refine Ev.iconst fL_commands_15 ?_
    exact Ev.zI fL_commands_16 rfl rfl
theorem ll_reason {G : zG} {ia : Nat → Int → Int} {p0 : Int} {M2 : zM} {l2 : List zSV} (J : zJT G mX7_reason [(1, 0), (0, p0)] M2 l2 "java/lang/IllegalArgumentException" "java/util/NoSuchElementException" ia) : zJL G mL_reason [(1, 0), (0, p0), (1, 34), (9, 0)] M2 l2 (fun r => r) ia := by
  intro w
  obtain ⟨ia1, k, r, hr, hc, hm⟩ := J w
  rcases hc with ⟨hk, E⟩ | ⟨hk, E⟩ | ⟨hk, he, E⟩
  · subst hk
    refine ⟨ia1, (zu w.1 34 0 r, w.2), 0, r, 0, by decide, hr, by decide, ?_, fun _ => (show zu w.1 34 0 r 34 0 = r from zu_same), hm⟩
    refine Ev.aload_n_1 fL_reason_0 rfl ?_
    refine Ev.iconst fL_reason_1 ?_
    refine Ev.aload_n_1 fL_reason_2 rfl ?_
    refine Ev.iload_n fL_reason_3 rfl ?_
    refine Ev.cVi 0 [(0, p0)] [(0, 0), (1, 34)] fL_reason_4 lkL_reason_104 7 TX7 10 rfl rfl rfl E ?_
    refine Ev.i2l fL_reason_7 hr ?_
    refine Ev.lst fL_reason_8 ?_
    refine Ev.goto fL_reason_9 rfl ?_
    refine Ev.iconst fL_reason_18 ?_
    exact Ev.zI fL_reason_19 rfl rfl
  · subst hk
    refine ⟨ia1, w, 1, r, 1, by decide, hr, by decide, ?_, fun e => absurd e (by decide), hm⟩
    refine Ev.aload_n_1 fL_reason_0 rfl ?_
    refine Ev.iconst fL_reason_1 ?_
    refine Ev.aload_n_1 fL_reason_2 rfl ?_
    refine Ev.iload_n fL_reason_3 rfl ?_
    refine Ev.catchV (ce1 := 1) (sl1 := 6) (ce2 := 0) (sl2 := 0) (rest := [(0, 0), (1, 34)]) 0 [(0, p0)] fL_reason_4 lkL_reason_104 rfl 7 TX7 10 rfl rfl rfl (Nat.le_of_ble_eq_true rfl) (by decide) rfl [] [(0, 9, 15, 52)] (0, 9, 12, 38) "java/lang/IllegalArgumentException" rfl (fun z hz => by cases hz) rfl (by decide) (zT_in 566 (by decide +kernel) rfl) (zNw_in 583 (by decide +kernel) rfl) (Or.inr ⟨3, rfl, fL_reason_12⟩) rfl rfl rfl ?_ E
    refine Ev.iconst fL_reason_13 ?_
    exact Ev.zI fL_reason_14 rfl rfl
  · subst hk
    refine ⟨ia1, w, 2, r, 1, by decide, hr, by decide, ?_, fun e => absurd e (by decide), hm⟩
    refine Ev.aload_n_1 fL_reason_0 rfl ?_
    refine Ev.iconst fL_reason_1 ?_
    refine Ev.aload_n_1 fL_reason_2 rfl ?_
    refine Ev.iload_n fL_reason_3 rfl ?_
    refine Ev.catchV (ce1 := 1) (sl1 := 6) (ce2 := 0) (sl2 := 0) (rest := [(0, 0), (1, 34)]) 0 [(0, p0)] fL_reason_4 lkL_reason_104 rfl 7 TX7 10 rfl rfl rfl (Nat.le_of_ble_eq_true rfl) (by decide) rfl [(0, 9, 12, 38)] [] (0, 9, 15, 52) "java/util/NoSuchElementException" rfl (fun z hz => by
      rw [List.mem_singleton] at hz
      subst hz
      exact ⟨by decide, "java/lang/IllegalArgumentException", zT_in 566 (by decide +kernel) rfl, by first | decide | simp [zNc]⟩) rfl (by decide) (zT_in 634 (by decide +kernel) rfl) (zNw_in 645 (by decide +kernel) rfl) (Or.inr ⟨3, rfl, fL_reason_15⟩) rfl rfl rfl ?_ E
    refine Ev.iconst fL_reason_16 ?_
    exact Ev.zI fL_reason_17 rfl rfl
theorem ll_line {G : zG} {ia : Nat → Int → Int} {p0 : Int} {M2 : zM} {l2 : List zSV} (J : zJT G mX7_line [(1, 0), (0, p0), (9, 0), (9, 0)] M2 l2 "java/lang/IndexOutOfBoundsException" "java/lang/Error" ia) : zJL G mL_line [(1, 0), (0, p0), (1, 34), (9, 0)] M2 l2 (fun r => r) ia := by
  intro w
  obtain ⟨ia1, k, r, hr, hc, hm⟩ := J w
  rcases hc with ⟨hk, E⟩ | ⟨hk, E⟩ | ⟨hk, he, E⟩
  · subst hk
    refine ⟨ia1, (zu w.1 34 0 r, w.2), 0, r, 0, by decide, hr, by decide, ?_, fun _ => (show zu w.1 34 0 r 34 0 = r from zu_same), hm⟩
    refine Ev.aload_n_1 fL_line_0 rfl ?_
    refine Ev.iconst fL_line_1 ?_
    refine Ev.aload_n_1 fL_line_2 rfl ?_
    refine Ev.iload_n fL_line_3 rfl ?_
    refine Ev.cVi 0 [(0, p0)] [(0, 0), (1, 34)] fL_line_4 lkL_line_107 7 TX7 10 rfl rfl rfl E ?_
    refine Ev.i2l fL_line_7 hr ?_
    refine Ev.lst fL_line_8 ?_
    refine Ev.goto fL_line_9 rfl ?_
    refine Ev.iconst fL_line_15 ?_
    exact Ev.zI fL_line_16 rfl rfl
  · subst hk
    refine ⟨ia1, w, 1, r, 1, by decide, hr, by decide, ?_, fun e => absurd e (by decide), hm⟩
    refine Ev.aload_n_1 fL_line_0 rfl ?_
    refine Ev.iconst fL_line_1 ?_
    refine Ev.aload_n_1 fL_line_2 rfl ?_
    refine Ev.iload_n fL_line_3 rfl ?_
    refine Ev.catchV (ce1 := 1) (sl1 := 6) (ce2 := 0) (sl2 := 0) (rest := [(0, 0), (1, 34)]) 0 [(0, p0)] fL_line_4 lkL_line_107 rfl 7 TX7 10 rfl rfl rfl (Nat.le_of_ble_eq_true rfl) (by decide) rfl [] [] (0, 9, 12, 33) "java/lang/IndexOutOfBoundsException" rfl (fun z hz => by cases hz) rfl (by decide) (zT_in 537 (by decide +kernel) rfl) (zNw_in 548 (by decide +kernel) rfl) (Or.inr ⟨3, rfl, fL_line_12⟩) rfl rfl rfl ?_ E
    refine Ev.iconst fL_line_13 ?_
    exact Ev.zI fL_line_14 rfl rfl
  · subst hk
    exact absurd rfl he
theorem ll_lineage {G : zG} {ia : Nat → Int → Int} {p0 : Int} {M2 : zM} {l2 : List zSV} (J : zJT G mX7_lineage [(1, 0), (0, p0), (9, 0), (9, 0)] M2 l2 "java/lang/IndexOutOfBoundsException" "java/lang/Error" ia) : zJL G mL_lineage [(1, 0), (0, p0), (1, 34), (9, 0)] M2 l2 (fun r => r) ia := by
  intro w
  obtain ⟨ia1, k, r, hr, hc, hm⟩ := J w
  rcases hc with ⟨hk, E⟩ | ⟨hk, E⟩ | ⟨hk, he, E⟩
  · subst hk
    refine ⟨ia1, (zu w.1 34 0 r, w.2), 0, r, 0, by decide, hr, by decide, ?_, fun _ => (show zu w.1 34 0 r 34 0 = r from zu_same), hm⟩
    refine Ev.aload_n_1 fL_lineage_0 rfl ?_
    refine Ev.iconst fL_lineage_1 ?_
    refine Ev.aload_n_1 fL_lineage_2 rfl ?_
    refine Ev.iload_n fL_lineage_3 rfl ?_
    refine Ev.cVi 0 [(0, p0)] [(0, 0), (1, 34)] fL_lineage_4 lkL_lineage_110 7 TX7 10 rfl rfl rfl E ?_
    refine Ev.i2l fL_lineage_7 hr ?_
    refine Ev.lst fL_lineage_8 ?_
    refine Ev.goto fL_lineage_9 rfl ?_
    refine Ev.iconst fL_lineage_15 ?_
    exact Ev.zI fL_lineage_16 rfl rfl
  · subst hk
    refine ⟨ia1, w, 1, r, 1, by decide, hr, by decide, ?_, fun e => absurd e (by decide), hm⟩
    refine Ev.aload_n_1 fL_lineage_0 rfl ?_
    refine Ev.iconst fL_lineage_1 ?_
    refine Ev.aload_n_1 fL_lineage_2 rfl ?_
    refine Ev.iload_n fL_lineage_3 rfl ?_
    refine Ev.catchV (ce1 := 1) (sl1 := 6) (ce2 := 0) (sl2 := 0) (rest := [(0, 0), (1, 34)]) 0 [(0, p0)] fL_lineage_4 lkL_lineage_110 rfl 7 TX7 10 rfl rfl rfl (Nat.le_of_ble_eq_true rfl) (by decide) rfl [] [] (0, 9, 12, 33) "java/lang/IndexOutOfBoundsException" rfl (fun z hz => by cases hz) rfl (by decide) (zT_in 537 (by decide +kernel) rfl) (zNw_in 548 (by decide +kernel) rfl) (Or.inr ⟨3, rfl, fL_lineage_12⟩) rfl rfl rfl ?_ E
    refine Ev.iconst fL_lineage_13 ?_
    exact Ev.zI fL_lineage_14 rfl rfl
  · subst hk
    exact absurd rfl he
theorem ll_character {G : zG} {ia : Nat → Int → Int} {p0 : Int} {M2 : zM} {l2 : List zSV} (J : zJT G mX7_character [(1, 0), (0, p0)] M2 l2 "java/lang/IndexOutOfBoundsException" "java/lang/Error" ia) : zJL G mL_character [(1, 0), (0, p0), (1, 34), (9, 0)] M2 l2 (fun r => r) ia := by
  intro w
  obtain ⟨ia1, k, r, hr, hc, hm⟩ := J w
  rcases hc with ⟨hk, E⟩ | ⟨hk, E⟩ | ⟨hk, he, E⟩
  · subst hk
    refine ⟨ia1, (zu w.1 34 0 r, w.2), 0, r, 0, by decide, hr, by decide, ?_, fun _ => (show zu w.1 34 0 r 34 0 = r from zu_same), hm⟩
    refine Ev.aload_n_1 fL_character_0 rfl ?_
    refine Ev.iconst fL_character_1 ?_
    refine Ev.aload_n_1 fL_character_2 rfl ?_
    refine Ev.iload_n fL_character_3 rfl ?_
    refine Ev.cVi 0 [(0, p0)] [(0, 0), (1, 34)] fL_character_4 lkL_character_113 7 TX7 10 rfl rfl rfl E ?_
    refine Ev.i2l fL_character_7 hr ?_
    refine Ev.lst fL_character_8 ?_
    refine Ev.goto fL_character_9 rfl ?_
    refine Ev.iconst fL_character_15 ?_
    exact Ev.zI fL_character_16 rfl rfl
  · subst hk
    refine ⟨ia1, w, 1, r, 1, by decide, hr, by decide, ?_, fun e => absurd e (by decide), hm⟩
    refine Ev.aload_n_1 fL_character_0 rfl ?_
    refine Ev.iconst fL_character_1 ?_
    refine Ev.aload_n_1 fL_character_2 rfl ?_
    refine Ev.iload_n fL_character_3 rfl ?_
    refine Ev.catchV (ce1 := 1) (sl1 := 6) (ce2 := 0) (sl2 := 0) (rest := [(0, 0), (1, 34)]) 0 [(0, p0)] fL_character_4 lkL_character_113 rfl 7 TX7 10 rfl rfl rfl (Nat.le_of_ble_eq_true rfl) (by decide) rfl [] [] (0, 9, 12, 33) "java/lang/IndexOutOfBoundsException" rfl (fun z hz => by cases hz) rfl (by decide) (zT_in 537 (by decide +kernel) rfl) (zNw_in 548 (by decide +kernel) rfl) (Or.inr ⟨3, rfl, fL_character_12⟩) rfl rfl rfl ?_ E
    refine Ev.iconst fL_character_13 ?_
    exact Ev.zI fL_character_14 rfl rfl
  · subst hk
    exact absurd rfl he
theorem ll_account {G : zG} {ia : Nat → Int → Int} {p0 : Int} {M2 : zM} {l2 : List zSV} (J : zJT G mX7_account [(1, 0), (0, p0)] M2 l2 "java/lang/IllegalArgumentException" "java/lang/Error" ia) : zJL G mL_account [(1, 0), (0, p0), (1, 34), (9, 0)] M2 l2 (fun r => r) ia := by
  intro w
  obtain ⟨ia1, k, r, hr, hc, hm⟩ := J w
  rcases hc with ⟨hk, E⟩ | ⟨hk, E⟩ | ⟨hk, he, E⟩
  · subst hk
    refine ⟨ia1, (zu w.1 34 0 r, w.2), 0, r, 0, by decide, hr, by decide, ?_, fun _ => (show zu w.1 34 0 r 34 0 = r from zu_same), hm⟩
    refine Ev.aload_n_1 fL_account_0 rfl ?_
    refine Ev.iconst fL_account_1 ?_
    refine Ev.aload_n_1 fL_account_2 rfl ?_
    refine Ev.iload_n fL_account_3 rfl ?_
    refine Ev.cVi 0 [(0, p0)] [(0, 0), (1, 34)] fL_account_4 lkL_account_121 7 TX7 10 rfl rfl rfl E ?_
    refine Ev.i2l fL_account_7 hr ?_
    refine Ev.lst fL_account_8 ?_
    refine Ev.goto fL_account_9 rfl ?_
    refine Ev.iconst fL_account_15 ?_
    exact Ev.zI fL_account_16 rfl rfl
  · subst hk
    refine ⟨ia1, w, 1, r, 1, by decide, hr, by decide, ?_, fun e => absurd e (by decide), hm⟩
    refine Ev.aload_n_1 fL_account_0 rfl ?_
    refine Ev.iconst fL_account_1 ?_
    refine Ev.aload_n_1 fL_account_2 rfl ?_
    refine Ev.iload_n fL_account_3 rfl ?_
    refine Ev.catchV (ce1 := 1) (sl1 := 6) (ce2 := 0) (sl2 := 0) (rest := [(0, 0), (1, 34)]) 0 [(0, p0)] fL_account_4 lkL_account_121 rfl 7 TX7 10 rfl rfl rfl (Nat.le_of_ble_eq_true rfl) (by decide) rfl [] [] (0, 9, 12, 38) "java/lang/IllegalArgumentException" rfl (fun z hz => by cases hz) rfl (by decide) (zT_in 566 (by decide +kernel) rfl) (zNw_in 583 (by decide +kernel) rfl) (Or.inr ⟨3, rfl, fL_account_12⟩) rfl rfl rfl ?_ E
    refine Ev.iconst fL_account_13 ?_
    exact Ev.zI fL_account_14 rfl rfl
  · subst hk
    exact absurd rfl he
theorem ll_undo {G : zG} {ia : Nat → Int → Int} {M2 : zM} {l2 : List zSV} (J : zJT G mX7_undo [(1, 0)] M2 l2 "java/lang/IllegalStateException" "java/lang/Error" ia) : zJL G mL_undo [(1, 0), (1, 34), (9, 0)] M2 l2 (fun r => r) ia := by
  intro w
  obtain ⟨ia1, k, r, hr, hc, hm⟩ := J w
  rcases hc with ⟨hk, E⟩ | ⟨hk, E⟩ | ⟨hk, he, E⟩
  · subst hk
    refine ⟨ia1, (zu w.1 34 0 r, w.2), 0, r, 0, by decide, hr, by decide, ?_, fun _ => (show zu w.1 34 0 r 34 0 = r from zu_same), hm⟩
    refine Ev.aload_n_1 fL_undo_0 rfl ?_
    refine Ev.iconst fL_undo_1 ?_
    refine Ev.aload_n_1 fL_undo_2 rfl ?_
    refine Ev.cVi 0 [] [(0, 0), (1, 34)] fL_undo_3 lkL_undo_124 7 TX7 10 rfl rfl rfl E ?_
    refine Ev.i2l fL_undo_6 hr ?_
    refine Ev.lst fL_undo_7 ?_
    refine Ev.goto fL_undo_8 rfl ?_
    refine Ev.iconst fL_undo_14 ?_
    exact Ev.zI fL_undo_15 rfl rfl
  · subst hk
    refine ⟨ia1, w, 1, r, 1, by decide, hr, by decide, ?_, fun e => absurd e (by decide), hm⟩
    refine Ev.aload_n_1 fL_undo_0 rfl ?_
    refine Ev.iconst fL_undo_1 ?_
    refine Ev.aload_n_1 fL_undo_2 rfl ?_
    refine Ev.catchV (ce1 := 1) (sl1 := 6) (ce2 := 0) (sl2 := 0) (rest := [(0, 0), (1, 34)]) 0 [] fL_undo_3 lkL_undo_124 rfl 7 TX7 10 rfl rfl rfl (Nat.le_of_ble_eq_true rfl) (by decide) rfl [] [] (0, 8, 11, 99) "java/lang/IllegalStateException" rfl (fun z hz => by cases hz) rfl (by decide) (zT_in 827 (by decide +kernel) rfl) (zNw_in 838 (by decide +kernel) rfl) (Or.inr ⟨2, rfl, fL_undo_11⟩) rfl rfl rfl ?_ E
    refine Ev.iconst fL_undo_12 ?_
    exact Ev.zI fL_undo_13 rfl rfl
  · subst hk
    exact absurd rfl he
theorem ll_restore {G : zG} {ia : Nat → Int → Int} {M2 : zM} {l2 : List zSV} (J : zJT G mX7_restore [(1, 0)] M2 l2 "java/lang/IllegalStateException" "java/lang/Error" ia) : zJL G mL_restore [(1, 0), (1, 34), (9, 0)] M2 l2 (fun r => r) ia := by
  intro w
  obtain ⟨ia1, k, r, hr, hc, hm⟩ := J w
  rcases hc with ⟨hk, E⟩ | ⟨hk, E⟩ | ⟨hk, he, E⟩
  · subst hk
    refine ⟨ia1, (zu w.1 34 0 r, w.2), 0, r, 0, by decide, hr, by decide, ?_, fun _ => (show zu w.1 34 0 r 34 0 = r from zu_same), hm⟩
    refine Ev.aload_n_1 fL_restore_0 rfl ?_
    refine Ev.iconst fL_restore_1 ?_
    refine Ev.aload_n_1 fL_restore_2 rfl ?_
    refine Ev.cVi 0 [] [(0, 0), (1, 34)] fL_restore_3 lkL_restore_127 7 TX7 10 rfl rfl rfl E ?_
    refine Ev.i2l fL_restore_6 hr ?_
    refine Ev.lst fL_restore_7 ?_
    refine Ev.goto fL_restore_8 rfl ?_
    refine Ev.iconst fL_restore_14 ?_
    exact Ev.zI fL_restore_15 rfl rfl
  · subst hk
    refine ⟨ia1, w, 1, r, 1, by decide, hr, by decide, ?_, fun e => absurd e (by decide), hm⟩
    refine Ev.aload_n_1 fL_restore_0 rfl ?_
    refine Ev.iconst fL_restore_1 ?_
    refine Ev.aload_n_1 fL_restore_2 rfl ?_
    refine Ev.catchV (ce1 := 1) (sl1 := 6) (ce2 := 0) (sl2 := 0) (rest := [(0, 0), (1, 34)]) 0 [] fL_restore_3 lkL_restore_127 rfl 7 TX7 10 rfl rfl rfl (Nat.le_of_ble_eq_true rfl) (by decide) rfl [] [] (0, 8, 11, 99) "java/lang/IllegalStateException" rfl (fun z hz => by cases hz) rfl (by decide) (zT_in 827 (by decide +kernel) rfl) (zNw_in 838 (by decide +kernel) rfl) (Or.inr ⟨2, rfl, fL_restore_11⟩) rfl rfl rfl ?_ E
    refine Ev.iconst fL_restore_12 ?_
    exact Ev.zI fL_restore_13 rfl rfl
  · subst hk
    exact absurd rfl he
