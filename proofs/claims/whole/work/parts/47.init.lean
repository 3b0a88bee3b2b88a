/-! THE CONSTRUCTORS (printed by wip/whole/gen/init.py) -/
theorem Ev.xadd {G : zG} {M : zM} {pc pc9 : Nat} {ls st : List zSV} {h : zHp} {O : zO} {x y v : Int} (hf : zf M pc = some (.iadd, 1, pc9)) (hv : x + y = v) (k : Ev G M pc9 ls ((0, v) :: st) h O) : Ev G M pc ls ((0, y) :: (0, x) :: st) h O := by
  subst hv
  exact Ev.iadd hf k
theorem Ev.xmul {G : zG} {M : zM} {pc pc9 : Nat} {ls st : List zSV} {h : zHp} {O : zO} {x y v : Int} (hf : zf M pc = some (.imul, 1, pc9)) (hv : x * y = v) (k : Ev G M pc9 ls ((0, v) :: st) h O) : Ev G M pc ls ((0, y) :: (0, x) :: st) h O := by
  subst hv
  exact Ev.imul hf k
theorem Ev.xld {G : zG} {M : zM} {pc pc9 : Nat} {ls st : List zSV} {sh : List (Nat × Nat)} {rf : Nat → Nat → Option Nat} {ia : Nat → Int → Int} {w : (Nat → Int → Int) × (Nat → Int → Int)} {O : zO} {i v : Int} (c n : Nat) (hf : zf M pc = some (.iaload, 1, pc9)) (hc : sh[c]? = some (1, n)) (hn2 : n ≤ 2147483647) (hi : 0 ≤ i ∧ i < (n : Int)) (hv : ia c i = v) (kk : Ev G M pc9 ls ((0, v) :: st) (sh, rf, ia, w) O) : Ev G M pc ls ((0, i) :: (1, (c : Int)) :: st) (sh, rf, ia, w) O := by
  subst hv
  exact Ev.iaload c n hf hc hn2 hi kk
def zkr1 : Nat → Nat → Option Nat := (fun _ _ => none)
def zki2 : Nat → Int → Int := (fun _ _ => 0)
def zkr3 : Nat → Nat → Option Nat := (zcr zkr1 0)
def zki4 : Nat → Int → Int := (zci zki2 0)
def zkr5 : Nat → Nat → Option Nat := (zcr zkr3 1)
def zki6 : Nat → Int → Int := (zci zki4 1)
def zkr7 : Nat → Nat → Option Nat := (zcr zkr5 2)
def zki8 : Nat → Int → Int := (zci zki6 2)
def zkr9 : Nat → Nat → Option Nat := (zcr zkr7 3)
def zki10 : Nat → Int → Int := (zci zki8 3)
def zkr11 : Nat → Nat → Option Nat := (zur (zcr (zur (zcr (zur (zcr (zur (zcr zkr9 4) 3 1 (some 4)) 5) 3 2 (some 5)) 6) 3 3 (some 6)) 7) 3 4 (some 7))
def zki12 : Nat → Int → Int := (zu (zci (zci (zci (zci (zu zki10 3 0 1) 4) 5) 6) 7) 4 0 (-1))
theorem zn_X6_init_3 {G : zG} {w : (Nat → Int → Int) × (Nat → Int → Int)} : Ev G mX6_init 0 [(1, 3)] [] ([(0, 7), (0, 1), (0, 0), (0, 6)], zkr9, zki10, w) (.inl none, ([(0, 7), (0, 1), (0, 0), (0, 6), (1, 40), (1, 40), (1, 1240), (1, 1240)], zkr11, zki12, w), 4, 2560) := by
  refine Ev.aload_n_1 fX6_init_0 rfl ?_
  refine Ev.objInit 3 fX6_init_1 (zlX6_3 rfl) zt_objInit.1 zt_objInit.2 (by decide) (by decide) ?_
  refine Ev.aload_n_1 fX6_init_4 rfl ?_
  refine Ev.iconst fX6_init_5 ?_
  refine Ev.putI 3 0 fX6_init_6 (flX6_9 rfl) rfl rfl trivial ?_
  refine Ev.aload_n_1 fX6_init_9 rfl ?_
  refine Ev.bipush fX6_init_10 rfl ?_
  refine Ev.newaI 4 40 3 2520 rfl fX6_init_12 zt_arr_int rfl rfl (by decide +kernel) (by decide) rfl rfl ?_
  refine Ev.putF 3 1 4 fX6_init_14 (ffX6_15 rfl rfl) rfl rfl ?_
  refine Ev.aload_n_1 fX6_init_17 rfl ?_
  refine Ev.bipush fX6_init_18 rfl ?_
  refine Ev.newaI 5 40 2 2480 rfl fX6_init_20 zt_arr_int rfl rfl (by decide +kernel) (by decide) rfl rfl ?_
  refine Ev.putF 3 2 5 fX6_init_22 (ffX6_19 rfl rfl) rfl rfl ?_
  refine Ev.aload_n_1 fX6_init_25 rfl ?_
  refine Ev.sipush fX6_init_26 rfl ?_
  refine Ev.newaI 6 1240 1 1240 rfl fX6_init_29 zt_arr_int rfl rfl (by decide +kernel) (by decide) rfl rfl ?_
  refine Ev.putF 3 3 6 fX6_init_31 (ffX6_22 rfl rfl) rfl rfl ?_
  refine Ev.aload_n_1 fX6_init_34 rfl ?_
  refine Ev.sipush fX6_init_35 rfl ?_
  refine Ev.newaI 7 1240 0 0 rfl fX6_init_38 zt_arr_int rfl rfl (by decide +kernel) (by decide) rfl rfl ?_
  refine Ev.putF 3 4 7 fX6_init_40 (ffX6_25 rfl rfl) rfl rfl ?_
  refine Ev.aload_n_1 fX6_init_43 rfl ?_
  refine Ev.getR 3 1 4 fX6_init_44 (flX6_15 rfl) rfl rfl rfl ?_
  refine Ev.iconst fX6_init_47 ?_
  refine Ev.iconst fX6_init_48 ?_
  refine Ev.iastore 4 40 fX6_init_49 rfl (by decide) (by decide) ?_
  exact Ev.retV (st := []) (O := (.inl none, ([], fun _ _ => none, fun _ _ => 0, w), 0, 0)) fX6_init_50 rfl
def zkr13 : Nat → Nat → Option Nat := (zur (zcr (zur zkr11 2 0 (some 3)) 8) 2 1 (some 8))
def zki14 : Nat → Int → Int := (zu (zu (zu (zci zki12 8) 2 2 0) 2 3 0) 2 4 0)
theorem zn_X0_init_2 {G : zG} {w : (Nat → Int → Int) × (Nat → Int → Int)} : Ev G mX0_init 0 [(1, 2)] [] ([(0, 7), (0, 1), (0, 0)], zkr7, zki8, w) (.inl none, ([(0, 7), (0, 1), (0, 0), (0, 6), (1, 40), (1, 40), (1, 1240), (1, 1240), (1, 4)], zkr13, zki14, w), 6, 2569) := by
  refine Ev.aload_n_1 fX0_init_0 rfl ?_
  refine Ev.objInit 2 fX0_init_1 (zlX0_3 rfl) zt_objInit.1 zt_objInit.2 (by decide) (by decide) ?_
  refine Ev.aload_n_1 fX0_init_4 rfl ?_
  refine Ev.new 3 5 2564 rfl fX0_init_5 (nlX0_9 rfl) rfl rfl (by decide +kernel) rfl rfl ?_
  refine Ev.dup fX0_init_8 rfl ?_
  refine Ev.callI (rest := [(1, 3), (1, 2)]) (ce2 := 1) (sl2 := 4) 3 4 2560 [] fX0_init_9 lkX0_init_11 rfl rfl (by decide) (by decide) rfl rfl rfl rfl rfl zn_X6_init_3 ?_
  refine Ev.putF 2 0 3 fX0_init_12 (ffX0_12 rfl rfl) rfl rfl ?_
  refine Ev.aload_n_1 fX0_init_15 rfl ?_
  refine Ev.iconst fX0_init_16 ?_
  refine Ev.newaI 8 4 0 0 rfl fX0_init_17 zt_arr_int rfl rfl (by decide +kernel) (by decide) rfl rfl ?_
  refine Ev.putF 2 1 8 fX0_init_19 (ffX0_18 rfl rfl) rfl rfl ?_
  refine Ev.aload_n_1 fX0_init_22 rfl ?_
  refine Ev.iconst fX0_init_23 ?_
  refine Ev.putI 2 2 fX0_init_24 (flX0_22 rfl) rfl rfl trivial ?_
  refine Ev.aload_n_1 fX0_init_27 rfl ?_
  refine Ev.iconst fX0_init_28 ?_
  refine Ev.putI 2 3 fX0_init_29 (flX0_26 rfl) rfl rfl trivial ?_
  refine Ev.aload_n_1 fX0_init_32 rfl ?_
  refine Ev.iconst fX0_init_33 ?_
  refine Ev.putI 2 4 fX0_init_34 (flX0_29 rfl) rfl rfl trivial ?_
  exact Ev.retV (st := []) (O := (.inl none, ([], fun _ _ => none, fun _ _ => 0, w), 0, 0)) fX0_init_37 rfl
def zkr15 : Nat → Nat → Option Nat := (zcr (zur zkr13 1 0 (some 2)) 9)
def zki16 : Nat → Int → Int := (zci zki14 9)
def zki17 : Nat → Int → Int := (zu (zu (zu zki16 9 0 0) 9 1 0) 9 2 0)
theorem zn_X4_init_9 {G : zG} {w : (Nat → Int → Int) × (Nat → Int → Int)} : Ev G mX4_init 0 [(1, 9)] [] ([(0, 7), (0, 1), (0, 0), (0, 6), (1, 40), (1, 40), (1, 1240), (1, 1240), (1, 4), (0, 4)], zkr15, zki16, w) (.inl none, ([(0, 7), (0, 1), (0, 0), (0, 6), (1, 40), (1, 40), (1, 1240), (1, 1240), (1, 4), (0, 4)], zkr15, zki17, w), 0, 0) := by
  refine Ev.aload_n_1 fX4_init_0 rfl ?_
  refine Ev.objInit 9 fX4_init_1 (zlX4_3 rfl) zt_objInit.1 zt_objInit.2 (by decide) (by decide) ?_
  refine Ev.aload_n_1 fX4_init_4 rfl ?_
  refine Ev.iconst fX4_init_5 ?_
  refine Ev.putI 9 0 fX4_init_6 (flX4_9 rfl) rfl rfl trivial ?_
  refine Ev.aload_n_1 fX4_init_9 rfl ?_
  refine Ev.iconst fX4_init_10 ?_
  refine Ev.putI 9 1 fX4_init_11 (flX4_15 rfl) rfl rfl trivial ?_
  refine Ev.aload_n_1 fX4_init_14 rfl ?_
  refine Ev.iconst fX4_init_15 ?_
  refine Ev.putI 9 2 fX4_init_16 (flX4_18 rfl) rfl rfl trivial ?_
  exact Ev.retV (st := []) (O := (.inl none, ([], fun _ _ => none, fun _ _ => 0, w), 0, 0)) fX4_init_19 rfl
def zkr18 : Nat → Nat → Option Nat := (zur (zur zkr15 1 1 (some 9)) 1 2 (some 3))
theorem zn_X1_init_1 {G : zG} {w : (Nat → Int → Int) × (Nat → Int → Int)} : Ev G mX1_init 0 [(1, 1)] [] ([(0, 7), (0, 1)], zkr5, zki6, w) (.inl none, ([(0, 7), (0, 1), (0, 0), (0, 6), (1, 40), (1, 40), (1, 1240), (1, 1240), (1, 4), (0, 4)], zkr18, zki17, w), 8, 2577) := by
  refine Ev.aload_n_1 fX1_init_0 rfl ?_
  refine Ev.objInit 1 fX1_init_1 (zlX1_3 rfl) zt_objInit.1 zt_objInit.2 (by decide) (by decide) ?_
  refine Ev.aload_n_1 fX1_init_4 rfl ?_
  refine Ev.new 2 7 2572 rfl fX1_init_5 (nlX1_9 rfl) rfl rfl (by decide +kernel) rfl rfl ?_
  refine Ev.dup fX1_init_8 rfl ?_
  refine Ev.callIN (rest := [(1, 2), (1, 1)]) (ce2 := 1) (sl2 := 3) 2 6 2569 [] fX1_init_9 lkX1_init_11 rfl rfl (by decide) (by decide) rfl rfl rfl rfl rfl zn_X0_init_2 ?_
  refine Ev.putF 1 0 2 fX1_init_12 (ffX1_12 rfl rfl) rfl rfl ?_
  refine Ev.aload_n_1 fX1_init_15 rfl ?_
  refine Ev.new 9 0 0 rfl fX1_init_16 (nlX1_18 rfl) rfl rfl (by decide +kernel) rfl rfl ?_
  refine Ev.dup fX1_init_19 rfl ?_
  refine Ev.callIN (rest := [(1, 9), (1, 1)]) (ce2 := 0) (sl2 := 0) 9 0 0 [] fX1_init_20 lkX1_init_20 rfl rfl (by decide) (by decide) rfl rfl rfl rfl rfl zn_X4_init_9 ?_
  refine Ev.putF 1 1 9 fX1_init_23 (ffX1_21 rfl rfl) rfl rfl ?_
  refine Ev.aload_n_1 fX1_init_26 rfl ?_
  refine Ev.aload_n_1 fX1_init_27 rfl ?_
  refine Ev.getR 1 0 2 fX1_init_28 (flX1_12 rfl) rfl rfl rfl ?_
  refine Ev.getR 2 0 3 fX1_init_31 (flX1_25 rfl) rfl rfl rfl ?_
  refine Ev.putF 1 2 3 fX1_init_34 (ffX1_29 rfl rfl) rfl rfl ?_
  exact Ev.retV (st := []) (O := (.inl none, ([], fun _ _ => none, fun _ _ => 0, w), 0, 0)) fX1_init_37 rfl
def zkr19 : Nat → Nat → Option Nat := (zcr (zur (zur (zur (zur zkr18 0 0 (some 1)) 0 1 (some 9)) 0 2 (some 2)) 0 3 (some 3)) 10)
def zki20 : Nat → Int → Int := (zci zki17 10)
def zkr21 : Nat → Nat → Option Nat := (zcr zkr19 11)
def zki22 : Nat → Int → Int := (zci zki20 11)
def zkr23 : Nat → Nat → Option Nat := (zur (zcr (zur (zcr (zur (zcr (zur (zcr zkr21 12) 11 1 (some 12)) 13) 11 2 (some 13)) 14) 11 3 (some 14)) 15) 11 4 (some 15))
def zki24 : Nat → Int → Int := (zu (zci (zci (zci (zci (zu zki22 11 0 1) 12) 13) 14) 15) 12 0 (-1))
theorem zn_X6_init_11 {G : zG} {w : (Nat → Int → Int) × (Nat → Int → Int)} : Ev G mX6_init 0 [(1, 11)] [] ([(0, 7), (0, 1), (0, 0), (0, 6), (1, 40), (1, 40), (1, 1240), (1, 1240), (1, 4), (0, 4), (0, 0), (0, 6)], zkr21, zki22, w) (.inl none, ([(0, 7), (0, 1), (0, 0), (0, 6), (1, 40), (1, 40), (1, 1240), (1, 1240), (1, 4), (0, 4), (0, 0), (0, 6), (1, 40), (1, 40), (1, 1240), (1, 1240)], zkr23, zki24, w), 4, 2560) := by
  refine Ev.aload_n_1 fX6_init_0 rfl ?_
  refine Ev.objInit 11 fX6_init_1 (zlX6_3 rfl) zt_objInit.1 zt_objInit.2 (by decide) (by decide) ?_
  refine Ev.aload_n_1 fX6_init_4 rfl ?_
  refine Ev.iconst fX6_init_5 ?_
  refine Ev.putI 11 0 fX6_init_6 (flX6_9 rfl) rfl rfl trivial ?_
  refine Ev.aload_n_1 fX6_init_9 rfl ?_
  refine Ev.bipush fX6_init_10 rfl ?_
  refine Ev.newaI 12 40 3 2520 rfl fX6_init_12 zt_arr_int rfl rfl (by decide +kernel) (by decide) rfl rfl ?_
  refine Ev.putF 11 1 12 fX6_init_14 (ffX6_15 rfl rfl) rfl rfl ?_
  refine Ev.aload_n_1 fX6_init_17 rfl ?_
  refine Ev.bipush fX6_init_18 rfl ?_
  refine Ev.newaI 13 40 2 2480 rfl fX6_init_20 zt_arr_int rfl rfl (by decide +kernel) (by decide) rfl rfl ?_
  refine Ev.putF 11 2 13 fX6_init_22 (ffX6_19 rfl rfl) rfl rfl ?_
  refine Ev.aload_n_1 fX6_init_25 rfl ?_
  refine Ev.sipush fX6_init_26 rfl ?_
  refine Ev.newaI 14 1240 1 1240 rfl fX6_init_29 zt_arr_int rfl rfl (by decide +kernel) (by decide) rfl rfl ?_
  refine Ev.putF 11 3 14 fX6_init_31 (ffX6_22 rfl rfl) rfl rfl ?_
  refine Ev.aload_n_1 fX6_init_34 rfl ?_
  refine Ev.sipush fX6_init_35 rfl ?_
  refine Ev.newaI 15 1240 0 0 rfl fX6_init_38 zt_arr_int rfl rfl (by decide +kernel) (by decide) rfl rfl ?_
  refine Ev.putF 11 4 15 fX6_init_40 (ffX6_25 rfl rfl) rfl rfl ?_
  refine Ev.aload_n_1 fX6_init_43 rfl ?_
  refine Ev.getR 11 1 12 fX6_init_44 (flX6_15 rfl) rfl rfl rfl ?_
  refine Ev.iconst fX6_init_47 ?_
  refine Ev.iconst fX6_init_48 ?_
  refine Ev.iastore 12 40 fX6_init_49 rfl (by decide) (by decide) ?_
  exact Ev.retV (st := []) (O := (.inl none, ([], fun _ _ => none, fun _ _ => 0, w), 0, 0)) fX6_init_50 rfl
def zkr25 : Nat → Nat → Option Nat := (zur (zcr (zur zkr23 10 0 (some 11)) 16) 10 1 (some 16))
def zki26 : Nat → Int → Int := (zu (zu (zu (zci zki24 16) 10 2 0) 10 3 0) 10 4 0)
theorem zn_X0_init_10 {G : zG} {w : (Nat → Int → Int) × (Nat → Int → Int)} : Ev G mX0_init 0 [(1, 10)] [] ([(0, 7), (0, 1), (0, 0), (0, 6), (1, 40), (1, 40), (1, 1240), (1, 1240), (1, 4), (0, 4), (0, 0)], zkr19, zki20, w) (.inl none, ([(0, 7), (0, 1), (0, 0), (0, 6), (1, 40), (1, 40), (1, 1240), (1, 1240), (1, 4), (0, 4), (0, 0), (0, 6), (1, 40), (1, 40), (1, 1240), (1, 1240), (1, 4)], zkr25, zki26, w), 6, 2569) := by
  refine Ev.aload_n_1 fX0_init_0 rfl ?_
  refine Ev.objInit 10 fX0_init_1 (zlX0_3 rfl) zt_objInit.1 zt_objInit.2 (by decide) (by decide) ?_
  refine Ev.aload_n_1 fX0_init_4 rfl ?_
  refine Ev.new 11 5 2564 rfl fX0_init_5 (nlX0_9 rfl) rfl rfl (by decide +kernel) rfl rfl ?_
  refine Ev.dup fX0_init_8 rfl ?_
  refine Ev.callI (rest := [(1, 11), (1, 10)]) (ce2 := 1) (sl2 := 4) 11 4 2560 [] fX0_init_9 lkX0_init_11 rfl rfl (by decide) (by decide) rfl rfl rfl rfl rfl zn_X6_init_11 ?_
  refine Ev.putF 10 0 11 fX0_init_12 (ffX0_12 rfl rfl) rfl rfl ?_
  refine Ev.aload_n_1 fX0_init_15 rfl ?_
  refine Ev.iconst fX0_init_16 ?_
  refine Ev.newaI 16 4 0 0 rfl fX0_init_17 zt_arr_int rfl rfl (by decide +kernel) (by decide) rfl rfl ?_
  refine Ev.putF 10 1 16 fX0_init_19 (ffX0_18 rfl rfl) rfl rfl ?_
  refine Ev.aload_n_1 fX0_init_22 rfl ?_
  refine Ev.iconst fX0_init_23 ?_
  refine Ev.putI 10 2 fX0_init_24 (flX0_22 rfl) rfl rfl trivial ?_
  refine Ev.aload_n_1 fX0_init_27 rfl ?_
  refine Ev.iconst fX0_init_28 ?_
  refine Ev.putI 10 3 fX0_init_29 (flX0_26 rfl) rfl rfl trivial ?_
  refine Ev.aload_n_1 fX0_init_32 rfl ?_
  refine Ev.iconst fX0_init_33 ?_
  refine Ev.putI 10 4 fX0_init_34 (flX0_29 rfl) rfl rfl trivial ?_
  exact Ev.retV (st := []) (O := (.inl none, ([], fun _ _ => none, fun _ _ => 0, w), 0, 0)) fX0_init_37 rfl
def zkr27 : Nat → Nat → Option Nat := (zcr (zur zkr25 0 4 (some 10)) 17)
def zki28 : Nat → Int → Int := (zci (zu zki26 0 5 0) 17)
def zkr29 : Nat → Nat → Option Nat := (zur (zcr zkr27 18) 17 0 (some 18))
def zki30 : Nat → Int → Int := (zu (zci zki28 18) 17 1 0)
theorem zn_X3_init_17 {G : zG} {w : (Nat → Int → Int) × (Nat → Int → Int)} : Ev G mX3_init 0 [(1, 17)] [] ([(0, 7), (0, 1), (0, 0), (0, 6), (1, 40), (1, 40), (1, 1240), (1, 1240), (1, 4), (0, 4), (0, 0), (0, 6), (1, 40), (1, 40), (1, 1240), (1, 1240), (1, 4), (0, 3)], zkr27, zki28, w) (.inl none, ([(0, 7), (0, 1), (0, 0), (0, 6), (1, 40), (1, 40), (1, 1240), (1, 1240), (1, 4), (0, 4), (0, 0), (0, 6), (1, 40), (1, 40), (1, 1240), (1, 1240), (1, 4), (0, 3), (1, 72)], zkr29, zki30, w), 1, 72) := by
  refine Ev.aload_n_1 fX3_init_0 rfl ?_
  refine Ev.objInit 17 fX3_init_1 (zlX3_3 rfl) zt_objInit.1 zt_objInit.2 (by decide) (by decide) ?_
  refine Ev.aload_n_1 fX3_init_4 rfl ?_
  refine Ev.bipush fX3_init_5 rfl ?_
  refine Ev.newaI 18 72 0 0 rfl fX3_init_7 zt_arr_int rfl rfl (by decide +kernel) (by decide) rfl rfl ?_
  refine Ev.putF 17 0 18 fX3_init_9 (ffX3_11 rfl rfl) rfl rfl ?_
  refine Ev.aload_n_1 fX3_init_12 rfl ?_
  refine Ev.iconst fX3_init_13 ?_
  refine Ev.putI 17 1 fX3_init_14 (flX3_17 rfl) rfl rfl trivial ?_
  exact Ev.retV (st := []) (O := (.inl none, ([], fun _ _ => none, fun _ _ => 0, w), 0, 0)) fX3_init_17 rfl
def zkr31 : Nat → Nat → Option Nat := (zcr (zur zkr29 0 6 (some 17)) 19)
def zki32 : Nat → Int → Int := (zci zki30 19)
def zkr33 : Nat → Nat → Option Nat := (zur (zcr (zur (zcr zkr31 20) 19 0 (some 20)) 21) 19 4 (some 21))
def zki34 : Nat → Int → Int := (zci (zu (zu (zu (zci zki32 20) 19 1 0) 19 2 0) 19 3 32) 21)
theorem zn_X2_init_19 {G : zG} {w : (Nat → Int → Int) × (Nat → Int → Int)} : Ev G mX2_init 0 [(1, 19)] [] ([(0, 7), (0, 1), (0, 0), (0, 6), (1, 40), (1, 40), (1, 1240), (1, 1240), (1, 4), (0, 4), (0, 0), (0, 6), (1, 40), (1, 40), (1, 1240), (1, 1240), (1, 4), (0, 3), (1, 72), (0, 2)], zkr31, zki32, w) (.inl none, ([(0, 7), (0, 1), (0, 0), (0, 6), (1, 40), (1, 40), (1, 1240), (1, 1240), (1, 4), (0, 4), (0, 0), (0, 6), (1, 40), (1, 40), (1, 1240), (1, 1240), (1, 4), (0, 3), (1, 72), (0, 2), (2, 60), (1, 4)], zkr33, zki34, w), 2, 64) := by
  refine Ev.aload_n_1 fX2_init_0 rfl ?_
  refine Ev.objInit 19 fX2_init_1 (zlX2_3 rfl) zt_objInit.1 zt_objInit.2 (by decide) (by decide) ?_
  refine Ev.aload_n_1 fX2_init_4 rfl ?_
  refine Ev.bipush fX2_init_5 rfl ?_
  refine Ev.newaC 20 60 1 4 rfl fX2_init_7 zt_arr_char rfl rfl (by decide +kernel) (by decide) rfl rfl ?_
  refine Ev.putF 19 0 20 fX2_init_9 (ffX2_9 rfl rfl) rfl rfl ?_
  refine Ev.aload_n_1 fX2_init_12 rfl ?_
  refine Ev.iconst fX2_init_13 ?_
  refine Ev.putI 19 1 fX2_init_14 (flX2_15 rfl) rfl rfl trivial ?_
  refine Ev.aload_n_1 fX2_init_17 rfl ?_
  refine Ev.iconst fX2_init_18 ?_
  refine Ev.putI 19 2 fX2_init_19 (flX2_19 rfl) rfl rfl trivial ?_
  refine Ev.aload_n_1 fX2_init_22 rfl ?_
  refine Ev.bipush fX2_init_23 rfl ?_
  refine Ev.putI 19 3 fX2_init_25 (flX2_22 rfl) rfl rfl ⟨by decide, by decide⟩ ?_
  refine Ev.aload_n_1 fX2_init_28 rfl ?_
  refine Ev.iconst fX2_init_29 ?_
  refine Ev.newaI 21 4 0 0 rfl fX2_init_30 zt_arr_int rfl rfl (by decide +kernel) (by decide) rfl rfl ?_
  refine Ev.putF 19 4 21 fX2_init_32 (ffX2_26 rfl rfl) rfl rfl ?_
  exact Ev.retV (st := []) (O := (.inl none, ([], fun _ _ => none, fun _ _ => 0, w), 0, 0)) fX2_init_35 rfl
def zkr35 : Nat → Nat → Option Nat := (zcr (zur zkr33 0 7 (some 19)) 22)
def zki36 : Nat → Int → Int := (zci (zu zki34 0 8 (-1)) 22)
def zkr37 : Nat → Nat → Option Nat := (zur (zcr zkr35 23) 22 0 (some 23))
def zki38 : Nat → Int → Int := (zu (zci zki36 23) 22 1 0)
theorem zn_X5_init_22 {G : zG} {w : (Nat → Int → Int) × (Nat → Int → Int)} : Ev G mX5_init 0 [(1, 22)] [] ([(0, 7), (0, 1), (0, 0), (0, 6), (1, 40), (1, 40), (1, 1240), (1, 1240), (1, 4), (0, 4), (0, 0), (0, 6), (1, 40), (1, 40), (1, 1240), (1, 1240), (1, 4), (0, 3), (1, 72), (0, 2), (2, 60), (1, 4), (0, 5)], zkr35, zki36, w) (.inl none, ([(0, 7), (0, 1), (0, 0), (0, 6), (1, 40), (1, 40), (1, 1240), (1, 1240), (1, 4), (0, 4), (0, 0), (0, 6), (1, 40), (1, 40), (1, 1240), (1, 1240), (1, 4), (0, 3), (1, 72), (0, 2), (2, 60), (1, 4), (0, 5), (2, 109)], zkr37, zki38, w), 1, 109) := by
  refine Ev.aload_n_1 fX5_init_0 rfl ?_
  refine Ev.objInit 22 fX5_init_1 (zlX5_3 rfl) zt_objInit.1 zt_objInit.2 (by decide) (by decide) ?_
  refine Ev.aload_n_1 fX5_init_4 rfl ?_
  refine Ev.bipush fX5_init_5 rfl ?_
  refine Ev.newaC 23 109 0 0 rfl fX5_init_7 zt_arr_char rfl rfl (by decide +kernel) (by decide) rfl rfl ?_
  refine Ev.putF 22 0 23 fX5_init_9 (ffX5_9 rfl rfl) rfl rfl ?_
  refine Ev.aload_n_1 fX5_init_12 rfl ?_
  refine Ev.iconst fX5_init_13 ?_
  refine Ev.putI 22 1 fX5_init_14 (flX5_15 rfl) rfl rfl trivial ?_
  exact Ev.retV (st := []) (O := (.inl none, ([], fun _ _ => none, fun _ _ => 0, w), 0, 0)) fX5_init_17 rfl
def zkr39 : Nat → Nat → Option Nat := (zur zkr37 0 9 (some 22))
theorem zn_X7_init_0 {G : zG} {w : (Nat → Int → Int) × (Nat → Int → Int)} : Ev G mX7_init 0 [(1, 0)] [] ([(0, 7)], zkr3, zki4, w) (.inl none, ([(0, 7), (0, 1), (0, 0), (0, 6), (1, 40), (1, 40), (1, 1240), (1, 1240), (1, 4), (0, 4), (0, 0), (0, 6), (1, 40), (1, 40), (1, 1240), (1, 1240), (1, 4), (0, 3), (1, 72), (0, 2), (2, 60), (1, 4), (0, 5), (2, 109)], zkr39, zki38, w), 23, 5408) := by
  refine Ev.aload_n_1 fX7_init_0 rfl ?_
  refine Ev.objInit 0 fX7_init_1 (zlX7_1 rfl) zt_objInit.1 zt_objInit.2 (by decide) (by decide) ?_
  refine Ev.aload_n_1 fX7_init_4 rfl ?_
  refine Ev.new 1 22 5405 rfl fX7_init_5 (nlX7_7 rfl) rfl rfl (by decide +kernel) rfl rfl ?_
  refine Ev.dup fX7_init_8 rfl ?_
  refine Ev.callIN (rest := [(1, 1), (1, 0)]) (ce2 := 14) (sl2 := 2828) 1 8 2577 [] fX7_init_9 lkX7_init_9 rfl rfl (by decide) (by decide) rfl rfl rfl rfl rfl zn_X1_init_1 ?_
  refine Ev.putF 0 0 1 fX7_init_12 (ffX7_10 rfl rfl) rfl rfl ?_
  refine Ev.aload_n_1 fX7_init_15 rfl ?_
  refine Ev.aload_n_1 fX7_init_16 rfl ?_
  refine Ev.getR 0 0 1 fX7_init_17 (flX7_10 rfl) rfl rfl rfl ?_
  refine Ev.getR 1 1 9 fX7_init_20 (flX7_16 rfl) rfl rfl rfl ?_
  refine Ev.putF 0 1 9 fX7_init_23 (ffX7_20 rfl rfl) rfl rfl ?_
  refine Ev.aload_n_1 fX7_init_26 rfl ?_
  refine Ev.aload_n_1 fX7_init_27 rfl ?_
  refine Ev.getR 0 0 1 fX7_init_28 (flX7_10 rfl) rfl rfl rfl ?_
  refine Ev.getR 1 0 2 fX7_init_31 (flX7_21 rfl) rfl rfl rfl ?_
  refine Ev.putF 0 2 2 fX7_init_34 (ffX7_25 rfl rfl) rfl rfl ?_
  refine Ev.aload_n_1 fX7_init_37 rfl ?_
  refine Ev.aload_n_1 fX7_init_38 rfl ?_
  refine Ev.getR 0 2 2 fX7_init_39 (flX7_25 rfl) rfl rfl rfl ?_
  refine Ev.getR 2 0 3 fX7_init_42 (flX7_26 rfl) rfl rfl rfl ?_
  refine Ev.putF 0 3 3 fX7_init_45 (ffX7_32 rfl rfl) rfl rfl ?_
  refine Ev.aload_n_1 fX7_init_48 rfl ?_
  refine Ev.new 10 13 2823 rfl fX7_init_49 (nlX7_27 rfl) rfl rfl (by decide +kernel) rfl rfl ?_
  refine Ev.dup fX7_init_52 rfl ?_
  refine Ev.callIN (rest := [(1, 10), (1, 0)]) (ce2 := 7) (sl2 := 254) 10 6 2569 [] fX7_init_53 lkX7_init_33 rfl rfl (by decide) (by decide) rfl rfl rfl rfl rfl zn_X0_init_10 ?_
  refine Ev.putF 0 4 10 fX7_init_56 (ffX7_34 rfl rfl) rfl rfl ?_
  refine Ev.aload_n_1 fX7_init_59 rfl ?_
  refine Ev.iconst fX7_init_60 ?_
  refine Ev.putI 0 5 fX7_init_61 (flX7_37 rfl) rfl rfl (Or.inl rfl) ?_
  refine Ev.aload_n_1 fX7_init_64 rfl ?_
  refine Ev.new 17 6 252 rfl fX7_init_65 (nlX7_41 rfl) rfl rfl (by decide +kernel) rfl rfl ?_
  refine Ev.dup fX7_init_68 rfl ?_
  refine Ev.callIN (rest := [(1, 17), (1, 0)]) (ce2 := 5) (sl2 := 180) 17 1 72 [] fX7_init_69 lkX7_init_43 rfl rfl (by decide) (by decide) rfl rfl rfl rfl rfl zn_X3_init_17 ?_
  refine Ev.putF 0 6 17 fX7_init_72 (ffX7_44 rfl rfl) rfl rfl ?_
  refine Ev.aload_n_1 fX7_init_75 rfl ?_
  refine Ev.new 19 4 175 rfl fX7_init_76 (nlX7_48 rfl) rfl rfl (by decide +kernel) rfl rfl ?_
  refine Ev.dup fX7_init_79 rfl ?_
  refine Ev.callIN (rest := [(1, 19), (1, 0)]) (ce2 := 2) (sl2 := 111) 19 2 64 [] fX7_init_80 lkX7_init_50 rfl rfl (by decide) (by decide) rfl rfl rfl rfl rfl zn_X2_init_19 ?_
  refine Ev.putF 0 7 19 fX7_init_83 (ffX7_51 rfl rfl) rfl rfl ?_
  refine Ev.aload_n_1 fX7_init_86 rfl ?_
  refine Ev.iconst fX7_init_87 ?_
  refine Ev.putI 0 8 fX7_init_88 (flX7_55 rfl) rfl rfl trivial ?_
  refine Ev.aload_n_1 fX7_init_91 rfl ?_
  refine Ev.new 22 1 109 rfl fX7_init_92 (nlX7_59 rfl) rfl rfl (by decide +kernel) rfl rfl ?_
  refine Ev.dup fX7_init_95 rfl ?_
  refine Ev.callIN (rest := [(1, 22), (1, 0)]) (ce2 := 0) (sl2 := 0) 22 1 109 [] fX7_init_96 lkX7_init_61 rfl rfl (by decide) (by decide) rfl rfl rfl rfl rfl zn_X5_init_22 ?_
  refine Ev.putF 0 9 22 fX7_init_99 (ffX7_62 rfl rfl) rfl rfl ?_
  exact Ev.retV (st := []) (O := (.inl none, ([], fun _ _ => none, fun _ _ => 0, w), 0, 0)) fX7_init_102 rfl
def zkr40 : Nat → Nat → Option Nat := (zcr zkr39 24)
def zki41 : Nat → Int → Int := (zci zki38 24)
def zkr42 : Nat → Nat → Option Nat := (zur (zcr (zur (zcr (zur (zcr (zur (zcr (zur (zcr (zur (zcr (zur (zcr (zur (zcr (zur (zcr zkr40 25) 24 0 (some 25)) 26) 24 1 (some 26)) 27) 24 2 (some 27)) 28) 24 3 (some 28)) 29) 24 12 (some 29)) 30) 24 15 (some 30)) 31) 24 17 (some 31)) 32) 24 18 (some 32)) 33) 24 20 (some 33))
def zki43 : Nat → Int → Int := (zu (zu (zu (zci (zci (zci (zci (zu (zci (zci (zci (zci (zci zki41 25) 26) 27) 28) 29) 24 14 (-1)) 30) 31) 32) 33) 25 0 1) 25 8 (-1)) 32 0 15)
def zki44 : Nat → Int → Int := (zu (zu (zu (zu zki43 31 1 0) 32 1 7) 31 2 8) 32 2 15)
def zki45 : Nat → Int → Int := (zu (zu (zu (zu zki44 31 3 0) 32 3 3) 31 4 4) 32 4 7)
def zki46 : Nat → Int → Int := (zu (zu (zu (zu zki45 31 5 8) 32 5 11) 31 6 12) 32 6 15)
def zki47 : Nat → Int → Int := (zu (zu (zu (zu zki46 31 7 0) 32 7 1) 31 8 2) 32 8 3)
def zki48 : Nat → Int → Int := (zu (zu (zu (zu zki47 31 9 4) 32 9 5) 31 10 6) 32 10 7)
def zki49 : Nat → Int → Int := (zu (zu (zu (zu zki48 31 11 8) 32 11 9) 31 12 10) 32 12 11)
def zki50 : Nat → Int → Int := (zu (zu (zu (zu zki49 31 13 12) 32 13 13) 31 14 14) 32 14 15)
def zki51 : Nat → Int → Int := (zu (zu (zu (zu zki50 31 15 0) 32 15 0) 31 16 1) 32 16 1)
def zki52 : Nat → Int → Int := (zu (zu (zu (zu zki51 31 17 2) 32 17 2) 31 18 3) 32 18 3)
def zki53 : Nat → Int → Int := (zu (zu (zu (zu zki52 31 19 4) 32 19 4) 31 20 5) 32 20 5)
def zki54 : Nat → Int → Int := (zu (zu (zu (zu zki53 31 21 6) 32 21 6) 31 22 7) 32 22 7)
def zki55 : Nat → Int → Int := (zu (zu (zu (zu zki54 31 23 8) 32 23 8) 31 24 9) 32 24 9)
def zki56 : Nat → Int → Int := (zu (zu (zu (zu zki55 31 25 10) 32 25 10) 31 26 11) 32 26 11)
def zki57 : Nat → Int → Int := (zu (zu (zu (zu zki56 31 27 12) 32 27 12) 31 28 13) 32 28 13)
def zki58 : Nat → Int → Int := (zu (zu (zu (zu zki57 31 29 14) 32 29 14) 31 30 15) 32 30 15)
theorem zn_X8_init_24_e {G : zG} {w : (Nat → Int → Int) × (Nat → Int → Int)} : Ev G mX8_init 112 [(1, 24), (0, 15), (0, 14)] [] ([(0, 7), (0, 1), (0, 0), (0, 6), (1, 40), (1, 40), (1, 1240), (1, 1240), (1, 4), (0, 4), (0, 0), (0, 6), (1, 40), (1, 40), (1, 1240), (1, 1240), (1, 4), (0, 3), (1, 72), (0, 2), (2, 60), (1, 4), (0, 5), (2, 109), (0, 8), (1, 1968), (1, 15744), (1, 1968), (1, 1968), (1, 60), (2, 160), (1, 31), (1, 31), (1, 155)], zkr42, zki58, w) (.inl none, ([(0, 7), (0, 1), (0, 0), (0, 6), (1, 40), (1, 40), (1, 1240), (1, 1240), (1, 4), (0, 4), (0, 0), (0, 6), (1, 40), (1, 40), (1, 1240), (1, 1240), (1, 4), (0, 3), (1, 72), (0, 2), (2, 60), (1, 4), (0, 5), (2, 109), (0, 8), (1, 1968), (1, 15744), (1, 1968), (1, 1968), (1, 60), (2, 160), (1, 31), (1, 31), (1, 155)], zkr42, zki58, w), 0, 0) := by
  refine Ev.iload_n fX8_init_112 rfl ?_
  refine Ev.bipush fX8_init_113 rfl ?_
  refine Ev.icmp_ge fX8_init_115 rfl (by decide) (by decide) (fun _ => ?_) (fun h => absurd (by decide) h)
  exact Ev.retV (st := []) (O := (.inl none, ([], fun _ _ => none, fun _ _ => 0, w), 0, 0)) fX8_init_196 rfl
theorem zn_X8_init_24_14 {G : zG} {w : (Nat → Int → Int) × (Nat → Int → Int)} : Ev G mX8_init 112 [(1, 24), (0, 14), (0, 12)] [] ([(0, 7), (0, 1), (0, 0), (0, 6), (1, 40), (1, 40), (1, 1240), (1, 1240), (1, 4), (0, 4), (0, 0), (0, 6), (1, 40), (1, 40), (1, 1240), (1, 1240), (1, 4), (0, 3), (1, 72), (0, 2), (2, 60), (1, 4), (0, 5), (2, 109), (0, 8), (1, 1968), (1, 15744), (1, 1968), (1, 1968), (1, 60), (2, 160), (1, 31), (1, 31), (1, 155)], zkr42, zki57, w) (.inl none, ([(0, 7), (0, 1), (0, 0), (0, 6), (1, 40), (1, 40), (1, 1240), (1, 1240), (1, 4), (0, 4), (0, 0), (0, 6), (1, 40), (1, 40), (1, 1240), (1, 1240), (1, 4), (0, 3), (1, 72), (0, 2), (2, 60), (1, 4), (0, 5), (2, 109), (0, 8), (1, 1968), (1, 15744), (1, 1968), (1, 1968), (1, 60), (2, 160), (1, 31), (1, 31), (1, 155)], zkr42, zki58, w), 0, 0) := by
  refine Ev.iload_n fX8_init_112 rfl ?_
  refine Ev.bipush fX8_init_113 rfl ?_
  refine Ev.icmp_ge fX8_init_115 rfl (by decide) (by decide) (fun h => absurd h (by decide)) (fun _ => ?_)
  refine Ev.aload_n_1 fX8_init_118 rfl ?_
  refine Ev.getR 24 17 31 fX8_init_119 (flX8_33 rfl) rfl rfl rfl ?_
  refine Ev.iload_n fX8_init_122 rfl ?_
  refine Ev.xld (v := 14) 31 31 fX8_init_123 rfl (by decide) (by decide) rfl ?_
  refine Ev.aload_n_1 fX8_init_124 rfl ?_
  refine Ev.getR 24 18 32 fX8_init_125 (flX8_36 rfl) rfl rfl rfl ?_
  refine Ev.iload_n fX8_init_128 rfl ?_
  refine Ev.xld (v := 15) 32 31 fX8_init_129 rfl (by decide) (by decide) rfl ?_
  refine Ev.xadd (v := 29) fX8_init_130 rfl ?_
  refine Ev.iconst fX8_init_131 ?_
  refine Ev.idiv fX8_init_132 (by decide) (by decide) ?_
  rw [show (29 : Int) / 2 = 14 from rfl]
  refine Ev.sistore_n [(1, 24), (0, 14), (0, 14)] fX8_init_133 rfl rfl ?_
  refine Ev.aload_n_1 fX8_init_134 rfl ?_
  refine Ev.getR 24 17 31 fX8_init_135 (flX8_33 rfl) rfl rfl rfl ?_
  refine Ev.iconst fX8_init_138 ?_
  refine Ev.iload_n fX8_init_139 rfl ?_
  refine Ev.xmul (v := 28) fX8_init_140 rfl ?_
  refine Ev.iconst fX8_init_141 ?_
  refine Ev.xadd (v := 29) fX8_init_142 rfl ?_
  refine Ev.aload_n_1 fX8_init_143 rfl ?_
  refine Ev.getR 24 17 31 fX8_init_144 (flX8_33 rfl) rfl rfl rfl ?_
  refine Ev.iload_n fX8_init_147 rfl ?_
  refine Ev.xld (v := 14) 31 31 fX8_init_148 rfl (by decide) (by decide) rfl ?_
  refine Ev.iastore 31 31 fX8_init_149 rfl (by decide) (by decide) ?_
  refine Ev.aload_n_1 fX8_init_150 rfl ?_
  refine Ev.getR 24 18 32 fX8_init_151 (flX8_36 rfl) rfl rfl rfl ?_
  refine Ev.iconst fX8_init_154 ?_
  refine Ev.iload_n fX8_init_155 rfl ?_
  refine Ev.xmul (v := 28) fX8_init_156 rfl ?_
  refine Ev.iconst fX8_init_157 ?_
  refine Ev.xadd (v := 29) fX8_init_158 rfl ?_
  refine Ev.iload_n fX8_init_159 rfl ?_
  refine Ev.iastore 32 31 fX8_init_160 rfl (by decide) (by decide) ?_
  refine Ev.aload_n_1 fX8_init_161 rfl ?_
  refine Ev.getR 24 17 31 fX8_init_162 (flX8_33 rfl) rfl rfl rfl ?_
  refine Ev.iconst fX8_init_165 ?_
  refine Ev.iload_n fX8_init_166 rfl ?_
  refine Ev.xmul (v := 28) fX8_init_167 rfl ?_
  refine Ev.iconst fX8_init_168 ?_
  refine Ev.xadd (v := 30) fX8_init_169 rfl ?_
  refine Ev.iload_n fX8_init_170 rfl ?_
  refine Ev.iconst fX8_init_171 ?_
  refine Ev.xadd (v := 15) fX8_init_172 rfl ?_
  refine Ev.iastore 31 31 fX8_init_173 rfl (by decide) (by decide) ?_
  refine Ev.aload_n_1 fX8_init_174 rfl ?_
  refine Ev.getR 24 18 32 fX8_init_175 (flX8_36 rfl) rfl rfl rfl ?_
  refine Ev.iconst fX8_init_178 ?_
  refine Ev.iload_n fX8_init_179 rfl ?_
  refine Ev.xmul (v := 28) fX8_init_180 rfl ?_
  refine Ev.iconst fX8_init_181 ?_
  refine Ev.xadd (v := 30) fX8_init_182 rfl ?_
  refine Ev.aload_n_1 fX8_init_183 rfl ?_
  refine Ev.getR 24 18 32 fX8_init_184 (flX8_36 rfl) rfl rfl rfl ?_
  refine Ev.iload_n fX8_init_187 rfl ?_
  refine Ev.xld (v := 15) 32 31 fX8_init_188 rfl (by decide) (by decide) rfl ?_
  refine Ev.iastore 32 31 fX8_init_189 rfl (by decide) (by decide) ?_
  refine Ev.siinc [(1, 24), (0, 15), (0, 14)] fX8_init_190 rfl rfl rfl ?_
  refine Ev.goto fX8_init_193 rfl ?_
  exact zn_X8_init_24_e
theorem zn_X8_init_24_13 {G : zG} {w : (Nat → Int → Int) × (Nat → Int → Int)} : Ev G mX8_init 112 [(1, 24), (0, 13), (0, 10)] [] ([(0, 7), (0, 1), (0, 0), (0, 6), (1, 40), (1, 40), (1, 1240), (1, 1240), (1, 4), (0, 4), (0, 0), (0, 6), (1, 40), (1, 40), (1, 1240), (1, 1240), (1, 4), (0, 3), (1, 72), (0, 2), (2, 60), (1, 4), (0, 5), (2, 109), (0, 8), (1, 1968), (1, 15744), (1, 1968), (1, 1968), (1, 60), (2, 160), (1, 31), (1, 31), (1, 155)], zkr42, zki56, w) (.inl none, ([(0, 7), (0, 1), (0, 0), (0, 6), (1, 40), (1, 40), (1, 1240), (1, 1240), (1, 4), (0, 4), (0, 0), (0, 6), (1, 40), (1, 40), (1, 1240), (1, 1240), (1, 4), (0, 3), (1, 72), (0, 2), (2, 60), (1, 4), (0, 5), (2, 109), (0, 8), (1, 1968), (1, 15744), (1, 1968), (1, 1968), (1, 60), (2, 160), (1, 31), (1, 31), (1, 155)], zkr42, zki58, w), 0, 0) := by
  refine Ev.iload_n fX8_init_112 rfl ?_
  refine Ev.bipush fX8_init_113 rfl ?_
  refine Ev.icmp_ge fX8_init_115 rfl (by decide) (by decide) (fun h => absurd h (by decide)) (fun _ => ?_)
  refine Ev.aload_n_1 fX8_init_118 rfl ?_
  refine Ev.getR 24 17 31 fX8_init_119 (flX8_33 rfl) rfl rfl rfl ?_
  refine Ev.iload_n fX8_init_122 rfl ?_
  refine Ev.xld (v := 12) 31 31 fX8_init_123 rfl (by decide) (by decide) rfl ?_
  refine Ev.aload_n_1 fX8_init_124 rfl ?_
  refine Ev.getR 24 18 32 fX8_init_125 (flX8_36 rfl) rfl rfl rfl ?_
  refine Ev.iload_n fX8_init_128 rfl ?_
  refine Ev.xld (v := 13) 32 31 fX8_init_129 rfl (by decide) (by decide) rfl ?_
  refine Ev.xadd (v := 25) fX8_init_130 rfl ?_
  refine Ev.iconst fX8_init_131 ?_
  refine Ev.idiv fX8_init_132 (by decide) (by decide) ?_
  rw [show (25 : Int) / 2 = 12 from rfl]
  refine Ev.sistore_n [(1, 24), (0, 13), (0, 12)] fX8_init_133 rfl rfl ?_
  refine Ev.aload_n_1 fX8_init_134 rfl ?_
  refine Ev.getR 24 17 31 fX8_init_135 (flX8_33 rfl) rfl rfl rfl ?_
  refine Ev.iconst fX8_init_138 ?_
  refine Ev.iload_n fX8_init_139 rfl ?_
  refine Ev.xmul (v := 26) fX8_init_140 rfl ?_
  refine Ev.iconst fX8_init_141 ?_
  refine Ev.xadd (v := 27) fX8_init_142 rfl ?_
  refine Ev.aload_n_1 fX8_init_143 rfl ?_
  refine Ev.getR 24 17 31 fX8_init_144 (flX8_33 rfl) rfl rfl rfl ?_
  refine Ev.iload_n fX8_init_147 rfl ?_
  refine Ev.xld (v := 12) 31 31 fX8_init_148 rfl (by decide) (by decide) rfl ?_
  refine Ev.iastore 31 31 fX8_init_149 rfl (by decide) (by decide) ?_
  refine Ev.aload_n_1 fX8_init_150 rfl ?_
  refine Ev.getR 24 18 32 fX8_init_151 (flX8_36 rfl) rfl rfl rfl ?_
  refine Ev.iconst fX8_init_154 ?_
  refine Ev.iload_n fX8_init_155 rfl ?_
  refine Ev.xmul (v := 26) fX8_init_156 rfl ?_
  refine Ev.iconst fX8_init_157 ?_
  refine Ev.xadd (v := 27) fX8_init_158 rfl ?_
  refine Ev.iload_n fX8_init_159 rfl ?_
  refine Ev.iastore 32 31 fX8_init_160 rfl (by decide) (by decide) ?_
  refine Ev.aload_n_1 fX8_init_161 rfl ?_
  refine Ev.getR 24 17 31 fX8_init_162 (flX8_33 rfl) rfl rfl rfl ?_
  refine Ev.iconst fX8_init_165 ?_
  refine Ev.iload_n fX8_init_166 rfl ?_
  refine Ev.xmul (v := 26) fX8_init_167 rfl ?_
  refine Ev.iconst fX8_init_168 ?_
  refine Ev.xadd (v := 28) fX8_init_169 rfl ?_
  refine Ev.iload_n fX8_init_170 rfl ?_
  refine Ev.iconst fX8_init_171 ?_
  refine Ev.xadd (v := 13) fX8_init_172 rfl ?_
  refine Ev.iastore 31 31 fX8_init_173 rfl (by decide) (by decide) ?_
  refine Ev.aload_n_1 fX8_init_174 rfl ?_
  refine Ev.getR 24 18 32 fX8_init_175 (flX8_36 rfl) rfl rfl rfl ?_
  refine Ev.iconst fX8_init_178 ?_
  refine Ev.iload_n fX8_init_179 rfl ?_
  refine Ev.xmul (v := 26) fX8_init_180 rfl ?_
  refine Ev.iconst fX8_init_181 ?_
  refine Ev.xadd (v := 28) fX8_init_182 rfl ?_
  refine Ev.aload_n_1 fX8_init_183 rfl ?_
  refine Ev.getR 24 18 32 fX8_init_184 (flX8_36 rfl) rfl rfl rfl ?_
  refine Ev.iload_n fX8_init_187 rfl ?_
  refine Ev.xld (v := 13) 32 31 fX8_init_188 rfl (by decide) (by decide) rfl ?_
  refine Ev.iastore 32 31 fX8_init_189 rfl (by decide) (by decide) ?_
  refine Ev.siinc [(1, 24), (0, 14), (0, 12)] fX8_init_190 rfl rfl rfl ?_
  refine Ev.goto fX8_init_193 rfl ?_
  exact zn_X8_init_24_14
theorem zn_X8_init_24_12 {G : zG} {w : (Nat → Int → Int) × (Nat → Int → Int)} : Ev G mX8_init 112 [(1, 24), (0, 12), (0, 8)] [] ([(0, 7), (0, 1), (0, 0), (0, 6), (1, 40), (1, 40), (1, 1240), (1, 1240), (1, 4), (0, 4), (0, 0), (0, 6), (1, 40), (1, 40), (1, 1240), (1, 1240), (1, 4), (0, 3), (1, 72), (0, 2), (2, 60), (1, 4), (0, 5), (2, 109), (0, 8), (1, 1968), (1, 15744), (1, 1968), (1, 1968), (1, 60), (2, 160), (1, 31), (1, 31), (1, 155)], zkr42, zki55, w) (.inl none, ([(0, 7), (0, 1), (0, 0), (0, 6), (1, 40), (1, 40), (1, 1240), (1, 1240), (1, 4), (0, 4), (0, 0), (0, 6), (1, 40), (1, 40), (1, 1240), (1, 1240), (1, 4), (0, 3), (1, 72), (0, 2), (2, 60), (1, 4), (0, 5), (2, 109), (0, 8), (1, 1968), (1, 15744), (1, 1968), (1, 1968), (1, 60), (2, 160), (1, 31), (1, 31), (1, 155)], zkr42, zki58, w), 0, 0) := by
  refine Ev.iload_n fX8_init_112 rfl ?_
  refine Ev.bipush fX8_init_113 rfl ?_
  refine Ev.icmp_ge fX8_init_115 rfl (by decide) (by decide) (fun h => absurd h (by decide)) (fun _ => ?_)
  refine Ev.aload_n_1 fX8_init_118 rfl ?_
  refine Ev.getR 24 17 31 fX8_init_119 (flX8_33 rfl) rfl rfl rfl ?_
  refine Ev.iload_n fX8_init_122 rfl ?_
  refine Ev.xld (v := 10) 31 31 fX8_init_123 rfl (by decide) (by decide) rfl ?_
  refine Ev.aload_n_1 fX8_init_124 rfl ?_
  refine Ev.getR 24 18 32 fX8_init_125 (flX8_36 rfl) rfl rfl rfl ?_
  refine Ev.iload_n fX8_init_128 rfl ?_
  refine Ev.xld (v := 11) 32 31 fX8_init_129 rfl (by decide) (by decide) rfl ?_
  refine Ev.xadd (v := 21) fX8_init_130 rfl ?_
  refine Ev.iconst fX8_init_131 ?_
  refine Ev.idiv fX8_init_132 (by decide) (by decide) ?_
  rw [show (21 : Int) / 2 = 10 from rfl]
  refine Ev.sistore_n [(1, 24), (0, 12), (0, 10)] fX8_init_133 rfl rfl ?_
  refine Ev.aload_n_1 fX8_init_134 rfl ?_
  refine Ev.getR 24 17 31 fX8_init_135 (flX8_33 rfl) rfl rfl rfl ?_
  refine Ev.iconst fX8_init_138 ?_
  refine Ev.iload_n fX8_init_139 rfl ?_
  refine Ev.xmul (v := 24) fX8_init_140 rfl ?_
  refine Ev.iconst fX8_init_141 ?_
  refine Ev.xadd (v := 25) fX8_init_142 rfl ?_
  refine Ev.aload_n_1 fX8_init_143 rfl ?_
  refine Ev.getR 24 17 31 fX8_init_144 (flX8_33 rfl) rfl rfl rfl ?_
  refine Ev.iload_n fX8_init_147 rfl ?_
  refine Ev.xld (v := 10) 31 31 fX8_init_148 rfl (by decide) (by decide) rfl ?_
  refine Ev.iastore 31 31 fX8_init_149 rfl (by decide) (by decide) ?_
  refine Ev.aload_n_1 fX8_init_150 rfl ?_
  refine Ev.getR 24 18 32 fX8_init_151 (flX8_36 rfl) rfl rfl rfl ?_
  refine Ev.iconst fX8_init_154 ?_
  refine Ev.iload_n fX8_init_155 rfl ?_
  refine Ev.xmul (v := 24) fX8_init_156 rfl ?_
  refine Ev.iconst fX8_init_157 ?_
  refine Ev.xadd (v := 25) fX8_init_158 rfl ?_
  refine Ev.iload_n fX8_init_159 rfl ?_
  refine Ev.iastore 32 31 fX8_init_160 rfl (by decide) (by decide) ?_
  refine Ev.aload_n_1 fX8_init_161 rfl ?_
  refine Ev.getR 24 17 31 fX8_init_162 (flX8_33 rfl) rfl rfl rfl ?_
  refine Ev.iconst fX8_init_165 ?_
  refine Ev.iload_n fX8_init_166 rfl ?_
  refine Ev.xmul (v := 24) fX8_init_167 rfl ?_
  refine Ev.iconst fX8_init_168 ?_
  refine Ev.xadd (v := 26) fX8_init_169 rfl ?_
  refine Ev.iload_n fX8_init_170 rfl ?_
  refine Ev.iconst fX8_init_171 ?_
  refine Ev.xadd (v := 11) fX8_init_172 rfl ?_
  refine Ev.iastore 31 31 fX8_init_173 rfl (by decide) (by decide) ?_
  refine Ev.aload_n_1 fX8_init_174 rfl ?_
  refine Ev.getR 24 18 32 fX8_init_175 (flX8_36 rfl) rfl rfl rfl ?_
  refine Ev.iconst fX8_init_178 ?_
  refine Ev.iload_n fX8_init_179 rfl ?_
  refine Ev.xmul (v := 24) fX8_init_180 rfl ?_
  refine Ev.iconst fX8_init_181 ?_
  refine Ev.xadd (v := 26) fX8_init_182 rfl ?_
  refine Ev.aload_n_1 fX8_init_183 rfl ?_
  refine Ev.getR 24 18 32 fX8_init_184 (flX8_36 rfl) rfl rfl rfl ?_
  refine Ev.iload_n fX8_init_187 rfl ?_
  refine Ev.xld (v := 11) 32 31 fX8_init_188 rfl (by decide) (by decide) rfl ?_
  refine Ev.iastore 32 31 fX8_init_189 rfl (by decide) (by decide) ?_
  refine Ev.siinc [(1, 24), (0, 13), (0, 10)] fX8_init_190 rfl rfl rfl ?_
  refine Ev.goto fX8_init_193 rfl ?_
  exact zn_X8_init_24_13
theorem zn_X8_init_24_11 {G : zG} {w : (Nat → Int → Int) × (Nat → Int → Int)} : Ev G mX8_init 112 [(1, 24), (0, 11), (0, 6)] [] ([(0, 7), (0, 1), (0, 0), (0, 6), (1, 40), (1, 40), (1, 1240), (1, 1240), (1, 4), (0, 4), (0, 0), (0, 6), (1, 40), (1, 40), (1, 1240), (1, 1240), (1, 4), (0, 3), (1, 72), (0, 2), (2, 60), (1, 4), (0, 5), (2, 109), (0, 8), (1, 1968), (1, 15744), (1, 1968), (1, 1968), (1, 60), (2, 160), (1, 31), (1, 31), (1, 155)], zkr42, zki54, w) (.inl none, ([(0, 7), (0, 1), (0, 0), (0, 6), (1, 40), (1, 40), (1, 1240), (1, 1240), (1, 4), (0, 4), (0, 0), (0, 6), (1, 40), (1, 40), (1, 1240), (1, 1240), (1, 4), (0, 3), (1, 72), (0, 2), (2, 60), (1, 4), (0, 5), (2, 109), (0, 8), (1, 1968), (1, 15744), (1, 1968), (1, 1968), (1, 60), (2, 160), (1, 31), (1, 31), (1, 155)], zkr42, zki58, w), 0, 0) := by
  refine Ev.iload_n fX8_init_112 rfl ?_
  refine Ev.bipush fX8_init_113 rfl ?_
  refine Ev.icmp_ge fX8_init_115 rfl (by decide) (by decide) (fun h => absurd h (by decide)) (fun _ => ?_)
  refine Ev.aload_n_1 fX8_init_118 rfl ?_
  refine Ev.getR 24 17 31 fX8_init_119 (flX8_33 rfl) rfl rfl rfl ?_
  refine Ev.iload_n fX8_init_122 rfl ?_
  refine Ev.xld (v := 8) 31 31 fX8_init_123 rfl (by decide) (by decide) rfl ?_
  refine Ev.aload_n_1 fX8_init_124 rfl ?_
  refine Ev.getR 24 18 32 fX8_init_125 (flX8_36 rfl) rfl rfl rfl ?_
  refine Ev.iload_n fX8_init_128 rfl ?_
  refine Ev.xld (v := 9) 32 31 fX8_init_129 rfl (by decide) (by decide) rfl ?_
  refine Ev.xadd (v := 17) fX8_init_130 rfl ?_
  refine Ev.iconst fX8_init_131 ?_
  refine Ev.idiv fX8_init_132 (by decide) (by decide) ?_
  rw [show (17 : Int) / 2 = 8 from rfl]
  refine Ev.sistore_n [(1, 24), (0, 11), (0, 8)] fX8_init_133 rfl rfl ?_
  refine Ev.aload_n_1 fX8_init_134 rfl ?_
  refine Ev.getR 24 17 31 fX8_init_135 (flX8_33 rfl) rfl rfl rfl ?_
  refine Ev.iconst fX8_init_138 ?_
  refine Ev.iload_n fX8_init_139 rfl ?_
  refine Ev.xmul (v := 22) fX8_init_140 rfl ?_
  refine Ev.iconst fX8_init_141 ?_
  refine Ev.xadd (v := 23) fX8_init_142 rfl ?_
  refine Ev.aload_n_1 fX8_init_143 rfl ?_
  refine Ev.getR 24 17 31 fX8_init_144 (flX8_33 rfl) rfl rfl rfl ?_
  refine Ev.iload_n fX8_init_147 rfl ?_
  refine Ev.xld (v := 8) 31 31 fX8_init_148 rfl (by decide) (by decide) rfl ?_
  refine Ev.iastore 31 31 fX8_init_149 rfl (by decide) (by decide) ?_
  refine Ev.aload_n_1 fX8_init_150 rfl ?_
  refine Ev.getR 24 18 32 fX8_init_151 (flX8_36 rfl) rfl rfl rfl ?_
  refine Ev.iconst fX8_init_154 ?_
  refine Ev.iload_n fX8_init_155 rfl ?_
  refine Ev.xmul (v := 22) fX8_init_156 rfl ?_
  refine Ev.iconst fX8_init_157 ?_
  refine Ev.xadd (v := 23) fX8_init_158 rfl ?_
  refine Ev.iload_n fX8_init_159 rfl ?_
  refine Ev.iastore 32 31 fX8_init_160 rfl (by decide) (by decide) ?_
  refine Ev.aload_n_1 fX8_init_161 rfl ?_
  refine Ev.getR 24 17 31 fX8_init_162 (flX8_33 rfl) rfl rfl rfl ?_
  refine Ev.iconst fX8_init_165 ?_
  refine Ev.iload_n fX8_init_166 rfl ?_
  refine Ev.xmul (v := 22) fX8_init_167 rfl ?_
  refine Ev.iconst fX8_init_168 ?_
  refine Ev.xadd (v := 24) fX8_init_169 rfl ?_
  refine Ev.iload_n fX8_init_170 rfl ?_
  refine Ev.iconst fX8_init_171 ?_
  refine Ev.xadd (v := 9) fX8_init_172 rfl ?_
  refine Ev.iastore 31 31 fX8_init_173 rfl (by decide) (by decide) ?_
  refine Ev.aload_n_1 fX8_init_174 rfl ?_
  refine Ev.getR 24 18 32 fX8_init_175 (flX8_36 rfl) rfl rfl rfl ?_
  refine Ev.iconst fX8_init_178 ?_
  refine Ev.iload_n fX8_init_179 rfl ?_
  refine Ev.xmul (v := 22) fX8_init_180 rfl ?_
  refine Ev.iconst fX8_init_181 ?_
  refine Ev.xadd (v := 24) fX8_init_182 rfl ?_
  refine Ev.aload_n_1 fX8_init_183 rfl ?_
  refine Ev.getR 24 18 32 fX8_init_184 (flX8_36 rfl) rfl rfl rfl ?_
  refine Ev.iload_n fX8_init_187 rfl ?_
  refine Ev.xld (v := 9) 32 31 fX8_init_188 rfl (by decide) (by decide) rfl ?_
  refine Ev.iastore 32 31 fX8_init_189 rfl (by decide) (by decide) ?_
  refine Ev.siinc [(1, 24), (0, 12), (0, 8)] fX8_init_190 rfl rfl rfl ?_
  refine Ev.goto fX8_init_193 rfl ?_
  exact zn_X8_init_24_12
theorem zn_X8_init_24_10 {G : zG} {w : (Nat → Int → Int) × (Nat → Int → Int)} : Ev G mX8_init 112 [(1, 24), (0, 10), (0, 4)] [] ([(0, 7), (0, 1), (0, 0), (0, 6), (1, 40), (1, 40), (1, 1240), (1, 1240), (1, 4), (0, 4), (0, 0), (0, 6), (1, 40), (1, 40), (1, 1240), (1, 1240), (1, 4), (0, 3), (1, 72), (0, 2), (2, 60), (1, 4), (0, 5), (2, 109), (0, 8), (1, 1968), (1, 15744), (1, 1968), (1, 1968), (1, 60), (2, 160), (1, 31), (1, 31), (1, 155)], zkr42, zki53, w) (.inl none, ([(0, 7), (0, 1), (0, 0), (0, 6), (1, 40), (1, 40), (1, 1240), (1, 1240), (1, 4), (0, 4), (0, 0), (0, 6), (1, 40), (1, 40), (1, 1240), (1, 1240), (1, 4), (0, 3), (1, 72), (0, 2), (2, 60), (1, 4), (0, 5), (2, 109), (0, 8), (1, 1968), (1, 15744), (1, 1968), (1, 1968), (1, 60), (2, 160), (1, 31), (1, 31), (1, 155)], zkr42, zki58, w), 0, 0) := by
  refine Ev.iload_n fX8_init_112 rfl ?_
  refine Ev.bipush fX8_init_113 rfl ?_
  refine Ev.icmp_ge fX8_init_115 rfl (by decide) (by decide) (fun h => absurd h (by decide)) (fun _ => ?_)
  refine Ev.aload_n_1 fX8_init_118 rfl ?_
  refine Ev.getR 24 17 31 fX8_init_119 (flX8_33 rfl) rfl rfl rfl ?_
  refine Ev.iload_n fX8_init_122 rfl ?_
  refine Ev.xld (v := 6) 31 31 fX8_init_123 rfl (by decide) (by decide) rfl ?_
  refine Ev.aload_n_1 fX8_init_124 rfl ?_
  refine Ev.getR 24 18 32 fX8_init_125 (flX8_36 rfl) rfl rfl rfl ?_
  refine Ev.iload_n fX8_init_128 rfl ?_
  refine Ev.xld (v := 7) 32 31 fX8_init_129 rfl (by decide) (by decide) rfl ?_
  refine Ev.xadd (v := 13) fX8_init_130 rfl ?_
  refine Ev.iconst fX8_init_131 ?_
  refine Ev.idiv fX8_init_132 (by decide) (by decide) ?_
  rw [show (13 : Int) / 2 = 6 from rfl]
  refine Ev.sistore_n [(1, 24), (0, 10), (0, 6)] fX8_init_133 rfl rfl ?_
  refine Ev.aload_n_1 fX8_init_134 rfl ?_
  refine Ev.getR 24 17 31 fX8_init_135 (flX8_33 rfl) rfl rfl rfl ?_
  refine Ev.iconst fX8_init_138 ?_
  refine Ev.iload_n fX8_init_139 rfl ?_
  refine Ev.xmul (v := 20) fX8_init_140 rfl ?_
  refine Ev.iconst fX8_init_141 ?_
  refine Ev.xadd (v := 21) fX8_init_142 rfl ?_
  refine Ev.aload_n_1 fX8_init_143 rfl ?_
  refine Ev.getR 24 17 31 fX8_init_144 (flX8_33 rfl) rfl rfl rfl ?_
  refine Ev.iload_n fX8_init_147 rfl ?_
  refine Ev.xld (v := 6) 31 31 fX8_init_148 rfl (by decide) (by decide) rfl ?_
  refine Ev.iastore 31 31 fX8_init_149 rfl (by decide) (by decide) ?_
  refine Ev.aload_n_1 fX8_init_150 rfl ?_
  refine Ev.getR 24 18 32 fX8_init_151 (flX8_36 rfl) rfl rfl rfl ?_
  refine Ev.iconst fX8_init_154 ?_
  refine Ev.iload_n fX8_init_155 rfl ?_
  refine Ev.xmul (v := 20) fX8_init_156 rfl ?_
  refine Ev.iconst fX8_init_157 ?_
  refine Ev.xadd (v := 21) fX8_init_158 rfl ?_
  refine Ev.iload_n fX8_init_159 rfl ?_
  refine Ev.iastore 32 31 fX8_init_160 rfl (by decide) (by decide) ?_
  refine Ev.aload_n_1 fX8_init_161 rfl ?_
  refine Ev.getR 24 17 31 fX8_init_162 (flX8_33 rfl) rfl rfl rfl ?_
  refine Ev.iconst fX8_init_165 ?_
  refine Ev.iload_n fX8_init_166 rfl ?_
  refine Ev.xmul (v := 20) fX8_init_167 rfl ?_
  refine Ev.iconst fX8_init_168 ?_
  refine Ev.xadd (v := 22) fX8_init_169 rfl ?_
  refine Ev.iload_n fX8_init_170 rfl ?_
  refine Ev.iconst fX8_init_171 ?_
  refine Ev.xadd (v := 7) fX8_init_172 rfl ?_
  refine Ev.iastore 31 31 fX8_init_173 rfl (by decide) (by decide) ?_
  refine Ev.aload_n_1 fX8_init_174 rfl ?_
  refine Ev.getR 24 18 32 fX8_init_175 (flX8_36 rfl) rfl rfl rfl ?_
  refine Ev.iconst fX8_init_178 ?_
  refine Ev.iload_n fX8_init_179 rfl ?_
  refine Ev.xmul (v := 20) fX8_init_180 rfl ?_
  refine Ev.iconst fX8_init_181 ?_
  refine Ev.xadd (v := 22) fX8_init_182 rfl ?_
  refine Ev.aload_n_1 fX8_init_183 rfl ?_
  refine Ev.getR 24 18 32 fX8_init_184 (flX8_36 rfl) rfl rfl rfl ?_
  refine Ev.iload_n fX8_init_187 rfl ?_
  refine Ev.xld (v := 7) 32 31 fX8_init_188 rfl (by decide) (by decide) rfl ?_
  refine Ev.iastore 32 31 fX8_init_189 rfl (by decide) (by decide) ?_
  refine Ev.siinc [(1, 24), (0, 11), (0, 6)] fX8_init_190 rfl rfl rfl ?_
  refine Ev.goto fX8_init_193 rfl ?_
  exact zn_X8_init_24_11
theorem zn_X8_init_24_9 {G : zG} {w : (Nat → Int → Int) × (Nat → Int → Int)} : Ev G mX8_init 112 [(1, 24), (0, 9), (0, 2)] [] ([(0, 7), (0, 1), (0, 0), (0, 6), (1, 40), (1, 40), (1, 1240), (1, 1240), (1, 4), (0, 4), (0, 0), (0, 6), (1, 40), (1, 40), (1, 1240), (1, 1240), (1, 4), (0, 3), (1, 72), (0, 2), (2, 60), (1, 4), (0, 5), (2, 109), (0, 8), (1, 1968), (1, 15744), (1, 1968), (1, 1968), (1, 60), (2, 160), (1, 31), (1, 31), (1, 155)], zkr42, zki52, w) (.inl none, ([(0, 7), (0, 1), (0, 0), (0, 6), (1, 40), (1, 40), (1, 1240), (1, 1240), (1, 4), (0, 4), (0, 0), (0, 6), (1, 40), (1, 40), (1, 1240), (1, 1240), (1, 4), (0, 3), (1, 72), (0, 2), (2, 60), (1, 4), (0, 5), (2, 109), (0, 8), (1, 1968), (1, 15744), (1, 1968), (1, 1968), (1, 60), (2, 160), (1, 31), (1, 31), (1, 155)], zkr42, zki58, w), 0, 0) := by
  refine Ev.iload_n fX8_init_112 rfl ?_
  refine Ev.bipush fX8_init_113 rfl ?_
  refine Ev.icmp_ge fX8_init_115 rfl (by decide) (by decide) (fun h => absurd h (by decide)) (fun _ => ?_)
  refine Ev.aload_n_1 fX8_init_118 rfl ?_
  refine Ev.getR 24 17 31 fX8_init_119 (flX8_33 rfl) rfl rfl rfl ?_
  refine Ev.iload_n fX8_init_122 rfl ?_
  refine Ev.xld (v := 4) 31 31 fX8_init_123 rfl (by decide) (by decide) rfl ?_
  refine Ev.aload_n_1 fX8_init_124 rfl ?_
  refine Ev.getR 24 18 32 fX8_init_125 (flX8_36 rfl) rfl rfl rfl ?_
  refine Ev.iload_n fX8_init_128 rfl ?_
  refine Ev.xld (v := 5) 32 31 fX8_init_129 rfl (by decide) (by decide) rfl ?_
  refine Ev.xadd (v := 9) fX8_init_130 rfl ?_
  refine Ev.iconst fX8_init_131 ?_
  refine Ev.idiv fX8_init_132 (by decide) (by decide) ?_
  rw [show (9 : Int) / 2 = 4 from rfl]
  refine Ev.sistore_n [(1, 24), (0, 9), (0, 4)] fX8_init_133 rfl rfl ?_
  refine Ev.aload_n_1 fX8_init_134 rfl ?_
  refine Ev.getR 24 17 31 fX8_init_135 (flX8_33 rfl) rfl rfl rfl ?_
  refine Ev.iconst fX8_init_138 ?_
  refine Ev.iload_n fX8_init_139 rfl ?_
  refine Ev.xmul (v := 18) fX8_init_140 rfl ?_
  refine Ev.iconst fX8_init_141 ?_
  refine Ev.xadd (v := 19) fX8_init_142 rfl ?_
  refine Ev.aload_n_1 fX8_init_143 rfl ?_
  refine Ev.getR 24 17 31 fX8_init_144 (flX8_33 rfl) rfl rfl rfl ?_
  refine Ev.iload_n fX8_init_147 rfl ?_
  refine Ev.xld (v := 4) 31 31 fX8_init_148 rfl (by decide) (by decide) rfl ?_
  refine Ev.iastore 31 31 fX8_init_149 rfl (by decide) (by decide) ?_
  refine Ev.aload_n_1 fX8_init_150 rfl ?_
  refine Ev.getR 24 18 32 fX8_init_151 (flX8_36 rfl) rfl rfl rfl ?_
  refine Ev.iconst fX8_init_154 ?_
  refine Ev.iload_n fX8_init_155 rfl ?_
  refine Ev.xmul (v := 18) fX8_init_156 rfl ?_
  refine Ev.iconst fX8_init_157 ?_
  refine Ev.xadd (v := 19) fX8_init_158 rfl ?_
  refine Ev.iload_n fX8_init_159 rfl ?_
  refine Ev.iastore 32 31 fX8_init_160 rfl (by decide) (by decide) ?_
  refine Ev.aload_n_1 fX8_init_161 rfl ?_
  refine Ev.getR 24 17 31 fX8_init_162 (flX8_33 rfl) rfl rfl rfl ?_
  refine Ev.iconst fX8_init_165 ?_
  refine Ev.iload_n fX8_init_166 rfl ?_
  refine Ev.xmul (v := 18) fX8_init_167 rfl ?_
  refine Ev.iconst fX8_init_168 ?_
  refine Ev.xadd (v := 20) fX8_init_169 rfl ?_
  refine Ev.iload_n fX8_init_170 rfl ?_
  refine Ev.iconst fX8_init_171 ?_
  refine Ev.xadd (v := 5) fX8_init_172 rfl ?_
  refine Ev.iastore 31 31 fX8_init_173 rfl (by decide) (by decide) ?_
  refine Ev.aload_n_1 fX8_init_174 rfl ?_
  refine Ev.getR 24 18 32 fX8_init_175 (flX8_36 rfl) rfl rfl rfl ?_
  refine Ev.iconst fX8_init_178 ?_
  refine Ev.iload_n fX8_init_179 rfl ?_
  refine Ev.xmul (v := 18) fX8_init_180 rfl ?_
  refine Ev.iconst fX8_init_181 ?_
  refine Ev.xadd (v := 20) fX8_init_182 rfl ?_
  refine Ev.aload_n_1 fX8_init_183 rfl ?_
  refine Ev.getR 24 18 32 fX8_init_184 (flX8_36 rfl) rfl rfl rfl ?_
  refine Ev.iload_n fX8_init_187 rfl ?_
  refine Ev.xld (v := 5) 32 31 fX8_init_188 rfl (by decide) (by decide) rfl ?_
  refine Ev.iastore 32 31 fX8_init_189 rfl (by decide) (by decide) ?_
  refine Ev.siinc [(1, 24), (0, 10), (0, 4)] fX8_init_190 rfl rfl rfl ?_
  refine Ev.goto fX8_init_193 rfl ?_
  exact zn_X8_init_24_10
theorem zn_X8_init_24_8 {G : zG} {w : (Nat → Int → Int) × (Nat → Int → Int)} : Ev G mX8_init 112 [(1, 24), (0, 8), (0, 0)] [] ([(0, 7), (0, 1), (0, 0), (0, 6), (1, 40), (1, 40), (1, 1240), (1, 1240), (1, 4), (0, 4), (0, 0), (0, 6), (1, 40), (1, 40), (1, 1240), (1, 1240), (1, 4), (0, 3), (1, 72), (0, 2), (2, 60), (1, 4), (0, 5), (2, 109), (0, 8), (1, 1968), (1, 15744), (1, 1968), (1, 1968), (1, 60), (2, 160), (1, 31), (1, 31), (1, 155)], zkr42, zki51, w) (.inl none, ([(0, 7), (0, 1), (0, 0), (0, 6), (1, 40), (1, 40), (1, 1240), (1, 1240), (1, 4), (0, 4), (0, 0), (0, 6), (1, 40), (1, 40), (1, 1240), (1, 1240), (1, 4), (0, 3), (1, 72), (0, 2), (2, 60), (1, 4), (0, 5), (2, 109), (0, 8), (1, 1968), (1, 15744), (1, 1968), (1, 1968), (1, 60), (2, 160), (1, 31), (1, 31), (1, 155)], zkr42, zki58, w), 0, 0) := by
  refine Ev.iload_n fX8_init_112 rfl ?_
  refine Ev.bipush fX8_init_113 rfl ?_
  refine Ev.icmp_ge fX8_init_115 rfl (by decide) (by decide) (fun h => absurd h (by decide)) (fun _ => ?_)
  refine Ev.aload_n_1 fX8_init_118 rfl ?_
  refine Ev.getR 24 17 31 fX8_init_119 (flX8_33 rfl) rfl rfl rfl ?_
  refine Ev.iload_n fX8_init_122 rfl ?_
  refine Ev.xld (v := 2) 31 31 fX8_init_123 rfl (by decide) (by decide) rfl ?_
  refine Ev.aload_n_1 fX8_init_124 rfl ?_
  refine Ev.getR 24 18 32 fX8_init_125 (flX8_36 rfl) rfl rfl rfl ?_
  refine Ev.iload_n fX8_init_128 rfl ?_
  refine Ev.xld (v := 3) 32 31 fX8_init_129 rfl (by decide) (by decide) rfl ?_
  refine Ev.xadd (v := 5) fX8_init_130 rfl ?_
  refine Ev.iconst fX8_init_131 ?_
  refine Ev.idiv fX8_init_132 (by decide) (by decide) ?_
  rw [show (5 : Int) / 2 = 2 from rfl]
  refine Ev.sistore_n [(1, 24), (0, 8), (0, 2)] fX8_init_133 rfl rfl ?_
  refine Ev.aload_n_1 fX8_init_134 rfl ?_
  refine Ev.getR 24 17 31 fX8_init_135 (flX8_33 rfl) rfl rfl rfl ?_
  refine Ev.iconst fX8_init_138 ?_
  refine Ev.iload_n fX8_init_139 rfl ?_
  refine Ev.xmul (v := 16) fX8_init_140 rfl ?_
  refine Ev.iconst fX8_init_141 ?_
  refine Ev.xadd (v := 17) fX8_init_142 rfl ?_
  refine Ev.aload_n_1 fX8_init_143 rfl ?_
  refine Ev.getR 24 17 31 fX8_init_144 (flX8_33 rfl) rfl rfl rfl ?_
  refine Ev.iload_n fX8_init_147 rfl ?_
  refine Ev.xld (v := 2) 31 31 fX8_init_148 rfl (by decide) (by decide) rfl ?_
  refine Ev.iastore 31 31 fX8_init_149 rfl (by decide) (by decide) ?_
  refine Ev.aload_n_1 fX8_init_150 rfl ?_
  refine Ev.getR 24 18 32 fX8_init_151 (flX8_36 rfl) rfl rfl rfl ?_
  refine Ev.iconst fX8_init_154 ?_
  refine Ev.iload_n fX8_init_155 rfl ?_
  refine Ev.xmul (v := 16) fX8_init_156 rfl ?_
  refine Ev.iconst fX8_init_157 ?_
  refine Ev.xadd (v := 17) fX8_init_158 rfl ?_
  refine Ev.iload_n fX8_init_159 rfl ?_
  refine Ev.iastore 32 31 fX8_init_160 rfl (by decide) (by decide) ?_
  refine Ev.aload_n_1 fX8_init_161 rfl ?_
  refine Ev.getR 24 17 31 fX8_init_162 (flX8_33 rfl) rfl rfl rfl ?_
  refine Ev.iconst fX8_init_165 ?_
  refine Ev.iload_n fX8_init_166 rfl ?_
  refine Ev.xmul (v := 16) fX8_init_167 rfl ?_
  refine Ev.iconst fX8_init_168 ?_
  refine Ev.xadd (v := 18) fX8_init_169 rfl ?_
  refine Ev.iload_n fX8_init_170 rfl ?_
  refine Ev.iconst fX8_init_171 ?_
  refine Ev.xadd (v := 3) fX8_init_172 rfl ?_
  refine Ev.iastore 31 31 fX8_init_173 rfl (by decide) (by decide) ?_
  refine Ev.aload_n_1 fX8_init_174 rfl ?_
  refine Ev.getR 24 18 32 fX8_init_175 (flX8_36 rfl) rfl rfl rfl ?_
  refine Ev.iconst fX8_init_178 ?_
  refine Ev.iload_n fX8_init_179 rfl ?_
  refine Ev.xmul (v := 16) fX8_init_180 rfl ?_
  refine Ev.iconst fX8_init_181 ?_
  refine Ev.xadd (v := 18) fX8_init_182 rfl ?_
  refine Ev.aload_n_1 fX8_init_183 rfl ?_
  refine Ev.getR 24 18 32 fX8_init_184 (flX8_36 rfl) rfl rfl rfl ?_
  refine Ev.iload_n fX8_init_187 rfl ?_
  refine Ev.xld (v := 3) 32 31 fX8_init_188 rfl (by decide) (by decide) rfl ?_
  refine Ev.iastore 32 31 fX8_init_189 rfl (by decide) (by decide) ?_
  refine Ev.siinc [(1, 24), (0, 9), (0, 2)] fX8_init_190 rfl rfl rfl ?_
  refine Ev.goto fX8_init_193 rfl ?_
  exact zn_X8_init_24_9
theorem zn_X8_init_24_7 {G : zG} {w : (Nat → Int → Int) × (Nat → Int → Int)} : Ev G mX8_init 112 [(1, 24), (0, 7), (0, 13)] [] ([(0, 7), (0, 1), (0, 0), (0, 6), (1, 40), (1, 40), (1, 1240), (1, 1240), (1, 4), (0, 4), (0, 0), (0, 6), (1, 40), (1, 40), (1, 1240), (1, 1240), (1, 4), (0, 3), (1, 72), (0, 2), (2, 60), (1, 4), (0, 5), (2, 109), (0, 8), (1, 1968), (1, 15744), (1, 1968), (1, 1968), (1, 60), (2, 160), (1, 31), (1, 31), (1, 155)], zkr42, zki50, w) (.inl none, ([(0, 7), (0, 1), (0, 0), (0, 6), (1, 40), (1, 40), (1, 1240), (1, 1240), (1, 4), (0, 4), (0, 0), (0, 6), (1, 40), (1, 40), (1, 1240), (1, 1240), (1, 4), (0, 3), (1, 72), (0, 2), (2, 60), (1, 4), (0, 5), (2, 109), (0, 8), (1, 1968), (1, 15744), (1, 1968), (1, 1968), (1, 60), (2, 160), (1, 31), (1, 31), (1, 155)], zkr42, zki58, w), 0, 0) := by
  refine Ev.iload_n fX8_init_112 rfl ?_
  refine Ev.bipush fX8_init_113 rfl ?_
  refine Ev.icmp_ge fX8_init_115 rfl (by decide) (by decide) (fun h => absurd h (by decide)) (fun _ => ?_)
  refine Ev.aload_n_1 fX8_init_118 rfl ?_
  refine Ev.getR 24 17 31 fX8_init_119 (flX8_33 rfl) rfl rfl rfl ?_
  refine Ev.iload_n fX8_init_122 rfl ?_
  refine Ev.xld (v := 0) 31 31 fX8_init_123 rfl (by decide) (by decide) rfl ?_
  refine Ev.aload_n_1 fX8_init_124 rfl ?_
  refine Ev.getR 24 18 32 fX8_init_125 (flX8_36 rfl) rfl rfl rfl ?_
  refine Ev.iload_n fX8_init_128 rfl ?_
  refine Ev.xld (v := 1) 32 31 fX8_init_129 rfl (by decide) (by decide) rfl ?_
  refine Ev.xadd (v := 1) fX8_init_130 rfl ?_
  refine Ev.iconst fX8_init_131 ?_
  refine Ev.idiv fX8_init_132 (by decide) (by decide) ?_
  rw [show (1 : Int) / 2 = 0 from rfl]
  refine Ev.sistore_n [(1, 24), (0, 7), (0, 0)] fX8_init_133 rfl rfl ?_
  refine Ev.aload_n_1 fX8_init_134 rfl ?_
  refine Ev.getR 24 17 31 fX8_init_135 (flX8_33 rfl) rfl rfl rfl ?_
  refine Ev.iconst fX8_init_138 ?_
  refine Ev.iload_n fX8_init_139 rfl ?_
  refine Ev.xmul (v := 14) fX8_init_140 rfl ?_
  refine Ev.iconst fX8_init_141 ?_
  refine Ev.xadd (v := 15) fX8_init_142 rfl ?_
  refine Ev.aload_n_1 fX8_init_143 rfl ?_
  refine Ev.getR 24 17 31 fX8_init_144 (flX8_33 rfl) rfl rfl rfl ?_
  refine Ev.iload_n fX8_init_147 rfl ?_
  refine Ev.xld (v := 0) 31 31 fX8_init_148 rfl (by decide) (by decide) rfl ?_
  refine Ev.iastore 31 31 fX8_init_149 rfl (by decide) (by decide) ?_
  refine Ev.aload_n_1 fX8_init_150 rfl ?_
  refine Ev.getR 24 18 32 fX8_init_151 (flX8_36 rfl) rfl rfl rfl ?_
  refine Ev.iconst fX8_init_154 ?_
  refine Ev.iload_n fX8_init_155 rfl ?_
  refine Ev.xmul (v := 14) fX8_init_156 rfl ?_
  refine Ev.iconst fX8_init_157 ?_
  refine Ev.xadd (v := 15) fX8_init_158 rfl ?_
  refine Ev.iload_n fX8_init_159 rfl ?_
  refine Ev.iastore 32 31 fX8_init_160 rfl (by decide) (by decide) ?_
  refine Ev.aload_n_1 fX8_init_161 rfl ?_
  refine Ev.getR 24 17 31 fX8_init_162 (flX8_33 rfl) rfl rfl rfl ?_
  refine Ev.iconst fX8_init_165 ?_
  refine Ev.iload_n fX8_init_166 rfl ?_
  refine Ev.xmul (v := 14) fX8_init_167 rfl ?_
  refine Ev.iconst fX8_init_168 ?_
  refine Ev.xadd (v := 16) fX8_init_169 rfl ?_
  refine Ev.iload_n fX8_init_170 rfl ?_
  refine Ev.iconst fX8_init_171 ?_
  refine Ev.xadd (v := 1) fX8_init_172 rfl ?_
  refine Ev.iastore 31 31 fX8_init_173 rfl (by decide) (by decide) ?_
  refine Ev.aload_n_1 fX8_init_174 rfl ?_
  refine Ev.getR 24 18 32 fX8_init_175 (flX8_36 rfl) rfl rfl rfl ?_
  refine Ev.iconst fX8_init_178 ?_
  refine Ev.iload_n fX8_init_179 rfl ?_
  refine Ev.xmul (v := 14) fX8_init_180 rfl ?_
  refine Ev.iconst fX8_init_181 ?_
  refine Ev.xadd (v := 16) fX8_init_182 rfl ?_
  refine Ev.aload_n_1 fX8_init_183 rfl ?_
  refine Ev.getR 24 18 32 fX8_init_184 (flX8_36 rfl) rfl rfl rfl ?_
  refine Ev.iload_n fX8_init_187 rfl ?_
  refine Ev.xld (v := 1) 32 31 fX8_init_188 rfl (by decide) (by decide) rfl ?_
  refine Ev.iastore 32 31 fX8_init_189 rfl (by decide) (by decide) ?_
  refine Ev.siinc [(1, 24), (0, 8), (0, 0)] fX8_init_190 rfl rfl rfl ?_
  refine Ev.goto fX8_init_193 rfl ?_
  exact zn_X8_init_24_8
theorem zn_X8_init_24_6 {G : zG} {w : (Nat → Int → Int) × (Nat → Int → Int)} : Ev G mX8_init 112 [(1, 24), (0, 6), (0, 9)] [] ([(0, 7), (0, 1), (0, 0), (0, 6), (1, 40), (1, 40), (1, 1240), (1, 1240), (1, 4), (0, 4), (0, 0), (0, 6), (1, 40), (1, 40), (1, 1240), (1, 1240), (1, 4), (0, 3), (1, 72), (0, 2), (2, 60), (1, 4), (0, 5), (2, 109), (0, 8), (1, 1968), (1, 15744), (1, 1968), (1, 1968), (1, 60), (2, 160), (1, 31), (1, 31), (1, 155)], zkr42, zki49, w) (.inl none, ([(0, 7), (0, 1), (0, 0), (0, 6), (1, 40), (1, 40), (1, 1240), (1, 1240), (1, 4), (0, 4), (0, 0), (0, 6), (1, 40), (1, 40), (1, 1240), (1, 1240), (1, 4), (0, 3), (1, 72), (0, 2), (2, 60), (1, 4), (0, 5), (2, 109), (0, 8), (1, 1968), (1, 15744), (1, 1968), (1, 1968), (1, 60), (2, 160), (1, 31), (1, 31), (1, 155)], zkr42, zki58, w), 0, 0) := by
  refine Ev.iload_n fX8_init_112 rfl ?_
  refine Ev.bipush fX8_init_113 rfl ?_
  refine Ev.icmp_ge fX8_init_115 rfl (by decide) (by decide) (fun h => absurd h (by decide)) (fun _ => ?_)
  refine Ev.aload_n_1 fX8_init_118 rfl ?_
  refine Ev.getR 24 17 31 fX8_init_119 (flX8_33 rfl) rfl rfl rfl ?_
  refine Ev.iload_n fX8_init_122 rfl ?_
  refine Ev.xld (v := 12) 31 31 fX8_init_123 rfl (by decide) (by decide) rfl ?_
  refine Ev.aload_n_1 fX8_init_124 rfl ?_
  refine Ev.getR 24 18 32 fX8_init_125 (flX8_36 rfl) rfl rfl rfl ?_
  refine Ev.iload_n fX8_init_128 rfl ?_
  refine Ev.xld (v := 15) 32 31 fX8_init_129 rfl (by decide) (by decide) rfl ?_
  refine Ev.xadd (v := 27) fX8_init_130 rfl ?_
  refine Ev.iconst fX8_init_131 ?_
  refine Ev.idiv fX8_init_132 (by decide) (by decide) ?_
  rw [show (27 : Int) / 2 = 13 from rfl]
  refine Ev.sistore_n [(1, 24), (0, 6), (0, 13)] fX8_init_133 rfl rfl ?_
  refine Ev.aload_n_1 fX8_init_134 rfl ?_
  refine Ev.getR 24 17 31 fX8_init_135 (flX8_33 rfl) rfl rfl rfl ?_
  refine Ev.iconst fX8_init_138 ?_
  refine Ev.iload_n fX8_init_139 rfl ?_
  refine Ev.xmul (v := 12) fX8_init_140 rfl ?_
  refine Ev.iconst fX8_init_141 ?_
  refine Ev.xadd (v := 13) fX8_init_142 rfl ?_
  refine Ev.aload_n_1 fX8_init_143 rfl ?_
  refine Ev.getR 24 17 31 fX8_init_144 (flX8_33 rfl) rfl rfl rfl ?_
  refine Ev.iload_n fX8_init_147 rfl ?_
  refine Ev.xld (v := 12) 31 31 fX8_init_148 rfl (by decide) (by decide) rfl ?_
  refine Ev.iastore 31 31 fX8_init_149 rfl (by decide) (by decide) ?_
  refine Ev.aload_n_1 fX8_init_150 rfl ?_
  refine Ev.getR 24 18 32 fX8_init_151 (flX8_36 rfl) rfl rfl rfl ?_
  refine Ev.iconst fX8_init_154 ?_
  refine Ev.iload_n fX8_init_155 rfl ?_
  refine Ev.xmul (v := 12) fX8_init_156 rfl ?_
  refine Ev.iconst fX8_init_157 ?_
  refine Ev.xadd (v := 13) fX8_init_158 rfl ?_
  refine Ev.iload_n fX8_init_159 rfl ?_
  refine Ev.iastore 32 31 fX8_init_160 rfl (by decide) (by decide) ?_
  refine Ev.aload_n_1 fX8_init_161 rfl ?_
  refine Ev.getR 24 17 31 fX8_init_162 (flX8_33 rfl) rfl rfl rfl ?_
  refine Ev.iconst fX8_init_165 ?_
  refine Ev.iload_n fX8_init_166 rfl ?_
  refine Ev.xmul (v := 12) fX8_init_167 rfl ?_
  refine Ev.iconst fX8_init_168 ?_
  refine Ev.xadd (v := 14) fX8_init_169 rfl ?_
  refine Ev.iload_n fX8_init_170 rfl ?_
  refine Ev.iconst fX8_init_171 ?_
  refine Ev.xadd (v := 14) fX8_init_172 rfl ?_
  refine Ev.iastore 31 31 fX8_init_173 rfl (by decide) (by decide) ?_
  refine Ev.aload_n_1 fX8_init_174 rfl ?_
  refine Ev.getR 24 18 32 fX8_init_175 (flX8_36 rfl) rfl rfl rfl ?_
  refine Ev.iconst fX8_init_178 ?_
  refine Ev.iload_n fX8_init_179 rfl ?_
  refine Ev.xmul (v := 12) fX8_init_180 rfl ?_
  refine Ev.iconst fX8_init_181 ?_
  refine Ev.xadd (v := 14) fX8_init_182 rfl ?_
  refine Ev.aload_n_1 fX8_init_183 rfl ?_
  refine Ev.getR 24 18 32 fX8_init_184 (flX8_36 rfl) rfl rfl rfl ?_
  refine Ev.iload_n fX8_init_187 rfl ?_
  refine Ev.xld (v := 15) 32 31 fX8_init_188 rfl (by decide) (by decide) rfl ?_
  refine Ev.iastore 32 31 fX8_init_189 rfl (by decide) (by decide) ?_
  refine Ev.siinc [(1, 24), (0, 7), (0, 13)] fX8_init_190 rfl rfl rfl ?_
  refine Ev.goto fX8_init_193 rfl ?_
  exact zn_X8_init_24_7
theorem zn_X8_init_24_5 {G : zG} {w : (Nat → Int → Int) × (Nat → Int → Int)} : Ev G mX8_init 112 [(1, 24), (0, 5), (0, 5)] [] ([(0, 7), (0, 1), (0, 0), (0, 6), (1, 40), (1, 40), (1, 1240), (1, 1240), (1, 4), (0, 4), (0, 0), (0, 6), (1, 40), (1, 40), (1, 1240), (1, 1240), (1, 4), (0, 3), (1, 72), (0, 2), (2, 60), (1, 4), (0, 5), (2, 109), (0, 8), (1, 1968), (1, 15744), (1, 1968), (1, 1968), (1, 60), (2, 160), (1, 31), (1, 31), (1, 155)], zkr42, zki48, w) (.inl none, ([(0, 7), (0, 1), (0, 0), (0, 6), (1, 40), (1, 40), (1, 1240), (1, 1240), (1, 4), (0, 4), (0, 0), (0, 6), (1, 40), (1, 40), (1, 1240), (1, 1240), (1, 4), (0, 3), (1, 72), (0, 2), (2, 60), (1, 4), (0, 5), (2, 109), (0, 8), (1, 1968), (1, 15744), (1, 1968), (1, 1968), (1, 60), (2, 160), (1, 31), (1, 31), (1, 155)], zkr42, zki58, w), 0, 0) := by
  refine Ev.iload_n fX8_init_112 rfl ?_
  refine Ev.bipush fX8_init_113 rfl ?_
  refine Ev.icmp_ge fX8_init_115 rfl (by decide) (by decide) (fun h => absurd h (by decide)) (fun _ => ?_)
  refine Ev.aload_n_1 fX8_init_118 rfl ?_
  refine Ev.getR 24 17 31 fX8_init_119 (flX8_33 rfl) rfl rfl rfl ?_
  refine Ev.iload_n fX8_init_122 rfl ?_
  refine Ev.xld (v := 8) 31 31 fX8_init_123 rfl (by decide) (by decide) rfl ?_
  refine Ev.aload_n_1 fX8_init_124 rfl ?_
  refine Ev.getR 24 18 32 fX8_init_125 (flX8_36 rfl) rfl rfl rfl ?_
  refine Ev.iload_n fX8_init_128 rfl ?_
  refine Ev.xld (v := 11) 32 31 fX8_init_129 rfl (by decide) (by decide) rfl ?_
  refine Ev.xadd (v := 19) fX8_init_130 rfl ?_
  refine Ev.iconst fX8_init_131 ?_
  refine Ev.idiv fX8_init_132 (by decide) (by decide) ?_
  rw [show (19 : Int) / 2 = 9 from rfl]
  refine Ev.sistore_n [(1, 24), (0, 5), (0, 9)] fX8_init_133 rfl rfl ?_
  refine Ev.aload_n_1 fX8_init_134 rfl ?_
  refine Ev.getR 24 17 31 fX8_init_135 (flX8_33 rfl) rfl rfl rfl ?_
  refine Ev.iconst fX8_init_138 ?_
  refine Ev.iload_n fX8_init_139 rfl ?_
  refine Ev.xmul (v := 10) fX8_init_140 rfl ?_
  refine Ev.iconst fX8_init_141 ?_
  refine Ev.xadd (v := 11) fX8_init_142 rfl ?_
  refine Ev.aload_n_1 fX8_init_143 rfl ?_
  refine Ev.getR 24 17 31 fX8_init_144 (flX8_33 rfl) rfl rfl rfl ?_
  refine Ev.iload_n fX8_init_147 rfl ?_
  refine Ev.xld (v := 8) 31 31 fX8_init_148 rfl (by decide) (by decide) rfl ?_
  refine Ev.iastore 31 31 fX8_init_149 rfl (by decide) (by decide) ?_
  refine Ev.aload_n_1 fX8_init_150 rfl ?_
  refine Ev.getR 24 18 32 fX8_init_151 (flX8_36 rfl) rfl rfl rfl ?_
  refine Ev.iconst fX8_init_154 ?_
  refine Ev.iload_n fX8_init_155 rfl ?_
  refine Ev.xmul (v := 10) fX8_init_156 rfl ?_
  refine Ev.iconst fX8_init_157 ?_
  refine Ev.xadd (v := 11) fX8_init_158 rfl ?_
  refine Ev.iload_n fX8_init_159 rfl ?_
  refine Ev.iastore 32 31 fX8_init_160 rfl (by decide) (by decide) ?_
  refine Ev.aload_n_1 fX8_init_161 rfl ?_
  refine Ev.getR 24 17 31 fX8_init_162 (flX8_33 rfl) rfl rfl rfl ?_
  refine Ev.iconst fX8_init_165 ?_
  refine Ev.iload_n fX8_init_166 rfl ?_
  refine Ev.xmul (v := 10) fX8_init_167 rfl ?_
  refine Ev.iconst fX8_init_168 ?_
  refine Ev.xadd (v := 12) fX8_init_169 rfl ?_
  refine Ev.iload_n fX8_init_170 rfl ?_
  refine Ev.iconst fX8_init_171 ?_
  refine Ev.xadd (v := 10) fX8_init_172 rfl ?_
  refine Ev.iastore 31 31 fX8_init_173 rfl (by decide) (by decide) ?_
  refine Ev.aload_n_1 fX8_init_174 rfl ?_
  refine Ev.getR 24 18 32 fX8_init_175 (flX8_36 rfl) rfl rfl rfl ?_
  refine Ev.iconst fX8_init_178 ?_
  refine Ev.iload_n fX8_init_179 rfl ?_
  refine Ev.xmul (v := 10) fX8_init_180 rfl ?_
  refine Ev.iconst fX8_init_181 ?_
  refine Ev.xadd (v := 12) fX8_init_182 rfl ?_
  refine Ev.aload_n_1 fX8_init_183 rfl ?_
  refine Ev.getR 24 18 32 fX8_init_184 (flX8_36 rfl) rfl rfl rfl ?_
  refine Ev.iload_n fX8_init_187 rfl ?_
  refine Ev.xld (v := 11) 32 31 fX8_init_188 rfl (by decide) (by decide) rfl ?_
  refine Ev.iastore 32 31 fX8_init_189 rfl (by decide) (by decide) ?_
  refine Ev.siinc [(1, 24), (0, 6), (0, 9)] fX8_init_190 rfl rfl rfl ?_
  refine Ev.goto fX8_init_193 rfl ?_
  exact zn_X8_init_24_6
theorem zn_X8_init_24_4 {G : zG} {w : (Nat → Int → Int) × (Nat → Int → Int)} : Ev G mX8_init 112 [(1, 24), (0, 4), (0, 1)] [] ([(0, 7), (0, 1), (0, 0), (0, 6), (1, 40), (1, 40), (1, 1240), (1, 1240), (1, 4), (0, 4), (0, 0), (0, 6), (1, 40), (1, 40), (1, 1240), (1, 1240), (1, 4), (0, 3), (1, 72), (0, 2), (2, 60), (1, 4), (0, 5), (2, 109), (0, 8), (1, 1968), (1, 15744), (1, 1968), (1, 1968), (1, 60), (2, 160), (1, 31), (1, 31), (1, 155)], zkr42, zki47, w) (.inl none, ([(0, 7), (0, 1), (0, 0), (0, 6), (1, 40), (1, 40), (1, 1240), (1, 1240), (1, 4), (0, 4), (0, 0), (0, 6), (1, 40), (1, 40), (1, 1240), (1, 1240), (1, 4), (0, 3), (1, 72), (0, 2), (2, 60), (1, 4), (0, 5), (2, 109), (0, 8), (1, 1968), (1, 15744), (1, 1968), (1, 1968), (1, 60), (2, 160), (1, 31), (1, 31), (1, 155)], zkr42, zki58, w), 0, 0) := by
  refine Ev.iload_n fX8_init_112 rfl ?_
  refine Ev.bipush fX8_init_113 rfl ?_
  refine Ev.icmp_ge fX8_init_115 rfl (by decide) (by decide) (fun h => absurd h (by decide)) (fun _ => ?_)
  refine Ev.aload_n_1 fX8_init_118 rfl ?_
  refine Ev.getR 24 17 31 fX8_init_119 (flX8_33 rfl) rfl rfl rfl ?_
  refine Ev.iload_n fX8_init_122 rfl ?_
  refine Ev.xld (v := 4) 31 31 fX8_init_123 rfl (by decide) (by decide) rfl ?_
  refine Ev.aload_n_1 fX8_init_124 rfl ?_
  refine Ev.getR 24 18 32 fX8_init_125 (flX8_36 rfl) rfl rfl rfl ?_
  refine Ev.iload_n fX8_init_128 rfl ?_
  refine Ev.xld (v := 7) 32 31 fX8_init_129 rfl (by decide) (by decide) rfl ?_
  refine Ev.xadd (v := 11) fX8_init_130 rfl ?_
  refine Ev.iconst fX8_init_131 ?_
  refine Ev.idiv fX8_init_132 (by decide) (by decide) ?_
  rw [show (11 : Int) / 2 = 5 from rfl]
  refine Ev.sistore_n [(1, 24), (0, 4), (0, 5)] fX8_init_133 rfl rfl ?_
  refine Ev.aload_n_1 fX8_init_134 rfl ?_
  refine Ev.getR 24 17 31 fX8_init_135 (flX8_33 rfl) rfl rfl rfl ?_
  refine Ev.iconst fX8_init_138 ?_
  refine Ev.iload_n fX8_init_139 rfl ?_
  refine Ev.xmul (v := 8) fX8_init_140 rfl ?_
  refine Ev.iconst fX8_init_141 ?_
  refine Ev.xadd (v := 9) fX8_init_142 rfl ?_
  refine Ev.aload_n_1 fX8_init_143 rfl ?_
  refine Ev.getR 24 17 31 fX8_init_144 (flX8_33 rfl) rfl rfl rfl ?_
  refine Ev.iload_n fX8_init_147 rfl ?_
  refine Ev.xld (v := 4) 31 31 fX8_init_148 rfl (by decide) (by decide) rfl ?_
  refine Ev.iastore 31 31 fX8_init_149 rfl (by decide) (by decide) ?_
  refine Ev.aload_n_1 fX8_init_150 rfl ?_
  refine Ev.getR 24 18 32 fX8_init_151 (flX8_36 rfl) rfl rfl rfl ?_
  refine Ev.iconst fX8_init_154 ?_
  refine Ev.iload_n fX8_init_155 rfl ?_
  refine Ev.xmul (v := 8) fX8_init_156 rfl ?_
  refine Ev.iconst fX8_init_157 ?_
  refine Ev.xadd (v := 9) fX8_init_158 rfl ?_
  refine Ev.iload_n fX8_init_159 rfl ?_
  refine Ev.iastore 32 31 fX8_init_160 rfl (by decide) (by decide) ?_
  refine Ev.aload_n_1 fX8_init_161 rfl ?_
  refine Ev.getR 24 17 31 fX8_init_162 (flX8_33 rfl) rfl rfl rfl ?_
  refine Ev.iconst fX8_init_165 ?_
  refine Ev.iload_n fX8_init_166 rfl ?_
  refine Ev.xmul (v := 8) fX8_init_167 rfl ?_
  refine Ev.iconst fX8_init_168 ?_
  refine Ev.xadd (v := 10) fX8_init_169 rfl ?_
  refine Ev.iload_n fX8_init_170 rfl ?_
  refine Ev.iconst fX8_init_171 ?_
  refine Ev.xadd (v := 6) fX8_init_172 rfl ?_
  refine Ev.iastore 31 31 fX8_init_173 rfl (by decide) (by decide) ?_
  refine Ev.aload_n_1 fX8_init_174 rfl ?_
  refine Ev.getR 24 18 32 fX8_init_175 (flX8_36 rfl) rfl rfl rfl ?_
  refine Ev.iconst fX8_init_178 ?_
  refine Ev.iload_n fX8_init_179 rfl ?_
  refine Ev.xmul (v := 8) fX8_init_180 rfl ?_
  refine Ev.iconst fX8_init_181 ?_
  refine Ev.xadd (v := 10) fX8_init_182 rfl ?_
  refine Ev.aload_n_1 fX8_init_183 rfl ?_
  refine Ev.getR 24 18 32 fX8_init_184 (flX8_36 rfl) rfl rfl rfl ?_
  refine Ev.iload_n fX8_init_187 rfl ?_
  refine Ev.xld (v := 7) 32 31 fX8_init_188 rfl (by decide) (by decide) rfl ?_
  refine Ev.iastore 32 31 fX8_init_189 rfl (by decide) (by decide) ?_
  refine Ev.siinc [(1, 24), (0, 5), (0, 5)] fX8_init_190 rfl rfl rfl ?_
  refine Ev.goto fX8_init_193 rfl ?_
  exact zn_X8_init_24_5
theorem zn_X8_init_24_3 {G : zG} {w : (Nat → Int → Int) × (Nat → Int → Int)} : Ev G mX8_init 112 [(1, 24), (0, 3), (0, 11)] [] ([(0, 7), (0, 1), (0, 0), (0, 6), (1, 40), (1, 40), (1, 1240), (1, 1240), (1, 4), (0, 4), (0, 0), (0, 6), (1, 40), (1, 40), (1, 1240), (1, 1240), (1, 4), (0, 3), (1, 72), (0, 2), (2, 60), (1, 4), (0, 5), (2, 109), (0, 8), (1, 1968), (1, 15744), (1, 1968), (1, 1968), (1, 60), (2, 160), (1, 31), (1, 31), (1, 155)], zkr42, zki46, w) (.inl none, ([(0, 7), (0, 1), (0, 0), (0, 6), (1, 40), (1, 40), (1, 1240), (1, 1240), (1, 4), (0, 4), (0, 0), (0, 6), (1, 40), (1, 40), (1, 1240), (1, 1240), (1, 4), (0, 3), (1, 72), (0, 2), (2, 60), (1, 4), (0, 5), (2, 109), (0, 8), (1, 1968), (1, 15744), (1, 1968), (1, 1968), (1, 60), (2, 160), (1, 31), (1, 31), (1, 155)], zkr42, zki58, w), 0, 0) := by
  refine Ev.iload_n fX8_init_112 rfl ?_
  refine Ev.bipush fX8_init_113 rfl ?_
  refine Ev.icmp_ge fX8_init_115 rfl (by decide) (by decide) (fun h => absurd h (by decide)) (fun _ => ?_)
  refine Ev.aload_n_1 fX8_init_118 rfl ?_
  refine Ev.getR 24 17 31 fX8_init_119 (flX8_33 rfl) rfl rfl rfl ?_
  refine Ev.iload_n fX8_init_122 rfl ?_
  refine Ev.xld (v := 0) 31 31 fX8_init_123 rfl (by decide) (by decide) rfl ?_
  refine Ev.aload_n_1 fX8_init_124 rfl ?_
  refine Ev.getR 24 18 32 fX8_init_125 (flX8_36 rfl) rfl rfl rfl ?_
  refine Ev.iload_n fX8_init_128 rfl ?_
  refine Ev.xld (v := 3) 32 31 fX8_init_129 rfl (by decide) (by decide) rfl ?_
  refine Ev.xadd (v := 3) fX8_init_130 rfl ?_
  refine Ev.iconst fX8_init_131 ?_
  refine Ev.idiv fX8_init_132 (by decide) (by decide) ?_
  rw [show (3 : Int) / 2 = 1 from rfl]
  refine Ev.sistore_n [(1, 24), (0, 3), (0, 1)] fX8_init_133 rfl rfl ?_
  refine Ev.aload_n_1 fX8_init_134 rfl ?_
  refine Ev.getR 24 17 31 fX8_init_135 (flX8_33 rfl) rfl rfl rfl ?_
  refine Ev.iconst fX8_init_138 ?_
  refine Ev.iload_n fX8_init_139 rfl ?_
  refine Ev.xmul (v := 6) fX8_init_140 rfl ?_
  refine Ev.iconst fX8_init_141 ?_
  refine Ev.xadd (v := 7) fX8_init_142 rfl ?_
  refine Ev.aload_n_1 fX8_init_143 rfl ?_
  refine Ev.getR 24 17 31 fX8_init_144 (flX8_33 rfl) rfl rfl rfl ?_
  refine Ev.iload_n fX8_init_147 rfl ?_
  refine Ev.xld (v := 0) 31 31 fX8_init_148 rfl (by decide) (by decide) rfl ?_
  refine Ev.iastore 31 31 fX8_init_149 rfl (by decide) (by decide) ?_
  refine Ev.aload_n_1 fX8_init_150 rfl ?_
  refine Ev.getR 24 18 32 fX8_init_151 (flX8_36 rfl) rfl rfl rfl ?_
  refine Ev.iconst fX8_init_154 ?_
  refine Ev.iload_n fX8_init_155 rfl ?_
  refine Ev.xmul (v := 6) fX8_init_156 rfl ?_
  refine Ev.iconst fX8_init_157 ?_
  refine Ev.xadd (v := 7) fX8_init_158 rfl ?_
  refine Ev.iload_n fX8_init_159 rfl ?_
  refine Ev.iastore 32 31 fX8_init_160 rfl (by decide) (by decide) ?_
  refine Ev.aload_n_1 fX8_init_161 rfl ?_
  refine Ev.getR 24 17 31 fX8_init_162 (flX8_33 rfl) rfl rfl rfl ?_
  refine Ev.iconst fX8_init_165 ?_
  refine Ev.iload_n fX8_init_166 rfl ?_
  refine Ev.xmul (v := 6) fX8_init_167 rfl ?_
  refine Ev.iconst fX8_init_168 ?_
  refine Ev.xadd (v := 8) fX8_init_169 rfl ?_
  refine Ev.iload_n fX8_init_170 rfl ?_
  refine Ev.iconst fX8_init_171 ?_
  refine Ev.xadd (v := 2) fX8_init_172 rfl ?_
  refine Ev.iastore 31 31 fX8_init_173 rfl (by decide) (by decide) ?_
  refine Ev.aload_n_1 fX8_init_174 rfl ?_
  refine Ev.getR 24 18 32 fX8_init_175 (flX8_36 rfl) rfl rfl rfl ?_
  refine Ev.iconst fX8_init_178 ?_
  refine Ev.iload_n fX8_init_179 rfl ?_
  refine Ev.xmul (v := 6) fX8_init_180 rfl ?_
  refine Ev.iconst fX8_init_181 ?_
  refine Ev.xadd (v := 8) fX8_init_182 rfl ?_
  refine Ev.aload_n_1 fX8_init_183 rfl ?_
  refine Ev.getR 24 18 32 fX8_init_184 (flX8_36 rfl) rfl rfl rfl ?_
  refine Ev.iload_n fX8_init_187 rfl ?_
  refine Ev.xld (v := 3) 32 31 fX8_init_188 rfl (by decide) (by decide) rfl ?_
  refine Ev.iastore 32 31 fX8_init_189 rfl (by decide) (by decide) ?_
  refine Ev.siinc [(1, 24), (0, 4), (0, 1)] fX8_init_190 rfl rfl rfl ?_
  refine Ev.goto fX8_init_193 rfl ?_
  exact zn_X8_init_24_4
theorem zn_X8_init_24_2 {G : zG} {w : (Nat → Int → Int) × (Nat → Int → Int)} : Ev G mX8_init 112 [(1, 24), (0, 2), (0, 3)] [] ([(0, 7), (0, 1), (0, 0), (0, 6), (1, 40), (1, 40), (1, 1240), (1, 1240), (1, 4), (0, 4), (0, 0), (0, 6), (1, 40), (1, 40), (1, 1240), (1, 1240), (1, 4), (0, 3), (1, 72), (0, 2), (2, 60), (1, 4), (0, 5), (2, 109), (0, 8), (1, 1968), (1, 15744), (1, 1968), (1, 1968), (1, 60), (2, 160), (1, 31), (1, 31), (1, 155)], zkr42, zki45, w) (.inl none, ([(0, 7), (0, 1), (0, 0), (0, 6), (1, 40), (1, 40), (1, 1240), (1, 1240), (1, 4), (0, 4), (0, 0), (0, 6), (1, 40), (1, 40), (1, 1240), (1, 1240), (1, 4), (0, 3), (1, 72), (0, 2), (2, 60), (1, 4), (0, 5), (2, 109), (0, 8), (1, 1968), (1, 15744), (1, 1968), (1, 1968), (1, 60), (2, 160), (1, 31), (1, 31), (1, 155)], zkr42, zki58, w), 0, 0) := by
  refine Ev.iload_n fX8_init_112 rfl ?_
  refine Ev.bipush fX8_init_113 rfl ?_
  refine Ev.icmp_ge fX8_init_115 rfl (by decide) (by decide) (fun h => absurd h (by decide)) (fun _ => ?_)
  refine Ev.aload_n_1 fX8_init_118 rfl ?_
  refine Ev.getR 24 17 31 fX8_init_119 (flX8_33 rfl) rfl rfl rfl ?_
  refine Ev.iload_n fX8_init_122 rfl ?_
  refine Ev.xld (v := 8) 31 31 fX8_init_123 rfl (by decide) (by decide) rfl ?_
  refine Ev.aload_n_1 fX8_init_124 rfl ?_
  refine Ev.getR 24 18 32 fX8_init_125 (flX8_36 rfl) rfl rfl rfl ?_
  refine Ev.iload_n fX8_init_128 rfl ?_
  refine Ev.xld (v := 15) 32 31 fX8_init_129 rfl (by decide) (by decide) rfl ?_
  refine Ev.xadd (v := 23) fX8_init_130 rfl ?_
  refine Ev.iconst fX8_init_131 ?_
  refine Ev.idiv fX8_init_132 (by decide) (by decide) ?_
  rw [show (23 : Int) / 2 = 11 from rfl]
  refine Ev.sistore_n [(1, 24), (0, 2), (0, 11)] fX8_init_133 rfl rfl ?_
  refine Ev.aload_n_1 fX8_init_134 rfl ?_
  refine Ev.getR 24 17 31 fX8_init_135 (flX8_33 rfl) rfl rfl rfl ?_
  refine Ev.iconst fX8_init_138 ?_
  refine Ev.iload_n fX8_init_139 rfl ?_
  refine Ev.xmul (v := 4) fX8_init_140 rfl ?_
  refine Ev.iconst fX8_init_141 ?_
  refine Ev.xadd (v := 5) fX8_init_142 rfl ?_
  refine Ev.aload_n_1 fX8_init_143 rfl ?_
  refine Ev.getR 24 17 31 fX8_init_144 (flX8_33 rfl) rfl rfl rfl ?_
  refine Ev.iload_n fX8_init_147 rfl ?_
  refine Ev.xld (v := 8) 31 31 fX8_init_148 rfl (by decide) (by decide) rfl ?_
  refine Ev.iastore 31 31 fX8_init_149 rfl (by decide) (by decide) ?_
  refine Ev.aload_n_1 fX8_init_150 rfl ?_
  refine Ev.getR 24 18 32 fX8_init_151 (flX8_36 rfl) rfl rfl rfl ?_
  refine Ev.iconst fX8_init_154 ?_
  refine Ev.iload_n fX8_init_155 rfl ?_
  refine Ev.xmul (v := 4) fX8_init_156 rfl ?_
  refine Ev.iconst fX8_init_157 ?_
  refine Ev.xadd (v := 5) fX8_init_158 rfl ?_
  refine Ev.iload_n fX8_init_159 rfl ?_
  refine Ev.iastore 32 31 fX8_init_160 rfl (by decide) (by decide) ?_
  refine Ev.aload_n_1 fX8_init_161 rfl ?_
  refine Ev.getR 24 17 31 fX8_init_162 (flX8_33 rfl) rfl rfl rfl ?_
  refine Ev.iconst fX8_init_165 ?_
  refine Ev.iload_n fX8_init_166 rfl ?_
  refine Ev.xmul (v := 4) fX8_init_167 rfl ?_
  refine Ev.iconst fX8_init_168 ?_
  refine Ev.xadd (v := 6) fX8_init_169 rfl ?_
  refine Ev.iload_n fX8_init_170 rfl ?_
  refine Ev.iconst fX8_init_171 ?_
  refine Ev.xadd (v := 12) fX8_init_172 rfl ?_
  refine Ev.iastore 31 31 fX8_init_173 rfl (by decide) (by decide) ?_
  refine Ev.aload_n_1 fX8_init_174 rfl ?_
  refine Ev.getR 24 18 32 fX8_init_175 (flX8_36 rfl) rfl rfl rfl ?_
  refine Ev.iconst fX8_init_178 ?_
  refine Ev.iload_n fX8_init_179 rfl ?_
  refine Ev.xmul (v := 4) fX8_init_180 rfl ?_
  refine Ev.iconst fX8_init_181 ?_
  refine Ev.xadd (v := 6) fX8_init_182 rfl ?_
  refine Ev.aload_n_1 fX8_init_183 rfl ?_
  refine Ev.getR 24 18 32 fX8_init_184 (flX8_36 rfl) rfl rfl rfl ?_
  refine Ev.iload_n fX8_init_187 rfl ?_
  refine Ev.xld (v := 15) 32 31 fX8_init_188 rfl (by decide) (by decide) rfl ?_
  refine Ev.iastore 32 31 fX8_init_189 rfl (by decide) (by decide) ?_
  refine Ev.siinc [(1, 24), (0, 3), (0, 11)] fX8_init_190 rfl rfl rfl ?_
  refine Ev.goto fX8_init_193 rfl ?_
  exact zn_X8_init_24_3
theorem zn_X8_init_24_1 {G : zG} {w : (Nat → Int → Int) × (Nat → Int → Int)} : Ev G mX8_init 112 [(1, 24), (0, 1), (0, 7)] [] ([(0, 7), (0, 1), (0, 0), (0, 6), (1, 40), (1, 40), (1, 1240), (1, 1240), (1, 4), (0, 4), (0, 0), (0, 6), (1, 40), (1, 40), (1, 1240), (1, 1240), (1, 4), (0, 3), (1, 72), (0, 2), (2, 60), (1, 4), (0, 5), (2, 109), (0, 8), (1, 1968), (1, 15744), (1, 1968), (1, 1968), (1, 60), (2, 160), (1, 31), (1, 31), (1, 155)], zkr42, zki44, w) (.inl none, ([(0, 7), (0, 1), (0, 0), (0, 6), (1, 40), (1, 40), (1, 1240), (1, 1240), (1, 4), (0, 4), (0, 0), (0, 6), (1, 40), (1, 40), (1, 1240), (1, 1240), (1, 4), (0, 3), (1, 72), (0, 2), (2, 60), (1, 4), (0, 5), (2, 109), (0, 8), (1, 1968), (1, 15744), (1, 1968), (1, 1968), (1, 60), (2, 160), (1, 31), (1, 31), (1, 155)], zkr42, zki58, w), 0, 0) := by
  refine Ev.iload_n fX8_init_112 rfl ?_
  refine Ev.bipush fX8_init_113 rfl ?_
  refine Ev.icmp_ge fX8_init_115 rfl (by decide) (by decide) (fun h => absurd h (by decide)) (fun _ => ?_)
  refine Ev.aload_n_1 fX8_init_118 rfl ?_
  refine Ev.getR 24 17 31 fX8_init_119 (flX8_33 rfl) rfl rfl rfl ?_
  refine Ev.iload_n fX8_init_122 rfl ?_
  refine Ev.xld (v := 0) 31 31 fX8_init_123 rfl (by decide) (by decide) rfl ?_
  refine Ev.aload_n_1 fX8_init_124 rfl ?_
  refine Ev.getR 24 18 32 fX8_init_125 (flX8_36 rfl) rfl rfl rfl ?_
  refine Ev.iload_n fX8_init_128 rfl ?_
  refine Ev.xld (v := 7) 32 31 fX8_init_129 rfl (by decide) (by decide) rfl ?_
  refine Ev.xadd (v := 7) fX8_init_130 rfl ?_
  refine Ev.iconst fX8_init_131 ?_
  refine Ev.idiv fX8_init_132 (by decide) (by decide) ?_
  rw [show (7 : Int) / 2 = 3 from rfl]
  refine Ev.sistore_n [(1, 24), (0, 1), (0, 3)] fX8_init_133 rfl rfl ?_
  refine Ev.aload_n_1 fX8_init_134 rfl ?_
  refine Ev.getR 24 17 31 fX8_init_135 (flX8_33 rfl) rfl rfl rfl ?_
  refine Ev.iconst fX8_init_138 ?_
  refine Ev.iload_n fX8_init_139 rfl ?_
  refine Ev.xmul (v := 2) fX8_init_140 rfl ?_
  refine Ev.iconst fX8_init_141 ?_
  refine Ev.xadd (v := 3) fX8_init_142 rfl ?_
  refine Ev.aload_n_1 fX8_init_143 rfl ?_
  refine Ev.getR 24 17 31 fX8_init_144 (flX8_33 rfl) rfl rfl rfl ?_
  refine Ev.iload_n fX8_init_147 rfl ?_
  refine Ev.xld (v := 0) 31 31 fX8_init_148 rfl (by decide) (by decide) rfl ?_
  refine Ev.iastore 31 31 fX8_init_149 rfl (by decide) (by decide) ?_
  refine Ev.aload_n_1 fX8_init_150 rfl ?_
  refine Ev.getR 24 18 32 fX8_init_151 (flX8_36 rfl) rfl rfl rfl ?_
  refine Ev.iconst fX8_init_154 ?_
  refine Ev.iload_n fX8_init_155 rfl ?_
  refine Ev.xmul (v := 2) fX8_init_156 rfl ?_
  refine Ev.iconst fX8_init_157 ?_
  refine Ev.xadd (v := 3) fX8_init_158 rfl ?_
  refine Ev.iload_n fX8_init_159 rfl ?_
  refine Ev.iastore 32 31 fX8_init_160 rfl (by decide) (by decide) ?_
  refine Ev.aload_n_1 fX8_init_161 rfl ?_
  refine Ev.getR 24 17 31 fX8_init_162 (flX8_33 rfl) rfl rfl rfl ?_
  refine Ev.iconst fX8_init_165 ?_
  refine Ev.iload_n fX8_init_166 rfl ?_
  refine Ev.xmul (v := 2) fX8_init_167 rfl ?_
  refine Ev.iconst fX8_init_168 ?_
  refine Ev.xadd (v := 4) fX8_init_169 rfl ?_
  refine Ev.iload_n fX8_init_170 rfl ?_
  refine Ev.iconst fX8_init_171 ?_
  refine Ev.xadd (v := 4) fX8_init_172 rfl ?_
  refine Ev.iastore 31 31 fX8_init_173 rfl (by decide) (by decide) ?_
  refine Ev.aload_n_1 fX8_init_174 rfl ?_
  refine Ev.getR 24 18 32 fX8_init_175 (flX8_36 rfl) rfl rfl rfl ?_
  refine Ev.iconst fX8_init_178 ?_
  refine Ev.iload_n fX8_init_179 rfl ?_
  refine Ev.xmul (v := 2) fX8_init_180 rfl ?_
  refine Ev.iconst fX8_init_181 ?_
  refine Ev.xadd (v := 4) fX8_init_182 rfl ?_
  refine Ev.aload_n_1 fX8_init_183 rfl ?_
  refine Ev.getR 24 18 32 fX8_init_184 (flX8_36 rfl) rfl rfl rfl ?_
  refine Ev.iload_n fX8_init_187 rfl ?_
  refine Ev.xld (v := 7) 32 31 fX8_init_188 rfl (by decide) (by decide) rfl ?_
  refine Ev.iastore 32 31 fX8_init_189 rfl (by decide) (by decide) ?_
  refine Ev.siinc [(1, 24), (0, 2), (0, 3)] fX8_init_190 rfl rfl rfl ?_
  refine Ev.goto fX8_init_193 rfl ?_
  exact zn_X8_init_24_2
theorem zn_X8_init_24_0 {G : zG} {w : (Nat → Int → Int) × (Nat → Int → Int)} : Ev G mX8_init 112 [(1, 24), (0, 0), (9, 0)] [] ([(0, 7), (0, 1), (0, 0), (0, 6), (1, 40), (1, 40), (1, 1240), (1, 1240), (1, 4), (0, 4), (0, 0), (0, 6), (1, 40), (1, 40), (1, 1240), (1, 1240), (1, 4), (0, 3), (1, 72), (0, 2), (2, 60), (1, 4), (0, 5), (2, 109), (0, 8), (1, 1968), (1, 15744), (1, 1968), (1, 1968), (1, 60), (2, 160), (1, 31), (1, 31), (1, 155)], zkr42, zki43, w) (.inl none, ([(0, 7), (0, 1), (0, 0), (0, 6), (1, 40), (1, 40), (1, 1240), (1, 1240), (1, 4), (0, 4), (0, 0), (0, 6), (1, 40), (1, 40), (1, 1240), (1, 1240), (1, 4), (0, 3), (1, 72), (0, 2), (2, 60), (1, 4), (0, 5), (2, 109), (0, 8), (1, 1968), (1, 15744), (1, 1968), (1, 1968), (1, 60), (2, 160), (1, 31), (1, 31), (1, 155)], zkr42, zki58, w), 0, 0) := by
  refine Ev.iload_n fX8_init_112 rfl ?_
  refine Ev.bipush fX8_init_113 rfl ?_
  refine Ev.icmp_ge fX8_init_115 rfl (by decide) (by decide) (fun h => absurd h (by decide)) (fun _ => ?_)
  refine Ev.aload_n_1 fX8_init_118 rfl ?_
  refine Ev.getR 24 17 31 fX8_init_119 (flX8_33 rfl) rfl rfl rfl ?_
  refine Ev.iload_n fX8_init_122 rfl ?_
  refine Ev.xld (v := 0) 31 31 fX8_init_123 rfl (by decide) (by decide) rfl ?_
  refine Ev.aload_n_1 fX8_init_124 rfl ?_
  refine Ev.getR 24 18 32 fX8_init_125 (flX8_36 rfl) rfl rfl rfl ?_
  refine Ev.iload_n fX8_init_128 rfl ?_
  refine Ev.xld (v := 15) 32 31 fX8_init_129 rfl (by decide) (by decide) rfl ?_
  refine Ev.xadd (v := 15) fX8_init_130 rfl ?_
  refine Ev.iconst fX8_init_131 ?_
  refine Ev.idiv fX8_init_132 (by decide) (by decide) ?_
  rw [show (15 : Int) / 2 = 7 from rfl]
  refine Ev.sistore_n [(1, 24), (0, 0), (0, 7)] fX8_init_133 rfl rfl ?_
  refine Ev.aload_n_1 fX8_init_134 rfl ?_
  refine Ev.getR 24 17 31 fX8_init_135 (flX8_33 rfl) rfl rfl rfl ?_
  refine Ev.iconst fX8_init_138 ?_
  refine Ev.iload_n fX8_init_139 rfl ?_
  refine Ev.xmul (v := 0) fX8_init_140 rfl ?_
  refine Ev.iconst fX8_init_141 ?_
  refine Ev.xadd (v := 1) fX8_init_142 rfl ?_
  refine Ev.aload_n_1 fX8_init_143 rfl ?_
  refine Ev.getR 24 17 31 fX8_init_144 (flX8_33 rfl) rfl rfl rfl ?_
  refine Ev.iload_n fX8_init_147 rfl ?_
  refine Ev.xld (v := 0) 31 31 fX8_init_148 rfl (by decide) (by decide) rfl ?_
  refine Ev.iastore 31 31 fX8_init_149 rfl (by decide) (by decide) ?_
  refine Ev.aload_n_1 fX8_init_150 rfl ?_
  refine Ev.getR 24 18 32 fX8_init_151 (flX8_36 rfl) rfl rfl rfl ?_
  refine Ev.iconst fX8_init_154 ?_
  refine Ev.iload_n fX8_init_155 rfl ?_
  refine Ev.xmul (v := 0) fX8_init_156 rfl ?_
  refine Ev.iconst fX8_init_157 ?_
  refine Ev.xadd (v := 1) fX8_init_158 rfl ?_
  refine Ev.iload_n fX8_init_159 rfl ?_
  refine Ev.iastore 32 31 fX8_init_160 rfl (by decide) (by decide) ?_
  refine Ev.aload_n_1 fX8_init_161 rfl ?_
  refine Ev.getR 24 17 31 fX8_init_162 (flX8_33 rfl) rfl rfl rfl ?_
  refine Ev.iconst fX8_init_165 ?_
  refine Ev.iload_n fX8_init_166 rfl ?_
  refine Ev.xmul (v := 0) fX8_init_167 rfl ?_
  refine Ev.iconst fX8_init_168 ?_
  refine Ev.xadd (v := 2) fX8_init_169 rfl ?_
  refine Ev.iload_n fX8_init_170 rfl ?_
  refine Ev.iconst fX8_init_171 ?_
  refine Ev.xadd (v := 8) fX8_init_172 rfl ?_
  refine Ev.iastore 31 31 fX8_init_173 rfl (by decide) (by decide) ?_
  refine Ev.aload_n_1 fX8_init_174 rfl ?_
  refine Ev.getR 24 18 32 fX8_init_175 (flX8_36 rfl) rfl rfl rfl ?_
  refine Ev.iconst fX8_init_178 ?_
  refine Ev.iload_n fX8_init_179 rfl ?_
  refine Ev.xmul (v := 0) fX8_init_180 rfl ?_
  refine Ev.iconst fX8_init_181 ?_
  refine Ev.xadd (v := 2) fX8_init_182 rfl ?_
  refine Ev.aload_n_1 fX8_init_183 rfl ?_
  refine Ev.getR 24 18 32 fX8_init_184 (flX8_36 rfl) rfl rfl rfl ?_
  refine Ev.iload_n fX8_init_187 rfl ?_
  refine Ev.xld (v := 15) 32 31 fX8_init_188 rfl (by decide) (by decide) rfl ?_
  refine Ev.iastore 32 31 fX8_init_189 rfl (by decide) (by decide) ?_
  refine Ev.siinc [(1, 24), (0, 1), (0, 7)] fX8_init_190 rfl rfl rfl ?_
  refine Ev.goto fX8_init_193 rfl ?_
  exact zn_X8_init_24_1
theorem zn_X8_init_24 {G : zG} {w : (Nat → Int → Int) × (Nat → Int → Int)} : Ev G mX8_init 0 [(1, 24), (9, 0), (9, 0)] [] ([(0, 7), (0, 1), (0, 0), (0, 6), (1, 40), (1, 40), (1, 1240), (1, 1240), (1, 4), (0, 4), (0, 0), (0, 6), (1, 40), (1, 40), (1, 1240), (1, 1240), (1, 4), (0, 3), (1, 72), (0, 2), (2, 60), (1, 4), (0, 5), (2, 109), (0, 8)], zkr40, zki41, w) (.inl none, ([(0, 7), (0, 1), (0, 0), (0, 6), (1, 40), (1, 40), (1, 1240), (1, 1240), (1, 4), (0, 4), (0, 0), (0, 6), (1, 40), (1, 40), (1, 1240), (1, 1240), (1, 4), (0, 3), (1, 72), (0, 2), (2, 60), (1, 4), (0, 5), (2, 109), (0, 8), (1, 1968), (1, 15744), (1, 1968), (1, 1968), (1, 60), (2, 160), (1, 31), (1, 31), (1, 155)], zkr42, zki58, w), 9, 22085) := by
  refine Ev.aload_n_1 fX8_init_0 rfl ?_
  refine Ev.objInit 24 fX8_init_1 (zlX8_1 rfl) zt_objInit.1 zt_objInit.2 (by decide) (by decide) ?_
  refine Ev.aload_n_1 fX8_init_4 rfl ?_
  refine Ev.sipush fX8_init_5 rfl ?_
  refine Ev.newaI 25 1968 8 20117 rfl fX8_init_8 zt_arr_int rfl rfl (by decide +kernel) (by decide) rfl rfl ?_
  refine Ev.putF 24 0 25 fX8_init_10 (ffX8_7 rfl rfl) rfl rfl ?_
  refine Ev.aload_n_1 fX8_init_13 rfl ?_
  refine Ev.sipush fX8_init_14 rfl ?_
  refine Ev.newaI 26 15744 7 4373 rfl fX8_init_17 zt_arr_int rfl rfl (by decide +kernel) (by decide) rfl rfl ?_
  refine Ev.putF 24 1 26 fX8_init_19 (ffX8_13 rfl rfl) rfl rfl ?_
  refine Ev.aload_n_1 fX8_init_22 rfl ?_
  refine Ev.sipush fX8_init_23 rfl ?_
  refine Ev.newaI 27 1968 6 2405 rfl fX8_init_26 zt_arr_int rfl rfl (by decide +kernel) (by decide) rfl rfl ?_
  refine Ev.putF 24 2 27 fX8_init_28 (ffX8_16 rfl rfl) rfl rfl ?_
  refine Ev.aload_n_1 fX8_init_31 rfl ?_
  refine Ev.sipush fX8_init_32 rfl ?_
  refine Ev.newaI 28 1968 5 437 rfl fX8_init_35 zt_arr_int rfl rfl (by decide +kernel) (by decide) rfl rfl ?_
  refine Ev.putF 24 3 28 fX8_init_37 (ffX8_19 rfl rfl) rfl rfl ?_
  refine Ev.aload_n_1 fX8_init_40 rfl ?_
  refine Ev.bipush fX8_init_41 rfl ?_
  refine Ev.newaI 29 60 4 377 rfl fX8_init_43 zt_arr_int rfl rfl (by decide +kernel) (by decide) rfl rfl ?_
  refine Ev.putF 24 12 29 fX8_init_45 (ffX8_22 rfl rfl) rfl rfl ?_
  refine Ev.aload_n_1 fX8_init_48 rfl ?_
  refine Ev.iconst fX8_init_49 ?_
  refine Ev.putI 24 14 fX8_init_50 (flX8_25 rfl) rfl rfl trivial ?_
  refine Ev.aload_n_1 fX8_init_53 rfl ?_
  refine Ev.sipush fX8_init_54 rfl ?_
  refine Ev.newaC 30 160 3 217 rfl fX8_init_57 zt_arr_char rfl rfl (by decide +kernel) (by decide) rfl rfl ?_
  refine Ev.putF 24 15 30 fX8_init_59 (ffX8_29 rfl rfl) rfl rfl ?_
  refine Ev.aload_n_1 fX8_init_62 rfl ?_
  refine Ev.bipush fX8_init_63 rfl ?_
  refine Ev.newaI 31 31 2 186 rfl fX8_init_65 zt_arr_int rfl rfl (by decide +kernel) (by decide) rfl rfl ?_
  refine Ev.putF 24 17 31 fX8_init_67 (ffX8_33 rfl rfl) rfl rfl ?_
  refine Ev.aload_n_1 fX8_init_70 rfl ?_
  refine Ev.bipush fX8_init_71 rfl ?_
  refine Ev.newaI 32 31 1 155 rfl fX8_init_73 zt_arr_int rfl rfl (by decide +kernel) (by decide) rfl rfl ?_
  refine Ev.putF 24 18 32 fX8_init_75 (ffX8_36 rfl rfl) rfl rfl ?_
  refine Ev.aload_n_1 fX8_init_78 rfl ?_
  refine Ev.sipush fX8_init_79 rfl ?_
  refine Ev.newaI 33 155 0 0 rfl fX8_init_82 zt_arr_int rfl rfl (by decide +kernel) (by decide) rfl rfl ?_
  refine Ev.putF 24 20 33 fX8_init_84 (ffX8_39 rfl rfl) rfl rfl ?_
  refine Ev.aload_n_1 fX8_init_87 rfl ?_
  refine Ev.getR 24 0 25 fX8_init_88 (flX8_7 rfl) rfl rfl rfl ?_
  refine Ev.iconst fX8_init_91 ?_
  refine Ev.iconst fX8_init_92 ?_
  refine Ev.iastore 25 1968 fX8_init_93 rfl (by decide) (by decide) ?_
  refine Ev.aload_n_1 fX8_init_94 rfl ?_
  refine Ev.getR 24 0 25 fX8_init_95 (flX8_7 rfl) rfl rfl rfl ?_
  refine Ev.bipush fX8_init_98 rfl ?_
  refine Ev.iconst fX8_init_100 ?_
  refine Ev.iastore 25 1968 fX8_init_101 rfl (by decide) (by decide) ?_
  refine Ev.aload_n_1 fX8_init_102 rfl ?_
  refine Ev.getR 24 18 32 fX8_init_103 (flX8_36 rfl) rfl rfl rfl ?_
  refine Ev.iconst fX8_init_106 ?_
  refine Ev.bipush fX8_init_107 rfl ?_
  refine Ev.iastore 32 31 fX8_init_109 rfl (by decide) (by decide) ?_
  refine Ev.iconst fX8_init_110 ?_
  refine Ev.sistore_n [(1, 24), (0, 0), (9, 0)] fX8_init_111 rfl rfl ?_
  exact zn_X8_init_24_0
def zkr59 : Nat → Nat → Option Nat := (zcr (zcr zkr42 34) 35)
def zki60 : Nat → Int → Int := (zci (zci zki58 34) 35)
theorem zbegin {G : zG} {lo da : Nat → Int → Int} {o : Option zSV ⊕ String} {h2 : zHp} {ce sl : Nat} (next : Ev G mL_law 28 [(3, 2), (1, 0), (1, 24), (1, 34), (1, 35), (0, 0), (9, 0), (9, 0), (9, 0), (9, 0)] [] ([(0, 7), (0, 1), (0, 0), (0, 6), (1, 40), (1, 40), (1, 1240), (1, 1240), (1, 4), (0, 4), (0, 0), (0, 6), (1, 40), (1, 40), (1, 1240), (1, 1240), (1, 4), (0, 3), (1, 72), (0, 2), (2, 60), (1, 4), (0, 5), (2, 109), (0, 8), (1, 1968), (1, 15744), (1, 1968), (1, 1968), (1, 60), (2, 160), (1, 31), (1, 31), (1, 155), (3, 1), (4, 1)], zkr59, zki60, (zci lo 34, zci da 35)) (o, h2, ce, sl)) : Ev G mL_law 0 [(3, 2), (9, 0), (9, 0), (9, 0), (9, 0), (9, 0), (9, 0), (9, 0), (9, 0), (9, 0)] [] ([], zkr1, zki2, (lo, da)) (o, h2, 36 + ce, 27527 + sl) := by
  refine Ev.new 0 (35 + ce) (27517 + sl) rfl fL_law_0 (nlL_8 rfl) rfl rfl (by decide +kernel) (by omega) (by rw [show zN 7 = 10 from rfl]; omega) ?_
  refine Ev.dup fL_law_3 rfl ?_
  refine Ev.callI (rest := [(1, 0)]) (ce2 := (12 + ce)) (sl2 := (22109 + sl)) 0 23 5408 [] fL_law_4 lkL_law_130 rfl rfl (by decide) (by decide) rfl rfl rfl (by omega) (by omega) zn_X7_init_0 ?_
  refine Ev.sastore_n_1 [(3, 2), (1, 0), (9, 0), (9, 0), (9, 0), (9, 0), (9, 0), (9, 0), (9, 0), (9, 0)] fL_law_7 rfl rfl ?_
  refine Ev.new 24 (11 + ce) (22087 + sl) rfl fL_law_8 (nlL_131 rfl) rfl rfl (by decide +kernel) (by omega) (by rw [show zN 8 = 22 from rfl]; omega) ?_
  refine Ev.dup fL_law_11 rfl ?_
  refine Ev.callI (rest := [(1, 24)]) (ce2 := (2 + ce)) (sl2 := (2 + sl)) 24 9 22085 [] fL_law_12 lkL_law_133 rfl rfl (by decide) (by decide) rfl rfl rfl (by omega) (by omega) zn_X8_init_24 ?_
  refine Ev.sastore_n_1 [(3, 2), (1, 0), (1, 24), (9, 0), (9, 0), (9, 0), (9, 0), (9, 0), (9, 0), (9, 0)] fL_law_15 rfl rfl ?_
  refine Ev.iconst fL_law_16 ?_
  refine Ev.newaL 34 1 (1 + ce) (1 + sl) rfl fL_law_17 zt_arr_long rfl rfl (by decide +kernel) (by decide) (by omega) (by omega) ?_
  refine Ev.sastore_n_1 [(3, 2), (1, 0), (1, 24), (1, 34), (9, 0), (9, 0), (9, 0), (9, 0), (9, 0), (9, 0)] fL_law_19 rfl rfl ?_
  refine Ev.iconst fL_law_20 ?_
  refine Ev.newaD 35 1 ce sl rfl fL_law_21 zt_arr_double rfl rfl (by decide +kernel) (by decide) (by omega) (by omega) ?_
  refine Ev.sastore_1 [(3, 2), (1, 0), (1, 24), (1, 34), (1, 35), (9, 0), (9, 0), (9, 0), (9, 0), (9, 0)] fL_law_23 rfl rfl ?_
  refine Ev.iconst fL_law_25 ?_
  refine Ev.sistore [(3, 2), (1, 0), (1, 24), (1, 34), (1, 35), (0, 0), (9, 0), (9, 0), (9, 0), (9, 0)] fL_law_26 rfl rfl ?_
  exact next
theorem zur_no {f : Nat → Nat → Option Nat} {c1 k1 c k : Nat} {x : Option Nat} (h : ¬ (c = c1 ∧ k = k1)) (hf : f c k = none) : zur f c1 k1 x c k = none := by
  unfold zur
  rw [if_neg h]
  exact hf
theorem zcr_no {f : Nat → Nat → Option Nat} {n c k : Nat} (hf : f c k = none) : zcr f n c k = none := by
  unfold zcr
  split
  · rfl
  · exact hf
theorem zk_rf : zkr59 = zRF := by
  funext c k
  by_cases h : c < 36 ∧ k < 22
  · have h2 : ∀ c : Nat, c < 36 → ∀ k : Nat, k < 22 → zkr59 c k = zRF c k := by decide +kernel
    exact h2 c h.1 k h.2
  · have e1 : zRF c k = none := by
      unfold zRF
      split <;> first | rfl | (exfalso; omega)
    rw [e1]
    repeat first | exact rfl | refine zur_no (by omega) ?_ | refine zcr_no ?_
set_option maxRecDepth 100000 in
theorem zk_25 (i : Int) (h0 : i ≠ 0) (h8 : i ≠ 8) : zki60 25 i = 0 := by
  have e : zki60 25 i = zu (zu (fun _ _ => 0) 25 0 1) 25 8 (-1) 25 i := rfl
  rw [e, zu_ni h8, zu_ni h0]
theorem zk_LH : zLH zki60 := by
  have h : ∀ n : Nat, n < 31 → zki60 31 (n : Int) = zlow (n : Int) ∧ zki60 32 (n : Int) = zhig (n : Int) := by decide +kernel
  refine ⟨fun s h1 h2 => ?_, fun s h1 h2 => ?_⟩
  · obtain ⟨n, rfl⟩ := Int.eq_ofNat_of_zero_le h1
    exact (h n (by omega)).1
  · obtain ⟨n, rfl⟩ := Int.eq_ofNat_of_zero_le h1
    exact (h n (by omega)).2
theorem zk_To (v s : Int) : zTo zki60 v s = 0 := rfl
set_option maxRecDepth 100000 in
set_option maxHeartbeats 4000000 in
theorem zk_Q : zQq zki60 zki60 := by
  have n1 : zki60 3 0 = 1 := rfl
  refine ⟨⟨⟨⟨⟨by rw [n1]; decide, by rw [n1]; decide⟩, fun v h1 h2 => ?_, fun v s h1 h2 h3 h4 => ?_, fun v s h1 h2 h3 h4 => ?_, fun h _ _ => ?_, ?_, ?_⟩, rfl, rfl, rfl, rfl, fun h h1 h2 => zk_25 _ (by omega) ?_, fun v h1 h2 => ?_⟩, fun v s _ _ _ _ => rfl, rfl, rfl⟩, ⟨⟨(by decide : (0 : Int) ≤ 0), (by decide : (0 : Int) ≤ 8)⟩, rfl, fun k h1 h2 => ?_, fun k k2 h1 h2 h3 => ?_⟩, ⟨rfl, Or.inl rfl⟩, ⟨⟨(by decide : (0 : Int) ≤ 0), (by decide : (0 : Int) ≤ 60), fun i _ _ => (⟨by decide, by decide⟩ : (0 : Int) ≤ 0 ∧ (0 : Int) ≤ 65535)⟩, rfl, fun i h1 h2 => ?_, rfl, (⟨by decide, by decide⟩ : (-1 : Int) ≤ -1 ∧ (-1 : Int) ≤ 60)⟩,
    ⟨rfl, rfl, rfl, (⟨by decide, by decide⟩ : (0 : Int) ≤ 0 ∧ (0 : Int) ≤ 8), (⟨by decide, by decide⟩ : (0 : Int) ≤ 0 ∧ (0 : Int) ≤ 100), (⟨by decide, by decide⟩ : (0 : Int) ≤ 0 ∧ (0 : Int) ≤ 60)⟩, ⟨(⟨by decide, by decide⟩ : (0 : Int) ≤ 0 ∧ (0 : Int) ≤ 109), rfl, fun i h1 h2 => ?_⟩, rfl, zk_LH⟩
  · rw [n1] at h2
    obtain rfl : v = 0 := by omega
    exact (⟨by decide, by decide, fun h => absurd h (by decide), by decide, by decide⟩ : (-1 : Int) ≤ -1 ∧ (-1 : Int) < 0 ∧ ((0 : Int) < 0 → (0 : Int) ≤ -1) ∧ (0 : Int) ≤ 0 ∧ (0 : Int) ≤ 99)
  · show (0 : Int) ≤ 0 ∧ (0 : Int) ≤ v
    exact ⟨Int.le_refl 0, h1⟩
  · have h5 := zspan ⟨h3, h4⟩
    rw [zk_To]
    omega
  · exact (⟨by decide, by decide⟩ : (0 : Int) ≤ 0 ∧ (0 : Int) < 1)
  · exact (⟨by decide, by decide⟩ : (0 : Int) ≤ 0 ∧ (0 : Int) ≤ 99)
  · exact (⟨by decide, by decide, by decide, by decide⟩ : (0 : Int) ≤ 0 ∧ (0 : Int) ≤ 100000 ∧ (0 : Int) ≤ 0 ∧ (0 : Int) ≤ 100000)
  · omega
  · rw [n1] at h2
    obtain rfl : v = 0 := by omega
    refine ⟨rfl, rfl, fun l h3 h4 => ?_, fun s h3 h4 => ?_⟩
    · rw [zk_To, zk_25 _ (by omega) (by omega)]
    · rw [zk_25 _ (by omega) (by omega)]
      rfl
  · have h3 : k < 0 := h2
    omega
  · have h4 : k2 < 0 := h3
    omega
  · have h3 : i < 0 := h2
    omega
  · have h3 : i < 0 := h2
    omega
