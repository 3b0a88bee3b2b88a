/-! THE LAW'S CASES (printed by wip/whole/gen/law2.py) -/
theorem Ev.cHl {G : zG} {M y : zM} {pc pc9 : Nat} {ls : List zSV} {ia ia1 : Nat → Int → Int} {w w1 : (Nat → Int → Int) × (Nat → Int → Int)} {o : Option zSV ⊕ String} {h2 : zHp} {ce sl ce1 sl1 ce2 sl2 idx n : Nat} {u : zSV} (as rest : List zSV) (hf : zf M pc = some (.invokestatic idx, 3, pc9)) (hl9 : zLkH M idx y n) (hac : (Nat.beq as.length n && as.all (fun v => zcat v == 1) && Nat.ble as.length y.2.2.1 && Nat.ble (rest.map zcat).sum 8 && ls.all (zOk 36) && rest.all (zOk 36)) = true) (hce : ce1 + ce2 = ce) (hsl : sl1 + sl2 = sl)
    (ev : Ev G y 0 (zIn as y.2.2.1) [] (zH ia w) (.inl (some u), zH ia1 w1, ce1, sl1)) (kk : Ev G M pc9 ls (u :: rest) (zH ia1 w1) (o, h2, ce2, sl2)) : Ev G M pc ls (as.reverse ++ rest) (zH ia w) (o, h2, ce, sl) := by
  simp only [Bool.and_eq_true] at hac
  obtain ⟨⟨⟨⟨⟨g1, g2⟩, g3⟩, g4⟩, g5⟩, g6⟩ := hac
  exact Ev.callH ce1 sl1 as hf hl9 (Nat.eq_of_beq_eq_true g1) g2 (Nat.le_of_ble_eq_true g3) (Nat.le_of_ble_eq_true g4) g5 g6 (Nat.ble_self_eq_true _) hce hsl ev kk
theorem Ev.sdstore {G : zG} {M : zM} {pc pc9 : Nat} {ls st : List zSV} {h : zHp} {O : zO} {i : Nat} {x : Int} (ls9 : List zSV) (hf : zf M pc = some (.dstore i, 2, pc9)) (hm : (Nat.ble (i + 2) M.2.2.1 && zb ls i) = true) (hs : (ls.set i (5, x)).set (i + 1) (9, 0) = ls9) (k : Ev G M pc9 ls9 st h O) : Ev G M pc ls ((5, x) :: st) h O := by
  subst hs
  exact Ev.dstore hf (Bool.and_eq_true_iff.mp hm).1 (Bool.and_eq_true_iff.mp hm).2 k
theorem Ev.dcm {G : zG} {M : zM} {pc pc9 : Nat} {ls st : List zSV} {ia : Nat → Int → Int} {w : (Nat → Int → Int) × (Nat → Int → Int)} {O : zO} {a b : UInt64} {op : CmpOp} (hf : zf M pc = some (.dcmp op, 1, pc9)) (kk : Ev G M pc9 ls ((0, (Op.cmpValue (FP.dcmp a b) op).toInt) :: st) (zH ia w) O) : Ev G M pc ls ((5, zD b) :: (5, zD a) :: st) (zH ia w) O := by
  obtain ⟨lo, da⟩ := w
  exact Ev.dcmp hf kk
theorem Ev.f2dd {G : zG} {M : zM} {pc pc9 : Nat} {ls st : List zSV} {ia : Nat → Int → Int} {w : (Nat → Int → Int) × (Nat → Int → Int)} {O : zO} {a : UInt32} (hf : zf M pc = some (.f2d, 1, pc9)) (hne : vf_n64 (FP.f2d a)) (kk : Ev G M pc9 ls ((5, zD (FP.f2d a)) :: st) (zH ia w) O) : Ev G M pc ls ((6, zS a) :: st) (zH ia w) O := by
  obtain ⟨lo, da⟩ := w
  exact Ev.f2d hf hne kk
theorem zi32 (x : Int32) : -2147483648 ≤ x.toInt ∧ x.toInt ≤ 2147483647 := by
  have h1 := Int32.toInt_lt x
  have h2 := Int32.le_toInt x
  omega
/-- the law from a place on, the script read up to i: it answers true, at most n things are made -/
def zCase (G : zG) (pc : Nat) (i : Int) (n : Nat) (ia : Nat → Int → Int) : Prop := ∀ w : (Nat → Int → Int) × (Nat → Int → Int), ∃ (h2 : zHp) (ce : Nat), ce ≤ n ∧ Ev G mL_law pc [(3, 2), (1, 0), (1, 24), (1, 34), (1, 35), (0, i), (9, 0), (9, 0), (9, 0), (9, 0)] [] (zH ia w) (.inl (some (0, 1)), h2, ce, 6 * ce)
def zNext (G : zG) (i : Int) (n : Nat) : Prop := ∀ ia, zQq ia ia → zCase G 2463 i n ia
theorem c_write {G : zG} {ia : Nat → Int → Int} {i : Int} {n : Nat} (J : zJL G mL_write [(1, 0), (0, ((G.2.2.2.2.2.1 2).2 (i + 1))), (0, ((G.2.2.2.2.2.1 2).2 (i + 2))), (0, ((G.2.2.2.2.2.1 2).2 (i + 3))), (1, 34), (9, 0)] mX8_write [(1, 24), (0, ((G.2.2.2.2.2.1 2).2 (i + 1))), (0, ((G.2.2.2.2.2.1 2).2 (i + 2))), (0, ((G.2.2.2.2.2.1 2).2 (i + 3))), (9, 0), (9, 0)] (fun r => r) ia) (hi : 0 ≤ i ∧ i + 5 ≤ (((G.2.2.2.2.2.1 2).1 : Nat) : Int)) (hL : (G.2.2.2.2.2.1 2).1 ≤ 2560) (N : zNext G i n) : zCase G 208 i (n + 1) ia := by
  intro w
  obtain ⟨ia1, w1, k, r, ce1, hk, hr, hce, E1, hout, hm⟩ := J w
  obtain ⟨ib1, v, E2, hv, hvr, hcode, Q2⟩ := hm w1
  obtain ⟨h2, ce2, hc2, EN⟩ := N ib1 Q2 w1
  have Et : Ev G mX8_thrown 0 [(1, 24)] [] (zH ib1 w1) (.inl (some (0, k)), zH ib1 w1, 0, 0) := by
    have h := eX8_thrown (G := G) (ia := ib1) (w := w1)
    rw [hcode] at h
    exact h
  refine ⟨h2, ce1 + ce2, by omega, ?_⟩
  refine Ev.aload_n_1 fL_law_208 rfl ?_
  refine Ev.aload_n_3 fL_law_209 rfl ?_
  refine Ev.iload fL_law_210 rfl ?_
  refine Ev.iconst fL_law_212 ?_
  refine Ev.iadd fL_law_213 ?_
  refine Ev.old 2 (v := ((G.2.2.2.2.2.1 2).2 (i + 1))) fL_law_214 (by decide) ⟨by omega, by omega, by omega⟩ rfl ?_
  refine Ev.aload_n_3 fL_law_215 rfl ?_
  refine Ev.iload fL_law_216 rfl ?_
  refine Ev.iconst fL_law_218 ?_
  refine Ev.iadd fL_law_219 ?_
  refine Ev.old 2 (v := ((G.2.2.2.2.2.1 2).2 (i + 2))) fL_law_220 (by decide) ⟨by omega, by omega, by omega⟩ rfl ?_
  refine Ev.aload_n_3 fL_law_221 rfl ?_
  refine Ev.iload fL_law_222 rfl ?_
  refine Ev.iconst fL_law_224 ?_
  refine Ev.iadd fL_law_225 ?_
  refine Ev.old 2 (v := ((G.2.2.2.2.2.1 2).2 (i + 3))) fL_law_226 (by decide) ⟨by omega, by omega, by omega⟩ rfl ?_
  refine Ev.aload_n_1 fL_law_227 rfl ?_
  refine Ev.cHl (ce2 := ce2) (sl2 := 6 * ce2) [(1, 0), (0, ((G.2.2.2.2.2.1 2).2 (i + 1))), (0, ((G.2.2.2.2.2.1 2).2 (i + 2))), (0, ((G.2.2.2.2.2.1 2).2 (i + 3))), (1, 34)] [] fL_law_228 lkL_law_134 rfl rfl (by omega) E1 ?_
  refine Ev.sistore [(3, 2), (1, 0), (1, 24), (1, 34), (1, 35), (0, i), (0, k), (9, 0), (9, 0), (9, 0)] fL_law_231 rfl rfl ?_
  refine Ev.aload_n_1 fL_law_233 rfl ?_
  refine Ev.aload_n_3 fL_law_234 rfl ?_
  refine Ev.iload fL_law_235 rfl ?_
  refine Ev.iconst fL_law_237 ?_
  refine Ev.iadd fL_law_238 ?_
  refine Ev.old 2 (v := ((G.2.2.2.2.2.1 2).2 (i + 1))) fL_law_239 (by decide) ⟨by omega, by omega, by omega⟩ rfl ?_
  refine Ev.aload_n_3 fL_law_240 rfl ?_
  refine Ev.iload fL_law_241 rfl ?_
  refine Ev.iconst fL_law_243 ?_
  refine Ev.iadd fL_law_244 ?_
  refine Ev.old 2 (v := ((G.2.2.2.2.2.1 2).2 (i + 2))) fL_law_245 (by decide) ⟨by omega, by omega, by omega⟩ rfl ?_
  refine Ev.aload_n_3 fL_law_246 rfl ?_
  refine Ev.iload fL_law_247 rfl ?_
  refine Ev.iconst fL_law_249 ?_
  refine Ev.iadd fL_law_250 ?_
  refine Ev.old 2 (v := ((G.2.2.2.2.2.1 2).2 (i + 3))) fL_law_251 (by decide) ⟨by omega, by omega, by omega⟩ rfl ?_
  refine Ev.cVi 24 [(0, ((G.2.2.2.2.2.1 2).2 (i + 1))), (0, ((G.2.2.2.2.2.1 2).2 (i + 2))), (0, ((G.2.2.2.2.2.1 2).2 (i + 3)))] [] fL_law_252 lkL_law_139 8 TX8 22 rfl rfl rfl E2 ?_
  refine Ev.sistore [(3, 2), (1, 0), (1, 24), (1, 34), (1, 35), (0, i), (0, k), (0, v), (9, 0), (9, 0)] fL_law_255 rfl rfl ?_
  refine Ev.aload_n_1 fL_law_257 rfl ?_
  refine Ev.cVi 24 [] [] fL_law_258 lkL_law_140 8 TX8 22 rfl rfl rfl Et ?_
  refine Ev.iload fL_law_261 rfl ?_
  refine Ev.icmp_eq fL_law_263 rfl ⟨by omega, by omega⟩ ⟨by omega, by omega⟩ (fun _ => ?_) (fun h => absurd rfl h)
  refine Ev.iload fL_law_268 rfl ?_
  refine Ev.if_ne fL_law_270 rfl ⟨by omega, by omega⟩ (fun h9 => ?_) (fun h9 => ?_)
  · refine Ev.goto fL_law_285 rfl ?_
    refine Ev.fg 6 [(3, 2), (1, 0), (1, 24), (1, 34), (1, 35), (0, i), (9, 0), (0, v), (9, 0), (9, 0)] rfl ?_
    refine Ev.fg 7 [(3, 2), (1, 0), (1, 24), (1, 34), (1, 35), (0, i), (9, 0), (9, 0), (9, 0), (9, 0)] rfl ?_
    exact EN
  · have e9 := hv h9
    subst e9
    have ho := hout h9
    refine Ev.aload_n_1 fL_law_273 rfl ?_
    refine Ev.iconst fL_law_274 ?_
    refine Ev.lld fL_law_275 ho ?_
    refine Ev.iload fL_law_276 rfl ?_
    refine Ev.i2l fL_law_278 hvr ?_
    refine Ev.lcmp fL_law_279 hvr hvr ?_
    rw [if_neg (Int.lt_irrefl _), if_pos rfl]
    refine Ev.if_eq fL_law_280 rfl (by decide) (fun _ => ?_) (fun h => absurd rfl h)
    refine Ev.goto fL_law_285 rfl ?_
    refine Ev.fg 6 [(3, 2), (1, 0), (1, 24), (1, 34), (1, 35), (0, i), (9, 0), (0, v), (9, 0), (9, 0)] rfl ?_
    refine Ev.fg 7 [(3, 2), (1, 0), (1, 24), (1, 34), (1, 35), (0, i), (9, 0), (9, 0), (9, 0), (9, 0)] rfl ?_
    exact EN
theorem c_graft {G : zG} {ia : Nat → Int → Int} {i : Int} {n : Nat} (J : zJL G mL_graft [(1, 0), (0, ((G.2.2.2.2.2.1 2).2 (i + 1))), (0, ((G.2.2.2.2.2.1 2).2 (i + 2))), (0, ((G.2.2.2.2.2.1 2).2 (i + 3))), (0, ((G.2.2.2.2.2.1 2).2 (i + 4))), (1, 34), (9, 0)] mX8_graft [(1, 24), (0, ((G.2.2.2.2.2.1 2).2 (i + 1))), (0, ((G.2.2.2.2.2.1 2).2 (i + 2))), (0, ((G.2.2.2.2.2.1 2).2 (i + 3))), (0, ((G.2.2.2.2.2.1 2).2 (i + 4))), (9, 0), (9, 0)] (fun r => r) ia) (hi : 0 ≤ i ∧ i + 5 ≤ (((G.2.2.2.2.2.1 2).1 : Nat) : Int)) (hL : (G.2.2.2.2.2.1 2).1 ≤ 2560) (N : zNext G i n) : zCase G 288 i (n + 1) ia := by
  intro w
  obtain ⟨ia1, w1, k, r, ce1, hk, hr, hce, E1, hout, hm⟩ := J w
  obtain ⟨ib1, v, E2, hv, hvr, hcode, Q2⟩ := hm w1
  obtain ⟨h2, ce2, hc2, EN⟩ := N ib1 Q2 w1
  have Et : Ev G mX8_thrown 0 [(1, 24)] [] (zH ib1 w1) (.inl (some (0, k)), zH ib1 w1, 0, 0) := by
    have h := eX8_thrown (G := G) (ia := ib1) (w := w1)
    rw [hcode] at h
    exact h
  refine ⟨h2, ce1 + ce2, by omega, ?_⟩
  refine Ev.aload_n_1 fL_law_288 rfl ?_
  refine Ev.aload_n_3 fL_law_289 rfl ?_
  refine Ev.iload fL_law_290 rfl ?_
  refine Ev.iconst fL_law_292 ?_
  refine Ev.iadd fL_law_293 ?_
  refine Ev.old 2 (v := ((G.2.2.2.2.2.1 2).2 (i + 1))) fL_law_294 (by decide) ⟨by omega, by omega, by omega⟩ rfl ?_
  refine Ev.aload_n_3 fL_law_295 rfl ?_
  refine Ev.iload fL_law_296 rfl ?_
  refine Ev.iconst fL_law_298 ?_
  refine Ev.iadd fL_law_299 ?_
  refine Ev.old 2 (v := ((G.2.2.2.2.2.1 2).2 (i + 2))) fL_law_300 (by decide) ⟨by omega, by omega, by omega⟩ rfl ?_
  refine Ev.aload_n_3 fL_law_301 rfl ?_
  refine Ev.iload fL_law_302 rfl ?_
  refine Ev.iconst fL_law_304 ?_
  refine Ev.iadd fL_law_305 ?_
  refine Ev.old 2 (v := ((G.2.2.2.2.2.1 2).2 (i + 3))) fL_law_306 (by decide) ⟨by omega, by omega, by omega⟩ rfl ?_
  refine Ev.aload_n_3 fL_law_307 rfl ?_
  refine Ev.iload fL_law_308 rfl ?_
  refine Ev.iconst fL_law_310 ?_
  refine Ev.iadd fL_law_311 ?_
  refine Ev.old 2 (v := ((G.2.2.2.2.2.1 2).2 (i + 4))) fL_law_312 (by decide) ⟨by omega, by omega, by omega⟩ rfl ?_
  refine Ev.aload_n_1 fL_law_313 rfl ?_
  refine Ev.cHl (ce2 := ce2) (sl2 := 6 * ce2) [(1, 0), (0, ((G.2.2.2.2.2.1 2).2 (i + 1))), (0, ((G.2.2.2.2.2.1 2).2 (i + 2))), (0, ((G.2.2.2.2.2.1 2).2 (i + 3))), (0, ((G.2.2.2.2.2.1 2).2 (i + 4))), (1, 34)] [] fL_law_314 lkL_law_143 rfl rfl (by omega) E1 ?_
  refine Ev.sistore [(3, 2), (1, 0), (1, 24), (1, 34), (1, 35), (0, i), (0, k), (9, 0), (9, 0), (9, 0)] fL_law_317 rfl rfl ?_
  refine Ev.aload_n_1 fL_law_319 rfl ?_
  refine Ev.aload_n_3 fL_law_320 rfl ?_
  refine Ev.iload fL_law_321 rfl ?_
  refine Ev.iconst fL_law_323 ?_
  refine Ev.iadd fL_law_324 ?_
  refine Ev.old 2 (v := ((G.2.2.2.2.2.1 2).2 (i + 1))) fL_law_325 (by decide) ⟨by omega, by omega, by omega⟩ rfl ?_
  refine Ev.aload_n_3 fL_law_326 rfl ?_
  refine Ev.iload fL_law_327 rfl ?_
  refine Ev.iconst fL_law_329 ?_
  refine Ev.iadd fL_law_330 ?_
  refine Ev.old 2 (v := ((G.2.2.2.2.2.1 2).2 (i + 2))) fL_law_331 (by decide) ⟨by omega, by omega, by omega⟩ rfl ?_
  refine Ev.aload_n_3 fL_law_332 rfl ?_
  refine Ev.iload fL_law_333 rfl ?_
  refine Ev.iconst fL_law_335 ?_
  refine Ev.iadd fL_law_336 ?_
  refine Ev.old 2 (v := ((G.2.2.2.2.2.1 2).2 (i + 3))) fL_law_337 (by decide) ⟨by omega, by omega, by omega⟩ rfl ?_
  refine Ev.aload_n_3 fL_law_338 rfl ?_
  refine Ev.iload fL_law_339 rfl ?_
  refine Ev.iconst fL_law_341 ?_
  refine Ev.iadd fL_law_342 ?_
  refine Ev.old 2 (v := ((G.2.2.2.2.2.1 2).2 (i + 4))) fL_law_343 (by decide) ⟨by omega, by omega, by omega⟩ rfl ?_
  refine Ev.cVi 24 [(0, ((G.2.2.2.2.2.1 2).2 (i + 1))), (0, ((G.2.2.2.2.2.1 2).2 (i + 2))), (0, ((G.2.2.2.2.2.1 2).2 (i + 3))), (0, ((G.2.2.2.2.2.1 2).2 (i + 4)))] [] fL_law_344 lkL_law_146 8 TX8 22 rfl rfl rfl E2 ?_
  refine Ev.sistore [(3, 2), (1, 0), (1, 24), (1, 34), (1, 35), (0, i), (0, k), (0, v), (9, 0), (9, 0)] fL_law_347 rfl rfl ?_
  refine Ev.aload_n_1 fL_law_349 rfl ?_
  refine Ev.cVi 24 [] [] fL_law_350 lkL_law_140 8 TX8 22 rfl rfl rfl Et ?_
  refine Ev.iload fL_law_353 rfl ?_
  refine Ev.icmp_eq fL_law_355 rfl ⟨by omega, by omega⟩ ⟨by omega, by omega⟩ (fun _ => ?_) (fun h => absurd rfl h)
  refine Ev.iload fL_law_360 rfl ?_
  refine Ev.if_ne fL_law_362 rfl ⟨by omega, by omega⟩ (fun h9 => ?_) (fun h9 => ?_)
  · refine Ev.goto fL_law_377 rfl ?_
    refine Ev.fg 6 [(3, 2), (1, 0), (1, 24), (1, 34), (1, 35), (0, i), (9, 0), (0, v), (9, 0), (9, 0)] rfl ?_
    refine Ev.fg 7 [(3, 2), (1, 0), (1, 24), (1, 34), (1, 35), (0, i), (9, 0), (9, 0), (9, 0), (9, 0)] rfl ?_
    exact EN
  · have e9 := hv h9
    subst e9
    have ho := hout h9
    refine Ev.aload_n_1 fL_law_365 rfl ?_
    refine Ev.iconst fL_law_366 ?_
    refine Ev.lld fL_law_367 ho ?_
    refine Ev.iload fL_law_368 rfl ?_
    refine Ev.i2l fL_law_370 hvr ?_
    refine Ev.lcmp fL_law_371 hvr hvr ?_
    rw [if_neg (Int.lt_irrefl _), if_pos rfl]
    refine Ev.if_eq fL_law_372 rfl (by decide) (fun _ => ?_) (fun h => absurd rfl h)
    refine Ev.goto fL_law_377 rfl ?_
    refine Ev.fg 6 [(3, 2), (1, 0), (1, 24), (1, 34), (1, 35), (0, i), (9, 0), (0, v), (9, 0), (9, 0)] rfl ?_
    refine Ev.fg 7 [(3, 2), (1, 0), (1, 24), (1, 34), (1, 35), (0, i), (9, 0), (9, 0), (9, 0), (9, 0)] rfl ?_
    exact EN
theorem c_fork {G : zG} {ia : Nat → Int → Int} {i : Int} {n : Nat} (J : zJL G mL_fork [(1, 0), (0, ((G.2.2.2.2.2.1 2).2 (i + 1))), (0, ((G.2.2.2.2.2.1 2).2 (i + 2))), (1, 34), (9, 0)] mX8_fork [(1, 24), (0, ((G.2.2.2.2.2.1 2).2 (i + 1))), (0, ((G.2.2.2.2.2.1 2).2 (i + 2)))] (fun r => r) ia) (hi : 0 ≤ i ∧ i + 5 ≤ (((G.2.2.2.2.2.1 2).1 : Nat) : Int)) (hL : (G.2.2.2.2.2.1 2).1 ≤ 2560) (N : zNext G i n) : zCase G 380 i (n + 1) ia := by
  intro w
  obtain ⟨ia1, w1, k, r, ce1, hk, hr, hce, E1, hout, hm⟩ := J w
  obtain ⟨ib1, v, E2, hv, hvr, hcode, Q2⟩ := hm w1
  obtain ⟨h2, ce2, hc2, EN⟩ := N ib1 Q2 w1
  have Et : Ev G mX8_thrown 0 [(1, 24)] [] (zH ib1 w1) (.inl (some (0, k)), zH ib1 w1, 0, 0) := by
    have h := eX8_thrown (G := G) (ia := ib1) (w := w1)
    rw [hcode] at h
    exact h
  refine ⟨h2, ce1 + ce2, by omega, ?_⟩
  refine Ev.aload_n_1 fL_law_380 rfl ?_
  refine Ev.aload_n_3 fL_law_381 rfl ?_
  refine Ev.iload fL_law_382 rfl ?_
  refine Ev.iconst fL_law_384 ?_
  refine Ev.iadd fL_law_385 ?_
  refine Ev.old 2 (v := ((G.2.2.2.2.2.1 2).2 (i + 1))) fL_law_386 (by decide) ⟨by omega, by omega, by omega⟩ rfl ?_
  refine Ev.aload_n_3 fL_law_387 rfl ?_
  refine Ev.iload fL_law_388 rfl ?_
  refine Ev.iconst fL_law_390 ?_
  refine Ev.iadd fL_law_391 ?_
  refine Ev.old 2 (v := ((G.2.2.2.2.2.1 2).2 (i + 2))) fL_law_392 (by decide) ⟨by omega, by omega, by omega⟩ rfl ?_
  refine Ev.aload_n_1 fL_law_393 rfl ?_
  refine Ev.cHl (ce2 := ce2) (sl2 := 6 * ce2) [(1, 0), (0, ((G.2.2.2.2.2.1 2).2 (i + 1))), (0, ((G.2.2.2.2.2.1 2).2 (i + 2))), (1, 34)] [] fL_law_394 lkL_law_147 rfl rfl (by omega) E1 ?_
  refine Ev.sistore [(3, 2), (1, 0), (1, 24), (1, 34), (1, 35), (0, i), (0, k), (9, 0), (9, 0), (9, 0)] fL_law_397 rfl rfl ?_
  refine Ev.aload_n_1 fL_law_399 rfl ?_
  refine Ev.aload_n_3 fL_law_400 rfl ?_
  refine Ev.iload fL_law_401 rfl ?_
  refine Ev.iconst fL_law_403 ?_
  refine Ev.iadd fL_law_404 ?_
  refine Ev.old 2 (v := ((G.2.2.2.2.2.1 2).2 (i + 1))) fL_law_405 (by decide) ⟨by omega, by omega, by omega⟩ rfl ?_
  refine Ev.aload_n_3 fL_law_406 rfl ?_
  refine Ev.iload fL_law_407 rfl ?_
  refine Ev.iconst fL_law_409 ?_
  refine Ev.iadd fL_law_410 ?_
  refine Ev.old 2 (v := ((G.2.2.2.2.2.1 2).2 (i + 2))) fL_law_411 (by decide) ⟨by omega, by omega, by omega⟩ rfl ?_
  refine Ev.cVi 24 [(0, ((G.2.2.2.2.2.1 2).2 (i + 1))), (0, ((G.2.2.2.2.2.1 2).2 (i + 2)))] [] fL_law_412 lkL_law_150 8 TX8 22 rfl rfl rfl E2 ?_
  refine Ev.sistore [(3, 2), (1, 0), (1, 24), (1, 34), (1, 35), (0, i), (0, k), (0, v), (9, 0), (9, 0)] fL_law_415 rfl rfl ?_
  refine Ev.aload_n_1 fL_law_417 rfl ?_
  refine Ev.cVi 24 [] [] fL_law_418 lkL_law_140 8 TX8 22 rfl rfl rfl Et ?_
  refine Ev.iload fL_law_421 rfl ?_
  refine Ev.icmp_eq fL_law_423 rfl ⟨by omega, by omega⟩ ⟨by omega, by omega⟩ (fun _ => ?_) (fun h => absurd rfl h)
  refine Ev.iload fL_law_428 rfl ?_
  refine Ev.if_ne fL_law_430 rfl ⟨by omega, by omega⟩ (fun h9 => ?_) (fun h9 => ?_)
  · refine Ev.goto fL_law_445 rfl ?_
    refine Ev.fg 6 [(3, 2), (1, 0), (1, 24), (1, 34), (1, 35), (0, i), (9, 0), (0, v), (9, 0), (9, 0)] rfl ?_
    refine Ev.fg 7 [(3, 2), (1, 0), (1, 24), (1, 34), (1, 35), (0, i), (9, 0), (9, 0), (9, 0), (9, 0)] rfl ?_
    exact EN
  · have e9 := hv h9
    subst e9
    have ho := hout h9
    refine Ev.aload_n_1 fL_law_433 rfl ?_
    refine Ev.iconst fL_law_434 ?_
    refine Ev.lld fL_law_435 ho ?_
    refine Ev.iload fL_law_436 rfl ?_
    refine Ev.i2l fL_law_438 hvr ?_
    refine Ev.lcmp fL_law_439 hvr hvr ?_
    rw [if_neg (Int.lt_irrefl _), if_pos rfl]
    refine Ev.if_eq fL_law_440 rfl (by decide) (fun _ => ?_) (fun h => absurd rfl h)
    refine Ev.goto fL_law_445 rfl ?_
    refine Ev.fg 6 [(3, 2), (1, 0), (1, 24), (1, 34), (1, 35), (0, i), (9, 0), (0, v), (9, 0), (9, 0)] rfl ?_
    refine Ev.fg 7 [(3, 2), (1, 0), (1, 24), (1, 34), (1, 35), (0, i), (9, 0), (9, 0), (9, 0), (9, 0)] rfl ?_
    exact EN
theorem c_back {G : zG} {ia : Nat → Int → Int} {i : Int} {n : Nat} (J : zJL G mL_back [(1, 0), (0, ((G.2.2.2.2.2.1 2).2 (i + 1))), (0, ((G.2.2.2.2.2.1 2).2 (i + 2))), (1, 34), (9, 0)] mX8_back [(1, 24), (0, ((G.2.2.2.2.2.1 2).2 (i + 1))), (0, ((G.2.2.2.2.2.1 2).2 (i + 2))), (9, 0), (9, 0)] (fun r => r) ia) (hi : 0 ≤ i ∧ i + 5 ≤ (((G.2.2.2.2.2.1 2).1 : Nat) : Int)) (hL : (G.2.2.2.2.2.1 2).1 ≤ 2560) (N : zNext G i n) : zCase G 448 i (n + 1) ia := by
  intro w
  obtain ⟨ia1, w1, k, r, ce1, hk, hr, hce, E1, hout, hm⟩ := J w
  obtain ⟨ib1, v, E2, hv, hvr, hcode, Q2⟩ := hm w1
  obtain ⟨h2, ce2, hc2, EN⟩ := N ib1 Q2 w1
  have Et : Ev G mX8_thrown 0 [(1, 24)] [] (zH ib1 w1) (.inl (some (0, k)), zH ib1 w1, 0, 0) := by
    have h := eX8_thrown (G := G) (ia := ib1) (w := w1)
    rw [hcode] at h
    exact h
  refine ⟨h2, ce1 + ce2, by omega, ?_⟩
  refine Ev.aload_n_1 fL_law_448 rfl ?_
  refine Ev.aload_n_3 fL_law_449 rfl ?_
  refine Ev.iload fL_law_450 rfl ?_
  refine Ev.iconst fL_law_452 ?_
  refine Ev.iadd fL_law_453 ?_
  refine Ev.old 2 (v := ((G.2.2.2.2.2.1 2).2 (i + 1))) fL_law_454 (by decide) ⟨by omega, by omega, by omega⟩ rfl ?_
  refine Ev.aload_n_3 fL_law_455 rfl ?_
  refine Ev.iload fL_law_456 rfl ?_
  refine Ev.iconst fL_law_458 ?_
  refine Ev.iadd fL_law_459 ?_
  refine Ev.old 2 (v := ((G.2.2.2.2.2.1 2).2 (i + 2))) fL_law_460 (by decide) ⟨by omega, by omega, by omega⟩ rfl ?_
  refine Ev.aload_n_1 fL_law_461 rfl ?_
  refine Ev.cHl (ce2 := ce2) (sl2 := 6 * ce2) [(1, 0), (0, ((G.2.2.2.2.2.1 2).2 (i + 1))), (0, ((G.2.2.2.2.2.1 2).2 (i + 2))), (1, 34)] [] fL_law_462 lkL_law_151 rfl rfl (by omega) E1 ?_
  refine Ev.sistore [(3, 2), (1, 0), (1, 24), (1, 34), (1, 35), (0, i), (0, k), (9, 0), (9, 0), (9, 0)] fL_law_465 rfl rfl ?_
  refine Ev.aload_n_1 fL_law_467 rfl ?_
  refine Ev.aload_n_3 fL_law_468 rfl ?_
  refine Ev.iload fL_law_469 rfl ?_
  refine Ev.iconst fL_law_471 ?_
  refine Ev.iadd fL_law_472 ?_
  refine Ev.old 2 (v := ((G.2.2.2.2.2.1 2).2 (i + 1))) fL_law_473 (by decide) ⟨by omega, by omega, by omega⟩ rfl ?_
  refine Ev.aload_n_3 fL_law_474 rfl ?_
  refine Ev.iload fL_law_475 rfl ?_
  refine Ev.iconst fL_law_477 ?_
  refine Ev.iadd fL_law_478 ?_
  refine Ev.old 2 (v := ((G.2.2.2.2.2.1 2).2 (i + 2))) fL_law_479 (by decide) ⟨by omega, by omega, by omega⟩ rfl ?_
  refine Ev.cVi 24 [(0, ((G.2.2.2.2.2.1 2).2 (i + 1))), (0, ((G.2.2.2.2.2.1 2).2 (i + 2)))] [] fL_law_480 lkL_law_153 8 TX8 22 rfl rfl rfl E2 ?_
  refine Ev.sistore [(3, 2), (1, 0), (1, 24), (1, 34), (1, 35), (0, i), (0, k), (0, v), (9, 0), (9, 0)] fL_law_483 rfl rfl ?_
  refine Ev.aload_n_1 fL_law_485 rfl ?_
  refine Ev.cVi 24 [] [] fL_law_486 lkL_law_140 8 TX8 22 rfl rfl rfl Et ?_
  refine Ev.iload fL_law_489 rfl ?_
  refine Ev.icmp_eq fL_law_491 rfl ⟨by omega, by omega⟩ ⟨by omega, by omega⟩ (fun _ => ?_) (fun h => absurd rfl h)
  refine Ev.iload fL_law_496 rfl ?_
  refine Ev.if_ne fL_law_498 rfl ⟨by omega, by omega⟩ (fun h9 => ?_) (fun h9 => ?_)
  · refine Ev.goto fL_law_513 rfl ?_
    refine Ev.fg 6 [(3, 2), (1, 0), (1, 24), (1, 34), (1, 35), (0, i), (9, 0), (0, v), (9, 0), (9, 0)] rfl ?_
    refine Ev.fg 7 [(3, 2), (1, 0), (1, 24), (1, 34), (1, 35), (0, i), (9, 0), (9, 0), (9, 0), (9, 0)] rfl ?_
    exact EN
  · have e9 := hv h9
    subst e9
    have ho := hout h9
    refine Ev.aload_n_1 fL_law_501 rfl ?_
    refine Ev.iconst fL_law_502 ?_
    refine Ev.lld fL_law_503 ho ?_
    refine Ev.iload fL_law_504 rfl ?_
    refine Ev.i2l fL_law_506 hvr ?_
    refine Ev.lcmp fL_law_507 hvr hvr ?_
    rw [if_neg (Int.lt_irrefl _), if_pos rfl]
    refine Ev.if_eq fL_law_508 rfl (by decide) (fun _ => ?_) (fun h => absurd rfl h)
    refine Ev.goto fL_law_513 rfl ?_
    refine Ev.fg 6 [(3, 2), (1, 0), (1, 24), (1, 34), (1, 35), (0, i), (9, 0), (0, v), (9, 0), (9, 0)] rfl ?_
    refine Ev.fg 7 [(3, 2), (1, 0), (1, 24), (1, 34), (1, 35), (0, i), (9, 0), (9, 0), (9, 0), (9, 0)] rfl ?_
    exact EN
theorem c_pass {G : zG} {ia : Nat → Int → Int} {i : Int} {n : Nat} (J : zJL G mL_pass [(1, 0), (0, ((G.2.2.2.2.2.1 2).2 (i + 1))), (1, 34), (9, 0)] mX8_pass [(1, 24), (0, ((G.2.2.2.2.2.1 2).2 (i + 1)))] (fun r => r) ia) (hi : 0 ≤ i ∧ i + 5 ≤ (((G.2.2.2.2.2.1 2).1 : Nat) : Int)) (hL : (G.2.2.2.2.2.1 2).1 ≤ 2560) (N : zNext G i n) : zCase G 516 i (n + 1) ia := by
  intro w
  obtain ⟨ia1, w1, k, r, ce1, hk, hr, hce, E1, hout, hm⟩ := J w
  obtain ⟨ib1, v, E2, hv, hvr, hcode, Q2⟩ := hm w1
  obtain ⟨h2, ce2, hc2, EN⟩ := N ib1 Q2 w1
  have Et : Ev G mX8_thrown 0 [(1, 24)] [] (zH ib1 w1) (.inl (some (0, k)), zH ib1 w1, 0, 0) := by
    have h := eX8_thrown (G := G) (ia := ib1) (w := w1)
    rw [hcode] at h
    exact h
  refine ⟨h2, ce1 + ce2, by omega, ?_⟩
  refine Ev.aload_n_1 fL_law_516 rfl ?_
  refine Ev.aload_n_3 fL_law_517 rfl ?_
  refine Ev.iload fL_law_518 rfl ?_
  refine Ev.iconst fL_law_520 ?_
  refine Ev.iadd fL_law_521 ?_
  refine Ev.old 2 (v := ((G.2.2.2.2.2.1 2).2 (i + 1))) fL_law_522 (by decide) ⟨by omega, by omega, by omega⟩ rfl ?_
  refine Ev.aload_n_1 fL_law_523 rfl ?_
  refine Ev.cHl (ce2 := ce2) (sl2 := 6 * ce2) [(1, 0), (0, ((G.2.2.2.2.2.1 2).2 (i + 1))), (1, 34)] [] fL_law_524 lkL_law_154 rfl rfl (by omega) E1 ?_
  refine Ev.sistore [(3, 2), (1, 0), (1, 24), (1, 34), (1, 35), (0, i), (0, k), (9, 0), (9, 0), (9, 0)] fL_law_527 rfl rfl ?_
  refine Ev.aload_n_1 fL_law_529 rfl ?_
  refine Ev.aload_n_3 fL_law_530 rfl ?_
  refine Ev.iload fL_law_531 rfl ?_
  refine Ev.iconst fL_law_533 ?_
  refine Ev.iadd fL_law_534 ?_
  refine Ev.old 2 (v := ((G.2.2.2.2.2.1 2).2 (i + 1))) fL_law_535 (by decide) ⟨by omega, by omega, by omega⟩ rfl ?_
  refine Ev.cVi 24 [(0, ((G.2.2.2.2.2.1 2).2 (i + 1)))] [] fL_law_536 lkL_law_157 8 TX8 22 rfl rfl rfl E2 ?_
  refine Ev.sistore [(3, 2), (1, 0), (1, 24), (1, 34), (1, 35), (0, i), (0, k), (0, v), (9, 0), (9, 0)] fL_law_539 rfl rfl ?_
  refine Ev.aload_n_1 fL_law_541 rfl ?_
  refine Ev.cVi 24 [] [] fL_law_542 lkL_law_140 8 TX8 22 rfl rfl rfl Et ?_
  refine Ev.iload fL_law_545 rfl ?_
  refine Ev.icmp_eq fL_law_547 rfl ⟨by omega, by omega⟩ ⟨by omega, by omega⟩ (fun _ => ?_) (fun h => absurd rfl h)
  refine Ev.iload fL_law_552 rfl ?_
  refine Ev.if_ne fL_law_554 rfl ⟨by omega, by omega⟩ (fun h9 => ?_) (fun h9 => ?_)
  · refine Ev.goto fL_law_569 rfl ?_
    refine Ev.fg 6 [(3, 2), (1, 0), (1, 24), (1, 34), (1, 35), (0, i), (9, 0), (0, v), (9, 0), (9, 0)] rfl ?_
    refine Ev.fg 7 [(3, 2), (1, 0), (1, 24), (1, 34), (1, 35), (0, i), (9, 0), (9, 0), (9, 0), (9, 0)] rfl ?_
    exact EN
  · have e9 := hv h9
    subst e9
    have ho := hout h9
    refine Ev.aload_n_1 fL_law_557 rfl ?_
    refine Ev.iconst fL_law_558 ?_
    refine Ev.lld fL_law_559 ho ?_
    refine Ev.iload fL_law_560 rfl ?_
    refine Ev.i2l fL_law_562 hvr ?_
    refine Ev.lcmp fL_law_563 hvr hvr ?_
    rw [if_neg (Int.lt_irrefl _), if_pos rfl]
    refine Ev.if_eq fL_law_564 rfl (by decide) (fun _ => ?_) (fun h => absurd rfl h)
    refine Ev.goto fL_law_569 rfl ?_
    refine Ev.fg 6 [(3, 2), (1, 0), (1, 24), (1, 34), (1, 35), (0, i), (9, 0), (0, v), (9, 0), (9, 0)] rfl ?_
    refine Ev.fg 7 [(3, 2), (1, 0), (1, 24), (1, 34), (1, 35), (0, i), (9, 0), (9, 0), (9, 0), (9, 0)] rfl ?_
    exact EN
theorem c_ledger {G : zG} {ia : Nat → Int → Int} {i : Int} {n : Nat} (J : zJL G mL_ledger [(1, 0), (0, ((G.2.2.2.2.2.1 2).2 (i + 1))), (1, 34), (9, 0)] mX8_ledger [(1, 24), (0, ((G.2.2.2.2.2.1 2).2 (i + 1)))] (fun r => r) ia) (hi : 0 ≤ i ∧ i + 5 ≤ (((G.2.2.2.2.2.1 2).1 : Nat) : Int)) (hL : (G.2.2.2.2.2.1 2).1 ≤ 2560) (N : zNext G i n) : zCase G 572 i (n + 1) ia := by
  intro w
  obtain ⟨ia1, w1, k, r, ce1, hk, hr, hce, E1, hout, hm⟩ := J w
  obtain ⟨ib1, v, E2, hv, hvr, hcode, Q2⟩ := hm w1
  obtain ⟨h2, ce2, hc2, EN⟩ := N ib1 Q2 w1
  have Et : Ev G mX8_thrown 0 [(1, 24)] [] (zH ib1 w1) (.inl (some (0, k)), zH ib1 w1, 0, 0) := by
    have h := eX8_thrown (G := G) (ia := ib1) (w := w1)
    rw [hcode] at h
    exact h
  refine ⟨h2, ce1 + ce2, by omega, ?_⟩
  refine Ev.aload_n_1 fL_law_572 rfl ?_
  refine Ev.aload_n_3 fL_law_573 rfl ?_
  refine Ev.iload fL_law_574 rfl ?_
  refine Ev.iconst fL_law_576 ?_
  refine Ev.iadd fL_law_577 ?_
  refine Ev.old 2 (v := ((G.2.2.2.2.2.1 2).2 (i + 1))) fL_law_578 (by decide) ⟨by omega, by omega, by omega⟩ rfl ?_
  refine Ev.aload_n_1 fL_law_579 rfl ?_
  refine Ev.cHl (ce2 := ce2) (sl2 := 6 * ce2) [(1, 0), (0, ((G.2.2.2.2.2.1 2).2 (i + 1))), (1, 34)] [] fL_law_580 lkL_law_158 rfl rfl (by omega) E1 ?_
  refine Ev.sistore [(3, 2), (1, 0), (1, 24), (1, 34), (1, 35), (0, i), (0, k), (9, 0), (9, 0), (9, 0)] fL_law_583 rfl rfl ?_
  refine Ev.aload_n_1 fL_law_585 rfl ?_
  refine Ev.aload_n_3 fL_law_586 rfl ?_
  refine Ev.iload fL_law_587 rfl ?_
  refine Ev.iconst fL_law_589 ?_
  refine Ev.iadd fL_law_590 ?_
  refine Ev.old 2 (v := ((G.2.2.2.2.2.1 2).2 (i + 1))) fL_law_591 (by decide) ⟨by omega, by omega, by omega⟩ rfl ?_
  refine Ev.cVi 24 [(0, ((G.2.2.2.2.2.1 2).2 (i + 1)))] [] fL_law_592 lkL_law_160 8 TX8 22 rfl rfl rfl E2 ?_
  refine Ev.sistore [(3, 2), (1, 0), (1, 24), (1, 34), (1, 35), (0, i), (0, k), (0, v), (9, 0), (9, 0)] fL_law_595 rfl rfl ?_
  refine Ev.aload_n_1 fL_law_597 rfl ?_
  refine Ev.cVi 24 [] [] fL_law_598 lkL_law_140 8 TX8 22 rfl rfl rfl Et ?_
  refine Ev.iload fL_law_601 rfl ?_
  refine Ev.icmp_eq fL_law_603 rfl ⟨by omega, by omega⟩ ⟨by omega, by omega⟩ (fun _ => ?_) (fun h => absurd rfl h)
  refine Ev.iload fL_law_608 rfl ?_
  refine Ev.if_ne fL_law_610 rfl ⟨by omega, by omega⟩ (fun h9 => ?_) (fun h9 => ?_)
  · refine Ev.goto fL_law_625 rfl ?_
    refine Ev.fg 6 [(3, 2), (1, 0), (1, 24), (1, 34), (1, 35), (0, i), (9, 0), (0, v), (9, 0), (9, 0)] rfl ?_
    refine Ev.fg 7 [(3, 2), (1, 0), (1, 24), (1, 34), (1, 35), (0, i), (9, 0), (9, 0), (9, 0), (9, 0)] rfl ?_
    exact EN
  · have e9 := hv h9
    subst e9
    have ho := hout h9
    refine Ev.aload_n_1 fL_law_613 rfl ?_
    refine Ev.iconst fL_law_614 ?_
    refine Ev.lld fL_law_615 ho ?_
    refine Ev.iload fL_law_616 rfl ?_
    refine Ev.i2l fL_law_618 hvr ?_
    refine Ev.lcmp fL_law_619 hvr hvr ?_
    rw [if_neg (Int.lt_irrefl _), if_pos rfl]
    refine Ev.if_eq fL_law_620 rfl (by decide) (fun _ => ?_) (fun h => absurd rfl h)
    refine Ev.goto fL_law_625 rfl ?_
    refine Ev.fg 6 [(3, 2), (1, 0), (1, 24), (1, 34), (1, 35), (0, i), (9, 0), (0, v), (9, 0), (9, 0)] rfl ?_
    refine Ev.fg 7 [(3, 2), (1, 0), (1, 24), (1, 34), (1, 35), (0, i), (9, 0), (9, 0), (9, 0), (9, 0)] rfl ?_
    exact EN
theorem c_amount {G : zG} {ia : Nat → Int → Int} {i : Int} {n : Nat} (J : zJL G mL_amount [(1, 0), (0, ((G.2.2.2.2.2.1 2).2 (i + 1))), (0, ((G.2.2.2.2.2.1 2).2 (i + 2))), (1, 34), (9, 0)] mX8_amount [(1, 24), (0, ((G.2.2.2.2.2.1 2).2 (i + 1))), (0, ((G.2.2.2.2.2.1 2).2 (i + 2)))] (fun r => r) ia) (hi : 0 ≤ i ∧ i + 5 ≤ (((G.2.2.2.2.2.1 2).1 : Nat) : Int)) (hL : (G.2.2.2.2.2.1 2).1 ≤ 2560) (N : zNext G i n) : zCase G 628 i (n + 1) ia := by
  intro w
  obtain ⟨ia1, w1, k, r, ce1, hk, hr, hce, E1, hout, hm⟩ := J w
  obtain ⟨ib1, v, E2, hv, hvr, hcode, Q2⟩ := hm w1
  obtain ⟨h2, ce2, hc2, EN⟩ := N ib1 Q2 w1
  have Et : Ev G mX8_thrown 0 [(1, 24)] [] (zH ib1 w1) (.inl (some (0, k)), zH ib1 w1, 0, 0) := by
    have h := eX8_thrown (G := G) (ia := ib1) (w := w1)
    rw [hcode] at h
    exact h
  refine ⟨h2, ce1 + ce2, by omega, ?_⟩
  refine Ev.aload_n_1 fL_law_628 rfl ?_
  refine Ev.aload_n_3 fL_law_629 rfl ?_
  refine Ev.iload fL_law_630 rfl ?_
  refine Ev.iconst fL_law_632 ?_
  refine Ev.iadd fL_law_633 ?_
  refine Ev.old 2 (v := ((G.2.2.2.2.2.1 2).2 (i + 1))) fL_law_634 (by decide) ⟨by omega, by omega, by omega⟩ rfl ?_
  refine Ev.aload_n_3 fL_law_635 rfl ?_
  refine Ev.iload fL_law_636 rfl ?_
  refine Ev.iconst fL_law_638 ?_
  refine Ev.iadd fL_law_639 ?_
  refine Ev.old 2 (v := ((G.2.2.2.2.2.1 2).2 (i + 2))) fL_law_640 (by decide) ⟨by omega, by omega, by omega⟩ rfl ?_
  refine Ev.aload_n_1 fL_law_641 rfl ?_
  refine Ev.cHl (ce2 := ce2) (sl2 := 6 * ce2) [(1, 0), (0, ((G.2.2.2.2.2.1 2).2 (i + 1))), (0, ((G.2.2.2.2.2.1 2).2 (i + 2))), (1, 34)] [] fL_law_642 lkL_law_161 rfl rfl (by omega) E1 ?_
  refine Ev.sistore [(3, 2), (1, 0), (1, 24), (1, 34), (1, 35), (0, i), (0, k), (9, 0), (9, 0), (9, 0)] fL_law_645 rfl rfl ?_
  refine Ev.aload_n_1 fL_law_647 rfl ?_
  refine Ev.aload_n_3 fL_law_648 rfl ?_
  refine Ev.iload fL_law_649 rfl ?_
  refine Ev.iconst fL_law_651 ?_
  refine Ev.iadd fL_law_652 ?_
  refine Ev.old 2 (v := ((G.2.2.2.2.2.1 2).2 (i + 1))) fL_law_653 (by decide) ⟨by omega, by omega, by omega⟩ rfl ?_
  refine Ev.aload_n_3 fL_law_654 rfl ?_
  refine Ev.iload fL_law_655 rfl ?_
  refine Ev.iconst fL_law_657 ?_
  refine Ev.iadd fL_law_658 ?_
  refine Ev.old 2 (v := ((G.2.2.2.2.2.1 2).2 (i + 2))) fL_law_659 (by decide) ⟨by omega, by omega, by omega⟩ rfl ?_
  refine Ev.cVi 24 [(0, ((G.2.2.2.2.2.1 2).2 (i + 1))), (0, ((G.2.2.2.2.2.1 2).2 (i + 2)))] [] fL_law_660 lkL_law_163 8 TX8 22 rfl rfl rfl E2 ?_
  refine Ev.sistore [(3, 2), (1, 0), (1, 24), (1, 34), (1, 35), (0, i), (0, k), (0, v), (9, 0), (9, 0)] fL_law_663 rfl rfl ?_
  refine Ev.aload_n_1 fL_law_665 rfl ?_
  refine Ev.cVi 24 [] [] fL_law_666 lkL_law_140 8 TX8 22 rfl rfl rfl Et ?_
  refine Ev.iload fL_law_669 rfl ?_
  refine Ev.icmp_eq fL_law_671 rfl ⟨by omega, by omega⟩ ⟨by omega, by omega⟩ (fun _ => ?_) (fun h => absurd rfl h)
  refine Ev.iload fL_law_676 rfl ?_
  refine Ev.if_ne fL_law_678 rfl ⟨by omega, by omega⟩ (fun h9 => ?_) (fun h9 => ?_)
  · refine Ev.goto fL_law_693 rfl ?_
    refine Ev.fg 6 [(3, 2), (1, 0), (1, 24), (1, 34), (1, 35), (0, i), (9, 0), (0, v), (9, 0), (9, 0)] rfl ?_
    refine Ev.fg 7 [(3, 2), (1, 0), (1, 24), (1, 34), (1, 35), (0, i), (9, 0), (9, 0), (9, 0), (9, 0)] rfl ?_
    exact EN
  · have e9 := hv h9
    subst e9
    have ho := hout h9
    refine Ev.aload_n_1 fL_law_681 rfl ?_
    refine Ev.iconst fL_law_682 ?_
    refine Ev.lld fL_law_683 ho ?_
    refine Ev.iload fL_law_684 rfl ?_
    refine Ev.i2l fL_law_686 hvr ?_
    refine Ev.lcmp fL_law_687 hvr hvr ?_
    rw [if_neg (Int.lt_irrefl _), if_pos rfl]
    refine Ev.if_eq fL_law_688 rfl (by decide) (fun _ => ?_) (fun h => absurd rfl h)
    refine Ev.goto fL_law_693 rfl ?_
    refine Ev.fg 6 [(3, 2), (1, 0), (1, 24), (1, 34), (1, 35), (0, i), (9, 0), (0, v), (9, 0), (9, 0)] rfl ?_
    refine Ev.fg 7 [(3, 2), (1, 0), (1, 24), (1, 34), (1, 35), (0, i), (9, 0), (9, 0), (9, 0), (9, 0)] rfl ?_
    exact EN
theorem c_sum {G : zG} {ia : Nat → Int → Int} {i : Int} {n : Nat} (J : zJL G mL_sum [(1, 0), (0, ((G.2.2.2.2.2.1 2).2 (i + 1))), (0, ((G.2.2.2.2.2.1 2).2 (i + 2))), (0, ((G.2.2.2.2.2.1 2).2 (i + 3))), (1, 34), (9, 0)] mX8_sum [(1, 24), (0, ((G.2.2.2.2.2.1 2).2 (i + 1))), (0, ((G.2.2.2.2.2.1 2).2 (i + 2))), (0, ((G.2.2.2.2.2.1 2).2 (i + 3)))] (fun r => r) ia) (hi : 0 ≤ i ∧ i + 5 ≤ (((G.2.2.2.2.2.1 2).1 : Nat) : Int)) (hL : (G.2.2.2.2.2.1 2).1 ≤ 2560) (N : zNext G i n) : zCase G 696 i (n + 1) ia := by
  intro w
  obtain ⟨ia1, w1, k, r, ce1, hk, hr, hce, E1, hout, hm⟩ := J w
  obtain ⟨ib1, v, E2, hv, hvr, hcode, Q2⟩ := hm w1
  obtain ⟨h2, ce2, hc2, EN⟩ := N ib1 Q2 w1
  have Et : Ev G mX8_thrown 0 [(1, 24)] [] (zH ib1 w1) (.inl (some (0, k)), zH ib1 w1, 0, 0) := by
    have h := eX8_thrown (G := G) (ia := ib1) (w := w1)
    rw [hcode] at h
    exact h
  refine ⟨h2, ce1 + ce2, by omega, ?_⟩
  refine Ev.aload_n_1 fL_law_696 rfl ?_
  refine Ev.aload_n_3 fL_law_697 rfl ?_
  refine Ev.iload fL_law_698 rfl ?_
  refine Ev.iconst fL_law_700 ?_
  refine Ev.iadd fL_law_701 ?_
  refine Ev.old 2 (v := ((G.2.2.2.2.2.1 2).2 (i + 1))) fL_law_702 (by decide) ⟨by omega, by omega, by omega⟩ rfl ?_
  refine Ev.aload_n_3 fL_law_703 rfl ?_
  refine Ev.iload fL_law_704 rfl ?_
  refine Ev.iconst fL_law_706 ?_
  refine Ev.iadd fL_law_707 ?_
  refine Ev.old 2 (v := ((G.2.2.2.2.2.1 2).2 (i + 2))) fL_law_708 (by decide) ⟨by omega, by omega, by omega⟩ rfl ?_
  refine Ev.aload_n_3 fL_law_709 rfl ?_
  refine Ev.iload fL_law_710 rfl ?_
  refine Ev.iconst fL_law_712 ?_
  refine Ev.iadd fL_law_713 ?_
  refine Ev.old 2 (v := ((G.2.2.2.2.2.1 2).2 (i + 3))) fL_law_714 (by decide) ⟨by omega, by omega, by omega⟩ rfl ?_
  refine Ev.aload_n_1 fL_law_715 rfl ?_
  refine Ev.cHl (ce2 := ce2) (sl2 := 6 * ce2) [(1, 0), (0, ((G.2.2.2.2.2.1 2).2 (i + 1))), (0, ((G.2.2.2.2.2.1 2).2 (i + 2))), (0, ((G.2.2.2.2.2.1 2).2 (i + 3))), (1, 34)] [] fL_law_716 lkL_law_164 rfl rfl (by omega) E1 ?_
  refine Ev.sistore [(3, 2), (1, 0), (1, 24), (1, 34), (1, 35), (0, i), (0, k), (9, 0), (9, 0), (9, 0)] fL_law_719 rfl rfl ?_
  refine Ev.aload_n_1 fL_law_721 rfl ?_
  refine Ev.aload_n_3 fL_law_722 rfl ?_
  refine Ev.iload fL_law_723 rfl ?_
  refine Ev.iconst fL_law_725 ?_
  refine Ev.iadd fL_law_726 ?_
  refine Ev.old 2 (v := ((G.2.2.2.2.2.1 2).2 (i + 1))) fL_law_727 (by decide) ⟨by omega, by omega, by omega⟩ rfl ?_
  refine Ev.aload_n_3 fL_law_728 rfl ?_
  refine Ev.iload fL_law_729 rfl ?_
  refine Ev.iconst fL_law_731 ?_
  refine Ev.iadd fL_law_732 ?_
  refine Ev.old 2 (v := ((G.2.2.2.2.2.1 2).2 (i + 2))) fL_law_733 (by decide) ⟨by omega, by omega, by omega⟩ rfl ?_
  refine Ev.aload_n_3 fL_law_734 rfl ?_
  refine Ev.iload fL_law_735 rfl ?_
  refine Ev.iconst fL_law_737 ?_
  refine Ev.iadd fL_law_738 ?_
  refine Ev.old 2 (v := ((G.2.2.2.2.2.1 2).2 (i + 3))) fL_law_739 (by decide) ⟨by omega, by omega, by omega⟩ rfl ?_
  refine Ev.cVi 24 [(0, ((G.2.2.2.2.2.1 2).2 (i + 1))), (0, ((G.2.2.2.2.2.1 2).2 (i + 2))), (0, ((G.2.2.2.2.2.1 2).2 (i + 3)))] [] fL_law_740 lkL_law_166 8 TX8 22 rfl rfl rfl E2 ?_
  refine Ev.sistore [(3, 2), (1, 0), (1, 24), (1, 34), (1, 35), (0, i), (0, k), (0, v), (9, 0), (9, 0)] fL_law_743 rfl rfl ?_
  refine Ev.aload_n_1 fL_law_745 rfl ?_
  refine Ev.cVi 24 [] [] fL_law_746 lkL_law_140 8 TX8 22 rfl rfl rfl Et ?_
  refine Ev.iload fL_law_749 rfl ?_
  refine Ev.icmp_eq fL_law_751 rfl ⟨by omega, by omega⟩ ⟨by omega, by omega⟩ (fun _ => ?_) (fun h => absurd rfl h)
  refine Ev.iload fL_law_756 rfl ?_
  refine Ev.if_ne fL_law_758 rfl ⟨by omega, by omega⟩ (fun h9 => ?_) (fun h9 => ?_)
  · refine Ev.goto fL_law_773 rfl ?_
    refine Ev.fg 6 [(3, 2), (1, 0), (1, 24), (1, 34), (1, 35), (0, i), (9, 0), (0, v), (9, 0), (9, 0)] rfl ?_
    refine Ev.fg 7 [(3, 2), (1, 0), (1, 24), (1, 34), (1, 35), (0, i), (9, 0), (9, 0), (9, 0), (9, 0)] rfl ?_
    exact EN
  · have e9 := hv h9
    subst e9
    have ho := hout h9
    refine Ev.aload_n_1 fL_law_761 rfl ?_
    refine Ev.iconst fL_law_762 ?_
    refine Ev.lld fL_law_763 ho ?_
    refine Ev.iload fL_law_764 rfl ?_
    refine Ev.i2l fL_law_766 hvr ?_
    refine Ev.lcmp fL_law_767 hvr hvr ?_
    rw [if_neg (Int.lt_irrefl _), if_pos rfl]
    refine Ev.if_eq fL_law_768 rfl (by decide) (fun _ => ?_) (fun h => absurd rfl h)
    refine Ev.goto fL_law_773 rfl ?_
    refine Ev.fg 6 [(3, 2), (1, 0), (1, 24), (1, 34), (1, 35), (0, i), (9, 0), (0, v), (9, 0), (9, 0)] rfl ?_
    refine Ev.fg 7 [(3, 2), (1, 0), (1, 24), (1, 34), (1, 35), (0, i), (9, 0), (9, 0), (9, 0), (9, 0)] rfl ?_
    exact EN
theorem c_sumAgain {G : zG} {ia : Nat → Int → Int} {i : Int} {n : Nat} (J : zJL G mL_sumAgain [(1, 0), (0, ((G.2.2.2.2.2.1 2).2 (i + 1))), (0, ((G.2.2.2.2.2.1 2).2 (i + 2))), (0, ((G.2.2.2.2.2.1 2).2 (i + 3))), (1, 34), (9, 0)] mX8_sumAgain [(1, 24), (0, ((G.2.2.2.2.2.1 2).2 (i + 1))), (0, ((G.2.2.2.2.2.1 2).2 (i + 2))), (0, ((G.2.2.2.2.2.1 2).2 (i + 3)))] (fun r => r) ia) (hi : 0 ≤ i ∧ i + 5 ≤ (((G.2.2.2.2.2.1 2).1 : Nat) : Int)) (hL : (G.2.2.2.2.2.1 2).1 ≤ 2560) (N : zNext G i n) : zCase G 776 i (n + 1) ia := by
  intro w
  obtain ⟨ia1, w1, k, r, ce1, hk, hr, hce, E1, hout, hm⟩ := J w
  obtain ⟨ib1, v, E2, hv, hvr, hcode, Q2⟩ := hm w1
  obtain ⟨h2, ce2, hc2, EN⟩ := N ib1 Q2 w1
  have Et : Ev G mX8_thrown 0 [(1, 24)] [] (zH ib1 w1) (.inl (some (0, k)), zH ib1 w1, 0, 0) := by
    have h := eX8_thrown (G := G) (ia := ib1) (w := w1)
    rw [hcode] at h
    exact h
  refine ⟨h2, ce1 + ce2, by omega, ?_⟩
  refine Ev.aload_n_1 fL_law_776 rfl ?_
  refine Ev.aload_n_3 fL_law_777 rfl ?_
  refine Ev.iload fL_law_778 rfl ?_
  refine Ev.iconst fL_law_780 ?_
  refine Ev.iadd fL_law_781 ?_
  refine Ev.old 2 (v := ((G.2.2.2.2.2.1 2).2 (i + 1))) fL_law_782 (by decide) ⟨by omega, by omega, by omega⟩ rfl ?_
  refine Ev.aload_n_3 fL_law_783 rfl ?_
  refine Ev.iload fL_law_784 rfl ?_
  refine Ev.iconst fL_law_786 ?_
  refine Ev.iadd fL_law_787 ?_
  refine Ev.old 2 (v := ((G.2.2.2.2.2.1 2).2 (i + 2))) fL_law_788 (by decide) ⟨by omega, by omega, by omega⟩ rfl ?_
  refine Ev.aload_n_3 fL_law_789 rfl ?_
  refine Ev.iload fL_law_790 rfl ?_
  refine Ev.iconst fL_law_792 ?_
  refine Ev.iadd fL_law_793 ?_
  refine Ev.old 2 (v := ((G.2.2.2.2.2.1 2).2 (i + 3))) fL_law_794 (by decide) ⟨by omega, by omega, by omega⟩ rfl ?_
  refine Ev.aload_n_1 fL_law_795 rfl ?_
  refine Ev.cHl (ce2 := ce2) (sl2 := 6 * ce2) [(1, 0), (0, ((G.2.2.2.2.2.1 2).2 (i + 1))), (0, ((G.2.2.2.2.2.1 2).2 (i + 2))), (0, ((G.2.2.2.2.2.1 2).2 (i + 3))), (1, 34)] [] fL_law_796 lkL_law_167 rfl rfl (by omega) E1 ?_
  refine Ev.sistore [(3, 2), (1, 0), (1, 24), (1, 34), (1, 35), (0, i), (0, k), (9, 0), (9, 0), (9, 0)] fL_law_799 rfl rfl ?_
  refine Ev.aload_n_1 fL_law_801 rfl ?_
  refine Ev.aload_n_3 fL_law_802 rfl ?_
  refine Ev.iload fL_law_803 rfl ?_
  refine Ev.iconst fL_law_805 ?_
  refine Ev.iadd fL_law_806 ?_
  refine Ev.old 2 (v := ((G.2.2.2.2.2.1 2).2 (i + 1))) fL_law_807 (by decide) ⟨by omega, by omega, by omega⟩ rfl ?_
  refine Ev.aload_n_3 fL_law_808 rfl ?_
  refine Ev.iload fL_law_809 rfl ?_
  refine Ev.iconst fL_law_811 ?_
  refine Ev.iadd fL_law_812 ?_
  refine Ev.old 2 (v := ((G.2.2.2.2.2.1 2).2 (i + 2))) fL_law_813 (by decide) ⟨by omega, by omega, by omega⟩ rfl ?_
  refine Ev.aload_n_3 fL_law_814 rfl ?_
  refine Ev.iload fL_law_815 rfl ?_
  refine Ev.iconst fL_law_817 ?_
  refine Ev.iadd fL_law_818 ?_
  refine Ev.old 2 (v := ((G.2.2.2.2.2.1 2).2 (i + 3))) fL_law_819 (by decide) ⟨by omega, by omega, by omega⟩ rfl ?_
  refine Ev.cVi 24 [(0, ((G.2.2.2.2.2.1 2).2 (i + 1))), (0, ((G.2.2.2.2.2.1 2).2 (i + 2))), (0, ((G.2.2.2.2.2.1 2).2 (i + 3)))] [] fL_law_820 lkL_law_169 8 TX8 22 rfl rfl rfl E2 ?_
  refine Ev.sistore [(3, 2), (1, 0), (1, 24), (1, 34), (1, 35), (0, i), (0, k), (0, v), (9, 0), (9, 0)] fL_law_823 rfl rfl ?_
  refine Ev.aload_n_1 fL_law_825 rfl ?_
  refine Ev.cVi 24 [] [] fL_law_826 lkL_law_140 8 TX8 22 rfl rfl rfl Et ?_
  refine Ev.iload fL_law_829 rfl ?_
  refine Ev.icmp_eq fL_law_831 rfl ⟨by omega, by omega⟩ ⟨by omega, by omega⟩ (fun _ => ?_) (fun h => absurd rfl h)
  refine Ev.iload fL_law_836 rfl ?_
  refine Ev.if_ne fL_law_838 rfl ⟨by omega, by omega⟩ (fun h9 => ?_) (fun h9 => ?_)
  · refine Ev.goto fL_law_853 rfl ?_
    refine Ev.fg 6 [(3, 2), (1, 0), (1, 24), (1, 34), (1, 35), (0, i), (9, 0), (0, v), (9, 0), (9, 0)] rfl ?_
    refine Ev.fg 7 [(3, 2), (1, 0), (1, 24), (1, 34), (1, 35), (0, i), (9, 0), (9, 0), (9, 0), (9, 0)] rfl ?_
    exact EN
  · have e9 := hv h9
    subst e9
    have ho := hout h9
    refine Ev.aload_n_1 fL_law_841 rfl ?_
    refine Ev.iconst fL_law_842 ?_
    refine Ev.lld fL_law_843 ho ?_
    refine Ev.iload fL_law_844 rfl ?_
    refine Ev.i2l fL_law_846 hvr ?_
    refine Ev.lcmp fL_law_847 hvr hvr ?_
    rw [if_neg (Int.lt_irrefl _), if_pos rfl]
    refine Ev.if_eq fL_law_848 rfl (by decide) (fun _ => ?_) (fun h => absurd rfl h)
    refine Ev.goto fL_law_853 rfl ?_
    refine Ev.fg 6 [(3, 2), (1, 0), (1, 24), (1, 34), (1, 35), (0, i), (9, 0), (0, v), (9, 0), (9, 0)] rfl ?_
    refine Ev.fg 7 [(3, 2), (1, 0), (1, 24), (1, 34), (1, 35), (0, i), (9, 0), (9, 0), (9, 0), (9, 0)] rfl ?_
    exact EN
theorem c_most {G : zG} {ia : Nat → Int → Int} {i : Int} {n : Nat} (J : zJL G mL_most [(1, 0), (0, ((G.2.2.2.2.2.1 2).2 (i + 1))), (0, ((G.2.2.2.2.2.1 2).2 (i + 2))), (0, ((G.2.2.2.2.2.1 2).2 (i + 3))), (1, 34), (9, 0)] mX8_most [(1, 24), (0, ((G.2.2.2.2.2.1 2).2 (i + 1))), (0, ((G.2.2.2.2.2.1 2).2 (i + 2))), (0, ((G.2.2.2.2.2.1 2).2 (i + 3))), (9, 0), (9, 0)] (fun r => r) ia) (hi : 0 ≤ i ∧ i + 5 ≤ (((G.2.2.2.2.2.1 2).1 : Nat) : Int)) (hL : (G.2.2.2.2.2.1 2).1 ≤ 2560) (N : zNext G i n) : zCase G 856 i (n + 1) ia := by
  intro w
  obtain ⟨ia1, w1, k, r, ce1, hk, hr, hce, E1, hout, hm⟩ := J w
  obtain ⟨ib1, v, E2, hv, hvr, hcode, Q2⟩ := hm w1
  obtain ⟨h2, ce2, hc2, EN⟩ := N ib1 Q2 w1
  have Et : Ev G mX8_thrown 0 [(1, 24)] [] (zH ib1 w1) (.inl (some (0, k)), zH ib1 w1, 0, 0) := by
    have h := eX8_thrown (G := G) (ia := ib1) (w := w1)
    rw [hcode] at h
    exact h
  refine ⟨h2, ce1 + ce2, by omega, ?_⟩
  refine Ev.aload_n_1 fL_law_856 rfl ?_
  refine Ev.aload_n_3 fL_law_857 rfl ?_
  refine Ev.iload fL_law_858 rfl ?_
  refine Ev.iconst fL_law_860 ?_
  refine Ev.iadd fL_law_861 ?_
  refine Ev.old 2 (v := ((G.2.2.2.2.2.1 2).2 (i + 1))) fL_law_862 (by decide) ⟨by omega, by omega, by omega⟩ rfl ?_
  refine Ev.aload_n_3 fL_law_863 rfl ?_
  refine Ev.iload fL_law_864 rfl ?_
  refine Ev.iconst fL_law_866 ?_
  refine Ev.iadd fL_law_867 ?_
  refine Ev.old 2 (v := ((G.2.2.2.2.2.1 2).2 (i + 2))) fL_law_868 (by decide) ⟨by omega, by omega, by omega⟩ rfl ?_
  refine Ev.aload_n_3 fL_law_869 rfl ?_
  refine Ev.iload fL_law_870 rfl ?_
  refine Ev.iconst fL_law_872 ?_
  refine Ev.iadd fL_law_873 ?_
  refine Ev.old 2 (v := ((G.2.2.2.2.2.1 2).2 (i + 3))) fL_law_874 (by decide) ⟨by omega, by omega, by omega⟩ rfl ?_
  refine Ev.aload_n_1 fL_law_875 rfl ?_
  refine Ev.cHl (ce2 := ce2) (sl2 := 6 * ce2) [(1, 0), (0, ((G.2.2.2.2.2.1 2).2 (i + 1))), (0, ((G.2.2.2.2.2.1 2).2 (i + 2))), (0, ((G.2.2.2.2.2.1 2).2 (i + 3))), (1, 34)] [] fL_law_876 lkL_law_170 rfl rfl (by omega) E1 ?_
  refine Ev.sistore [(3, 2), (1, 0), (1, 24), (1, 34), (1, 35), (0, i), (0, k), (9, 0), (9, 0), (9, 0)] fL_law_879 rfl rfl ?_
  refine Ev.aload_n_1 fL_law_881 rfl ?_
  refine Ev.aload_n_3 fL_law_882 rfl ?_
  refine Ev.iload fL_law_883 rfl ?_
  refine Ev.iconst fL_law_885 ?_
  refine Ev.iadd fL_law_886 ?_
  refine Ev.old 2 (v := ((G.2.2.2.2.2.1 2).2 (i + 1))) fL_law_887 (by decide) ⟨by omega, by omega, by omega⟩ rfl ?_
  refine Ev.aload_n_3 fL_law_888 rfl ?_
  refine Ev.iload fL_law_889 rfl ?_
  refine Ev.iconst fL_law_891 ?_
  refine Ev.iadd fL_law_892 ?_
  refine Ev.old 2 (v := ((G.2.2.2.2.2.1 2).2 (i + 2))) fL_law_893 (by decide) ⟨by omega, by omega, by omega⟩ rfl ?_
  refine Ev.aload_n_3 fL_law_894 rfl ?_
  refine Ev.iload fL_law_895 rfl ?_
  refine Ev.iconst fL_law_897 ?_
  refine Ev.iadd fL_law_898 ?_
  refine Ev.old 2 (v := ((G.2.2.2.2.2.1 2).2 (i + 3))) fL_law_899 (by decide) ⟨by omega, by omega, by omega⟩ rfl ?_
  refine Ev.cVi 24 [(0, ((G.2.2.2.2.2.1 2).2 (i + 1))), (0, ((G.2.2.2.2.2.1 2).2 (i + 2))), (0, ((G.2.2.2.2.2.1 2).2 (i + 3)))] [] fL_law_900 lkL_law_172 8 TX8 22 rfl rfl rfl E2 ?_
  refine Ev.sistore [(3, 2), (1, 0), (1, 24), (1, 34), (1, 35), (0, i), (0, k), (0, v), (9, 0), (9, 0)] fL_law_903 rfl rfl ?_
  refine Ev.aload_n_1 fL_law_905 rfl ?_
  refine Ev.cVi 24 [] [] fL_law_906 lkL_law_140 8 TX8 22 rfl rfl rfl Et ?_
  refine Ev.iload fL_law_909 rfl ?_
  refine Ev.icmp_eq fL_law_911 rfl ⟨by omega, by omega⟩ ⟨by omega, by omega⟩ (fun _ => ?_) (fun h => absurd rfl h)
  refine Ev.iload fL_law_916 rfl ?_
  refine Ev.if_ne fL_law_918 rfl ⟨by omega, by omega⟩ (fun h9 => ?_) (fun h9 => ?_)
  · refine Ev.goto fL_law_933 rfl ?_
    refine Ev.fg 6 [(3, 2), (1, 0), (1, 24), (1, 34), (1, 35), (0, i), (9, 0), (0, v), (9, 0), (9, 0)] rfl ?_
    refine Ev.fg 7 [(3, 2), (1, 0), (1, 24), (1, 34), (1, 35), (0, i), (9, 0), (9, 0), (9, 0), (9, 0)] rfl ?_
    exact EN
  · have e9 := hv h9
    subst e9
    have ho := hout h9
    refine Ev.aload_n_1 fL_law_921 rfl ?_
    refine Ev.iconst fL_law_922 ?_
    refine Ev.lld fL_law_923 ho ?_
    refine Ev.iload fL_law_924 rfl ?_
    refine Ev.i2l fL_law_926 hvr ?_
    refine Ev.lcmp fL_law_927 hvr hvr ?_
    rw [if_neg (Int.lt_irrefl _), if_pos rfl]
    refine Ev.if_eq fL_law_928 rfl (by decide) (fun _ => ?_) (fun h => absurd rfl h)
    refine Ev.goto fL_law_933 rfl ?_
    refine Ev.fg 6 [(3, 2), (1, 0), (1, 24), (1, 34), (1, 35), (0, i), (9, 0), (0, v), (9, 0), (9, 0)] rfl ?_
    refine Ev.fg 7 [(3, 2), (1, 0), (1, 24), (1, 34), (1, 35), (0, i), (9, 0), (9, 0), (9, 0), (9, 0)] rfl ?_
    exact EN
theorem c_reached {G : zG} {ia : Nat → Int → Int} {i : Int} {n : Nat} (J : zJL G mL_reached [(1, 0), (0, ((G.2.2.2.2.2.1 2).2 (i + 1))), (0, ((G.2.2.2.2.2.1 2).2 (i + 2))), (1, 34), (9, 0)] mX8_reached [(1, 24), (0, ((G.2.2.2.2.2.1 2).2 (i + 1))), (0, ((G.2.2.2.2.2.1 2).2 (i + 2))), (9, 0)] (fun r => r) ia) (hi : 0 ≤ i ∧ i + 5 ≤ (((G.2.2.2.2.2.1 2).1 : Nat) : Int)) (hL : (G.2.2.2.2.2.1 2).1 ≤ 2560) (N : zNext G i n) : zCase G 936 i (n + 1) ia := by
  intro w
  obtain ⟨ia1, w1, k, r, ce1, hk, hr, hce, E1, hout, hm⟩ := J w
  obtain ⟨ib1, v, E2, hv, hvr, hcode, Q2⟩ := hm w1
  obtain ⟨h2, ce2, hc2, EN⟩ := N ib1 Q2 w1
  have Et : Ev G mX8_thrown 0 [(1, 24)] [] (zH ib1 w1) (.inl (some (0, k)), zH ib1 w1, 0, 0) := by
    have h := eX8_thrown (G := G) (ia := ib1) (w := w1)
    rw [hcode] at h
    exact h
  refine ⟨h2, ce1 + ce2, by omega, ?_⟩
  refine Ev.aload_n_1 fL_law_936 rfl ?_
  refine Ev.aload_n_3 fL_law_937 rfl ?_
  refine Ev.iload fL_law_938 rfl ?_
  refine Ev.iconst fL_law_940 ?_
  refine Ev.iadd fL_law_941 ?_
  refine Ev.old 2 (v := ((G.2.2.2.2.2.1 2).2 (i + 1))) fL_law_942 (by decide) ⟨by omega, by omega, by omega⟩ rfl ?_
  refine Ev.aload_n_3 fL_law_943 rfl ?_
  refine Ev.iload fL_law_944 rfl ?_
  refine Ev.iconst fL_law_946 ?_
  refine Ev.iadd fL_law_947 ?_
  refine Ev.old 2 (v := ((G.2.2.2.2.2.1 2).2 (i + 2))) fL_law_948 (by decide) ⟨by omega, by omega, by omega⟩ rfl ?_
  refine Ev.aload_n_1 fL_law_949 rfl ?_
  refine Ev.cHl (ce2 := ce2) (sl2 := 6 * ce2) [(1, 0), (0, ((G.2.2.2.2.2.1 2).2 (i + 1))), (0, ((G.2.2.2.2.2.1 2).2 (i + 2))), (1, 34)] [] fL_law_950 lkL_law_173 rfl rfl (by omega) E1 ?_
  refine Ev.sistore [(3, 2), (1, 0), (1, 24), (1, 34), (1, 35), (0, i), (0, k), (9, 0), (9, 0), (9, 0)] fL_law_953 rfl rfl ?_
  refine Ev.aload_n_1 fL_law_955 rfl ?_
  refine Ev.aload_n_3 fL_law_956 rfl ?_
  refine Ev.iload fL_law_957 rfl ?_
  refine Ev.iconst fL_law_959 ?_
  refine Ev.iadd fL_law_960 ?_
  refine Ev.old 2 (v := ((G.2.2.2.2.2.1 2).2 (i + 1))) fL_law_961 (by decide) ⟨by omega, by omega, by omega⟩ rfl ?_
  refine Ev.aload_n_3 fL_law_962 rfl ?_
  refine Ev.iload fL_law_963 rfl ?_
  refine Ev.iconst fL_law_965 ?_
  refine Ev.iadd fL_law_966 ?_
  refine Ev.old 2 (v := ((G.2.2.2.2.2.1 2).2 (i + 2))) fL_law_967 (by decide) ⟨by omega, by omega, by omega⟩ rfl ?_
  refine Ev.cVi 24 [(0, ((G.2.2.2.2.2.1 2).2 (i + 1))), (0, ((G.2.2.2.2.2.1 2).2 (i + 2)))] [] fL_law_968 lkL_law_175 8 TX8 22 rfl rfl rfl E2 ?_
  refine Ev.sistore [(3, 2), (1, 0), (1, 24), (1, 34), (1, 35), (0, i), (0, k), (0, v), (9, 0), (9, 0)] fL_law_971 rfl rfl ?_
  refine Ev.aload_n_1 fL_law_973 rfl ?_
  refine Ev.cVi 24 [] [] fL_law_974 lkL_law_140 8 TX8 22 rfl rfl rfl Et ?_
  refine Ev.iload fL_law_977 rfl ?_
  refine Ev.icmp_eq fL_law_979 rfl ⟨by omega, by omega⟩ ⟨by omega, by omega⟩ (fun _ => ?_) (fun h => absurd rfl h)
  refine Ev.iload fL_law_984 rfl ?_
  refine Ev.if_ne fL_law_986 rfl ⟨by omega, by omega⟩ (fun h9 => ?_) (fun h9 => ?_)
  · refine Ev.goto fL_law_1001 rfl ?_
    refine Ev.fg 6 [(3, 2), (1, 0), (1, 24), (1, 34), (1, 35), (0, i), (9, 0), (0, v), (9, 0), (9, 0)] rfl ?_
    refine Ev.fg 7 [(3, 2), (1, 0), (1, 24), (1, 34), (1, 35), (0, i), (9, 0), (9, 0), (9, 0), (9, 0)] rfl ?_
    exact EN
  · have e9 := hv h9
    subst e9
    have ho := hout h9
    refine Ev.aload_n_1 fL_law_989 rfl ?_
    refine Ev.iconst fL_law_990 ?_
    refine Ev.lld fL_law_991 ho ?_
    refine Ev.iload fL_law_992 rfl ?_
    refine Ev.i2l fL_law_994 hvr ?_
    refine Ev.lcmp fL_law_995 hvr hvr ?_
    rw [if_neg (Int.lt_irrefl _), if_pos rfl]
    refine Ev.if_eq fL_law_996 rfl (by decide) (fun _ => ?_) (fun h => absurd rfl h)
    refine Ev.goto fL_law_1001 rfl ?_
    refine Ev.fg 6 [(3, 2), (1, 0), (1, 24), (1, 34), (1, 35), (0, i), (9, 0), (0, v), (9, 0), (9, 0)] rfl ?_
    refine Ev.fg 7 [(3, 2), (1, 0), (1, 24), (1, 34), (1, 35), (0, i), (9, 0), (9, 0), (9, 0), (9, 0)] rfl ?_
    exact EN
theorem c_versionOf {G : zG} {ia : Nat → Int → Int} {i : Int} {n : Nat} (J : zJL G mL_versionOf [(1, 0), (0, ((G.2.2.2.2.2.1 2).2 (i + 1))), (0, ((G.2.2.2.2.2.1 2).2 (i + 2))), (1, 34), (9, 0)] mX8_versionOf [(1, 24), (0, ((G.2.2.2.2.2.1 2).2 (i + 1))), (0, ((G.2.2.2.2.2.1 2).2 (i + 2)))] (fun r => r) ia) (hi : 0 ≤ i ∧ i + 5 ≤ (((G.2.2.2.2.2.1 2).1 : Nat) : Int)) (hL : (G.2.2.2.2.2.1 2).1 ≤ 2560) (N : zNext G i n) : zCase G 1004 i (n + 1) ia := by
  intro w
  obtain ⟨ia1, w1, k, r, ce1, hk, hr, hce, E1, hout, hm⟩ := J w
  obtain ⟨ib1, v, E2, hv, hvr, hcode, Q2⟩ := hm w1
  obtain ⟨h2, ce2, hc2, EN⟩ := N ib1 Q2 w1
  have Et : Ev G mX8_thrown 0 [(1, 24)] [] (zH ib1 w1) (.inl (some (0, k)), zH ib1 w1, 0, 0) := by
    have h := eX8_thrown (G := G) (ia := ib1) (w := w1)
    rw [hcode] at h
    exact h
  refine ⟨h2, ce1 + ce2, by omega, ?_⟩
  refine Ev.aload_n_1 fL_law_1004 rfl ?_
  refine Ev.aload_n_3 fL_law_1005 rfl ?_
  refine Ev.iload fL_law_1006 rfl ?_
  refine Ev.iconst fL_law_1008 ?_
  refine Ev.iadd fL_law_1009 ?_
  refine Ev.old 2 (v := ((G.2.2.2.2.2.1 2).2 (i + 1))) fL_law_1010 (by decide) ⟨by omega, by omega, by omega⟩ rfl ?_
  refine Ev.aload_n_3 fL_law_1011 rfl ?_
  refine Ev.iload fL_law_1012 rfl ?_
  refine Ev.iconst fL_law_1014 ?_
  refine Ev.iadd fL_law_1015 ?_
  refine Ev.old 2 (v := ((G.2.2.2.2.2.1 2).2 (i + 2))) fL_law_1016 (by decide) ⟨by omega, by omega, by omega⟩ rfl ?_
  refine Ev.aload_n_1 fL_law_1017 rfl ?_
  refine Ev.cHl (ce2 := ce2) (sl2 := 6 * ce2) [(1, 0), (0, ((G.2.2.2.2.2.1 2).2 (i + 1))), (0, ((G.2.2.2.2.2.1 2).2 (i + 2))), (1, 34)] [] fL_law_1018 lkL_law_176 rfl rfl (by omega) E1 ?_
  refine Ev.sistore [(3, 2), (1, 0), (1, 24), (1, 34), (1, 35), (0, i), (0, k), (9, 0), (9, 0), (9, 0)] fL_law_1021 rfl rfl ?_
  refine Ev.aload_n_1 fL_law_1023 rfl ?_
  refine Ev.aload_n_3 fL_law_1024 rfl ?_
  refine Ev.iload fL_law_1025 rfl ?_
  refine Ev.iconst fL_law_1027 ?_
  refine Ev.iadd fL_law_1028 ?_
  refine Ev.old 2 (v := ((G.2.2.2.2.2.1 2).2 (i + 1))) fL_law_1029 (by decide) ⟨by omega, by omega, by omega⟩ rfl ?_
  refine Ev.aload_n_3 fL_law_1030 rfl ?_
  refine Ev.iload fL_law_1031 rfl ?_
  refine Ev.iconst fL_law_1033 ?_
  refine Ev.iadd fL_law_1034 ?_
  refine Ev.old 2 (v := ((G.2.2.2.2.2.1 2).2 (i + 2))) fL_law_1035 (by decide) ⟨by omega, by omega, by omega⟩ rfl ?_
  refine Ev.cVi 24 [(0, ((G.2.2.2.2.2.1 2).2 (i + 1))), (0, ((G.2.2.2.2.2.1 2).2 (i + 2)))] [] fL_law_1036 lkL_law_178 8 TX8 22 rfl rfl rfl E2 ?_
  refine Ev.sistore [(3, 2), (1, 0), (1, 24), (1, 34), (1, 35), (0, i), (0, k), (0, v), (9, 0), (9, 0)] fL_law_1039 rfl rfl ?_
  refine Ev.aload_n_1 fL_law_1041 rfl ?_
  refine Ev.cVi 24 [] [] fL_law_1042 lkL_law_140 8 TX8 22 rfl rfl rfl Et ?_
  refine Ev.iload fL_law_1045 rfl ?_
  refine Ev.icmp_eq fL_law_1047 rfl ⟨by omega, by omega⟩ ⟨by omega, by omega⟩ (fun _ => ?_) (fun h => absurd rfl h)
  refine Ev.iload fL_law_1052 rfl ?_
  refine Ev.if_ne fL_law_1054 rfl ⟨by omega, by omega⟩ (fun h9 => ?_) (fun h9 => ?_)
  · refine Ev.goto fL_law_1069 rfl ?_
    refine Ev.fg 6 [(3, 2), (1, 0), (1, 24), (1, 34), (1, 35), (0, i), (9, 0), (0, v), (9, 0), (9, 0)] rfl ?_
    refine Ev.fg 7 [(3, 2), (1, 0), (1, 24), (1, 34), (1, 35), (0, i), (9, 0), (9, 0), (9, 0), (9, 0)] rfl ?_
    exact EN
  · have e9 := hv h9
    subst e9
    have ho := hout h9
    refine Ev.aload_n_1 fL_law_1057 rfl ?_
    refine Ev.iconst fL_law_1058 ?_
    refine Ev.lld fL_law_1059 ho ?_
    refine Ev.iload fL_law_1060 rfl ?_
    refine Ev.i2l fL_law_1062 hvr ?_
    refine Ev.lcmp fL_law_1063 hvr hvr ?_
    rw [if_neg (Int.lt_irrefl _), if_pos rfl]
    refine Ev.if_eq fL_law_1064 rfl (by decide) (fun _ => ?_) (fun h => absurd rfl h)
    refine Ev.goto fL_law_1069 rfl ?_
    refine Ev.fg 6 [(3, 2), (1, 0), (1, 24), (1, 34), (1, 35), (0, i), (9, 0), (0, v), (9, 0), (9, 0)] rfl ?_
    refine Ev.fg 7 [(3, 2), (1, 0), (1, 24), (1, 34), (1, 35), (0, i), (9, 0), (9, 0), (9, 0), (9, 0)] rfl ?_
    exact EN
theorem c_maker {G : zG} {ia : Nat → Int → Int} {i : Int} {n : Nat} (J : zJL G mL_maker [(1, 0), (0, ((G.2.2.2.2.2.1 2).2 (i + 1))), (0, ((G.2.2.2.2.2.1 2).2 (i + 2))), (1, 34), (9, 0)] mX8_maker [(1, 24), (0, ((G.2.2.2.2.2.1 2).2 (i + 1))), (0, ((G.2.2.2.2.2.1 2).2 (i + 2)))] (fun r => r) ia) (hi : 0 ≤ i ∧ i + 5 ≤ (((G.2.2.2.2.2.1 2).1 : Nat) : Int)) (hL : (G.2.2.2.2.2.1 2).1 ≤ 2560) (N : zNext G i n) : zCase G 1072 i (n + 1) ia := by
  intro w
  obtain ⟨ia1, w1, k, r, ce1, hk, hr, hce, E1, hout, hm⟩ := J w
  obtain ⟨ib1, v, E2, hv, hvr, hcode, Q2⟩ := hm w1
  obtain ⟨h2, ce2, hc2, EN⟩ := N ib1 Q2 w1
  have Et : Ev G mX8_thrown 0 [(1, 24)] [] (zH ib1 w1) (.inl (some (0, k)), zH ib1 w1, 0, 0) := by
    have h := eX8_thrown (G := G) (ia := ib1) (w := w1)
    rw [hcode] at h
    exact h
  refine ⟨h2, ce1 + ce2, by omega, ?_⟩
  refine Ev.aload_n_1 fL_law_1072 rfl ?_
  refine Ev.aload_n_3 fL_law_1073 rfl ?_
  refine Ev.iload fL_law_1074 rfl ?_
  refine Ev.iconst fL_law_1076 ?_
  refine Ev.iadd fL_law_1077 ?_
  refine Ev.old 2 (v := ((G.2.2.2.2.2.1 2).2 (i + 1))) fL_law_1078 (by decide) ⟨by omega, by omega, by omega⟩ rfl ?_
  refine Ev.aload_n_3 fL_law_1079 rfl ?_
  refine Ev.iload fL_law_1080 rfl ?_
  refine Ev.iconst fL_law_1082 ?_
  refine Ev.iadd fL_law_1083 ?_
  refine Ev.old 2 (v := ((G.2.2.2.2.2.1 2).2 (i + 2))) fL_law_1084 (by decide) ⟨by omega, by omega, by omega⟩ rfl ?_
  refine Ev.aload_n_1 fL_law_1085 rfl ?_
  refine Ev.cHl (ce2 := ce2) (sl2 := 6 * ce2) [(1, 0), (0, ((G.2.2.2.2.2.1 2).2 (i + 1))), (0, ((G.2.2.2.2.2.1 2).2 (i + 2))), (1, 34)] [] fL_law_1086 lkL_law_179 rfl rfl (by omega) E1 ?_
  refine Ev.sistore [(3, 2), (1, 0), (1, 24), (1, 34), (1, 35), (0, i), (0, k), (9, 0), (9, 0), (9, 0)] fL_law_1089 rfl rfl ?_
  refine Ev.aload_n_1 fL_law_1091 rfl ?_
  refine Ev.aload_n_3 fL_law_1092 rfl ?_
  refine Ev.iload fL_law_1093 rfl ?_
  refine Ev.iconst fL_law_1095 ?_
  refine Ev.iadd fL_law_1096 ?_
  refine Ev.old 2 (v := ((G.2.2.2.2.2.1 2).2 (i + 1))) fL_law_1097 (by decide) ⟨by omega, by omega, by omega⟩ rfl ?_
  refine Ev.aload_n_3 fL_law_1098 rfl ?_
  refine Ev.iload fL_law_1099 rfl ?_
  refine Ev.iconst fL_law_1101 ?_
  refine Ev.iadd fL_law_1102 ?_
  refine Ev.old 2 (v := ((G.2.2.2.2.2.1 2).2 (i + 2))) fL_law_1103 (by decide) ⟨by omega, by omega, by omega⟩ rfl ?_
  refine Ev.cVi 24 [(0, ((G.2.2.2.2.2.1 2).2 (i + 1))), (0, ((G.2.2.2.2.2.1 2).2 (i + 2)))] [] fL_law_1104 lkL_law_181 8 TX8 22 rfl rfl rfl E2 ?_
  refine Ev.sistore [(3, 2), (1, 0), (1, 24), (1, 34), (1, 35), (0, i), (0, k), (0, v), (9, 0), (9, 0)] fL_law_1107 rfl rfl ?_
  refine Ev.aload_n_1 fL_law_1109 rfl ?_
  refine Ev.cVi 24 [] [] fL_law_1110 lkL_law_140 8 TX8 22 rfl rfl rfl Et ?_
  refine Ev.iload fL_law_1113 rfl ?_
  refine Ev.icmp_eq fL_law_1115 rfl ⟨by omega, by omega⟩ ⟨by omega, by omega⟩ (fun _ => ?_) (fun h => absurd rfl h)
  refine Ev.iload fL_law_1120 rfl ?_
  refine Ev.if_ne fL_law_1122 rfl ⟨by omega, by omega⟩ (fun h9 => ?_) (fun h9 => ?_)
  · refine Ev.goto fL_law_1137 rfl ?_
    refine Ev.fg 6 [(3, 2), (1, 0), (1, 24), (1, 34), (1, 35), (0, i), (9, 0), (0, v), (9, 0), (9, 0)] rfl ?_
    refine Ev.fg 7 [(3, 2), (1, 0), (1, 24), (1, 34), (1, 35), (0, i), (9, 0), (9, 0), (9, 0), (9, 0)] rfl ?_
    exact EN
  · have e9 := hv h9
    subst e9
    have ho := hout h9
    refine Ev.aload_n_1 fL_law_1125 rfl ?_
    refine Ev.iconst fL_law_1126 ?_
    refine Ev.lld fL_law_1127 ho ?_
    refine Ev.iload fL_law_1128 rfl ?_
    refine Ev.i2l fL_law_1130 hvr ?_
    refine Ev.lcmp fL_law_1131 hvr hvr ?_
    rw [if_neg (Int.lt_irrefl _), if_pos rfl]
    refine Ev.if_eq fL_law_1132 rfl (by decide) (fun _ => ?_) (fun h => absurd rfl h)
    refine Ev.goto fL_law_1137 rfl ?_
    refine Ev.fg 6 [(3, 2), (1, 0), (1, 24), (1, 34), (1, 35), (0, i), (9, 0), (0, v), (9, 0), (9, 0)] rfl ?_
    refine Ev.fg 7 [(3, 2), (1, 0), (1, 24), (1, 34), (1, 35), (0, i), (9, 0), (9, 0), (9, 0), (9, 0)] rfl ?_
    exact EN
theorem c_had {G : zG} {ia : Nat → Int → Int} {i : Int} {n : Nat} (J : zJL G mL_had [(1, 0), (0, ((G.2.2.2.2.2.1 2).2 (i + 1))), (0, ((G.2.2.2.2.2.1 2).2 (i + 2))), (1, 34), (9, 0)] mX8_had [(1, 24), (0, ((G.2.2.2.2.2.1 2).2 (i + 1))), (0, ((G.2.2.2.2.2.1 2).2 (i + 2))), (9, 0)] (fun r => r) ia) (hi : 0 ≤ i ∧ i + 5 ≤ (((G.2.2.2.2.2.1 2).1 : Nat) : Int)) (hL : (G.2.2.2.2.2.1 2).1 ≤ 2560) (N : zNext G i n) : zCase G 1140 i (n + 1) ia := by
  intro w
  obtain ⟨ia1, w1, k, r, ce1, hk, hr, hce, E1, hout, hm⟩ := J w
  obtain ⟨ib1, v, E2, hv, hvr, hcode, Q2⟩ := hm w1
  obtain ⟨h2, ce2, hc2, EN⟩ := N ib1 Q2 w1
  have Et : Ev G mX8_thrown 0 [(1, 24)] [] (zH ib1 w1) (.inl (some (0, k)), zH ib1 w1, 0, 0) := by
    have h := eX8_thrown (G := G) (ia := ib1) (w := w1)
    rw [hcode] at h
    exact h
  refine ⟨h2, ce1 + ce2, by omega, ?_⟩
  refine Ev.aload_n_1 fL_law_1140 rfl ?_
  refine Ev.aload_n_3 fL_law_1141 rfl ?_
  refine Ev.iload fL_law_1142 rfl ?_
  refine Ev.iconst fL_law_1144 ?_
  refine Ev.iadd fL_law_1145 ?_
  refine Ev.old 2 (v := ((G.2.2.2.2.2.1 2).2 (i + 1))) fL_law_1146 (by decide) ⟨by omega, by omega, by omega⟩ rfl ?_
  refine Ev.aload_n_3 fL_law_1147 rfl ?_
  refine Ev.iload fL_law_1148 rfl ?_
  refine Ev.iconst fL_law_1150 ?_
  refine Ev.iadd fL_law_1151 ?_
  refine Ev.old 2 (v := ((G.2.2.2.2.2.1 2).2 (i + 2))) fL_law_1152 (by decide) ⟨by omega, by omega, by omega⟩ rfl ?_
  refine Ev.aload_n_1 fL_law_1153 rfl ?_
  refine Ev.cHl (ce2 := ce2) (sl2 := 6 * ce2) [(1, 0), (0, ((G.2.2.2.2.2.1 2).2 (i + 1))), (0, ((G.2.2.2.2.2.1 2).2 (i + 2))), (1, 34)] [] fL_law_1154 lkL_law_182 rfl rfl (by omega) E1 ?_
  refine Ev.sistore [(3, 2), (1, 0), (1, 24), (1, 34), (1, 35), (0, i), (0, k), (9, 0), (9, 0), (9, 0)] fL_law_1157 rfl rfl ?_
  refine Ev.aload_n_1 fL_law_1159 rfl ?_
  refine Ev.aload_n_3 fL_law_1160 rfl ?_
  refine Ev.iload fL_law_1161 rfl ?_
  refine Ev.iconst fL_law_1163 ?_
  refine Ev.iadd fL_law_1164 ?_
  refine Ev.old 2 (v := ((G.2.2.2.2.2.1 2).2 (i + 1))) fL_law_1165 (by decide) ⟨by omega, by omega, by omega⟩ rfl ?_
  refine Ev.aload_n_3 fL_law_1166 rfl ?_
  refine Ev.iload fL_law_1167 rfl ?_
  refine Ev.iconst fL_law_1169 ?_
  refine Ev.iadd fL_law_1170 ?_
  refine Ev.old 2 (v := ((G.2.2.2.2.2.1 2).2 (i + 2))) fL_law_1171 (by decide) ⟨by omega, by omega, by omega⟩ rfl ?_
  refine Ev.cVi 24 [(0, ((G.2.2.2.2.2.1 2).2 (i + 1))), (0, ((G.2.2.2.2.2.1 2).2 (i + 2)))] [] fL_law_1172 lkL_law_184 8 TX8 22 rfl rfl rfl E2 ?_
  refine Ev.sistore [(3, 2), (1, 0), (1, 24), (1, 34), (1, 35), (0, i), (0, k), (0, v), (9, 0), (9, 0)] fL_law_1175 rfl rfl ?_
  refine Ev.aload_n_1 fL_law_1177 rfl ?_
  refine Ev.cVi 24 [] [] fL_law_1178 lkL_law_140 8 TX8 22 rfl rfl rfl Et ?_
  refine Ev.iload fL_law_1181 rfl ?_
  refine Ev.icmp_eq fL_law_1183 rfl ⟨by omega, by omega⟩ ⟨by omega, by omega⟩ (fun _ => ?_) (fun h => absurd rfl h)
  refine Ev.iload fL_law_1188 rfl ?_
  refine Ev.if_ne fL_law_1190 rfl ⟨by omega, by omega⟩ (fun h9 => ?_) (fun h9 => ?_)
  · refine Ev.goto fL_law_1205 rfl ?_
    refine Ev.fg 6 [(3, 2), (1, 0), (1, 24), (1, 34), (1, 35), (0, i), (9, 0), (0, v), (9, 0), (9, 0)] rfl ?_
    refine Ev.fg 7 [(3, 2), (1, 0), (1, 24), (1, 34), (1, 35), (0, i), (9, 0), (9, 0), (9, 0), (9, 0)] rfl ?_
    exact EN
  · have e9 := hv h9
    subst e9
    have ho := hout h9
    refine Ev.aload_n_1 fL_law_1193 rfl ?_
    refine Ev.iconst fL_law_1194 ?_
    refine Ev.lld fL_law_1195 ho ?_
    refine Ev.iload fL_law_1196 rfl ?_
    refine Ev.i2l fL_law_1198 hvr ?_
    refine Ev.lcmp fL_law_1199 hvr hvr ?_
    rw [if_neg (Int.lt_irrefl _), if_pos rfl]
    refine Ev.if_eq fL_law_1200 rfl (by decide) (fun _ => ?_) (fun h => absurd rfl h)
    refine Ev.goto fL_law_1205 rfl ?_
    refine Ev.fg 6 [(3, 2), (1, 0), (1, 24), (1, 34), (1, 35), (0, i), (9, 0), (0, v), (9, 0), (9, 0)] rfl ?_
    refine Ev.fg 7 [(3, 2), (1, 0), (1, 24), (1, 34), (1, 35), (0, i), (9, 0), (9, 0), (9, 0), (9, 0)] rfl ?_
    exact EN
theorem c_since {G : zG} {ia : Nat → Int → Int} {i : Int} {n : Nat} (J : zJL G mL_since [(1, 0), (0, ((G.2.2.2.2.2.1 2).2 (i + 1))), (0, ((G.2.2.2.2.2.1 2).2 (i + 2))), (1, 34), (9, 0)] mX8_since [(1, 24), (0, ((G.2.2.2.2.2.1 2).2 (i + 1))), (0, ((G.2.2.2.2.2.1 2).2 (i + 2))), (9, 0)] (fun r => r) ia) (hi : 0 ≤ i ∧ i + 5 ≤ (((G.2.2.2.2.2.1 2).1 : Nat) : Int)) (hL : (G.2.2.2.2.2.1 2).1 ≤ 2560) (N : zNext G i n) : zCase G 1208 i (n + 1) ia := by
  intro w
  obtain ⟨ia1, w1, k, r, ce1, hk, hr, hce, E1, hout, hm⟩ := J w
  obtain ⟨ib1, v, E2, hv, hvr, hcode, Q2⟩ := hm w1
  obtain ⟨h2, ce2, hc2, EN⟩ := N ib1 Q2 w1
  have Et : Ev G mX8_thrown 0 [(1, 24)] [] (zH ib1 w1) (.inl (some (0, k)), zH ib1 w1, 0, 0) := by
    have h := eX8_thrown (G := G) (ia := ib1) (w := w1)
    rw [hcode] at h
    exact h
  refine ⟨h2, ce1 + ce2, by omega, ?_⟩
  refine Ev.aload_n_1 fL_law_1208 rfl ?_
  refine Ev.aload_n_3 fL_law_1209 rfl ?_
  refine Ev.iload fL_law_1210 rfl ?_
  refine Ev.iconst fL_law_1212 ?_
  refine Ev.iadd fL_law_1213 ?_
  refine Ev.old 2 (v := ((G.2.2.2.2.2.1 2).2 (i + 1))) fL_law_1214 (by decide) ⟨by omega, by omega, by omega⟩ rfl ?_
  refine Ev.aload_n_3 fL_law_1215 rfl ?_
  refine Ev.iload fL_law_1216 rfl ?_
  refine Ev.iconst fL_law_1218 ?_
  refine Ev.iadd fL_law_1219 ?_
  refine Ev.old 2 (v := ((G.2.2.2.2.2.1 2).2 (i + 2))) fL_law_1220 (by decide) ⟨by omega, by omega, by omega⟩ rfl ?_
  refine Ev.aload_n_1 fL_law_1221 rfl ?_
  refine Ev.cHl (ce2 := ce2) (sl2 := 6 * ce2) [(1, 0), (0, ((G.2.2.2.2.2.1 2).2 (i + 1))), (0, ((G.2.2.2.2.2.1 2).2 (i + 2))), (1, 34)] [] fL_law_1222 lkL_law_185 rfl rfl (by omega) E1 ?_
  refine Ev.sistore [(3, 2), (1, 0), (1, 24), (1, 34), (1, 35), (0, i), (0, k), (9, 0), (9, 0), (9, 0)] fL_law_1225 rfl rfl ?_
  refine Ev.aload_n_1 fL_law_1227 rfl ?_
  refine Ev.aload_n_3 fL_law_1228 rfl ?_
  refine Ev.iload fL_law_1229 rfl ?_
  refine Ev.iconst fL_law_1231 ?_
  refine Ev.iadd fL_law_1232 ?_
  refine Ev.old 2 (v := ((G.2.2.2.2.2.1 2).2 (i + 1))) fL_law_1233 (by decide) ⟨by omega, by omega, by omega⟩ rfl ?_
  refine Ev.aload_n_3 fL_law_1234 rfl ?_
  refine Ev.iload fL_law_1235 rfl ?_
  refine Ev.iconst fL_law_1237 ?_
  refine Ev.iadd fL_law_1238 ?_
  refine Ev.old 2 (v := ((G.2.2.2.2.2.1 2).2 (i + 2))) fL_law_1239 (by decide) ⟨by omega, by omega, by omega⟩ rfl ?_
  refine Ev.cVi 24 [(0, ((G.2.2.2.2.2.1 2).2 (i + 1))), (0, ((G.2.2.2.2.2.1 2).2 (i + 2)))] [] fL_law_1240 lkL_law_187 8 TX8 22 rfl rfl rfl E2 ?_
  refine Ev.sistore [(3, 2), (1, 0), (1, 24), (1, 34), (1, 35), (0, i), (0, k), (0, v), (9, 0), (9, 0)] fL_law_1243 rfl rfl ?_
  refine Ev.aload_n_1 fL_law_1245 rfl ?_
  refine Ev.cVi 24 [] [] fL_law_1246 lkL_law_140 8 TX8 22 rfl rfl rfl Et ?_
  refine Ev.iload fL_law_1249 rfl ?_
  refine Ev.icmp_eq fL_law_1251 rfl ⟨by omega, by omega⟩ ⟨by omega, by omega⟩ (fun _ => ?_) (fun h => absurd rfl h)
  refine Ev.iload fL_law_1256 rfl ?_
  refine Ev.if_ne fL_law_1258 rfl ⟨by omega, by omega⟩ (fun h9 => ?_) (fun h9 => ?_)
  · refine Ev.goto fL_law_1273 rfl ?_
    refine Ev.fg 6 [(3, 2), (1, 0), (1, 24), (1, 34), (1, 35), (0, i), (9, 0), (0, v), (9, 0), (9, 0)] rfl ?_
    refine Ev.fg 7 [(3, 2), (1, 0), (1, 24), (1, 34), (1, 35), (0, i), (9, 0), (9, 0), (9, 0), (9, 0)] rfl ?_
    exact EN
  · have e9 := hv h9
    subst e9
    have ho := hout h9
    refine Ev.aload_n_1 fL_law_1261 rfl ?_
    refine Ev.iconst fL_law_1262 ?_
    refine Ev.lld fL_law_1263 ho ?_
    refine Ev.iload fL_law_1264 rfl ?_
    refine Ev.i2l fL_law_1266 hvr ?_
    refine Ev.lcmp fL_law_1267 hvr hvr ?_
    rw [if_neg (Int.lt_irrefl _), if_pos rfl]
    refine Ev.if_eq fL_law_1268 rfl (by decide) (fun _ => ?_) (fun h => absurd rfl h)
    refine Ev.goto fL_law_1273 rfl ?_
    refine Ev.fg 6 [(3, 2), (1, 0), (1, 24), (1, 34), (1, 35), (0, i), (9, 0), (0, v), (9, 0), (9, 0)] rfl ?_
    refine Ev.fg 7 [(3, 2), (1, 0), (1, 24), (1, 34), (1, 35), (0, i), (9, 0), (9, 0), (9, 0), (9, 0)] rfl ?_
    exact EN
theorem c_common {G : zG} {ia : Nat → Int → Int} {i : Int} {n : Nat} (J : zJL G mL_common [(1, 0), (0, ((G.2.2.2.2.2.1 2).2 (i + 1))), (0, ((G.2.2.2.2.2.1 2).2 (i + 2))), (1, 34), (9, 0)] mX8_common [(1, 24), (0, ((G.2.2.2.2.2.1 2).2 (i + 1))), (0, ((G.2.2.2.2.2.1 2).2 (i + 2))), (9, 0), (9, 0)] (fun r => r) ia) (hi : 0 ≤ i ∧ i + 5 ≤ (((G.2.2.2.2.2.1 2).1 : Nat) : Int)) (hL : (G.2.2.2.2.2.1 2).1 ≤ 2560) (N : zNext G i n) : zCase G 1276 i (n + 1) ia := by
  intro w
  obtain ⟨ia1, w1, k, r, ce1, hk, hr, hce, E1, hout, hm⟩ := J w
  obtain ⟨ib1, v, E2, hv, hvr, hcode, Q2⟩ := hm w1
  obtain ⟨h2, ce2, hc2, EN⟩ := N ib1 Q2 w1
  have Et : Ev G mX8_thrown 0 [(1, 24)] [] (zH ib1 w1) (.inl (some (0, k)), zH ib1 w1, 0, 0) := by
    have h := eX8_thrown (G := G) (ia := ib1) (w := w1)
    rw [hcode] at h
    exact h
  refine ⟨h2, ce1 + ce2, by omega, ?_⟩
  refine Ev.aload_n_1 fL_law_1276 rfl ?_
  refine Ev.aload_n_3 fL_law_1277 rfl ?_
  refine Ev.iload fL_law_1278 rfl ?_
  refine Ev.iconst fL_law_1280 ?_
  refine Ev.iadd fL_law_1281 ?_
  refine Ev.old 2 (v := ((G.2.2.2.2.2.1 2).2 (i + 1))) fL_law_1282 (by decide) ⟨by omega, by omega, by omega⟩ rfl ?_
  refine Ev.aload_n_3 fL_law_1283 rfl ?_
  refine Ev.iload fL_law_1284 rfl ?_
  refine Ev.iconst fL_law_1286 ?_
  refine Ev.iadd fL_law_1287 ?_
  refine Ev.old 2 (v := ((G.2.2.2.2.2.1 2).2 (i + 2))) fL_law_1288 (by decide) ⟨by omega, by omega, by omega⟩ rfl ?_
  refine Ev.aload_n_1 fL_law_1289 rfl ?_
  refine Ev.cHl (ce2 := ce2) (sl2 := 6 * ce2) [(1, 0), (0, ((G.2.2.2.2.2.1 2).2 (i + 1))), (0, ((G.2.2.2.2.2.1 2).2 (i + 2))), (1, 34)] [] fL_law_1290 lkL_law_188 rfl rfl (by omega) E1 ?_
  refine Ev.sistore [(3, 2), (1, 0), (1, 24), (1, 34), (1, 35), (0, i), (0, k), (9, 0), (9, 0), (9, 0)] fL_law_1293 rfl rfl ?_
  refine Ev.aload_n_1 fL_law_1295 rfl ?_
  refine Ev.aload_n_3 fL_law_1296 rfl ?_
  refine Ev.iload fL_law_1297 rfl ?_
  refine Ev.iconst fL_law_1299 ?_
  refine Ev.iadd fL_law_1300 ?_
  refine Ev.old 2 (v := ((G.2.2.2.2.2.1 2).2 (i + 1))) fL_law_1301 (by decide) ⟨by omega, by omega, by omega⟩ rfl ?_
  refine Ev.aload_n_3 fL_law_1302 rfl ?_
  refine Ev.iload fL_law_1303 rfl ?_
  refine Ev.iconst fL_law_1305 ?_
  refine Ev.iadd fL_law_1306 ?_
  refine Ev.old 2 (v := ((G.2.2.2.2.2.1 2).2 (i + 2))) fL_law_1307 (by decide) ⟨by omega, by omega, by omega⟩ rfl ?_
  refine Ev.cVi 24 [(0, ((G.2.2.2.2.2.1 2).2 (i + 1))), (0, ((G.2.2.2.2.2.1 2).2 (i + 2)))] [] fL_law_1308 lkL_law_190 8 TX8 22 rfl rfl rfl E2 ?_
  refine Ev.sistore [(3, 2), (1, 0), (1, 24), (1, 34), (1, 35), (0, i), (0, k), (0, v), (9, 0), (9, 0)] fL_law_1311 rfl rfl ?_
  refine Ev.aload_n_1 fL_law_1313 rfl ?_
  refine Ev.cVi 24 [] [] fL_law_1314 lkL_law_140 8 TX8 22 rfl rfl rfl Et ?_
  refine Ev.iload fL_law_1317 rfl ?_
  refine Ev.icmp_eq fL_law_1319 rfl ⟨by omega, by omega⟩ ⟨by omega, by omega⟩ (fun _ => ?_) (fun h => absurd rfl h)
  refine Ev.iload fL_law_1324 rfl ?_
  refine Ev.if_ne fL_law_1326 rfl ⟨by omega, by omega⟩ (fun h9 => ?_) (fun h9 => ?_)
  · refine Ev.goto fL_law_1341 rfl ?_
    refine Ev.fg 6 [(3, 2), (1, 0), (1, 24), (1, 34), (1, 35), (0, i), (9, 0), (0, v), (9, 0), (9, 0)] rfl ?_
    refine Ev.fg 7 [(3, 2), (1, 0), (1, 24), (1, 34), (1, 35), (0, i), (9, 0), (9, 0), (9, 0), (9, 0)] rfl ?_
    exact EN
  · have e9 := hv h9
    subst e9
    have ho := hout h9
    refine Ev.aload_n_1 fL_law_1329 rfl ?_
    refine Ev.iconst fL_law_1330 ?_
    refine Ev.lld fL_law_1331 ho ?_
    refine Ev.iload fL_law_1332 rfl ?_
    refine Ev.i2l fL_law_1334 hvr ?_
    refine Ev.lcmp fL_law_1335 hvr hvr ?_
    rw [if_neg (Int.lt_irrefl _), if_pos rfl]
    refine Ev.if_eq fL_law_1336 rfl (by decide) (fun _ => ?_) (fun h => absurd rfl h)
    refine Ev.goto fL_law_1341 rfl ?_
    refine Ev.fg 6 [(3, 2), (1, 0), (1, 24), (1, 34), (1, 35), (0, i), (9, 0), (0, v), (9, 0), (9, 0)] rfl ?_
    refine Ev.fg 7 [(3, 2), (1, 0), (1, 24), (1, 34), (1, 35), (0, i), (9, 0), (9, 0), (9, 0), (9, 0)] rfl ?_
    exact EN
theorem c_apart {G : zG} {ia : Nat → Int → Int} {i : Int} {n : Nat} (J : zJL G mL_apart [(1, 0), (0, ((G.2.2.2.2.2.1 2).2 (i + 1))), (0, ((G.2.2.2.2.2.1 2).2 (i + 2))), (1, 34), (9, 0)] mX8_apart [(1, 24), (0, ((G.2.2.2.2.2.1 2).2 (i + 1))), (0, ((G.2.2.2.2.2.1 2).2 (i + 2)))] (fun r => r) ia) (hi : 0 ≤ i ∧ i + 5 ≤ (((G.2.2.2.2.2.1 2).1 : Nat) : Int)) (hL : (G.2.2.2.2.2.1 2).1 ≤ 2560) (N : zNext G i n) : zCase G 1344 i (n + 1) ia := by
  intro w
  obtain ⟨ia1, w1, k, r, ce1, hk, hr, hce, E1, hout, hm⟩ := J w
  obtain ⟨ib1, v, E2, hv, hvr, hcode, Q2⟩ := hm w1
  obtain ⟨h2, ce2, hc2, EN⟩ := N ib1 Q2 w1
  have Et : Ev G mX8_thrown 0 [(1, 24)] [] (zH ib1 w1) (.inl (some (0, k)), zH ib1 w1, 0, 0) := by
    have h := eX8_thrown (G := G) (ia := ib1) (w := w1)
    rw [hcode] at h
    exact h
  refine ⟨h2, ce1 + ce2, by omega, ?_⟩
  refine Ev.aload_n_1 fL_law_1344 rfl ?_
  refine Ev.aload_n_3 fL_law_1345 rfl ?_
  refine Ev.iload fL_law_1346 rfl ?_
  refine Ev.iconst fL_law_1348 ?_
  refine Ev.iadd fL_law_1349 ?_
  refine Ev.old 2 (v := ((G.2.2.2.2.2.1 2).2 (i + 1))) fL_law_1350 (by decide) ⟨by omega, by omega, by omega⟩ rfl ?_
  refine Ev.aload_n_3 fL_law_1351 rfl ?_
  refine Ev.iload fL_law_1352 rfl ?_
  refine Ev.iconst fL_law_1354 ?_
  refine Ev.iadd fL_law_1355 ?_
  refine Ev.old 2 (v := ((G.2.2.2.2.2.1 2).2 (i + 2))) fL_law_1356 (by decide) ⟨by omega, by omega, by omega⟩ rfl ?_
  refine Ev.aload_n_1 fL_law_1357 rfl ?_
  refine Ev.cHl (ce2 := ce2) (sl2 := 6 * ce2) [(1, 0), (0, ((G.2.2.2.2.2.1 2).2 (i + 1))), (0, ((G.2.2.2.2.2.1 2).2 (i + 2))), (1, 34)] [] fL_law_1358 lkL_law_191 rfl rfl (by omega) E1 ?_
  refine Ev.sistore [(3, 2), (1, 0), (1, 24), (1, 34), (1, 35), (0, i), (0, k), (9, 0), (9, 0), (9, 0)] fL_law_1361 rfl rfl ?_
  refine Ev.aload_n_1 fL_law_1363 rfl ?_
  refine Ev.aload_n_3 fL_law_1364 rfl ?_
  refine Ev.iload fL_law_1365 rfl ?_
  refine Ev.iconst fL_law_1367 ?_
  refine Ev.iadd fL_law_1368 ?_
  refine Ev.old 2 (v := ((G.2.2.2.2.2.1 2).2 (i + 1))) fL_law_1369 (by decide) ⟨by omega, by omega, by omega⟩ rfl ?_
  refine Ev.aload_n_3 fL_law_1370 rfl ?_
  refine Ev.iload fL_law_1371 rfl ?_
  refine Ev.iconst fL_law_1373 ?_
  refine Ev.iadd fL_law_1374 ?_
  refine Ev.old 2 (v := ((G.2.2.2.2.2.1 2).2 (i + 2))) fL_law_1375 (by decide) ⟨by omega, by omega, by omega⟩ rfl ?_
  refine Ev.cVi 24 [(0, ((G.2.2.2.2.2.1 2).2 (i + 1))), (0, ((G.2.2.2.2.2.1 2).2 (i + 2)))] [] fL_law_1376 lkL_law_193 8 TX8 22 rfl rfl rfl E2 ?_
  refine Ev.sistore [(3, 2), (1, 0), (1, 24), (1, 34), (1, 35), (0, i), (0, k), (0, v), (9, 0), (9, 0)] fL_law_1379 rfl rfl ?_
  refine Ev.aload_n_1 fL_law_1381 rfl ?_
  refine Ev.cVi 24 [] [] fL_law_1382 lkL_law_140 8 TX8 22 rfl rfl rfl Et ?_
  refine Ev.iload fL_law_1385 rfl ?_
  refine Ev.icmp_eq fL_law_1387 rfl ⟨by omega, by omega⟩ ⟨by omega, by omega⟩ (fun _ => ?_) (fun h => absurd rfl h)
  refine Ev.iload fL_law_1392 rfl ?_
  refine Ev.if_ne fL_law_1394 rfl ⟨by omega, by omega⟩ (fun h9 => ?_) (fun h9 => ?_)
  · refine Ev.goto fL_law_1409 rfl ?_
    refine Ev.fg 6 [(3, 2), (1, 0), (1, 24), (1, 34), (1, 35), (0, i), (9, 0), (0, v), (9, 0), (9, 0)] rfl ?_
    refine Ev.fg 7 [(3, 2), (1, 0), (1, 24), (1, 34), (1, 35), (0, i), (9, 0), (9, 0), (9, 0), (9, 0)] rfl ?_
    exact EN
  · have e9 := hv h9
    subst e9
    have ho := hout h9
    refine Ev.aload_n_1 fL_law_1397 rfl ?_
    refine Ev.iconst fL_law_1398 ?_
    refine Ev.lld fL_law_1399 ho ?_
    refine Ev.iload fL_law_1400 rfl ?_
    refine Ev.i2l fL_law_1402 hvr ?_
    refine Ev.lcmp fL_law_1403 hvr hvr ?_
    rw [if_neg (Int.lt_irrefl _), if_pos rfl]
    refine Ev.if_eq fL_law_1404 rfl (by decide) (fun _ => ?_) (fun h => absurd rfl h)
    refine Ev.goto fL_law_1409 rfl ?_
    refine Ev.fg 6 [(3, 2), (1, 0), (1, 24), (1, 34), (1, 35), (0, i), (9, 0), (0, v), (9, 0), (9, 0)] rfl ?_
    refine Ev.fg 7 [(3, 2), (1, 0), (1, 24), (1, 34), (1, 35), (0, i), (9, 0), (9, 0), (9, 0), (9, 0)] rfl ?_
    exact EN
theorem c_shared {G : zG} {ia : Nat → Int → Int} {i : Int} {n : Nat} (J : zJL G mL_shared [(1, 0), (0, ((G.2.2.2.2.2.1 2).2 (i + 1))), (0, ((G.2.2.2.2.2.1 2).2 (i + 2))), (1, 34), (9, 0)] mX8_shared [(1, 24), (0, ((G.2.2.2.2.2.1 2).2 (i + 1))), (0, ((G.2.2.2.2.2.1 2).2 (i + 2))), (9, 0), (9, 0)] (fun r => r) ia) (hi : 0 ≤ i ∧ i + 5 ≤ (((G.2.2.2.2.2.1 2).1 : Nat) : Int)) (hL : (G.2.2.2.2.2.1 2).1 ≤ 2560) (N : zNext G i n) : zCase G 1412 i (n + 1) ia := by
  intro w
  obtain ⟨ia1, w1, k, r, ce1, hk, hr, hce, E1, hout, hm⟩ := J w
  obtain ⟨ib1, v, E2, hv, hvr, hcode, Q2⟩ := hm w1
  obtain ⟨h2, ce2, hc2, EN⟩ := N ib1 Q2 w1
  have Et : Ev G mX8_thrown 0 [(1, 24)] [] (zH ib1 w1) (.inl (some (0, k)), zH ib1 w1, 0, 0) := by
    have h := eX8_thrown (G := G) (ia := ib1) (w := w1)
    rw [hcode] at h
    exact h
  refine ⟨h2, ce1 + ce2, by omega, ?_⟩
  refine Ev.aload_n_1 fL_law_1412 rfl ?_
  refine Ev.aload_n_3 fL_law_1413 rfl ?_
  refine Ev.iload fL_law_1414 rfl ?_
  refine Ev.iconst fL_law_1416 ?_
  refine Ev.iadd fL_law_1417 ?_
  refine Ev.old 2 (v := ((G.2.2.2.2.2.1 2).2 (i + 1))) fL_law_1418 (by decide) ⟨by omega, by omega, by omega⟩ rfl ?_
  refine Ev.aload_n_3 fL_law_1419 rfl ?_
  refine Ev.iload fL_law_1420 rfl ?_
  refine Ev.iconst fL_law_1422 ?_
  refine Ev.iadd fL_law_1423 ?_
  refine Ev.old 2 (v := ((G.2.2.2.2.2.1 2).2 (i + 2))) fL_law_1424 (by decide) ⟨by omega, by omega, by omega⟩ rfl ?_
  refine Ev.aload_n_1 fL_law_1425 rfl ?_
  refine Ev.cHl (ce2 := ce2) (sl2 := 6 * ce2) [(1, 0), (0, ((G.2.2.2.2.2.1 2).2 (i + 1))), (0, ((G.2.2.2.2.2.1 2).2 (i + 2))), (1, 34)] [] fL_law_1426 lkL_law_194 rfl rfl (by omega) E1 ?_
  refine Ev.sistore [(3, 2), (1, 0), (1, 24), (1, 34), (1, 35), (0, i), (0, k), (9, 0), (9, 0), (9, 0)] fL_law_1429 rfl rfl ?_
  refine Ev.aload_n_1 fL_law_1431 rfl ?_
  refine Ev.aload_n_3 fL_law_1432 rfl ?_
  refine Ev.iload fL_law_1433 rfl ?_
  refine Ev.iconst fL_law_1435 ?_
  refine Ev.iadd fL_law_1436 ?_
  refine Ev.old 2 (v := ((G.2.2.2.2.2.1 2).2 (i + 1))) fL_law_1437 (by decide) ⟨by omega, by omega, by omega⟩ rfl ?_
  refine Ev.aload_n_3 fL_law_1438 rfl ?_
  refine Ev.iload fL_law_1439 rfl ?_
  refine Ev.iconst fL_law_1441 ?_
  refine Ev.iadd fL_law_1442 ?_
  refine Ev.old 2 (v := ((G.2.2.2.2.2.1 2).2 (i + 2))) fL_law_1443 (by decide) ⟨by omega, by omega, by omega⟩ rfl ?_
  refine Ev.cVi 24 [(0, ((G.2.2.2.2.2.1 2).2 (i + 1))), (0, ((G.2.2.2.2.2.1 2).2 (i + 2)))] [] fL_law_1444 lkL_law_196 8 TX8 22 rfl rfl rfl E2 ?_
  refine Ev.sistore [(3, 2), (1, 0), (1, 24), (1, 34), (1, 35), (0, i), (0, k), (0, v), (9, 0), (9, 0)] fL_law_1447 rfl rfl ?_
  refine Ev.aload_n_1 fL_law_1449 rfl ?_
  refine Ev.cVi 24 [] [] fL_law_1450 lkL_law_140 8 TX8 22 rfl rfl rfl Et ?_
  refine Ev.iload fL_law_1453 rfl ?_
  refine Ev.icmp_eq fL_law_1455 rfl ⟨by omega, by omega⟩ ⟨by omega, by omega⟩ (fun _ => ?_) (fun h => absurd rfl h)
  refine Ev.iload fL_law_1460 rfl ?_
  refine Ev.if_ne fL_law_1462 rfl ⟨by omega, by omega⟩ (fun h9 => ?_) (fun h9 => ?_)
  · refine Ev.goto fL_law_1477 rfl ?_
    refine Ev.fg 6 [(3, 2), (1, 0), (1, 24), (1, 34), (1, 35), (0, i), (9, 0), (0, v), (9, 0), (9, 0)] rfl ?_
    refine Ev.fg 7 [(3, 2), (1, 0), (1, 24), (1, 34), (1, 35), (0, i), (9, 0), (9, 0), (9, 0), (9, 0)] rfl ?_
    exact EN
  · have e9 := hv h9
    subst e9
    have ho := hout h9
    refine Ev.aload_n_1 fL_law_1465 rfl ?_
    refine Ev.iconst fL_law_1466 ?_
    refine Ev.lld fL_law_1467 ho ?_
    refine Ev.iload fL_law_1468 rfl ?_
    refine Ev.i2l fL_law_1470 hvr ?_
    refine Ev.lcmp fL_law_1471 hvr hvr ?_
    rw [if_neg (Int.lt_irrefl _), if_pos rfl]
    refine Ev.if_eq fL_law_1472 rfl (by decide) (fun _ => ?_) (fun h => absurd rfl h)
    refine Ev.goto fL_law_1477 rfl ?_
    refine Ev.fg 6 [(3, 2), (1, 0), (1, 24), (1, 34), (1, 35), (0, i), (9, 0), (0, v), (9, 0), (9, 0)] rfl ?_
    refine Ev.fg 7 [(3, 2), (1, 0), (1, 24), (1, 34), (1, 35), (0, i), (9, 0), (9, 0), (9, 0), (9, 0)] rfl ?_
    exact EN
theorem c_isOf {G : zG} {ia : Nat → Int → Int} {i : Int} {n : Nat} (J : zJL G mL_isOf [(1, 0), (0, ((G.2.2.2.2.2.1 2).2 (i + 1))), (0, ((G.2.2.2.2.2.1 2).2 (i + 2))), (1, 34), (9, 0)] mX8_isOf [(1, 24), (0, ((G.2.2.2.2.2.1 2).2 (i + 1))), (0, ((G.2.2.2.2.2.1 2).2 (i + 2))), (9, 0)] (fun r => if r = 0 then 0 else 1) ia) (hi : 0 ≤ i ∧ i + 5 ≤ (((G.2.2.2.2.2.1 2).1 : Nat) : Int)) (hL : (G.2.2.2.2.2.1 2).1 ≤ 2560) (N : zNext G i n) : zCase G 1480 i (n + 1) ia := by
  intro w
  obtain ⟨ia1, w1, k, r, ce1, hk, hr, hce, E1, hout, hm⟩ := J w
  obtain ⟨ib1, v, E2, hv, hvr, hcode, Q2⟩ := hm w1
  obtain ⟨h2, ce2, hc2, EN⟩ := N ib1 Q2 w1
  have Et : Ev G mX8_thrown 0 [(1, 24)] [] (zH ib1 w1) (.inl (some (0, k)), zH ib1 w1, 0, 0) := by
    have h := eX8_thrown (G := G) (ia := ib1) (w := w1)
    rw [hcode] at h
    exact h
  refine ⟨h2, ce1 + ce2, by omega, ?_⟩
  refine Ev.aload_n_1 fL_law_1480 rfl ?_
  refine Ev.aload_n_3 fL_law_1481 rfl ?_
  refine Ev.iload fL_law_1482 rfl ?_
  refine Ev.iconst fL_law_1484 ?_
  refine Ev.iadd fL_law_1485 ?_
  refine Ev.old 2 (v := ((G.2.2.2.2.2.1 2).2 (i + 1))) fL_law_1486 (by decide) ⟨by omega, by omega, by omega⟩ rfl ?_
  refine Ev.aload_n_3 fL_law_1487 rfl ?_
  refine Ev.iload fL_law_1488 rfl ?_
  refine Ev.iconst fL_law_1490 ?_
  refine Ev.iadd fL_law_1491 ?_
  refine Ev.old 2 (v := ((G.2.2.2.2.2.1 2).2 (i + 2))) fL_law_1492 (by decide) ⟨by omega, by omega, by omega⟩ rfl ?_
  refine Ev.aload_n_1 fL_law_1493 rfl ?_
  refine Ev.cHl (ce2 := ce2) (sl2 := 6 * ce2) [(1, 0), (0, ((G.2.2.2.2.2.1 2).2 (i + 1))), (0, ((G.2.2.2.2.2.1 2).2 (i + 2))), (1, 34)] [] fL_law_1494 lkL_law_197 rfl rfl (by omega) E1 ?_
  refine Ev.sistore [(3, 2), (1, 0), (1, 24), (1, 34), (1, 35), (0, i), (0, k), (9, 0), (9, 0), (9, 0)] fL_law_1497 rfl rfl ?_
  refine Ev.aload_n_1 fL_law_1499 rfl ?_
  refine Ev.aload_n_3 fL_law_1500 rfl ?_
  refine Ev.iload fL_law_1501 rfl ?_
  refine Ev.iconst fL_law_1503 ?_
  refine Ev.iadd fL_law_1504 ?_
  refine Ev.old 2 (v := ((G.2.2.2.2.2.1 2).2 (i + 1))) fL_law_1505 (by decide) ⟨by omega, by omega, by omega⟩ rfl ?_
  refine Ev.aload_n_3 fL_law_1506 rfl ?_
  refine Ev.iload fL_law_1507 rfl ?_
  refine Ev.iconst fL_law_1509 ?_
  refine Ev.iadd fL_law_1510 ?_
  refine Ev.old 2 (v := ((G.2.2.2.2.2.1 2).2 (i + 2))) fL_law_1511 (by decide) ⟨by omega, by omega, by omega⟩ rfl ?_
  refine Ev.cVi 24 [(0, ((G.2.2.2.2.2.1 2).2 (i + 1))), (0, ((G.2.2.2.2.2.1 2).2 (i + 2)))] [] fL_law_1512 lkL_law_199 8 TX8 22 rfl rfl rfl E2 ?_
  refine Ev.sistore [(3, 2), (1, 0), (1, 24), (1, 34), (1, 35), (0, i), (0, k), (0, v), (9, 0), (9, 0)] fL_law_1515 rfl rfl ?_
  refine Ev.aload_n_1 fL_law_1517 rfl ?_
  refine Ev.cVi 24 [] [] fL_law_1518 lkL_law_140 8 TX8 22 rfl rfl rfl Et ?_
  refine Ev.iload fL_law_1521 rfl ?_
  refine Ev.icmp_eq fL_law_1523 rfl ⟨by omega, by omega⟩ ⟨by omega, by omega⟩ (fun _ => ?_) (fun h => absurd rfl h)
  refine Ev.iload fL_law_1528 rfl ?_
  refine Ev.if_ne fL_law_1530 rfl ⟨by omega, by omega⟩ (fun h9 => ?_) (fun h9 => ?_)
  · refine Ev.goto fL_law_1552 rfl ?_
    refine Ev.fg 6 [(3, 2), (1, 0), (1, 24), (1, 34), (1, 35), (0, i), (9, 0), (0, v), (9, 0), (9, 0)] rfl ?_
    refine Ev.fg 7 [(3, 2), (1, 0), (1, 24), (1, 34), (1, 35), (0, i), (9, 0), (9, 0), (9, 0), (9, 0)] rfl ?_
    exact EN
  · have e9 := hv h9
    subst e9
    have ho := hout h9
    refine Ev.aload_n_1 fL_law_1533 rfl ?_
    refine Ev.iconst fL_law_1534 ?_
    refine Ev.lld fL_law_1535 ho ?_
    refine Ev.iload fL_law_1536 rfl ?_
    refine Ev.if_eq fL_law_1538 rfl hvr (fun h8 => ?_) (fun h8 => ?_)
    · have e8 : (if v = 0 then (0 : Int) else 1) = 0 := if_pos h8
      rw [show (fun r : Int => if r = 0 then (0 : Int) else 1) v = 0 from e8]
      refine Ev.lconst fL_law_1545 ?_
      refine Ev.lcmp fL_law_1546 (by decide) (by decide) ?_
      refine Ev.if_eq fL_law_1547 rfl (by decide) (fun _ => ?_) (fun h => absurd rfl h)
      refine Ev.goto fL_law_1552 rfl ?_
      refine Ev.fg 6 [(3, 2), (1, 0), (1, 24), (1, 34), (1, 35), (0, i), (9, 0), (0, v), (9, 0), (9, 0)] rfl ?_
      refine Ev.fg 7 [(3, 2), (1, 0), (1, 24), (1, 34), (1, 35), (0, i), (9, 0), (9, 0), (9, 0), (9, 0)] rfl ?_
      exact EN
    · have e8 : (if v = 0 then (0 : Int) else 1) = 1 := if_neg h8
      rw [show (fun r : Int => if r = 0 then (0 : Int) else 1) v = 1 from e8]
      refine Ev.lconst fL_law_1541 ?_
      refine Ev.goto fL_law_1542 rfl ?_
      refine Ev.lcmp fL_law_1546 (by decide) (by decide) ?_
      refine Ev.if_eq fL_law_1547 rfl (by decide) (fun _ => ?_) (fun h => absurd rfl h)
      refine Ev.goto fL_law_1552 rfl ?_
      refine Ev.fg 6 [(3, 2), (1, 0), (1, 24), (1, 34), (1, 35), (0, i), (9, 0), (0, v), (9, 0), (9, 0)] rfl ?_
      refine Ev.fg 7 [(3, 2), (1, 0), (1, 24), (1, 34), (1, 35), (0, i), (9, 0), (9, 0), (9, 0), (9, 0)] rfl ?_
      exact EN
theorem c_users {G : zG} {ia : Nat → Int → Int} {i : Int} {n : Nat} (J : zJL G mL_users [(1, 0), (0, ((G.2.2.2.2.2.1 2).2 (i + 1))), (0, ((G.2.2.2.2.2.1 2).2 (i + 2))), (1, 34), (9, 0)] mX8_users [(1, 24), (0, ((G.2.2.2.2.2.1 2).2 (i + 1))), (0, ((G.2.2.2.2.2.1 2).2 (i + 2)))] (fun r => r) ia) (hi : 0 ≤ i ∧ i + 5 ≤ (((G.2.2.2.2.2.1 2).1 : Nat) : Int)) (hL : (G.2.2.2.2.2.1 2).1 ≤ 2560) (N : zNext G i n) : zCase G 1555 i (n + 1) ia := by
  intro w
  obtain ⟨ia1, w1, k, r, ce1, hk, hr, hce, E1, hout, hm⟩ := J w
  obtain ⟨ib1, v, E2, hv, hvr, hcode, Q2⟩ := hm w1
  obtain ⟨h2, ce2, hc2, EN⟩ := N ib1 Q2 w1
  have Et : Ev G mX8_thrown 0 [(1, 24)] [] (zH ib1 w1) (.inl (some (0, k)), zH ib1 w1, 0, 0) := by
    have h := eX8_thrown (G := G) (ia := ib1) (w := w1)
    rw [hcode] at h
    exact h
  refine ⟨h2, ce1 + ce2, by omega, ?_⟩
  refine Ev.aload_n_1 fL_law_1555 rfl ?_
  refine Ev.aload_n_3 fL_law_1556 rfl ?_
  refine Ev.iload fL_law_1557 rfl ?_
  refine Ev.iconst fL_law_1559 ?_
  refine Ev.iadd fL_law_1560 ?_
  refine Ev.old 2 (v := ((G.2.2.2.2.2.1 2).2 (i + 1))) fL_law_1561 (by decide) ⟨by omega, by omega, by omega⟩ rfl ?_
  refine Ev.aload_n_3 fL_law_1562 rfl ?_
  refine Ev.iload fL_law_1563 rfl ?_
  refine Ev.iconst fL_law_1565 ?_
  refine Ev.iadd fL_law_1566 ?_
  refine Ev.old 2 (v := ((G.2.2.2.2.2.1 2).2 (i + 2))) fL_law_1567 (by decide) ⟨by omega, by omega, by omega⟩ rfl ?_
  refine Ev.aload_n_1 fL_law_1568 rfl ?_
  refine Ev.cHl (ce2 := ce2) (sl2 := 6 * ce2) [(1, 0), (0, ((G.2.2.2.2.2.1 2).2 (i + 1))), (0, ((G.2.2.2.2.2.1 2).2 (i + 2))), (1, 34)] [] fL_law_1569 lkL_law_200 rfl rfl (by omega) E1 ?_
  refine Ev.sistore [(3, 2), (1, 0), (1, 24), (1, 34), (1, 35), (0, i), (0, k), (9, 0), (9, 0), (9, 0)] fL_law_1572 rfl rfl ?_
  refine Ev.aload_n_1 fL_law_1574 rfl ?_
  refine Ev.aload_n_3 fL_law_1575 rfl ?_
  refine Ev.iload fL_law_1576 rfl ?_
  refine Ev.iconst fL_law_1578 ?_
  refine Ev.iadd fL_law_1579 ?_
  refine Ev.old 2 (v := ((G.2.2.2.2.2.1 2).2 (i + 1))) fL_law_1580 (by decide) ⟨by omega, by omega, by omega⟩ rfl ?_
  refine Ev.aload_n_3 fL_law_1581 rfl ?_
  refine Ev.iload fL_law_1582 rfl ?_
  refine Ev.iconst fL_law_1584 ?_
  refine Ev.iadd fL_law_1585 ?_
  refine Ev.old 2 (v := ((G.2.2.2.2.2.1 2).2 (i + 2))) fL_law_1586 (by decide) ⟨by omega, by omega, by omega⟩ rfl ?_
  refine Ev.cVi 24 [(0, ((G.2.2.2.2.2.1 2).2 (i + 1))), (0, ((G.2.2.2.2.2.1 2).2 (i + 2)))] [] fL_law_1587 lkL_law_202 8 TX8 22 rfl rfl rfl E2 ?_
  refine Ev.sistore [(3, 2), (1, 0), (1, 24), (1, 34), (1, 35), (0, i), (0, k), (0, v), (9, 0), (9, 0)] fL_law_1590 rfl rfl ?_
  refine Ev.aload_n_1 fL_law_1592 rfl ?_
  refine Ev.cVi 24 [] [] fL_law_1593 lkL_law_140 8 TX8 22 rfl rfl rfl Et ?_
  refine Ev.iload fL_law_1596 rfl ?_
  refine Ev.icmp_eq fL_law_1598 rfl ⟨by omega, by omega⟩ ⟨by omega, by omega⟩ (fun _ => ?_) (fun h => absurd rfl h)
  refine Ev.iload fL_law_1603 rfl ?_
  refine Ev.if_ne fL_law_1605 rfl ⟨by omega, by omega⟩ (fun h9 => ?_) (fun h9 => ?_)
  · refine Ev.goto fL_law_1620 rfl ?_
    refine Ev.fg 6 [(3, 2), (1, 0), (1, 24), (1, 34), (1, 35), (0, i), (9, 0), (0, v), (9, 0), (9, 0)] rfl ?_
    refine Ev.fg 7 [(3, 2), (1, 0), (1, 24), (1, 34), (1, 35), (0, i), (9, 0), (9, 0), (9, 0), (9, 0)] rfl ?_
    exact EN
  · have e9 := hv h9
    subst e9
    have ho := hout h9
    refine Ev.aload_n_1 fL_law_1608 rfl ?_
    refine Ev.iconst fL_law_1609 ?_
    refine Ev.lld fL_law_1610 ho ?_
    refine Ev.iload fL_law_1611 rfl ?_
    refine Ev.i2l fL_law_1613 hvr ?_
    refine Ev.lcmp fL_law_1614 hvr hvr ?_
    rw [if_neg (Int.lt_irrefl _), if_pos rfl]
    refine Ev.if_eq fL_law_1615 rfl (by decide) (fun _ => ?_) (fun h => absurd rfl h)
    refine Ev.goto fL_law_1620 rfl ?_
    refine Ev.fg 6 [(3, 2), (1, 0), (1, 24), (1, 34), (1, 35), (0, i), (9, 0), (0, v), (9, 0), (9, 0)] rfl ?_
    refine Ev.fg 7 [(3, 2), (1, 0), (1, 24), (1, 34), (1, 35), (0, i), (9, 0), (9, 0), (9, 0), (9, 0)] rfl ?_
    exact EN
theorem c_wouldMake {G : zG} {ia : Nat → Int → Int} {i : Int} {n : Nat} (J : zJL G mL_wouldMake [(1, 0), (0, ((G.2.2.2.2.2.1 2).2 (i + 1))), (0, ((G.2.2.2.2.2.1 2).2 (i + 2))), (1, 34), (9, 0)] mX8_wouldMake [(1, 24), (0, ((G.2.2.2.2.2.1 2).2 (i + 1))), (0, ((G.2.2.2.2.2.1 2).2 (i + 2))), (9, 0), (9, 0)] (fun r => r) ia) (hi : 0 ≤ i ∧ i + 5 ≤ (((G.2.2.2.2.2.1 2).1 : Nat) : Int)) (hL : (G.2.2.2.2.2.1 2).1 ≤ 2560) (N : zNext G i n) : zCase G 1623 i (n + 1) ia := by
  intro w
  obtain ⟨ia1, w1, k, r, ce1, hk, hr, hce, E1, hout, hm⟩ := J w
  obtain ⟨ib1, v, E2, hv, hvr, hcode, Q2⟩ := hm w1
  obtain ⟨h2, ce2, hc2, EN⟩ := N ib1 Q2 w1
  have Et : Ev G mX8_thrown 0 [(1, 24)] [] (zH ib1 w1) (.inl (some (0, k)), zH ib1 w1, 0, 0) := by
    have h := eX8_thrown (G := G) (ia := ib1) (w := w1)
    rw [hcode] at h
    exact h
  refine ⟨h2, ce1 + ce2, by omega, ?_⟩
  refine Ev.aload_n_1 fL_law_1623 rfl ?_
  refine Ev.aload_n_3 fL_law_1624 rfl ?_
  refine Ev.iload fL_law_1625 rfl ?_
  refine Ev.iconst fL_law_1627 ?_
  refine Ev.iadd fL_law_1628 ?_
  refine Ev.old 2 (v := ((G.2.2.2.2.2.1 2).2 (i + 1))) fL_law_1629 (by decide) ⟨by omega, by omega, by omega⟩ rfl ?_
  refine Ev.aload_n_3 fL_law_1630 rfl ?_
  refine Ev.iload fL_law_1631 rfl ?_
  refine Ev.iconst fL_law_1633 ?_
  refine Ev.iadd fL_law_1634 ?_
  refine Ev.old 2 (v := ((G.2.2.2.2.2.1 2).2 (i + 2))) fL_law_1635 (by decide) ⟨by omega, by omega, by omega⟩ rfl ?_
  refine Ev.aload_n_1 fL_law_1636 rfl ?_
  refine Ev.cHl (ce2 := ce2) (sl2 := 6 * ce2) [(1, 0), (0, ((G.2.2.2.2.2.1 2).2 (i + 1))), (0, ((G.2.2.2.2.2.1 2).2 (i + 2))), (1, 34)] [] fL_law_1637 lkL_law_203 rfl rfl (by omega) E1 ?_
  refine Ev.sistore [(3, 2), (1, 0), (1, 24), (1, 34), (1, 35), (0, i), (0, k), (9, 0), (9, 0), (9, 0)] fL_law_1640 rfl rfl ?_
  refine Ev.aload_n_1 fL_law_1642 rfl ?_
  refine Ev.aload_n_3 fL_law_1643 rfl ?_
  refine Ev.iload fL_law_1644 rfl ?_
  refine Ev.iconst fL_law_1646 ?_
  refine Ev.iadd fL_law_1647 ?_
  refine Ev.old 2 (v := ((G.2.2.2.2.2.1 2).2 (i + 1))) fL_law_1648 (by decide) ⟨by omega, by omega, by omega⟩ rfl ?_
  refine Ev.aload_n_3 fL_law_1649 rfl ?_
  refine Ev.iload fL_law_1650 rfl ?_
  refine Ev.iconst fL_law_1652 ?_
  refine Ev.iadd fL_law_1653 ?_
  refine Ev.old 2 (v := ((G.2.2.2.2.2.1 2).2 (i + 2))) fL_law_1654 (by decide) ⟨by omega, by omega, by omega⟩ rfl ?_
  refine Ev.cVi 24 [(0, ((G.2.2.2.2.2.1 2).2 (i + 1))), (0, ((G.2.2.2.2.2.1 2).2 (i + 2)))] [] fL_law_1655 lkL_law_205 8 TX8 22 rfl rfl rfl E2 ?_
  refine Ev.sistore [(3, 2), (1, 0), (1, 24), (1, 34), (1, 35), (0, i), (0, k), (0, v), (9, 0), (9, 0)] fL_law_1658 rfl rfl ?_
  refine Ev.aload_n_1 fL_law_1660 rfl ?_
  refine Ev.cVi 24 [] [] fL_law_1661 lkL_law_140 8 TX8 22 rfl rfl rfl Et ?_
  refine Ev.iload fL_law_1664 rfl ?_
  refine Ev.icmp_eq fL_law_1666 rfl ⟨by omega, by omega⟩ ⟨by omega, by omega⟩ (fun _ => ?_) (fun h => absurd rfl h)
  refine Ev.iload fL_law_1671 rfl ?_
  refine Ev.if_ne fL_law_1673 rfl ⟨by omega, by omega⟩ (fun h9 => ?_) (fun h9 => ?_)
  · refine Ev.goto fL_law_1688 rfl ?_
    refine Ev.fg 6 [(3, 2), (1, 0), (1, 24), (1, 34), (1, 35), (0, i), (9, 0), (0, v), (9, 0), (9, 0)] rfl ?_
    refine Ev.fg 7 [(3, 2), (1, 0), (1, 24), (1, 34), (1, 35), (0, i), (9, 0), (9, 0), (9, 0), (9, 0)] rfl ?_
    exact EN
  · have e9 := hv h9
    subst e9
    have ho := hout h9
    refine Ev.aload_n_1 fL_law_1676 rfl ?_
    refine Ev.iconst fL_law_1677 ?_
    refine Ev.lld fL_law_1678 ho ?_
    refine Ev.iload fL_law_1679 rfl ?_
    refine Ev.i2l fL_law_1681 hvr ?_
    refine Ev.lcmp fL_law_1682 hvr hvr ?_
    rw [if_neg (Int.lt_irrefl _), if_pos rfl]
    refine Ev.if_eq fL_law_1683 rfl (by decide) (fun _ => ?_) (fun h => absurd rfl h)
    refine Ev.goto fL_law_1688 rfl ?_
    refine Ev.fg 6 [(3, 2), (1, 0), (1, 24), (1, 34), (1, 35), (0, i), (9, 0), (0, v), (9, 0), (9, 0)] rfl ?_
    refine Ev.fg 7 [(3, 2), (1, 0), (1, 24), (1, 34), (1, 35), (0, i), (9, 0), (9, 0), (9, 0), (9, 0)] rfl ?_
    exact EN
theorem c_alike {G : zG} {ia : Nat → Int → Int} {i : Int} {n : Nat} (J : zJL G mL_alike [(1, 0), (0, ((G.2.2.2.2.2.1 2).2 (i + 1))), (1, 34), (9, 0)] mX8_alike [(1, 24), (0, ((G.2.2.2.2.2.1 2).2 (i + 1))), (9, 0), (9, 0)] (fun r => r) ia) (hi : 0 ≤ i ∧ i + 5 ≤ (((G.2.2.2.2.2.1 2).1 : Nat) : Int)) (hL : (G.2.2.2.2.2.1 2).1 ≤ 2560) (N : zNext G i n) : zCase G 1691 i (n + 1) ia := by
  intro w
  obtain ⟨ia1, w1, k, r, ce1, hk, hr, hce, E1, hout, hm⟩ := J w
  obtain ⟨ib1, v, E2, hv, hvr, hcode, Q2⟩ := hm w1
  obtain ⟨h2, ce2, hc2, EN⟩ := N ib1 Q2 w1
  have Et : Ev G mX8_thrown 0 [(1, 24)] [] (zH ib1 w1) (.inl (some (0, k)), zH ib1 w1, 0, 0) := by
    have h := eX8_thrown (G := G) (ia := ib1) (w := w1)
    rw [hcode] at h
    exact h
  refine ⟨h2, ce1 + ce2, by omega, ?_⟩
  refine Ev.aload_n_1 fL_law_1691 rfl ?_
  refine Ev.aload_n_3 fL_law_1692 rfl ?_
  refine Ev.iload fL_law_1693 rfl ?_
  refine Ev.iconst fL_law_1695 ?_
  refine Ev.iadd fL_law_1696 ?_
  refine Ev.old 2 (v := ((G.2.2.2.2.2.1 2).2 (i + 1))) fL_law_1697 (by decide) ⟨by omega, by omega, by omega⟩ rfl ?_
  refine Ev.aload_n_1 fL_law_1698 rfl ?_
  refine Ev.cHl (ce2 := ce2) (sl2 := 6 * ce2) [(1, 0), (0, ((G.2.2.2.2.2.1 2).2 (i + 1))), (1, 34)] [] fL_law_1699 lkL_law_206 rfl rfl (by omega) E1 ?_
  refine Ev.sistore [(3, 2), (1, 0), (1, 24), (1, 34), (1, 35), (0, i), (0, k), (9, 0), (9, 0), (9, 0)] fL_law_1702 rfl rfl ?_
  refine Ev.aload_n_1 fL_law_1704 rfl ?_
  refine Ev.aload_n_3 fL_law_1705 rfl ?_
  refine Ev.iload fL_law_1706 rfl ?_
  refine Ev.iconst fL_law_1708 ?_
  refine Ev.iadd fL_law_1709 ?_
  refine Ev.old 2 (v := ((G.2.2.2.2.2.1 2).2 (i + 1))) fL_law_1710 (by decide) ⟨by omega, by omega, by omega⟩ rfl ?_
  refine Ev.cVi 24 [(0, ((G.2.2.2.2.2.1 2).2 (i + 1)))] [] fL_law_1711 lkL_law_208 8 TX8 22 rfl rfl rfl E2 ?_
  refine Ev.sistore [(3, 2), (1, 0), (1, 24), (1, 34), (1, 35), (0, i), (0, k), (0, v), (9, 0), (9, 0)] fL_law_1714 rfl rfl ?_
  refine Ev.aload_n_1 fL_law_1716 rfl ?_
  refine Ev.cVi 24 [] [] fL_law_1717 lkL_law_140 8 TX8 22 rfl rfl rfl Et ?_
  refine Ev.iload fL_law_1720 rfl ?_
  refine Ev.icmp_eq fL_law_1722 rfl ⟨by omega, by omega⟩ ⟨by omega, by omega⟩ (fun _ => ?_) (fun h => absurd rfl h)
  refine Ev.iload fL_law_1727 rfl ?_
  refine Ev.if_ne fL_law_1729 rfl ⟨by omega, by omega⟩ (fun h9 => ?_) (fun h9 => ?_)
  · refine Ev.goto fL_law_1744 rfl ?_
    refine Ev.fg 6 [(3, 2), (1, 0), (1, 24), (1, 34), (1, 35), (0, i), (9, 0), (0, v), (9, 0), (9, 0)] rfl ?_
    refine Ev.fg 7 [(3, 2), (1, 0), (1, 24), (1, 34), (1, 35), (0, i), (9, 0), (9, 0), (9, 0), (9, 0)] rfl ?_
    exact EN
  · have e9 := hv h9
    subst e9
    have ho := hout h9
    refine Ev.aload_n_1 fL_law_1732 rfl ?_
    refine Ev.iconst fL_law_1733 ?_
    refine Ev.lld fL_law_1734 ho ?_
    refine Ev.iload fL_law_1735 rfl ?_
    refine Ev.i2l fL_law_1737 hvr ?_
    refine Ev.lcmp fL_law_1738 hvr hvr ?_
    rw [if_neg (Int.lt_irrefl _), if_pos rfl]
    refine Ev.if_eq fL_law_1739 rfl (by decide) (fun _ => ?_) (fun h => absurd rfl h)
    refine Ev.goto fL_law_1744 rfl ?_
    refine Ev.fg 6 [(3, 2), (1, 0), (1, 24), (1, 34), (1, 35), (0, i), (9, 0), (0, v), (9, 0), (9, 0)] rfl ?_
    refine Ev.fg 7 [(3, 2), (1, 0), (1, 24), (1, 34), (1, 35), (0, i), (9, 0), (9, 0), (9, 0), (9, 0)] rfl ?_
    exact EN
theorem c_richest {G : zG} {ia : Nat → Int → Int} {i : Int} {n : Nat} (J : zJL G mL_richest [(1, 0), (0, ((G.2.2.2.2.2.1 2).2 (i + 1))), (1, 34), (9, 0)] mX8_richest [(1, 24), (0, ((G.2.2.2.2.2.1 2).2 (i + 1))), (9, 0), (9, 0), (9, 0), (9, 0), (9, 0)] (fun r => r) ia) (hi : 0 ≤ i ∧ i + 5 ≤ (((G.2.2.2.2.2.1 2).1 : Nat) : Int)) (hL : (G.2.2.2.2.2.1 2).1 ≤ 2560) (N : zNext G i n) : zCase G 1747 i (n + 1) ia := by
  intro w
  obtain ⟨ia1, w1, k, r, ce1, hk, hr, hce, E1, hout, hm⟩ := J w
  obtain ⟨ib1, v, E2, hv, hvr, hcode, Q2⟩ := hm w1
  obtain ⟨h2, ce2, hc2, EN⟩ := N ib1 Q2 w1
  have Et : Ev G mX8_thrown 0 [(1, 24)] [] (zH ib1 w1) (.inl (some (0, k)), zH ib1 w1, 0, 0) := by
    have h := eX8_thrown (G := G) (ia := ib1) (w := w1)
    rw [hcode] at h
    exact h
  refine ⟨h2, ce1 + ce2, by omega, ?_⟩
  refine Ev.aload_n_1 fL_law_1747 rfl ?_
  refine Ev.aload_n_3 fL_law_1748 rfl ?_
  refine Ev.iload fL_law_1749 rfl ?_
  refine Ev.iconst fL_law_1751 ?_
  refine Ev.iadd fL_law_1752 ?_
  refine Ev.old 2 (v := ((G.2.2.2.2.2.1 2).2 (i + 1))) fL_law_1753 (by decide) ⟨by omega, by omega, by omega⟩ rfl ?_
  refine Ev.aload_n_1 fL_law_1754 rfl ?_
  refine Ev.cHl (ce2 := ce2) (sl2 := 6 * ce2) [(1, 0), (0, ((G.2.2.2.2.2.1 2).2 (i + 1))), (1, 34)] [] fL_law_1755 lkL_law_209 rfl rfl (by omega) E1 ?_
  refine Ev.sistore [(3, 2), (1, 0), (1, 24), (1, 34), (1, 35), (0, i), (0, k), (9, 0), (9, 0), (9, 0)] fL_law_1758 rfl rfl ?_
  refine Ev.aload_n_1 fL_law_1760 rfl ?_
  refine Ev.aload_n_3 fL_law_1761 rfl ?_
  refine Ev.iload fL_law_1762 rfl ?_
  refine Ev.iconst fL_law_1764 ?_
  refine Ev.iadd fL_law_1765 ?_
  refine Ev.old 2 (v := ((G.2.2.2.2.2.1 2).2 (i + 1))) fL_law_1766 (by decide) ⟨by omega, by omega, by omega⟩ rfl ?_
  refine Ev.cVi 24 [(0, ((G.2.2.2.2.2.1 2).2 (i + 1)))] [] fL_law_1767 lkL_law_211 8 TX8 22 rfl rfl rfl E2 ?_
  refine Ev.sistore [(3, 2), (1, 0), (1, 24), (1, 34), (1, 35), (0, i), (0, k), (0, v), (9, 0), (9, 0)] fL_law_1770 rfl rfl ?_
  refine Ev.aload_n_1 fL_law_1772 rfl ?_
  refine Ev.cVi 24 [] [] fL_law_1773 lkL_law_140 8 TX8 22 rfl rfl rfl Et ?_
  refine Ev.iload fL_law_1776 rfl ?_
  refine Ev.icmp_eq fL_law_1778 rfl ⟨by omega, by omega⟩ ⟨by omega, by omega⟩ (fun _ => ?_) (fun h => absurd rfl h)
  refine Ev.iload fL_law_1783 rfl ?_
  refine Ev.if_ne fL_law_1785 rfl ⟨by omega, by omega⟩ (fun h9 => ?_) (fun h9 => ?_)
  · refine Ev.goto fL_law_1800 rfl ?_
    refine Ev.fg 6 [(3, 2), (1, 0), (1, 24), (1, 34), (1, 35), (0, i), (9, 0), (0, v), (9, 0), (9, 0)] rfl ?_
    refine Ev.fg 7 [(3, 2), (1, 0), (1, 24), (1, 34), (1, 35), (0, i), (9, 0), (9, 0), (9, 0), (9, 0)] rfl ?_
    exact EN
  · have e9 := hv h9
    subst e9
    have ho := hout h9
    refine Ev.aload_n_1 fL_law_1788 rfl ?_
    refine Ev.iconst fL_law_1789 ?_
    refine Ev.lld fL_law_1790 ho ?_
    refine Ev.iload fL_law_1791 rfl ?_
    refine Ev.i2l fL_law_1793 hvr ?_
    refine Ev.lcmp fL_law_1794 hvr hvr ?_
    rw [if_neg (Int.lt_irrefl _), if_pos rfl]
    refine Ev.if_eq fL_law_1795 rfl (by decide) (fun _ => ?_) (fun h => absurd rfl h)
    refine Ev.goto fL_law_1800 rfl ?_
    refine Ev.fg 6 [(3, 2), (1, 0), (1, 24), (1, 34), (1, 35), (0, i), (9, 0), (0, v), (9, 0), (9, 0)] rfl ?_
    refine Ev.fg 7 [(3, 2), (1, 0), (1, 24), (1, 34), (1, 35), (0, i), (9, 0), (9, 0), (9, 0), (9, 0)] rfl ?_
    exact EN
theorem c_busiest {G : zG} {ia : Nat → Int → Int} {i : Int} {n : Nat} (J : zJL G mL_busiest [(1, 0), (1, 34), (9, 0)] mX8_busiest [(1, 24), (9, 0), (9, 0)] (fun r => r) ia) (hi : 0 ≤ i ∧ i + 5 ≤ (((G.2.2.2.2.2.1 2).1 : Nat) : Int)) (hL : (G.2.2.2.2.2.1 2).1 ≤ 2560) (N : zNext G i n) : zCase G 1803 i (n + 1) ia := by
  intro w
  obtain ⟨ia1, w1, k, r, ce1, hk, hr, hce, E1, hout, hm⟩ := J w
  obtain ⟨ib1, v, E2, hv, hvr, hcode, Q2⟩ := hm w1
  obtain ⟨h2, ce2, hc2, EN⟩ := N ib1 Q2 w1
  have Et : Ev G mX8_thrown 0 [(1, 24)] [] (zH ib1 w1) (.inl (some (0, k)), zH ib1 w1, 0, 0) := by
    have h := eX8_thrown (G := G) (ia := ib1) (w := w1)
    rw [hcode] at h
    exact h
  refine ⟨h2, ce1 + ce2, by omega, ?_⟩
  refine Ev.aload_n_1 fL_law_1803 rfl ?_
  refine Ev.aload_n_1 fL_law_1804 rfl ?_
  refine Ev.cHl (ce2 := ce2) (sl2 := 6 * ce2) [(1, 0), (1, 34)] [] fL_law_1805 lkL_law_212 rfl rfl (by omega) E1 ?_
  refine Ev.sistore [(3, 2), (1, 0), (1, 24), (1, 34), (1, 35), (0, i), (0, k), (9, 0), (9, 0), (9, 0)] fL_law_1808 rfl rfl ?_
  refine Ev.aload_n_1 fL_law_1810 rfl ?_
  refine Ev.cVi 24 [] [] fL_law_1811 lkL_law_215 8 TX8 22 rfl rfl rfl E2 ?_
  refine Ev.sistore [(3, 2), (1, 0), (1, 24), (1, 34), (1, 35), (0, i), (0, k), (0, v), (9, 0), (9, 0)] fL_law_1814 rfl rfl ?_
  refine Ev.aload_n_1 fL_law_1816 rfl ?_
  refine Ev.cVi 24 [] [] fL_law_1817 lkL_law_140 8 TX8 22 rfl rfl rfl Et ?_
  refine Ev.iload fL_law_1820 rfl ?_
  refine Ev.icmp_eq fL_law_1822 rfl ⟨by omega, by omega⟩ ⟨by omega, by omega⟩ (fun _ => ?_) (fun h => absurd rfl h)
  refine Ev.iload fL_law_1827 rfl ?_
  refine Ev.if_ne fL_law_1829 rfl ⟨by omega, by omega⟩ (fun h9 => ?_) (fun h9 => ?_)
  · refine Ev.goto fL_law_1844 rfl ?_
    refine Ev.fg 6 [(3, 2), (1, 0), (1, 24), (1, 34), (1, 35), (0, i), (9, 0), (0, v), (9, 0), (9, 0)] rfl ?_
    refine Ev.fg 7 [(3, 2), (1, 0), (1, 24), (1, 34), (1, 35), (0, i), (9, 0), (9, 0), (9, 0), (9, 0)] rfl ?_
    exact EN
  · have e9 := hv h9
    subst e9
    have ho := hout h9
    refine Ev.aload_n_1 fL_law_1832 rfl ?_
    refine Ev.iconst fL_law_1833 ?_
    refine Ev.lld fL_law_1834 ho ?_
    refine Ev.iload fL_law_1835 rfl ?_
    refine Ev.i2l fL_law_1837 hvr ?_
    refine Ev.lcmp fL_law_1838 hvr hvr ?_
    rw [if_neg (Int.lt_irrefl _), if_pos rfl]
    refine Ev.if_eq fL_law_1839 rfl (by decide) (fun _ => ?_) (fun h => absurd rfl h)
    refine Ev.goto fL_law_1844 rfl ?_
    refine Ev.fg 6 [(3, 2), (1, 0), (1, 24), (1, 34), (1, 35), (0, i), (9, 0), (0, v), (9, 0), (9, 0)] rfl ?_
    refine Ev.fg 7 [(3, 2), (1, 0), (1, 24), (1, 34), (1, 35), (0, i), (9, 0), (9, 0), (9, 0), (9, 0)] rfl ?_
    exact EN
theorem c_append {G : zG} {ia : Nat → Int → Int} {i : Int} {n : Nat} (J : zJL G mL_append [(1, 0), (0, (((G.2.2.2.2.2.1 2).2 (i + 1)) % 65536)), (1, 34), (9, 0)] mX8_append [(1, 24), (0, (((G.2.2.2.2.2.1 2).2 (i + 1)) % 65536))] (fun r => r) ia) (hi : 0 ≤ i ∧ i + 5 ≤ (((G.2.2.2.2.2.1 2).1 : Nat) : Int)) (hL : (G.2.2.2.2.2.1 2).1 ≤ 2560) (N : zNext G i n) : zCase G 1847 i (n + 1) ia := by
  intro w
  obtain ⟨ia1, w1, k, r, ce1, hk, hr, hce, E1, hout, hm⟩ := J w
  obtain ⟨ib1, v, E2, hv, hvr, hcode, Q2⟩ := hm w1
  obtain ⟨h2, ce2, hc2, EN⟩ := N ib1 Q2 w1
  have Et : Ev G mX8_thrown 0 [(1, 24)] [] (zH ib1 w1) (.inl (some (0, k)), zH ib1 w1, 0, 0) := by
    have h := eX8_thrown (G := G) (ia := ib1) (w := w1)
    rw [hcode] at h
    exact h
  refine ⟨h2, ce1 + ce2, by omega, ?_⟩
  refine Ev.aload_n_1 fL_law_1847 rfl ?_
  refine Ev.aload_n_3 fL_law_1848 rfl ?_
  refine Ev.iload fL_law_1849 rfl ?_
  refine Ev.iconst fL_law_1851 ?_
  refine Ev.iadd fL_law_1852 ?_
  refine Ev.old 2 (v := ((G.2.2.2.2.2.1 2).2 (i + 1))) fL_law_1853 (by decide) ⟨by omega, by omega, by omega⟩ rfl ?_
  refine Ev.i2c fL_law_1854 ?_
  refine Ev.aload_n_1 fL_law_1855 rfl ?_
  refine Ev.cHl (ce2 := ce2) (sl2 := 6 * ce2) [(1, 0), (0, (((G.2.2.2.2.2.1 2).2 (i + 1)) % 65536)), (1, 34)] [] fL_law_1856 lkL_law_216 rfl rfl (by omega) E1 ?_
  refine Ev.sistore [(3, 2), (1, 0), (1, 24), (1, 34), (1, 35), (0, i), (0, k), (9, 0), (9, 0), (9, 0)] fL_law_1859 rfl rfl ?_
  refine Ev.aload_n_1 fL_law_1861 rfl ?_
  refine Ev.aload_n_3 fL_law_1862 rfl ?_
  refine Ev.iload fL_law_1863 rfl ?_
  refine Ev.iconst fL_law_1865 ?_
  refine Ev.iadd fL_law_1866 ?_
  refine Ev.old 2 (v := ((G.2.2.2.2.2.1 2).2 (i + 1))) fL_law_1867 (by decide) ⟨by omega, by omega, by omega⟩ rfl ?_
  refine Ev.i2c fL_law_1868 ?_
  refine Ev.cVi 24 [(0, (((G.2.2.2.2.2.1 2).2 (i + 1)) % 65536))] [] fL_law_1869 lkL_law_219 8 TX8 22 rfl rfl rfl E2 ?_
  refine Ev.sistore [(3, 2), (1, 0), (1, 24), (1, 34), (1, 35), (0, i), (0, k), (0, v), (9, 0), (9, 0)] fL_law_1872 rfl rfl ?_
  refine Ev.aload_n_1 fL_law_1874 rfl ?_
  refine Ev.cVi 24 [] [] fL_law_1875 lkL_law_140 8 TX8 22 rfl rfl rfl Et ?_
  refine Ev.iload fL_law_1878 rfl ?_
  refine Ev.icmp_eq fL_law_1880 rfl ⟨by omega, by omega⟩ ⟨by omega, by omega⟩ (fun _ => ?_) (fun h => absurd rfl h)
  refine Ev.iload fL_law_1885 rfl ?_
  refine Ev.if_ne fL_law_1887 rfl ⟨by omega, by omega⟩ (fun h9 => ?_) (fun h9 => ?_)
  · refine Ev.goto fL_law_1902 rfl ?_
    refine Ev.fg 6 [(3, 2), (1, 0), (1, 24), (1, 34), (1, 35), (0, i), (9, 0), (0, v), (9, 0), (9, 0)] rfl ?_
    refine Ev.fg 7 [(3, 2), (1, 0), (1, 24), (1, 34), (1, 35), (0, i), (9, 0), (9, 0), (9, 0), (9, 0)] rfl ?_
    exact EN
  · have e9 := hv h9
    subst e9
    have ho := hout h9
    refine Ev.aload_n_1 fL_law_1890 rfl ?_
    refine Ev.iconst fL_law_1891 ?_
    refine Ev.lld fL_law_1892 ho ?_
    refine Ev.iload fL_law_1893 rfl ?_
    refine Ev.i2l fL_law_1895 hvr ?_
    refine Ev.lcmp fL_law_1896 hvr hvr ?_
    rw [if_neg (Int.lt_irrefl _), if_pos rfl]
    refine Ev.if_eq fL_law_1897 rfl (by decide) (fun _ => ?_) (fun h => absurd rfl h)
    refine Ev.goto fL_law_1902 rfl ?_
    refine Ev.fg 6 [(3, 2), (1, 0), (1, 24), (1, 34), (1, 35), (0, i), (9, 0), (0, v), (9, 0), (9, 0)] rfl ?_
    refine Ev.fg 7 [(3, 2), (1, 0), (1, 24), (1, 34), (1, 35), (0, i), (9, 0), (9, 0), (9, 0), (9, 0)] rfl ?_
    exact EN
theorem c_commands {G : zG} {ia : Nat → Int → Int} {i : Int} {n : Nat} (J : zJL G mL_commands [(1, 0), (1, 34), (9, 0)] mX8_commands [(1, 24), (9, 0), (9, 0)] (fun r => r) ia) (hi : 0 ≤ i ∧ i + 5 ≤ (((G.2.2.2.2.2.1 2).1 : Nat) : Int)) (hL : (G.2.2.2.2.2.1 2).1 ≤ 2560) (N : zNext G i n) : zCase G 1905 i (n + 1) ia := by
  intro w
  obtain ⟨ia1, w1, k, r, ce1, hk, hr, hce, E1, hout, hm⟩ := J w
  obtain ⟨ib1, v, E2, hv, hvr, hcode, Q2⟩ := hm w1
  obtain ⟨h2, ce2, hc2, EN⟩ := N ib1 Q2 w1
  have Et : Ev G mX8_thrown 0 [(1, 24)] [] (zH ib1 w1) (.inl (some (0, k)), zH ib1 w1, 0, 0) := by
    have h := eX8_thrown (G := G) (ia := ib1) (w := w1)
    rw [hcode] at h
    exact h
  refine ⟨h2, ce1 + ce2, by omega, ?_⟩
  refine Ev.aload_n_1 fL_law_1905 rfl ?_
  refine Ev.aload_n_1 fL_law_1906 rfl ?_
  refine Ev.cHl (ce2 := ce2) (sl2 := 6 * ce2) [(1, 0), (1, 34)] [] fL_law_1907 lkL_law_220 rfl rfl (by omega) E1 ?_
  refine Ev.sistore [(3, 2), (1, 0), (1, 24), (1, 34), (1, 35), (0, i), (0, k), (9, 0), (9, 0), (9, 0)] fL_law_1910 rfl rfl ?_
  refine Ev.aload_n_1 fL_law_1912 rfl ?_
  refine Ev.cVi 24 [] [] fL_law_1913 lkL_law_222 8 TX8 22 rfl rfl rfl E2 ?_
  refine Ev.sistore [(3, 2), (1, 0), (1, 24), (1, 34), (1, 35), (0, i), (0, k), (0, v), (9, 0), (9, 0)] fL_law_1916 rfl rfl ?_
  refine Ev.aload_n_1 fL_law_1918 rfl ?_
  refine Ev.cVi 24 [] [] fL_law_1919 lkL_law_140 8 TX8 22 rfl rfl rfl Et ?_
  refine Ev.iload fL_law_1922 rfl ?_
  refine Ev.icmp_eq fL_law_1924 rfl ⟨by omega, by omega⟩ ⟨by omega, by omega⟩ (fun _ => ?_) (fun h => absurd rfl h)
  refine Ev.iload fL_law_1929 rfl ?_
  refine Ev.if_ne fL_law_1931 rfl ⟨by omega, by omega⟩ (fun h9 => ?_) (fun h9 => ?_)
  · refine Ev.goto fL_law_1946 rfl ?_
    refine Ev.fg 6 [(3, 2), (1, 0), (1, 24), (1, 34), (1, 35), (0, i), (9, 0), (0, v), (9, 0), (9, 0)] rfl ?_
    refine Ev.fg 7 [(3, 2), (1, 0), (1, 24), (1, 34), (1, 35), (0, i), (9, 0), (9, 0), (9, 0), (9, 0)] rfl ?_
    exact EN
  · have e9 := hv h9
    subst e9
    have ho := hout h9
    refine Ev.aload_n_1 fL_law_1934 rfl ?_
    refine Ev.iconst fL_law_1935 ?_
    refine Ev.lld fL_law_1936 ho ?_
    refine Ev.iload fL_law_1937 rfl ?_
    refine Ev.i2l fL_law_1939 hvr ?_
    refine Ev.lcmp fL_law_1940 hvr hvr ?_
    rw [if_neg (Int.lt_irrefl _), if_pos rfl]
    refine Ev.if_eq fL_law_1941 rfl (by decide) (fun _ => ?_) (fun h => absurd rfl h)
    refine Ev.goto fL_law_1946 rfl ?_
    refine Ev.fg 6 [(3, 2), (1, 0), (1, 24), (1, 34), (1, 35), (0, i), (9, 0), (0, v), (9, 0), (9, 0)] rfl ?_
    refine Ev.fg 7 [(3, 2), (1, 0), (1, 24), (1, 34), (1, 35), (0, i), (9, 0), (9, 0), (9, 0), (9, 0)] rfl ?_
    exact EN
theorem c_reason {G : zG} {ia : Nat → Int → Int} {i : Int} {n : Nat} (J : zJL G mL_reason [(1, 0), (0, ((G.2.2.2.2.2.1 2).2 (i + 1))), (1, 34), (9, 0)] mX8_reason [(1, 24), (0, ((G.2.2.2.2.2.1 2).2 (i + 1)))] (fun r => r) ia) (hi : 0 ≤ i ∧ i + 5 ≤ (((G.2.2.2.2.2.1 2).1 : Nat) : Int)) (hL : (G.2.2.2.2.2.1 2).1 ≤ 2560) (N : zNext G i n) : zCase G 1962 i (n + 1) ia := by
  intro w
  obtain ⟨ia1, w1, k, r, ce1, hk, hr, hce, E1, hout, hm⟩ := J w
  obtain ⟨ib1, v, E2, hv, hvr, hcode, Q2⟩ := hm w1
  obtain ⟨h2, ce2, hc2, EN⟩ := N ib1 Q2 w1
  have Et : Ev G mX8_thrown 0 [(1, 24)] [] (zH ib1 w1) (.inl (some (0, k)), zH ib1 w1, 0, 0) := by
    have h := eX8_thrown (G := G) (ia := ib1) (w := w1)
    rw [hcode] at h
    exact h
  refine ⟨h2, ce1 + ce2, by omega, ?_⟩
  refine Ev.aload_n_1 fL_law_1962 rfl ?_
  refine Ev.aload_n_3 fL_law_1963 rfl ?_
  refine Ev.iload fL_law_1964 rfl ?_
  refine Ev.iconst fL_law_1966 ?_
  refine Ev.iadd fL_law_1967 ?_
  refine Ev.old 2 (v := ((G.2.2.2.2.2.1 2).2 (i + 1))) fL_law_1968 (by decide) ⟨by omega, by omega, by omega⟩ rfl ?_
  refine Ev.aload_n_1 fL_law_1969 rfl ?_
  refine Ev.cHl (ce2 := ce2) (sl2 := 6 * ce2) [(1, 0), (0, ((G.2.2.2.2.2.1 2).2 (i + 1))), (1, 34)] [] fL_law_1970 lkL_law_227 rfl rfl (by omega) E1 ?_
  refine Ev.sistore [(3, 2), (1, 0), (1, 24), (1, 34), (1, 35), (0, i), (0, k), (9, 0), (9, 0), (9, 0)] fL_law_1973 rfl rfl ?_
  refine Ev.aload_n_1 fL_law_1975 rfl ?_
  refine Ev.aload_n_3 fL_law_1976 rfl ?_
  refine Ev.iload fL_law_1977 rfl ?_
  refine Ev.iconst fL_law_1979 ?_
  refine Ev.iadd fL_law_1980 ?_
  refine Ev.old 2 (v := ((G.2.2.2.2.2.1 2).2 (i + 1))) fL_law_1981 (by decide) ⟨by omega, by omega, by omega⟩ rfl ?_
  refine Ev.cVi 24 [(0, ((G.2.2.2.2.2.1 2).2 (i + 1)))] [] fL_law_1982 lkL_law_229 8 TX8 22 rfl rfl rfl E2 ?_
  refine Ev.sistore [(3, 2), (1, 0), (1, 24), (1, 34), (1, 35), (0, i), (0, k), (0, v), (9, 0), (9, 0)] fL_law_1985 rfl rfl ?_
  refine Ev.aload_n_1 fL_law_1987 rfl ?_
  refine Ev.cVi 24 [] [] fL_law_1988 lkL_law_140 8 TX8 22 rfl rfl rfl Et ?_
  refine Ev.iload fL_law_1991 rfl ?_
  refine Ev.icmp_eq fL_law_1993 rfl ⟨by omega, by omega⟩ ⟨by omega, by omega⟩ (fun _ => ?_) (fun h => absurd rfl h)
  refine Ev.iload fL_law_1998 rfl ?_
  refine Ev.if_ne fL_law_2000 rfl ⟨by omega, by omega⟩ (fun h9 => ?_) (fun h9 => ?_)
  · refine Ev.goto fL_law_2015 rfl ?_
    refine Ev.fg 6 [(3, 2), (1, 0), (1, 24), (1, 34), (1, 35), (0, i), (9, 0), (0, v), (9, 0), (9, 0)] rfl ?_
    refine Ev.fg 7 [(3, 2), (1, 0), (1, 24), (1, 34), (1, 35), (0, i), (9, 0), (9, 0), (9, 0), (9, 0)] rfl ?_
    exact EN
  · have e9 := hv h9
    subst e9
    have ho := hout h9
    refine Ev.aload_n_1 fL_law_2003 rfl ?_
    refine Ev.iconst fL_law_2004 ?_
    refine Ev.lld fL_law_2005 ho ?_
    refine Ev.iload fL_law_2006 rfl ?_
    refine Ev.i2l fL_law_2008 hvr ?_
    refine Ev.lcmp fL_law_2009 hvr hvr ?_
    rw [if_neg (Int.lt_irrefl _), if_pos rfl]
    refine Ev.if_eq fL_law_2010 rfl (by decide) (fun _ => ?_) (fun h => absurd rfl h)
    refine Ev.goto fL_law_2015 rfl ?_
    refine Ev.fg 6 [(3, 2), (1, 0), (1, 24), (1, 34), (1, 35), (0, i), (9, 0), (0, v), (9, 0), (9, 0)] rfl ?_
    refine Ev.fg 7 [(3, 2), (1, 0), (1, 24), (1, 34), (1, 35), (0, i), (9, 0), (9, 0), (9, 0), (9, 0)] rfl ?_
    exact EN
theorem c_line {G : zG} {ia : Nat → Int → Int} {i : Int} {n : Nat} (J : zJL G mL_line [(1, 0), (0, ((G.2.2.2.2.2.1 2).2 (i + 1))), (1, 34), (9, 0)] mX8_line [(1, 24), (0, ((G.2.2.2.2.2.1 2).2 (i + 1))), (9, 0)] (fun r => r) ia) (hi : 0 ≤ i ∧ i + 5 ≤ (((G.2.2.2.2.2.1 2).1 : Nat) : Int)) (hL : (G.2.2.2.2.2.1 2).1 ≤ 2560) (N : zNext G i n) : zCase G 2018 i (n + 1) ia := by
  intro w
  obtain ⟨ia1, w1, k, r, ce1, hk, hr, hce, E1, hout, hm⟩ := J w
  obtain ⟨ib1, v, E2, hv, hvr, hcode, Q2⟩ := hm w1
  obtain ⟨h2, ce2, hc2, EN⟩ := N ib1 Q2 w1
  have Et : Ev G mX8_thrown 0 [(1, 24)] [] (zH ib1 w1) (.inl (some (0, k)), zH ib1 w1, 0, 0) := by
    have h := eX8_thrown (G := G) (ia := ib1) (w := w1)
    rw [hcode] at h
    exact h
  refine ⟨h2, ce1 + ce2, by omega, ?_⟩
  refine Ev.aload_n_1 fL_law_2018 rfl ?_
  refine Ev.aload_n_3 fL_law_2019 rfl ?_
  refine Ev.iload fL_law_2020 rfl ?_
  refine Ev.iconst fL_law_2022 ?_
  refine Ev.iadd fL_law_2023 ?_
  refine Ev.old 2 (v := ((G.2.2.2.2.2.1 2).2 (i + 1))) fL_law_2024 (by decide) ⟨by omega, by omega, by omega⟩ rfl ?_
  refine Ev.aload_n_1 fL_law_2025 rfl ?_
  refine Ev.cHl (ce2 := ce2) (sl2 := 6 * ce2) [(1, 0), (0, ((G.2.2.2.2.2.1 2).2 (i + 1))), (1, 34)] [] fL_law_2026 lkL_law_230 rfl rfl (by omega) E1 ?_
  refine Ev.sistore [(3, 2), (1, 0), (1, 24), (1, 34), (1, 35), (0, i), (0, k), (9, 0), (9, 0), (9, 0)] fL_law_2029 rfl rfl ?_
  refine Ev.aload_n_1 fL_law_2031 rfl ?_
  refine Ev.aload_n_3 fL_law_2032 rfl ?_
  refine Ev.iload fL_law_2033 rfl ?_
  refine Ev.iconst fL_law_2035 ?_
  refine Ev.iadd fL_law_2036 ?_
  refine Ev.old 2 (v := ((G.2.2.2.2.2.1 2).2 (i + 1))) fL_law_2037 (by decide) ⟨by omega, by omega, by omega⟩ rfl ?_
  refine Ev.cVi 24 [(0, ((G.2.2.2.2.2.1 2).2 (i + 1)))] [] fL_law_2038 lkL_law_232 8 TX8 22 rfl rfl rfl E2 ?_
  refine Ev.sistore [(3, 2), (1, 0), (1, 24), (1, 34), (1, 35), (0, i), (0, k), (0, v), (9, 0), (9, 0)] fL_law_2041 rfl rfl ?_
  refine Ev.aload_n_1 fL_law_2043 rfl ?_
  refine Ev.cVi 24 [] [] fL_law_2044 lkL_law_140 8 TX8 22 rfl rfl rfl Et ?_
  refine Ev.iload fL_law_2047 rfl ?_
  refine Ev.icmp_eq fL_law_2049 rfl ⟨by omega, by omega⟩ ⟨by omega, by omega⟩ (fun _ => ?_) (fun h => absurd rfl h)
  refine Ev.iload fL_law_2054 rfl ?_
  refine Ev.if_ne fL_law_2056 rfl ⟨by omega, by omega⟩ (fun h9 => ?_) (fun h9 => ?_)
  · refine Ev.goto fL_law_2071 rfl ?_
    refine Ev.fg 6 [(3, 2), (1, 0), (1, 24), (1, 34), (1, 35), (0, i), (9, 0), (0, v), (9, 0), (9, 0)] rfl ?_
    refine Ev.fg 7 [(3, 2), (1, 0), (1, 24), (1, 34), (1, 35), (0, i), (9, 0), (9, 0), (9, 0), (9, 0)] rfl ?_
    exact EN
  · have e9 := hv h9
    subst e9
    have ho := hout h9
    refine Ev.aload_n_1 fL_law_2059 rfl ?_
    refine Ev.iconst fL_law_2060 ?_
    refine Ev.lld fL_law_2061 ho ?_
    refine Ev.iload fL_law_2062 rfl ?_
    refine Ev.i2l fL_law_2064 hvr ?_
    refine Ev.lcmp fL_law_2065 hvr hvr ?_
    rw [if_neg (Int.lt_irrefl _), if_pos rfl]
    refine Ev.if_eq fL_law_2066 rfl (by decide) (fun _ => ?_) (fun h => absurd rfl h)
    refine Ev.goto fL_law_2071 rfl ?_
    refine Ev.fg 6 [(3, 2), (1, 0), (1, 24), (1, 34), (1, 35), (0, i), (9, 0), (0, v), (9, 0), (9, 0)] rfl ?_
    refine Ev.fg 7 [(3, 2), (1, 0), (1, 24), (1, 34), (1, 35), (0, i), (9, 0), (9, 0), (9, 0), (9, 0)] rfl ?_
    exact EN
theorem c_lineage {G : zG} {ia : Nat → Int → Int} {i : Int} {n : Nat} (J : zJL G mL_lineage [(1, 0), (0, ((G.2.2.2.2.2.1 2).2 (i + 1))), (1, 34), (9, 0)] mX8_lineage [(1, 24), (0, ((G.2.2.2.2.2.1 2).2 (i + 1))), (9, 0)] (fun r => r) ia) (hi : 0 ≤ i ∧ i + 5 ≤ (((G.2.2.2.2.2.1 2).1 : Nat) : Int)) (hL : (G.2.2.2.2.2.1 2).1 ≤ 2560) (N : zNext G i n) : zCase G 2074 i (n + 1) ia := by
  intro w
  obtain ⟨ia1, w1, k, r, ce1, hk, hr, hce, E1, hout, hm⟩ := J w
  obtain ⟨ib1, v, E2, hv, hvr, hcode, Q2⟩ := hm w1
  obtain ⟨h2, ce2, hc2, EN⟩ := N ib1 Q2 w1
  have Et : Ev G mX8_thrown 0 [(1, 24)] [] (zH ib1 w1) (.inl (some (0, k)), zH ib1 w1, 0, 0) := by
    have h := eX8_thrown (G := G) (ia := ib1) (w := w1)
    rw [hcode] at h
    exact h
  refine ⟨h2, ce1 + ce2, by omega, ?_⟩
  refine Ev.aload_n_1 fL_law_2074 rfl ?_
  refine Ev.aload_n_3 fL_law_2075 rfl ?_
  refine Ev.iload fL_law_2076 rfl ?_
  refine Ev.iconst fL_law_2078 ?_
  refine Ev.iadd fL_law_2079 ?_
  refine Ev.old 2 (v := ((G.2.2.2.2.2.1 2).2 (i + 1))) fL_law_2080 (by decide) ⟨by omega, by omega, by omega⟩ rfl ?_
  refine Ev.aload_n_1 fL_law_2081 rfl ?_
  refine Ev.cHl (ce2 := ce2) (sl2 := 6 * ce2) [(1, 0), (0, ((G.2.2.2.2.2.1 2).2 (i + 1))), (1, 34)] [] fL_law_2082 lkL_law_233 rfl rfl (by omega) E1 ?_
  refine Ev.sistore [(3, 2), (1, 0), (1, 24), (1, 34), (1, 35), (0, i), (0, k), (9, 0), (9, 0), (9, 0)] fL_law_2085 rfl rfl ?_
  refine Ev.aload_n_1 fL_law_2087 rfl ?_
  refine Ev.aload_n_3 fL_law_2088 rfl ?_
  refine Ev.iload fL_law_2089 rfl ?_
  refine Ev.iconst fL_law_2091 ?_
  refine Ev.iadd fL_law_2092 ?_
  refine Ev.old 2 (v := ((G.2.2.2.2.2.1 2).2 (i + 1))) fL_law_2093 (by decide) ⟨by omega, by omega, by omega⟩ rfl ?_
  refine Ev.cVi 24 [(0, ((G.2.2.2.2.2.1 2).2 (i + 1)))] [] fL_law_2094 lkL_law_235 8 TX8 22 rfl rfl rfl E2 ?_
  refine Ev.sistore [(3, 2), (1, 0), (1, 24), (1, 34), (1, 35), (0, i), (0, k), (0, v), (9, 0), (9, 0)] fL_law_2097 rfl rfl ?_
  refine Ev.aload_n_1 fL_law_2099 rfl ?_
  refine Ev.cVi 24 [] [] fL_law_2100 lkL_law_140 8 TX8 22 rfl rfl rfl Et ?_
  refine Ev.iload fL_law_2103 rfl ?_
  refine Ev.icmp_eq fL_law_2105 rfl ⟨by omega, by omega⟩ ⟨by omega, by omega⟩ (fun _ => ?_) (fun h => absurd rfl h)
  refine Ev.iload fL_law_2110 rfl ?_
  refine Ev.if_ne fL_law_2112 rfl ⟨by omega, by omega⟩ (fun h9 => ?_) (fun h9 => ?_)
  · refine Ev.goto fL_law_2127 rfl ?_
    refine Ev.fg 6 [(3, 2), (1, 0), (1, 24), (1, 34), (1, 35), (0, i), (9, 0), (0, v), (9, 0), (9, 0)] rfl ?_
    refine Ev.fg 7 [(3, 2), (1, 0), (1, 24), (1, 34), (1, 35), (0, i), (9, 0), (9, 0), (9, 0), (9, 0)] rfl ?_
    exact EN
  · have e9 := hv h9
    subst e9
    have ho := hout h9
    refine Ev.aload_n_1 fL_law_2115 rfl ?_
    refine Ev.iconst fL_law_2116 ?_
    refine Ev.lld fL_law_2117 ho ?_
    refine Ev.iload fL_law_2118 rfl ?_
    refine Ev.i2l fL_law_2120 hvr ?_
    refine Ev.lcmp fL_law_2121 hvr hvr ?_
    rw [if_neg (Int.lt_irrefl _), if_pos rfl]
    refine Ev.if_eq fL_law_2122 rfl (by decide) (fun _ => ?_) (fun h => absurd rfl h)
    refine Ev.goto fL_law_2127 rfl ?_
    refine Ev.fg 6 [(3, 2), (1, 0), (1, 24), (1, 34), (1, 35), (0, i), (9, 0), (0, v), (9, 0), (9, 0)] rfl ?_
    refine Ev.fg 7 [(3, 2), (1, 0), (1, 24), (1, 34), (1, 35), (0, i), (9, 0), (9, 0), (9, 0), (9, 0)] rfl ?_
    exact EN
theorem c_character {G : zG} {ia : Nat → Int → Int} {i : Int} {n : Nat} (J : zJL G mL_character [(1, 0), (0, ((G.2.2.2.2.2.1 2).2 (i + 1))), (1, 34), (9, 0)] mX8_character [(1, 24), (0, ((G.2.2.2.2.2.1 2).2 (i + 1)))] (fun r => r) ia) (hi : 0 ≤ i ∧ i + 5 ≤ (((G.2.2.2.2.2.1 2).1 : Nat) : Int)) (hL : (G.2.2.2.2.2.1 2).1 ≤ 2560) (N : zNext G i n) : zCase G 2130 i (n + 1) ia := by
  intro w
  obtain ⟨ia1, w1, k, r, ce1, hk, hr, hce, E1, hout, hm⟩ := J w
  obtain ⟨ib1, v, E2, hv, hvr, hcode, Q2⟩ := hm w1
  obtain ⟨h2, ce2, hc2, EN⟩ := N ib1 Q2 w1
  have Et : Ev G mX8_thrown 0 [(1, 24)] [] (zH ib1 w1) (.inl (some (0, k)), zH ib1 w1, 0, 0) := by
    have h := eX8_thrown (G := G) (ia := ib1) (w := w1)
    rw [hcode] at h
    exact h
  refine ⟨h2, ce1 + ce2, by omega, ?_⟩
  refine Ev.aload_n_1 fL_law_2130 rfl ?_
  refine Ev.aload_n_3 fL_law_2131 rfl ?_
  refine Ev.iload fL_law_2132 rfl ?_
  refine Ev.iconst fL_law_2134 ?_
  refine Ev.iadd fL_law_2135 ?_
  refine Ev.old 2 (v := ((G.2.2.2.2.2.1 2).2 (i + 1))) fL_law_2136 (by decide) ⟨by omega, by omega, by omega⟩ rfl ?_
  refine Ev.aload_n_1 fL_law_2137 rfl ?_
  refine Ev.cHl (ce2 := ce2) (sl2 := 6 * ce2) [(1, 0), (0, ((G.2.2.2.2.2.1 2).2 (i + 1))), (1, 34)] [] fL_law_2138 lkL_law_236 rfl rfl (by omega) E1 ?_
  refine Ev.sistore [(3, 2), (1, 0), (1, 24), (1, 34), (1, 35), (0, i), (0, k), (9, 0), (9, 0), (9, 0)] fL_law_2141 rfl rfl ?_
  refine Ev.aload_n_1 fL_law_2143 rfl ?_
  refine Ev.aload_n_3 fL_law_2144 rfl ?_
  refine Ev.iload fL_law_2145 rfl ?_
  refine Ev.iconst fL_law_2147 ?_
  refine Ev.iadd fL_law_2148 ?_
  refine Ev.old 2 (v := ((G.2.2.2.2.2.1 2).2 (i + 1))) fL_law_2149 (by decide) ⟨by omega, by omega, by omega⟩ rfl ?_
  refine Ev.cVi 24 [(0, ((G.2.2.2.2.2.1 2).2 (i + 1)))] [] fL_law_2150 lkL_law_238 8 TX8 22 rfl rfl rfl E2 ?_
  refine Ev.sistore [(3, 2), (1, 0), (1, 24), (1, 34), (1, 35), (0, i), (0, k), (0, v), (9, 0), (9, 0)] fL_law_2153 rfl rfl ?_
  refine Ev.aload_n_1 fL_law_2155 rfl ?_
  refine Ev.cVi 24 [] [] fL_law_2156 lkL_law_140 8 TX8 22 rfl rfl rfl Et ?_
  refine Ev.iload fL_law_2159 rfl ?_
  refine Ev.icmp_eq fL_law_2161 rfl ⟨by omega, by omega⟩ ⟨by omega, by omega⟩ (fun _ => ?_) (fun h => absurd rfl h)
  refine Ev.iload fL_law_2166 rfl ?_
  refine Ev.if_ne fL_law_2168 rfl ⟨by omega, by omega⟩ (fun h9 => ?_) (fun h9 => ?_)
  · refine Ev.goto fL_law_2183 rfl ?_
    refine Ev.fg 6 [(3, 2), (1, 0), (1, 24), (1, 34), (1, 35), (0, i), (9, 0), (0, v), (9, 0), (9, 0)] rfl ?_
    refine Ev.fg 7 [(3, 2), (1, 0), (1, 24), (1, 34), (1, 35), (0, i), (9, 0), (9, 0), (9, 0), (9, 0)] rfl ?_
    exact EN
  · have e9 := hv h9
    subst e9
    have ho := hout h9
    refine Ev.aload_n_1 fL_law_2171 rfl ?_
    refine Ev.iconst fL_law_2172 ?_
    refine Ev.lld fL_law_2173 ho ?_
    refine Ev.iload fL_law_2174 rfl ?_
    refine Ev.i2l fL_law_2176 hvr ?_
    refine Ev.lcmp fL_law_2177 hvr hvr ?_
    rw [if_neg (Int.lt_irrefl _), if_pos rfl]
    refine Ev.if_eq fL_law_2178 rfl (by decide) (fun _ => ?_) (fun h => absurd rfl h)
    refine Ev.goto fL_law_2183 rfl ?_
    refine Ev.fg 6 [(3, 2), (1, 0), (1, 24), (1, 34), (1, 35), (0, i), (9, 0), (0, v), (9, 0), (9, 0)] rfl ?_
    refine Ev.fg 7 [(3, 2), (1, 0), (1, 24), (1, 34), (1, 35), (0, i), (9, 0), (9, 0), (9, 0), (9, 0)] rfl ?_
    exact EN
theorem c_account {G : zG} {ia : Nat → Int → Int} {i : Int} {n : Nat} (J : zJL G mL_account [(1, 0), (0, ((G.2.2.2.2.2.1 2).2 (i + 1))), (1, 34), (9, 0)] mX8_account [(1, 24), (0, ((G.2.2.2.2.2.1 2).2 (i + 1)))] (fun r => r) ia) (hi : 0 ≤ i ∧ i + 5 ≤ (((G.2.2.2.2.2.1 2).1 : Nat) : Int)) (hL : (G.2.2.2.2.2.1 2).1 ≤ 2560) (N : zNext G i n) : zCase G 2306 i (n + 1) ia := by
  intro w
  obtain ⟨ia1, w1, k, r, ce1, hk, hr, hce, E1, hout, hm⟩ := J w
  obtain ⟨ib1, v, E2, hv, hvr, hcode, Q2⟩ := hm w1
  obtain ⟨h2, ce2, hc2, EN⟩ := N ib1 Q2 w1
  have Et : Ev G mX8_thrown 0 [(1, 24)] [] (zH ib1 w1) (.inl (some (0, k)), zH ib1 w1, 0, 0) := by
    have h := eX8_thrown (G := G) (ia := ib1) (w := w1)
    rw [hcode] at h
    exact h
  refine ⟨h2, ce1 + ce2, by omega, ?_⟩
  refine Ev.aload_n_1 fL_law_2306 rfl ?_
  refine Ev.aload_n_3 fL_law_2307 rfl ?_
  refine Ev.iload fL_law_2308 rfl ?_
  refine Ev.iconst fL_law_2310 ?_
  refine Ev.iadd fL_law_2311 ?_
  refine Ev.old 2 (v := ((G.2.2.2.2.2.1 2).2 (i + 1))) fL_law_2312 (by decide) ⟨by omega, by omega, by omega⟩ rfl ?_
  refine Ev.aload_n_1 fL_law_2313 rfl ?_
  refine Ev.cHl (ce2 := ce2) (sl2 := 6 * ce2) [(1, 0), (0, ((G.2.2.2.2.2.1 2).2 (i + 1))), (1, 34)] [] fL_law_2314 lkL_law_248 rfl rfl (by omega) E1 ?_
  refine Ev.sistore [(3, 2), (1, 0), (1, 24), (1, 34), (1, 35), (0, i), (0, k), (9, 0), (9, 0), (9, 0)] fL_law_2317 rfl rfl ?_
  refine Ev.aload_n_1 fL_law_2319 rfl ?_
  refine Ev.aload_n_3 fL_law_2320 rfl ?_
  refine Ev.iload fL_law_2321 rfl ?_
  refine Ev.iconst fL_law_2323 ?_
  refine Ev.iadd fL_law_2324 ?_
  refine Ev.old 2 (v := ((G.2.2.2.2.2.1 2).2 (i + 1))) fL_law_2325 (by decide) ⟨by omega, by omega, by omega⟩ rfl ?_
  refine Ev.cVi 24 [(0, ((G.2.2.2.2.2.1 2).2 (i + 1)))] [] fL_law_2326 lkL_law_250 8 TX8 22 rfl rfl rfl E2 ?_
  refine Ev.sistore [(3, 2), (1, 0), (1, 24), (1, 34), (1, 35), (0, i), (0, k), (0, v), (9, 0), (9, 0)] fL_law_2329 rfl rfl ?_
  refine Ev.aload_n_1 fL_law_2331 rfl ?_
  refine Ev.cVi 24 [] [] fL_law_2332 lkL_law_140 8 TX8 22 rfl rfl rfl Et ?_
  refine Ev.iload fL_law_2335 rfl ?_
  refine Ev.icmp_eq fL_law_2337 rfl ⟨by omega, by omega⟩ ⟨by omega, by omega⟩ (fun _ => ?_) (fun h => absurd rfl h)
  refine Ev.iload fL_law_2342 rfl ?_
  refine Ev.if_ne fL_law_2344 rfl ⟨by omega, by omega⟩ (fun h9 => ?_) (fun h9 => ?_)
  · refine Ev.goto fL_law_2359 rfl ?_
    refine Ev.fg 6 [(3, 2), (1, 0), (1, 24), (1, 34), (1, 35), (0, i), (9, 0), (0, v), (9, 0), (9, 0)] rfl ?_
    refine Ev.fg 7 [(3, 2), (1, 0), (1, 24), (1, 34), (1, 35), (0, i), (9, 0), (9, 0), (9, 0), (9, 0)] rfl ?_
    exact EN
  · have e9 := hv h9
    subst e9
    have ho := hout h9
    refine Ev.aload_n_1 fL_law_2347 rfl ?_
    refine Ev.iconst fL_law_2348 ?_
    refine Ev.lld fL_law_2349 ho ?_
    refine Ev.iload fL_law_2350 rfl ?_
    refine Ev.i2l fL_law_2352 hvr ?_
    refine Ev.lcmp fL_law_2353 hvr hvr ?_
    rw [if_neg (Int.lt_irrefl _), if_pos rfl]
    refine Ev.if_eq fL_law_2354 rfl (by decide) (fun _ => ?_) (fun h => absurd rfl h)
    refine Ev.goto fL_law_2359 rfl ?_
    refine Ev.fg 6 [(3, 2), (1, 0), (1, 24), (1, 34), (1, 35), (0, i), (9, 0), (0, v), (9, 0), (9, 0)] rfl ?_
    refine Ev.fg 7 [(3, 2), (1, 0), (1, 24), (1, 34), (1, 35), (0, i), (9, 0), (9, 0), (9, 0), (9, 0)] rfl ?_
    exact EN
theorem c_undo {G : zG} {ia : Nat → Int → Int} {i : Int} {n : Nat} (J : zJL G mL_undo [(1, 0), (1, 34), (9, 0)] mX8_undo [(1, 24)] (fun r => r) ia) (hi : 0 ≤ i ∧ i + 5 ≤ (((G.2.2.2.2.2.1 2).1 : Nat) : Int)) (hL : (G.2.2.2.2.2.1 2).1 ≤ 2560) (N : zNext G i n) : zCase G 2362 i (n + 1) ia := by
  intro w
  obtain ⟨ia1, w1, k, r, ce1, hk, hr, hce, E1, hout, hm⟩ := J w
  obtain ⟨ib1, v, E2, hv, hvr, hcode, Q2⟩ := hm w1
  obtain ⟨h2, ce2, hc2, EN⟩ := N ib1 Q2 w1
  have Et : Ev G mX8_thrown 0 [(1, 24)] [] (zH ib1 w1) (.inl (some (0, k)), zH ib1 w1, 0, 0) := by
    have h := eX8_thrown (G := G) (ia := ib1) (w := w1)
    rw [hcode] at h
    exact h
  refine ⟨h2, ce1 + ce2, by omega, ?_⟩
  refine Ev.aload_n_1 fL_law_2362 rfl ?_
  refine Ev.aload_n_1 fL_law_2363 rfl ?_
  refine Ev.cHl (ce2 := ce2) (sl2 := 6 * ce2) [(1, 0), (1, 34)] [] fL_law_2364 lkL_law_251 rfl rfl (by omega) E1 ?_
  refine Ev.sistore [(3, 2), (1, 0), (1, 24), (1, 34), (1, 35), (0, i), (0, k), (9, 0), (9, 0), (9, 0)] fL_law_2367 rfl rfl ?_
  refine Ev.aload_n_1 fL_law_2369 rfl ?_
  refine Ev.cVi 24 [] [] fL_law_2370 lkL_law_253 8 TX8 22 rfl rfl rfl E2 ?_
  refine Ev.sistore [(3, 2), (1, 0), (1, 24), (1, 34), (1, 35), (0, i), (0, k), (0, v), (9, 0), (9, 0)] fL_law_2373 rfl rfl ?_
  refine Ev.aload_n_1 fL_law_2375 rfl ?_
  refine Ev.cVi 24 [] [] fL_law_2376 lkL_law_140 8 TX8 22 rfl rfl rfl Et ?_
  refine Ev.iload fL_law_2379 rfl ?_
  refine Ev.icmp_eq fL_law_2381 rfl ⟨by omega, by omega⟩ ⟨by omega, by omega⟩ (fun _ => ?_) (fun h => absurd rfl h)
  refine Ev.iload fL_law_2386 rfl ?_
  refine Ev.if_ne fL_law_2388 rfl ⟨by omega, by omega⟩ (fun h9 => ?_) (fun h9 => ?_)
  · refine Ev.goto fL_law_2403 rfl ?_
    refine Ev.fg 6 [(3, 2), (1, 0), (1, 24), (1, 34), (1, 35), (0, i), (9, 0), (0, v), (9, 0), (9, 0)] rfl ?_
    refine Ev.fg 7 [(3, 2), (1, 0), (1, 24), (1, 34), (1, 35), (0, i), (9, 0), (9, 0), (9, 0), (9, 0)] rfl ?_
    exact EN
  · have e9 := hv h9
    subst e9
    have ho := hout h9
    refine Ev.aload_n_1 fL_law_2391 rfl ?_
    refine Ev.iconst fL_law_2392 ?_
    refine Ev.lld fL_law_2393 ho ?_
    refine Ev.iload fL_law_2394 rfl ?_
    refine Ev.i2l fL_law_2396 hvr ?_
    refine Ev.lcmp fL_law_2397 hvr hvr ?_
    rw [if_neg (Int.lt_irrefl _), if_pos rfl]
    refine Ev.if_eq fL_law_2398 rfl (by decide) (fun _ => ?_) (fun h => absurd rfl h)
    refine Ev.goto fL_law_2403 rfl ?_
    refine Ev.fg 6 [(3, 2), (1, 0), (1, 24), (1, 34), (1, 35), (0, i), (9, 0), (0, v), (9, 0), (9, 0)] rfl ?_
    refine Ev.fg 7 [(3, 2), (1, 0), (1, 24), (1, 34), (1, 35), (0, i), (9, 0), (9, 0), (9, 0), (9, 0)] rfl ?_
    exact EN
theorem c_restore {G : zG} {ia : Nat → Int → Int} {i : Int} {n : Nat} (J : zJL G mL_restore [(1, 0), (1, 34), (9, 0)] mX8_restore [(1, 24)] (fun r => r) ia) (hi : 0 ≤ i ∧ i + 5 ≤ (((G.2.2.2.2.2.1 2).1 : Nat) : Int)) (hL : (G.2.2.2.2.2.1 2).1 ≤ 2560) (N : zNext G i n) : zCase G 2419 i (n + 1) ia := by
  intro w
  obtain ⟨ia1, w1, k, r, ce1, hk, hr, hce, E1, hout, hm⟩ := J w
  obtain ⟨ib1, v, E2, hv, hvr, hcode, Q2⟩ := hm w1
  obtain ⟨h2, ce2, hc2, EN⟩ := N ib1 Q2 w1
  have Et : Ev G mX8_thrown 0 [(1, 24)] [] (zH ib1 w1) (.inl (some (0, k)), zH ib1 w1, 0, 0) := by
    have h := eX8_thrown (G := G) (ia := ib1) (w := w1)
    rw [hcode] at h
    exact h
  refine ⟨h2, ce1 + ce2, by omega, ?_⟩
  refine Ev.aload_n_1 fL_law_2419 rfl ?_
  refine Ev.aload_n_1 fL_law_2420 rfl ?_
  refine Ev.cHl (ce2 := ce2) (sl2 := 6 * ce2) [(1, 0), (1, 34)] [] fL_law_2421 lkL_law_258 rfl rfl (by omega) E1 ?_
  refine Ev.sistore [(3, 2), (1, 0), (1, 24), (1, 34), (1, 35), (0, i), (0, k), (9, 0), (9, 0), (9, 0)] fL_law_2424 rfl rfl ?_
  refine Ev.aload_n_1 fL_law_2426 rfl ?_
  refine Ev.cVi 24 [] [] fL_law_2427 lkL_law_260 8 TX8 22 rfl rfl rfl E2 ?_
  refine Ev.sistore [(3, 2), (1, 0), (1, 24), (1, 34), (1, 35), (0, i), (0, k), (0, v), (9, 0), (9, 0)] fL_law_2430 rfl rfl ?_
  refine Ev.aload_n_1 fL_law_2432 rfl ?_
  refine Ev.cVi 24 [] [] fL_law_2433 lkL_law_140 8 TX8 22 rfl rfl rfl Et ?_
  refine Ev.iload fL_law_2436 rfl ?_
  refine Ev.icmp_eq fL_law_2438 rfl ⟨by omega, by omega⟩ ⟨by omega, by omega⟩ (fun _ => ?_) (fun h => absurd rfl h)
  refine Ev.iload fL_law_2443 rfl ?_
  refine Ev.if_ne fL_law_2445 rfl ⟨by omega, by omega⟩ (fun h9 => ?_) (fun h9 => ?_)
  · refine Ev.goto fL_law_2460 rfl ?_
    refine Ev.fg 6 [(3, 2), (1, 0), (1, 24), (1, 34), (1, 35), (0, i), (9, 0), (0, v), (9, 0), (9, 0)] rfl ?_
    refine Ev.fg 7 [(3, 2), (1, 0), (1, 24), (1, 34), (1, 35), (0, i), (9, 0), (9, 0), (9, 0), (9, 0)] rfl ?_
    exact EN
  · have e9 := hv h9
    subst e9
    have ho := hout h9
    refine Ev.aload_n_1 fL_law_2448 rfl ?_
    refine Ev.iconst fL_law_2449 ?_
    refine Ev.lld fL_law_2450 ho ?_
    refine Ev.iload fL_law_2451 rfl ?_
    refine Ev.i2l fL_law_2453 hvr ?_
    refine Ev.lcmp fL_law_2454 hvr hvr ?_
    rw [if_neg (Int.lt_irrefl _), if_pos rfl]
    refine Ev.if_eq fL_law_2455 rfl (by decide) (fun _ => ?_) (fun h => absurd rfl h)
    refine Ev.goto fL_law_2460 rfl ?_
    refine Ev.fg 6 [(3, 2), (1, 0), (1, 24), (1, 34), (1, 35), (0, i), (9, 0), (0, v), (9, 0), (9, 0)] rfl ?_
    refine Ev.fg 7 [(3, 2), (1, 0), (1, 24), (1, 34), (1, 35), (0, i), (9, 0), (9, 0), (9, 0), (9, 0)] rfl ?_
    exact EN
theorem c_faultPosition {G : zG} {ia ia1 ib1 : Nat → Int → Int} {i r : Int} {n : Nat} (hr : zI32 r) (Q2 : zQq ib1 ib1) (E1 : ∀ w, Ev G mX7_faultPosition 0 [(1, 0)] [] (zH ia w) (.inl (some (0, r)), zH ia1 w, 0, 0)) (E2 : ∀ w, Ev G mX8_faultPosition 0 [(1, 24)] [] (zH ia1 w) (.inl (some (0, r)), zH ib1 w, 0, 0)) (N : zNext G i n) : zCase G 1949 i (n + 1) ia := by
  intro w
  obtain ⟨h2, ce2, hc2, EN⟩ := N ib1 Q2 w
  refine ⟨h2, ce2, by omega, ?_⟩
  refine Ev.aload_n_1 fL_law_1949 rfl ?_
  refine Ev.cVi 0 [] [] fL_law_1950 lkL_law_223 7 TX7 10 rfl rfl rfl (E1 w) ?_
  refine Ev.aload_n_1 fL_law_1953 rfl ?_
  refine Ev.cVi 24 [] [(0, r)] fL_law_1954 lkL_law_226 8 TX8 22 rfl rfl rfl (E2 w) ?_
  exact Ev.icmp_eq fL_law_1957 rfl hr hr (fun _ => EN) (fun h => absurd rfl h)
theorem c_save {G : zG} {ia ia1 ib1 : Nat → Int → Int} {i r : Int} {n : Nat} (hr : zI32 r) (Q2 : zQq ib1 ib1) (E1 : ∀ w, Ev G mX7_save 0 [(1, 0)] [] (zH ia w) (.inl (some (0, r)), zH ia1 w, 0, 0)) (E2 : ∀ w, Ev G mX8_save 0 [(1, 24)] [] (zH ia1 w) (.inl (some (0, r)), zH ib1 w, 0, 0)) (N : zNext G i n) : zCase G 2406 i (n + 1) ia := by
  intro w
  obtain ⟨h2, ce2, hc2, EN⟩ := N ib1 Q2 w
  refine ⟨h2, ce2, by omega, ?_⟩
  refine Ev.aload_n_1 fL_law_2406 rfl ?_
  refine Ev.cVi 0 [] [] fL_law_2407 lkL_law_254 7 TX7 10 rfl rfl rfl (E1 w) ?_
  refine Ev.aload_n_1 fL_law_2410 rfl ?_
  refine Ev.cVi 24 [] [(0, r)] fL_law_2411 lkL_law_257 8 TX8 22 rfl rfl rfl (E2 w) ?_
  exact Ev.icmp_eq fL_law_2414 rfl hr hr (fun _ => EN) (fun h => absurd rfl h)
theorem ll_mean {G : zG} {ia : Nat → Int → Int} {p0 : Int} {d : UInt64} {k : Int} (hk : k = 0 ∨ k = 1) (h0 : k = 0 → ∀ w, Ev G mX7_mean 0 [(1, 0), (0, p0)] [] (zH ia w) (.inl (some (5, zD d)), zH ia w, 0, 0)) (h1 : k = 1 → ∀ w, Ev G mX7_mean 0 [(1, 0), (0, p0)] [] (zH ia w) (.inr "java/lang/IndexOutOfBoundsException", zH ia w, 1, 6)) (w : (Nat → Int → Int) × (Nat → Int → Int)) : ∃ (w1 : (Nat → Int → Int) × (Nat → Int → Int)) (ce : Nat), ce ≤ 1 ∧ (k = 0 → w1.2 35 0 = zD d) ∧ Ev G mL_mean 0 [(1, 0), (0, p0), (1, 35), (9, 0)] [] (zH ia w) (.inl (some (0, k)), zH ia w1, ce, 6 * ce) := by
  rcases hk with hk | hk
  · have E := h0 hk w
    subst hk
    refine ⟨(w.1, zu w.2 35 0 (zD d)), 0, by decide, fun _ => (show zu w.2 35 0 (zD d) 35 0 = zD d from zu_same), ?_⟩
    refine Ev.aload_n_1 fL_mean_0 rfl ?_
    refine Ev.iconst fL_mean_1 ?_
    refine Ev.aload_n_1 fL_mean_2 rfl ?_
    refine Ev.iload_n fL_mean_3 rfl ?_
    refine Ev.cVi 0 [(0, p0)] [(0, 0), (1, 35)] fL_mean_4 lkL_mean_117 7 TX7 10 rfl rfl rfl E ?_
    refine Ev.dst fL_mean_7 ?_
    refine Ev.goto fL_mean_8 rfl ?_
    refine Ev.iconst fL_mean_14 ?_
    exact Ev.zI fL_mean_15 rfl rfl
  · have E := h1 hk w
    subst hk
    refine ⟨w, 1, by decide, fun e => absurd e (by decide), ?_⟩
    refine Ev.aload_n_1 fL_mean_0 rfl ?_
    refine Ev.iconst fL_mean_1 ?_
    refine Ev.aload_n_1 fL_mean_2 rfl ?_
    refine Ev.iload_n fL_mean_3 rfl ?_
    refine Ev.catchV (ce1 := 1) (sl1 := 6) (ce2 := 0) (sl2 := 0) (rest := [(0, 0), (1, 35)]) 0 [(0, p0)] fL_mean_4 lkL_mean_117 rfl 7 TX7 10 rfl rfl rfl (Nat.le_of_ble_eq_true rfl) (by decide) rfl [] [] (0, 8, 11, 33) "java/lang/IndexOutOfBoundsException" rfl (fun z hz => by cases hz) rfl (by decide) (zT_in 537 (by decide +kernel) rfl) (zNw_in 548 (by decide +kernel) rfl) (Or.inr ⟨3, rfl, fL_mean_11⟩) rfl rfl rfl ?_ E
    refine Ev.iconst fL_mean_12 ?_
    exact Ev.zI fL_mean_13 rfl rfl
theorem c_mean {G : zG} {ia : Nat → Int → Int} {i : Int} {n : Nat} {d : UInt64} {k : Int} (hk : k = 0 ∨ k = 1) (h0 : k = 0 → ∀ w, Ev G mX7_mean 0 [(1, 0), (0, ((G.2.2.2.2.2.1 2).2 (i + 1)))] [] (zH ia w) (.inl (some (5, zD d)), zH ia w, 0, 0)) (h1 : k = 1 → ∀ w, Ev G mX7_mean 0 [(1, 0), (0, ((G.2.2.2.2.2.1 2).2 (i + 1)))] [] (zH ia w) (.inr "java/lang/IndexOutOfBoundsException", zH ia w, 1, 6)) (E2 : ∀ w, Ev G mX8_mean 0 [(1, 24), (0, ((G.2.2.2.2.2.1 2).2 (i + 1)))] [] (zH ia w) (.inl (some (5, zD d)), zH (zu ia 24 8 k) w, 0, 0)) (Q2 : zQq (zu ia 24 8 k) (zu ia 24 8 k)) (hi : 0 ≤ i ∧ i + 5 ≤ (((G.2.2.2.2.2.1 2).1 : Nat) : Int)) (hL : (G.2.2.2.2.2.1 2).1 ≤ 2560) (N : zNext G i n) : zCase G 2186 i (n + 1) ia := by
  intro w
  obtain ⟨w1, ce1, hce, hout, E1⟩ := ll_mean hk h0 h1 w
  obtain ⟨h2, ce2, hc2, EN⟩ := N _ Q2 w1
  have Et : Ev G mX8_thrown 0 [(1, 24)] [] (zH (zu ia 24 8 k) w1) (.inl (some (0, k)), zH (zu ia 24 8 k) w1, 0, 0) := eX8_thrown
  refine ⟨h2, ce1 + ce2, by omega, ?_⟩
  refine Ev.aload_n_1 fL_law_2186 rfl ?_
  refine Ev.aload_n_3 fL_law_2187 rfl ?_
  refine Ev.iload fL_law_2188 rfl ?_
  refine Ev.iconst fL_law_2190 ?_
  refine Ev.iadd fL_law_2191 ?_
  refine Ev.old 2 (v := ((G.2.2.2.2.2.1 2).2 (i + 1))) fL_law_2192 (by decide) ⟨by omega, by omega, by omega⟩ rfl ?_
  refine Ev.aload_1 fL_law_2193 rfl ?_
  refine Ev.cHl (ce2 := ce2) (sl2 := 6 * ce2) [(1, 0), (0, ((G.2.2.2.2.2.1 2).2 (i + 1))), (1, 35)] [] fL_law_2195 lkL_law_239 rfl rfl (by omega) E1 ?_
  refine Ev.sistore [(3, 2), (1, 0), (1, 24), (1, 34), (1, 35), (0, i), (0, k), (9, 0), (9, 0), (9, 0)] fL_law_2198 rfl rfl ?_
  refine Ev.aload_n_1 fL_law_2200 rfl ?_
  refine Ev.aload_n_3 fL_law_2201 rfl ?_
  refine Ev.iload fL_law_2202 rfl ?_
  refine Ev.iconst fL_law_2204 ?_
  refine Ev.iadd fL_law_2205 ?_
  refine Ev.old 2 (v := ((G.2.2.2.2.2.1 2).2 (i + 1))) fL_law_2206 (by decide) ⟨by omega, by omega, by omega⟩ rfl ?_
  refine Ev.cVi 24 [(0, ((G.2.2.2.2.2.1 2).2 (i + 1)))] [] fL_law_2207 lkL_law_242 8 TX8 22 rfl rfl rfl (E2 w1) ?_
  refine Ev.sdstore [(3, 2), (1, 0), (1, 24), (1, 34), (1, 35), (0, i), (0, k), (5, (zD d)), (9, 0), (9, 0)] fL_law_2210 rfl rfl ?_
  refine Ev.aload_n_1 fL_law_2212 rfl ?_
  refine Ev.cVi 24 [] [] fL_law_2213 lkL_law_140 8 TX8 22 rfl rfl rfl Et ?_
  refine Ev.iload fL_law_2216 rfl ?_
  refine Ev.icmp_eq fL_law_2218 rfl ⟨by omega, by omega⟩ ⟨by omega, by omega⟩ (fun _ => ?_) (fun h => absurd rfl h)
  refine Ev.iload fL_law_2223 rfl ?_
  refine Ev.if_ne fL_law_2225 rfl ⟨by omega, by omega⟩ (fun h9 => ?_) (fun h9 => ?_)
  · refine Ev.goto fL_law_2260 rfl ?_
    refine Ev.fg 6 [(3, 2), (1, 0), (1, 24), (1, 34), (1, 35), (0, i), (9, 0), (5, (zD d)), (9, 0), (9, 0)] rfl ?_
    refine Ev.fg 7 [(3, 2), (1, 0), (1, 24), (1, 34), (1, 35), (0, i), (9, 0), (9, 0), (9, 0), (9, 0)] rfl ?_
    exact EN
  · have ho := hout h9
    refine Ev.aload_1 fL_law_2228 rfl ?_
    refine Ev.iconst fL_law_2230 ?_
    refine Ev.dld fL_law_2231 ho ?_
    refine Ev.dload fL_law_2232 rfl ?_
    refine Ev.dcm fL_law_2234 ?_
    refine Ev.if_eq fL_law_2235 rfl (zi32 _) (fun _ => ?_) (fun hX => ?_)
    · refine Ev.goto fL_law_2260 rfl ?_
      refine Ev.fg 6 [(3, 2), (1, 0), (1, 24), (1, 34), (1, 35), (0, i), (9, 0), (5, (zD d)), (9, 0), (9, 0)] rfl ?_
      refine Ev.fg 7 [(3, 2), (1, 0), (1, 24), (1, 34), (1, 35), (0, i), (9, 0), (9, 0), (9, 0), (9, 0)] rfl ?_
      exact EN
    · refine Ev.aload_1 fL_law_2238 rfl ?_
      refine Ev.iconst fL_law_2240 ?_
      refine Ev.dld fL_law_2241 ho ?_
      refine Ev.aload_1 fL_law_2242 rfl ?_
      refine Ev.iconst fL_law_2244 ?_
      refine Ev.dld fL_law_2245 ho ?_
      refine Ev.dcm fL_law_2246 ?_
      refine Ev.if_eq fL_law_2247 rfl (zi32 _) (fun h => absurd h hX) (fun _ => ?_)
      refine Ev.dload fL_law_2250 rfl ?_
      refine Ev.dload fL_law_2252 rfl ?_
      refine Ev.dcm fL_law_2254 ?_
      refine Ev.if_ne fL_law_2255 rfl (zi32 _) (fun _ => ?_) (fun h => absurd h hX)
      refine Ev.goto fL_law_2260 rfl ?_
      refine Ev.fg 6 [(3, 2), (1, 0), (1, 24), (1, 34), (1, 35), (0, i), (9, 0), (5, (zD d)), (9, 0), (9, 0)] rfl ?_
      refine Ev.fg 7 [(3, 2), (1, 0), (1, 24), (1, 34), (1, 35), (0, i), (9, 0), (9, 0), (9, 0), (9, 0)] rfl ?_
      exact EN
theorem c_spared {G : zG} {ia : Nat → Int → Int} {i : Int} {n : Nat} {d : UInt32} (hne : vf_n64 (FP.f2d d)) (E1 : ∀ w, Ev G mX7_spared 0 [(1, 0), (9, 0)] [] (zH ia w) (.inl (some (6, zS d)), zH ia w, 0, 0)) (E2 : ∀ w, Ev G mX8_spared 0 [(1, 24)] [] (zH ia w) (.inl (some (6, zS d)), zH (zu ia 24 8 0) w, 0, 0)) (Q2 : zQq (zu ia 24 8 0) (zu ia 24 8 0)) (N : zNext G i n) : zCase G 2263 i (n + 1) ia := by
  intro w
  obtain ⟨h2, ce2, hc2, EN⟩ := N _ Q2 w
  refine ⟨h2, ce2, by omega, ?_⟩
  refine Ev.aload_n_1 fL_law_2263 rfl ?_
  refine Ev.cVi 0 [] [] fL_law_2264 lkL_law_243 7 TX7 10 rfl rfl rfl (E1 w) ?_
  refine Ev.f2dd fL_law_2267 hne ?_
  refine Ev.sdstore [(3, 2), (1, 0), (1, 24), (1, 34), (1, 35), (0, i), (5, (zD (FP.f2d d))), (9, 0), (9, 0), (9, 0)] fL_law_2268 rfl rfl ?_
  refine Ev.aload_n_1 fL_law_2270 rfl ?_
  refine Ev.cVi 24 [] [] fL_law_2271 lkL_law_247 8 TX8 22 rfl rfl rfl (E2 w) ?_
  refine Ev.f2dd fL_law_2274 hne ?_
  refine Ev.sdstore [(3, 2), (1, 0), (1, 24), (1, 34), (1, 35), (0, i), (5, (zD (FP.f2d d))), (9, 0), (5, (zD (FP.f2d d))), (9, 0)] fL_law_2275 rfl rfl ?_
  refine Ev.dload fL_law_2277 rfl ?_
  refine Ev.dload fL_law_2279 rfl ?_
  refine Ev.dcm fL_law_2281 ?_
  refine Ev.if_eq fL_law_2282 rfl (zi32 _) (fun _ => ?_) (fun hX => ?_)
  · refine Ev.goto fL_law_2303 rfl ?_
    refine Ev.fg 6 [(3, 2), (1, 0), (1, 24), (1, 34), (1, 35), (0, i), (9, 0), (9, 0), (5, (zD (FP.f2d d))), (9, 0)] rfl ?_
    refine Ev.fg 8 [(3, 2), (1, 0), (1, 24), (1, 34), (1, 35), (0, i), (9, 0), (9, 0), (9, 0), (9, 0)] rfl ?_
    exact EN
  · refine Ev.dload fL_law_2285 rfl ?_
    refine Ev.dload fL_law_2287 rfl ?_
    refine Ev.dcm fL_law_2289 ?_
    refine Ev.if_eq fL_law_2290 rfl (zi32 _) (fun h => absurd h hX) (fun _ => ?_)
    refine Ev.dload fL_law_2293 rfl ?_
    refine Ev.dload fL_law_2295 rfl ?_
    refine Ev.dcm fL_law_2297 ?_
    refine Ev.if_ne fL_law_2298 rfl (zi32 _) (fun _ => ?_) (fun h => absurd h hX)
    refine Ev.goto fL_law_2303 rfl ?_
    refine Ev.fg 6 [(3, 2), (1, 0), (1, 24), (1, 34), (1, 35), (0, i), (9, 0), (9, 0), (5, (zD (FP.f2d d))), (9, 0)] rfl ?_
    refine Ev.fg 8 [(3, 2), (1, 0), (1, 24), (1, 34), (1, 35), (0, i), (9, 0), (9, 0), (9, 0), (9, 0)] rfl ?_
    exact EN
theorem zlaw_L {G : zG} (hG : zGo G) (hL : (G.2.2.2.2.2.1 2).1 ≤ 2560) (hS : ∀ x : Int, 0 ≤ x → x < (((G.2.2.2.2.2.1 2).1 : Nat) : Int) → zI32 ((G.2.2.2.2.2.1 2).2 x)) : ∀ (n : Nat) (i : Int) (ia : Nat → Int → Int), 0 ≤ i → (((G.2.2.2.2.2.1 2).1 : Nat) : Int) - i < 5 * n + 5 → i ≤ 2560 → zQq ia ia → zCase G 28 i n ia := by
  intro n
  induction n with
  | zero =>
    intro i ia h1 h2 h3 Q w
    refine ⟨zH ia w, 0, Nat.le_refl 0, ?_⟩
    refine Ev.iload fL_law_28 rfl ?_
    refine Ev.aload_n_3 fL_law_30 rfl ?_
    refine Ev.slen 2 fL_law_31 (by decide) ?_
    refine Ev.iconst fL_law_32 ?_
    refine Ev.isub fL_law_33 ?_
    refine Ev.icmp_gt fL_law_34 rfl ⟨by omega, by omega⟩ ⟨by omega, by omega⟩ (fun h34 => ?_) (fun h34 => by exfalso; omega)
    refine Ev.iconst fL_law_2469 ?_
    exact Ev.zZ fL_law_2470 rfl (Or.inr rfl) rfl
  | succ n ih =>
    intro i ia h1 h2 h3 Q
    by_cases hd : (((G.2.2.2.2.2.1 2).1 : Nat) : Int) - 5 < i
    · intro w
      refine ⟨zH ia w, 0, Nat.zero_le _, ?_⟩
      refine Ev.iload fL_law_28 rfl ?_
      refine Ev.aload_n_3 fL_law_30 rfl ?_
      refine Ev.slen 2 fL_law_31 (by decide) ?_
      refine Ev.iconst fL_law_32 ?_
      refine Ev.isub fL_law_33 ?_
      refine Ev.icmp_gt fL_law_34 rfl ⟨by omega, by omega⟩ ⟨by omega, by omega⟩ (fun h34 => ?_) (fun h34 => by exfalso; omega)
      refine Ev.iconst fL_law_2469 ?_
      exact Ev.zZ fL_law_2470 rfl (Or.inr rfl) rfl
    · have hi : 0 ≤ i ∧ i + 5 ≤ (((G.2.2.2.2.2.1 2).1 : Nat) : Int) := ⟨h1, by omega⟩
      have N : zNext G i n := fun ia2 Q2 w2 => by
        obtain ⟨h9, ce, hce, E⟩ := ih (i + 5) ia2 (by omega) (by omega) (by omega) Q2 w2
        refine ⟨h9, ce, hce, ?_⟩
        refine Ev.siinc [(3, 2), (1, 0), (1, 24), (1, 34), (1, 35), (0, (i + 5)), (9, 0), (9, 0), (9, 0), (9, 0)] fL_law_2463 rfl rfl rfl ?_
        exact Ev.goto fL_law_2466 rfl E
      have s1 := hS (i + 1) (by omega) (by omega)
      have s2 := hS (i + 2) (by omega) (by omega)
      have s3 := hS (i + 3) (by omega) (by omega)
      have s4 := hS (i + 4) (by omega) (by omega)
      have s0 := hS i (by omega) (by omega)
      have D : ∀ pc : Nat, zCase G pc i (n + 1) ia → (∀ O w, Ev G mL_law pc [(3, 2), (1, 0), (1, 24), (1, 34), (1, 35), (0, i), (9, 0), (9, 0), (9, 0), (9, 0)] [] (zH ia w) O → Ev G mL_law 44 [(3, 2), (1, 0), (1, 24), (1, 34), (1, 35), (0, i), (9, 0), (9, 0), (9, 0), (9, 0)] [(0, ((G.2.2.2.2.2.1 2).2 i) % 2 ^ 6)] (zH ia w) O) → zCase G 28 i (n + 1) ia := fun pc C K w => by
        obtain ⟨h9, ce, hce, E⟩ := C w
        refine ⟨h9, ce, hce, ?_⟩
        have EN := K _ w E
        refine Ev.iload fL_law_28 rfl ?_
        refine Ev.aload_n_3 fL_law_30 rfl ?_
        refine Ev.slen 2 fL_law_31 (by decide) ?_
        refine Ev.iconst fL_law_32 ?_
        refine Ev.isub fL_law_33 ?_
        refine Ev.icmp_gt fL_law_34 rfl ⟨by omega, by omega⟩ ⟨by omega, by omega⟩ (fun h34 => by exfalso; omega) (fun h34 => ?_)
        refine Ev.aload_n_3 fL_law_37 rfl ?_
        refine Ev.iload fL_law_38 rfl ?_
        refine Ev.old 2 (v := ((G.2.2.2.2.2.1 2).2 i)) fL_law_40 (by decide) ⟨by omega, by omega, by omega⟩ rfl ?_
        refine Ev.bipush fL_law_41 rfl ?_
        refine Ev.iand 6 (by decide) fL_law_43 (by decide) ?_
        exact EN
      have hm : 0 ≤ ((G.2.2.2.2.2.1 2).2 i) % 2 ^ 6 ∧ ((G.2.2.2.2.2.1 2).2 i) % 2 ^ 6 < 64 := by omega
      generalize hx : ((G.2.2.2.2.2.1 2).2 i) % 2 ^ 6 = x at hm D
      by_cases x0 : x = 0
      · subst x0
        exact D 208 (c_write (ll_write (j_write hG Q s1 s2 s3)) hi hL N) (fun O w E => Ev.tableIn fL_law_44 (by decide) (by decide) rfl rfl E)
      by_cases x1 : x = 1
      · subst x1
        exact D 288 (c_graft (ll_graft (j_graft hG Q s1 s2 s3 s4)) hi hL N) (fun O w E => Ev.tableIn fL_law_44 (by decide) (by decide) rfl rfl E)
      by_cases x2 : x = 2
      · subst x2
        exact D 380 (c_fork (ll_fork (j_fork Q s1 s2)) hi hL N) (fun O w E => Ev.tableIn fL_law_44 (by decide) (by decide) rfl rfl E)
      by_cases x3 : x = 3
      · subst x3
        exact D 448 (c_back (ll_back (j_back Q s1 s2)) hi hL N) (fun O w E => Ev.tableIn fL_law_44 (by decide) (by decide) rfl rfl E)
      by_cases x4 : x = 4
      · subst x4
        exact D 516 (c_pass (ll_pass (j_pass Q s1)) hi hL N) (fun O w E => Ev.tableIn fL_law_44 (by decide) (by decide) rfl rfl E)
      by_cases x5 : x = 5
      · subst x5
        exact D 572 (c_ledger (ll_ledger (j_ledger Q s1)) hi hL N) (fun O w E => Ev.tableIn fL_law_44 (by decide) (by decide) rfl rfl E)
      by_cases x6 : x = 6
      · subst x6
        exact D 628 (c_amount (ll_amount (j_amount Q s1 s2)) hi hL N) (fun O w E => Ev.tableIn fL_law_44 (by decide) (by decide) rfl rfl E)
      by_cases x7 : x = 7
      · subst x7
        exact D 696 (c_sum (ll_sum (j_sum Q s1 s2 s3 hG)) hi hL N) (fun O w E => Ev.tableIn fL_law_44 (by decide) (by decide) rfl rfl E)
      by_cases x8 : x = 8
      · subst x8
        exact D 776 (c_sumAgain (ll_sumAgain (j_sumAgain Q s1 s2 s3)) hi hL N) (fun O w E => Ev.tableIn fL_law_44 (by decide) (by decide) rfl rfl E)
      by_cases x9 : x = 9
      · subst x9
        exact D 856 (c_most (ll_most (j_most Q s1 s2 s3)) hi hL N) (fun O w E => Ev.tableIn fL_law_44 (by decide) (by decide) rfl rfl E)
      by_cases x10 : x = 10
      · subst x10
        exact D 936 (c_reached (ll_reached (j_reached Q s1 s2)) hi hL N) (fun O w E => Ev.tableIn fL_law_44 (by decide) (by decide) rfl rfl E)
      by_cases x11 : x = 11
      · subst x11
        exact D 1004 (c_versionOf (ll_versionOf (j_versionOf Q s1 s2)) hi hL N) (fun O w E => Ev.tableIn fL_law_44 (by decide) (by decide) rfl rfl E)
      by_cases x12 : x = 12
      · subst x12
        exact D 1072 (c_maker (ll_maker (j_maker Q s1 s2)) hi hL N) (fun O w E => Ev.tableIn fL_law_44 (by decide) (by decide) rfl rfl E)
      by_cases x13 : x = 13
      · subst x13
        exact D 1140 (c_had (ll_had (j_had Q s1 s2)) hi hL N) (fun O w E => Ev.tableIn fL_law_44 (by decide) (by decide) rfl rfl E)
      by_cases x14 : x = 14
      · subst x14
        exact D 1208 (c_since (ll_since (j_since Q s1 s2)) hi hL N) (fun O w E => Ev.tableIn fL_law_44 (by decide) (by decide) rfl rfl E)
      by_cases x15 : x = 15
      · subst x15
        exact D 1276 (c_common (ll_common (j_common Q s1 s2)) hi hL N) (fun O w E => Ev.tableIn fL_law_44 (by decide) (by decide) rfl rfl E)
      by_cases x16 : x = 16
      · subst x16
        exact D 1344 (c_apart (ll_apart (j_apart Q s1 s2)) hi hL N) (fun O w E => Ev.tableIn fL_law_44 (by decide) (by decide) rfl rfl E)
      by_cases x17 : x = 17
      · subst x17
        exact D 1412 (c_shared (ll_shared (j_shared Q s1 s2)) hi hL N) (fun O w E => Ev.tableIn fL_law_44 (by decide) (by decide) rfl rfl E)
      by_cases x18 : x = 18
      · subst x18
        exact D 1480 (c_isOf (ll_isOf (j_isOf Q s1 s2)) hi hL N) (fun O w E => Ev.tableIn fL_law_44 (by decide) (by decide) rfl rfl E)
      by_cases x19 : x = 19
      · subst x19
        exact D 1555 (c_users (ll_users (j_users Q s1 s2)) hi hL N) (fun O w E => Ev.tableIn fL_law_44 (by decide) (by decide) rfl rfl E)
      by_cases x20 : x = 20
      · subst x20
        exact D 1623 (c_wouldMake (ll_wouldMake (j_wouldMake Q s1 s2 hG)) hi hL N) (fun O w E => Ev.tableIn fL_law_44 (by decide) (by decide) rfl rfl E)
      by_cases x21 : x = 21
      · subst x21
        exact D 1691 (c_alike (ll_alike (j_alike Q s1)) hi hL N) (fun O w E => Ev.tableIn fL_law_44 (by decide) (by decide) rfl rfl E)
      by_cases x22 : x = 22
      · subst x22
        exact D 1747 (c_richest (ll_richest (j_richest Q s1)) hi hL N) (fun O w E => Ev.tableIn fL_law_44 (by decide) (by decide) rfl rfl E)
      by_cases x23 : x = 23
      · subst x23
        exact D 1803 (c_busiest (ll_busiest (j_busiest Q)) hi hL N) (fun O w E => Ev.tableIn fL_law_44 (by decide) (by decide) rfl rfl E)
      by_cases x24 : x = 24
      · subst x24
        exact D 1847 (c_append (ll_append (j_append Q (by omega))) hi hL N) (fun O w E => Ev.tableIn fL_law_44 (by decide) (by decide) rfl rfl E)
      by_cases x25 : x = 25
      · subst x25
        exact D 1905 (c_commands (ll_commands (j_commands hG Q)) hi hL N) (fun O w E => Ev.tableIn fL_law_44 (by decide) (by decide) rfl rfl E)
      by_cases x26 : x = 26
      · subst x26
        obtain ⟨f1, f2, f3, f4⟩ := j_fault (G := G) Q
        exact D 1949 (c_faultPosition f1 f2 f3 f4 N) (fun O w E => Ev.tableIn fL_law_44 (by decide) (by decide) rfl rfl E)
      by_cases x27 : x = 27
      · subst x27
        exact D 1962 (c_reason (ll_reason (j_reason Q s1)) hi hL N) (fun O w E => Ev.tableIn fL_law_44 (by decide) (by decide) rfl rfl E)
      by_cases x28 : x = 28
      · subst x28
        exact D 2018 (c_line (ll_line (j_line Q s1)) hi hL N) (fun O w E => Ev.tableIn fL_law_44 (by decide) (by decide) rfl rfl E)
      by_cases x29 : x = 29
      · subst x29
        exact D 2074 (c_lineage (ll_lineage (j_lineage Q s1)) hi hL N) (fun O w E => Ev.tableIn fL_law_44 (by decide) (by decide) rfl rfl E)
      by_cases x30 : x = 30
      · subst x30
        exact D 2130 (c_character (ll_character (j_character Q s1)) hi hL N) (fun O w E => Ev.tableIn fL_law_44 (by decide) (by decide) rfl rfl E)
      by_cases x31 : x = 31
      · subst x31
        obtain ⟨k9, d, f1, f2, f3, f4, f5⟩ := j_mean (G := G) Q s1
        exact D 2186 (c_mean f1 f2 f3 f4 f5 hi hL N) (fun O w E => Ev.tableIn fL_law_44 (by decide) (by decide) rfl rfl E)
      by_cases x32 : x = 32
      · subst x32
        obtain ⟨d, f1, f2, f3, f4⟩ := j_spared (G := G) Q
        exact D 2263 (c_spared f1 f2 f3 f4 N) (fun O w E => Ev.tableIn fL_law_44 (by decide) (by decide) rfl rfl E)
      by_cases x33 : x = 33
      · subst x33
        exact D 2306 (c_account (ll_account (j_account Q s1)) hi hL N) (fun O w E => Ev.tableIn fL_law_44 (by decide) (by decide) rfl rfl E)
      by_cases x34 : x = 34
      · subst x34
        exact D 2362 (c_undo (ll_undo (j_undo Q)) hi hL N) (fun O w E => Ev.tableIn fL_law_44 (by decide) (by decide) rfl rfl E)
      by_cases x35 : x = 35
      · subst x35
        obtain ⟨a1, b1, r, f1, f2, f3, f4⟩ := j_save (G := G) Q
        exact D 2406 (c_save f1 f2 f3 f4 N) (fun O w E => Ev.tableIn fL_law_44 (by decide) (by decide) rfl rfl E)
      by_cases x36 : x = 36
      · subst x36
        exact D 2419 (c_restore (ll_restore (j_restore Q)) hi hL N) (fun O w E => Ev.tableIn fL_law_44 (by decide) (by decide) rfl rfl E)
      exact D 2463 (fun w => by
        obtain ⟨h9, ce, hce, E⟩ := N ia Q w
        exact ⟨h9, ce, by omega, E⟩) (fun O w E => Ev.tableOut fL_law_44 ⟨by omega, by omega⟩ (by omega) rfl E)
