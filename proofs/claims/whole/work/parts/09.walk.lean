/-! RULES IN THE FORM THAT THE WALKER PRINTS (printed by wip/whole/gen/walkrules.py) -/
theorem Ev.sistore {G : zG} {M : zM} {pc pc9 : Nat} {ls st : List zSV} {h : zHp} {O : zO} {i : Nat} {x : Int} (ls9 : List zSV) (hf : zf M pc = some (.istore i, 2, pc9)) (hm : (Nat.ble (i + 1) M.2.2.1 && zb ls i) = true) (hs : ls.set i (0, x) = ls9) (k : Ev G M pc9 ls9 st h O) : Ev G M pc ls ((0, x) :: st) h O := by
  subst hs
  exact Ev.istore hf (Bool.and_eq_true_iff.mp hm).1 (Bool.and_eq_true_iff.mp hm).2 k
theorem Ev.sistore_n {G : zG} {M : zM} {pc pc9 : Nat} {ls st : List zSV} {h : zHp} {O : zO} {i : Fin 4} {x : Int} (ls9 : List zSV) (hf : zf M pc = some (.istore_n i, 1, pc9)) (hm : (Nat.ble (i.val + 1) M.2.2.1 && zb ls i.val) = true) (hs : ls.set i.val (0, x) = ls9) (k : Ev G M pc9 ls9 st h O) : Ev G M pc ls ((0, x) :: st) h O := by
  subst hs
  exact Ev.istore_n hf (Bool.and_eq_true_iff.mp hm).1 (Bool.and_eq_true_iff.mp hm).2 k
theorem Ev.sastore_1 {G : zG} {M : zM} {pc pc9 : Nat} {ls st : List zSV} {h : zHp} {O : zO} {i : Nat} {x : Int} (ls9 : List zSV) (hf : zf M pc = some (.astore i, 2, pc9)) (hm : (Nat.ble (i + 1) M.2.2.1 && zb ls i) = true) (hs : ls.set i (1, x) = ls9) (k : Ev G M pc9 ls9 st h O) : Ev G M pc ls ((1, x) :: st) h O := by
  subst hs
  exact Ev.astore_1 hf (Bool.and_eq_true_iff.mp hm).1 (Bool.and_eq_true_iff.mp hm).2 k
theorem Ev.sastore_2 {G : zG} {M : zM} {pc pc9 : Nat} {ls st : List zSV} {h : zHp} {O : zO} {i : Nat} {x : Int} (ls9 : List zSV) (hf : zf M pc = some (.astore i, 2, pc9)) (hm : (Nat.ble (i + 1) M.2.2.1 && zb ls i) = true) (hs : ls.set i (2, x) = ls9) (k : Ev G M pc9 ls9 st h O) : Ev G M pc ls ((2, x) :: st) h O := by
  subst hs
  exact Ev.astore_2 hf (Bool.and_eq_true_iff.mp hm).1 (Bool.and_eq_true_iff.mp hm).2 k
theorem Ev.sastore_n_1 {G : zG} {M : zM} {pc pc9 : Nat} {ls st : List zSV} {h : zHp} {O : zO} {i : Fin 4} {x : Int} (ls9 : List zSV) (hf : zf M pc = some (.astore_n i, 1, pc9)) (hm : (Nat.ble (i.val + 1) M.2.2.1 && zb ls i.val) = true) (hs : ls.set i.val (1, x) = ls9) (k : Ev G M pc9 ls9 st h O) : Ev G M pc ls ((1, x) :: st) h O := by
  subst hs
  exact Ev.astore_n_1 hf (Bool.and_eq_true_iff.mp hm).1 (Bool.and_eq_true_iff.mp hm).2 k
theorem Ev.sastore_n_2 {G : zG} {M : zM} {pc pc9 : Nat} {ls st : List zSV} {h : zHp} {O : zO} {i : Fin 4} {x : Int} (ls9 : List zSV) (hf : zf M pc = some (.astore_n i, 1, pc9)) (hm : (Nat.ble (i.val + 1) M.2.2.1 && zb ls i.val) = true) (hs : ls.set i.val (2, x) = ls9) (k : Ev G M pc9 ls9 st h O) : Ev G M pc ls ((2, x) :: st) h O := by
  subst hs
  exact Ev.astore_n_2 hf (Bool.and_eq_true_iff.mp hm).1 (Bool.and_eq_true_iff.mp hm).2 k
theorem Ev.siinc {G : zG} {M : zM} {pc pc9 : Nat} {ls st : List zSV} {h : zHp} {O : zO} {i : Nat} {x n : Int} (ls9 : List zSV) (hf : zf M pc = some (.iinc i n, 3, pc9)) (hi : ls[i]? = some (0, x)) (hm : (Nat.ble (i + 1) M.2.2.1 && zb ls i) = true) (hs : ls.set i (0, x + n) = ls9) (k : Ev G M pc9 ls9 st h O) : Ev G M pc ls st h O := by
  subst hs
  exact Ev.iinc hf hi (Bool.and_eq_true_iff.mp hm).1 (Bool.and_eq_true_iff.mp hm).2 k
theorem Ev.old {G : zG} {M : zM} {pc pc9 : Nat} {ls st : List zSV} {ia : Nat → Int → Int} {w : (Nat → Int → Int) × (Nat → Int → Int)} {O : zO} {i : Int} (j : Nat) {v : Int} (hf : zf M pc = some (.iaload, 1, pc9)) (hj : j < 3) (hi : 0 ≤ i ∧ i < ((G.2.2.2.2.2.1 j).1 : Int) ∧ (G.2.2.2.2.2.1 j).1 ≤ 2147483647) (hv : (G.2.2.2.2.2.1 j).2 i = v) (kk : Ev G M pc9 ls ((0, v) :: st) (zH ia w) O) : Ev G M pc ls ((0, i) :: (3, (j : Int)) :: st) (zH ia w) O := by
  subst hv
  exact Ev.saload j hf hj hi.2.2 ⟨hi.1, hi.2.1⟩ kk
theorem Ev.zI {G : zG} {M : zM} {pc pc9 : Nat} {ls : List zSV} {ia : Nat → Int → Int} {w : (Nat → Int → Int) × (Nat → Int → Int)} {x v : Int} (hf : zf M pc = some (.ireturn, 1, pc9)) (hr : M.2.2.2.1 = some .int) (hv : x = v) : Ev G M pc ls [(0, x)] (zH ia w) (.inl (some (0, v)), zH ia w, 0, 0) := Ev.rI (st := []) (O := (.inl none, zH ia w, 0, 0)) hf hr hv
theorem Ev.zZ {G : zG} {M : zM} {pc pc9 : Nat} {ls : List zSV} {ia : Nat → Int → Int} {w : (Nat → Int → Int) × (Nat → Int → Int)} {x v : Int} (hf : zf M pc = some (.ireturn, 1, pc9)) (hr : M.2.2.2.1 = some .boolean) (hx : x = 0 ∨ x = 1) (hv : x = v) : Ev G M pc ls [(0, x)] (zH ia w) (.inl (some (0, v)), zH ia w, 0, 0) := Ev.rZ (st := []) (O := (.inl none, zH ia w, 0, 0)) hf hr hx hv
theorem Ev.zC {G : zG} {M : zM} {pc pc9 : Nat} {ls : List zSV} {ia : Nat → Int → Int} {w : (Nat → Int → Int) × (Nat → Int → Int)} {x v : Int} (hf : zf M pc = some (.ireturn, 1, pc9)) (hr : M.2.2.2.1 = some .char) (hx : 0 ≤ x ∧ x ≤ 65535) (hv : x = v) : Ev G M pc ls [(0, x)] (zH ia w) (.inl (some (0, v)), zH ia w, 0, 0) := Ev.rC (st := []) (O := (.inl none, zH ia w, 0, 0)) hf hr hx hv
theorem Ev.fg {G : zG} {M : zM} {pc : Nat} {ls st : List zSV} {h : zHp} {O : zO} (i : Nat) (ls9 : List zSV) (hs : ls.set i (9, 0) = ls9) (k : Ev G M pc ls9 st h O) : Ev G M pc ls st h O := by
  subst hs
  intro p l e R s m args below meth cd C A hA hE hK ad0 n0 ad H locs cells slots la ha hn hP hD hS hl hcs hss
  refine k p l e R s m args below meth cd C A hA hE hK ad0 n0 ad H locs cells slots la ha hn hP hD hS (lv_less hl fun q hq => ?_) hcs hss
  obtain ⟨w', h1, h2, h3⟩ := zL_mem.mp hq
  by_cases hqi : q.1 = i
  · have hlt : i < ls.length := by
      have := (List.getElem?_eq_some_iff.mp h1).1
      rw [List.length_set] at this
      omega
    rw [hqi, List.getElem?_set_self hlt] at h1
    cases h1
    exact absurd rfl h2
  · rw [List.getElem?_set_ne (Ne.symm hqi)] at h1
    exact zL_mem.mpr ⟨w', h1, h2, h3⟩
theorem Ev.sLenE {G : zG} {M : zM} {pc pc9 : Nat} {ls st : List zSV} {ia : Nat → Int → Int} {w : (Nat → Int → Int) × (Nat → Int → Int)} {O : zO} {v : Int} (i : Nat) (hi : Nat.ble (i + 1) 24 = true) (hf : zf M pc = some (.arraylength, 1, pc9)) (hv : ((zSl.getD i 0 : Nat) : Int) = v) (kk : Ev G M pc9 ls ((0, v) :: st) (zH ia w) O) : Ev G M pc ls ((7, (i : Int)) :: st) (zH ia w) O := by
  subst hv
  exact Ev.sLen i (Nat.le_of_ble_eq_true hi) hf kk
theorem Ev.cVTi {G : zG} {M y : zM} {pc pc9 : Nat} {ls : List zSV} {ia ia1 : Nat → Int → Int} {w w1 : (Nat → Int → Int) × (Nat → Int → Int)} {o : Option zSV ⊕ String} {h2 : zHp} {ce sl idx n : Nat} {u : zSV} (i : Nat) (as rest : List zSV) (hf : zf M pc = some (.invokevirtual idx, 3, pc9)) (hl9 : zLkV M idx y n) (hcl : y.1.cls = "java/lang/String") (hac : (Nat.ble (i + 1) 24 && Nat.beq as.length n && as.all (fun v => zcat v == 1) && Nat.ble (as.length + 1) y.2.2.1 && Nat.ble (rest.map zcat).sum 8 && ls.all (zOk 36) && rest.all (zOk 36)) = true)
    (ev : Ev G y 0 (zIn ((2, (i : Int)) :: as) y.2.2.1) [] (zH ia w) (.inl (some u), zH ia1 w1, 0, 0)) (kk : Ev G M pc9 ls (u :: rest) (zH ia1 w1) (o, h2, ce, sl)) : Ev G M pc ls (as.reverse ++ (2, (i : Int)) :: rest) (zH ia w) (o, h2, ce, sl) := by
  simp only [Bool.and_eq_true] at hac
  obtain ⟨⟨⟨⟨⟨⟨g0, g1⟩, g2⟩, g3⟩, g4⟩, g5⟩, g6⟩ := hac
  exact Ev.callVS i (Nat.le_of_ble_eq_true g0) 0 0 as hf hl9 (Nat.eq_of_beq_eq_true g1) hcl (by simpa [zcat] using g2) (Nat.le_of_ble_eq_true g3) (Nat.le_of_ble_eq_true g4) g5 g6 (Nat.ble_self_eq_true _) (Nat.zero_add _) (Nat.zero_add _) ev kk
theorem Ev.zB {G : zG} {M : zM} {pc pc9 : Nat} {ls : List zSV} {ia : Nat → Int → Int} {w : (Nat → Int → Int) × (Nat → Int → Int)} {x : Int} (hf : zf M pc = some (.ireturn, 1, pc9)) (hr : M.2.2.2.1 = some .byte) (hx : (Int32.ofInt x).toInt8.toInt32 = Int32.ofInt x) : Ev G M pc ls [(0, x)] (zH ia w) (.inl (some (0, x)), zH ia w, 0, 0) := Ev.retB (st := []) (pc9 := pc9) hf hr hx
theorem Ev.zT {G : zG} {M : zM} {pc pc9 : Nat} {ls : List zSV} {ia : Nat → Int → Int} {w : (Nat → Int → Int) × (Nat → Int → Int)} {x : Int} (hf : zf M pc = some (.areturn, 1, pc9)) (hr : M.2.2.2.1 = some (.object "java/lang/String")) : Ev G M pc ls [(2, x)] (zH ia w) (.inl (some (2, x)), zH ia w, 0, 0) := Ev.retS (st := []) (O := (.inl none, zH ia w, 0, 0)) hf hr
theorem Ev.zV {G : zG} {M : zM} {pc pc9 : Nat} {ls : List zSV} {ia : Nat → Int → Int} {w : (Nat → Int → Int) × (Nat → Int → Int)} (hf : zf M pc = some (.return_, 1, pc9)) (hr : M.2.2.2.1 = none) : Ev G M pc ls [] (zH ia w) (.inl none, zH ia w, 0, 0) := Ev.rV (st := []) (O := (.inl none, zH ia w, 0, 0)) hf hr
