/-! RULES IN THE FORM THAT THE WALKER PRINTS (printed by wip/whole/gen/walkrules.py) -/
theorem Ev.sistore {G : zG} {M : zM} {pc pc9 : Nat} {ls st : List zSV} {h : zHp} {O : zO} {i : Nat} {x : Int} (ls9 : List zSV) (hf : zf M pc = some (.istore i, 2, pc9)) (hm : (Nat.ble (i + 1) M.2.2.1 && zb ls i) = true) (hs : ls.set i (0, x) = ls9) (k : Ev G M pc9 ls9 st h O) : Ev G M pc ls ((0, x) :: st) h O := by
  subst hs
  exact Ev.istore hf (Bool.and_eq_true_iff.mp hm).1 (Bool.and_eq_true_iff.mp hm).2 k
theorem Ev.sistore_n {G : zG} {M : zM} {pc pc9 : Nat} {ls st : List zSV} {h : zHp} {O : zO} {i : Fin 4} {x : Int} (ls9 : List zSV) (hf : zf M pc = some (.istore_n i, 1, pc9)) (hm : (Nat.ble (i.val + 1) M.2.2.1 && zb ls i.val) = true) (hs : ls.set i.val (0, x) = ls9) (k : Ev G M pc9 ls9 st h O) : Ev G M pc ls ((0, x) :: st) h O := by
  subst hs
  exact Ev.istore_n hf (Bool.and_eq_true_iff.mp hm).1 (Bool.and_eq_true_iff.mp hm).2 k
theorem Ev.sastore_1 {G : zG} {M : zM} {pc pc9 : Nat} {ls st : List zSV} {h : zHp} {O : zO} {i : Nat} {x : Int} (ls9 : List zSV) (hf : zf M pc = some (.astore i, 2, pc9)) (hm : (Nat.ble (i + 1) M.2.2.1 && zb ls i) = true) (hs : ls.set i (1, x) = ls9) (k : Ev G M pc9 ls9 st h O) : Ev G M pc ls ((1, x) :: st) h O := by
  subst hs
  exact Ev.astore_1 hf (Bool.and_eq_true_iff.mp hm).1 (Bool.and_eq_true_iff.mp hm).2 k
theorem Ev.sastore_2 {G : zG} {M : zM} {pc pc9 : Nat} {ls st : List zSV} {h : zHp} {O : zO} {i : Nat} {x : Int} (ls9 : List zSV) (hf : zf M pc = some (.astore i, 2, pc9)) (hm : (Nat.ble (i + 1) M.2.2.1 && zb ls i) = true) (hs : ls.set i (2, x) = ls9) (k : Ev G M pc9 ls9 st h O) : Ev G M pc ls ((2, x) :: st) h O := by
  subst hs
  exact Ev.astore_2 hf (Bool.and_eq_true_iff.mp hm).1 (Bool.and_eq_true_iff.mp hm).2 k
theorem Ev.sastore_n_1 {G : zG} {M : zM} {pc pc9 : Nat} {ls st : List zSV} {h : zHp} {O : zO} {i : Fin 4} {x : Int} (ls9 : List zSV) (hf : zf M pc = some (.astore_n i, 1, pc9)) (hm : (Nat.ble (i.val + 1) M.2.2.1 && zb ls i.val) = true) (hs : ls.set i.val (1, x) = ls9) (k : Ev G M pc9 ls9 st h O) : Ev G M pc ls ((1, x) :: st) h O := by
  subst hs
  exact Ev.astore_n_1 hf (Bool.and_eq_true_iff.mp hm).1 (Bool.and_eq_true_iff.mp hm).2 k
theorem Ev.sastore_n_2 {G : zG} {M : zM} {pc pc9 : Nat} {ls st : List zSV} {h : zHp} {O : zO} {i : Fin 4} {x : Int} (ls9 : List zSV) (hf : zf M pc = some (.astore_n i, 1, pc9)) (hm : (Nat.ble (i.val + 1) M.2.2.1 && zb ls i.val) = true) (hs : ls.set i.val (2, x) = ls9) (k : Ev G M pc9 ls9 st h O) : Ev G M pc ls ((2, x) :: st) h O := by
  subst hs
  exact Ev.astore_n_2 hf (Bool.and_eq_true_iff.mp hm).1 (Bool.and_eq_true_iff.mp hm).2 k
theorem Ev.siinc {G : zG} {M : zM} {pc pc9 : Nat} {ls st : List zSV} {h : zHp} {O : zO} {i : Nat} {x n : Int} (ls9 : List zSV) (hf : zf M pc = some (.iinc i n, 3, pc9)) (hi : ls[i]? = some (0, x)) (hm : (Nat.ble (i + 1) M.2.2.1 && zb ls i) = true) (hs : ls.set i (0, x + n) = ls9) (k : Ev G M pc9 ls9 st h O) : Ev G M pc ls st h O := by
  subst hs
  exact Ev.iinc hf hi (Bool.and_eq_true_iff.mp hm).1 (Bool.and_eq_true_iff.mp hm).2 k
theorem Ev.old {G : zG} {M : zM} {pc pc9 : Nat} {ls st : List zSV} {ia : Nat → Int → Int} {w : (Nat → Int → Int) × (Nat → Int → Int)} {O : zO} {i : Int} (j : Nat) {v : Int} (hf : zf M pc = some (.iaload, 1, pc9)) (hj : j < 3) (hi : 0 ≤ i ∧ i < ((G.2.2.2.2.2.1 j).1 : Int) ∧ (G.2.2.2.2.2.1 j).1 ≤ 2147483647) (hv : (G.2.2.2.2.2.1 j).2 i = v) (kk : Ev G M pc9 ls ((0, v) :: st) (zH ia w) O) : Ev G M pc ls ((0, i) :: (3, (j : Int)) :: st) (zH ia w) O := by
  subst hv
  exact Ev.saload j hf hj hi.2.2 ⟨hi.1, hi.2.1⟩ kk
theorem Ev.zI {G : zG} {M : zM} {pc pc9 : Nat} {ls : List zSV} {ia : Nat → Int → Int} {w : (Nat → Int → Int) × (Nat → Int → Int)} {x v : Int} (hf : zf M pc = some (.ireturn, 1, pc9)) (hr : M.2.2.2.1 = some .int) (hv : x = v) : Ev G M pc ls [(0, x)] (zH ia w) (.inl (some (0, v)), zH ia w, 0, 0) := Ev.rI (st := []) (O := (.inl none, zH ia w, 0, 0)) hf hr hv
theorem Ev.zZ {G : zG} {M : zM} {pc pc9 : Nat} {ls : List zSV} {ia : Nat → Int → Int} {w : (Nat → Int → Int) × (Nat → Int → Int)} {x v : Int} (hf : zf M pc = some (.ireturn, 1, pc9)) (hr : M.2.2.2.1 = some .boolean) (hx : x = 0 ∨ x = 1) (hv : x = v) : Ev G M pc ls [(0, x)] (zH ia w) (.inl (some (0, v)), zH ia w, 0, 0) := Ev.rZ (st := []) (O := (.inl none, zH ia w, 0, 0)) hf hr hx hv
theorem Ev.zC {G : zG} {M : zM} {pc pc9 : Nat} {ls : List zSV} {ia : Nat → Int → Int} {w : (Nat → Int → Int) × (Nat → Int → Int)} {x v : Int} (hf : zf M pc = some (.ireturn, 1, pc9)) (hr : M.2.2.2.1 = some .char) (hx : 0 ≤ x ∧ x ≤ 65535) (hv : x = v) : Ev G M pc ls [(0, x)] (zH ia w) (.inl (some (0, v)), zH ia w, 0, 0) := Ev.rC (st := []) (O := (.inl none, zH ia w, 0, 0)) hf hr hx hv
theorem Ev.fg {G : zG} {M : zM} {pc : Nat} {ls st : List zSV} {h : zHp} {O : zO} (i : Nat) (ls9 : List zSV) (hs : ls.set i (9, 0) = ls9) (k : Ev G M pc ls9 st h O) : Ev G M pc ls st h O := by
  subst hs
  intro p l e R s m args below meth cd C A hA hE hK ad0 n0 ad H locs cells slots la ha hn hP hD hS hl hcs hss
  refine k p l e R s m args below meth cd C A hA hE hK ad0 n0 ad H locs cells slots la ha hn hP hD hS (lv_less hl fun q hq => ?_) hcs hss
  obtain ⟨w', h1, h2, h3⟩ := zL_mem.mp hq
  by_cases hqi : q.1 = i
  · have hlt : i < ls.length := by
      have := (List.getElem?_eq_some_iff.mp h1).1
      rw [List.length_set] at this
      omega
    rw [hqi, List.getElem?_set_self hlt] at h1
    cases h1
    exact absurd rfl h2
  · rw [List.getElem?_set_ne (Ne.symm hqi)] at h1
    exact zL_mem.mpr ⟨w', h1, h2, h3⟩
theorem Ev.zV {G : zG} {M : zM} {pc pc9 : Nat} {ls : List zSV} {ia : Nat → Int → Int} {w : (Nat → Int → Int) × (Nat → Int → Int)} (hf : zf M pc = some (.return_, 1, pc9)) (hr : M.2.2.2.1 = none) : Ev G M pc ls [] (zH ia w) (.inl none, zH ia w, 0, 0) := Ev.rV (st := []) (O := (.inl none, zH ia w, 0, 0)) hf hr
