/-! THE CELLS ONCE THE LAW HAS MADE EVERYTHING, AND THE RULES OVER THEM (printed by wip/whole/gen/steady.py) -/
def zSH : List (Nat × Nat) := [(0, 7), (0, 1), (0, 0), (0, 6), (1, 40), (1, 40), (1, 1240), (1, 1240), (1, 4), (0, 4), (0, 0), (0, 6), (1, 40), (1, 40), (1, 1240), (1, 1240), (1, 4), (0, 3), (1, 72), (0, 2), (2, 60), (1, 4), (0, 5), (2, 109), (0, 8), (1, 1968), (1, 15744), (1, 1968), (1, 1968), (1, 60), (2, 160), (1, 31), (1, 31), (1, 155), (3, 1), (4, 1)]
def zRF : Nat → Nat → Option Nat := fun c k => match c, k with
  | 0, 0 => some 1
  | 0, 1 => some 9
  | 0, 2 => some 2
  | 0, 3 => some 3
  | 0, 4 => some 10
  | 0, 6 => some 17
  | 0, 7 => some 19
  | 0, 9 => some 22
  | 1, 0 => some 2
  | 1, 1 => some 9
  | 1, 2 => some 3
  | 2, 0 => some 3
  | 2, 1 => some 8
  | 3, 1 => some 4
  | 3, 2 => some 5
  | 3, 3 => some 6
  | 3, 4 => some 7
  | 10, 0 => some 11
  | 10, 1 => some 16
  | 11, 1 => some 12
  | 11, 2 => some 13
  | 11, 3 => some 14
  | 11, 4 => some 15
  | 17, 0 => some 18
  | 19, 0 => some 20
  | 19, 4 => some 21
  | 22, 0 => some 23
  | 24, 0 => some 25
  | 24, 1 => some 26
  | 24, 2 => some 27
  | 24, 3 => some 28
  | 24, 12 => some 29
  | 24, 15 => some 30
  | 24, 17 => some 31
  | 24, 18 => some 32
  | 24, 20 => some 33
  | _, _ => none
/-- the heap with these ints and these longs and doubles -/
abbrev zH (ia : Nat → Int → Int) (w : (Nat → Int → Int) × (Nat → Int → Int)) : zHp := (zSH, zRF, ia, w)
theorem zr9 {x : Int} (h1 : -2147483648 ≤ x) (h2 : x ≤ 2147483647) : -2147483648 ≤ x ∧ x ≤ 2147483647 := ⟨h1, h2⟩
theorem Ev.gI {G : zG} {M : zM} {pc pc9 : Nat} {ls st : List zSV} {ia : Nat → Int → Int} {w : (Nat → Int → Int) × (Nat → Int → Int)} {O : zO} {idx ci : Nat} {t : FieldType} {fin : Bool}
    (c k : Nat) {v : Int} (hf : zf M pc = some (.getfield idx, 3, pc9)) (hl9 : zFl M idx ci k t fin) (hc : zSH[c]? = some (0, ci)) (hr : zR ci k = false) (hv : ia c (k : Int) = v) (kk : Ev G M pc9 ls ((0, v) :: st) (zH ia w) O) : Ev G M pc ls ((1, (c : Int)) :: st) (zH ia w) O := by
  subst hv
  exact Ev.getI c k hf hl9 hc hr kk
theorem Ev.gR {G : zG} {M : zM} {pc pc9 : Nat} {ls st : List zSV} {ia : Nat → Int → Int} {w : (Nat → Int → Int) × (Nat → Int → Int)} {O : zO} {idx ci : Nat} {t : FieldType} {fin : Bool}
    (c k q : Nat) (hf : zf M pc = some (.getfield idx, 3, pc9)) (hl9 : zFl M idx ci k t fin) (hc : zSH[c]? = some (0, ci)) (hr : zR ci k = true) (hq : zRF c k = some q) (kk : Ev G M pc9 ls ((1, (q : Int)) :: st) (zH ia w) O) : Ev G M pc ls ((1, (c : Int)) :: st) (zH ia w) O := by
  exact Ev.getR c k q hf hl9 hc hr hq kk
theorem Ev.pI {G : zG} {M : zM} {pc pc9 : Nat} {ls st : List zSV} {ia : Nat → Int → Int} {w : (Nat → Int → Int) × (Nat → Int → Int)} {O : zO} {idx ci : Nat} {t : FieldType} {x : Int}
    (c k : Nat) (hf : zf M pc = some (.putfield idx, 3, pc9)) (hl9 : zFl M idx ci k t false) (hc : zSH[c]? = some (0, ci)) (hr : zR ci k = false) (hx : zNar t x) (kk : Ev G M pc9 ls st (zH (zu ia c (k : Int) x) w) O) : Ev G M pc ls ((0, x) :: (1, (c : Int)) :: st) (zH ia w) O := by
  exact Ev.putI c k hf hl9 hc hr hx kk
theorem Ev.ld {G : zG} {M : zM} {pc pc9 : Nat} {ls st : List zSV} {ia : Nat → Int → Int} {w : (Nat → Int → Int) × (Nat → Int → Int)} {O : zO} {i : Int}
    (c n : Nat) {v : Int} (hf : zf M pc = some (.iaload, 1, pc9)) (hc : zSH[c]? = some (1, n)) (hn2 : Nat.ble n 2147483647 = true) (hi : 0 ≤ i ∧ i < (n : Int)) (hv : ia c i = v) (kk : Ev G M pc9 ls ((0, v) :: st) (zH ia w) O) : Ev G M pc ls ((0, i) :: (1, (c : Int)) :: st) (zH ia w) O := by
  subst hv
  exact Ev.iaload c n hf hc (Nat.le_of_ble_eq_true hn2) hi kk
theorem Ev.cld {G : zG} {M : zM} {pc pc9 : Nat} {ls st : List zSV} {ia : Nat → Int → Int} {w : (Nat → Int → Int) × (Nat → Int → Int)} {O : zO} {i : Int}
    (c n : Nat) {v : Int} (hf : zf M pc = some (.caload, 1, pc9)) (hc : zSH[c]? = some (2, n)) (hn2 : Nat.ble n 2147483647 = true) (hi : 0 ≤ i ∧ i < (n : Int)) (hv : ia c i = v) (kk : Ev G M pc9 ls ((0, v) :: st) (zH ia w) O) : Ev G M pc ls ((0, i) :: (1, (c : Int)) :: st) (zH ia w) O := by
  subst hv
  exact Ev.caload c n hf hc (Nat.le_of_ble_eq_true hn2) hi kk
theorem Ev.stI {G : zG} {M : zM} {pc pc9 : Nat} {ls st : List zSV} {ia : Nat → Int → Int} {w : (Nat → Int → Int) × (Nat → Int → Int)} {O : zO} {i x : Int}
    (c n : Nat) (hf : zf M pc = some (.iastore, 1, pc9)) (hc : zSH[c]? = some (1, n)) (hn2 : Nat.ble n 2147483647 = true) (hi : 0 ≤ i ∧ i < (n : Int)) (kk : Ev G M pc9 ls st (zH (zu ia c i x) w) O) : Ev G M pc ls ((0, x) :: (0, i) :: (1, (c : Int)) :: st) (zH ia w) O := by
  exact Ev.iastore c n hf hc (Nat.le_of_ble_eq_true hn2) hi kk
theorem Ev.stC {G : zG} {M : zM} {pc pc9 : Nat} {ls st : List zSV} {ia : Nat → Int → Int} {w : (Nat → Int → Int) × (Nat → Int → Int)} {O : zO} {i x : Int}
    (c n : Nat) (hf : zf M pc = some (.castore, 1, pc9)) (hc : zSH[c]? = some (2, n)) (hn2 : Nat.ble n 2147483647 = true) (hi : 0 ≤ i ∧ i < (n : Int)) (hx : 0 ≤ x ∧ x ≤ 65535) (kk : Ev G M pc9 ls st (zH (zu ia c i x) w) O) : Ev G M pc ls ((0, x) :: (0, i) :: (1, (c : Int)) :: st) (zH ia w) O := by
  exact Ev.castore c n hf hc (Nat.le_of_ble_eq_true hn2) hi hx kk
theorem Ev.al {G : zG} {M : zM} {pc pc9 : Nat} {ls st : List zSV} {ia : Nat → Int → Int} {w : (Nat → Int → Int) × (Nat → Int → Int)} {O : zO} 
    (c n : Nat) (hf : zf M pc = some (.arraylength, 1, pc9)) (hc : zSH[c]? = some (1, n)) (kk : Ev G M pc9 ls ((0, (n : Int)) :: st) (zH ia w) O) : Ev G M pc ls ((1, (c : Int)) :: st) (zH ia w) O := by
  exact Ev.alen c n hf hc (Or.inl rfl) kk
theorem Ev.cp {G : zG} {M : zM} {pc pc9 : Nat} {ls st : List zSV} {ia : Nat → Int → Int} {w : (Nat → Int → Int) × (Nat → Int → Int)} {O : zO} {idx : Nat} {sp dp n : Int}
    (c0 c1 n0a n1 : Nat) (hf : zf M pc = some (.invokestatic idx, 3, pc9)) (hl9 : Cond.methodLink M.1.cls idx arraycopyName ∈ zT) (z9 : Cond.native arraycopyName ∈ zT ∧ Cond.static arraycopyName ∈ zT ∧ Cond.initialized "java/lang/System" ∈ zT) (hc0 : zSH[c0]? = some (1, n0a)) (hc1 : zSH[c1]? = some (1, n1)) (h0n : Nat.ble n0a 2147483647 = true) (h1n : Nat.ble n1 2147483647 = true) (h1 : 0 ≤ sp ∧ 0 ≤ dp ∧ 0 ≤ n ∧ sp + n ≤ (n0a : Int) ∧ dp + n ≤ (n1 : Int)) (hfr : Nat.ble 1 M.2.2.2.2.2.1 = true) (hlo : Nat.ble ((st.map zcat).sum + 18) M.2.2.2.2.2.2 = true) (kk : Ev G M pc9 ls st (zH (zcp ia c0 sp c1 dp n) w) O) : Ev G M pc ls ((0, n) :: (0, dp) :: (1, (c1 : Int)) :: (0, sp) :: (1, (c0 : Int)) :: st) (zH ia w) O := by
  exact Ev.copy c0 c1 n0a n1 hf hl9 z9.1 z9.2.1 z9.2.2 hc0 hc1 (Nat.le_of_ble_eq_true h0n) (Nat.le_of_ble_eq_true h1n) h1 (Nat.le_of_ble_eq_true hfr) (Nat.le_of_ble_eq_true hlo) kk
theorem Ev.rI {G : zG} {M : zM} {pc pc9 : Nat} {ls st : List zSV} {ia : Nat → Int → Int} {w : (Nat → Int → Int) × (Nat → Int → Int)} {O : zO} {x v : Int}
    (hf : zf M pc = some (.ireturn, 1, pc9)) (hr : M.2.2.2.1 = some .int) (hv : x = v) : Ev G M pc ls [(0, x)] (zH ia w) (.inl (some (0, v)), zH ia w, 0, 0) := by
  subst hv
  exact Ev.retI (st := []) (O := (.inl none, zH ia w, 0, 0)) hf hr trivial
theorem Ev.rZ {G : zG} {M : zM} {pc pc9 : Nat} {ls st : List zSV} {ia : Nat → Int → Int} {w : (Nat → Int → Int) × (Nat → Int → Int)} {O : zO} {x v : Int}
    (hf : zf M pc = some (.ireturn, 1, pc9)) (hr : M.2.2.2.1 = some .boolean) (hx : x = 0 ∨ x = 1) (hv : x = v) : Ev G M pc ls [(0, x)] (zH ia w) (.inl (some (0, v)), zH ia w, 0, 0) := by
  subst hv
  exact Ev.retI (st := []) (O := (.inl none, zH ia w, 0, 0)) hf hr hx
theorem Ev.rC {G : zG} {M : zM} {pc pc9 : Nat} {ls st : List zSV} {ia : Nat → Int → Int} {w : (Nat → Int → Int) × (Nat → Int → Int)} {O : zO} {x v : Int}
    (hf : zf M pc = some (.ireturn, 1, pc9)) (hr : M.2.2.2.1 = some .char) (hx : 0 ≤ x ∧ x ≤ 65535) (hv : x = v) : Ev G M pc ls [(0, x)] (zH ia w) (.inl (some (0, v)), zH ia w, 0, 0) := by
  subst hv
  exact Ev.retI (st := []) (O := (.inl none, zH ia w, 0, 0)) hf hr hx
theorem Ev.rV {G : zG} {M : zM} {pc pc9 : Nat} {ls st : List zSV} {ia : Nat → Int → Int} {w : (Nat → Int → Int) × (Nat → Int → Int)} {O : zO} 
    (hf : zf M pc = some (.return_, 1, pc9)) (hr : M.2.2.2.1 = none) : Ev G M pc ls [] (zH ia w) (.inl none, zH ia w, 0, 0) := by
  exact Ev.retV (st := []) (O := (.inl none, zH ia w, 0, 0)) hf hr
theorem Ev.cVi {G : zG} {M y : zM} {pc pc9 : Nat} {ls : List zSV} {ia ia1 : Nat → Int → Int} {w w1 : (Nat → Int → Int) × (Nat → Int → Int)} {o : Option zSV ⊕ String} {h2 : zHp} {ce sl idx n : Nat} {u : zSV} (c : Nat) (as rest : List zSV) (hf : zf M pc = some (.invokevirtual idx, 3, pc9)) (hl9 : zLkV M idx y n) (ci : Nat) (TT : u_T) (NN : Nat) (hcl : vwCl[ci]? = some (y.1.cls, TT, NN)) (hc : zSH[c]? = some (0, ci)) (hac : (Nat.beq as.length n && as.all (fun v => zcat v == 1) && Nat.ble (as.length + 1) y.2.2.1 && Nat.ble (rest.map zcat).sum 8 && ls.all (zOk 36) && rest.all (zOk 36)) = true)
    (ev : Ev G y 0 (zIn ((1, (c : Int)) :: as) y.2.2.1) [] (zH ia w) (.inl (some u), zH ia1 w1, 0, 0)) (kk : Ev G M pc9 ls (u :: rest) (zH ia1 w1) (o, h2, ce, sl)) : Ev G M pc ls (as.reverse ++ (1, (c : Int)) :: rest) (zH ia w) (o, h2, ce, sl) := by
  simp only [Bool.and_eq_true] at hac
  obtain ⟨⟨⟨⟨⟨g1, g2⟩, g3⟩, g4⟩, g5⟩, g6⟩ := hac
  exact Ev.callV c 0 0 as hf hl9 (Nat.eq_of_beq_eq_true g1) ci TT NN hcl hc (by simpa [zcat] using g2) (Nat.le_of_ble_eq_true g3) (Nat.le_of_ble_eq_true g4) g5 g6 (Nat.ble_self_eq_true _) (Nat.zero_add _) (Nat.zero_add _) ev kk
theorem Ev.cVv {G : zG} {M y : zM} {pc pc9 : Nat} {ls : List zSV} {ia ia1 : Nat → Int → Int} {w w1 : (Nat → Int → Int) × (Nat → Int → Int)} {o : Option zSV ⊕ String} {h2 : zHp} {ce sl idx n : Nat}  (c : Nat) (as rest : List zSV) (hf : zf M pc = some (.invokevirtual idx, 3, pc9)) (hl9 : zLkV M idx y n) (ci : Nat) (TT : u_T) (NN : Nat) (hcl : vwCl[ci]? = some (y.1.cls, TT, NN)) (hc : zSH[c]? = some (0, ci)) (hac : (Nat.beq as.length n && as.all (fun v => zcat v == 1) && Nat.ble (as.length + 1) y.2.2.1 && Nat.ble (rest.map zcat).sum 8 && ls.all (zOk 36) && rest.all (zOk 36)) = true)
    (ev : Ev G y 0 (zIn ((1, (c : Int)) :: as) y.2.2.1) [] (zH ia w) (.inl none, zH ia1 w1, 0, 0)) (kk : Ev G M pc9 ls rest (zH ia1 w1) (o, h2, ce, sl)) : Ev G M pc ls (as.reverse ++ (1, (c : Int)) :: rest) (zH ia w) (o, h2, ce, sl) := by
  simp only [Bool.and_eq_true] at hac
  obtain ⟨⟨⟨⟨⟨g1, g2⟩, g3⟩, g4⟩, g5⟩, g6⟩ := hac
  exact Ev.callV c 0 0 as hf hl9 (Nat.eq_of_beq_eq_true g1) ci TT NN hcl hc (by simpa [zcat] using g2) (Nat.le_of_ble_eq_true g3) (Nat.le_of_ble_eq_true g4) g5 g6 (Nat.ble_self_eq_true _) (Nat.zero_add _) (Nat.zero_add _) ev kk
theorem Ev.cSi {G : zG} {M y : zM} {pc pc9 : Nat} {ls : List zSV} {ia ia1 : Nat → Int → Int} {w w1 : (Nat → Int → Int) × (Nat → Int → Int)} {o : Option zSV ⊕ String} {h2 : zHp} {ce sl idx n : Nat} {u : zSV} (as rest : List zSV) (hf : zf M pc = some (.invokestatic idx, 3, pc9)) (hl9 : zLkS M idx y n) (hac : (Nat.beq as.length n && as.all (fun v => zcat v == 1) && Nat.ble as.length y.2.2.1 && Nat.ble (rest.map zcat).sum 8 && ls.all (zOk 36) && rest.all (zOk 36)) = true)
    (ev : Ev G y 0 (zIn as y.2.2.1) [] (zH ia w) (.inl (some u), zH ia1 w1, 0, 0)) (kk : Ev G M pc9 ls (u :: rest) (zH ia1 w1) (o, h2, ce, sl)) : Ev G M pc ls (as.reverse ++ rest) (zH ia w) (o, h2, ce, sl) := by
  simp only [Bool.and_eq_true] at hac
  obtain ⟨⟨⟨⟨⟨g1, g2⟩, g3⟩, g4⟩, g5⟩, g6⟩ := hac
  exact Ev.callS 0 0 as hf hl9 (Nat.eq_of_beq_eq_true g1) g2 (Nat.le_of_ble_eq_true g3) (Nat.le_of_ble_eq_true g4) g5 g6 (Nat.ble_self_eq_true _) (Nat.zero_add _) (Nat.zero_add _) ev kk
theorem Ev.cSv {G : zG} {M y : zM} {pc pc9 : Nat} {ls : List zSV} {ia ia1 : Nat → Int → Int} {w w1 : (Nat → Int → Int) × (Nat → Int → Int)} {o : Option zSV ⊕ String} {h2 : zHp} {ce sl idx n : Nat}  (as rest : List zSV) (hf : zf M pc = some (.invokestatic idx, 3, pc9)) (hl9 : zLkS M idx y n) (hac : (Nat.beq as.length n && as.all (fun v => zcat v == 1) && Nat.ble as.length y.2.2.1 && Nat.ble (rest.map zcat).sum 8 && ls.all (zOk 36) && rest.all (zOk 36)) = true)
    (ev : Ev G y 0 (zIn as y.2.2.1) [] (zH ia w) (.inl none, zH ia1 w1, 0, 0)) (kk : Ev G M pc9 ls rest (zH ia1 w1) (o, h2, ce, sl)) : Ev G M pc ls (as.reverse ++ rest) (zH ia w) (o, h2, ce, sl) := by
  simp only [Bool.and_eq_true] at hac
  obtain ⟨⟨⟨⟨⟨g1, g2⟩, g3⟩, g4⟩, g5⟩, g6⟩ := hac
  exact Ev.callS 0 0 as hf hl9 (Nat.eq_of_beq_eq_true g1) g2 (Nat.le_of_ble_eq_true g3) (Nat.le_of_ble_eq_true g4) g5 g6 (Nat.ble_self_eq_true _) (Nat.zero_add _) (Nat.zero_add _) ev kk
theorem Ev.cSNi {G : zG} {M y : zM} {pc pc9 : Nat} {ls : List zSV} {ia ia1 : Nat → Int → Int} {w w1 : (Nat → Int → Int) × (Nat → Int → Int)} {o : Option zSV ⊕ String} {h2 : zHp} {ce sl idx n : Nat} {u : zSV} (as rest : List zSV) (hf : zf M pc = some (.invokestatic idx, 3, pc9)) (hl9 : zLkSN M idx y n) (hac : (Nat.beq as.length n && as.all (fun v => zcat v == 1) && Nat.ble as.length y.2.2.1 && Nat.ble (rest.map zcat).sum 8 && ls.all (zOk 36) && rest.all (zOk 36)) = true)
    (ev : Ev G y 0 (zIn as y.2.2.1) [] (zH ia w) (.inl (some u), zH ia1 w1, 0, 0)) (kk : Ev G M pc9 ls (u :: rest) (zH ia1 w1) (o, h2, ce, sl)) : Ev G M pc ls (as.reverse ++ rest) (zH ia w) (o, h2, ce, sl) := by
  simp only [Bool.and_eq_true] at hac
  obtain ⟨⟨⟨⟨⟨g1, g2⟩, g3⟩, g4⟩, g5⟩, g6⟩ := hac
  exact Ev.callSN 0 0 as hf hl9 (Nat.eq_of_beq_eq_true g1) g2 (Nat.le_of_ble_eq_true g3) (Nat.le_of_ble_eq_true g4) g5 g6 (Nat.ble_self_eq_true _) (Nat.zero_add _) (Nat.zero_add _) ev kk
theorem Ev.cSNv {G : zG} {M y : zM} {pc pc9 : Nat} {ls : List zSV} {ia ia1 : Nat → Int → Int} {w w1 : (Nat → Int → Int) × (Nat → Int → Int)} {o : Option zSV ⊕ String} {h2 : zHp} {ce sl idx n : Nat}  (as rest : List zSV) (hf : zf M pc = some (.invokestatic idx, 3, pc9)) (hl9 : zLkSN M idx y n) (hac : (Nat.beq as.length n && as.all (fun v => zcat v == 1) && Nat.ble as.length y.2.2.1 && Nat.ble (rest.map zcat).sum 8 && ls.all (zOk 36) && rest.all (zOk 36)) = true)
    (ev : Ev G y 0 (zIn as y.2.2.1) [] (zH ia w) (.inl none, zH ia1 w1, 0, 0)) (kk : Ev G M pc9 ls rest (zH ia1 w1) (o, h2, ce, sl)) : Ev G M pc ls (as.reverse ++ rest) (zH ia w) (o, h2, ce, sl) := by
  simp only [Bool.and_eq_true] at hac
  obtain ⟨⟨⟨⟨⟨g1, g2⟩, g3⟩, g4⟩, g5⟩, g6⟩ := hac
  exact Ev.callSN 0 0 as hf hl9 (Nat.eq_of_beq_eq_true g1) g2 (Nat.le_of_ble_eq_true g3) (Nat.le_of_ble_eq_true g4) g5 g6 (Nat.ble_self_eq_true _) (Nat.zero_add _) (Nat.zero_add _) ev kk
theorem Ev.cHi {G : zG} {M y : zM} {pc pc9 : Nat} {ls : List zSV} {ia ia1 : Nat → Int → Int} {w w1 : (Nat → Int → Int) × (Nat → Int → Int)} {o : Option zSV ⊕ String} {h2 : zHp} {ce sl idx n : Nat} {u : zSV} (as rest : List zSV) (hf : zf M pc = some (.invokestatic idx, 3, pc9)) (hl9 : zLkH M idx y n) (hac : (Nat.beq as.length n && as.all (fun v => zcat v == 1) && Nat.ble as.length y.2.2.1 && Nat.ble (rest.map zcat).sum 8 && ls.all (zOk 36) && rest.all (zOk 36)) = true)
    (ev : Ev G y 0 (zIn as y.2.2.1) [] (zH ia w) (.inl (some u), zH ia1 w1, 0, 0)) (kk : Ev G M pc9 ls (u :: rest) (zH ia1 w1) (o, h2, ce, sl)) : Ev G M pc ls (as.reverse ++ rest) (zH ia w) (o, h2, ce, sl) := by
  simp only [Bool.and_eq_true] at hac
  obtain ⟨⟨⟨⟨⟨g1, g2⟩, g3⟩, g4⟩, g5⟩, g6⟩ := hac
  exact Ev.callH 0 0 as hf hl9 (Nat.eq_of_beq_eq_true g1) g2 (Nat.le_of_ble_eq_true g3) (Nat.le_of_ble_eq_true g4) g5 g6 (Nat.ble_self_eq_true _) (Nat.zero_add _) (Nat.zero_add _) ev kk
theorem Ev.cHv {G : zG} {M y : zM} {pc pc9 : Nat} {ls : List zSV} {ia ia1 : Nat → Int → Int} {w w1 : (Nat → Int → Int) × (Nat → Int → Int)} {o : Option zSV ⊕ String} {h2 : zHp} {ce sl idx n : Nat}  (as rest : List zSV) (hf : zf M pc = some (.invokestatic idx, 3, pc9)) (hl9 : zLkH M idx y n) (hac : (Nat.beq as.length n && as.all (fun v => zcat v == 1) && Nat.ble as.length y.2.2.1 && Nat.ble (rest.map zcat).sum 8 && ls.all (zOk 36) && rest.all (zOk 36)) = true)
    (ev : Ev G y 0 (zIn as y.2.2.1) [] (zH ia w) (.inl none, zH ia1 w1, 0, 0)) (kk : Ev G M pc9 ls rest (zH ia1 w1) (o, h2, ce, sl)) : Ev G M pc ls (as.reverse ++ rest) (zH ia w) (o, h2, ce, sl) := by
  simp only [Bool.and_eq_true] at hac
  obtain ⟨⟨⟨⟨⟨g1, g2⟩, g3⟩, g4⟩, g5⟩, g6⟩ := hac
  exact Ev.callH 0 0 as hf hl9 (Nat.eq_of_beq_eq_true g1) g2 (Nat.le_of_ble_eq_true g3) (Nat.le_of_ble_eq_true g4) g5 g6 (Nat.ble_self_eq_true _) (Nat.zero_add _) (Nat.zero_add _) ev kk
theorem Ev.xV {G : zG} {M y : zM} {pc pc9 : Nat} {ls : List zSV} {ia ia1 : Nat → Int → Int} {w w1 : (Nat → Int → Int) × (Nat → Int → Int)} {E : String} {idx n : Nat} (c : Nat) (as rest : List zSV) (hf : zf M pc = some (.invokevirtual idx, 3, pc9)) (hl9 : zLkV M idx y n) (ci : Nat) (TT : u_T) (NN : Nat) (hcl : vwCl[ci]? = some (y.1.cls, TT, NN)) (hc : zSH[c]? = some (0, ci)) (hac : (Nat.beq as.length n && as.all (fun v => zcat v == 1) && Nat.ble (as.length + 1) y.2.2.1 && Nat.ble (rest.map zcat).sum 8) = true) (hh : M.2.2.2.2.1 = [])
    (ev : Ev G y 0 (zIn ((1, (c : Int)) :: as) y.2.2.1) [] (zH ia w) (.inr E, zH ia1 w1, 1, 6)) : Ev G M pc ls (as.reverse ++ (1, (c : Int)) :: rest) (zH ia w) (.inr E, zH ia1 w1, 1, 6) := by
  simp only [Bool.and_eq_true] at hac
  obtain ⟨⟨⟨g1, g2⟩, g3⟩, g4⟩ := hac
  exact Ev.passV c as hf hl9 (Nat.eq_of_beq_eq_true g1) ci TT NN hcl hc (by simpa [zcat] using g2) (Nat.le_of_ble_eq_true g3) (Nat.le_of_ble_eq_true g4) (Nat.ble_self_eq_true _) hh ev
theorem Ev.xS {G : zG} {M y : zM} {pc pc9 : Nat} {ls : List zSV} {ia ia1 : Nat → Int → Int} {w w1 : (Nat → Int → Int) × (Nat → Int → Int)} {E : String} {idx n : Nat} (as rest : List zSV) (hf : zf M pc = some (.invokestatic idx, 3, pc9)) (hl9 : zLkS M idx y n) (hac : (Nat.beq as.length n && as.all (fun v => zcat v == 1) && Nat.ble as.length y.2.2.1 && Nat.ble (rest.map zcat).sum 8) = true) (hh : M.2.2.2.2.1 = [])
    (ev : Ev G y 0 (zIn as y.2.2.1) [] (zH ia w) (.inr E, zH ia1 w1, 1, 6)) : Ev G M pc ls (as.reverse ++ rest) (zH ia w) (.inr E, zH ia1 w1, 1, 6) := by
  simp only [Bool.and_eq_true] at hac
  obtain ⟨⟨⟨g1, g2⟩, g3⟩, g4⟩ := hac
  exact Ev.passS as hf hl9 (Nat.eq_of_beq_eq_true g1) g2 (Nat.le_of_ble_eq_true g3) (Nat.le_of_ble_eq_true g4) (Nat.ble_self_eq_true _) hh ev
/-! SUMS -/
def zsN (f : Int → Int) : Nat → Int
  | 0 => 0
  | n + 1 => zsN f n + f (n : Int)
/-- the sum of f over 0 .. k - 1 -/
def zsum (f : Int → Int) (k : Int) : Int := zsN f k.toNat
theorem zsum_0 {f : Int → Int} : zsum f 0 = 0 := rfl
theorem zsum_s {f : Int → Int} {k : Int} (h : 0 ≤ k) : zsum f (k + 1) = zsum f k + f k := by
  obtain ⟨n, rfl⟩ := Int.eq_ofNat_of_zero_le h
  show zsN f ((n : Int) + 1).toNat = zsN f ((n : Int)).toNat + f n
  rw [show ((n : Int) + 1).toNat = n + 1 by omega, Int.toNat_natCast]
  rfl
theorem zsN_congr {f g : Int → Int} : ∀ n : Nat, (∀ j : Int, 0 ≤ j → j < n → f j = g j) → zsN f n = zsN g n
  | 0, _ => rfl
  | n + 1, h => by
    show zsN f n + f n = zsN g n + g n
    rw [zsN_congr n (fun j h1 h2 => h j h1 (by omega)), h n (by omega) (by omega)]
theorem zsum_congr {f g : Int → Int} {k : Int} (h : ∀ j : Int, 0 ≤ j → j < k → f j = g j) : zsum f k = zsum g k := zsN_congr _ (fun j h1 h2 => h j h1 (by omega))
theorem zsN_le {f : Int → Int} {m M : Int} : ∀ n : Nat, (∀ j : Int, 0 ≤ j → j < n → m ≤ f j ∧ f j ≤ M) → m * n ≤ zsN f n ∧ zsN f n ≤ M * n
  | 0, _ => ⟨by simp [zsN], by simp [zsN]⟩
  | n + 1, h => by
    obtain ⟨h1, h2⟩ := zsN_le n (fun j h1 h2 => h j h1 (by omega))
    obtain ⟨h3, h4⟩ := h n (by omega) (by omega)
    have e1 : m * ((n + 1 : Nat) : Int) = m * n + m := by rw [Int.natCast_succ, Int.mul_add, Int.mul_one]
    have e2 : M * ((n + 1 : Nat) : Int) = M * n + M := by rw [Int.natCast_succ, Int.mul_add, Int.mul_one]
    rw [e1, e2]
    show m * n + m ≤ zsN f n + f n ∧ zsN f n + f n ≤ M * n + M
    omega
theorem zsum_le {f : Int → Int} {m M k : Int} (hk : 0 ≤ k) (h : ∀ j : Int, 0 ≤ j → j < k → m ≤ f j ∧ f j ≤ M) : m * k ≤ zsum f k ∧ zsum f k ≤ M * k := by
  obtain ⟨n, rfl⟩ := Int.eq_ofNat_of_zero_le hk
  exact zsN_le n (fun j h1 h2 => h j h1 (by omega))
theorem zu_same {ia : Nat → Int → Int} {c : Nat} {i x : Int} : zu ia c i x c i = x := by
  unfold zu
  rw [if_pos ⟨rfl, rfl⟩]
theorem zu_cell {ia : Nat → Int → Int} {c c' : Nat} {i i' x : Int} (h : c' ≠ c) : zu ia c i x c' i' = ia c' i' := by
  unfold zu
  rw [if_neg (fun e => h e.1)]
theorem zu_place {ia : Nat → Int → Int} {c c' : Nat} {i i' x : Int} (h : i' ≠ i) : zu ia c i x c' i' = ia c' i' := by
  unfold zu
  rw [if_neg (fun e => h e.2)]
/-- the lowest and the highest line of a span -/
def zlow (s : Int) : Int := if s = 0 then 0 else if s ≤ 2 then (s - 1) * 8 else if s ≤ 6 then (s - 3) * 4 else if s ≤ 14 then (s - 7) * 2 else s - 15
def zhig (s : Int) : Int := if s = 0 then 15 else if s ≤ 2 then (s - 1) * 8 + 7 else if s ≤ 6 then (s - 3) * 4 + 3 else if s ≤ 14 then (s - 7) * 2 + 1 else s - 15
