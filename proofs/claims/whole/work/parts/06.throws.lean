/-! THROWS, THEIR PASSING ON, THEIR CATCHING; TEXT CONSTANTS; FLOATS (printed by wip/whole/gen/sim5.py) -/
def zEx : List String := ["java/lang/RuntimeException", "java/lang/Exception"]
/-- 'new E("..")' in the code of M -/
def zTh (M : zM) (ik ic : Nat) (cls : String) : Prop := Bundle.fit cls = true ∧ Cond.classLink M.1.cls ik cls ∈ zT ∧ Cond.initialized cls ∈ zT ∧ (∀ w ∈ (vx_atS M.1.cls ic cls zEx).filter goodWord, w ∈ zT) ∧ (∀ w ∈ (vx_atS M.1.cls ic cls zEx).filter (fun w => !goodWord w), w ∈ zNw) ∧ (∀ w ∈ Cond.classLink M.1.cls ik cls :: Cond.initialized cls :: vx_atS M.1.cls ic cls zEx, vx_ot w = true)
theorem zEx_fit : ∀ n ∈ zEx, Bundle.fit n = true := by decide +kernel
theorem zNw_ot {w : Cond} (h : w ∈ zNw) : w.onTables = true := by
  have h1 := (List.mem_filter.mp h).2
  cases w <;> first | rfl | (cases h1)
theorem Ev.throw {G : zG} {M : zM} {pc pc9 : Nat} {ls st : List zSV} {sh : List (Nat × Nat)} {rf : Nat → Nat → Option Nat} {ia : Nat → Int → Int} {w : (Nat → Int → Int) × (Nat → Int → Int)} {p1 p2 p3 p4 p5 ik ic is : Nat} {cls tx : String} (i : Nat) (hl9 : zTh M ik ic cls) (f0 : zf M pc = some (.new ik, 3, p1)) (f1 : zf M p1 = some (.dup, 1, p2)) (f2 : zf M p2 = some (.ldc is, 2, p3)) (f3 : zf M p3 = some (.invokespecial ic, 3, p4)) (f4 : zf M p4 = some (.athrow, 1, p5)) (hs9 : zSK[i]? = some (M.1.cls, is, tx)) (hh : M.2.2.2.2.1 = []) (hfr : 6 ≤ M.2.2.2.2.2.1) (hlo : (st.map zcat).sum + 82 ≤ M.2.2.2.2.2.2) :
    Ev G M pc ls st (sh, rf, ia, w) (.inr cls, (sh, rf, ia, w), 1, 6) := by
  intro p l e R s m args below meth cd C A hA hE hK ad0 n0 ad H locs cells slots la ha hn hP hD hS hl hcs hss
  obtain ⟨d0, rfl⟩ := zf_ok f0
  obtain ⟨d1, rfl⟩ := zf_ok f1
  obtain ⟨d2, rfl⟩ := zf_ok f2
  obtain ⟨d3, rfl⟩ := zf_ok f3
  obtain ⟨d4, rfl⟩ := zf_ok f4
  obtain ⟨hfit, hk, hini, hg1, hg2, hgood⟩ := hl9
  have hts := C.2.2.2.2.2.2.1
  have hat : ∀ w ∈ vx_atS M.1.cls ic cls zEx, w.before args s = true := vx_hat (B := zNw) (fun w hw => hts w (hg1 w hw)) hg2 (fun w hw => va_Nw.use (zNw_ot hw) (hE.1 w hw))
  refine vx_throwS (names := zEx) (A := A) (own := M.1.cls) (cls := cls) (text := tx) (sa := G.2.2.1 i) C.1 C.2.1 C.2.2.2.2.2.2.2.2.1 C.2.2.2.2.1 hfit zEx_fit (hts _ hk) (hts _ hini) (hE.2.2.1 i _ hs9) hat hgood hE.2.2.2.1 hE.2.2.2.2.1 hS (hl.1.trans C.2.2.1.symm) d0 d1 d2 d3 d4 (fun x hx => ?_) (Nat.lt_of_lt_of_le hfr C.2.2.2.2.2.2.2.2.2.1) (by rw [zcats]; exact Nat.le_trans hlo C.2.2.2.2.2.2.2.2.2.2.1) hcs hss C.2.2.2.2.2.1 (fun t hal hsz hq => ?_) hS.2.2 hcs hss
  · rw [C.2.2.2.2.2.2.2.1, hh] at hx
    cases hx
  · exact ⟨⟨ad, rfl, hP.kept (fun k q hk => hq _ (vx_lt hP hk)), hD, ha⟩, Nat.le_trans hS.1 hsz, fun q h1 h2 => (hq q (Nat.lt_of_lt_of_le h1 hS.1)).trans (hS.2.1 q h1 h2)⟩
theorem Ev.throwW {G : zG} {M : zM} {pc pc9 : Nat} {ls st : List zSV} {sh : List (Nat × Nat)} {rf : Nat → Nat → Option Nat} {ia : Nat → Int → Int} {w : (Nat → Int → Int) × (Nat → Int → Int)} {p1 p2 p3 p4 p5 ik ic is : Nat} {cls tx : String} (i : Nat) (hl9 : zTh M ik ic cls) (f0 : zf M pc = some (.new ik, 3, p1)) (f1 : zf M p1 = some (.dup, 1, p2)) (f2 : zf M p2 = some (.ldc_w is, 3, p3)) (f3 : zf M p3 = some (.invokespecial ic, 3, p4)) (f4 : zf M p4 = some (.athrow, 1, p5)) (hs9 : zSK[i]? = some (M.1.cls, is, tx)) (hh : M.2.2.2.2.1 = []) (hfr : 6 ≤ M.2.2.2.2.2.1) (hlo : (st.map zcat).sum + 82 ≤ M.2.2.2.2.2.2) :
    Ev G M pc ls st (sh, rf, ia, w) (.inr cls, (sh, rf, ia, w), 1, 6) := by
  intro p l e R s m args below meth cd C A hA hE hK ad0 n0 ad H locs cells slots la ha hn hP hD hS hl hcs hss
  obtain ⟨d0, rfl⟩ := zf_ok f0
  obtain ⟨d1, rfl⟩ := zf_ok f1
  obtain ⟨d2, rfl⟩ := zf_ok f2
  obtain ⟨d3, rfl⟩ := zf_ok f3
  obtain ⟨d4, rfl⟩ := zf_ok f4
  obtain ⟨hfit, hk, hini, hg1, hg2, hgood⟩ := hl9
  have hts := C.2.2.2.2.2.2.1
  have hat : ∀ w ∈ vx_atS M.1.cls ic cls zEx, w.before args s = true := vx_hat (B := zNw) (fun w hw => hts w (hg1 w hw)) hg2 (fun w hw => va_Nw.use (zNw_ot hw) (hE.1 w hw))
  refine vx_throwSW (names := zEx) (A := A) (own := M.1.cls) (cls := cls) (text := tx) (sa := G.2.2.1 i) C.1 C.2.1 C.2.2.2.2.2.2.2.2.1 C.2.2.2.2.1 hfit zEx_fit (hts _ hk) (hts _ hini) (hE.2.2.1 i _ hs9) hat hgood hE.2.2.2.1 hE.2.2.2.2.1 hS (hl.1.trans C.2.2.1.symm) d0 d1 d2 d3 d4 (fun x hx => ?_) (Nat.lt_of_lt_of_le hfr C.2.2.2.2.2.2.2.2.2.1) (by rw [zcats]; exact Nat.le_trans hlo C.2.2.2.2.2.2.2.2.2.2.1) hcs hss C.2.2.2.2.2.1 (fun t hal hsz hq => ?_) hS.2.2 hcs hss
  · rw [C.2.2.2.2.2.2.2.1, hh] at hx
    cases hx
  · exact ⟨⟨ad, rfl, hP.kept (fun k q hk => hq _ (vx_lt hP hk)), hD, ha⟩, Nat.le_trans hS.1 hsz, fun q h1 h2 => (hq q (Nat.lt_of_lt_of_le h1 hS.1)).trans (hS.2.1 q h1 h2)⟩
theorem Ev.passV {G : zG} {M y : zM} {pc pc9 : Nat} {ls rest : List zSV} {sh sh1 : List (Nat × Nat)} {rf rf1 : Nat → Nat → Option Nat} {ia ia1 : Nat → Int → Int} {w w1 : (Nat → Int → Int) × (Nat → Int → Int)} {ce sl idx n : Nat} {E : String} (c : Nat) (as : List zSV) (hf : zf M pc = some (.invokevirtual idx, 3, pc9)) (hl9 : zLkV M idx y n) (hn9 : as.length = n) (ci : Nat) (TT : u_T) (NN : Nat) (hcl : vwCl[ci]? = some (y.1.cls, TT, NN)) (hc : sh[c]? = some (0, ci)) (hac : ((1, (c : Int)) :: as).all (fun v => zcat v == 1) = true) (hal : ((1, (c : Int)) :: as).length ≤ y.2.2.1) (hrc : (rest.map zcat).sum ≤ 8) (hgr : Nat.ble sh.length sh1.length = true) (hh : M.2.2.2.2.1 = []) 
    (ev : Ev G y 0 (zIn ((1, (c : Int)) :: as) y.2.2.1) [] (sh, rf, ia, w) (.inr E, (sh1, rf1, ia1, w1), ce, sl)) : Ev G M pc ls (as.reverse ++ (1, (c : Int)) :: rest) (sh, rf, ia, w) (.inr E, (sh1, rf1, ia1, w1), ce, sl) := by
  intro p l e R s m args below meth cd C A hA hE hK ad0 n0 ad H locs cells slots la ha hn hP hD hS hl hcs hss
  obtain ⟨hd, rfl⟩ := zf_ok hf
  dsimp only at hcs hss hn
  obtain ⟨hini, hpl, hmh, hpar, hfr, hlo⟩ := hl9.1
  have hRun := vx_runV (As := as.map (zc G ad)) (b := ad c) (rest := rest.map (zc G ad)) (g := F0 m pc la (List.map (zc G ad) (as.reverse ++ (1, (c : Int)) :: rest))) (R := R) (cells := cells) (slots := slots) (e := e) (below := below) (meth := meth) (locs := locs) (p := p) (H := H) ⟨C.1, C.2.1, C.2.2.1, C.2.2.2.2.1, C.2.2.2.2.2.2.1⟩ (zMetX (sz := H.size) (ad := ad) hpl hl9.2.1.1 C.2.2.2.2.2.2.2.2.1 hac hal ev) (C := y.1.cls) ⟨⟨rfl, rfl, Nat.le_trans hfr C.2.2.2.2.2.2.2.2.2.1, Nat.le_trans hlo C.2.2.2.2.2.2.2.2.2.2.1, zWs_good hl9.2.1.2 C.2.2.2.2.2.2.1, List.mem_cons_self, C.2.2.2.2.2.2.1 _ hl9.2.1.2, C.2.2.2.2.2.2.1 _ hini, hmh, zN_of hpar, C.2.2.2.2.2.2.1 _ hl9.2.2.1⟩, C.2.2.2.2.2.2.1 _ hl9.2.2.2.1, C.2.2.2.2.2.2.1 _ hl9.2.2.2.2⟩ ⟨zPre_blind, va_recv (ci := ci) (q := (y.1.cls, TT, NN)) hK hP hcl (zW_obj hc), zPre_at hA hE hK hP hD hS⟩ rfl (by rw [List.length_map]; exact hn9) hl.1 (by show List.map (zc G ad) (as.reverse ++ (1, (c : Int)) :: rest) = (as.map (zc G ad)).reverse ++ .ref (ad c) :: rest.map (zc G ad); rw [List.map_append, List.map_reverse]; rfl) (lv_room (by rw [zcats]; exact hrc)) hd ⟨by dsimp only; omega, by dsimp only; omega⟩
  have hf9 := zFree hD hS hA
  refine zCallT hRun rfl hS hf9 (fun ce9 q9 ad9 H1 locs1 had9 hP9 hD9 hS9 hce9 hcv9 hcl9 => ?_)
  exact vx_out (E := E) (ce := ce9) (fun x hx => by rw [C.2.2.2.2.2.2.2.1, hh] at hx; cases hx) C.2.2.2.2.2.1 hce9 hcv9 hcl9 (fun t ht hal9 => ⟨⟨ad9, rfl, by rw [ht]; exact hP9, hD9, fun c hc => (had9 c (Nat.lt_of_lt_of_le hc hn)).trans (ha c hc)⟩, hS9.F ht⟩) hS9.2.2 hcs hss
theorem Ev.passS {G : zG} {M y : zM} {pc pc9 : Nat} {ls rest : List zSV} {sh sh1 : List (Nat × Nat)} {rf rf1 : Nat → Nat → Option Nat} {ia ia1 : Nat → Int → Int} {w w1 : (Nat → Int → Int) × (Nat → Int → Int)} {ce sl idx n : Nat} {E : String} (as : List zSV) (hf : zf M pc = some (.invokestatic idx, 3, pc9)) (hl9 : zLkS M idx y n) (hn9 : as.length = n) (hac : as.all (fun v => zcat v == 1) = true) (hal : as.length ≤ y.2.2.1) (hrc : (rest.map zcat).sum ≤ 8) (hgr : Nat.ble sh.length sh1.length = true) (hh : M.2.2.2.2.1 = []) 
    (ev : Ev G y 0 (zIn as y.2.2.1) [] (sh, rf, ia, w) (.inr E, (sh1, rf1, ia1, w1), ce, sl)) : Ev G M pc ls (as.reverse ++ rest) (sh, rf, ia, w) (.inr E, (sh1, rf1, ia1, w1), ce, sl) := by
  intro p l e R s m args below meth cd C A hA hE hK ad0 n0 ad H locs cells slots la ha hn hP hD hS hl hcs hss
  obtain ⟨hd, rfl⟩ := zf_ok hf
  dsimp only at hcs hss hn
  obtain ⟨hini, hpl, hmh, hpar, hfr, hlo⟩ := hl9.1
  have hRun := vx_runS (As := as.map (zc G ad)) (rest := rest.map (zc G ad)) (g := F0 m pc la (List.map (zc G ad) (as.reverse ++ rest))) (R := R) (cells := cells) (slots := slots) (e := e) (below := below) (meth := meth) (locs := locs) (p := p) (H := H) ⟨C.1, C.2.1, C.2.2.1, C.2.2.2.2.1, C.2.2.2.2.2.2.1⟩ (zMetX (sz := H.size) (ad := ad) hpl hl9.2.1.1 C.2.2.2.2.2.2.2.2.1 hac hal ev) ⟨⟨rfl, rfl, Nat.le_trans hfr C.2.2.2.2.2.2.2.2.2.1, Nat.le_trans hlo C.2.2.2.2.2.2.2.2.2.2.1, zWs_good hl9.2.1.2 C.2.2.2.2.2.2.1, List.mem_cons_self, C.2.2.2.2.2.2.1 _ hl9.2.1.2, C.2.2.2.2.2.2.1 _ hini, hmh, zN_of hpar, C.2.2.2.2.2.2.1 _ hl9.2.2.1⟩, C.2.2.2.2.2.2.1 _ hl9.2.2.2⟩ ⟨zPre_blind, zPre_at hA hE hK hP hD hS⟩ rfl (by rw [List.length_map]; exact hn9) hl.1 (by show List.map (zc G ad) (as.reverse ++ rest) = (as.map (zc G ad)).reverse ++ rest.map (zc G ad); rw [List.map_append, List.map_reverse]) (lv_room (by rw [zcats]; exact hrc)) hd ⟨by dsimp only; omega, by dsimp only; omega⟩
  have hf9 := zFree hD hS hA
  refine zCallT hRun rfl hS hf9 (fun ce9 q9 ad9 H1 locs1 had9 hP9 hD9 hS9 hce9 hcv9 hcl9 => ?_)
  exact vx_out (E := E) (ce := ce9) (fun x hx => by rw [C.2.2.2.2.2.2.2.1, hh] at hx; cases hx) C.2.2.2.2.2.1 hce9 hcv9 hcl9 (fun t ht hal9 => ⟨⟨ad9, rfl, by rw [ht]; exact hP9, hD9, fun c hc => (had9 c (Nat.lt_of_lt_of_le hc hn)).trans (ha c hc)⟩, hS9.F ht⟩) hS9.2.2 hcs hss
theorem Ev.catchV {ce1 sl1 : Nat} {G : zG} {M y : zM} {pc pc9 : Nat} {ls rest : List zSV} {sh sh1 : List (Nat × Nat)} {rf rf1 : Nat → Nat → Option Nat} {ia ia1 : Nat → Int → Int} {w w1 : (Nat → Int → Int) × (Nat → Int → Int)} {ce sl ce2 sl2 idx n p1 i9 : Nat} {o : Option zSV ⊕ String} {h2 : zHp} {E : String} (c : Nat) (as : List zSV) (hf : zf M pc = some (.invokevirtual idx, 3, pc9)) (hl9 : zLkV M idx y n) (hn9 : as.length = n) (ci : Nat) (TT : u_T) (NN : Nat) (hcl : vwCl[ci]? = some (y.1.cls, TT, NN)) (hc : sh[c]? = some (0, ci)) (hac : ((1, (c : Int)) :: as).all (fun v => zcat v == 1) = true) (hal : ((1, (c : Int)) :: as).length ≤ y.2.2.1) (hrc : (rest.map zcat).sum ≤ 8) (hgr : Nat.ble sh.length sh1.length = true) (pre suf : List (Nat × Nat × Nat × Nat)) (x9 : Nat × Nat × Nat × Nat) (name : String) (hh : M.2.2.2.2.1 = pre ++ x9 :: suf) (hpass : ∀ z ∈ pre, z.2.2.2 ≠ 0 ∧ ∃ nm : String, Cond.classLink M.1.cls z.2.2.2 nm ∈ zT ∧ (E, nm) ∈ zNc) (hcov : covers ⟨x9.1, x9.2.1, x9.2.2.1, x9.2.2.2⟩ pc = true) (h0 : x9.2.2.2 ≠ 0) (hlk : Cond.classLink M.1.cls x9.2.2.2 name ∈ zT) (hca : Cond.castable E name ∈ zNw) (hast : zf M x9.2.2.1 = some (.astore i9, 2, p1) ∨ ∃ k : Fin 4, (k : Nat) = i9 ∧ zf M x9.2.2.1 = some (.astore_n k, 1, p1)) (him : Nat.ble (i9 + 1) M.2.2.1 = true) (hce : ce1 + ce2 = ce) (hsl : sl1 + sl2 = sl) (kk : Ev G M p1 [] [] (sh1, rf1, ia1, w1) (o, h2, ce2, sl2)) 
    (ev : Ev G y 0 (zIn ((1, (c : Int)) :: as) y.2.2.1) [] (sh, rf, ia, w) (.inr E, (sh1, rf1, ia1, w1), ce1, sl1)) : Ev G M pc ls (as.reverse ++ (1, (c : Int)) :: rest) (sh, rf, ia, w) (o, h2, ce, sl) := by
  intro p l e R s m args below meth cd C A hA hE hK ad0 n0 ad H locs cells slots la ha hn hP hD hS hl hcs hss
  obtain ⟨hd, rfl⟩ := zf_ok hf
  dsimp only at hcs hss hn
  obtain ⟨hini, hpl, hmh, hpar, hfr, hlo⟩ := hl9.1
  subst hce
  subst hsl
  have hRun := vx_runV (As := as.map (zc G ad)) (b := ad c) (rest := rest.map (zc G ad)) (g := F0 m pc la (List.map (zc G ad) (as.reverse ++ (1, (c : Int)) :: rest))) (R := R) (cells := cells) (slots := slots) (e := e) (below := below) (meth := meth) (locs := locs) (p := p) (H := H) ⟨C.1, C.2.1, C.2.2.1, C.2.2.2.2.1, C.2.2.2.2.2.2.1⟩ (zMetX (sz := H.size) (ad := ad) hpl hl9.2.1.1 C.2.2.2.2.2.2.2.2.1 hac hal ev) (C := y.1.cls) ⟨⟨rfl, rfl, Nat.le_trans hfr C.2.2.2.2.2.2.2.2.2.1, Nat.le_trans hlo C.2.2.2.2.2.2.2.2.2.2.1, zWs_good hl9.2.1.2 C.2.2.2.2.2.2.1, List.mem_cons_self, C.2.2.2.2.2.2.1 _ hl9.2.1.2, C.2.2.2.2.2.2.1 _ hini, hmh, zN_of hpar, C.2.2.2.2.2.2.1 _ hl9.2.2.1⟩, C.2.2.2.2.2.2.1 _ hl9.2.2.2.1, C.2.2.2.2.2.2.1 _ hl9.2.2.2.2⟩ ⟨zPre_blind, va_recv (ci := ci) (q := (y.1.cls, TT, NN)) hK hP hcl (zW_obj hc), zPre_at hA hE hK hP hD hS⟩ rfl (by rw [List.length_map]; exact hn9) hl.1 (by show List.map (zc G ad) (as.reverse ++ (1, (c : Int)) :: rest) = (as.map (zc G ad)).reverse ++ .ref (ad c) :: rest.map (zc G ad); rw [List.map_append, List.map_reverse]; rfl) (lv_room (by rw [zcats]; exact hrc)) hd ⟨by dsimp only; omega, by dsimp only; omega⟩
  have hf9 := zFree hD hS hA
  refine zCallT hRun rfl hS hf9 (fun ce9 q9 ad9 H1 locs1 had9 hP9 hD9 hS9 hce9 hcv9 hcl9 => ?_)
  have hts := C.2.2.2.2.2.2.1
  refine vx_catch (E := E) (name := name) (ce := ce9) C.2.2.2.2.1 (tableOf pre) ⟨x9.1, x9.2.1, x9.2.2.1, x9.2.2.2⟩ (tableOf suf) (by rw [C.2.2.2.2.2.2.2.1, hh]; simp [tableOf]) (fun z hz => ?_) hcov h0 (hts _ hlk) (va_Nw.use rfl (hE.1 _ hca)) hce9 hcv9 hcl9 ?_
  · obtain ⟨z0, hz0, rfl⟩ := List.mem_map.mp hz
    obtain ⟨g1, nm9, g2, g3⟩ := hpass z0 hz0
    exact Or.inr ⟨g1, nm9, hts _ g2, hE.2.1 _ g3⟩
  · have hl0 : lv_has la M.2.2.1 [] := lv_less hl (fun q hq => by cases hq)
    have fin : ∀ (la9 : Array Slot), lv_has la9 M.2.2.1 [(i9, .ref q9)] → W p l e R s m args below meth cd H1 locs1 (cells + ce1) (slots + sl1) (vx_MQ below (zQ G A ad0 n0 (o, h2, ce1 + ce2, sl1 + sl2)) (zX G A ad0 n0 (o, h2, ce1 + ce2, sl1 + sl2)) args s R.cells R.slots A) (F0 m p1 la9 []) := by
      intro la9 hl9x
      exact kk p l e R s m args below meth cd C A hA hE hK ad0 n0 ad9 H1 locs1 (cells + ce1) (slots + sl1) la9 (fun c hc => (had9 c (Nat.lt_of_lt_of_le hc hn)).trans (ha c hc)) (by dsimp only; have := Nat.le_of_ble_eq_true hgr; omega) hP9 hD9 hS9 (lv_less hl9x (fun q hq => by cases hq)) (by dsimp only; omega) (by dsimp only; omega)
    rcases hast with hast | ⟨k9, hk9, hast⟩
    · obtain ⟨g1, rfl⟩ := zf_ok hast
      exact lv_astore C.1 C.2.1 g1 hl0 (Nat.le_of_ble_eq_true him) rfl (fun la9 hl9x => fin la9 hl9x)
    · obtain ⟨g1, rfl⟩ := zf_ok hast
      exact lv_astore_n C.1 C.2.1 g1 hk9 hl0 (Nat.le_of_ble_eq_true him) rfl (fun la9 hl9x => fin la9 hl9x)
theorem zStr {G : zG} {A : Nat → Prop} {U : State} {H : Heap} (h : zEnv G A U H) {i : Nat} (hi : i < 24) : va_O "java/lang/String" (G.2.2.1 i) A U H ∧ va_OF "java/lang/String" "coder" "B" (.int 0) (G.2.2.1 i) A U H ∧ va_OF "java/lang/String" "value" "[B" (.ref (G.2.2.2.1 i)) (G.2.2.1 i) A U H ∧ va_T .byte (G.2.2.2.1 i) (zSl.getD i 0) (fun j => .int ((zSb.getD i []).getD j 0)) A U H := h.2.2.2.2.2.1.1 i hi
theorem Ev.sVal {G : zG} {M : zM} {pc pc9 : Nat} {ls st : List zSV} {sh : List (Nat × Nat)} {rf : Nat → Nat → Option Nat} {ia : Nat → Int → Int} {O : zO} {w : (Nat → Int → Int) × (Nat → Int → Int)} {idx : Nat}
    (i : Nat) (hi : i < 24) (hf : zf M pc = some (.getfield idx, 3, pc9)) (hl9 : Cond.fieldLink M.1.cls idx "java/lang/String" "value" "[B" ∈ zT) (kk : Ev G M pc9 ls ((7, (i : Int)) :: st) (sh, rf, ia, w) O) : Ev G M pc ls ((2, (i : Int)) :: st) (sh, rf, ia, w) O := by
  intro p l e R s m args below meth cd C A hA hE hK ad0 n0 ad H locs cells slots la ha hn hP hD hS hl hcs hss
  obtain ⟨hd, rfl⟩ := zf_ok hf
  refine vk_getf C.1 C.2.1 (zStr hE hi).2.2.1 hS C.2.2.2.2.1 (C.2.2.2.2.2.2.1 _ hl9) (fun _ h9 => h9) hd ?_
  exact kk p l e R s m args below meth cd C A hA hE hK ad0 n0 ad H locs cells slots la ha hn hP hD hS hl hcs hss
theorem Ev.sCod {G : zG} {M : zM} {pc pc9 : Nat} {ls st : List zSV} {sh : List (Nat × Nat)} {rf : Nat → Nat → Option Nat} {ia : Nat → Int → Int} {O : zO} {w : (Nat → Int → Int) × (Nat → Int → Int)} {idx : Nat}
    (i : Nat) (hi : i < 24) (hf : zf M pc = some (.getfield idx, 3, pc9)) (hl9 : Cond.fieldLink M.1.cls idx "java/lang/String" "coder" "B" ∈ zT) (kk : Ev G M pc9 ls ((0, 0) :: st) (sh, rf, ia, w) O) : Ev G M pc ls ((2, (i : Int)) :: st) (sh, rf, ia, w) O := by
  intro p l e R s m args below meth cd C A hA hE hK ad0 n0 ad H locs cells slots la ha hn hP hD hS hl hcs hss
  obtain ⟨hd, rfl⟩ := zf_ok hf
  refine vk_getf C.1 C.2.1 (zStr hE hi).2.1 hS C.2.2.2.2.1 (C.2.2.2.2.2.2.1 _ hl9) (fun _ h9 => h9) hd ?_
  exact kk p l e R s m args below meth cd C A hA hE hK ad0 n0 ad H locs cells slots la ha hn hP hD hS hl hcs hss
theorem Ev.sLen {G : zG} {M : zM} {pc pc9 : Nat} {ls st : List zSV} {sh : List (Nat × Nat)} {rf : Nat → Nat → Option Nat} {ia : Nat → Int → Int} {O : zO} {w : (Nat → Int → Int) × (Nat → Int → Int)} 
    (i : Nat) (hi : i < 24) (hf : zf M pc = some (.arraylength, 1, pc9)) (kk : Ev G M pc9 ls ((0, ((zSl.getD i 0 : Nat) : Int)) :: st) (sh, rf, ia, w) O) : Ev G M pc ls ((7, (i : Int)) :: st) (sh, rf, ia, w) O := by
  intro p l e R s m args below meth cd C A hA hE hK ad0 n0 ad H locs cells slots la ha hn hP hD hS hl hcs hss
  obtain ⟨hd, rfl⟩ := zf_ok hf
  refine va_tlen C.1 C.2.1 (zStr hE hi).2.2.2 hS Int32.ofInt_eq_ofNat.symm hd ?_
  exact kk p l e R s m args below meth cd C A hA hE hK ad0 n0 ad H locs cells slots la ha hn hP hD hS hl hcs hss
theorem Ev.sByte {G : zG} {M : zM} {pc pc9 : Nat} {ls st : List zSV} {sh : List (Nat × Nat)} {rf : Nat → Nat → Option Nat} {ia : Nat → Int → Int} {O : zO} {w : (Nat → Int → Int) × (Nat → Int → Int)} 
    (i j : Nat) (b : Int) (hi : i < 24) (hf : zf M pc = some (.baload, 1, pc9)) (hj : j < zSl.getD i 0) (hj2 : zSl.getD i 0 ≤ 2147483647) (hb : (zSb.getD i []).getD j 0 = Int32.ofInt b) (kk : Ev G M pc9 ls ((0, b) :: st) (sh, rf, ia, w) O) : Ev G M pc ls ((0, (j : Int)) :: (7, (i : Int)) :: st) (sh, rf, ia, w) O := by
  intro p l e R s m args below meth cd C A hA hE hK ad0 n0 ad H locs cells slots la ha hn hP hD hS hl hcs hss
  obtain ⟨hd, rfl⟩ := zf_ok hf
  refine va_tb C.1 C.2.1 (zStr hE hi).2.2.2 hS (i := Int32.ofInt (j : Int)) (v := .int (Int32.ofInt b)) (z_in ⟨by omega, by omega⟩ hj2) ?_ hd ?_
  · rw [z_clamp ⟨by omega, by omega⟩, Int.toNat_natCast, hb]
  exact kk p l e R s m args below meth cd C A hA hE hK ad0 n0 ad H locs cells slots la ha hn hP hD hS hl hcs hss
theorem Ev.sComp {G : zG} {M : zM} {pc pc9 : Nat} {ls st : List zSV} {sh : List (Nat × Nat)} {rf : Nat → Nat → Option Nat} {ia : Nat → Int → Int} {O : zO} {w : (Nat → Int → Int) × (Nat → Int → Int)} {idx : Nat}
    (hf : zf M pc = some (.getstatic idx, 3, pc9)) (hl9 : Cond.fieldLink M.1.cls idx "java/lang/String" "COMPACT_STRINGS" "Z" ∈ zT) (kk : Ev G M pc9 ls ((0, 1) :: st) (sh, rf, ia, w) O) : Ev G M pc ls st (sh, rf, ia, w) O := by
  intro p l e R s m args below meth cd C A hA hE hK ad0 n0 ad H locs cells slots la ha hn hP hD hS hl hcs hss
  obtain ⟨hd, rfl⟩ := zf_ok hf
  refine va_gets C.1 C.2.1 hE.2.2.2.2.2.2.1 hS C.2.2.2.2.1 (C.2.2.2.2.2.2.1 _ hl9) (fun _ h9 => h9) hd ?_
  exact kk p l e R s m args below meth cd C A hA hE hK ad0 n0 ad H locs cells slots la ha hn hP hD hS hl hcs hss
theorem Ev.sForm {G : zG} {M : zM} {pc pc9 : Nat} {ls st : List zSV} {sh : List (Nat × Nat)} {rf : Nat → Nat → Option Nat} {ia : Nat → Int → Int} {O : zO} {w : (Nat → Int → Int) × (Nat → Int → Int)} {idx : Nat}
    (hf : zf M pc = some (.getstatic idx, 3, pc9)) (hl9 : Cond.fieldLink M.1.cls idx "jdk/internal/util/Preconditions" "SIOOBE_FORMATTER" "Ljava/util/function/BiFunction;" ∈ zT) (kk : Ev G M pc9 ls ((8, 0) :: st) (sh, rf, ia, w) O) : Ev G M pc ls st (sh, rf, ia, w) O := by
  intro p l e R s m args below meth cd C A hA hE hK ad0 n0 ad H locs cells slots la ha hn hP hD hS hl hcs hss
  obtain ⟨hd, rfl⟩ := zf_ok hf
  refine va_gets C.1 C.2.1 hE.2.2.2.2.2.2.2.1 hS C.2.2.2.2.1 (C.2.2.2.2.2.2.1 _ hl9) (fun _ h9 => h9) hd ?_
  exact kk p l e R s m args below meth cd C A hA hE hK ad0 n0 ad H locs cells slots la ha hn hP hD hS hl hcs hss
theorem Ev.retB {G : zG} {M : zM} {pc pc9 : Nat} {ls st : List zSV} {sh : List (Nat × Nat)} {rf : Nat → Nat → Option Nat} {ia : Nat → Int → Int} {w : (Nat → Int → Int) × (Nat → Int → Int)} {x : Int}
    (hf : zf M pc = some (.ireturn, 1, pc9)) (hr : M.2.2.2.1 = some .byte) (hx : (Int32.ofInt x).toInt8.toInt32 = Int32.ofInt x) : Ev G M pc ls [(0, x)] (sh, rf, ia, w) (.inl (some (0, x)), (sh, rf, ia, w), 0, 0) := by
  intro p l e R s m args below meth cd C A hA hE hK ad0 n0 ad H locs cells slots la ha hn hP hD hS hl hcs hss
  obtain ⟨hd, rfl⟩ := zf_ok hf
  refine W.widen (k := R.cells) (n := R.slots) hcs hss ?_
  refine vx_ret ?_
  exact W.zret (v := Int32.ofInt x) C.1 C.2.1 (C.2.2.2.1.trans hr) (by show Value.int _ = _; rw [hx]) (fun t ht hW => ⟨⟨some (0, x), ad, rfl, rfl, by rw [ht]; exact hP, hD, ha⟩, hS.F ht⟩) hS.2.2 hd C.2.2.2.2.2.1
theorem Ev.callVS {G : zG} {M y : zM} {pc pc9 : Nat} {ls rest : List zSV} {sh sh1 : List (Nat × Nat)} {rf rf1 : Nat → Nat → Option Nat} {ia ia1 : Nat → Int → Int} {w w1 : (Nat → Int → Int) × (Nat → Int → Int)} {o : Option zSV ⊕ String} {h2 : zHp} {ce sl idx n : Nat} {v : Option zSV} {ce2 sl2 : Nat} (i : Nat) (hi : i < 24) (ce1 sl1 : Nat) (as : List zSV) (hf : zf M pc = some (.invokevirtual idx, 3, pc9)) (hl9 : zLkV M idx y n) (hn9 : as.length = n) (hcl : y.1.cls = "java/lang/String") (hac : ((2, (i : Int)) :: as).all (fun v => zcat v == 1) = true) (hal : ((2, (i : Int)) :: as).length ≤ y.2.2.1) (hrc : (rest.map zcat).sum ≤ 8) (h1l : ls.all (zOk sh.length) = true) (h1r : rest.all (zOk sh.length) = true) (hgr : Nat.ble sh.length sh1.length = true) (hce : ce1 + ce2 = ce) (hsl : sl1 + sl2 = sl)
    (ev : Ev G y 0 (zIn ((2, (i : Int)) :: as) y.2.2.1) [] (sh, rf, ia, w) (.inl v, (sh1, rf1, ia1, w1), ce1, sl1)) (kk : Ev G M pc9 ls (v.toList ++ rest) (sh1, rf1, ia1, w1) (o, h2, ce2, sl2)) : Ev G M pc ls (as.reverse ++ (2, (i : Int)) :: rest) (sh, rf, ia, w) (o, h2, ce, sl) := by
  intro p l e R s m args below meth cd C A hA hE hK ad0 n0 ad H locs cells slots la ha hn hP hD hS hl hcs hss
  obtain ⟨hd, rfl⟩ := zf_ok hf
  subst hce
  subst hsl
  dsimp only at hcs hss hn
  obtain ⟨hini, hpl, hmh, hpar, hfr, hlo⟩ := hl9.1
  have hRun := va_runV (As := as.map (zc G ad)) (b := G.2.2.1 i) (rest := rest.map (zc G ad)) (g := F0 m pc la (List.map (zc G ad) (as.reverse ++ (2, (i : Int)) :: rest))) (R := R) (cells := cells) (slots := slots) (e := e) (below := below) (meth := meth) (locs := locs) (p := p) (H := H) ⟨C.1, C.2.1, C.2.2.1, C.2.2.2.2.1, C.2.2.2.2.2.2.1⟩ (zMet_of (zMetX (sz := H.size) (ad := ad) hpl hl9.2.1.1 C.2.2.2.2.2.2.2.2.1 hac hal ev) zX_no) (C := y.1.cls) ⟨⟨rfl, rfl, Nat.le_trans hfr C.2.2.2.2.2.2.2.2.2.1, Nat.le_trans hlo C.2.2.2.2.2.2.2.2.2.2.1, zWs_good hl9.2.1.2 C.2.2.2.2.2.2.1, List.mem_cons_self, C.2.2.2.2.2.2.1 _ hl9.2.1.2, C.2.2.2.2.2.2.1 _ hini, hmh, zN_of hpar, C.2.2.2.2.2.2.1 _ hl9.2.2.1⟩, C.2.2.2.2.2.2.1 _ hl9.2.2.2.1, C.2.2.2.2.2.2.1 _ hl9.2.2.2.2⟩ ⟨zPre_blind, by rw [hcl]; exact vk_recv hE.2.2.2.2.2.1 hi hS, zPre_at hA hE hK hP hD hS⟩ rfl (by rw [List.length_map]; exact hn9) hl.1 (by show List.map (zc G ad) (as.reverse ++ (2, (i : Int)) :: rest) = (as.map (zc G ad)).reverse ++ .ref (G.2.2.1 i) :: rest.map (zc G ad); rw [List.map_append, List.map_reverse]; rfl) (lv_room (by rw [zcats]; exact hrc)) hd ⟨by dsimp only; omega, by dsimp only; omega⟩
  have hf9 := zFree hD hS hA
  refine zCall hRun hS hf9 (fun v9 ad9 H1 locs1 hv1 had9 hP9 hD9 hS9 => ?_)
  cases hv1
  have kk2 := kk p l e R s m args below meth cd C A hA hE hK ad0 n0 ad9 H1 locs1 (cells + ce1) (slots + sl1) la (fun c hc => (had9 c (Nat.lt_of_lt_of_le hc hn)).trans (ha c hc)) (by dsimp only; have := Nat.le_of_ble_eq_true hgr; omega) hP9 hD9 hS9 (zL_ad had9 h1l hl) (by dsimp only; omega) (by dsimp only; omega)
  rw [List.map_append, zcs_ad had9 h1r] at kk2
  have e8 : v.toList.map (zc G ad9) = (v.map (zc G ad9)).toList := by cases v <;> rfl
  rw [e8] at kk2
  exact kk2
theorem z_u64 (b : UInt64) : UInt64.ofNat ((b.toNat : Nat) : Int).toNat = b := by
  rw [Int.toNat_natCast]
  exact UInt64.ofNat_toNat
theorem z_u32 (b : UInt32) : UInt32.ofNat ((b.toNat : Nat) : Int).toNat = b := by
  rw [Int.toNat_natCast]
  exact UInt32.ofNat_toNat
/-- a double's, a float's bits as a number -/
def zD (b : UInt64) : Int := ((b.toNat : Nat) : Int)
def zS (b : UInt32) : Int := ((b.toNat : Nat) : Int)
theorem zc_D {G : zG} {ad : Nat → Nat} {b : UInt64} : zc G ad (5, zD b) = .double b := congrArg Value.double (z_u64 b)
theorem zc_S {G : zG} {ad : Nat → Nat} {b : UInt32} : zc G ad (6, zS b) = .float b := congrArg Value.float (z_u32 b)
theorem Ev.i2d {G : zG} {M : zM} {pc pc9 : Nat} {ls st : List zSV} {sh : List (Nat × Nat)} {rf : Nat → Nat → Option Nat} {ia : Nat → Int → Int} {O : zO} {w : (Nat → Int → Int) × (Nat → Int → Int)} {x : Int}
    (hf : zf M pc = some (.i2d, 1, pc9))  (kk : Ev G M pc9 ls ((5, zD (FP.i2d (Int32.ofInt x))) :: st) (sh, rf, ia, w) O) : Ev G M pc ls ((0, x) :: st) (sh, rf, ia, w) O := by
  intro p l e R s m args below meth cd C A hA hE hK ad0 n0 ad H locs cells slots la ha hn hP hD hS hl hcs hss
  obtain ⟨hd, rfl⟩ := zf_ok hf
  have kk2 := kk p l e R s m args below meth cd C A hA hE hK ad0 n0 ad H locs cells slots la ha hn hP hD hS hl hcs hss
  rw [List.map_cons, zc_D] at kk2
  refine lv_i2d (x := Int32.ofInt x) C.1 C.2.1 hd ?_
  exact kk2
theorem Ev.i2f {G : zG} {M : zM} {pc pc9 : Nat} {ls st : List zSV} {sh : List (Nat × Nat)} {rf : Nat → Nat → Option Nat} {ia : Nat → Int → Int} {O : zO} {w : (Nat → Int → Int) × (Nat → Int → Int)} {x : Int}
    (hf : zf M pc = some (.i2f, 1, pc9))  (kk : Ev G M pc9 ls ((6, zS (FP.i2f (Int32.ofInt x))) :: st) (sh, rf, ia, w) O) : Ev G M pc ls ((0, x) :: st) (sh, rf, ia, w) O := by
  intro p l e R s m args below meth cd C A hA hE hK ad0 n0 ad H locs cells slots la ha hn hP hD hS hl hcs hss
  obtain ⟨hd, rfl⟩ := zf_ok hf
  have kk2 := kk p l e R s m args below meth cd C A hA hE hK ad0 n0 ad H locs cells slots la ha hn hP hD hS hl hcs hss
  rw [List.map_cons, zc_S] at kk2
  refine lv_i2f (x := Int32.ofInt x) C.1 C.2.1 hd ?_
  exact kk2
theorem Ev.ddiv {G : zG} {M : zM} {pc pc9 : Nat} {ls st : List zSV} {sh : List (Nat × Nat)} {rf : Nat → Nat → Option Nat} {ia : Nat → Int → Int} {O : zO} {w : (Nat → Int → Int) × (Nat → Int → Int)} {a b : UInt64}
    (hf : zf M pc = some (.ddiv, 1, pc9)) (hne : vf_n64 (FP.ddiv a b)) (kk : Ev G M pc9 ls ((5, zD (FP.ddiv a b)) :: st) (sh, rf, ia, w) O) : Ev G M pc ls ((5, zD b) :: (5, zD a) :: st) (sh, rf, ia, w) O := by
  intro p l e R s m args below meth cd C A hA hE hK ad0 n0 ad H locs cells slots la ha hn hP hD hS hl hcs hss
  obtain ⟨hd, rfl⟩ := zf_ok hf
  have kk2 := kk p l e R s m args below meth cd C A hA hE hK ad0 n0 ad H locs cells slots la ha hn hP hD hS hl hcs hss
  rw [List.map_cons, zc_D] at kk2
  rw [List.map_cons, List.map_cons, zc_D, zc_D]
  refine lv_ddiv C.1 C.2.1 hd hne ?_
  exact kk2
theorem Ev.fdiv {G : zG} {M : zM} {pc pc9 : Nat} {ls st : List zSV} {sh : List (Nat × Nat)} {rf : Nat → Nat → Option Nat} {ia : Nat → Int → Int} {O : zO} {w : (Nat → Int → Int) × (Nat → Int → Int)} {a b : UInt32}
    (hf : zf M pc = some (.fdiv, 1, pc9)) (hne : vf_n32 (FP.fdiv a b)) (kk : Ev G M pc9 ls ((6, zS (FP.fdiv a b)) :: st) (sh, rf, ia, w) O) : Ev G M pc ls ((6, zS b) :: (6, zS a) :: st) (sh, rf, ia, w) O := by
  intro p l e R s m args below meth cd C A hA hE hK ad0 n0 ad H locs cells slots la ha hn hP hD hS hl hcs hss
  obtain ⟨hd, rfl⟩ := zf_ok hf
  have kk2 := kk p l e R s m args below meth cd C A hA hE hK ad0 n0 ad H locs cells slots la ha hn hP hD hS hl hcs hss
  rw [List.map_cons, zc_S] at kk2
  rw [List.map_cons, List.map_cons, zc_S, zc_S]
  refine lv_fdiv C.1 C.2.1 hd hne ?_
  exact kk2
theorem Ev.f2d {G : zG} {M : zM} {pc pc9 : Nat} {ls st : List zSV} {sh : List (Nat × Nat)} {rf : Nat → Nat → Option Nat} {ia : Nat → Int → Int} {O : zO} {w : (Nat → Int → Int) × (Nat → Int → Int)} {a : UInt32}
    (hf : zf M pc = some (.f2d, 1, pc9)) (hne : vf_n64 (FP.f2d a)) (kk : Ev G M pc9 ls ((5, zD (FP.f2d a)) :: st) (sh, rf, ia, w) O) : Ev G M pc ls ((6, zS a) :: st) (sh, rf, ia, w) O := by
  intro p l e R s m args below meth cd C A hA hE hK ad0 n0 ad H locs cells slots la ha hn hP hD hS hl hcs hss
  obtain ⟨hd, rfl⟩ := zf_ok hf
  have kk2 := kk p l e R s m args below meth cd C A hA hE hK ad0 n0 ad H locs cells slots la ha hn hP hD hS hl hcs hss
  rw [List.map_cons, zc_D] at kk2
  rw [List.map_cons, zc_S]
  refine lv_f2d C.1 C.2.1 hd hne ?_
  exact kk2
theorem Ev.dconst0 {G : zG} {M : zM} {pc pc9 : Nat} {ls st : List zSV} {sh : List (Nat × Nat)} {rf : Nat → Nat → Option Nat} {ia : Nat → Int → Int} {O : zO} {w : (Nat → Int → Int) × (Nat → Int → Int)} 
    (hf : zf M pc = some (.dconst 0, 1, pc9)) (kk : Ev G M pc9 ls ((5, zD FP.dconst0) :: st) (sh, rf, ia, w) O) : Ev G M pc ls st (sh, rf, ia, w) O := by
  intro p l e R s m args below meth cd C A hA hE hK ad0 n0 ad H locs cells slots la ha hn hP hD hS hl hcs hss
  obtain ⟨hd, rfl⟩ := zf_ok hf
  have kk2 := kk p l e R s m args below meth cd C A hA hE hK ad0 n0 ad H locs cells slots la ha hn hP hD hS hl hcs hss
  rw [List.map_cons, zc_D] at kk2
  refine lv_dconst0 C.1 C.2.1 hd ?_
  exact kk2
theorem Ev.dcmp {G : zG} {M : zM} {pc pc9 : Nat} {ls st : List zSV} {sh : List (Nat × Nat)} {rf : Nat → Nat → Option Nat} {ia : Nat → Int → Int} {O : zO} {w : (Nat → Int → Int) × (Nat → Int → Int)} {a b : UInt64} {op : CmpOp}
    (hf : zf M pc = some (.dcmp op, 1, pc9)) (kk : Ev G M pc9 ls ((0, (Op.cmpValue (FP.dcmp a b) op).toInt) :: st) (sh, rf, ia, w) O) : Ev G M pc ls ((5, zD b) :: (5, zD a) :: st) (sh, rf, ia, w) O := by
  intro p l e R s m args below meth cd C A hA hE hK ad0 n0 ad H locs cells slots la ha hn hP hD hS hl hcs hss
  obtain ⟨hd, rfl⟩ := zf_ok hf
  have kk2 := kk p l e R s m args below meth cd C A hA hE hK ad0 n0 ad H locs cells slots la ha hn hP hD hS hl hcs hss
  rw [List.map_cons, show zc G ad (0, (Op.cmpValue (FP.dcmp a b) op).toInt) = .int (Op.cmpValue (FP.dcmp a b) op) from congrArg Value.int (Int32.ofInt_toInt _)] at kk2
  rw [List.map_cons, List.map_cons, zc_D, zc_D]
  refine lv_dcmp C.1 C.2.1 hd ?_
  exact kk2
