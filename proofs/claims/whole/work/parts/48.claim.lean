/-! THE START: the environment out of the premises (printed by wip/whole/gen/claim.py) -/
def zPr : List Cond := flatC narrow_1
theorem zPr_at {args : Array Value} {s : State} {w : Cond} (hp : ∀ w ∈ zPr, w.before args s = true) (k : Nat) (h : zPr[k]? = some w) : w.before args s = true := hp w (List.mem_of_getElem? h)
theorem zTb_at {args : Array Value} {s : State} {w : Cond} (ht : ∀ w ∈ lw_tbl, w.before args s = true) (k : Nat) (h : lw_tbl[k]? = some w) : w.before args s = true := ht w (List.mem_of_getElem? h)
/-- the array type of a primitive -/
theorem zAr {args : Array Value} {s : State} {ty : FieldType} (h : (Cond.arrayClass ty).before args s = true) : ∃ cA : ClassId, ArrOfT s cA ty ∧ s.vm.findClass ("[" ++ ty.toString) = some cA := by
  obtain ⟨c, k, comp, h1, h2, h3⟩ := Cond.arrayClass_spec h
  exact ⟨c, fun n z => ⟨fun k h => (by cases h), k, h2, comp, h3⟩, h1⟩
theorem zKn {args : Array Value} {s : State} (ht : ∀ w ∈ lw_tbl, w.before args s = true) : ∀ c : Nat, ∃ d : ClassId × (Nat → Nat), ∀ q : vw_C, vwCl[c]? = some q → u_Kn s q.1 q.2.1 q.2.2 d.1 d.2 := by
  have hz : ∀ w ∈ zT, w.before args s = true := fun w hw => ht w (List.mem_filter.mp hw).1
  intro c
  match c with
  | 0 =>
    obtain ⟨cC, iS, h⟩ := u_known (C := RX0) (T := TX0) (N := 5) (n := 5) hz zcl0.2.1 (zTb_at ht 79 (by decide +kernel))
    exact ⟨(cC, iS), fun q hq => by cases hq; exact h⟩
  | 1 =>
    obtain ⟨cC, iS, h⟩ := u_known (C := RX1) (T := TX1) (N := 3) (n := 3) hz zcl1.2.1 (zTb_at ht 73 (by decide +kernel))
    exact ⟨(cC, iS), fun q hq => by cases hq; exact h⟩
  | 2 =>
    obtain ⟨cC, iS, h⟩ := u_known (C := RX2) (T := TX2) (N := 5) (n := 5) hz zcl2.2.1 (zTb_at ht 178 (by decide +kernel))
    exact ⟨(cC, iS), fun q hq => by cases hq; exact h⟩
  | 3 =>
    obtain ⟨cC, iS, h⟩ := u_known (C := RX3) (T := TX3) (N := 2) (n := 2) hz zcl3.2.1 (zTb_at ht 165 (by decide +kernel))
    exact ⟨(cC, iS), fun q hq => by cases hq; exact h⟩
  | 4 =>
    obtain ⟨cC, iS, h⟩ := u_known (C := RX4) (T := TX4) (N := 3) (n := 3) hz zcl4.2.1 (zTb_at ht 132 (by decide +kernel))
    exact ⟨(cC, iS), fun q hq => by cases hq; exact h⟩
  | 5 =>
    obtain ⟨cC, iS, h⟩ := u_known (C := RX5) (T := TX5) (N := 2) (n := 2) hz zcl5.2.1 (zTb_at ht 201 (by decide +kernel))
    exact ⟨(cC, iS), fun q hq => by cases hq; exact h⟩
  | 6 =>
    obtain ⟨cC, iS, h⟩ := u_known (C := RX6) (T := TX6) (N := 5) (n := 5) hz zcl6.2.1 (zTb_at ht 85 (by decide +kernel))
    exact ⟨(cC, iS), fun q hq => by cases hq; exact h⟩
  | 7 =>
    obtain ⟨cC, iS, h⟩ := u_known (C := RX7) (T := TX7) (N := 10) (n := 10) hz zcl7.2.1 (zTb_at ht 65 (by decide +kernel))
    exact ⟨(cC, iS), fun q hq => by cases hq; exact h⟩
  | 8 =>
    obtain ⟨cC, iS, h⟩ := u_known (C := RX8) (T := TX8) (N := 22) (n := 22) hz zcl8.2.1 (zTb_at ht 1093 (by decide +kernel))
    exact ⟨(cC, iS), fun q hq => by cases hq; exact h⟩
  | c + 9 => exact ⟨(0, fun _ => 0), fun q hq => absurd hq (by rw [List.getElem?_eq_none (show 9 ≤ c + 9 by omega)]; exact fun h => nomatch h)⟩
theorem zOldLo {args : Array Value} {s : State} {A : Nat → Prop} (hp : ∀ w ∈ zPr, w.before args s = true) (hA : ∀ a : Nat, a < s.heap.size → ¬ A a) : ∃ t : Nat, (Term.static RX7 "LOWEST_LINE_OF_SPAN" "[I").eval args s none [] s = some (.ref t) ∧ va_T .int t 31 (fun i => .int (Int32.ofInt (zlow (i : Int)))) A s s.heap := by
  have h : ∀ j : Nat, j < 31 → zPr[5 + j]? = some (Cond.eq (.elem (.static RX7 "LOWEST_LINE_OF_SPAN" "[I") (.int (Int32.ofNat j))) (.int (Int32.ofInt (zlow (j : Int))))) := by decide +kernel
  exact va_Tof (by decide) (zPr_at hp 3 (by decide +kernel)) (va_eqt (zPr_at hp 4 (by decide +kernel))) (fun j hj => va_eqt (zPr_at hp _ (h j hj))) hA
theorem zOldHi {args : Array Value} {s : State} {A : Nat → Prop} (hp : ∀ w ∈ zPr, w.before args s = true) (hA : ∀ a : Nat, a < s.heap.size → ¬ A a) : ∃ t : Nat, (Term.static RX7 "HIGHEST_LINE_OF_SPAN" "[I").eval args s none [] s = some (.ref t) ∧ va_T .int t 31 (fun i => .int (Int32.ofInt (zhig (i : Int)))) A s s.heap := by
  have h : ∀ j : Nat, j < 31 → zPr[39 + j]? = some (Cond.eq (.elem (.static RX7 "HIGHEST_LINE_OF_SPAN" "[I") (.int (Int32.ofNat j))) (.int (Int32.ofInt (zhig (j : Int))))) := by decide +kernel
  exact va_Tof (by decide) (zPr_at hp 37 (by decide +kernel)) (va_eqt (zPr_at hp 38 (by decide +kernel))) (fun j hj => va_eqt (zPr_at hp _ (h j hj))) hA
def zTm (i : Nat) : Term := .string (zSK.getD i ("", 0, "")).1 (zSK.getD i ("", 0, "")).2.1
def zSB : List Nat := [142, 153, 171, 192, 212, 242, 278, 300, 323, 348, 388, 420, 440, 463, 483, 504, 524, 544, 585, 633, 675, 712, 752, 802]
def zSI : List Nat := [428, 555, 576, 590, 652, 687, 698, 707, 806, 814, 845, 887, 888, 889, 890, 891, 892, 960, 988, 989, 1032, 1067, 1075, 1087]
theorem zTx_len : ∀ i : Nat, i < 24 → zSl.getD i 0 < 2 ^ 31 := by decide +kernel
theorem zTx_ex : ∀ i : Nat, i < 24 → zPr[zSB.getD i 0]? = some (Cond.exactly (zTm i) "java/lang/String") := by decide +kernel
theorem zTx_co : ∀ i : Nat, i < 24 → zPr[zSB.getD i 0 + 1]? = some (Cond.eq (.field (zTm i) "java/lang/String" "coder" "B") (.int 0)) := by decide +kernel
theorem zTx_ar : ∀ i : Nat, i < 24 → zPr[zSB.getD i 0 + 2]? = some (Cond.arrayOf (.field (zTm i) "java/lang/String" "value" "[B") .byte) := by decide +kernel
theorem zTx_le : ∀ i : Nat, i < 24 → zPr[zSB.getD i 0 + 3]? = some (Cond.eq (.length (.field (zTm i) "java/lang/String" "value" "[B")) (.int (Int32.ofNat (zSl.getD i 0)))) := by decide +kernel
theorem zTx_el : ∀ i : Nat, i < 24 → ∀ j : Nat, j < zSl.getD i 0 → zPr[zSB.getD i 0 + 4 + j]? = some (Cond.eq (.elem (.field (zTm i) "java/lang/String" "value" "[B") (.int (Int32.ofNat j))) (.int ((zSb.getD i []).getD j 0))) := by decide +kernel
theorem zTx_ne : ∀ j : Nat, j < 24 → ∀ i : Nat, i < j → zPr[zSB.getD j 0 + 4 + zSl.getD j 0 + i]? = some (Cond.not (Cond.eq (zTm i) (zTm j))) := by decide +kernel
theorem zTx_sr : ∀ i : Nat, i < 24 → lw_tbl[zSI.getD i 0]? = some (Cond.stringRef (zSK.getD i ("", 0, "")).1 (zSK.getD i ("", 0, "")).2.1 (zSK.getD i ("", 0, "")).2.2) := by decide +kernel
theorem zTexts {args : Array Value} {s : State} {A : Nat → Prop} (hp : ∀ w ∈ zPr, w.before args s = true) (ht : ∀ w ∈ lw_tbl, w.before args s = true) (hA : ∀ a : Nat, a < s.heap.size → ¬ A a) : ∃ adK adV : Nat → Nat, vk_S 24 zSl zSb adK adV A s s.heap ∧ ∀ (i : Nat) (q : String × Nat × String), zSK[i]? = some q → vk_R q.1 q.2.1 q.2.2 (adK i) s := by
  obtain ⟨adK, adV, h1, h2⟩ := vk_Sof (args := args) (s := s) (N := 24) (tm := zTm) (len := zSl) (byt := zSb) (A := A) zTx_len (fun i hi => zPr_at hp _ (zTx_ex i hi)) (fun i hi => zPr_at hp _ (zTx_co i hi)) (fun i hi => zPr_at hp _ (zTx_ar i hi)) (fun i hi => zPr_at hp _ (zTx_le i hi)) (fun i hi j hj => zPr_at hp _ (zTx_el i hi j hj))
    (fun i j hi hj hij => by
      rcases Nat.lt_or_gt_of_ne hij with h | h
      · exact Or.inl (zPr_at hp _ (zTx_ne j hj i h))
      · exact Or.inr (zPr_at hp _ (zTx_ne i hi j h))) hA
  refine ⟨adK, adV, h1, fun i q hq => ?_⟩
  have hi : i < 24 := (List.getElem?_eq_some_iff.mp hq).1
  have hg : zSK.getD i ("", 0, "") = q := by rw [List.getD_eq_getElem?_getD, hq]; rfl
  have e1 := h2 i hi
  have e2 := zTb_at ht _ (zTx_sr i hi)
  unfold zTm at e1
  rw [hg] at e1 e2
  exact vk_R.of e2 e1
theorem zNw_tabs {w : Cond} (h : zNwOk w = true) : w.onTables = true := by
  cases w <;> first | rfl | (cases h)
theorem zWorld {args : Array Value} {s : State} {b L : Nat} {xs : Nat → Int32} (ht : ∀ w ∈ lw_tbl, w.before args s = true) (hp : ∀ w ∈ zPr, w.before args s = true) (hX : va_X b L xs s s.heap) (hb : b < s.heap.size) :
    ∃ G : zG, zGo G ∧ G.2.2.2.2.2.1 2 = (L, fun x : Int => (xs x.toNat).toInt) ∧ G.2.2.2.2.1 2 = b ∧ zEnv G (fun q => s.heap.size ≤ q) s s.heap ∧ va_K G.1 vwCl (zTys G) s := by
  have hA : ∀ a : Nat, a < s.heap.size → ¬ (fun q : Nat => s.heap.size ≤ q) a := fun a h => Nat.not_le.mpr h
  obtain ⟨D, hD⟩ := Classical.axiomOfChoice (zKn ht)
  obtain ⟨cI, aI, nI⟩ := zAr (ty := .int) (zTb_at ht 106 (by decide +kernel))
  obtain ⟨cC, aC, nC⟩ := zAr (ty := .char) (zTb_at ht 199 (by decide +kernel))
  obtain ⟨cJ, aJ, nJ⟩ := zAr (ty := .long) (zTb_at ht 1459 (by decide +kernel))
  obtain ⟨cD, aD, nD⟩ := zAr (ty := .double) (zTb_at ht 1460 (by decide +kernel))
  obtain ⟨tL, eL, oL⟩ := zOldLo hp hA
  obtain ⟨tH, eH, oH⟩ := zOldHi hp hA
  obtain ⟨adK, adV, hS, hR⟩ := zTexts hp ht hA
  have hF : ∃ o : Option Nat, va_Z "jdk/internal/util/Preconditions" "SIOOBE_FORMATTER" "Ljava/util/function/BiFunction;" (va_rf o) (fun q => s.heap.size ≤ q) s s.heap := by
    rcases va_Zqof (args := args) (C := "jdk/internal/util/Preconditions") (n := "SIOOBE_FORMATTER") (d := "Ljava/util/function/BiFunction;") (A := fun q => s.heap.size ≤ q) (zTb_at ht 922 (by decide +kernel)) (zTb_at ht 62 (by decide +kernel)) (zPr_at hp 73 (by decide +kernel)) hA with h | ⟨t, h⟩
    · exact ⟨none, h⟩
    · exact ⟨some t, h⟩
  obtain ⟨fo, hF⟩ := hF
  obtain ⟨scr, x1, x2, x3, x4, x5⟩ := hX
  refine ⟨((fun c => (D c).1, fun c => (D c).2), (fun k => match k with | 0 => cI | 1 => cC | 2 => cJ | _ => cD), adK, adV, (fun k => match k with | 0 => tL | 1 => tH | _ => b), (fun k => match k with | 0 => (31, zlow) | 1 => (31, zhig) | _ => (L, fun x => (xs x.toNat).toInt)), fo), ⟨rfl, fun _ _ _ => rfl, rfl, fun _ _ _ => rfl⟩, rfl, rfl, ?_, ?_⟩
  · refine ⟨fun w hw => ?_, ?_, hR, ?_, ?_, hS, ?_, hF, ?_, ?_, ?_⟩
    · obtain ⟨h1, h2⟩ := List.mem_filter.mp hw
      exact va_Nw.of (zNw_tabs h2) (ht w h1)
    · exact List.forall_mem_cons.mpr ⟨va_Nc.of (zPr_at hp 100 (by decide +kernel)), List.forall_mem_cons.mpr ⟨va_Nc.of (zPr_at hp 101 (by decide +kernel)), List.forall_mem_cons.mpr ⟨va_Nc.of (zPr_at hp 112 (by decide +kernel)), List.forall_mem_cons.mpr ⟨va_Nc.of (zPr_at hp 114 (by decide +kernel)), fun _ h => nomatch h⟩⟩⟩⟩
    · exact vx_Zqof (args := args) (zTb_at ht 412 (by decide +kernel)) (zTb_at ht 52 (by decide +kernel)) (zPr_at hp 70 (by decide +kernel)) hA
    · exact vx_Zqof (args := args) (zTb_at ht 414 (by decide +kernel)) (zTb_at ht 52 (by decide +kernel)) (zPr_at hp 71 (by decide +kernel)) hA
    · exact va_Zof (args := args) (zTb_at ht 906 (by decide +kernel)) (zTb_at ht 60 (by decide +kernel)) (va_eqi (zPr_at hp 72 (by decide +kernel))) hA
    · exact va_Zof (zTb_at ht 357 (by decide +kernel)) (zTb_at ht 42 (by decide +kernel)) eL hA
    · exact va_Zof (zTb_at ht 359 (by decide +kernel)) (zTb_at ht 42 (by decide +kernel)) eH hA
    · intro j hj
      match j, hj with
      | 0, _ => exact oL
      | 1, _ => exact oH
      | 2, _ =>
        refine ⟨scr, x1, x2, x3, Nat.le_of_eq x4.symm, ?_, fun i hi => ?_, hA b hb⟩
        · show scr.slots.size.toInt32 = Int32.ofNat L
          rw [x4]
        · have h9 := x5 i hi
          rw [h9]
          show some (Value.int (xs i)) = some (.int (Int32.ofInt (xs ((i : Nat) : Int).toNat).toInt))
          rw [Int.toNat_natCast, Int32.ofInt_toInt]
      | j + 3, h => exact absurd h (by omega)
  · refine ⟨fun c q hq => hD c q hq, fun k q hk => ?_⟩
    match k with
    | 0 => cases hk; exact ⟨aI, nI⟩
    | 1 => cases hk; exact ⟨aC, nC⟩
    | 2 => cases hk; exact ⟨aJ, nJ⟩
    | 3 => cases hk; exact ⟨aD, nD⟩
    | k + 4 => exact absurd hk (by rw [List.getElem?_eq_none (show 4 ≤ k + 4 by omega)]; exact fun h => nomatch h)
theorem zlaw_all {G : zG} {L : Nat} {xs : Nat → Int32} (hG : zGo G) (h2 : G.2.2.2.2.2.1 2 = (L, fun x : Int => (xs x.toNat).toInt)) (hL : L ≤ 2560) : ∃ (h9 : zHp) (ce : Nat), ce ≤ 512 ∧ Ev G mL_law 0 [(3, 2), (9, 0), (9, 0), (9, 0), (9, 0), (9, 0), (9, 0), (9, 0), (9, 0), (9, 0)] [] ([], zkr1, zki2, (fun _ _ => 0, fun _ _ => 0)) (.inl (some (0, 1)), h9, 36 + ce, 27527 + 6 * ce) := by
  have e1 : (G.2.2.2.2.2.1 2).1 = L := by rw [h2]
  have e2 : ∀ x : Int, (G.2.2.2.2.2.1 2).2 x = (xs x.toNat).toInt := fun x => by rw [h2]
  obtain ⟨h9, ce, hce, E⟩ := zlaw_L hG (by rw [e1]; exact hL) (fun x _ _ => by rw [e2]; exact zi32 _) 512 0 zki60 (by decide) (by rw [e1]; omega) (by decide) zk_Q (zci (fun _ _ => 0) 34, zci (fun _ _ => 0) 35)
  refine ⟨h9, ce, hce, zbegin ?_⟩
  rw [zk_rf]
  exact E
/-- places on cells that were made since say nothing of those that were there before -/
theorem zDrop {s t : State} {J : List Loc} {k n : Nat} (h : s.sameButNew t J k n) (hJ : ∀ x ∈ J, s.heap.size ≤ x.base) : s.sameButNew t [] k n := by
  obtain ⟨h1, h2, h3, h4, h5, h6⟩ := h
  refine ⟨h1, h2, h3, h4, h5, fun a c hc => ?_⟩
  obtain ⟨c9, g1, g2, g3, g4⟩ := h6 a c hc
  refine ⟨c9, g1, g2, g3, fun i _ => g4 i fun hm => ?_⟩
  have := hJ _ hm
  have ha : a < s.heap.size := (Array.getElem?_eq_some_iff.mp hc).1
  exact absurd (Nat.lt_of_lt_of_le ha this) (Nat.lt_irrefl _)
def R_law : String := "AbbeyLedgersLaw"
def lw_P (b : Addr) (xs : List Int32) (args : Array Value) (s : State) : Prop := args = #[.ref b] ∧ s.IntsAt b xs ∧ xs.length ≤ 2560 ∧ (Jvm.Cond.and given_1 narrow_1).before args s = true
/-- what a walk over the start with the record d0 says of its end, said of the start itself -/
theorem lw_closed {s t : State} {o : Outcome} {d0 : Drawn} {L : List Loc} {k n : Nat} (hd0 : s.drawn.sameBut d0 lw_cs) (hv : ∃ v, o = .returned v) (hW : (s.setDrawn d0).WarmedH t.vm) (hs : (s.setDrawn d0).sameButNew ({ t with vm := s.vm } : State) L k n) : State.butDraws s t lw_cs (fun t1 => Framed s o t1 L k n) := by
  have h2 : t.drawn = d0 := congrArg State.drawn hs.1
  refine ⟨⟨hv, hW, State.sameButNew.setDrawn hs s.drawn⟩, ?_, by decide⟩
  rw [h2]
  exact hd0
def lw_Q (_ : Array Value) (s : State) (o : Outcome) (t : State) : Prop := o = .returned (some (.int 1)) ∧ State.butDraws s t lw_cs (fun t1 => Framed s o t1 [] 1078 35827)
def lw_Z (below : List Frame) (a : Array Value) (s : State) : State → Prop := fun t => ∃ o, t.status = .running ∧ Ended t below o ∧ lw_Q a s o t
/-- from the entry to the end -/
theorem whole_K {p : Program} {e : Env} {s : State} {m : MethodId} {below : List Frame} {meth : Method} {c : Code} (l : Launch) {b L : Nat} {xs : Nat → Int32} (hL : L ≤ 2560) (C : zCtx mL_law p l room_1 s m #[Value.ref b] meth c) (ht : ∀ w ∈ lw_tbl, w.before #[Value.ref b] s = true) (hp : ∀ w ∈ zPr, w.before #[Value.ref b] s = true) (hX : va_X b L xs s s.heap) (hb : b < s.heap.size) :
    W p l e room_1 s m #[Value.ref b] below meth c s.heap [] 0 0 (lw_Z below #[Value.ref b] s) (entryFrame m ([Value.ref b] : List Value).toArray 10) := by
  obtain ⟨G, hG, h2, rfl, hE, hK⟩ := zWorld ht hp hX hb
  obtain ⟨h9, ce, hce, E⟩ := zlaw_all hG h2 hL
  rw [lg_entry_eq]
  have hz : ∀ (k : Nat) (q : Nat × va_E), ¬ (zW G (fun _ => 0) ([], zkr1, zki2, (fun _ _ => 0, fun _ _ => 0)))[k]? = some q := fun k q h => by
    rw [show zW G (fun _ => 0) ([], zkr1, zki2, (fun _ _ => 0, fun _ _ => 0)) = [] from rfl] at h
    cases h
  have K := E p l e room_1 s m #[Value.ref (G.2.2.2.2.1 2)] below meth c C (fun q => s.heap.size ≤ q) (fun _ h => h) hE hK (fun _ => 0) 0 (fun _ => 0) s.heap [] 0 0 _ (fun _ h => absurd h (Nat.not_lt_zero _)) (Nat.le_refl 0) (fun k q h => absurd h (hz k q)) ⟨fun i j p q h => absurd h (hz i p), fun k q h => absurd h (hz k q)⟩ va_S.rf (zIn_has (G := G) (ad := fun _ => 0) (as := [(3, 2)]) (maxL := 10) rfl (by decide)) (show 0 + (36 + ce) ≤ 1078 by omega) (show 0 + (27527 + 6 * ce) ≤ 35827 by omega)
  intro T hT X
  obtain ⟨t, a1, o, b1, b2, b3⟩ := K T hT X
  refine ⟨t, a1, o, b1, b2, ?_⟩
  rcases b3 with ⟨⟨⟨v, ad, g1, g2, -⟩, -⟩, J, ⟨hv, hW, hs⟩, hf⟩ | ⟨q, -, Ex, ce9, J, hX9, -⟩
  · have e1 : v = some (0, 1) := (Sum.inl.inj g1).symm
    subst e1
    have e2 : o = .returned (some (.int 1)) := g2
    refine ⟨e2, ?_⟩
    exact lw_closed (d0 := s.drawn) (L := []) (Drawn.sameBut.refl s.drawn lw_cs) ⟨_, e2⟩ hW (zDrop hs hf)
  · exact absurd hX9 (zX_no _ _ _)
set_option maxHeartbeats 4000000 in
theorem lw_walk (l : Launch) (hflags : l.flags = flags0) (b : Addr) (xs : List Int32) : MetFree l x (headSpec (Jvm.Cond.code x code maxLocals ret :: tables_1) room_1) (lw_P b xs) (fun _ _ _ _ _ => True) lw_Q := by
  refine MetFree.of_bodyS (code := code) (maxLocals := maxLocals) (ret := ret) (by decide) ?_ ?_
  · intro args s m h hn
    obtain ⟨meth, c, h1, h2, h3, h4, h5, h6, -, -⟩ := Cond.code_spec hn (atoms_spec (ws := Jvm.Cond.code x code maxLocals ret :: tables_1) h _ List.mem_cons_self)
    exact ⟨meth, c, h1, h2, h3, h4, h5, h6⟩
  · intro p e s m args below meth c s₁ B hml0 hP _
    obtain ⟨rfl, hx, hbd, hgv⟩ := hP
    obtain ⟨scr, harrAt, hlist, hof, hsmall⟩ := hx
    obtain ⟨hcb, hkn, -, -⟩ := State.arrayAt?_spec harrAt
    have hown : s.vm.findClass R_law = some m.cls := findClass_of_methodNamed B.named
    have hts0 : ∀ c ∈ (Jvm.Cond.code x code maxLocals ret :: tables_1), c.before #[Value.ref b] s = true := atoms_spec (ws := Jvm.Cond.code x code maxLocals ret :: tables_1) B.pre
    have hts : ∀ w ∈ lw_tbl, w.before #[Value.ref b] s = true := k2_hts_sels lw_privs (fun w hw => hts0 w (List.mem_cons_of_mem _ hw)) lw_privs_ok
    have hml : c.maxLocals = 10 := B.maxLocals_eq (hts0 _ List.mem_cons_self)
    have X₀ : Stand p l e room_1 s m #[Value.ref b] below meth c s₁ [] 0 0 := Stand.of_body B
    have hh0 : s₁.heap = s.heap := by rw [B.state]; rfl
    have hsz : scr.slots.size = xs.length := by rw [← Array.length_toList, hlist, List.length_map]
    have hval : ∀ j : Nat, j < xs.length → scr.slots[j]? = some (.int (xs.getD j 0)) := fun j hj => by
      rw [← Array.getElem?_toList, hlist]
      simp [hj]
    have hbl : b < s.heap.size := (Array.getElem?_eq_some_iff.mp hcb).1
    have hX : va_X b xs.length (fun j => xs.getD j 0) s s.heap := ⟨scr, hcb, hof, hkn, hsz, hval⟩
    have K : W p l e room_1 s m #[Value.ref b] below meth c s₁.heap [] 0 0 (lw_Z below #[Value.ref b] s) (entryFrame m ([Value.ref b] : List Value).toArray 10) := by
      rw [hh0]
      have htab : c.exceptionTable.toList = tableOf mL_law.2.2.2.2.1 := by
        obtain ⟨meth9, c9, h1, h2, -, -, -, -, h7, -⟩ := Cond.code_spec B.named (hts0 _ List.mem_cons_self)
        cases Option.some.inj (h1.symm.trans B.method)
        cases Option.some.inj (h2.symm.trans X₀.code)
        rw [Array.isEmpty_iff.mp h7]
        rfl
      have hst : l.stackTraces = false := by
        unfold Launch.stackTraces
        rw [hflags]
        first | decide | decide +kernel
      have hs := flat_of_before _ hgv
      exact whole_K l hbd ⟨B.exec, B.bytes, hml, B.returns, hown, B.notSynchronized, fun w hw => hts w (List.mem_filter.mp hw).1, htab, hst, by decide, by decide, (name_of_methodNamed B.named B.method).1⟩ hts (fun w hw => hs w (List.mem_append_right _ hw)) hX hbl
    obtain ⟨t, a1, o, b1, b2, b3⟩ := K s₁ rfl X₀
    exact ⟨t, o, a1, b1, b2, b3⟩
theorem lw_pre_spec {args : Array Value} {s : State} (h : (Jvm.Cond.and given_1 narrow_1).before args s = true) (hr : rest_1_c.before args s = true) : ∃ (b : Addr) (xs : List Int32), lw_P b xs args s := by
  have hs := flat_of_before _ h
  have hq := flat_of_before _ hr
  have hc : (Cond.count 1).before args s = true := hs _ (by decide +kernel)
  have harr : (Cond.arrayOf (.arg 0) .int).before args s = true := hs _ (by decide +kernel)
  have hle : (Cond.le (.length (.arg 0)) (.int 2560)).before args s = true := hs _ (by decide +kernel)
  have hlen : (Cond.isInt (.length (.arg 0))).before args s = true := hq _ (by decide +kernel)
  have hall : (Cond.all (.arg 0) (.isInt (.elem (.arg 0) (.index 0)))).before args s = true := hq _ (by decide +kernel)
  obtain ⟨b, xs, hb, hx⟩ := State.ints_of_pre rfl harr hlen hall
  have hsm : xs.length < 2 ^ 31 := hx.choose_spec.2.2.2
  have hev : (Term.length (.arg 0)).eval args s none [] s = some (.int xs.length.toInt32) := hx.length_eval hb
  have hv := Cond.le_ints hev (show (Term.int 2560).eval args s none [] s = some (.int 2560) from rfl)
  have hd : xs.length.toInt32 ≤ 2560 := by
    simpa [Cond.before, Cond.holds, hv] using hle
  have hN : xs.length ≤ 2560 := (Int32.ofNat_le_ofNat hsm (by decide)).mp (show Int32.ofNat xs.length ≤ Int32.ofNat 2560 from hd)
  exact ⟨b, xs, Cond.one_arg hc (show args[0]? = some (.ref b) from hb), hx, hN, h⟩
theorem lw_comes (l : Launch) (hflags : l.flags = flags0) : Comes l x (Jvm.Cond.code x code maxLocals ret :: tables_1) room_1 (fun tb e args s => Calls_1 tb e args s ∧ rest_1 tb e args s ∧ Pre_1 tb e args s)
    (fun _ _ args s o t => lw_Q args s o t) := by
  intro p e ha hc hk s m args below hf hfit hheap happ hpre
  obtain ⟨b, xs, hP⟩ := lw_pre_spec hpre.2.2 hpre.2.1
  obtain ⟨k, o, h1, h2, h3, hQ⟩ := lw_walk l hflags b xs p e ha hc hk s m args below hf ((Spec.applies_iff_loose hf).mp happ).1 hP trivial
  exact ⟨k, o, h1, h2, h3, hQ⟩
theorem lw_frame {s t : State} {o : Outcome} {args : Array Value} (h : State.butDraws s t lw_cs (fun t1 => Framed s o t1 [] 1078 35827)) :
    State.butDraws s t [Jvm.Choice.named "NaN.bits"] (fun t1 => Framed s o t1 (fieldLocs frame_1_writes args s ++ arrayLocs frame_1_arrays args s ++ staticLocs frame_1_statics s) 1078 35827) := h
theorem lw_limb (L : Cond) (hL : ∀ (args : Array Value) (s t : State), L.after args s (.returned (some (.int 1))) t = true) :
    ArmFor flags0 classFile x code maxLocals ret World_1 tables_1 room_1 Calls_1 rest_1 Pre_1
      (fun tb e a s o t => postC L tb e a s o t ∧ State.butDraws s t [Jvm.Choice.named "NaN.bits"] (fun t1 => Framed s o t1 (fieldLocs frame_1_writes a s ++ arrayLocs frame_1_arrays a s ++ staticLocs frame_1_statics s) 1078 35827)) := by
  intro l hflags _ _ p e ha hc hk s m args below hf hfit hheap happ hpre
  obtain ⟨k, o, h1, h2, h3, rfl, hF⟩ := lw_comes l hflags p e ha hc hk s m args below hf hfit hheap happ hpre
  exact ⟨k, _, h1, h2, h3, hL args s _, lw_frame hF⟩
theorem i_vc : Claimed_1_1 ∧ Claimed_1_2 := ⟨lw_limb limb_1_1 (fun args s t => by simp [limb_1_1, Cond.after, Cond.holds, Cond.value]), lw_limb limb_1_2 (fun args s t => Cond.after_iff.mpr (by
  first | (rw [show limb_1_2 = Cond.eq .result (.int 1) from rfl, Cond.eq_ints (x := 1) (y := 1) rfl rfl]; simp; done) | (simp [limb_1_2, Cond.value, Term.eval]; done)))⟩
