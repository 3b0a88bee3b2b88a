/-! THE ENVIRONMENT, THE JUDGEMENT AND ITS RULES (printed by wip/whole/gen/sim2.py) -/
/-- the text constants: class, place, text -/
def zSK : List (String × Nat × String) := [("AbbeyLedgers", 316, "refused"), ("AbbeyLedgers", 331, "no such house"), ("AbbeyLedgers", 326, "no such version"), ("AbbeyLedgers", 336, "no such lines"), ("AbbeyLedgers", 125, "the sum is not reached"), ("AbbeyLedgers", 153, "no such number of a version"), ("AbbeyLedgers", 341, "no such span"), ("AbbeyLedgers", 162, "no such year"), ("AbbeyLedgers", 192, "no such place"), ("AbbeyLedgers", 198, "there is only the version 0"), ("AbbeyLedgers", 209, "the buffer is full"), ("AbbeyLedgers$Draft", 71, "1/2=3"), ("AbbeyLedgers$Draft", 73, "1/2:2-2"), ("AbbeyLedgers$Draft", 75, "1<1"), ("AbbeyLedgers$Draft", 77, "1*2"), ("AbbeyLedgers$Draft", 79, "2"), ("AbbeyLedgers$Draft", 81, ""), ("AbbeyLedgers", 223, "the text has a fault"), ("AbbeyLedgers", 244, "no such number of a reason"), ("AbbeyLedgers", 249, "nothing was refused"), ("AbbeyLedgers", 265, "no such index"), ("AbbeyLedgers", 296, "no such account"), ("AbbeyLedgers", 298, "there is nothing to undo"), ("AbbeyLedgers", 309, "there is no snapshot")]
def zSl : List Nat := [7, 13, 15, 13, 22, 27, 12, 12, 13, 27, 18, 5, 7, 3, 3, 1, 0, 20, 26, 19, 13, 15, 24, 20]
def zSb : List (List Int32) := [[114, 101, 102, 117, 115, 101, 100], [110, 111, 32, 115, 117, 99, 104, 32, 104, 111, 117, 115, 101], [110, 111, 32, 115, 117, 99, 104, 32, 118, 101, 114, 115, 105, 111, 110], [110, 111, 32, 115, 117, 99, 104, 32, 108, 105, 110, 101, 115], [116, 104, 101, 32, 115, 117, 109, 32, 105, 115, 32, 110, 111, 116, 32, 114, 101, 97, 99, 104, 101, 100], [110, 111, 32, 115, 117, 99, 104, 32, 110, 117, 109, 98, 101, 114, 32, 111, 102, 32, 97, 32, 118, 101, 114, 115, 105, 111, 110], [110, 111, 32, 115, 117, 99, 104, 32, 115, 112, 97, 110], [110, 111, 32, 115, 117, 99, 104, 32, 121, 101, 97, 114], [110, 111, 32, 115, 117, 99, 104, 32, 112, 108, 97, 99, 101], [116, 104, 101, 114, 101, 32, 105, 115, 32, 111, 110, 108, 121, 32, 116, 104, 101, 32, 118, 101, 114, 115, 105, 111, 110, 32, 48], [116, 104, 101, 32, 98, 117, 102, 102, 101, 114, 32, 105, 115, 32, 102, 117, 108, 108], [49, 47, 50, 61, 51], [49, 47, 50, 58, 50, 45, 50], [49, 60, 49], [49, 42, 50], [50], [], [116, 104, 101, 32, 116, 101, 120, 116, 32, 104, 97, 115, 32, 97, 32, 102, 97, 117, 108, 116], [110, 111, 32, 115, 117, 99, 104, 32, 110, 117, 109, 98, 101, 114, 32, 111, 102, 32, 97, 32, 114, 101, 97, 115, 111, 110], [110, 111, 116, 104, 105, 110, 103, 32, 119, 97, 115, 32, 114, 101, 102, 117, 115, 101, 100], [110, 111, 32, 115, 117, 99, 104, 32, 105, 110, 100, 101, 120], [110, 111, 32, 115, 117, 99, 104, 32, 97, 99, 99, 111, 117, 110, 116], [116, 104, 101, 114, 101, 32, 105, 115, 32, 110, 111, 116, 104, 105, 110, 103, 32, 116, 111, 32, 117, 110, 100, 111], [116, 104, 101, 114, 101, 32, 105, 115, 32, 110, 111, 32, 115, 110, 97, 112, 115, 104, 111, 116]]
/-- what holds of the cells that are not ours -/
def zEnv (G : zG) (A : Nat → Prop) (U : State) (H : Heap) : Prop :=
  (∀ w ∈ zNw, va_Nw w U) ∧ (∀ q ∈ zNc, va_Nc q.1 q.2 U) ∧ (∀ (i : Nat) (q : String × Nat × String), zSK[i]? = some q → vk_R q.1 q.2.1 q.2.2 (G.2.2.1 i) U) ∧
  vx_Zq Bundle.tN "UNASSIGNED_STACK" Bundle.steD A U H ∧ vx_Zq Bundle.tN "SUPPRESSED_SENTINEL" Bundle.listD A U H ∧
  vk_S 24 zSl zSb G.2.2.1 G.2.2.2.1 A U H ∧ va_Z "java/lang/String" "COMPACT_STRINGS" "Z" (.int 1) A U H ∧ va_Z "jdk/internal/util/Preconditions" "SIOOBE_FORMATTER" "Ljava/util/function/BiFunction;" (va_rf G.2.2.2.2.2.2) A U H ∧
  va_Z RX7 "LOWEST_LINE_OF_SPAN" "[I" (.ref (G.2.2.2.2.1 0)) A U H ∧ va_Z RX7 "HIGHEST_LINE_OF_SPAN" "[I" (.ref (G.2.2.2.2.1 1)) A U H ∧
  ∀ j, j < 3 → va_T .int (G.2.2.2.2.1 j) (G.2.2.2.2.2.1 j).1 (fun i => .int (Int32.ofInt ((G.2.2.2.2.2.1 j).2 (i : Int)))) A U H
theorem zNw_warm {s U : State} (hW : s.WarmedH U.vm) {w : Cond} (hw : zNwOk w = true) (h : va_Nw w s) : va_Nw w U := by
  cases w <;> first | exact va_Nw.warmF hW h | exact va_Nw.warmM hW h | exact va_Nw.warmC hW h | exact va_Nw.warmD hW h | (cases hw)
theorem zEnv.go {G : zG} {A B : Nat → Prop} {s U : State} {H : Heap} (h : zEnv G A s s.heap) (hq : ∀ a : Nat, a < s.heap.size → ¬ A a → H[a]? = s.heap[a]?) (hAB : ∀ q, B q → A q) (hU : U.heap = H) (hW : s.WarmedH U.vm) : zEnv G B U U.heap := by
  obtain ⟨h1, h2, h3, h4, h5, h6, h7, h8, h9, h10, h11⟩ := h
  have hv := hW.alike
  subst hU
  exact ⟨fun w hw => zNw_warm hW (List.mem_filter.mp hw).2 (h1 w hw), fun q hq => (h2 q hq).moved hv, fun i q hi => vk_R.warm hW (h3 i q hi),
    ((h4.moved hv).kept hq).narrow hAB, ((h5.moved hv).kept hq).narrow hAB, ((h6.moved hv).kept hq).narrow hAB, ((h7.moved hv).kept hq).narrow hAB, ((h8.moved hv).kept hq).narrow hAB, ((h9.moved hv).kept hq).narrow hAB, ((h10.moved hv).kept hq).narrow hAB,
    fun j hj => (((h11 j hj).moved hv).kept hq).narrow hAB⟩
/-- the world behind a method -/
def zWd (G : zG) (A : Nat → Prop) (ad0 : Nat → Nat) (n0 : Nat) (h : zHp) (ad : Nat → Nat) (t : State) : Prop := va_P G.1 vwCl (zW G ad h) t.heap ∧ va_D A (zW G ad h) ∧ ∀ c, c < n0 → ad c = ad0 c
def zQ (G : zG) (A : Nat → Prop) (ad0 : Nat → Nat) (n0 : Nat) (O : zO) : Array Value → State → Outcome → State → Prop := fun _ st oc t =>
  (∃ (v : Option zSV) (ad : Nat → Nat), O.1 = .inl v ∧ oc = .returned (v.map (zc G ad)) ∧ zWd G A ad0 n0 O.2.1 ad t) ∧ va_F A st t
def zX (G : zG) (A : Nat → Prop) (ad0 : Nat → Nat) (n0 : Nat) (O : zO) : String → State → State → Prop := fun E st t =>
  (∃ ad : Nat → Nat, O.1 = .inr E ∧ zWd G A ad0 n0 O.2.1 ad t) ∧ va_F A st t
def zCtx (M : zM) (p : Program) (l : Launch) (R : Room) (s : State) (m : MethodId) (args : Array Value) (meth : Method) (c : Code) : Prop :=
  p.tables.exec = Jvm.exec ∧ c.code = M.2.1 ∧ c.maxLocals = M.2.2.1 ∧ meth.sig.returnType = M.2.2.2.1 ∧ s.vm.findClass M.1.cls = some m.cls ∧ meth.locks = false ∧ (∀ w ∈ zT, w.before args s = true) ∧ c.exceptionTable.toList = tableOf M.2.2.2.2.1 ∧ l.stackTraces = false ∧ M.2.2.2.2.2.1 ≤ R.frames ∧ M.2.2.2.2.2.2 ≤ R.locals ∧ meth.name = M.1.name
/-- from the place pc of the body of M, with these locals, this stack and this heap: the outcome is O -/
def Ev (G : zG) (M : zM) (pc : Nat) (ls st : List zSV) (h : zHp) (O : zO) : Prop :=
  ∀ (p : Program) (l : Launch) (e : Env) (R : Room) (s : State) (m : MethodId) (args : Array Value) (below : List Frame) (meth : Method) (c : Code), zCtx M p l R s m args meth c → ∀ A : Nat → Prop, (∀ q, s.heap.size ≤ q → A q) → zEnv G A s s.heap → va_K G.1 vwCl (zTys G) s →
    ∀ (ad0 : Nat → Nat) (n0 : Nat) (ad : Nat → Nat) (H : Heap) (locs : List Loc) (cells slots : Nat) (la : Array Slot), (∀ c, c < n0 → ad c = ad0 c) → n0 ≤ h.1.length → va_P G.1 vwCl (zW G ad h) H → va_D A (zW G ad h) → va_S A s.heap H locs → lv_has la M.2.2.1 (zL G ad ls) → cells + O.2.2.1 ≤ R.cells → slots + O.2.2.2 ≤ R.slots →
      W p l e R s m args below meth c H locs cells slots (vx_MQ below (zQ G A ad0 n0 O) (zX G A ad0 n0 O) args s R.cells R.slots A) (F0 m pc la (st.map (zc G ad)))
theorem z_toInt {x : Int} (h : -2147483648 ≤ x ∧ x ≤ 2147483647) : (Int32.ofInt x).toInt = x := Int32.toInt_ofInt_of_le (by omega) (by omega)
theorem z_lt {x y : Int} (hx : -2147483648 ≤ x ∧ x ≤ 2147483647) (hy : -2147483648 ≤ y ∧ y ≤ 2147483647) : Int32.ofInt x < Int32.ofInt y ↔ x < y := by rw [Int32.lt_iff_toInt_lt, z_toInt hx, z_toInt hy]
theorem z_le {x y : Int} (hx : -2147483648 ≤ x ∧ x ≤ 2147483647) (hy : -2147483648 ≤ y ∧ y ≤ 2147483647) : Int32.ofInt x ≤ Int32.ofInt y ↔ x ≤ y := by rw [Int32.le_iff_toInt_le, z_toInt hx, z_toInt hy]
theorem z_eq {x y : Int} (hx : -2147483648 ≤ x ∧ x ≤ 2147483647) (hy : -2147483648 ≤ y ∧ y ≤ 2147483647) : Int32.ofInt x = Int32.ofInt y ↔ x = y := by rw [← Int32.toInt_inj, z_toInt hx, z_toInt hy]
theorem z_0 : (0 : Int32) = Int32.ofInt 0 := rfl
theorem z_r0 : -2147483648 ≤ (0 : Int) ∧ (0 : Int) ≤ 2147483647 := by decide
theorem z_clamp {x : Int} (h : 0 ≤ x ∧ x ≤ 2147483647) : (Int32.ofInt x).toNatClampNeg = x.toNat := Int32.toNatClampNeg_ofInt_of_le (by omega) (by omega)
theorem z_in {x : Int} {n : Nat} (h : 0 ≤ x ∧ x < (n : Int)) (hn : n ≤ 2147483647) : vp_in (Int32.ofInt x) n := by
  intro hz
  rcases hz with hz | hz
  · rw [z_0, z_lt ⟨by omega, by omega⟩ z_r0] at hz
    omega
  · rw [z_clamp ⟨h.1, by omega⟩] at hz
    omega
theorem z_shr0 (x : Int32) : x >>> (Int32.ofInt 0 &&& 31) = x := by
  rw [show Int32.ofInt 0 &&& 31 = (0 : Int32) from rfl]
  apply Int32.toBitVec_inj.mp
  rw [Int32.toBitVec_shiftRight]
  simp
theorem Ev.iconst {G : zG} {M : zM} {pc pc9 : Nat} {ls st : List zSV} {h : zHp} {O : zO} {n : Int}
    (hf : zf M pc = some (.iconst n, 1, pc9)) (k : Ev G M pc9 ls ((0, n) :: st) h O) : Ev G M pc ls st h O := by
  intro p l e R s m args below meth cd C A hA hE hK ad0 n0 ad H locs cells slots la ha hn hP hD hS hl hcs hss
  obtain ⟨hd, rfl⟩ := zf_ok hf
  refine lv_iconst (v := Int32.ofInt n) C.1 C.2.1 hd rfl ?_
  exact k p l e R s m args below meth cd C A hA hE hK ad0 n0 ad H locs cells slots la ha hn hP hD hS hl hcs hss
theorem Ev.bipush {G : zG} {M : zM} {pc pc9 : Nat} {ls st : List zSV} {h : zHp} {O : zO} {n : Int}
    (hf : zf M pc = some (.bipush n, 2, pc9)) (hn8 : (Int8.ofInt n).toInt32 = Int32.ofInt n) (k : Ev G M pc9 ls ((0, n) :: st) h O) : Ev G M pc ls st h O := by
  intro p l e R s m args below meth cd C A hA hE hK ad0 n0 ad H locs cells slots la ha hn hP hD hS hl hcs hss
  obtain ⟨hd, rfl⟩ := zf_ok hf
  refine lv_bipush (v := Int32.ofInt n) C.1 C.2.1 hd hn8 ?_
  exact k p l e R s m args below meth cd C A hA hE hK ad0 n0 ad H locs cells slots la ha hn hP hD hS hl hcs hss
theorem Ev.sipush {G : zG} {M : zM} {pc pc9 : Nat} {ls st : List zSV} {h : zHp} {O : zO} {n : Int}
    (hf : zf M pc = some (.sipush n, 3, pc9)) (hn8 : (Int16.ofInt n).toInt32 = Int32.ofInt n) (k : Ev G M pc9 ls ((0, n) :: st) h O) : Ev G M pc ls st h O := by
  intro p l e R s m args below meth cd C A hA hE hK ad0 n0 ad H locs cells slots la ha hn hP hD hS hl hcs hss
  obtain ⟨hd, rfl⟩ := zf_ok hf
  refine lv_sipush (v := Int32.ofInt n) C.1 C.2.1 hd hn8 ?_
  exact k p l e R s m args below meth cd C A hA hE hK ad0 n0 ad H locs cells slots la ha hn hP hD hS hl hcs hss
theorem Ev.iload {G : zG} {M : zM} {pc pc9 : Nat} {ls st : List zSV} {h : zHp} {O : zO} {i : Nat} {x : Int}
    (hf : zf M pc = some (.iload i, 2, pc9)) (hi : ls[i]? = some (0, x)) (k : Ev G M pc9 ls ((0, x) :: st) h O) : Ev G M pc ls st h O := by
  intro p l e R s m args below meth cd C A hA hE hK ad0 n0 ad H locs cells slots la ha hn hP hD hS hl hcs hss
  obtain ⟨hd, rfl⟩ := zf_ok hf
  refine lv_iload C.1 C.2.1 hd (zL_at hl hi (by simp)) ?_
  exact k p l e R s m args below meth cd C A hA hE hK ad0 n0 ad H locs cells slots la ha hn hP hD hS hl hcs hss
theorem Ev.iload_n {G : zG} {M : zM} {pc pc9 : Nat} {ls st : List zSV} {h : zHp} {O : zO} {i : Fin 4} {x : Int}
    (hf : zf M pc = some (.iload_n i, 1, pc9)) (hi : ls[i.val]? = some (0, x)) (k : Ev G M pc9 ls ((0, x) :: st) h O) : Ev G M pc ls st h O := by
  intro p l e R s m args below meth cd C A hA hE hK ad0 n0 ad H locs cells slots la ha hn hP hD hS hl hcs hss
  obtain ⟨hd, rfl⟩ := zf_ok hf
  refine lv_iload_n C.1 C.2.1 hd rfl (zL_at hl hi (by simp)) ?_
  exact k p l e R s m args below meth cd C A hA hE hK ad0 n0 ad H locs cells slots la ha hn hP hD hS hl hcs hss
theorem Ev.aload_1 {G : zG} {M : zM} {pc pc9 : Nat} {ls st : List zSV} {h : zHp} {O : zO} {i : Nat} {x : Int}
    (hf : zf M pc = some (.aload i, 2, pc9)) (hi : ls[i]? = some (1, x)) (k : Ev G M pc9 ls ((1, x) :: st) h O) : Ev G M pc ls st h O := by
  intro p l e R s m args below meth cd C A hA hE hK ad0 n0 ad H locs cells slots la ha hn hP hD hS hl hcs hss
  obtain ⟨hd, rfl⟩ := zf_ok hf
  refine lv_aload C.1 C.2.1 hd (zL_at hl hi (by simp)) ?_
  exact k p l e R s m args below meth cd C A hA hE hK ad0 n0 ad H locs cells slots la ha hn hP hD hS hl hcs hss
theorem Ev.aload_n_1 {G : zG} {M : zM} {pc pc9 : Nat} {ls st : List zSV} {h : zHp} {O : zO} {i : Fin 4} {x : Int}
    (hf : zf M pc = some (.aload_n i, 1, pc9)) (hi : ls[i.val]? = some (1, x)) (k : Ev G M pc9 ls ((1, x) :: st) h O) : Ev G M pc ls st h O := by
  intro p l e R s m args below meth cd C A hA hE hK ad0 n0 ad H locs cells slots la ha hn hP hD hS hl hcs hss
  obtain ⟨hd, rfl⟩ := zf_ok hf
  refine lv_aload_n C.1 C.2.1 hd rfl (zL_at hl hi (by simp)) ?_
  exact k p l e R s m args below meth cd C A hA hE hK ad0 n0 ad H locs cells slots la ha hn hP hD hS hl hcs hss
theorem Ev.astore_1 {G : zG} {M : zM} {pc pc9 : Nat} {ls st : List zSV} {h : zHp} {O : zO} {i : Nat} {x : Int}
    (hf : zf M pc = some (.astore i, 2, pc9)) (hm : Nat.ble (i + 1) M.2.2.1 = true) (hb : zb ls i = true) (k : Ev G M pc9 (ls.set i (1, x)) st h O) : Ev G M pc ls ((1, x) :: st) h O := by
  intro p l e R s m args below meth cd C A hA hE hK ad0 n0 ad H locs cells slots la ha hn hP hD hS hl hcs hss
  obtain ⟨hd, rfl⟩ := zf_ok hf
  refine lv_astore C.1 C.2.1 hd hl (Nat.le_of_ble_eq_true hm) rfl (fun la hl => ?_)
  exact k p l e R s m args below meth cd C A hA hE hK ad0 n0 ad H locs cells slots la ha hn hP hD hS (zL_set (w := (1, x)) hb hl) hcs hss
theorem Ev.astore_n_1 {G : zG} {M : zM} {pc pc9 : Nat} {ls st : List zSV} {h : zHp} {O : zO} {i : Fin 4} {x : Int}
    (hf : zf M pc = some (.astore_n i, 1, pc9)) (hm : Nat.ble (i.val + 1) M.2.2.1 = true) (hb : zb ls i.val = true) (k : Ev G M pc9 (ls.set i.val (1, x)) st h O) : Ev G M pc ls ((1, x) :: st) h O := by
  intro p l e R s m args below meth cd C A hA hE hK ad0 n0 ad H locs cells slots la ha hn hP hD hS hl hcs hss
  obtain ⟨hd, rfl⟩ := zf_ok hf
  refine lv_astore_n C.1 C.2.1 hd rfl hl (Nat.le_of_ble_eq_true hm) rfl (fun la hl => ?_)
  exact k p l e R s m args below meth cd C A hA hE hK ad0 n0 ad H locs cells slots la ha hn hP hD hS (zL_set (w := (1, x)) hb hl) hcs hss
theorem Ev.aload_2 {G : zG} {M : zM} {pc pc9 : Nat} {ls st : List zSV} {h : zHp} {O : zO} {i : Nat} {x : Int}
    (hf : zf M pc = some (.aload i, 2, pc9)) (hi : ls[i]? = some (2, x)) (k : Ev G M pc9 ls ((2, x) :: st) h O) : Ev G M pc ls st h O := by
  intro p l e R s m args below meth cd C A hA hE hK ad0 n0 ad H locs cells slots la ha hn hP hD hS hl hcs hss
  obtain ⟨hd, rfl⟩ := zf_ok hf
  refine lv_aload C.1 C.2.1 hd (zL_at hl hi (by simp)) ?_
  exact k p l e R s m args below meth cd C A hA hE hK ad0 n0 ad H locs cells slots la ha hn hP hD hS hl hcs hss
theorem Ev.aload_n_2 {G : zG} {M : zM} {pc pc9 : Nat} {ls st : List zSV} {h : zHp} {O : zO} {i : Fin 4} {x : Int}
    (hf : zf M pc = some (.aload_n i, 1, pc9)) (hi : ls[i.val]? = some (2, x)) (k : Ev G M pc9 ls ((2, x) :: st) h O) : Ev G M pc ls st h O := by
  intro p l e R s m args below meth cd C A hA hE hK ad0 n0 ad H locs cells slots la ha hn hP hD hS hl hcs hss
  obtain ⟨hd, rfl⟩ := zf_ok hf
  refine lv_aload_n C.1 C.2.1 hd rfl (zL_at hl hi (by simp)) ?_
  exact k p l e R s m args below meth cd C A hA hE hK ad0 n0 ad H locs cells slots la ha hn hP hD hS hl hcs hss
theorem Ev.astore_2 {G : zG} {M : zM} {pc pc9 : Nat} {ls st : List zSV} {h : zHp} {O : zO} {i : Nat} {x : Int}
    (hf : zf M pc = some (.astore i, 2, pc9)) (hm : Nat.ble (i + 1) M.2.2.1 = true) (hb : zb ls i = true) (k : Ev G M pc9 (ls.set i (2, x)) st h O) : Ev G M pc ls ((2, x) :: st) h O := by
  intro p l e R s m args below meth cd C A hA hE hK ad0 n0 ad H locs cells slots la ha hn hP hD hS hl hcs hss
  obtain ⟨hd, rfl⟩ := zf_ok hf
  refine lv_astore C.1 C.2.1 hd hl (Nat.le_of_ble_eq_true hm) rfl (fun la hl => ?_)
  exact k p l e R s m args below meth cd C A hA hE hK ad0 n0 ad H locs cells slots la ha hn hP hD hS (zL_set (w := (2, x)) hb hl) hcs hss
theorem Ev.astore_n_2 {G : zG} {M : zM} {pc pc9 : Nat} {ls st : List zSV} {h : zHp} {O : zO} {i : Fin 4} {x : Int}
    (hf : zf M pc = some (.astore_n i, 1, pc9)) (hm : Nat.ble (i.val + 1) M.2.2.1 = true) (hb : zb ls i.val = true) (k : Ev G M pc9 (ls.set i.val (2, x)) st h O) : Ev G M pc ls ((2, x) :: st) h O := by
  intro p l e R s m args below meth cd C A hA hE hK ad0 n0 ad H locs cells slots la ha hn hP hD hS hl hcs hss
  obtain ⟨hd, rfl⟩ := zf_ok hf
  refine lv_astore_n C.1 C.2.1 hd rfl hl (Nat.le_of_ble_eq_true hm) rfl (fun la hl => ?_)
  exact k p l e R s m args below meth cd C A hA hE hK ad0 n0 ad H locs cells slots la ha hn hP hD hS (zL_set (w := (2, x)) hb hl) hcs hss
theorem Ev.aload_3 {G : zG} {M : zM} {pc pc9 : Nat} {ls st : List zSV} {h : zHp} {O : zO} {i : Nat} {x : Int}
    (hf : zf M pc = some (.aload i, 2, pc9)) (hi : ls[i]? = some (3, x)) (k : Ev G M pc9 ls ((3, x) :: st) h O) : Ev G M pc ls st h O := by
  intro p l e R s m args below meth cd C A hA hE hK ad0 n0 ad H locs cells slots la ha hn hP hD hS hl hcs hss
  obtain ⟨hd, rfl⟩ := zf_ok hf
  refine lv_aload C.1 C.2.1 hd (zL_at hl hi (by simp)) ?_
  exact k p l e R s m args below meth cd C A hA hE hK ad0 n0 ad H locs cells slots la ha hn hP hD hS hl hcs hss
theorem Ev.aload_n_3 {G : zG} {M : zM} {pc pc9 : Nat} {ls st : List zSV} {h : zHp} {O : zO} {i : Fin 4} {x : Int}
    (hf : zf M pc = some (.aload_n i, 1, pc9)) (hi : ls[i.val]? = some (3, x)) (k : Ev G M pc9 ls ((3, x) :: st) h O) : Ev G M pc ls st h O := by
  intro p l e R s m args below meth cd C A hA hE hK ad0 n0 ad H locs cells slots la ha hn hP hD hS hl hcs hss
  obtain ⟨hd, rfl⟩ := zf_ok hf
  refine lv_aload_n C.1 C.2.1 hd rfl (zL_at hl hi (by simp)) ?_
  exact k p l e R s m args below meth cd C A hA hE hK ad0 n0 ad H locs cells slots la ha hn hP hD hS hl hcs hss
theorem Ev.astore_3 {G : zG} {M : zM} {pc pc9 : Nat} {ls st : List zSV} {h : zHp} {O : zO} {i : Nat} {x : Int}
    (hf : zf M pc = some (.astore i, 2, pc9)) (hm : Nat.ble (i + 1) M.2.2.1 = true) (hb : zb ls i = true) (k : Ev G M pc9 (ls.set i (3, x)) st h O) : Ev G M pc ls ((3, x) :: st) h O := by
  intro p l e R s m args below meth cd C A hA hE hK ad0 n0 ad H locs cells slots la ha hn hP hD hS hl hcs hss
  obtain ⟨hd, rfl⟩ := zf_ok hf
  refine lv_astore C.1 C.2.1 hd hl (Nat.le_of_ble_eq_true hm) rfl (fun la hl => ?_)
  exact k p l e R s m args below meth cd C A hA hE hK ad0 n0 ad H locs cells slots la ha hn hP hD hS (zL_set (w := (3, x)) hb hl) hcs hss
theorem Ev.astore_n_3 {G : zG} {M : zM} {pc pc9 : Nat} {ls st : List zSV} {h : zHp} {O : zO} {i : Fin 4} {x : Int}
    (hf : zf M pc = some (.astore_n i, 1, pc9)) (hm : Nat.ble (i.val + 1) M.2.2.1 = true) (hb : zb ls i.val = true) (k : Ev G M pc9 (ls.set i.val (3, x)) st h O) : Ev G M pc ls ((3, x) :: st) h O := by
  intro p l e R s m args below meth cd C A hA hE hK ad0 n0 ad H locs cells slots la ha hn hP hD hS hl hcs hss
  obtain ⟨hd, rfl⟩ := zf_ok hf
  refine lv_astore_n C.1 C.2.1 hd rfl hl (Nat.le_of_ble_eq_true hm) rfl (fun la hl => ?_)
  exact k p l e R s m args below meth cd C A hA hE hK ad0 n0 ad H locs cells slots la ha hn hP hD hS (zL_set (w := (3, x)) hb hl) hcs hss
theorem Ev.aload_7 {G : zG} {M : zM} {pc pc9 : Nat} {ls st : List zSV} {h : zHp} {O : zO} {i : Nat} {x : Int}
    (hf : zf M pc = some (.aload i, 2, pc9)) (hi : ls[i]? = some (7, x)) (k : Ev G M pc9 ls ((7, x) :: st) h O) : Ev G M pc ls st h O := by
  intro p l e R s m args below meth cd C A hA hE hK ad0 n0 ad H locs cells slots la ha hn hP hD hS hl hcs hss
  obtain ⟨hd, rfl⟩ := zf_ok hf
  refine lv_aload C.1 C.2.1 hd (zL_at hl hi (by simp)) ?_
  exact k p l e R s m args below meth cd C A hA hE hK ad0 n0 ad H locs cells slots la ha hn hP hD hS hl hcs hss
theorem Ev.aload_n_7 {G : zG} {M : zM} {pc pc9 : Nat} {ls st : List zSV} {h : zHp} {O : zO} {i : Fin 4} {x : Int}
    (hf : zf M pc = some (.aload_n i, 1, pc9)) (hi : ls[i.val]? = some (7, x)) (k : Ev G M pc9 ls ((7, x) :: st) h O) : Ev G M pc ls st h O := by
  intro p l e R s m args below meth cd C A hA hE hK ad0 n0 ad H locs cells slots la ha hn hP hD hS hl hcs hss
  obtain ⟨hd, rfl⟩ := zf_ok hf
  refine lv_aload_n C.1 C.2.1 hd rfl (zL_at hl hi (by simp)) ?_
  exact k p l e R s m args below meth cd C A hA hE hK ad0 n0 ad H locs cells slots la ha hn hP hD hS hl hcs hss
theorem Ev.astore_7 {G : zG} {M : zM} {pc pc9 : Nat} {ls st : List zSV} {h : zHp} {O : zO} {i : Nat} {x : Int}
    (hf : zf M pc = some (.astore i, 2, pc9)) (hm : Nat.ble (i + 1) M.2.2.1 = true) (hb : zb ls i = true) (k : Ev G M pc9 (ls.set i (7, x)) st h O) : Ev G M pc ls ((7, x) :: st) h O := by
  intro p l e R s m args below meth cd C A hA hE hK ad0 n0 ad H locs cells slots la ha hn hP hD hS hl hcs hss
  obtain ⟨hd, rfl⟩ := zf_ok hf
  refine lv_astore C.1 C.2.1 hd hl (Nat.le_of_ble_eq_true hm) rfl (fun la hl => ?_)
  exact k p l e R s m args below meth cd C A hA hE hK ad0 n0 ad H locs cells slots la ha hn hP hD hS (zL_set (w := (7, x)) hb hl) hcs hss
theorem Ev.astore_n_7 {G : zG} {M : zM} {pc pc9 : Nat} {ls st : List zSV} {h : zHp} {O : zO} {i : Fin 4} {x : Int}
    (hf : zf M pc = some (.astore_n i, 1, pc9)) (hm : Nat.ble (i.val + 1) M.2.2.1 = true) (hb : zb ls i.val = true) (k : Ev G M pc9 (ls.set i.val (7, x)) st h O) : Ev G M pc ls ((7, x) :: st) h O := by
  intro p l e R s m args below meth cd C A hA hE hK ad0 n0 ad H locs cells slots la ha hn hP hD hS hl hcs hss
  obtain ⟨hd, rfl⟩ := zf_ok hf
  refine lv_astore_n C.1 C.2.1 hd rfl hl (Nat.le_of_ble_eq_true hm) rfl (fun la hl => ?_)
  exact k p l e R s m args below meth cd C A hA hE hK ad0 n0 ad H locs cells slots la ha hn hP hD hS (zL_set (w := (7, x)) hb hl) hcs hss
theorem Ev.dload {G : zG} {M : zM} {pc pc9 : Nat} {ls st : List zSV} {h : zHp} {O : zO} {i : Nat} {x : Int}
    (hf : zf M pc = some (.dload i, 2, pc9)) (hi : ls[i]? = some (5, x)) (k : Ev G M pc9 ls ((5, x) :: st) h O) : Ev G M pc ls st h O := by
  intro p l e R s m args below meth cd C A hA hE hK ad0 n0 ad H locs cells slots la ha hn hP hD hS hl hcs hss
  obtain ⟨hd, rfl⟩ := zf_ok hf
  refine lv_dload C.1 C.2.1 hd (zL_at hl hi (by simp)) ?_
  exact k p l e R s m args below meth cd C A hA hE hK ad0 n0 ad H locs cells slots la ha hn hP hD hS hl hcs hss
theorem Ev.istore {G : zG} {M : zM} {pc pc9 : Nat} {ls st : List zSV} {h : zHp} {O : zO} {i : Nat} {x : Int}
    (hf : zf M pc = some (.istore i, 2, pc9)) (hm : Nat.ble (i + 1) M.2.2.1 = true) (hb : zb ls i = true) (k : Ev G M pc9 (ls.set i (0, x)) st h O) : Ev G M pc ls ((0, x) :: st) h O := by
  intro p l e R s m args below meth cd C A hA hE hK ad0 n0 ad H locs cells slots la ha hn hP hD hS hl hcs hss
  obtain ⟨hd, rfl⟩ := zf_ok hf
  refine lv_istore C.1 C.2.1 hd hl (Nat.le_of_ble_eq_true hm) rfl (fun la hl => ?_)
  exact k p l e R s m args below meth cd C A hA hE hK ad0 n0 ad H locs cells slots la ha hn hP hD hS (zL_set (w := (0, x)) hb hl) hcs hss
theorem Ev.istore_n {G : zG} {M : zM} {pc pc9 : Nat} {ls st : List zSV} {h : zHp} {O : zO} {i : Fin 4} {x : Int}
    (hf : zf M pc = some (.istore_n i, 1, pc9)) (hm : Nat.ble (i.val + 1) M.2.2.1 = true) (hb : zb ls i.val = true) (k : Ev G M pc9 (ls.set i.val (0, x)) st h O) : Ev G M pc ls ((0, x) :: st) h O := by
  intro p l e R s m args below meth cd C A hA hE hK ad0 n0 ad H locs cells slots la ha hn hP hD hS hl hcs hss
  obtain ⟨hd, rfl⟩ := zf_ok hf
  refine lv_istore_n C.1 C.2.1 hd rfl hl (Nat.le_of_ble_eq_true hm) rfl (fun la hl => ?_)
  exact k p l e R s m args below meth cd C A hA hE hK ad0 n0 ad H locs cells slots la ha hn hP hD hS (zL_set (w := (0, x)) hb hl) hcs hss
theorem Ev.dstore {G : zG} {M : zM} {pc pc9 : Nat} {ls st : List zSV} {h : zHp} {O : zO} {i : Nat} {x : Int}
    (hf : zf M pc = some (.dstore i, 2, pc9)) (hm : Nat.ble (i + 2) M.2.2.1 = true) (hb : zb ls i = true) (k : Ev G M pc9 ((ls.set i (5, x)).set (i + 1) (9, 0)) st h O) : Ev G M pc ls ((5, x) :: st) h O := by
  intro p l e R s m args below meth cd C A hA hE hK ad0 n0 ad H locs cells slots la ha hn hP hD hS hl hcs hss
  obtain ⟨hd, rfl⟩ := zf_ok hf
  refine lv_dstore C.1 C.2.1 hd hl (Nat.le_of_ble_eq_true hm) rfl (fun la hl => ?_)
  refine k p l e R s m args below meth cd C A hA hE hK ad0 n0 ad H locs cells slots la ha hn hP hD hS ?_ hcs hss
  refine lv_less hl fun q hq => ?_
  obtain ⟨w', h1, h2, h3⟩ := zL_mem.mp hq
  by_cases hqj : q.1 = i + 1
  · have hlt : i + 1 < ls.length := by
      have := (List.getElem?_eq_some_iff.mp h1).1
      rw [List.length_set, List.length_set] at this
      omega
    rw [hqj, List.getElem?_set_self (by rw [List.length_set]; exact hlt)] at h1
    cases h1
    exact absurd rfl h2
  · rw [List.getElem?_set_ne (Ne.symm hqj)] at h1
    by_cases hqi : q.1 = i
    · have hlt : i < ls.length := by
        have := (List.getElem?_eq_some_iff.mp h1).1
        rw [List.length_set] at this
        omega
      rw [hqi, List.getElem?_set_self hlt] at h1
      cases h1
      refine List.mem_cons.mpr (Or.inl ?_)
      rw [← hqi, show Value.double (UInt64.ofNat x.toNat) = zc G ad (5, x) from rfl, ← h3]
    · rw [List.getElem?_set_ne (Ne.symm hqi)] at h1
      refine List.mem_cons.mpr (Or.inr (List.mem_filter.mpr ⟨zL_mem.mpr ⟨w', h1, h2, h3⟩, ?_⟩))
      have h5 : q.1 + 1 = i → ¬ q.2.category = 2 := fun e => by rw [h3]; exact zb_ok hb h1 e
      by_cases e9 : q.1 + 1 = i
      · simp [hqi, hqj, h5 e9]
      · simp [hqi, hqj, e9]
theorem Ev.iinc {G : zG} {M : zM} {pc pc9 : Nat} {ls st : List zSV} {h : zHp} {O : zO} {i : Nat} {x n : Int}
    (hf : zf M pc = some (.iinc i n, 3, pc9)) (hi : ls[i]? = some (0, x)) (hm : Nat.ble (i + 1) M.2.2.1 = true) (hb : zb ls i = true) (k : Ev G M pc9 (ls.set i (0, x + n)) st h O) : Ev G M pc ls st h O := by
  intro p l e R s m args below meth cd C A hA hE hK ad0 n0 ad H locs cells slots la ha hn hP hD hS hl hcs hss
  obtain ⟨hd, rfl⟩ := zf_ok hf
  obtain ⟨j, hj⟩ := List.getElem?_of_mem (zL_mem (G := G) (ad := ad) (q := (i, zc G ad (0, x))) |>.mpr ⟨(0, x), hi, by simp, rfl⟩)
  refine lv_iinc (k := j) (x := Int32.ofInt x) (v := Int32.ofInt (x + n)) C.1 C.2.1 hd hl hj (Int32.ofInt_add x n).symm (Nat.le_of_ble_eq_true hm) rfl (fun la hl => ?_)
  exact k p l e R s m args below meth cd C A hA hE hK ad0 n0 ad H locs cells slots la ha hn hP hD hS (zL_set (w := (0, x + n)) hb hl) hcs hss
theorem Ev.iadd {G : zG} {M : zM} {pc pc9 : Nat} {ls st : List zSV} {h : zHp} {O : zO} {x y : Int}
    (hf : zf M pc = some (.iadd, 1, pc9)) (k : Ev G M pc9 ls ((0, x + y) :: st) h O) : Ev G M pc ls ((0, y) :: (0, x) :: st) h O := by
  intro p l e R s m args below meth cd C A hA hE hK ad0 n0 ad H locs cells slots la ha hn hP hD hS hl hcs hss
  obtain ⟨hd, rfl⟩ := zf_ok hf
  refine lv_iadd (x := Int32.ofInt x) (y := Int32.ofInt y) C.1 C.2.1 hd ?_
  rw [← Int32.ofInt_add]
  exact k p l e R s m args below meth cd C A hA hE hK ad0 n0 ad H locs cells slots la ha hn hP hD hS hl hcs hss
theorem Ev.isub {G : zG} {M : zM} {pc pc9 : Nat} {ls st : List zSV} {h : zHp} {O : zO} {x y : Int}
    (hf : zf M pc = some (.isub, 1, pc9)) (k : Ev G M pc9 ls ((0, x - y) :: st) h O) : Ev G M pc ls ((0, y) :: (0, x) :: st) h O := by
  intro p l e R s m args below meth cd C A hA hE hK ad0 n0 ad H locs cells slots la ha hn hP hD hS hl hcs hss
  obtain ⟨hd, rfl⟩ := zf_ok hf
  refine lv_isub (x := Int32.ofInt x) (y := Int32.ofInt y) C.1 C.2.1 hd ?_
  rw [← Int32.ofInt_sub]
  exact k p l e R s m args below meth cd C A hA hE hK ad0 n0 ad H locs cells slots la ha hn hP hD hS hl hcs hss
theorem Ev.imul {G : zG} {M : zM} {pc pc9 : Nat} {ls st : List zSV} {h : zHp} {O : zO} {x y : Int}
    (hf : zf M pc = some (.imul, 1, pc9)) (k : Ev G M pc9 ls ((0, x * y) :: st) h O) : Ev G M pc ls ((0, y) :: (0, x) :: st) h O := by
  intro p l e R s m args below meth cd C A hA hE hK ad0 n0 ad H locs cells slots la ha hn hP hD hS hl hcs hss
  obtain ⟨hd, rfl⟩ := zf_ok hf
  refine lv_imul (x := Int32.ofInt x) (y := Int32.ofInt y) C.1 C.2.1 hd ?_
  rw [← Int32.ofInt_mul]
  exact k p l e R s m args below meth cd C A hA hE hK ad0 n0 ad H locs cells slots la ha hn hP hD hS hl hcs hss
theorem z_div {x y : Int} (hx : 0 ≤ x ∧ x ≤ 2147483647) (hy : 0 < y ∧ y ≤ 2147483647) : Int32.ofInt x / Int32.ofInt y = Int32.ofInt (x / y) := by
  have hmn : Int32.minValue.toInt = -2147483648 := rfl
  have hmx : Int32.maxValue.toInt = 2147483647 := rfl
  rw [← Int32.ofInt_tdiv (a := x) (b := y) (by omega) (by omega) (by omega) (by omega), show x.tdiv y = x / y from Int.tdiv_eq_ediv_of_nonneg hx.1]
theorem z_ne0 {y : Int} (hy : 0 < y ∧ y ≤ 2147483647) : ¬ Int32.ofInt y = 0 := by
  rw [z_0, z_eq ⟨by omega, by omega⟩ z_r0]
  omega
theorem z_rem {x y : Int} (hx : 0 ≤ x ∧ x ≤ 2147483647) (hy : 0 < y ∧ y ≤ 2147483647) : Int32.ofInt x - Int32.ofInt x / Int32.ofInt y * Int32.ofInt y = Int32.ofInt (x % y) := by
  rw [z_div hx hy, ← Int32.ofInt_mul, ← Int32.ofInt_sub, Int.emod_def, Int.mul_comm y]
theorem Ev.idiv {G : zG} {M : zM} {pc pc9 : Nat} {ls st : List zSV} {h : zHp} {O : zO} {x y : Int}
    (hf : zf M pc = some (.idiv, 1, pc9)) (hx : 0 ≤ x ∧ x ≤ 2147483647) (hy : 0 < y ∧ y ≤ 2147483647) (k : Ev G M pc9 ls ((0, x / y) :: st) h O) : Ev G M pc ls ((0, y) :: (0, x) :: st) h O := by
  intro p l e R s m args below meth cd C A hA hE hK ad0 n0 ad H locs cells slots la ha hn hP hD hS hl hcs hss
  obtain ⟨hd, rfl⟩ := zf_ok hf
  refine lv_idiv (x := Int32.ofInt x) (y := Int32.ofInt y) C.1 C.2.1 hd (z_ne0 hy) ?_
  rw [z_div hx hy]
  exact k p l e R s m args below meth cd C A hA hE hK ad0 n0 ad H locs cells slots la ha hn hP hD hS hl hcs hss
theorem Ev.irem {G : zG} {M : zM} {pc pc9 : Nat} {ls st : List zSV} {h : zHp} {O : zO} {x y : Int}
    (hf : zf M pc = some (.irem, 1, pc9)) (hx : 0 ≤ x ∧ x ≤ 2147483647) (hy : 0 < y ∧ y ≤ 2147483647) (k : Ev G M pc9 ls ((0, x % y) :: st) h O) : Ev G M pc ls ((0, y) :: (0, x) :: st) h O := by
  intro p l e R s m args below meth cd C A hA hE hK ad0 n0 ad H locs cells slots la ha hn hP hD hS hl hcs hss
  obtain ⟨hd, rfl⟩ := zf_ok hf
  refine lv_irem (x := Int32.ofInt x) (y := Int32.ofInt y) C.1 C.2.1 hd (z_ne0 hy) ?_
  rw [z_rem hx hy]
  exact k p l e R s m args below meth cd C A hA hE hK ad0 n0 ad H locs cells slots la ha hn hP hD hS hl hcs hss
theorem Ev.icmp_eq {G : zG} {M : zM} {pc pc9 : Nat} {ls st : List zSV} {h : zHp} {O : zO} {off x y : Int} {tgt : Nat}
    (hf : zf M pc = some (.if_icmp .eq off, 3, pc9)) (ht : (pc : Int) + off = (tgt : Int)) (hx : -2147483648 ≤ x ∧ x ≤ 2147483647) (hy : -2147483648 ≤ y ∧ y ≤ 2147483647) (kt : x = y → Ev G M tgt ls st h O) (kf : ¬ x = y → Ev G M pc9 ls st h O) : Ev G M pc ls ((0, y) :: (0, x) :: st) h O := by
  intro p l e R s m args below meth cd C A hA hE hK ad0 n0 ad H locs cells slots la ha hn hP hD hS hl hcs hss
  obtain ⟨hd, rfl⟩ := zf_ok hf
  refine lv_icmp_eq (x := Int32.ofInt x) (y := Int32.ofInt y) C.1 C.2.1 hd ht (fun z => ?_) (fun z => ?_)
  · exact (kt ((z_eq hx hy).mp z)) p l e R s m args below meth cd C A hA hE hK ad0 n0 ad H locs cells slots la ha hn hP hD hS hl hcs hss
  · exact (kf (fun q => z ((z_eq hx hy).mpr q))) p l e R s m args below meth cd C A hA hE hK ad0 n0 ad H locs cells slots la ha hn hP hD hS hl hcs hss
theorem Ev.icmp_ne {G : zG} {M : zM} {pc pc9 : Nat} {ls st : List zSV} {h : zHp} {O : zO} {off x y : Int} {tgt : Nat}
    (hf : zf M pc = some (.if_icmp .ne off, 3, pc9)) (ht : (pc : Int) + off = (tgt : Int)) (hx : -2147483648 ≤ x ∧ x ≤ 2147483647) (hy : -2147483648 ≤ y ∧ y ≤ 2147483647) (kt : ¬ x = y → Ev G M tgt ls st h O) (kf : x = y → Ev G M pc9 ls st h O) : Ev G M pc ls ((0, y) :: (0, x) :: st) h O := by
  intro p l e R s m args below meth cd C A hA hE hK ad0 n0 ad H locs cells slots la ha hn hP hD hS hl hcs hss
  obtain ⟨hd, rfl⟩ := zf_ok hf
  refine lv_icmp_ne (x := Int32.ofInt x) (y := Int32.ofInt y) C.1 C.2.1 hd ht (fun z => ?_) (fun z => ?_)
  · exact (kt (fun q => z ((z_eq hx hy).mpr q))) p l e R s m args below meth cd C A hA hE hK ad0 n0 ad H locs cells slots la ha hn hP hD hS hl hcs hss
  · exact (kf ((z_eq hx hy).mp z)) p l e R s m args below meth cd C A hA hE hK ad0 n0 ad H locs cells slots la ha hn hP hD hS hl hcs hss
theorem Ev.icmp_lt {G : zG} {M : zM} {pc pc9 : Nat} {ls st : List zSV} {h : zHp} {O : zO} {off x y : Int} {tgt : Nat}
    (hf : zf M pc = some (.if_icmp .lt off, 3, pc9)) (ht : (pc : Int) + off = (tgt : Int)) (hx : -2147483648 ≤ x ∧ x ≤ 2147483647) (hy : -2147483648 ≤ y ∧ y ≤ 2147483647) (kt : x < y → Ev G M tgt ls st h O) (kf : ¬ x < y → Ev G M pc9 ls st h O) : Ev G M pc ls ((0, y) :: (0, x) :: st) h O := by
  intro p l e R s m args below meth cd C A hA hE hK ad0 n0 ad H locs cells slots la ha hn hP hD hS hl hcs hss
  obtain ⟨hd, rfl⟩ := zf_ok hf
  refine lv_icmp_lt (x := Int32.ofInt x) (y := Int32.ofInt y) C.1 C.2.1 hd ht (fun z => ?_) (fun z => ?_)
  · exact (kt ((z_lt hx hy).mp z)) p l e R s m args below meth cd C A hA hE hK ad0 n0 ad H locs cells slots la ha hn hP hD hS hl hcs hss
  · exact (kf (fun q => z ((z_lt hx hy).mpr q))) p l e R s m args below meth cd C A hA hE hK ad0 n0 ad H locs cells slots la ha hn hP hD hS hl hcs hss
theorem Ev.icmp_ge {G : zG} {M : zM} {pc pc9 : Nat} {ls st : List zSV} {h : zHp} {O : zO} {off x y : Int} {tgt : Nat}
    (hf : zf M pc = some (.if_icmp .ge off, 3, pc9)) (ht : (pc : Int) + off = (tgt : Int)) (hx : -2147483648 ≤ x ∧ x ≤ 2147483647) (hy : -2147483648 ≤ y ∧ y ≤ 2147483647) (kt : y ≤ x → Ev G M tgt ls st h O) (kf : ¬ y ≤ x → Ev G M pc9 ls st h O) : Ev G M pc ls ((0, y) :: (0, x) :: st) h O := by
  intro p l e R s m args below meth cd C A hA hE hK ad0 n0 ad H locs cells slots la ha hn hP hD hS hl hcs hss
  obtain ⟨hd, rfl⟩ := zf_ok hf
  refine lv_icmp_ge (x := Int32.ofInt x) (y := Int32.ofInt y) C.1 C.2.1 hd ht (fun z => ?_) (fun z => ?_)
  · exact (kt ((z_le hy hx).mp z)) p l e R s m args below meth cd C A hA hE hK ad0 n0 ad H locs cells slots la ha hn hP hD hS hl hcs hss
  · exact (kf (fun q => z ((z_le hy hx).mpr q))) p l e R s m args below meth cd C A hA hE hK ad0 n0 ad H locs cells slots la ha hn hP hD hS hl hcs hss
theorem Ev.icmp_gt {G : zG} {M : zM} {pc pc9 : Nat} {ls st : List zSV} {h : zHp} {O : zO} {off x y : Int} {tgt : Nat}
    (hf : zf M pc = some (.if_icmp .gt off, 3, pc9)) (ht : (pc : Int) + off = (tgt : Int)) (hx : -2147483648 ≤ x ∧ x ≤ 2147483647) (hy : -2147483648 ≤ y ∧ y ≤ 2147483647) (kt : y < x → Ev G M tgt ls st h O) (kf : ¬ y < x → Ev G M pc9 ls st h O) : Ev G M pc ls ((0, y) :: (0, x) :: st) h O := by
  intro p l e R s m args below meth cd C A hA hE hK ad0 n0 ad H locs cells slots la ha hn hP hD hS hl hcs hss
  obtain ⟨hd, rfl⟩ := zf_ok hf
  refine lv_icmp_gt (x := Int32.ofInt x) (y := Int32.ofInt y) C.1 C.2.1 hd ht (fun z => ?_) (fun z => ?_)
  · exact (kt ((z_lt hy hx).mp z)) p l e R s m args below meth cd C A hA hE hK ad0 n0 ad H locs cells slots la ha hn hP hD hS hl hcs hss
  · exact (kf (fun q => z ((z_lt hy hx).mpr q))) p l e R s m args below meth cd C A hA hE hK ad0 n0 ad H locs cells slots la ha hn hP hD hS hl hcs hss
theorem Ev.icmp_le {G : zG} {M : zM} {pc pc9 : Nat} {ls st : List zSV} {h : zHp} {O : zO} {off x y : Int} {tgt : Nat}
    (hf : zf M pc = some (.if_icmp .le off, 3, pc9)) (ht : (pc : Int) + off = (tgt : Int)) (hx : -2147483648 ≤ x ∧ x ≤ 2147483647) (hy : -2147483648 ≤ y ∧ y ≤ 2147483647) (kt : x ≤ y → Ev G M tgt ls st h O) (kf : ¬ x ≤ y → Ev G M pc9 ls st h O) : Ev G M pc ls ((0, y) :: (0, x) :: st) h O := by
  intro p l e R s m args below meth cd C A hA hE hK ad0 n0 ad H locs cells slots la ha hn hP hD hS hl hcs hss
  obtain ⟨hd, rfl⟩ := zf_ok hf
  refine lv_icmp_le (x := Int32.ofInt x) (y := Int32.ofInt y) C.1 C.2.1 hd ht (fun z => ?_) (fun z => ?_)
  · exact (kt ((z_le hx hy).mp z)) p l e R s m args below meth cd C A hA hE hK ad0 n0 ad H locs cells slots la ha hn hP hD hS hl hcs hss
  · exact (kf (fun q => z ((z_le hx hy).mpr q))) p l e R s m args below meth cd C A hA hE hK ad0 n0 ad H locs cells slots la ha hn hP hD hS hl hcs hss
theorem Ev.if_eq {G : zG} {M : zM} {pc pc9 : Nat} {ls st : List zSV} {h : zHp} {O : zO} {off x : Int} {tgt : Nat}
    (hf : zf M pc = some (.ifCond .eq off, 3, pc9)) (ht : (pc : Int) + off = (tgt : Int)) (hx : -2147483648 ≤ x ∧ x ≤ 2147483647) (kt : x = 0 → Ev G M tgt ls st h O) (kf : ¬ x = 0 → Ev G M pc9 ls st h O) : Ev G M pc ls ((0, x) :: st) h O := by
  intro p l e R s m args below meth cd C A hA hE hK ad0 n0 ad H locs cells slots la ha hn hP hD hS hl hcs hss
  obtain ⟨hd, rfl⟩ := zf_ok hf
  refine lv_if_eq (x := Int32.ofInt x) C.1 C.2.1 hd ht (fun z => ?_) (fun z => ?_)
  · exact (kt ((z_eq hx z_r0).mp z)) p l e R s m args below meth cd C A hA hE hK ad0 n0 ad H locs cells slots la ha hn hP hD hS hl hcs hss
  · exact (kf (fun q => z ((z_eq hx z_r0).mpr q))) p l e R s m args below meth cd C A hA hE hK ad0 n0 ad H locs cells slots la ha hn hP hD hS hl hcs hss
theorem Ev.if_ne {G : zG} {M : zM} {pc pc9 : Nat} {ls st : List zSV} {h : zHp} {O : zO} {off x : Int} {tgt : Nat}
    (hf : zf M pc = some (.ifCond .ne off, 3, pc9)) (ht : (pc : Int) + off = (tgt : Int)) (hx : -2147483648 ≤ x ∧ x ≤ 2147483647) (kt : ¬ x = 0 → Ev G M tgt ls st h O) (kf : x = 0 → Ev G M pc9 ls st h O) : Ev G M pc ls ((0, x) :: st) h O := by
  intro p l e R s m args below meth cd C A hA hE hK ad0 n0 ad H locs cells slots la ha hn hP hD hS hl hcs hss
  obtain ⟨hd, rfl⟩ := zf_ok hf
  refine lv_if_ne (x := Int32.ofInt x) C.1 C.2.1 hd ht (fun z => ?_) (fun z => ?_)
  · exact (kt (fun q => z ((z_eq hx z_r0).mpr q))) p l e R s m args below meth cd C A hA hE hK ad0 n0 ad H locs cells slots la ha hn hP hD hS hl hcs hss
  · exact (kf ((z_eq hx z_r0).mp z)) p l e R s m args below meth cd C A hA hE hK ad0 n0 ad H locs cells slots la ha hn hP hD hS hl hcs hss
theorem Ev.if_lt {G : zG} {M : zM} {pc pc9 : Nat} {ls st : List zSV} {h : zHp} {O : zO} {off x : Int} {tgt : Nat}
    (hf : zf M pc = some (.ifCond .lt off, 3, pc9)) (ht : (pc : Int) + off = (tgt : Int)) (hx : -2147483648 ≤ x ∧ x ≤ 2147483647) (kt : x < 0 → Ev G M tgt ls st h O) (kf : ¬ x < 0 → Ev G M pc9 ls st h O) : Ev G M pc ls ((0, x) :: st) h O := by
  intro p l e R s m args below meth cd C A hA hE hK ad0 n0 ad H locs cells slots la ha hn hP hD hS hl hcs hss
  obtain ⟨hd, rfl⟩ := zf_ok hf
  refine lv_if_lt (x := Int32.ofInt x) C.1 C.2.1 hd ht (fun z => ?_) (fun z => ?_)
  · exact (kt ((z_lt hx z_r0).mp z)) p l e R s m args below meth cd C A hA hE hK ad0 n0 ad H locs cells slots la ha hn hP hD hS hl hcs hss
  · exact (kf (fun q => z ((z_lt hx z_r0).mpr q))) p l e R s m args below meth cd C A hA hE hK ad0 n0 ad H locs cells slots la ha hn hP hD hS hl hcs hss
theorem Ev.if_ge {G : zG} {M : zM} {pc pc9 : Nat} {ls st : List zSV} {h : zHp} {O : zO} {off x : Int} {tgt : Nat}
    (hf : zf M pc = some (.ifCond .ge off, 3, pc9)) (ht : (pc : Int) + off = (tgt : Int)) (hx : -2147483648 ≤ x ∧ x ≤ 2147483647) (kt : 0 ≤ x → Ev G M tgt ls st h O) (kf : ¬ 0 ≤ x → Ev G M pc9 ls st h O) : Ev G M pc ls ((0, x) :: st) h O := by
  intro p l e R s m args below meth cd C A hA hE hK ad0 n0 ad H locs cells slots la ha hn hP hD hS hl hcs hss
  obtain ⟨hd, rfl⟩ := zf_ok hf
  refine lv_if_ge (x := Int32.ofInt x) C.1 C.2.1 hd ht (fun z => ?_) (fun z => ?_)
  · exact (kt ((z_le z_r0 hx).mp z)) p l e R s m args below meth cd C A hA hE hK ad0 n0 ad H locs cells slots la ha hn hP hD hS hl hcs hss
  · exact (kf (fun q => z ((z_le z_r0 hx).mpr q))) p l e R s m args below meth cd C A hA hE hK ad0 n0 ad H locs cells slots la ha hn hP hD hS hl hcs hss
theorem Ev.if_gt {G : zG} {M : zM} {pc pc9 : Nat} {ls st : List zSV} {h : zHp} {O : zO} {off x : Int} {tgt : Nat}
    (hf : zf M pc = some (.ifCond .gt off, 3, pc9)) (ht : (pc : Int) + off = (tgt : Int)) (hx : -2147483648 ≤ x ∧ x ≤ 2147483647) (kt : 0 < x → Ev G M tgt ls st h O) (kf : ¬ 0 < x → Ev G M pc9 ls st h O) : Ev G M pc ls ((0, x) :: st) h O := by
  intro p l e R s m args below meth cd C A hA hE hK ad0 n0 ad H locs cells slots la ha hn hP hD hS hl hcs hss
  obtain ⟨hd, rfl⟩ := zf_ok hf
  refine lv_if_gt (x := Int32.ofInt x) C.1 C.2.1 hd ht (fun z => ?_) (fun z => ?_)
  · exact (kt ((z_lt z_r0 hx).mp z)) p l e R s m args below meth cd C A hA hE hK ad0 n0 ad H locs cells slots la ha hn hP hD hS hl hcs hss
  · exact (kf (fun q => z ((z_lt z_r0 hx).mpr q))) p l e R s m args below meth cd C A hA hE hK ad0 n0 ad H locs cells slots la ha hn hP hD hS hl hcs hss
theorem Ev.if_le {G : zG} {M : zM} {pc pc9 : Nat} {ls st : List zSV} {h : zHp} {O : zO} {off x : Int} {tgt : Nat}
    (hf : zf M pc = some (.ifCond .le off, 3, pc9)) (ht : (pc : Int) + off = (tgt : Int)) (hx : -2147483648 ≤ x ∧ x ≤ 2147483647) (kt : x ≤ 0 → Ev G M tgt ls st h O) (kf : ¬ x ≤ 0 → Ev G M pc9 ls st h O) : Ev G M pc ls ((0, x) :: st) h O := by
  intro p l e R s m args below meth cd C A hA hE hK ad0 n0 ad H locs cells slots la ha hn hP hD hS hl hcs hss
  obtain ⟨hd, rfl⟩ := zf_ok hf
  refine lv_if_le (x := Int32.ofInt x) C.1 C.2.1 hd ht (fun z => ?_) (fun z => ?_)
  · exact (kt ((z_le hx z_r0).mp z)) p l e R s m args below meth cd C A hA hE hK ad0 n0 ad H locs cells slots la ha hn hP hD hS hl hcs hss
  · exact (kf (fun q => z ((z_le hx z_r0).mpr q))) p l e R s m args below meth cd C A hA hE hK ad0 n0 ad H locs cells slots la ha hn hP hD hS hl hcs hss
theorem Ev.goto {G : zG} {M : zM} {pc pc9 : Nat} {ls st : List zSV} {h : zHp} {O : zO} {off : Int} {tgt : Nat}
    (hf : zf M pc = some (.goto off, 3, pc9)) (ht : (pc : Int) + off = (tgt : Int)) (k : Ev G M tgt ls st h O) : Ev G M pc ls st h O := by
  intro p l e R s m args below meth cd C A hA hE hK ad0 n0 ad H locs cells slots la ha hn hP hD hS hl hcs hss
  obtain ⟨hd, rfl⟩ := zf_ok hf
  refine lv_goto C.1 C.2.1 hd ht ?_
  exact k p l e R s m args below meth cd C A hA hE hK ad0 n0 ad H locs cells slots la ha hn hP hD hS hl hcs hss
theorem Ev.tableIn {G : zG} {M : zM} {pc pc9 : Nat} {ls st : List zSV} {h : zHp} {O : zO} {dflt lo hi off x : Int} {offs : Array Int} {len tgt : Nat}
    (hf : zf M pc = some (.tableswitch dflt lo hi offs, len, pc9)) (hx : -2147483648 ≤ x ∧ x ≤ 2147483647) (h1 : lo ≤ x ∧ x ≤ hi) (ho : offs[(x - lo).toNat]? = some off) (ht : (pc : Int) + off = (tgt : Int)) (k : Ev G M tgt ls st h O) : Ev G M pc ls ((0, x) :: st) h O := by
  intro p l e R s m args below meth cd C A hA hE hK ad0 n0 ad H locs cells slots la ha hn hP hD hS hl hcs hss
  obtain ⟨hd, rfl⟩ := zf_ok hf
  refine lv_tableIn (x := Int32.ofInt x) C.1 C.2.1 hd (by rw [z_toInt hx]; omega) (by rw [z_toInt hx]; omega) (by rw [z_toInt hx]; exact ho) ht ?_
  exact k p l e R s m args below meth cd C A hA hE hK ad0 n0 ad H locs cells slots la ha hn hP hD hS hl hcs hss
theorem Ev.tableOut {G : zG} {M : zM} {pc pc9 : Nat} {ls st : List zSV} {h : zHp} {O : zO} {dflt lo hi x : Int} {offs : Array Int} {len tgt : Nat}
    (hf : zf M pc = some (.tableswitch dflt lo hi offs, len, pc9)) (hx : -2147483648 ≤ x ∧ x ≤ 2147483647) (h1 : x < lo ∨ hi < x) (ht : (pc : Int) + dflt = (tgt : Int)) (k : Ev G M tgt ls st h O) : Ev G M pc ls ((0, x) :: st) h O := by
  intro p l e R s m args below meth cd C A hA hE hK ad0 n0 ad H locs cells slots la ha hn hP hD hS hl hcs hss
  obtain ⟨hd, rfl⟩ := zf_ok hf
  refine lv_tableOut (x := Int32.ofInt x) C.1 C.2.1 hd (by rw [z_toInt hx]; exact h1) ht ?_
  exact k p l e R s m args below meth cd C A hA hE hK ad0 n0 ad H locs cells slots la ha hn hP hD hS hl hcs hss
theorem Ev.lookup {G : zG} {M : zM} {pc pc9 : Nat} {ls st : List zSV} {h : zHp} {O : zO} {dflt off x : Int} {ps : Array (Int × Int)} {len tgt : Nat}
    (hf : zf M pc = some (.lookupswitch dflt ps, len, pc9)) (hx : -2147483648 ≤ x ∧ x ≤ 2147483647) (hp : (ps.toList.zip (ps.toList.drop 1)).all (fun (a, next) => a.1 < next.1) = true) (ho : Op.lookupswitch.offset ps.toList dflt x = off) (ht : (pc : Int) + off = (tgt : Int)) (k : Ev G M tgt ls st h O) : Ev G M pc ls ((0, x) :: st) h O := by
  intro p l e R s m args below meth cd C A hA hE hK ad0 n0 ad H locs cells slots la ha hn hP hD hS hl hcs hss
  obtain ⟨hd, rfl⟩ := zf_ok hf
  refine lv_lookup (x := Int32.ofInt x) C.1 C.2.1 hd hp (by rw [z_toInt hx]; exact ho) ht ?_
  exact k p l e R s m args below meth cd C A hA hE hK ad0 n0 ad H locs cells slots la ha hn hP hD hS hl hcs hss
theorem Ev.dup {G : zG} {M : zM} {pc pc9 : Nat} {ls st : List zSV} {h : zHp} {O : zO} {v : zSV}
    (hf : zf M pc = some (.dup, 1, pc9)) (hv : zcat v = 1) (k : Ev G M pc9 ls (v :: v :: st) h O) : Ev G M pc ls (v :: st) h O := by
  intro p l e R s m args below meth cd C A hA hE hK ad0 n0 ad H locs cells slots la ha hn hP hD hS hl hcs hss
  obtain ⟨hd, rfl⟩ := zf_ok hf
  refine lv_dup C.1 C.2.1 hd (by rw [zcat_eq]; exact hv) ?_
  exact k p l e R s m args below meth cd C A hA hE hK ad0 n0 ad H locs cells slots la ha hn hP hD hS hl hcs hss
theorem Ev.dup2 {G : zG} {M : zM} {pc pc9 : Nat} {ls st : List zSV} {h : zHp} {O : zO} {v u : zSV}
    (hf : zf M pc = some (.dup2, 1, pc9)) (hv : zcat v = 1) (hv2 : zcat u = 1) (k : Ev G M pc9 ls (v :: u :: v :: u :: st) h O) : Ev G M pc ls (v :: u :: st) h O := by
  intro p l e R s m args below meth cd C A hA hE hK ad0 n0 ad H locs cells slots la ha hn hP hD hS hl hcs hss
  obtain ⟨hd, rfl⟩ := zf_ok hf
  refine lv_dup2_11 C.1 C.2.1 hd (by rw [zcat_eq]; exact hv) (by rw [zcat_eq]; exact hv2) ?_
  exact k p l e R s m args below meth cd C A hA hE hK ad0 n0 ad H locs cells slots la ha hn hP hD hS hl hcs hss
theorem Ev.pop {G : zG} {M : zM} {pc pc9 : Nat} {ls st : List zSV} {h : zHp} {O : zO} {v : zSV}
    (hf : zf M pc = some (.pop, 1, pc9)) (hv : zcat v = 1) (k : Ev G M pc9 ls st h O) : Ev G M pc ls (v :: st) h O := by
  intro p l e R s m args below meth cd C A hA hE hK ad0 n0 ad H locs cells slots la ha hn hP hD hS hl hcs hss
  obtain ⟨hd, rfl⟩ := zf_ok hf
  refine lv_pop C.1 C.2.1 hd (by rw [zcat_eq]; exact hv) ?_
  exact k p l e R s m args below meth cd C A hA hE hK ad0 n0 ad H locs cells slots la ha hn hP hD hS hl hcs hss
theorem Ev.i2l {G : zG} {M : zM} {pc pc9 : Nat} {ls st : List zSV} {h : zHp} {O : zO} {x : Int}
    (hf : zf M pc = some (.i2l, 1, pc9)) (hx : -2147483648 ≤ x ∧ x ≤ 2147483647) (k : Ev G M pc9 ls ((4, x) :: st) h O) : Ev G M pc ls ((0, x) :: st) h O := by
  intro p l e R s m args below meth cd C A hA hE hK ad0 n0 ad H locs cells slots la ha hn hP hD hS hl hcs hss
  obtain ⟨hd, rfl⟩ := zf_ok hf
  refine lv_i2l (x := Int32.ofInt x) (v := Int64.ofInt x) C.1 C.2.1 hd (Int32.toInt64_ofInt (by have : Int32.minValue.toInt = -2147483648 := rfl; omega) (by have : Int32.maxValue.toInt = 2147483647 := rfl; omega)) ?_
  exact k p l e R s m args below meth cd C A hA hE hK ad0 n0 ad H locs cells slots la ha hn hP hD hS hl hcs hss
theorem z_i2c {x : Int} : ((Int32.ofInt x).toUInt32 % 65536).toInt32 = Int32.ofInt (x % 65536) := by
  apply Int32.toInt_inj.mp
  rw [z_toInt ⟨by omega, by omega⟩]
  have h1 : ((Int32.ofInt x).toUInt32 % 65536).toNat = (x % 65536).toNat := by
    rw [UInt32.toNat_mod]
    have h2 : (Int32.ofInt x).toUInt32.toNat = (x % 4294967296).toNat := by
      show (BitVec.ofInt 32 x).toNat = _
      rw [BitVec.toNat_ofInt]
      rfl
    rw [h2]
    show (x % 4294967296).toNat % 65536 = _
    omega
  show (((Int32.ofInt x).toUInt32 % 65536).toBitVec).toInt = _
  rw [BitVec.toInt_eq_toNat_of_lt]
  · show ((((Int32.ofInt x).toUInt32 % 65536).toNat : Nat) : Int) = _
    rw [h1]
    omega
  · show 2 * ((Int32.ofInt x).toUInt32 % 65536).toNat < 2 ^ 32
    rw [h1]
    omega
theorem z_mask {x : Int} {k : Nat} (hk : k ≤ 16) : Int32.ofInt x &&& Int32.ofInt (2 ^ k - 1 : Int) = Int32.ofInt (x % (2 ^ k : Int)) := by
  apply Int32.toBitVec_inj.mp
  show BitVec.ofInt 32 x &&& BitVec.ofInt 32 (2 ^ k - 1 : Int) = BitVec.ofInt 32 (x % (2 ^ k : Int))
  apply BitVec.eq_of_toNat_eq
  rw [BitVec.toNat_and, BitVec.toNat_ofInt, BitVec.toNat_ofInt, BitVec.toNat_ofInt]
  have hp : (2 : Nat) ^ k ≤ 2 ^ 16 := Nat.pow_le_pow_right (by decide) hk
  have hp0 : 0 < (2 : Nat) ^ k := Nat.pow_pos (by decide)
  have e1 : ((2 ^ k - 1 : Int) % ((2 ^ 32 : Nat) : Int)).toNat = 2 ^ k - 1 := by
    have : (2 : Int) ^ k = ((2 ^ k : Nat) : Int) := by simp
    rw [this]
    omega
  rw [e1, Nat.and_two_pow_sub_one_eq_mod]
  have hd : (2 ^ 32 : Nat) = 2 ^ k * 2 ^ (32 - k) := by rw [← Nat.pow_add]; congr 1; omega
  have h3 : (x % (2 ^ k : Int)) % ((2 ^ 32 : Nat) : Int) = x % (2 ^ k : Int) := by
    have : (2 : Int) ^ k = ((2 ^ k : Nat) : Int) := by simp
    rw [this]
    have g1 := Int.emod_nonneg x (show ((2 ^ k : Nat) : Int) ≠ 0 by omega)
    have g2 := Int.emod_lt_of_pos x (show (0 : Int) < ((2 ^ k : Nat) : Int) by omega)
    exact Int.emod_eq_of_lt g1 (by omega)
  rw [h3]
  have g1 := Int.emod_nonneg x (show ((2 ^ 32 : Nat) : Int) ≠ 0 by decide)
  have h4 : (((x % ((2 ^ 32 : Nat) : Int)).toNat % 2 ^ k : Nat) : Int) = x % (2 ^ k : Int) := by
    rw [Int.natCast_emod, Int.toNat_of_nonneg g1]
    have : (2 : Int) ^ k = ((2 ^ k : Nat) : Int) := by simp
    rw [this]
    exact Int.emod_emod_of_dvd x (by rw [hd]; exact_mod_cast Nat.dvd_mul_right _ _)
  omega
theorem Ev.iand {G : zG} {M : zM} {pc pc9 : Nat} {ls st : List zSV} {h : zHp} {O : zO} {x y : Int}
    (k9 : Nat) (hk : k9 ≤ 16) (hf : zf M pc = some (.iand, 1, pc9)) (hy : y = 2 ^ k9 - 1) (k : Ev G M pc9 ls ((0, x % 2 ^ k9) :: st) h O) : Ev G M pc ls ((0, y) :: (0, x) :: st) h O := by
  intro p l e R s m args below meth cd C A hA hE hK ad0 n0 ad H locs cells slots la ha hn hP hD hS hl hcs hss
  obtain ⟨hd, rfl⟩ := zf_ok hf
  subst hy
  refine lv_iand (x := Int32.ofInt x) (y := Int32.ofInt (2 ^ k9 - 1)) C.1 C.2.1 hd ?_
  rw [z_mask hk]
  exact k p l e R s m args below meth cd C A hA hE hK ad0 n0 ad H locs cells slots la ha hn hP hD hS hl hcs hss
theorem Ev.ishr0 {G : zG} {M : zM} {pc pc9 : Nat} {ls st : List zSV} {h : zHp} {O : zO} {x : Int}
    (hf : zf M pc = some (.ishr, 1, pc9)) (k : Ev G M pc9 ls ((0, x) :: st) h O) : Ev G M pc ls ((0, 0) :: (0, x) :: st) h O := by
  intro p l e R s m args below meth cd C A hA hE hK ad0 n0 ad H locs cells slots la ha hn hP hD hS hl hcs hss
  obtain ⟨hd, rfl⟩ := zf_ok hf
  refine lv_ishr (x := Int32.ofInt x) (y := Int32.ofInt 0) C.1 C.2.1 hd ?_
  rw [show Int32.ofInt x >>> (Int32.ofInt 0 &&& 31) = Int32.ofInt x from z_shr0 _]
  exact k p l e R s m args below meth cd C A hA hE hK ad0 n0 ad H locs cells slots la ha hn hP hD hS hl hcs hss
theorem Ev.i2c {G : zG} {M : zM} {pc pc9 : Nat} {ls st : List zSV} {h : zHp} {O : zO} {x : Int}
    (hf : zf M pc = some (.i2c, 1, pc9)) (k : Ev G M pc9 ls ((0, x % 65536) :: st) h O) : Ev G M pc ls ((0, x) :: st) h O := by
  intro p l e R s m args below meth cd C A hA hE hK ad0 n0 ad H locs cells slots la ha hn hP hD hS hl hcs hss
  obtain ⟨hd, rfl⟩ := zf_ok hf
  refine lv_i2c (x := Int32.ofInt x) C.1 C.2.1 hd z_i2c ?_
  exact k p l e R s m args below meth cd C A hA hE hK ad0 n0 ad H locs cells slots la ha hn hP hD hS hl hcs hss
theorem Ev.lconst {G : zG} {M : zM} {pc pc9 : Nat} {ls st : List zSV} {h : zHp} {O : zO} {n : Fin 2}
    (hf : zf M pc = some (.lconst n, 1, pc9)) (k : Ev G M pc9 ls ((4, (n.val : Int)) :: st) h O) : Ev G M pc ls st h O := by
  intro p l e R s m args below meth cd C A hA hE hK ad0 n0 ad H locs cells slots la ha hn hP hD hS hl hcs hss
  obtain ⟨hd, rfl⟩ := zf_ok hf
  refine lv_lconst (v := Int64.ofInt (n.val : Int)) C.1 C.2.1 hd Int64.ofInt_eq_ofNat.symm ?_
  exact k p l e R s m args below meth cd C A hA hE hK ad0 n0 ad H locs cells slots la ha hn hP hD hS hl hcs hss
theorem z_lcmp {x y : Int} (hx : -2147483648 ≤ x ∧ x ≤ 2147483647) (hy : -2147483648 ≤ y ∧ y ≤ 2147483647) : lg_cmp (Int64.ofInt x) (Int64.ofInt y) = Int32.ofInt (if x < y then -1 else if x = y then 0 else 1) := by
  have ex : (Int64.ofInt x).toInt = x := Int64.toInt_ofInt_of_le (by omega) (by omega)
  have ey : (Int64.ofInt y).toInt = y := Int64.toInt_ofInt_of_le (by omega) (by omega)
  have e1 : Int64.ofInt x < Int64.ofInt y ↔ x < y := by rw [Int64.lt_iff_toInt_lt, ex, ey]
  have e2 : Int64.ofInt x = Int64.ofInt y ↔ x = y := by rw [← Int64.toInt_inj, ex, ey]
  have e3 : Int64.ofInt y < Int64.ofInt x ↔ y < x := by rw [Int64.lt_iff_toInt_lt, ex, ey]
  unfold lg_cmp
  by_cases h1 : x < y
  · have h2 : ¬ y < x := by omega
    have h3 : ¬ x = y := by omega
    simp [e1, e2, e3, h1, h2, h3]
  · by_cases h2 : x = y
    · have h3 : ¬ y < x := by omega
      simp [h2]
    · have h3 : y < x := by omega
      simp [e1, e2, e3, h1, h2, h3]
theorem Ev.lcmp {G : zG} {M : zM} {pc pc9 : Nat} {ls st : List zSV} {h : zHp} {O : zO} {x y : Int}
    (hf : zf M pc = some (.lcmp, 1, pc9)) (hx : -2147483648 ≤ x ∧ x ≤ 2147483647) (hy : -2147483648 ≤ y ∧ y ≤ 2147483647) (k : Ev G M pc9 ls ((0, if x < y then -1 else if x = y then 0 else 1) :: st) h O) : Ev G M pc ls ((4, y) :: (4, x) :: st) h O := by
  intro p l e R s m args below meth cd C A hA hE hK ad0 n0 ad H locs cells slots la ha hn hP hD hS hl hcs hss
  obtain ⟨hd, rfl⟩ := zf_ok hf
  refine W.lcmp (x := Int64.ofInt x) (y := Int64.ofInt y) C.1 C.2.1 hd ?_
  rw [z_lcmp hx hy]
  exact k p l e R s m args below meth cd C A hA hE hK ad0 n0 ad H locs cells slots la ha hn hP hD hS hl hcs hss
