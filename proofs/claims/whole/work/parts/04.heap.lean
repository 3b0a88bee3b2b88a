/-! READING AND WRITING CELLS, RETURNS (printed by wip/whole/gen/sim3.py) -/
theorem z_char (x : Int) : vp_nar .char (Int32.ofInt x) = Int32.ofInt (x % 65536) := by
  rw [vp_nar_char]
  apply Int32.toInt_inj.mp
  rw [z_toInt ⟨by omega, by omega⟩]
  have h2 : (Int32.ofInt x).toUInt32.toNat = (x % 4294967296).toNat := by
    show (BitVec.ofInt 32 x).toNat = _
    rw [BitVec.toNat_ofInt]
    rfl
  have h1 : ((Int32.ofInt x).toUInt32.toUInt16.toUInt32).toNat = (x % 65536).toNat := by
    rw [UInt16.toNat_toUInt32, UInt32.toNat_toUInt16, h2]
    omega
  show (((Int32.ofInt x).toUInt32.toUInt16.toUInt32).toBitVec).toInt = _
  rw [BitVec.toInt_eq_toNat_of_lt]
  · show ((((Int32.ofInt x).toUInt32.toUInt16.toUInt32).toNat : Nat) : Int) = _
    rw [h1]
    omega
  · show 2 * ((Int32.ofInt x).toUInt32.toUInt16.toUInt32).toNat < 2 ^ 32
    rw [h1]
    omega
/-- what a field or a return of this type keeps as it is -/
def zNar (ty : FieldType) (x : Int) : Prop := match ty with
  | .int => True
  | .boolean => x = 0 ∨ x = 1
  | .char => 0 ≤ x ∧ x ≤ 65535
  | _ => False
theorem zNar_ok {ty : FieldType} {x : Int} (h : zNar ty x) : narrow ty (.int (Int32.ofInt x)) = .int (Int32.ofInt x) ∧ fits ty (.int (Int32.ofInt x)) = true := by
  unfold zNar at h
  split at h
  · exact ⟨rfl, rfl⟩
  · rcases h with rfl | rfl <;> exact ⟨rfl, rfl⟩
  · constructor
    · have h1 := z_char x
      rw [vp_nar_char] at h1
      show Value.int _ = _
      rw [h1, show x % 65536 = x by omega]
    · show (decide (0 ≤ Int32.ofInt x) && decide (Int32.ofInt x ≤ 65535)) = true
      rw [Bool.and_eq_true, decide_eq_true_eq, decide_eq_true_eq, z_0, show (65535 : Int32) = Int32.ofInt 65535 from rfl, z_le ⟨by omega, by omega⟩ ⟨by omega, by omega⟩, z_le ⟨by omega, by omega⟩ ⟨by omega, by omega⟩]
      exact h
  · exact h.elim
def zClOk (ci : Nat) (C : String) (T : u_T) (ty : Nat → FieldType) : Prop := vwCl[ci]? = some (C, T, zN ci) ∧ (∀ w ∈ u_ws C T (zN ci), w ∈ zT) ∧ (∀ k, k < zN ci → parseFieldDescriptor (T k).2.2.1 = some (ty k)) ∧ (∀ a, a < zN ci → ∀ b, b < zN ci → a ≠ b → (T a).2.1 ≠ (T b).2.1) ∧ (∀ k, k < zN ci → (T k).1 = C) ∧ (∀ k, k < zN ci → defaultValue (ty k) = if zR ci k then .null else .int 0)
/-- what a field's link in the code of M says: class, place, type, whether it is final -/
def zFl (M : zM) (idx ci k : Nat) (t : FieldType) (fin : Bool) : Prop := ∃ (C : String) (T : u_T) (ty : Nat → FieldType), zClOk ci C T ty ∧ k < zN ci ∧ ty k = t ∧ (T k).2.2.2 = fin ∧ (Cond.fieldLink M.1.cls idx C (T k).2.1 (T k).2.2.1 ∈ zT ∨ ∃ host, Cond.fieldLinkNest M.1.cls idx C (T k).2.1 (T k).2.2.1 host ∈ zNw)
theorem zF_at {ad : Nat → Nat} {h : zHp} {c ci k : Nat} (hk : k < zN ci) : (zF ad h c ci)[k]? = some (if zR ci k then va_rf ((h.2.1 c k).map ad) else .int (Int32.ofInt (h.2.2.1 c (k : Int)))) := by
  unfold zF
  rw [List.getElem?_map, List.getElem?_range hk]
  rfl
theorem zF_I {ad : Nat → Nat} {sh : List (Nat × Nat)} {rf : Nat → Nat → Option Nat} {ia : Nat → Int → Int} {w : (Nat → Int → Int) × (Nat → Int → Int)} {c ci k : Nat} (hk : k < zN ci) (hr : zR ci k = false) : (zF ad (sh, rf, ia, w) c ci)[k]? = some (.int (Int32.ofInt (ia c (k : Int)))) := by
  rw [zF_at hk, hr]
  rfl
theorem zF_R {ad : Nat → Nat} {sh : List (Nat × Nat)} {rf : Nat → Nat → Option Nat} {ia : Nat → Int → Int} {w : (Nat → Int → Int) × (Nat → Int → Int)} {c ci k q : Nat} (hk : k < zN ci) (hr : zR ci k = true) (hq : rf c k = some q) : (zF ad (sh, rf, ia, w) c ci)[k]? = some (.ref (ad q)) := by
  rw [zF_at hk, hr]
  show some (va_rf ((rf c k).map ad)) = some (.ref (ad q))
  rw [hq]
  rfl
theorem zF_len {ad : Nat → Nat} {h : zHp} {c ci : Nat} : (zF ad h c ci).length = zN ci := by
  unfold zF
  rw [List.length_map, List.length_range]
theorem zu_ne {ia : Nat → Int → Int} {c j : Nat} {i x : Int} (h : j ≠ c) : zu ia c i x j = ia j := by
  funext k
  unfold zu
  rw [if_neg (fun e => h e.1)]
theorem zur_ne {rf : Nat → Nat → Option Nat} {c j k : Nat} {x : Option Nat} (h : j ≠ c) : zur rf c k x j = rf j := by
  funext i
  unfold zur
  rw [if_neg (fun e => h e.1)]
theorem zE_off {G : zG} {ad : Nat → Nat} {sh sh' : List (Nat × Nat)} {rf rf' : Nat → Nat → Option Nat} {ia ia' la la' da da' : Nat → Int → Int} {j : Nat} {kn : Nat × Nat} (h1 : rf' j = rf j) (h2 : ia' j = ia j) (h3 : la' j = la j) (h4 : da' j = da j) : zE G ad (sh', rf', ia', la', da') j kn = zE G ad (sh, rf, ia, la, da) j kn := by
  unfold zE zF
  dsimp only
  rw [h1, h2, h3, h4]
theorem zF_set {ad : Nat → Nat} {sh : List (Nat × Nat)} {rf : Nat → Nat → Option Nat} {ia : Nat → Int → Int} {w : (Nat → Int → Int) × (Nat → Int → Int)} {c ci k : Nat} {x : Int} (hk : k < zN ci) (hr : zR ci k = false) : (zF ad (sh, rf, ia, w) c ci).set k (.int (Int32.ofInt x)) = zF ad (sh, rf, zu ia c (k : Int) x, w) c ci := by
  apply List.ext_getElem?
  intro j
  by_cases hj : j < zN ci
  · rw [zF_at hj]
    by_cases e : j = k
    · subst e
      rw [List.getElem?_set_self (by rw [zF_len]; exact hj)]
      simp [hr, zu]
    · rw [List.getElem?_set_ne (Ne.symm e), zF_at hj]
      have e2 : ¬ ((j : Int) = (k : Int)) := by omega
      simp [zu, e2]
  · rw [List.getElem?_eq_none (by rw [List.length_set, zF_len]; omega), List.getElem?_eq_none (by rw [zF_len]; omega)]
theorem zF_setR {ad : Nat → Nat} {sh : List (Nat × Nat)} {rf : Nat → Nat → Option Nat} {ia : Nat → Int → Int} {w : (Nat → Int → Int) × (Nat → Int → Int)} {c ci k q : Nat} (hk : k < zN ci) (hr : zR ci k = true) : (zF ad (sh, rf, ia, w) c ci).set k (.ref (ad q)) = zF ad (sh, zur rf c k (some q), ia, w) c ci := by
  apply List.ext_getElem?
  intro j
  by_cases hj : j < zN ci
  · rw [zF_at hj]
    by_cases e : j = k
    · subst e
      rw [List.getElem?_set_self (by rw [zF_len]; exact hj)]
      simp [hr, zur, va_rf]
    · rw [List.getElem?_set_ne (Ne.symm e), zF_at hj]
      simp [zur, e]
  · rw [List.getElem?_eq_none (by rw [List.length_set, zF_len]; omega), List.getElem?_eq_none (by rw [zF_len]; omega)]
theorem zW_obj {G : zG} {ad : Nat → Nat} {sh : List (Nat × Nat)} {rf : Nat → Nat → Option Nat} {ia : Nat → Int → Int} {w : (Nat → Int → Int) × (Nat → Int → Int)} {c ci : Nat} (hc : sh[c]? = some (0, ci)) : (zW G ad (sh, rf, ia, w))[c]? = some (ad c, .inr (ci, zF ad (sh, rf, ia, w) c ci)) := zW_at (h := (sh, rf, ia, w)) hc
theorem zW_putI {G : zG} {ad : Nat → Nat} {sh : List (Nat × Nat)} {rf : Nat → Nat → Option Nat} {ia : Nat → Int → Int} {w : (Nat → Int → Int) × (Nat → Int → Int)} {c ci k : Nat} {x : Int} (hc : sh[c]? = some (0, ci)) (hk : k < zN ci) (hr : zR ci k = false) : (zW G ad (sh, rf, ia, w)).set c (ad c, .inr (ci, (zF ad (sh, rf, ia, w) c ci).set k (.int (Int32.ofInt x)))) = zW G ad (sh, rf, zu ia c (k : Int) x, w) := by
  refine zW_set rfl (fun j kn hj => zE_off rfl (zu_ne hj) rfl rfl) (fun kn h => ?_)
  cases hc.symm.trans h
  rw [zF_set hk hr]
  rfl
theorem zW_putR {G : zG} {ad : Nat → Nat} {sh : List (Nat × Nat)} {rf : Nat → Nat → Option Nat} {ia : Nat → Int → Int} {w : (Nat → Int → Int) × (Nat → Int → Int)} {c ci k q : Nat} (hc : sh[c]? = some (0, ci)) (hk : k < zN ci) (hr : zR ci k = true) : (zW G ad (sh, rf, ia, w)).set c (ad c, .inr (ci, (zF ad (sh, rf, ia, w) c ci).set k (.ref (ad q)))) = zW G ad (sh, zur rf c k (some q), ia, w) := by
  refine zW_set rfl (fun j kn hj => zE_off (zur_ne hj) rfl rfl rfl) (fun kn h => ?_)
  cases hc.symm.trans h
  rw [zF_setR hk hr]
  rfl
theorem z_upd {f : Int → Int} {i x : Int} (hi : 0 ≤ i) : upd (fun j : Nat => Int32.ofInt (f (j : Int))) i.toNat (Int32.ofInt x) = fun j : Nat => Int32.ofInt (if (j : Int) = i then x else f (j : Int)) := by
  funext j
  unfold upd
  by_cases e : j = i.toNat
  · have e2 : (j : Int) = i := by omega
    rw [if_pos e, if_pos e2]
  · have e2 : ¬ (j : Int) = i := by omega
    rw [if_neg e, if_neg e2]
theorem zW_arr {G : zG} {ad : Nat → Nat} {sh : List (Nat × Nat)} {rf : Nat → Nat → Option Nat} {ia : Nat → Int → Int} {w : (Nat → Int → Int) × (Nat → Int → Int)} {c k n : Nat} {i x : Int} (hk : k = 1 ∨ k = 2) (hc : sh[c]? = some (k, n)) (hi : 0 ≤ i) : (zW G ad (sh, rf, ia, w)).set c (ad c, .inl (G.2.1 (k - 1), n, .inl (upd (fun j : Nat => Int32.ofInt (ia c (j : Int))) i.toNat (Int32.ofInt x)))) = zW G ad (sh, rf, zu ia c i x, w) := by
  refine zW_set rfl (fun j kn hj => zE_off rfl (zu_ne hj) rfl rfl) (fun kn h => ?_)
  cases hc.symm.trans h
  rw [z_upd hi]
  rcases hk with rfl | rfl <;> (unfold zE zu; simp)
theorem zE_arr {G : zG} {ad : Nat → Nat} {sh : List (Nat × Nat)} {rf : Nat → Nat → Option Nat} {ia : Nat → Int → Int} {w : (Nat → Int → Int) × (Nat → Int → Int)} {c k n : Nat} (hk : k = 1 ∨ k = 2) (hc : sh[c]? = some (k, n)) : (zW G ad (sh, rf, ia, w))[c]? = some (ad c, .inl (G.2.1 (k - 1), n, .inl fun j : Nat => Int32.ofInt (ia c (j : Int)))) := by
  rw [zW_at (h := (sh, rf, ia, w)) hc]
  rcases hk with rfl | rfl <;> rfl
theorem zE_off2 : True := trivial
theorem Ev.getI {G : zG} {M : zM} {pc pc9 : Nat} {ls st : List zSV} {sh : List (Nat × Nat)} {rf : Nat → Nat → Option Nat} {ia : Nat → Int → Int} {w : (Nat → Int → Int) × (Nat → Int → Int)} {O : zO} {idx ci : Nat} {t : FieldType} {fin : Bool}
    (c k : Nat) (hf : zf M pc = some (.getfield idx, 3, pc9)) (hl9 : zFl M idx ci k t fin) (hc : sh[c]? = some (0, ci)) (hr : zR ci k = false) (kk : Ev G M pc9 ls ((0, ia c (k : Int)) :: st) (sh, rf, ia, w) O) : Ev G M pc ls ((1, (c : Int)) :: st) (sh, rf, ia, w) O := by
  intro p l e R s m args below meth cd C A hA hE hK ad0 n0 ad H locs cells slots la ha hn hP hD hS hl hcs hss
  obtain ⟨hd, rfl⟩ := zf_ok hf
  obtain ⟨C0, T0, ty0, hcl, hk, hty, hfin, hlk⟩ := hl9
  have hC : (T0 k).1 = C0 := hcl.2.2.2.2.1 k hk
  rcases hlk with hlk | ⟨host, hlk⟩
  · refine va_get (D := G.1) (ci := ci) (C := C0) (T := T0) (N := zN ci) C.1 C.2.1 C.2.2.2.2.2.2.1 hcl.2.1 C.2.2.2.2.1 hK hP c (zW_obj hc) hcl.1 k hk (C.2.2.2.2.2.2.1 _ hlk) (fun _ h9 => by rw [← hC]; exact h9) (zF_I hk hr) hd ?_
    exact kk p l e R s m args below meth cd C A hA hE hK ad0 n0 ad H locs cells slots la ha hn hP hD hS hl hcs hss
  · refine va_getN (D := G.1) (ci := ci) (C := C0) (T := T0) (N := zN ci) C.1 C.2.1 C.2.2.2.2.2.2.1 hcl.2.1 C.2.2.2.2.1 hK hP c (zW_obj hc) hcl.1 k hk (va_Nw.use rfl (hE.1 _ hlk)) (fun _ h9 => by rw [← hC]; exact h9) (zF_I hk hr) hd ?_
    exact kk p l e R s m args below meth cd C A hA hE hK ad0 n0 ad H locs cells slots la ha hn hP hD hS hl hcs hss
theorem Ev.getR {G : zG} {M : zM} {pc pc9 : Nat} {ls st : List zSV} {sh : List (Nat × Nat)} {rf : Nat → Nat → Option Nat} {ia : Nat → Int → Int} {w : (Nat → Int → Int) × (Nat → Int → Int)} {O : zO} {idx ci : Nat} {t : FieldType} {fin : Bool}
    (c k q : Nat) (hf : zf M pc = some (.getfield idx, 3, pc9)) (hl9 : zFl M idx ci k t fin) (hc : sh[c]? = some (0, ci)) (hr : zR ci k = true) (hq : rf c k = some q) (kk : Ev G M pc9 ls ((1, (q : Int)) :: st) (sh, rf, ia, w) O) : Ev G M pc ls ((1, (c : Int)) :: st) (sh, rf, ia, w) O := by
  intro p l e R s m args below meth cd C A hA hE hK ad0 n0 ad H locs cells slots la ha hn hP hD hS hl hcs hss
  obtain ⟨hd, rfl⟩ := zf_ok hf
  obtain ⟨C0, T0, ty0, hcl, hk, hty, hfin, hlk⟩ := hl9
  have hC : (T0 k).1 = C0 := hcl.2.2.2.2.1 k hk
  rcases hlk with hlk | ⟨host, hlk⟩
  · refine va_get (D := G.1) (ci := ci) (C := C0) (T := T0) (N := zN ci) C.1 C.2.1 C.2.2.2.2.2.2.1 hcl.2.1 C.2.2.2.2.1 hK hP c (zW_obj hc) hcl.1 k hk (C.2.2.2.2.2.2.1 _ hlk) (fun _ h9 => by rw [← hC]; exact h9) (zF_R hk hr hq) hd ?_
    exact kk p l e R s m args below meth cd C A hA hE hK ad0 n0 ad H locs cells slots la ha hn hP hD hS hl hcs hss
  · refine va_getN (D := G.1) (ci := ci) (C := C0) (T := T0) (N := zN ci) C.1 C.2.1 C.2.2.2.2.2.2.1 hcl.2.1 C.2.2.2.2.1 hK hP c (zW_obj hc) hcl.1 k hk (va_Nw.use rfl (hE.1 _ hlk)) (fun _ h9 => by rw [← hC]; exact h9) (zF_R hk hr hq) hd ?_
    exact kk p l e R s m args below meth cd C A hA hE hK ad0 n0 ad H locs cells slots la ha hn hP hD hS hl hcs hss
theorem Ev.putI {G : zG} {M : zM} {pc pc9 : Nat} {ls st : List zSV} {sh : List (Nat × Nat)} {rf : Nat → Nat → Option Nat} {ia : Nat → Int → Int} {w : (Nat → Int → Int) × (Nat → Int → Int)} {O : zO} {idx ci : Nat} {t : FieldType} {x : Int}
    (c k : Nat) (hf : zf M pc = some (.putfield idx, 3, pc9)) (hl9 : zFl M idx ci k t false) (hc : sh[c]? = some (0, ci)) (hr : zR ci k = false) (hx : zNar t x) (kk : Ev G M pc9 ls st (sh, rf, zu ia c (k : Int) x, w) O) : Ev G M pc ls ((0, x) :: (1, (c : Int)) :: st) (sh, rf, ia, w) O := by
  intro p l e R s m args below meth cd C A hA hE hK ad0 n0 ad H locs cells slots la ha hn hP hD hS hl hcs hss
  obtain ⟨hd, rfl⟩ := zf_ok hf
  obtain ⟨C0, T0, ty0, hcl, hk, hty, hfin, hlk⟩ := hl9
  subst hty
  have hC : (T0 k).1 = C0 := hcl.2.2.2.2.1 k hk
  rcases hlk with hlk | ⟨host, hlk⟩
  · refine va_put (D := G.1) (ci := ci) (C := C0) (T := T0) (N := zN ci) (v := .int (Int32.ofInt x)) C.1 C.2.1 C.2.2.2.2.2.2.1 hcl.2.1 ty0 hcl.2.2.1 hcl.2.2.2.1 C.2.2.2.2.1 hK hP hD hS c (zW_obj hc) hcl.1 k hk (C.2.2.2.2.2.2.1 _ hlk) (fun _ h9 => by rw [← hC]; exact h9) hfin (hcl.2.2.1 k hk) (zNar_ok hx).1 (zNar_ok hx).2 (by rw [zF_len]; exact hk) hd (fun H locs hP hD hS => ?_)
    rw [zW_putI hc hk hr] at hP hD
    exact kk p l e R s m args below meth cd C A hA hE hK ad0 n0 ad H locs cells slots la ha hn hP hD hS hl hcs hss
  · refine va_putN (D := G.1) (ci := ci) (C := C0) (T := T0) (N := zN ci) (v := .int (Int32.ofInt x)) C.1 C.2.1 C.2.2.2.2.2.2.1 hcl.2.1 ty0 hcl.2.2.1 hcl.2.2.2.1 C.2.2.2.2.1 hK hP hD hS c (zW_obj hc) hcl.1 k hk (va_Nw.use rfl (hE.1 _ hlk)) (fun _ h9 => by rw [← hC]; exact h9) hfin (hcl.2.2.1 k hk) (zNar_ok hx).1 (zNar_ok hx).2 (by rw [zF_len]; exact hk) hd (fun H locs hP hD hS => ?_)
    rw [zW_putI hc hk hr] at hP hD
    exact kk p l e R s m args below meth cd C A hA hE hK ad0 n0 ad H locs cells slots la ha hn hP hD hS hl hcs hss
theorem vwCl_own {ci : Nat} {C D : String} {T : u_T} {ty : Nat → FieldType} (h : zClOk ci C T ty) (hD : (vwCl[ci]?).map (fun q => q.1) = some D) : C = D := by
  rw [h.1] at hD
  exact Option.some.inj hD
/-- a final field's link in its class's own constructor -/
def zFf (M : zM) (idx ci k : Nat) : Prop := ∃ (C : String) (T : u_T) (ty : Nat → FieldType), zClOk ci C T ty ∧ k < zN ci ∧ ((∃ n, ty k = .object n) ∨ ∃ n, ty k = .array n) ∧ (T k).2.2.2 = true ∧ Cond.fieldLink M.1.cls idx C (T k).2.1 (T k).2.2.1 ∈ zT ∧ M.1.name = "<init>" ∧ C = M.1.cls
theorem Ev.putF {G : zG} {M : zM} {pc pc9 : Nat} {ls st : List zSV} {sh : List (Nat × Nat)} {rf : Nat → Nat → Option Nat} {ia : Nat → Int → Int} {w : (Nat → Int → Int) × (Nat → Int → Int)} {O : zO} {idx ci : Nat}
    (c k q : Nat) (hf : zf M pc = some (.putfield idx, 3, pc9)) (hl9 : zFf M idx ci k) (hc : sh[c]? = some (0, ci)) (hr : zR ci k = true) (kk : Ev G M pc9 ls st (sh, zur rf c k (some q), ia, w) O) : Ev G M pc ls ((1, (q : Int)) :: (1, (c : Int)) :: st) (sh, rf, ia, w) O := by
  intro p l e R s m args below meth cd C A hA hE hK ad0 n0 ad H locs cells slots la ha hn hP hD hS hl hcs hss
  obtain ⟨hd, rfl⟩ := zf_ok hf
  obtain ⟨C0, T0, ty0, hcl, hk, ht, hfin, hlk, hin, hown⟩ := hl9
  have hC : (T0 k).1 = C0 := hcl.2.2.2.2.1 k hk
  refine va_putF (D := G.1) (ci := ci) (C := C0) (T := T0) (N := zN ci) (v := .ref (ad q)) C.1 C.2.1 C.2.2.2.2.2.2.1 hcl.2.1 ty0 hcl.2.2.1 hcl.2.2.2.1 C.2.2.2.2.1 hK hP hD hS c (zW_obj hc) hcl.1 k hk (C.2.2.2.2.2.2.1 _ hlk) (fun _ h9 => by rw [← hC]; exact h9) hfin (C.2.2.2.2.2.2.2.2.2.2.2.trans hin) (hC.trans hown) (hcl.2.2.1 k hk) (by rcases ht with ⟨n9, e9⟩ | ⟨n9, e9⟩ <;> (rw [e9]; rfl)) (by rcases ht with ⟨n9, e9⟩ | ⟨n9, e9⟩ <;> (rw [e9]; rfl)) (by rw [zF_len]; exact hk) hd (fun H locs hP hD hS => ?_)
  rw [zW_putR hc hk hr] at hP hD
  exact kk p l e R s m args below meth cd C A hA hE hK ad0 n0 ad H locs cells slots la ha hn hP hD hS hl hcs hss
theorem Ev.iaload {G : zG} {M : zM} {pc pc9 : Nat} {ls st : List zSV} {sh : List (Nat × Nat)} {rf : Nat → Nat → Option Nat} {ia : Nat → Int → Int} {w : (Nat → Int → Int) × (Nat → Int → Int)} {O : zO} {i : Int}
    (c n : Nat) (hf : zf M pc = some (.iaload, 1, pc9)) (hc : sh[c]? = some (1, n)) (hn2 : n ≤ 2147483647) (hi : 0 ≤ i ∧ i < (n : Int)) (kk : Ev G M pc9 ls ((0, ia c i) :: st) (sh, rf, ia, w) O) : Ev G M pc ls ((0, i) :: (1, (c : Int)) :: st) (sh, rf, ia, w) O := by
  intro p l e R s m args below meth cd C A hA hE hK ad0 n0 ad H locs cells slots la ha hn hP hD hS hl hcs hss
  obtain ⟨hd, rfl⟩ := zf_ok hf
  refine va_iald (D := G.1) C.1 C.2.1 hK hP c 0 (zE_arr (k := 1) (by simp) hc) rfl (i := Int32.ofInt i) (z_in hi hn2) hd ?_
  rw [z_clamp ⟨hi.1, by omega⟩, Int.toNat_of_nonneg hi.1]
  exact kk p l e R s m args below meth cd C A hA hE hK ad0 n0 ad H locs cells slots la ha hn hP hD hS hl hcs hss
theorem Ev.caload {G : zG} {M : zM} {pc pc9 : Nat} {ls st : List zSV} {sh : List (Nat × Nat)} {rf : Nat → Nat → Option Nat} {ia : Nat → Int → Int} {w : (Nat → Int → Int) × (Nat → Int → Int)} {O : zO} {i : Int}
    (c n : Nat) (hf : zf M pc = some (.caload, 1, pc9)) (hc : sh[c]? = some (2, n)) (hn2 : n ≤ 2147483647) (hi : 0 ≤ i ∧ i < (n : Int)) (kk : Ev G M pc9 ls ((0, ia c i) :: st) (sh, rf, ia, w) O) : Ev G M pc ls ((0, i) :: (1, (c : Int)) :: st) (sh, rf, ia, w) O := by
  intro p l e R s m args below meth cd C A hA hE hK ad0 n0 ad H locs cells slots la ha hn hP hD hS hl hcs hss
  obtain ⟨hd, rfl⟩ := zf_ok hf
  refine va_cald (D := G.1) C.1 C.2.1 hK hP c 1 (zE_arr (k := 2) (by simp) hc) rfl (i := Int32.ofInt i) (z_in hi hn2) hd ?_
  rw [z_clamp ⟨hi.1, by omega⟩, Int.toNat_of_nonneg hi.1]
  exact kk p l e R s m args below meth cd C A hA hE hK ad0 n0 ad H locs cells slots la ha hn hP hD hS hl hcs hss
theorem Ev.iastore {G : zG} {M : zM} {pc pc9 : Nat} {ls st : List zSV} {sh : List (Nat × Nat)} {rf : Nat → Nat → Option Nat} {ia : Nat → Int → Int} {w : (Nat → Int → Int) × (Nat → Int → Int)} {O : zO} {i x : Int}
    (c n : Nat) (hf : zf M pc = some (.iastore, 1, pc9)) (hc : sh[c]? = some (1, n)) (hn2 : n ≤ 2147483647) (hi : 0 ≤ i ∧ i < (n : Int)) (kk : Ev G M pc9 ls st (sh, rf, zu ia c i x, w) O) : Ev G M pc ls ((0, x) :: (0, i) :: (1, (c : Int)) :: st) (sh, rf, ia, w) O := by
  intro p l e R s m args below meth cd C A hA hE hK ad0 n0 ad H locs cells slots la ha hn hP hD hS hl hcs hss
  obtain ⟨hd, rfl⟩ := zf_ok hf
  refine va_iast (D := G.1) C.1 C.2.1 hK hP hD hS c 0 (zE_arr (k := 1) (by simp) hc) rfl (i := Int32.ofInt i) (x := Int32.ofInt x) (z_in hi hn2) hd (fun H locs hP hD hS => ?_)
  rw [z_clamp ⟨hi.1, by omega⟩, zW_arr (k := 1) (by simp) hc hi.1] at hP hD
  exact kk p l e R s m args below meth cd C A hA hE hK ad0 n0 ad H locs cells slots la ha hn hP hD hS hl hcs hss
theorem Ev.castore {G : zG} {M : zM} {pc pc9 : Nat} {ls st : List zSV} {sh : List (Nat × Nat)} {rf : Nat → Nat → Option Nat} {ia : Nat → Int → Int} {w : (Nat → Int → Int) × (Nat → Int → Int)} {O : zO} {i x : Int}
    (c n : Nat) (hf : zf M pc = some (.castore, 1, pc9)) (hc : sh[c]? = some (2, n)) (hn2 : n ≤ 2147483647) (hi : 0 ≤ i ∧ i < (n : Int)) (hx : 0 ≤ x ∧ x ≤ 65535) (kk : Ev G M pc9 ls st (sh, rf, zu ia c i x, w) O) : Ev G M pc ls ((0, x) :: (0, i) :: (1, (c : Int)) :: st) (sh, rf, ia, w) O := by
  intro p l e R s m args below meth cd C A hA hE hK ad0 n0 ad H locs cells slots la ha hn hP hD hS hl hcs hss
  obtain ⟨hd, rfl⟩ := zf_ok hf
  refine va_cast (D := G.1) C.1 C.2.1 hK hP hD hS c 1 (zE_arr (k := 2) (by simp) hc) rfl (i := Int32.ofInt i) (x := Int32.ofInt x) (z_in hi hn2) hd (fun H locs hP hD hS => ?_)
  rw [z_clamp ⟨hi.1, by omega⟩, z_char, show x % 65536 = x by omega, zW_arr (k := 2) (by simp) hc hi.1] at hP hD
  exact kk p l e R s m args below meth cd C A hA hE hK ad0 n0 ad H locs cells slots la ha hn hP hD hS hl hcs hss
theorem z_updL {f : Int → Int} {i x : Int} (hi : 0 ≤ i) : vp_updL (fun j : Nat => Int64.ofInt (f (j : Int))) i.toNat (Int64.ofInt x) = fun j : Nat => Int64.ofInt (if (j : Int) = i then x else f (j : Int)) := by
  funext j
  unfold vp_updL
  by_cases e : j = i.toNat
  · have e2 : (j : Int) = i := by omega
    rw [if_pos e, if_pos e2]
  · have e2 : ¬ (j : Int) = i := by omega
    rw [if_neg e, if_neg e2]
theorem z_updD {f : Int → Int} {i x : Int} (hi : 0 ≤ i) : (fun j : Nat => if j = i.toNat then UInt64.ofNat x.toNat else UInt64.ofNat (f (j : Int)).toNat) = fun j : Nat => UInt64.ofNat (if (j : Int) = i then x else f (j : Int)).toNat := by
  funext j
  by_cases e : j = i.toNat
  · have e2 : (j : Int) = i := by omega
    rw [if_pos e, if_pos e2]
  · have e2 : ¬ (j : Int) = i := by omega
    rw [if_neg e, if_neg e2]
theorem zW_arrL {G : zG} {ad : Nat → Nat} {sh : List (Nat × Nat)} {rf : Nat → Nat → Option Nat} {ia lo da : Nat → Int → Int} {c n : Nat} {i x : Int} (hc : sh[c]? = some (3, n)) (hi : 0 ≤ i) : (zW G ad (sh, rf, ia, lo, da)).set c (ad c, .inl (G.2.1 2, n, .inr (.inl (vp_updL (fun j : Nat => Int64.ofInt (lo c (j : Int))) i.toNat (Int64.ofInt x))))) = zW G ad (sh, rf, ia, zu lo c i x, da) := by
  refine zW_set rfl (fun j kn hj => zE_off rfl rfl (zu_ne hj) rfl) (fun kn h => ?_)
  cases hc.symm.trans h
  rw [z_updL hi]
  unfold zE zu
  simp
theorem zW_arrD {G : zG} {ad : Nat → Nat} {sh : List (Nat × Nat)} {rf : Nat → Nat → Option Nat} {ia lo da : Nat → Int → Int} {c n : Nat} {i x : Int} (hc : sh[c]? = some (4, n)) (hi : 0 ≤ i) : (zW G ad (sh, rf, ia, lo, da)).set c (ad c, .inl (G.2.1 3, n, .inr (.inr (.inr (.inl (fun j : Nat => if j = i.toNat then UInt64.ofNat x.toNat else UInt64.ofNat (da c (j : Int)).toNat)))))) = zW G ad (sh, rf, ia, lo, zu da c i x) := by
  refine zW_set rfl (fun j kn hj => zE_off rfl rfl rfl (zu_ne hj)) (fun kn h => ?_)
  cases hc.symm.trans h
  rw [z_updD hi]
  unfold zE zu
  simp
theorem Ev.laload {G : zG} {M : zM} {pc pc9 : Nat} {ls st : List zSV} {sh : List (Nat × Nat)} {rf : Nat → Nat → Option Nat} {ia : Nat → Int → Int} {lo da : Nat → Int → Int} {O : zO} {i : Int}
    (c n : Nat) (hf : zf M pc = some (.laload, 1, pc9)) (hc : sh[c]? = some (3, n)) (hn2 : n ≤ 2147483647) (hi : 0 ≤ i ∧ i < (n : Int)) (kk : Ev G M pc9 ls ((4, lo c i) :: st) (sh, rf, ia, lo, da) O) : Ev G M pc ls ((0, i) :: (1, (c : Int)) :: st) (sh, rf, ia, lo, da) O := by
  intro p l e R s m args below meth cd C A hA hE hK ad0 n0 ad H locs cells slots la ha hn hP hD hS hl hcs hss
  obtain ⟨hd, rfl⟩ := zf_ok hf
  refine va_lald (D := G.1) C.1 C.2.1 hK hP c 2 (zW_at (h := (sh, rf, ia, lo, da)) hc) rfl (i := Int32.ofInt i) (z_in hi hn2) hd ?_
  rw [z_clamp ⟨hi.1, by omega⟩, Int.toNat_of_nonneg hi.1]
  exact kk p l e R s m args below meth cd C A hA hE hK ad0 n0 ad H locs cells slots la ha hn hP hD hS hl hcs hss
theorem Ev.daload {G : zG} {M : zM} {pc pc9 : Nat} {ls st : List zSV} {sh : List (Nat × Nat)} {rf : Nat → Nat → Option Nat} {ia : Nat → Int → Int} {lo da : Nat → Int → Int} {O : zO} {i : Int}
    (c n : Nat) (hf : zf M pc = some (.daload, 1, pc9)) (hc : sh[c]? = some (4, n)) (hn2 : n ≤ 2147483647) (hi : 0 ≤ i ∧ i < (n : Int)) (kk : Ev G M pc9 ls ((5, da c i) :: st) (sh, rf, ia, lo, da) O) : Ev G M pc ls ((0, i) :: (1, (c : Int)) :: st) (sh, rf, ia, lo, da) O := by
  intro p l e R s m args below meth cd C A hA hE hK ad0 n0 ad H locs cells slots la ha hn hP hD hS hl hcs hss
  obtain ⟨hd, rfl⟩ := zf_ok hf
  refine va_dald (D := G.1) C.1 C.2.1 hK hP c 3 (zW_at (h := (sh, rf, ia, lo, da)) hc) rfl (i := Int32.ofInt i) (z_in hi hn2) hd ?_
  rw [z_clamp ⟨hi.1, by omega⟩, Int.toNat_of_nonneg hi.1]
  exact kk p l e R s m args below meth cd C A hA hE hK ad0 n0 ad H locs cells slots la ha hn hP hD hS hl hcs hss
theorem Ev.lastore {G : zG} {M : zM} {pc pc9 : Nat} {ls st : List zSV} {sh : List (Nat × Nat)} {rf : Nat → Nat → Option Nat} {ia : Nat → Int → Int} {lo da : Nat → Int → Int} {O : zO} {i x : Int}
    (c n : Nat) (hf : zf M pc = some (.lastore, 1, pc9)) (hc : sh[c]? = some (3, n)) (hn2 : n ≤ 2147483647) (hi : 0 ≤ i ∧ i < (n : Int)) (kk : Ev G M pc9 ls st (sh, rf, ia, zu lo c i x, da) O) : Ev G M pc ls ((4, x) :: (0, i) :: (1, (c : Int)) :: st) (sh, rf, ia, lo, da) O := by
  intro p l e R s m args below meth cd C A hA hE hK ad0 n0 ad H locs cells slots la ha hn hP hD hS hl hcs hss
  obtain ⟨hd, rfl⟩ := zf_ok hf
  refine va_last (D := G.1) C.1 C.2.1 hK hP hD hS c 2 (zW_at (h := (sh, rf, ia, lo, da)) hc) rfl (i := Int32.ofInt i) (x := Int64.ofInt x) (z_in hi hn2) hd (fun H locs hP hD hS => ?_)
  rw [z_clamp ⟨hi.1, by omega⟩, zW_arrL hc hi.1] at hP hD
  exact kk p l e R s m args below meth cd C A hA hE hK ad0 n0 ad H locs cells slots la ha hn hP hD hS hl hcs hss
theorem Ev.dastore {G : zG} {M : zM} {pc pc9 : Nat} {ls st : List zSV} {sh : List (Nat × Nat)} {rf : Nat → Nat → Option Nat} {ia : Nat → Int → Int} {lo da : Nat → Int → Int} {O : zO} {i x : Int}
    (c n : Nat) (hf : zf M pc = some (.dastore, 1, pc9)) (hc : sh[c]? = some (4, n)) (hn2 : n ≤ 2147483647) (hi : 0 ≤ i ∧ i < (n : Int)) (kk : Ev G M pc9 ls st (sh, rf, ia, lo, zu da c i x) O) : Ev G M pc ls ((5, x) :: (0, i) :: (1, (c : Int)) :: st) (sh, rf, ia, lo, da) O := by
  intro p l e R s m args below meth cd C A hA hE hK ad0 n0 ad H locs cells slots la ha hn hP hD hS hl hcs hss
  obtain ⟨hd, rfl⟩ := zf_ok hf
  refine va_dast (D := G.1) C.1 C.2.1 hK hP hD hS c 3 (zW_at (h := (sh, rf, ia, lo, da)) hc) rfl (i := Int32.ofInt i) (x := UInt64.ofNat x.toNat) (z_in hi hn2) hd (fun H locs hP hD hS => ?_)
  rw [z_clamp ⟨hi.1, by omega⟩] at hP hD
  have hP : va_P G.1 vwCl (zW G ad (sh, rf, ia, lo, zu da c i x)) H := by rw [← zW_arrD hc hi.1]; exact hP
  have hD : va_D A (zW G ad (sh, rf, ia, lo, zu da c i x)) := by rw [← zW_arrD hc hi.1]; exact hD
  exact kk p l e R s m args below meth cd C A hA hE hK ad0 n0 ad H locs cells slots la ha hn hP hD hS hl hcs hss
theorem Ev.saload {G : zG} {M : zM} {pc pc9 : Nat} {ls st : List zSV} {sh : List (Nat × Nat)} {rf : Nat → Nat → Option Nat} {ia : Nat → Int → Int} {w : (Nat → Int → Int) × (Nat → Int → Int)} {O : zO} {i : Int}
    (j : Nat) (hf : zf M pc = some (.iaload, 1, pc9)) (hj : j < 3) (hn2 : (G.2.2.2.2.2.1 j).1 ≤ 2147483647) (hi : 0 ≤ i ∧ i < ((G.2.2.2.2.2.1 j).1 : Int)) (kk : Ev G M pc9 ls ((0, (G.2.2.2.2.2.1 j).2 i) :: st) (sh, rf, ia, w) O) : Ev G M pc ls ((0, i) :: (3, (j : Int)) :: st) (sh, rf, ia, w) O := by
  intro p l e R s m args below meth cd C A hA hE hK ad0 n0 ad H locs cells slots la ha hn hP hD hS hl hcs hss
  obtain ⟨hd, rfl⟩ := zf_ok hf
  refine va_ti C.1 C.2.1 (hE.2.2.2.2.2.2.2.2.2.2 j hj) hS (i := Int32.ofInt i) (z_in hi hn2) rfl hd ?_
  rw [z_clamp ⟨hi.1, by omega⟩, Int.toNat_of_nonneg hi.1]
  exact kk p l e R s m args below meth cd C A hA hE hK ad0 n0 ad H locs cells slots la ha hn hP hD hS hl hcs hss
theorem Ev.slen {G : zG} {M : zM} {pc pc9 : Nat} {ls st : List zSV} {sh : List (Nat × Nat)} {rf : Nat → Nat → Option Nat} {ia : Nat → Int → Int} {w : (Nat → Int → Int) × (Nat → Int → Int)} {O : zO} 
    (j : Nat) (hf : zf M pc = some (.arraylength, 1, pc9)) (hj : j < 3) (kk : Ev G M pc9 ls ((0, ((G.2.2.2.2.2.1 j).1 : Int)) :: st) (sh, rf, ia, w) O) : Ev G M pc ls ((3, (j : Int)) :: st) (sh, rf, ia, w) O := by
  intro p l e R s m args below meth cd C A hA hE hK ad0 n0 ad H locs cells slots la ha hn hP hD hS hl hcs hss
  obtain ⟨hd, rfl⟩ := zf_ok hf
  refine va_tlen C.1 C.2.1 (hE.2.2.2.2.2.2.2.2.2.2 j hj) hS Int32.ofInt_eq_ofNat.symm hd ?_
  exact kk p l e R s m args below meth cd C A hA hE hK ad0 n0 ad H locs cells slots la ha hn hP hD hS hl hcs hss
theorem Ev.alen {G : zG} {M : zM} {pc pc9 : Nat} {ls st : List zSV} {sh : List (Nat × Nat)} {rf : Nat → Nat → Option Nat} {ia : Nat → Int → Int} {w : (Nat → Int → Int) × (Nat → Int → Int)} {O : zO} {k : Nat}
    (c n : Nat) (hf : zf M pc = some (.arraylength, 1, pc9)) (hc : sh[c]? = some (k, n)) (hk : k = 1 ∨ k = 2) (kk : Ev G M pc9 ls ((0, (n : Int)) :: st) (sh, rf, ia, w) O) : Ev G M pc ls ((1, (c : Int)) :: st) (sh, rf, ia, w) O := by
  intro p l e R s m args below meth cd C A hA hE hK ad0 n0 ad H locs cells slots la ha hn hP hD hS hl hcs hss
  obtain ⟨hd, rfl⟩ := zf_ok hf
  have e9 := zE_arr (G := G) (ad := ad) (rf := rf) (ia := ia) (w := w) hk hc
  rcases hk with rfl | rfl
  · refine va_alen (D := G.1) C.1 C.2.1 hK hP c 0 e9 (ty := .int) rfl Int32.ofInt_eq_ofNat.symm hd ?_
    exact kk p l e R s m args below meth cd C A hA hE hK ad0 n0 ad H locs cells slots la ha hn hP hD hS hl hcs hss
  · refine va_alen (D := G.1) C.1 C.2.1 hK hP c 1 e9 (ty := .char) rfl Int32.ofInt_eq_ofNat.symm hd ?_
    exact kk p l e R s m args below meth cd C A hA hE hK ad0 n0 ad H locs cells slots la ha hn hP hD hS hl hcs hss
theorem Ev.lows {G : zG} {M : zM} {pc pc9 : Nat} {ls st : List zSV} {sh : List (Nat × Nat)} {rf : Nat → Nat → Option Nat} {ia : Nat → Int → Int} {w : (Nat → Int → Int) × (Nat → Int → Int)} {O : zO} {idx : Nat}
    (hf : zf M pc = some (.getstatic idx, 3, pc9)) (hl9 : Cond.fieldLink M.1.cls idx RX7 "LOWEST_LINE_OF_SPAN" "[I" ∈ zT) (kk : Ev G M pc9 ls ((3, 0) :: st) (sh, rf, ia, w) O) : Ev G M pc ls st (sh, rf, ia, w) O := by
  intro p l e R s m args below meth cd C A hA hE hK ad0 n0 ad H locs cells slots la ha hn hP hD hS hl hcs hss
  obtain ⟨hd, rfl⟩ := zf_ok hf
  refine va_gets C.1 C.2.1 hE.2.2.2.2.2.2.2.2.1 hS C.2.2.2.2.1 (C.2.2.2.2.2.2.1 _ hl9) (fun _ h9 => h9) hd ?_
  exact kk p l e R s m args below meth cd C A hA hE hK ad0 n0 ad H locs cells slots la ha hn hP hD hS hl hcs hss
theorem Ev.highs {G : zG} {M : zM} {pc pc9 : Nat} {ls st : List zSV} {sh : List (Nat × Nat)} {rf : Nat → Nat → Option Nat} {ia : Nat → Int → Int} {w : (Nat → Int → Int) × (Nat → Int → Int)} {O : zO} {idx : Nat}
    (hf : zf M pc = some (.getstatic idx, 3, pc9)) (hl9 : Cond.fieldLink M.1.cls idx RX7 "HIGHEST_LINE_OF_SPAN" "[I" ∈ zT) (kk : Ev G M pc9 ls ((3, 1) :: st) (sh, rf, ia, w) O) : Ev G M pc ls st (sh, rf, ia, w) O := by
  intro p l e R s m args below meth cd C A hA hE hK ad0 n0 ad H locs cells slots la ha hn hP hD hS hl hcs hss
  obtain ⟨hd, rfl⟩ := zf_ok hf
  refine va_gets C.1 C.2.1 hE.2.2.2.2.2.2.2.2.2.1 hS C.2.2.2.2.1 (C.2.2.2.2.2.2.1 _ hl9) (fun _ h9 => h9) hd ?_
  exact kk p l e R s m args below meth cd C A hA hE hK ad0 n0 ad H locs cells slots la ha hn hP hD hS hl hcs hss
theorem Ev.ldcS {G : zG} {M : zM} {pc pc9 : Nat} {ls st : List zSV} {sh : List (Nat × Nat)} {rf : Nat → Nat → Option Nat} {ia : Nat → Int → Int} {w : (Nat → Int → Int) × (Nat → Int → Int)} {O : zO} {idx : Nat} {tx : String}
    (i : Nat) (hf : zf M pc = some (.ldc idx, 2, pc9)) (hi : zSK[i]? = some (M.1.cls, idx, tx)) (kk : Ev G M pc9 ls ((2, (i : Int)) :: st) (sh, rf, ia, w) O) : Ev G M pc ls st (sh, rf, ia, w) O := by
  intro p l e R s m args below meth cd C A hA hE hK ad0 n0 ad H locs cells slots la ha hn hP hD hS hl hcs hss
  obtain ⟨hd, rfl⟩ := zf_ok hf
  refine va_ldcS C.1 C.2.1 C.2.2.2.2.1 (hE.2.2.1 i _ hi) hd ?_
  exact kk p l e R s m args below meth cd C A hA hE hK ad0 n0 ad H locs cells slots la ha hn hP hD hS hl hcs hss
theorem Ev.ldcD {G : zG} {M : zM} {pc pc9 : Nat} {ls st : List zSV} {sh : List (Nat × Nat)} {rf : Nat → Nat → Option Nat} {ia : Nat → Int → Int} {w : (Nat → Int → Int) × (Nat → Int → Int)} {O : zO} {idx b : Nat}
    (hf : zf M pc = some (.ldc2_w idx, 3, pc9)) (hl9 : Cond.constantDouble M.1.cls idx (UInt64.ofNat b) ∈ zT) (kk : Ev G M pc9 ls ((5, (b : Int)) :: st) (sh, rf, ia, w) O) : Ev G M pc ls st (sh, rf, ia, w) O := by
  intro p l e R s m args below meth cd C A hA hE hK ad0 n0 ad H locs cells slots la ha hn hP hD hS hl hcs hss
  obtain ⟨hd, rfl⟩ := zf_ok hf
  refine lv_ldc2d C.1 C.2.1 C.2.2.2.2.1 (C.2.2.2.2.2.2.1 _ hl9) hd ?_
  exact kk p l e R s m args below meth cd C A hA hE hK ad0 n0 ad H locs cells slots la ha hn hP hD hS hl hcs hss
theorem z_cpy {f g : Int → Int} {sp dp n : Int} (h1 : 0 ≤ sp) (h2 : 0 ≤ dp) (h3 : 0 ≤ n) : va_cpy (fun j : Nat => Int32.ofInt (f (j : Int))) (fun j : Nat => Int32.ofInt (g (j : Int))) sp.toNat dp.toNat n.toNat = fun j : Nat => Int32.ofInt (if dp ≤ (j : Int) ∧ (j : Int) < dp + n then f (sp + ((j : Int) - dp)) else g (j : Int)) := by
  funext j
  unfold va_cpy
  by_cases e : dp.toNat ≤ j ∧ j < dp.toNat + n.toNat
  · rw [if_pos e, if_pos (by omega)]
    show Int32.ofInt (f ((sp.toNat + (j - dp.toNat) : Nat) : Int)) = _
    rw [show ((sp.toNat + (j - dp.toNat) : Nat) : Int) = sp + ((j : Int) - dp) by omega]
  · rw [if_neg e, if_neg (by omega)]
/-- n places of the array c0 from sp on, copied to the array c1 from dp on -/
def zcp (ia : Nat → Int → Int) (c0 : Nat) (sp : Int) (c1 : Nat) (dp n : Int) : Nat → Int → Int := fun c i => if c = c1 ∧ dp ≤ i ∧ i < dp + n then ia c0 (sp + (i - dp)) else ia c i
theorem zW_cpy {G : zG} {ad : Nat → Nat} {sh : List (Nat × Nat)} {rf : Nat → Nat → Option Nat} {ia : Nat → Int → Int} {w : (Nat → Int → Int) × (Nat → Int → Int)} {c0 c1 n1 : Nat} {sp dp n : Int} (hc : sh[c1]? = some (1, n1)) (h1 : 0 ≤ sp) (h2 : 0 ≤ dp) (h3 : 0 ≤ n) : (zW G ad (sh, rf, ia, w)).set c1 (ad c1, .inl (G.2.1 0, n1, .inl (va_cpy (fun j : Nat => Int32.ofInt (ia c0 (j : Int))) (fun j : Nat => Int32.ofInt (ia c1 (j : Int))) sp.toNat dp.toNat n.toNat))) = zW G ad (sh, rf, zcp ia c0 sp c1 dp n, w) := by
  refine zW_set rfl (fun j kn hj => zE_off rfl (by funext k; unfold zcp; rw [if_neg (fun e => hj e.1)]) rfl rfl) (fun kn h => ?_)
  cases hc.symm.trans h
  rw [z_cpy h1 h2 h3]
  unfold zE zcp
  simp
theorem Ev.copy {G : zG} {M : zM} {pc pc9 : Nat} {ls st : List zSV} {sh : List (Nat × Nat)} {rf : Nat → Nat → Option Nat} {ia : Nat → Int → Int} {w : (Nat → Int → Int) × (Nat → Int → Int)} {O : zO} {idx : Nat} {sp dp n : Int}
    (c0 c1 n0a n1 : Nat) (hf : zf M pc = some (.invokestatic idx, 3, pc9)) (hl9 : Cond.methodLink M.1.cls idx arraycopyName ∈ zT) (hnat : Cond.native arraycopyName ∈ zT) (hsta : Cond.static arraycopyName ∈ zT) (hini : Cond.initialized "java/lang/System" ∈ zT) (hc0 : sh[c0]? = some (1, n0a)) (hc1 : sh[c1]? = some (1, n1)) (h0n : n0a ≤ 2147483647) (h1n : n1 ≤ 2147483647) (h1 : 0 ≤ sp ∧ 0 ≤ dp ∧ 0 ≤ n ∧ sp + n ≤ (n0a : Int) ∧ dp + n ≤ (n1 : Int)) (hfr : 1 ≤ M.2.2.2.2.2.1) (hlo : (st.map zcat).sum + (nativeFrameWords "java/lang/System" "arraycopy" 5 + 11) ≤ M.2.2.2.2.2.2) (kk : Ev G M pc9 ls st (sh, rf, zcp ia c0 sp c1 dp n, w) O) : Ev G M pc ls ((0, n) :: (0, dp) :: (1, (c1 : Int)) :: (0, sp) :: (1, (c0 : Int)) :: st) (sh, rf, ia, w) O := by
  intro p l e R s m args below meth cd C A hA hE hK ad0 n0 ad H locs cells slots la ha hn hP hD hS hl hcs hss
  obtain ⟨hd, rfl⟩ := zf_ok hf
  obtain ⟨h1, h2, h3, h4, h5⟩ := h1
  have nn : ∀ z : Int, 0 ≤ z ∧ z ≤ 2147483647 → ¬ Int32.ofInt z < 0 := fun z hz => by rw [z_0, z_lt ⟨by omega, by omega⟩ z_r0]; omega
  refine va_copyi (D := G.1) C.1 C.2.1 (C.2.2.1.trans hl.1.symm) C.2.2.2.2.1 (C.2.2.2.2.2.2.1 _ hl9) (C.2.2.2.2.2.2.1 _ hnat) (C.2.2.2.2.2.2.1 _ hsta) (C.2.2.2.2.2.2.1 _ hini) hK hP hD hS c0 c1 0 0 (zE_arr (k := 1) (by simp) hc0) (zE_arr (k := 1) (by simp) hc1) (ty := .int) rfl rfl rfl (sp := Int32.ofInt sp) (dp := Int32.ofInt dp) (n := Int32.ofInt n) (nn _ ⟨h1, by omega⟩) (nn _ ⟨h2, by omega⟩) (nn _ ⟨h3, by omega⟩) (by rw [z_clamp ⟨h1, by omega⟩, z_clamp ⟨h3, by omega⟩]; omega) (by rw [z_clamp ⟨h2, by omega⟩, z_clamp ⟨h3, by omega⟩]; omega) (fun _ _ => rfl) (Nat.le_trans hfr C.2.2.2.2.2.2.2.2.2.1) (by rw [zcats]; exact Nat.le_trans hlo C.2.2.2.2.2.2.2.2.2.2.1) hd (fun H locs hP hD hS => ?_)
  rw [z_clamp ⟨h1, by omega⟩, z_clamp ⟨h2, by omega⟩, z_clamp ⟨h3, by omega⟩, zW_cpy hc1 h1 h2 h3] at hP hD
  exact kk p l e R s m args below meth cd C A hA hE hK ad0 n0 ad H locs cells slots la ha hn hP hD hS hl hcs hss
theorem Ev.objInit {G : zG} {M : zM} {pc pc9 : Nat} {ls st : List zSV} {sh : List (Nat × Nat)} {rf : Nat → Nat → Option Nat} {ia : Nat → Int → Int} {w : (Nat → Int → Int) × (Nat → Int → Int)} {O : zO} {idx : Nat}
    (c : Nat) (hf : zf M pc = some (.invokespecial idx, 3, pc9)) (hl9 : Cond.methodLink M.1.cls idx Lib.objectInit ∈ zT) (hin : Cond.instanceMethod Lib.objectInit ∈ zT) (hco : Cond.code Lib.objectInit ⟨#[0xb1]⟩ 1 none ∈ zT) (hfr : 1 ≤ M.2.2.2.2.2.1) (hlo : (st.map zcat).sum + 12 ≤ M.2.2.2.2.2.2) (kk : Ev G M pc9 ls st (sh, rf, ia, w) O) : Ev G M pc ls ((1, (c : Int)) :: st) (sh, rf, ia, w) O := by
  intro p l e R s m args below meth cd C A hA hE hK ad0 n0 ad H locs cells slots la ha hn hP hD hS hl hcs hss
  obtain ⟨hd, rfl⟩ := zf_ok hf
  refine W.objInit C.1 C.2.1 C.2.2.2.2.1 (C.2.2.2.2.2.2.1 _ hl9) (C.2.2.2.2.2.2.1 _ hin) (C.2.2.2.2.2.2.1 _ hco) rfl (by rw [C.2.2.1]; exact hl.1) rfl hd (Nat.le_trans hfr C.2.2.2.2.2.2.2.2.2.1) (by rw [zcats]; exact Nat.le_trans (by simpa [JFrame.monitorRoom] using hlo) C.2.2.2.2.2.2.2.2.2.2.1) ?_
  exact kk p l e R s m args below meth cd C A hA hE hK ad0 n0 ad H locs cells slots la ha hn hP hD hS hl hcs hss
theorem Ev.retI {G : zG} {M : zM} {pc pc9 : Nat} {ls st : List zSV} {sh : List (Nat × Nat)} {rf : Nat → Nat → Option Nat} {ia : Nat → Int → Int} {w : (Nat → Int → Int) × (Nat → Int → Int)} {O : zO} {t : FieldType} {x : Int}
    (hf : zf M pc = some (.ireturn, 1, pc9)) (hr : M.2.2.2.1 = some t) (hx : zNar t x) : Ev G M pc ls [(0, x)] (sh, rf, ia, w) (.inl (some (0, x)), (sh, rf, ia, w), 0, 0) := by
  intro p l e R s m args below meth cd C A hA hE hK ad0 n0 ad H locs cells slots la ha hn hP hD hS hl hcs hss
  obtain ⟨hd, rfl⟩ := zf_ok hf
  refine W.widen (k := R.cells) (n := R.slots) hcs hss ?_
  refine vx_ret ?_
  exact W.zret (v := Int32.ofInt x) C.1 C.2.1 (C.2.2.2.1.trans hr) (zNar_ok hx).1 (fun t ht hW => ⟨⟨some (0, x), ad, rfl, rfl, by rw [ht]; exact hP, hD, ha⟩, hS.F ht⟩) hS.2.2 hd C.2.2.2.2.2.1
theorem Ev.retV {G : zG} {M : zM} {pc pc9 : Nat} {ls st : List zSV} {sh : List (Nat × Nat)} {rf : Nat → Nat → Option Nat} {ia : Nat → Int → Int} {w : (Nat → Int → Int) × (Nat → Int → Int)} {O : zO} 
    (hf : zf M pc = some (.return_, 1, pc9)) (hr : M.2.2.2.1 = none) : Ev G M pc ls [] (sh, rf, ia, w) (.inl none, (sh, rf, ia, w), 0, 0) := by
  intro p l e R s m args below meth cd C A hA hE hK ad0 n0 ad H locs cells slots la ha hn hP hD hS hl hcs hss
  obtain ⟨hd, rfl⟩ := zf_ok hf
  refine W.widen (k := R.cells) (n := R.slots) hcs hss ?_
  refine vx_ret ?_
  exact W.vret C.1 C.2.1 (C.2.2.2.1.trans hr) (fun t ht hW => ⟨⟨none, ad, rfl, rfl, by rw [ht]; exact hP, hD, ha⟩, hS.F ht⟩) hS.2.2 hd C.2.2.2.2.2.1
theorem Ev.retD {G : zG} {M : zM} {pc pc9 : Nat} {ls st : List zSV} {sh : List (Nat × Nat)} {rf : Nat → Nat → Option Nat} {ia : Nat → Int → Int} {w : (Nat → Int → Int) × (Nat → Int → Int)} {O : zO} {x : Int}
    (hf : zf M pc = some (.dreturn, 1, pc9)) (hr : M.2.2.2.1 = some .double) : Ev G M pc ls [(5, x)] (sh, rf, ia, w) (.inl (some (5, x)), (sh, rf, ia, w), 0, 0) := by
  intro p l e R s m args below meth cd C A hA hE hK ad0 n0 ad H locs cells slots la ha hn hP hD hS hl hcs hss
  obtain ⟨hd, rfl⟩ := zf_ok hf
  refine W.widen (k := R.cells) (n := R.slots) hcs hss ?_
  refine vx_ret ?_
  exact W.dret C.1 C.2.1 (C.2.2.2.1.trans hr) (fun t ht hW => ⟨⟨some (5, x), ad, rfl, rfl, by rw [ht]; exact hP, hD, ha⟩, hS.F ht⟩) hS.2.2 hd C.2.2.2.2.2.1
theorem Ev.retF {G : zG} {M : zM} {pc pc9 : Nat} {ls st : List zSV} {sh : List (Nat × Nat)} {rf : Nat → Nat → Option Nat} {ia : Nat → Int → Int} {w : (Nat → Int → Int) × (Nat → Int → Int)} {O : zO} {x : Int}
    (hf : zf M pc = some (.freturn, 1, pc9)) (hr : M.2.2.2.1 = some .float) : Ev G M pc ls [(6, x)] (sh, rf, ia, w) (.inl (some (6, x)), (sh, rf, ia, w), 0, 0) := by
  intro p l e R s m args below meth cd C A hA hE hK ad0 n0 ad H locs cells slots la ha hn hP hD hS hl hcs hss
  obtain ⟨hd, rfl⟩ := zf_ok hf
  refine W.widen (k := R.cells) (n := R.slots) hcs hss ?_
  refine vx_ret ?_
  exact W.fret C.1 C.2.1 (C.2.2.2.1.trans hr) (fun t ht hW => ⟨⟨some (6, x), ad, rfl, rfl, by rw [ht]; exact hP, hD, ha⟩, hS.F ht⟩) hS.2.2 hd C.2.2.2.2.2.1
theorem Ev.retS {G : zG} {M : zM} {pc pc9 : Nat} {ls st : List zSV} {sh : List (Nat × Nat)} {rf : Nat → Nat → Option Nat} {ia : Nat → Int → Int} {w : (Nat → Int → Int) × (Nat → Int → Int)} {O : zO} {x : Int}
    (hf : zf M pc = some (.areturn, 1, pc9)) (hr : M.2.2.2.1 = some (.object "java/lang/String")) : Ev G M pc ls [(2, x)] (sh, rf, ia, w) (.inl (some (2, x)), (sh, rf, ia, w), 0, 0) := by
  intro p l e R s m args below meth cd C A hA hE hK ad0 n0 ad H locs cells slots la ha hn hP hD hS hl hcs hss
  obtain ⟨hd, rfl⟩ := zf_ok hf
  refine W.widen (k := R.cells) (n := R.slots) hcs hss ?_
  refine vx_ret ?_
  exact W.aret (v := .ref (G.2.2.1 x.toNat)) (rt := .object "java/lang/String") C.1 C.2.1 (C.2.2.2.1.trans hr) (Or.inl ⟨_, rfl⟩) (Or.inr ⟨_, rfl⟩) (fun t ht hW => ⟨⟨some (2, x), ad, rfl, rfl, by rw [ht]; exact hP, hD, ha⟩, hS.F ht⟩) hS.2.2 hd C.2.2.2.2.2.1
