/-! MAKING CELLS, CALLS, THROWS, CATCHES -/
def zOk (n : Nat) (v : zSV) : Bool := match v with
  | (1, k) => decide (k.toNat < n)
  | _ => true
theorem zc_ad {G : zG} {ad ad' : Nat → Nat} {n : Nat} {v : zSV} (h : ∀ c, c < n → ad' c = ad c) (hv : zOk n v = true) : zc G ad' v = zc G ad v := by
  obtain ⟨t, x⟩ := v
  match t with
  | 0 => rfl
  | 1 =>
    have h1 : x.toNat < n := by simpa [zOk] using hv
    show Value.ref (ad' x.toNat) = Value.ref (ad x.toNat)
    rw [h _ h1]
  | 2 => rfl
  | 3 => rfl
  | 4 => rfl
  | 5 => rfl
  | 6 => rfl
  | 7 => rfl
  | 8 => rfl
  | t + 9 => simp [zc]
theorem zcs_ad {G : zG} {ad ad' : Nat → Nat} {n : Nat} {l : List zSV} (h : ∀ c, c < n → ad' c = ad c) (hv : l.all (zOk n) = true) : l.map (zc G ad') = l.map (zc G ad) := List.map_congr_left fun v hm => zc_ad h (List.all_eq_true.mp hv v hm)
theorem zL_ad {G : zG} {ad ad' : Nat → Nat} {n : Nat} {l : List zSV} (h : ∀ c, c < n → ad' c = ad c) (hv : l.all (zOk n) = true) {la : Array Slot} {k : Nat} (hl : lv_has la k (zL G ad l)) : lv_has la k (zL G ad' l) := by
  refine lv_less hl fun q hq => ?_
  obtain ⟨w, h1, h2, h3⟩ := zL_mem.mp hq
  exact zL_mem.mpr ⟨w, h1, h2, h3.trans (zc_ad h (List.all_eq_true.mp hv w (List.mem_of_getElem? h1)))⟩
/-- the references of the first n cells lead to them -/
def zRfOk (n : Nat) (rf : Nat → Nat → Option Nat) : Bool := (List.range n).all fun c => (List.range 22).all fun k => match rf c k with
  | some q => decide (q < n)
  | none => true
theorem zRf_at {n c k q : Nat} {rf : Nat → Nat → Option Nat} (h : zRfOk n rf = true) (hc : c < n) (hk : k < 22) (hq : rf c k = some q) : q < n := by
  have h1 := List.all_eq_true.mp h c (List.mem_range.mpr hc)
  have h2 := List.all_eq_true.mp h1 k (List.mem_range.mpr hk)
  simp only [hq] at h2
  simpa using h2
theorem zN_le (ci : Nat) : zN ci ≤ 22 := by
  unfold zN
  split <;> omega
theorem zE_ad {G : zG} {ad ad' : Nat → Nat} {sh sh' : List (Nat × Nat)} {rf rf' : Nat → Nat → Option Nat} {ia ia' lo lo' da da' : Nat → Int → Int} {n j : Nat} {kn : Nat × Nat} (had : ∀ c, c < n → ad' c = ad c) (hrf : zRfOk n rf = true) (hj : j < n) (h1 : rf' j = rf j) (h2 : ia' j = ia j) (h3 : lo' j = lo j) (h4 : da' j = da j) : zE G ad' (sh', rf', ia', lo', da') j kn = zE G ad (sh, rf, ia, lo, da) j kn := by
  have hf : ∀ ci, zF ad' (sh', rf', ia', lo', da') j ci = zF ad (sh, rf, ia, lo, da) j ci := by
    intro ci
    unfold zF
    refine List.map_congr_left fun k hk => ?_
    have hk2 := List.mem_range.mp hk
    dsimp only
    rw [h1, h2]
    cases hq : rf j k with
    | none => rfl
    | some q =>
      have := zRf_at hrf hj (Nat.lt_of_lt_of_le hk2 (zN_le ci)) hq
      show (if zR ci k = true then va_rf (some (ad' q)) else _) = (if zR ci k = true then va_rf (some (ad q)) else _)
      rw [had q this]
  unfold zE
  split <;> simp only [hf, h2, h3, h4]
theorem zW_push {G : zG} {ad ad' : Nat → Nat} {sh : List (Nat × Nat)} {kn : Nat × Nat} {rf rf' : Nat → Nat → Option Nat} {ia ia' lo lo' da da' : Nat → Int → Int} (had : ∀ c, c < sh.length → ad' c = ad c) (hrf : zRfOk sh.length rf = true) (h1 : ∀ j, j < sh.length → rf' j = rf j) (h2 : ∀ j, j < sh.length → ia' j = ia j) (h3 : ∀ j, j < sh.length → lo' j = lo j) (h4 : ∀ j, j < sh.length → da' j = da j) :
    zW G ad' (sh ++ [kn], rf', ia', lo', da') = zW G ad (sh, rf, ia, lo, da) ++ [(ad' sh.length, zE G ad' (sh ++ [kn], rf', ia', lo', da') sh.length kn)] := by
  unfold zW
  dsimp only
  rw [List.mapIdx_concat]
  congr 1
  apply List.ext_getElem?
  intro j
  rw [List.getElem?_mapIdx, List.getElem?_mapIdx]
  cases hk : sh[j]? with
  | none => rfl
  | some x =>
    have hj := (List.getElem?_eq_some_iff.mp hk).1
    show some (ad' j, zE G ad' (sh ++ [kn], rf', ia', lo', da') j x) = some (ad j, zE G ad (sh, rf, ia, lo, da) j x)
    rw [had j hj, zE_ad had hrf hj (h1 j hj) (h2 j hj) (h3 j hj) (h4 j hj)]
def zcr (rf : Nat → Nat → Option Nat) (n : Nat) : Nat → Nat → Option Nat := fun c k => if c = n then none else rf c k
def zci (ia : Nat → Int → Int) (n : Nat) : Nat → Int → Int := fun c i => if c = n then 0 else ia c i
theorem zcr_lt {rf : Nat → Nat → Option Nat} {n j : Nat} (h : j < n) : zcr rf n j = rf j := by
  funext k
  unfold zcr
  rw [if_neg (by omega)]
theorem zci_lt {ia : Nat → Int → Int} {n j : Nat} (h : j < n) : zci ia n j = ia j := by
  funext k
  unfold zci
  rw [if_neg (by omega)]
/-- the addresses, with one more at the end -/
def zAd (ad : Nat → Nat) (n q : Nat) : Nat → Nat := fun c => if c = n then q else ad c
theorem zAd_lt {ad : Nat → Nat} {n q : Nat} : ∀ c, c < n → zAd ad n q c = ad c := fun c h => by
  unfold zAd
  rw [if_neg (by omega)]
theorem zAd_n {ad : Nat → Nat} {n q : Nat} : zAd ad n q n = q := by
  unfold zAd
  rw [if_pos rfl]
/-- 'new' of a class of ours -/
def zNl (M : zM) (idx ci : Nat) : Prop := ∃ (C : String) (T : u_T) (ty : Nat → FieldType), zClOk ci C T ty ∧ Cond.classLink M.1.cls idx C ∈ zT ∧ Cond.instantiable C (zN ci) ∈ zT ∧ Cond.initialized C ∈ zT
theorem Ev.new {G : zG} {M : zM} {pc pc9 : Nat} {ls st : List zSV} {sh : List (Nat × Nat)} {rf : Nat → Nat → Option Nat} {ia : Nat → Int → Int} {w : (Nat → Int → Int) × (Nat → Int → Int)} {idx ci : Nat} {o : Option zSV ⊕ String} {h2 : zHp} {ce sl : Nat} (n ce1 sl1 : Nat) (hn9 : sh.length = n) (hf : zf M pc = some (.new idx, 3, pc9)) (hl9 : zNl M idx ci) (h1l : ls.all (zOk n) = true) (h1s : st.all (zOk n) = true) (hrf : zRfOk n rf = true) (hce : ce1 + 1 = ce) (hsl : sl1 + zN ci = sl)
    (kk : Ev G M pc9 ls ((1, (n : Int)) :: st) (sh ++ [(0, ci)], zcr rf n, zci ia n, w) (o, h2, ce1, sl1)) : Ev G M pc ls st (sh, rf, ia, w) (o, h2, ce, sl) := by
  intro p l e R s m args below meth cd C A hA hE hK ad0 n0 ad H locs cells slots la ha hn hP hD hS hl hcs hss
  obtain ⟨hd, rfl⟩ := zf_ok hf
  obtain ⟨C0, T0, ty0, hcl, hk1, hk2, hk3⟩ := hl9
  subst hn9
  subst hce
  subst hsl
  dsimp only at hcs hss hn
  refine va_new (D := G.1) (ci := ci) (C := C0) (T := T0) (N := zN ci) (fs := (List.range (zN ci)).map fun k => if zR ci k then .null else .int 0) C.1 C.2.1 C.2.2.2.2.2.2.1 hcl.2.1 ty0 hcl.2.2.1 C.2.2.2.2.1 (C.2.2.2.2.2.2.1 _ hk1) (C.2.2.2.2.2.2.1 _ hk2) (C.2.2.2.2.2.2.1 _ hk3) hK hP hD hS hA hcl.1 (fun j hj => ?_) (by omega) (by omega) hd (fun q H1 hP1 hD1 hS1 => ?_)
  · rw [hcl.2.2.2.2.2 j hj]
    unfold vp_V
    rw [List.getD_eq_getElem?_getD, List.getElem?_map, List.getElem?_range hj]
    rfl
  · have e9 : zW G (zAd ad sh.length q) (sh ++ [(0, ci)], zcr rf sh.length, zci ia sh.length, w) = zW G ad (sh, rf, ia, w) ++ [(q, .inr (ci, (List.range (zN ci)).map fun k => if zR ci k then .null else .int 0))] := by
      rw [zW_push (ad := ad) (lo := w.1) (da := w.2) zAd_lt hrf (fun j hj => zcr_lt hj) (fun j hj => zci_lt hj) (fun _ _ => rfl) (fun _ _ => rfl), zAd_n]
      congr 3
      unfold zE zF zcr zci
      simp only [if_true, Option.map_none]
      congr 2
    have kk2 := kk p l e R s m args below meth cd C A hA hE hK ad0 n0 (zAd ad sh.length q) H1 locs (cells + 1) (slots + zN ci) la (fun c hc => (zAd_lt c (by omega)).trans (ha c hc)) (by dsimp only; rw [List.length_append]; omega) (by rw [e9]; exact hP1) (by rw [e9]; exact hD1) hS1 (zL_ad zAd_lt h1l hl) (by dsimp only; omega) (by dsimp only; omega)
    rw [List.map_cons, zcs_ad zAd_lt h1s] at kk2
    have e8 : zc G (zAd ad sh.length q) (1, (sh.length : Int)) = .ref q := by
      show Value.ref (zAd ad sh.length q ((sh.length : Int)).toNat) = _
      rw [Int.toNat_natCast, zAd_n]
    rw [e8] at kk2
    exact kk2
/-! PRINTED from here on (wip/whole/gen/sim4.py) -/
theorem Ev.newaI {G : zG} {M : zM} {pc pc9 : Nat} {ls st : List zSV} {sh : List (Nat × Nat)} {rf : Nat → Nat → Option Nat} {ia : Nat → Int → Int} {w : (Nat → Int → Int) × (Nat → Int → Int)} {o : Option zSV ⊕ String} {h2 : zHp} {ce sl : Nat} (n N ce1 sl1 : Nat) (hn9 : sh.length = n) (hf : zf M pc = some (.newarray .int, 2, pc9)) (hac : Cond.arrayClass .int ∈ zT) (h1l : ls.all (zOk n) = true) (h1s : st.all (zOk n) = true) (hrf : zRfOk n rf = true) (hN : N ≤ 100000) (hce : ce1 + 1 = ce) (hsl : sl1 + N = sl)
    (kk : Ev G M pc9 ls ((1, (n : Int)) :: st) (sh ++ [(1, N)], zcr rf n, zci ia n, w) (o, h2, ce1, sl1)) : Ev G M pc ls ((0, (N : Int)) :: st) (sh, rf, ia, w) (o, h2, ce, sl) := by
  intro p l e R s m args below meth cd C A hA hE hK ad0 n0 ad H locs cells slots la ha hn hP hD hS hl hcs hss
  obtain ⟨hd, rfl⟩ := zf_ok hf
  subst hn9
  subst hce
  subst hsl
  dsimp only at hcs hss hn
  refine va_newa (D := G.1) (atype := .int) (ty := .int) (a0 := (N, .inl fun _ => 0)) (N' := N) C.1 C.2.1 (C.2.2.2.2.2.2.1 _ hac) rfl hK hP hD hS hA (n := Int32.ofInt (N : Int)) (fun _ => rfl) (by rw [z_0, z_lt ⟨by omega, by omega⟩ z_r0]; omega) (by rw [z_clamp ⟨by omega, by omega⟩, Int.toNat_natCast]) (by simp [componentBytes]; omega) (by omega) (by omega) hd (fun q cA H1 hK1 hP1 hD1 hS1 => ?_)
  have hcA : cA = G.2.1 0 := Option.some.inj (((hK1.2 4 (cA, .int) rfl).2).symm.trans (hK.2 0 (G.2.1 0, .int) rfl).2)
  subst hcA
  have e9 : zW G (zAd ad sh.length q) (sh ++ [(1, N)], zcr rf sh.length, zci ia sh.length, w) = zW G ad (sh, rf, ia, w) ++ [(q, .inl (G.2.1 0, N, .inl fun _ => 0))] := by
    rw [zW_push (ad := ad) (lo := w.1) (da := w.2) zAd_lt hrf (fun j hj => zcr_lt hj) (fun j hj => zci_lt hj) (fun _ _ => rfl) (fun _ _ => rfl), zAd_n]
    congr 3
    unfold zE zci
    simp only [if_true]
    rfl
  have kk2 := kk p l e R s m args below meth cd C A hA hE hK ad0 n0 (zAd ad sh.length q) H1 locs (cells + 1) (slots + N) la (fun c hc => (zAd_lt c (by omega)).trans (ha c hc)) (by dsimp only; rw [List.length_append]; omega) (by rw [e9]; exact hP1) (by rw [e9]; exact hD1) hS1 (zL_ad zAd_lt h1l hl) (by dsimp only; omega) (by dsimp only; omega)
  rw [List.map_cons, zcs_ad zAd_lt h1s] at kk2
  have e8 : zc G (zAd ad sh.length q) (1, (sh.length : Int)) = .ref q := by
    show Value.ref (zAd ad sh.length q ((sh.length : Int)).toNat) = _
    rw [Int.toNat_natCast, zAd_n]
  rw [e8] at kk2
  exact kk2
theorem Ev.newaC {G : zG} {M : zM} {pc pc9 : Nat} {ls st : List zSV} {sh : List (Nat × Nat)} {rf : Nat → Nat → Option Nat} {ia : Nat → Int → Int} {w : (Nat → Int → Int) × (Nat → Int → Int)} {o : Option zSV ⊕ String} {h2 : zHp} {ce sl : Nat} (n N ce1 sl1 : Nat) (hn9 : sh.length = n) (hf : zf M pc = some (.newarray .char, 2, pc9)) (hac : Cond.arrayClass .char ∈ zT) (h1l : ls.all (zOk n) = true) (h1s : st.all (zOk n) = true) (hrf : zRfOk n rf = true) (hN : N ≤ 100000) (hce : ce1 + 1 = ce) (hsl : sl1 + N = sl)
    (kk : Ev G M pc9 ls ((1, (n : Int)) :: st) (sh ++ [(2, N)], zcr rf n, zci ia n, w) (o, h2, ce1, sl1)) : Ev G M pc ls ((0, (N : Int)) :: st) (sh, rf, ia, w) (o, h2, ce, sl) := by
  intro p l e R s m args below meth cd C A hA hE hK ad0 n0 ad H locs cells slots la ha hn hP hD hS hl hcs hss
  obtain ⟨hd, rfl⟩ := zf_ok hf
  subst hn9
  subst hce
  subst hsl
  dsimp only at hcs hss hn
  refine va_newa (D := G.1) (atype := .char) (ty := .char) (a0 := (N, .inl fun _ => 0)) (N' := N) C.1 C.2.1 (C.2.2.2.2.2.2.1 _ hac) rfl hK hP hD hS hA (n := Int32.ofInt (N : Int)) (fun _ => rfl) (by rw [z_0, z_lt ⟨by omega, by omega⟩ z_r0]; omega) (by rw [z_clamp ⟨by omega, by omega⟩, Int.toNat_natCast]) (by simp [componentBytes]; omega) (by omega) (by omega) hd (fun q cA H1 hK1 hP1 hD1 hS1 => ?_)
  have hcA : cA = G.2.1 1 := Option.some.inj (((hK1.2 4 (cA, .char) rfl).2).symm.trans (hK.2 1 (G.2.1 1, .char) rfl).2)
  subst hcA
  have e9 : zW G (zAd ad sh.length q) (sh ++ [(2, N)], zcr rf sh.length, zci ia sh.length, w) = zW G ad (sh, rf, ia, w) ++ [(q, .inl (G.2.1 1, N, .inl fun _ => 0))] := by
    rw [zW_push (ad := ad) (lo := w.1) (da := w.2) zAd_lt hrf (fun j hj => zcr_lt hj) (fun j hj => zci_lt hj) (fun _ _ => rfl) (fun _ _ => rfl), zAd_n]
    congr 3
    unfold zE zci
    simp only [if_true]
    rfl
  have kk2 := kk p l e R s m args below meth cd C A hA hE hK ad0 n0 (zAd ad sh.length q) H1 locs (cells + 1) (slots + N) la (fun c hc => (zAd_lt c (by omega)).trans (ha c hc)) (by dsimp only; rw [List.length_append]; omega) (by rw [e9]; exact hP1) (by rw [e9]; exact hD1) hS1 (zL_ad zAd_lt h1l hl) (by dsimp only; omega) (by dsimp only; omega)
  rw [List.map_cons, zcs_ad zAd_lt h1s] at kk2
  have e8 : zc G (zAd ad sh.length q) (1, (sh.length : Int)) = .ref q := by
    show Value.ref (zAd ad sh.length q ((sh.length : Int)).toNat) = _
    rw [Int.toNat_natCast, zAd_n]
  rw [e8] at kk2
  exact kk2
theorem Ev.newaL {G : zG} {M : zM} {pc pc9 : Nat} {ls st : List zSV} {sh : List (Nat × Nat)} {rf : Nat → Nat → Option Nat} {ia : Nat → Int → Int} {lo da : Nat → Int → Int} {o : Option zSV ⊕ String} {h2 : zHp} {ce sl : Nat} (n N ce1 sl1 : Nat) (hn9 : sh.length = n) (hf : zf M pc = some (.newarray .long, 2, pc9)) (hac : Cond.arrayClass .long ∈ zT) (h1l : ls.all (zOk n) = true) (h1s : st.all (zOk n) = true) (hrf : zRfOk n rf = true) (hN : N ≤ 100000) (hce : ce1 + 1 = ce) (hsl : sl1 + N = sl)
    (kk : Ev G M pc9 ls ((1, (n : Int)) :: st) (sh ++ [(3, N)], zcr rf n, zci ia n, (zci lo n, da)) (o, h2, ce1, sl1)) : Ev G M pc ls ((0, (N : Int)) :: st) (sh, rf, ia, lo, da) (o, h2, ce, sl) := by
  intro p l e R s m args below meth cd C A hA hE hK ad0 n0 ad H locs cells slots la ha hn hP hD hS hl hcs hss
  obtain ⟨hd, rfl⟩ := zf_ok hf
  subst hn9
  subst hce
  subst hsl
  dsimp only at hcs hss hn
  refine va_newa (D := G.1) (atype := .long) (ty := .long) (a0 := (N, .inr (.inl fun _ => 0))) (N' := N) C.1 C.2.1 (C.2.2.2.2.2.2.1 _ hac) rfl hK hP hD hS hA (n := Int32.ofInt (N : Int)) (fun _ => rfl) (by rw [z_0, z_lt ⟨by omega, by omega⟩ z_r0]; omega) (by rw [z_clamp ⟨by omega, by omega⟩, Int.toNat_natCast]) (by simp [componentBytes]; omega) (by omega) (by omega) hd (fun q cA H1 hK1 hP1 hD1 hS1 => ?_)
  have hcA : cA = G.2.1 2 := Option.some.inj (((hK1.2 4 (cA, .long) rfl).2).symm.trans (hK.2 2 (G.2.1 2, .long) rfl).2)
  subst hcA
  have e9 : zW G (zAd ad sh.length q) (sh ++ [(3, N)], zcr rf sh.length, zci ia sh.length, zci lo sh.length, da) = zW G ad (sh, rf, ia, lo, da) ++ [(q, .inl (G.2.1 2, N, .inr (.inl fun _ => 0)))] := by
    rw [zW_push (ad := ad) (lo := lo) (da := da) zAd_lt hrf (fun j hj => zcr_lt hj) (fun j hj => zci_lt hj) (fun j hj => zci_lt hj) (fun _ _ => rfl), zAd_n]
    congr 3
    unfold zE zci
    simp only [if_true]
    rfl
  have kk2 := kk p l e R s m args below meth cd C A hA hE hK ad0 n0 (zAd ad sh.length q) H1 locs (cells + 1) (slots + N) la (fun c hc => (zAd_lt c (by omega)).trans (ha c hc)) (by dsimp only; rw [List.length_append]; omega) (by rw [e9]; exact hP1) (by rw [e9]; exact hD1) hS1 (zL_ad zAd_lt h1l hl) (by dsimp only; omega) (by dsimp only; omega)
  rw [List.map_cons, zcs_ad zAd_lt h1s] at kk2
  have e8 : zc G (zAd ad sh.length q) (1, (sh.length : Int)) = .ref q := by
    show Value.ref (zAd ad sh.length q ((sh.length : Int)).toNat) = _
    rw [Int.toNat_natCast, zAd_n]
  rw [e8] at kk2
  exact kk2
theorem Ev.newaD {G : zG} {M : zM} {pc pc9 : Nat} {ls st : List zSV} {sh : List (Nat × Nat)} {rf : Nat → Nat → Option Nat} {ia : Nat → Int → Int} {lo da : Nat → Int → Int} {o : Option zSV ⊕ String} {h2 : zHp} {ce sl : Nat} (n N ce1 sl1 : Nat) (hn9 : sh.length = n) (hf : zf M pc = some (.newarray .double, 2, pc9)) (hac : Cond.arrayClass .double ∈ zT) (h1l : ls.all (zOk n) = true) (h1s : st.all (zOk n) = true) (hrf : zRfOk n rf = true) (hN : N ≤ 100000) (hce : ce1 + 1 = ce) (hsl : sl1 + N = sl)
    (kk : Ev G M pc9 ls ((1, (n : Int)) :: st) (sh ++ [(4, N)], zcr rf n, zci ia n, (lo, zci da n)) (o, h2, ce1, sl1)) : Ev G M pc ls ((0, (N : Int)) :: st) (sh, rf, ia, lo, da) (o, h2, ce, sl) := by
  intro p l e R s m args below meth cd C A hA hE hK ad0 n0 ad H locs cells slots la ha hn hP hD hS hl hcs hss
  obtain ⟨hd, rfl⟩ := zf_ok hf
  subst hn9
  subst hce
  subst hsl
  dsimp only at hcs hss hn
  refine va_newa (D := G.1) (atype := .double) (ty := .double) (a0 := (N, .inr (.inr (.inr (.inl fun _ => 0))))) (N' := N) C.1 C.2.1 (C.2.2.2.2.2.2.1 _ hac) rfl hK hP hD hS hA (n := Int32.ofInt (N : Int)) (fun _ => rfl) (by rw [z_0, z_lt ⟨by omega, by omega⟩ z_r0]; omega) (by rw [z_clamp ⟨by omega, by omega⟩, Int.toNat_natCast]) (by simp [componentBytes]; omega) (by omega) (by omega) hd (fun q cA H1 hK1 hP1 hD1 hS1 => ?_)
  have hcA : cA = G.2.1 3 := Option.some.inj (((hK1.2 4 (cA, .double) rfl).2).symm.trans (hK.2 3 (G.2.1 3, .double) rfl).2)
  subst hcA
  have e9 : zW G (zAd ad sh.length q) (sh ++ [(4, N)], zcr rf sh.length, zci ia sh.length, lo, zci da sh.length) = zW G ad (sh, rf, ia, lo, da) ++ [(q, .inl (G.2.1 3, N, .inr (.inr (.inr (.inl fun _ => 0)))))] := by
    rw [zW_push (ad := ad) (lo := lo) (da := da) zAd_lt hrf (fun j hj => zcr_lt hj) (fun j hj => zci_lt hj) (fun _ _ => rfl) (fun j hj => zci_lt hj), zAd_n]
    congr 3
    unfold zE zci
    simp only [if_true]
    rfl
  have kk2 := kk p l e R s m args below meth cd C A hA hE hK ad0 n0 (zAd ad sh.length q) H1 locs (cells + 1) (slots + N) la (fun c hc => (zAd_lt c (by omega)).trans (ha c hc)) (by dsimp only; rw [List.length_append]; omega) (by rw [e9]; exact hP1) (by rw [e9]; exact hD1) hS1 (zL_ad zAd_lt h1l hl) (by dsimp only; omega) (by dsimp only; omega)
  rw [List.map_cons, zcs_ad zAd_lt h1s] at kk2
  have e8 : zc G (zAd ad sh.length q) (1, (sh.length : Int)) = .ref q := by
    show Value.ref (zAd ad sh.length q ((sh.length : Int)).toNat) = _
    rw [Int.toNat_natCast, zAd_n]
  rw [e8] at kk2
  exact kk2
/-! CONTRACTS out of 'Ev' -/
def zWs (M : zM) : List Cond := Cond.code M.1 M.2.1 M.2.2.1 M.2.2.2.1 :: zT
def zWsH (M : zM) : List Cond := Cond.codeWith M.1 M.2.1 M.2.2.1 M.2.2.2.1 M.2.2.2.2.1 :: zT
def zRm (M : zM) (ce sl : Nat) : Room := { frames := M.2.2.2.2.2.1, cells := ce, slots := sl, locals := M.2.2.2.2.2.2 }
def zPre (G : zG) (ad : Nat → Nat) (h : zHp) (as : List zSV) (sz : Nat) : Array Value → State → Prop := va_Pc (as.map (zc G ad)) (fun U => U.heap.size = sz ∧ va_P G.1 vwCl (zW G ad h) U.heap ∧ va_K G.1 vwCl (zTys G) U ∧ va_D (fun _ => True) (zW G ad h) ∧ zEnv G (va_A (zW G ad h) sz) U U.heap)
theorem lg_len : ∀ (l : List Value), (∀ v ∈ l, v.category = 1) → (lg_sl l).length = l.length
  | [], _ => rfl
  | v :: l, h => by
    have h1 := h v List.mem_cons_self
    have h2 := lg_len l (fun w hw => h w (List.mem_cons_of_mem _ hw))
    show ((if v.category = 2 then [Slot.val v, .second] else [.val v]) ++ lg_sl l).length = _
    rw [if_neg (by omega), List.length_append, h2]
    simp [Nat.add_comm]
theorem lv_args_mem : ∀ (l : List Value) (i : Nat), (∀ v ∈ l, v.category = 1) → ∀ (k : Nat) (v : Value), l[k]? = some v → (i + k, v) ∈ lv_args i l
  | [], _, _, _, _, h => by simp at h
  | v :: l, i, hc, k, u, h => by
    have h1 := hc v List.mem_cons_self
    unfold lv_args
    rw [if_neg (by omega)]
    cases k with
    | zero =>
      cases h
      exact List.mem_cons_self
    | succ k =>
      rw [List.getElem?_cons_succ] at h
      have h2 := lv_args_mem l (i + 1) (fun w hw => hc w (List.mem_cons_of_mem _ hw)) k u h
      rw [show i + (k + 1) = i + 1 + k by omega]
      exact List.mem_cons_of_mem _ h2
/-- the locals at a method's entry -/
def zIn (as : List zSV) (maxL : Nat) : List zSV := as ++ List.replicate (maxL - as.length) (9, 0)
theorem zIn_has {G : zG} {ad : Nat → Nat} {as : List zSV} {maxL : Nat} (hc : as.all (fun v => zcat v == 1) = true) (hlen : as.length ≤ maxL) : lv_has ((lg_sl (as.map (zc G ad)) ++ List.replicate (maxL - (lg_sl (as.map (zc G ad))).length) Slot.unset).toArray) maxL (zL G ad (zIn as maxL)) := by
  have hc1 : ∀ v ∈ as.map (zc G ad), v.category = 1 := by
    intro v hv
    obtain ⟨u, h1, rfl⟩ := List.mem_map.mp hv
    rw [zcat_eq]
    simpa using List.all_eq_true.mp hc u h1
  have h1 := lg_len _ hc1
  rw [List.length_map] at h1
  have hl := lv_entry (as.map (zc G ad)) (n := maxL) (by omega)
  refine lv_less hl fun q hq => ?_
  obtain ⟨w, g1, g2, g3⟩ := zL_mem.mp hq
  have g4 : as[q.1]? = some w := by
    unfold zIn at g1
    by_cases hlt : q.1 < as.length
    · rwa [List.getElem?_append_left hlt] at g1
    · rw [List.getElem?_append_right (by omega), List.getElem?_replicate] at g1
      split at g1
      · cases g1
        exact absurd rfl g2
      · cases g1
  have g5 := lv_args_mem (as.map (zc G ad)) 0 hc1 q.1 (zc G ad w) (by rw [List.getElem?_map, g4]; rfl)
  rw [Nat.zero_add, ← g3] at g5
  exact g5
theorem zMetX {G : zG} {M : zM} {l : Launch} {h : zHp} {O : zO} {ad : Nat → Nat} {as : List zSV} {sz : Nat} (hy : plainName M.1.cls = true) (hh : M.2.2.2.2.1 = []) (hst : l.stackTraces = false) (hc : as.all (fun v => zcat v == 1) = true) (hlen : as.length ≤ M.2.2.1) (k : Ev G M 0 (zIn as M.2.2.1) [] h O) :
    vx_Met l M.1 (zWs M) (zRm M O.2.2.1 O.2.2.2) (zPre G ad h as sz) (zQ G (va_A (zW G ad h) sz) ad h.1.length O) (zX G (va_A (zW G ad h) sz) ad h.1.length O) O.2.2.1 O.2.2.2 (va_A (zW G ad h) sz) := by
  refine vx_ofW (cc := M.2.1) (maxL := M.2.2.1) (ret := M.2.2.2.1) hy rfl ?_
  intro p e s m args9 below meth cd s₁ B hml ht hv
  obtain ⟨rfl, hsz, hP, hK, hD0, hE⟩ := hv
  have hts := atoms_spec (ws := zWs M) B.pre
  subst hsz
  have hD := hD0.self (sz := s.heap.size)
  have htab : cd.exceptionTable.toList = tableOf M.2.2.2.2.1 := by
    rw [hh]
    cases hx : cd.exceptionTable.toList with
    | nil => rfl
    | cons x t => exact (ht x (by rw [hx]; exact List.mem_cons_self)).elim
  rw [lg_entry_eq]
  exact k p l e (zRm M O.2.2.1 O.2.2.2) s m _ below meth cd ⟨B.exec, B.bytes, hml, B.returns, findClass_of_methodNamed B.named, B.notSynchronized, fun w hw => hts w (List.mem_cons_of_mem _ hw), htab, hst, Nat.le_refl _, Nat.le_refl _, (name_of_methodNamed B.named B.method).1⟩ _ (fun q h => Or.inr h) hE hK ad h.1.length ad s.heap [] 0 0 _ (fun _ _ => rfl) (Nat.le_refl _) hP hD va_S.rf (zIn_has hc hlen) (by simp [zRm]) (by simp [zRm])
theorem zMetH {G : zG} {M : zM} {l : Launch} {h : zHp} {O : zO} {ad : Nat → Nat} {as : List zSV} {sz : Nat} (hy : plainName M.1.cls = true) (hst : l.stackTraces = false) (hc : as.all (fun v => zcat v == 1) = true) (hlen : as.length ≤ M.2.2.1) (k : Ev G M 0 (zIn as M.2.2.1) [] h O) :
    vx_Met l M.1 (zWsH M) (zRm M O.2.2.1 O.2.2.2) (zPre G ad h as sz) (zQ G (va_A (zW G ad h) sz) ad h.1.length O) (zX G (va_A (zW G ad h) sz) ad h.1.length O) O.2.2.1 O.2.2.2 (va_A (zW G ad h) sz) := by
  refine vx_ofWH (cc := M.2.1) (maxL := M.2.2.1) (ret := M.2.2.2.1) (hh := M.2.2.2.2.1) hy rfl ?_
  intro p e s m args9 below meth cd s₁ B hml hv
  obtain ⟨rfl, hsz, hP, hK, hD0, hE⟩ := hv
  have hts := atoms_spec (ws := zWsH M) B.pre
  subst hsz
  have hD := hD0.self (sz := s.heap.size)
  have htab : cd.exceptionTable.toList = tableOf M.2.2.2.2.1 := vx_table (x := M.1) B (hts _ List.mem_cons_self)
  rw [lg_entry_eq]
  exact k p l e (zRm M O.2.2.1 O.2.2.2) s m _ below meth cd ⟨B.exec, B.bytes, hml, B.returns, findClass_of_methodNamed B.named, B.notSynchronized, fun w hw => hts w (List.mem_cons_of_mem _ hw), htab, hst, Nat.le_refl _, Nat.le_refl _, (name_of_methodNamed B.named B.method).1⟩ _ (fun q h => Or.inr h) hE hK ad h.1.length ad s.heap [] 0 0 _ (fun _ _ => rfl) (Nat.le_refl _) hP hD va_S.rf (zIn_has hc hlen) (by simp [zRm]) (by simp [zRm])
theorem zMet_of {l : Launch} {y : MethodName} {ws : List Cond} {rm : Room} {Pc : Array Value → State → Prop} {Qc : Array Value → State → Outcome → State → Prop} {XC : String → State → State → Prop} {mc ms : Nat} {free : Addr → Prop} (h : vx_Met l y ws rm Pc Qc XC mc ms free) (hx : ∀ E st t, ¬ XC E st t) : Met l y ws rm Pc Qc mc ms free := by
  intro p e ha hc hk s m args below hf happ hP hK
  obtain ⟨n, o, h1, h2, h3, hQ⟩ := h p e ha hc hk s m args below hf happ hP hK
  refine ⟨n, o, h1, h2, h3, ?_⟩
  rcases hQ with hq | ⟨q, _, E, ce, L, hX, _⟩
  · exact hq
  · exact absurd hX (hx _ _ _)
theorem zX_no {G : zG} {A : Nat → Prop} {ad0 : Nat → Nat} {n0 : Nat} {v : Option zSV} {h : zHp} {ce sl : Nat} (E : String) (st t : State) : ¬ zX G A ad0 n0 (.inl v, h, ce, sl) E st t := by
  rintro ⟨⟨ad, h1, -⟩, -⟩
  cases h1
theorem zPre_blind {G : zG} {ad : Nat → Nat} {h : zHp} {as : List zSV} {sz : Nat} : FrameBlind (zPre G ad h as sz) := by
  intro a U g mk hq
  obtain ⟨q0, q1, qP, qK, qD, qE⟩ := hq
  exact ⟨q0, q1, qP, va_K.moved (u := U) (U := U.calling g mk a) (Vm.Alike.refl U.vm) qK, qD, qE.go (U := U.calling g mk a) (fun _ _ _ => rfl) (fun _ h => h) rfl (State.WarmedH.refl U)⟩
theorem zFree {A : Nat → Prop} {ws : va_W} {H0 H : Heap} {locs : List Loc} (hD : va_D A ws) (hS : va_S A H0 H locs) (hA : ∀ q, H0.size ≤ q → A q) : ∀ q, va_A ws H.size q → A q := fun q h => h.elim (fun ⟨k, e, hk⟩ => hD.2 k _ hk) (fun h => hA q (Nat.le_trans hS.1 h))
theorem zPre_at {G : zG} {ad : Nat → Nat} {h : zHp} {as : List zSV} {A : Nat → Prop} {s : State} {H : Heap} {locs : List Loc} (hA : ∀ q, s.heap.size ≤ q → A q) (hE : zEnv G A s s.heap) (hK : va_K G.1 vwCl (zTys G) s) (hP : va_P G.1 vwCl (zW G ad h) H) (hD : va_D A (zW G ad h)) (hS : va_S A s.heap H locs) : ∀ U : State, U.heap = H → s.WarmedH U.vm → zPre G ad h as H.size (as.map (zc G ad)).toArray U := fun U hU hW => ⟨rfl, by rw [hU], by rw [hU]; exact hP, va_K.moved hW.alike hK, hD.weaken (fun _ _ _ _ => trivial), hE.go hS.2.1 (zFree hD hS hA) hU hW⟩
section ZC
variable {p : Program} {l : Launch} {e : Env} {R : Room} {s : State} {m : MethodId} {args : Array Value} {below : List Frame} {meth : Method} {cd : Code} {H : Heap} {locs : List Loc} {cells slots : Nat} {Q : State → Prop}
variable {pc : Nat} {la : Array Slot} {rest st0 : List Value} {a : Array Value} {A0 A1 : Nat → Prop} {H0 : Heap} {mc ms : Nat} {G : zG} {ad : Nat → Nat} {n : Nat} {O : zO}
theorem zCall (hr : va_Run p l e R s m args below meth cd H locs cells slots mc ms (F0 m pc la st0) rest (zQ G A1 ad n O a) A1) (hS : va_S A0 H0 H locs) (hf : ∀ q, A1 q → A0 q)
    (kk : ∀ (v : Option zSV) (ad' : Nat → Nat) (H1 : Heap) (locs1 : List Loc), O.1 = .inl v → (∀ c, c < n → ad' c = ad c) → va_P G.1 vwCl (zW G ad' O.2.1) H1 → va_D A0 (zW G ad' O.2.1) → va_S A0 H0 H1 locs1 → W p l e R s m args below meth cd H1 locs1 (cells + mc) (slots + ms) Q (F0 m (pc + 3) la ((v.map (zc G ad')).toList ++ rest))) : W p l e R s m args below meth cd H locs cells slots Q (F0 m pc la st0) := by
  intro T hT X
  obtain ⟨v, st₀, t, T', L, h0, X', hL, e1, e2, ⟨⟨v9, ad9, hv1, hv2, hP9, hD9, had9⟩, hF⟩, st⟩ := hr T hT X
  cases hv2
  obtain ⟨k1, k2, k3⟩ := vx_keep h0 e1 hS (fun q _ h => hf q h) hf hL hF
  obtain ⟨t2, a1, b1⟩ := kk v9 ad9 T'.heap (locs ++ L) hv1 had9 (by rw [e1]; exact hP9) (hD9.weaken (fun _ _ _ h => hf _ h)) k3 T' rfl X'
  exact ⟨t2, st t2 a1, b1⟩
theorem zCallT {E : String} (hr : vx_Run p l e R s m args below meth cd H locs cells slots mc ms (F0 m pc la st0) rest (zQ G A1 ad n O a) (zX G A1 ad n O) A1) (hO : O.1 = .inr E) (hS : va_S A0 H0 H locs) (hf : ∀ q, A1 q → A0 q)
    (kx : ∀ (ce : Cell) (q9 : Addr) (ad' : Nat → Nat) (H1 : Heap) (locs1 : List Loc), (∀ c, c < n → ad' c = ad c) → va_P G.1 vwCl (zW G ad' O.2.1) H1 → va_D A0 (zW G ad' O.2.1) → va_S A0 H0 H1 locs1 → H1[q9]? = some ce → ce.vm = .none → s.vm.findClass E = some ce.cls → vx_W p l e R s m args below meth cd H1 locs1 (cells + mc) (slots + ms) Q (F0 m pc la rest) q9) : W p l e R s m args below meth cd H locs cells slots Q (F0 m pc la st0) := by
  intro T hT X
  rcases hr T hT X with ⟨v, st₀, t, T', L, h0, X', hL, e1, e2, ⟨⟨v9, ad9, hv1, -⟩, -⟩, st⟩ | ⟨q, st₀, t, T', L, E9, ce, h0, X', hL, e1, e2, ⟨⟨ad9, hv1, hP9, hD9, had9⟩, hF⟩, hce, hcv, hcl, st⟩
  · rw [hO] at hv1
    cases hv1
  · rw [hO] at hv1
    cases hv1
    obtain ⟨k1, k2, k3⟩ := vx_keep h0 e1 hS (fun q _ h => hf q h) hf hL hF
    obtain ⟨t2, a1, b1⟩ := kx ce q ad9 T'.heap (locs ++ L) had9 (by rw [e1]; exact hP9) (hD9.weaken (fun _ _ _ h => hf _ h)) k3 (by rw [e1]; exact hce) hcv hcl T' rfl X'
    exact ⟨t2, st.trans a1, b1⟩
end ZC
/-- a call's link: the callee's code, how many parameters, room -/
def zLk (M y : zM) (n : Nat) : Prop := Cond.initialized y.1.cls ∈ zT ∧ plainName y.1.cls = true ∧ (y.1.cls ≠ "java/lang/invoke/MethodHandle" ∧ y.1.cls ≠ "java/lang/invoke/VarHandle") ∧ (parseMethodDescriptor y.1.desc).map (fun d => d.parameters.length) = some n ∧ y.2.2.2.2.2.1 + 1 ≤ M.2.2.2.2.2.1 ∧ 8 + (y.2.2.1 + 11) + y.2.2.2.2.2.2 ≤ M.2.2.2.2.2.2
def zLkC (y : zM) : Prop := y.2.2.2.2.1 = [] ∧ Cond.code y.1 y.2.1 y.2.2.1 y.2.2.2.1 ∈ zT
def zLkV (M : zM) (idx : Nat) (y : zM) (n : Nat) : Prop := zLk M y n ∧ zLkC y ∧ Cond.methodLink M.1.cls idx y.1 ∈ zT ∧ Cond.instanceMethod y.1 ∈ zT ∧ Cond.selects y.1.cls y.1 y.1 ∈ zT
def zLkS (M : zM) (idx : Nat) (y : zM) (n : Nat) : Prop := zLk M y n ∧ zLkC y ∧ Cond.methodLink M.1.cls idx y.1 ∈ zT ∧ Cond.static y.1 ∈ zT
def zLkSN (M : zM) (idx : Nat) (y : zM) (n : Nat) : Prop := zLk M y n ∧ zLkC y ∧ (∃ host, Cond.methodLinkNest M.1.cls idx y.1 host ∈ zNw) ∧ Cond.static y.1 ∈ zT
def zLkI (M : zM) (idx : Nat) (y : zM) (n : Nat) : Prop := zLk M y n ∧ zLkC y ∧ Cond.methodLink M.1.cls idx y.1 ∈ zT ∧ Cond.instanceMethod y.1 ∈ zT ∧ y.1.name = "<init>" ∧ y.2.2.2.1 = none
def zLkIN (M : zM) (idx : Nat) (y : zM) (n : Nat) : Prop := zLk M y n ∧ zLkC y ∧ (∃ host, Cond.methodLinkNest M.1.cls idx y.1 host ∈ zNw) ∧ Cond.instanceMethod y.1 ∈ zT ∧ y.1.name = "<init>" ∧ y.2.2.2.1 = none
def zLkH (M : zM) (idx : Nat) (y : zM) (n : Nat) : Prop := zLk M y n ∧ Cond.codeWith y.1 y.2.1 y.2.2.1 y.2.2.2.1 y.2.2.2.2.1 ∈ zT ∧ Cond.methodLink M.1.cls idx y.1 ∈ zT ∧ Cond.static y.1 ∈ zT
theorem zWs_good {y : zM} {s : State} {args : Array Value} (hc : Cond.code y.1 y.2.1 y.2.2.1 y.2.2.2.1 ∈ zT) (hts : ∀ w ∈ zT, w.before args s = true) : ∀ w ∈ zWs y, ∀ (a' : Array Value) (U : State), s.WarmedH U.vm → w.before a' U = true := fun w hw a' U hW => by
  have h : w ∈ zT := (List.mem_cons.mp hw).elim (fun e => by rw [e]; exact hc) id
  exact word_at hW (good_of_word (zT_good h)) (hts w h)
theorem zWsH_good {y : zM} {s : State} {args : Array Value} (hc : Cond.codeWith y.1 y.2.1 y.2.2.1 y.2.2.2.1 y.2.2.2.2.1 ∈ zT) (hts : ∀ w ∈ zT, w.before args s = true) : ∀ w ∈ zWsH y, ∀ (a' : Array Value) (U : State), s.WarmedH U.vm → w.before a' U = true := fun w hw a' U hW => by
  have h : w ∈ zT := (List.mem_cons.mp hw).elim (fun e => by rw [e]; exact hc) id
  exact word_at hW (good_of_word (zT_good h)) (hts w h)
theorem zN_of {y : zM} {n : Nat} (h : (parseMethodDescriptor y.1.desc).map (fun d => d.parameters.length) = some n) : ∀ sig, parseMethodDescriptor y.1.desc = some sig → n = sig.parameters.length := fun sig h1 => by
  rw [h1] at h
  exact (Option.some.inj h).symm
theorem Ev.callV {G : zG} {M y : zM} {pc pc9 : Nat} {ls rest : List zSV} {sh sh1 : List (Nat × Nat)} {rf rf1 : Nat → Nat → Option Nat} {ia ia1 : Nat → Int → Int} {w w1 : (Nat → Int → Int) × (Nat → Int → Int)} {o : Option zSV ⊕ String} {h2 : zHp} {ce sl idx n : Nat} {v : Option zSV} {ce2 sl2 : Nat} (c : Nat) (ce1 sl1 : Nat) (as : List zSV) (hf : zf M pc = some (.invokevirtual idx, 3, pc9)) (hl9 : zLkV M idx y n) (hn9 : as.length = n) (ci : Nat) (TT : u_T) (NN : Nat) (hcl : vwCl[ci]? = some (y.1.cls, TT, NN)) (hc : sh[c]? = some (0, ci)) (hac : ((1, (c : Int)) :: as).all (fun v => zcat v == 1) = true) (hal : ((1, (c : Int)) :: as).length ≤ y.2.2.1) (hrc : (rest.map zcat).sum ≤ 8) (h1l : ls.all (zOk sh.length) = true) (h1r : rest.all (zOk sh.length) = true) (hgr : Nat.ble sh.length sh1.length = true) (hce : ce1 + ce2 = ce) (hsl : sl1 + sl2 = sl)
    (ev : Ev G y 0 (zIn ((1, (c : Int)) :: as) y.2.2.1) [] (sh, rf, ia, w) (.inl v, (sh1, rf1, ia1, w1), ce1, sl1)) (kk : Ev G M pc9 ls (v.toList ++ rest) (sh1, rf1, ia1, w1) (o, h2, ce2, sl2)) : Ev G M pc ls (as.reverse ++ (1, (c : Int)) :: rest) (sh, rf, ia, w) (o, h2, ce, sl) := by
  intro p l e R s m args below meth cd C A hA hE hK ad0 n0 ad H locs cells slots la ha hn hP hD hS hl hcs hss
  obtain ⟨hd, rfl⟩ := zf_ok hf
  subst hce
  subst hsl
  dsimp only at hcs hss hn
  obtain ⟨hini, hpl, hmh, hpar, hfr, hlo⟩ := hl9.1
  have hRun := va_runV (As := as.map (zc G ad)) (b := ad c) (rest := rest.map (zc G ad)) (g := F0 m pc la (List.map (zc G ad) (as.reverse ++ (1, (c : Int)) :: rest))) (R := R) (cells := cells) (slots := slots) (e := e) (below := below) (meth := meth) (locs := locs) (p := p) (H := H) ⟨C.1, C.2.1, C.2.2.1, C.2.2.2.2.1, C.2.2.2.2.2.2.1⟩ (zMet_of (zMetX (sz := H.size) (ad := ad) hpl hl9.2.1.1 C.2.2.2.2.2.2.2.2.1 hac hal ev) zX_no) (C := y.1.cls) ⟨⟨rfl, rfl, Nat.le_trans hfr C.2.2.2.2.2.2.2.2.2.1, Nat.le_trans hlo C.2.2.2.2.2.2.2.2.2.2.1, zWs_good hl9.2.1.2 C.2.2.2.2.2.2.1, List.mem_cons_self, C.2.2.2.2.2.2.1 _ hl9.2.1.2, C.2.2.2.2.2.2.1 _ hini, hmh, zN_of hpar, C.2.2.2.2.2.2.1 _ hl9.2.2.1⟩, C.2.2.2.2.2.2.1 _ hl9.2.2.2.1, C.2.2.2.2.2.2.1 _ hl9.2.2.2.2⟩ ⟨zPre_blind, va_recv (ci := ci) (q := (y.1.cls, TT, NN)) hK hP hcl (zW_obj hc), zPre_at hA hE hK hP hD hS⟩ rfl (by rw [List.length_map]; exact hn9) hl.1 (by show List.map (zc G ad) (as.reverse ++ (1, (c : Int)) :: rest) = (as.map (zc G ad)).reverse ++ .ref (ad c) :: rest.map (zc G ad); rw [List.map_append, List.map_reverse]; rfl) (lv_room (by rw [zcats]; exact hrc)) hd ⟨by dsimp only; omega, by dsimp only; omega⟩
  have hf9 := zFree hD hS hA
  refine zCall hRun hS hf9 (fun v9 ad9 H1 locs1 hv1 had9 hP9 hD9 hS9 => ?_)
  cases hv1
  have kk2 := kk p l e R s m args below meth cd C A hA hE hK ad0 n0 ad9 H1 locs1 (cells + ce1) (slots + sl1) la (fun c hc => (had9 c (Nat.lt_of_lt_of_le hc hn)).trans (ha c hc)) (by dsimp only; have := Nat.le_of_ble_eq_true hgr; omega) hP9 hD9 hS9 (zL_ad had9 h1l hl) (by dsimp only; omega) (by dsimp only; omega)
  rw [List.map_append, zcs_ad had9 h1r] at kk2
  have e8 : v.toList.map (zc G ad9) = (v.map (zc G ad9)).toList := by cases v <;> rfl
  rw [e8] at kk2
  exact kk2
theorem Ev.callS {G : zG} {M y : zM} {pc pc9 : Nat} {ls rest : List zSV} {sh sh1 : List (Nat × Nat)} {rf rf1 : Nat → Nat → Option Nat} {ia ia1 : Nat → Int → Int} {w w1 : (Nat → Int → Int) × (Nat → Int → Int)} {o : Option zSV ⊕ String} {h2 : zHp} {ce sl idx n : Nat} {v : Option zSV} {ce2 sl2 : Nat} (ce1 sl1 : Nat) (as : List zSV) (hf : zf M pc = some (.invokestatic idx, 3, pc9)) (hl9 : zLkS M idx y n) (hn9 : as.length = n) (hac : as.all (fun v => zcat v == 1) = true) (hal : as.length ≤ y.2.2.1) (hrc : (rest.map zcat).sum ≤ 8) (h1l : ls.all (zOk sh.length) = true) (h1r : rest.all (zOk sh.length) = true) (hgr : Nat.ble sh.length sh1.length = true) (hce : ce1 + ce2 = ce) (hsl : sl1 + sl2 = sl)
    (ev : Ev G y 0 (zIn as y.2.2.1) [] (sh, rf, ia, w) (.inl v, (sh1, rf1, ia1, w1), ce1, sl1)) (kk : Ev G M pc9 ls (v.toList ++ rest) (sh1, rf1, ia1, w1) (o, h2, ce2, sl2)) : Ev G M pc ls (as.reverse ++ rest) (sh, rf, ia, w) (o, h2, ce, sl) := by
  intro p l e R s m args below meth cd C A hA hE hK ad0 n0 ad H locs cells slots la ha hn hP hD hS hl hcs hss
  obtain ⟨hd, rfl⟩ := zf_ok hf
  subst hce
  subst hsl
  dsimp only at hcs hss hn
  obtain ⟨hini, hpl, hmh, hpar, hfr, hlo⟩ := hl9.1
  have hRun := va_runS (As := as.map (zc G ad)) (rest := rest.map (zc G ad)) (g := F0 m pc la (List.map (zc G ad) (as.reverse ++ rest))) (R := R) (cells := cells) (slots := slots) (e := e) (below := below) (meth := meth) (locs := locs) (p := p) (H := H) ⟨C.1, C.2.1, C.2.2.1, C.2.2.2.2.1, C.2.2.2.2.2.2.1⟩ (zMet_of (zMetX (sz := H.size) (ad := ad) hpl hl9.2.1.1 C.2.2.2.2.2.2.2.2.1 hac hal ev) zX_no) ⟨⟨rfl, rfl, Nat.le_trans hfr C.2.2.2.2.2.2.2.2.2.1, Nat.le_trans hlo C.2.2.2.2.2.2.2.2.2.2.1, zWs_good hl9.2.1.2 C.2.2.2.2.2.2.1, List.mem_cons_self, C.2.2.2.2.2.2.1 _ hl9.2.1.2, C.2.2.2.2.2.2.1 _ hini, hmh, zN_of hpar, C.2.2.2.2.2.2.1 _ hl9.2.2.1⟩, C.2.2.2.2.2.2.1 _ hl9.2.2.2⟩ ⟨zPre_blind, zPre_at hA hE hK hP hD hS⟩ rfl (by rw [List.length_map]; exact hn9) hl.1 (by show List.map (zc G ad) (as.reverse ++ rest) = (as.map (zc G ad)).reverse ++ rest.map (zc G ad); rw [List.map_append, List.map_reverse]) (lv_room (by rw [zcats]; exact hrc)) hd ⟨by dsimp only; omega, by dsimp only; omega⟩
  have hf9 := zFree hD hS hA
  refine zCall hRun hS hf9 (fun v9 ad9 H1 locs1 hv1 had9 hP9 hD9 hS9 => ?_)
  cases hv1
  have kk2 := kk p l e R s m args below meth cd C A hA hE hK ad0 n0 ad9 H1 locs1 (cells + ce1) (slots + sl1) la (fun c hc => (had9 c (Nat.lt_of_lt_of_le hc hn)).trans (ha c hc)) (by dsimp only; have := Nat.le_of_ble_eq_true hgr; omega) hP9 hD9 hS9 (zL_ad had9 h1l hl) (by dsimp only; omega) (by dsimp only; omega)
  rw [List.map_append, zcs_ad had9 h1r] at kk2
  have e8 : v.toList.map (zc G ad9) = (v.map (zc G ad9)).toList := by cases v <;> rfl
  rw [e8] at kk2
  exact kk2
theorem Ev.callSN {G : zG} {M y : zM} {pc pc9 : Nat} {ls rest : List zSV} {sh sh1 : List (Nat × Nat)} {rf rf1 : Nat → Nat → Option Nat} {ia ia1 : Nat → Int → Int} {w w1 : (Nat → Int → Int) × (Nat → Int → Int)} {o : Option zSV ⊕ String} {h2 : zHp} {ce sl idx n : Nat} {v : Option zSV} {ce2 sl2 : Nat} (ce1 sl1 : Nat) (as : List zSV) (hf : zf M pc = some (.invokestatic idx, 3, pc9)) (hl9 : zLkSN M idx y n) (hn9 : as.length = n) (hac : as.all (fun v => zcat v == 1) = true) (hal : as.length ≤ y.2.2.1) (hrc : (rest.map zcat).sum ≤ 8) (h1l : ls.all (zOk sh.length) = true) (h1r : rest.all (zOk sh.length) = true) (hgr : Nat.ble sh.length sh1.length = true) (hce : ce1 + ce2 = ce) (hsl : sl1 + sl2 = sl)
    (ev : Ev G y 0 (zIn as y.2.2.1) [] (sh, rf, ia, w) (.inl v, (sh1, rf1, ia1, w1), ce1, sl1)) (kk : Ev G M pc9 ls (v.toList ++ rest) (sh1, rf1, ia1, w1) (o, h2, ce2, sl2)) : Ev G M pc ls (as.reverse ++ rest) (sh, rf, ia, w) (o, h2, ce, sl) := by
  intro p l e R s m args below meth cd C A hA hE hK ad0 n0 ad H locs cells slots la ha hn hP hD hS hl hcs hss
  obtain ⟨hd, rfl⟩ := zf_ok hf
  subst hce
  subst hsl
  dsimp only at hcs hss hn
  obtain ⟨hini, hpl, hmh, hpar, hfr, hlo⟩ := hl9.1
  obtain ⟨host, hnst⟩ := hl9.2.2.1
  have hRun := va_runSN (As := as.map (zc G ad)) (rest := rest.map (zc G ad)) (g := F0 m pc la (List.map (zc G ad) (as.reverse ++ rest))) (R := R) (cells := cells) (slots := slots) (e := e) (below := below) (meth := meth) (locs := locs) (p := p) (H := H) ⟨C.1, C.2.1, C.2.2.1, C.2.2.2.2.1, C.2.2.2.2.2.2.1⟩ (zMet_of (zMetX (sz := H.size) (ad := ad) hpl hl9.2.1.1 C.2.2.2.2.2.2.2.2.1 hac hal ev) zX_no) ⟨⟨⟨rfl, rfl, Nat.le_trans hfr C.2.2.2.2.2.2.2.2.2.1, Nat.le_trans hlo C.2.2.2.2.2.2.2.2.2.2.1, zWs_good hl9.2.1.2 C.2.2.2.2.2.2.1, List.mem_cons_self⟩, C.2.2.2.2.2.2.1 _ hl9.2.1.2, C.2.2.2.2.2.2.1 _ hini, hmh, zN_of hpar, va_Nw.use rfl (hE.1 _ hnst)⟩, C.2.2.2.2.2.2.1 _ hl9.2.2.2, trivial⟩ ⟨zPre_blind, zPre_at hA hE hK hP hD hS⟩ rfl (by rw [List.length_map]; exact hn9) hl.1 (by show List.map (zc G ad) (as.reverse ++ rest) = (as.map (zc G ad)).reverse ++ rest.map (zc G ad); rw [List.map_append, List.map_reverse]) (lv_room (by rw [zcats]; exact hrc)) hd ⟨by dsimp only; omega, by dsimp only; omega⟩
  have hf9 := zFree hD hS hA
  refine zCall hRun hS hf9 (fun v9 ad9 H1 locs1 hv1 had9 hP9 hD9 hS9 => ?_)
  cases hv1
  have kk2 := kk p l e R s m args below meth cd C A hA hE hK ad0 n0 ad9 H1 locs1 (cells + ce1) (slots + sl1) la (fun c hc => (had9 c (Nat.lt_of_lt_of_le hc hn)).trans (ha c hc)) (by dsimp only; have := Nat.le_of_ble_eq_true hgr; omega) hP9 hD9 hS9 (zL_ad had9 h1l hl) (by dsimp only; omega) (by dsimp only; omega)
  rw [List.map_append, zcs_ad had9 h1r] at kk2
  have e8 : v.toList.map (zc G ad9) = (v.map (zc G ad9)).toList := by cases v <;> rfl
  rw [e8] at kk2
  exact kk2
theorem Ev.callI {G : zG} {M y : zM} {pc pc9 : Nat} {ls rest : List zSV} {sh sh1 : List (Nat × Nat)} {rf rf1 : Nat → Nat → Option Nat} {ia ia1 : Nat → Int → Int} {w w1 : (Nat → Int → Int) × (Nat → Int → Int)} {o : Option zSV ⊕ String} {h2 : zHp} {ce sl idx n : Nat} {v : Option zSV} {ce2 sl2 : Nat} (c : Nat) (ce1 sl1 : Nat) (as : List zSV) (hf : zf M pc = some (.invokespecial idx, 3, pc9)) (hl9 : zLkI M idx y n) (hn9 : as.length = n) (hac : ((1, (c : Int)) :: as).all (fun v => zcat v == 1) = true) (hal : ((1, (c : Int)) :: as).length ≤ y.2.2.1) (hrc : (rest.map zcat).sum ≤ 8) (h1l : ls.all (zOk sh.length) = true) (h1r : rest.all (zOk sh.length) = true) (hgr : Nat.ble sh.length sh1.length = true) (hce : ce1 + ce2 = ce) (hsl : sl1 + sl2 = sl)
    (ev : Ev G y 0 (zIn ((1, (c : Int)) :: as) y.2.2.1) [] (sh, rf, ia, w) (.inl v, (sh1, rf1, ia1, w1), ce1, sl1)) (kk : Ev G M pc9 ls (v.toList ++ rest) (sh1, rf1, ia1, w1) (o, h2, ce2, sl2)) : Ev G M pc ls (as.reverse ++ (1, (c : Int)) :: rest) (sh, rf, ia, w) (o, h2, ce, sl) := by
  intro p l e R s m args below meth cd C A hA hE hK ad0 n0 ad H locs cells slots la ha hn hP hD hS hl hcs hss
  obtain ⟨hd, rfl⟩ := zf_ok hf
  subst hce
  subst hsl
  dsimp only at hcs hss hn
  obtain ⟨hini, hpl, hmh, hpar, hfr, hlo⟩ := hl9.1
  have hrn := hl9.2.2.2.2.2
  have hcb := hl9.2.1.2
  have hgd := zWs_good hcb C.2.2.2.2.2.2.1
  have hin0 : Cond.code y.1 y.2.1 y.2.2.1 y.2.2.2.1 ∈ zWs y := List.mem_cons_self
  have hcb2 := C.2.2.2.2.2.2.1 _ hcb
  rw [hrn] at hin0 hcb2
  have hRun := va_runI (As := as.map (zc G ad)) (b := ad c) (rest := rest.map (zc G ad)) (g := F0 m pc la (List.map (zc G ad) (as.reverse ++ (1, (c : Int)) :: rest))) (R := R) (cells := cells) (slots := slots) (e := e) (below := below) (meth := meth) (locs := locs) (p := p) (H := H) ⟨C.1, C.2.1, C.2.2.1, C.2.2.2.2.1, C.2.2.2.2.2.2.1⟩ (zMet_of (zMetX (sz := H.size) (ad := ad) hpl hl9.2.1.1 C.2.2.2.2.2.2.2.2.1 hac hal ev) zX_no) ⟨⟨rfl, rfl, Nat.le_trans hfr C.2.2.2.2.2.2.2.2.2.1, Nat.le_trans hlo C.2.2.2.2.2.2.2.2.2.2.1, hgd, hin0, hcb2, C.2.2.2.2.2.2.1 _ hini, hmh, zN_of hpar, C.2.2.2.2.2.2.1 _ hl9.2.2.1⟩, hl9.2.2.2.2.1, C.2.2.2.2.2.2.1 _ hl9.2.2.2.1⟩ ⟨zPre_blind, zPre_at hA hE hK hP hD hS⟩ rfl (by rw [List.length_map]; exact hn9) hl.1 (by show List.map (zc G ad) (as.reverse ++ (1, (c : Int)) :: rest) = (as.map (zc G ad)).reverse ++ .ref (ad c) :: rest.map (zc G ad); rw [List.map_append, List.map_reverse]; rfl) (lv_room (by rw [zcats]; exact hrc)) hd ⟨by dsimp only; omega, by dsimp only; omega⟩
  have hf9 := zFree hD hS hA
  refine zCall hRun hS hf9 (fun v9 ad9 H1 locs1 hv1 had9 hP9 hD9 hS9 => ?_)
  cases hv1
  have kk2 := kk p l e R s m args below meth cd C A hA hE hK ad0 n0 ad9 H1 locs1 (cells + ce1) (slots + sl1) la (fun c hc => (had9 c (Nat.lt_of_lt_of_le hc hn)).trans (ha c hc)) (by dsimp only; have := Nat.le_of_ble_eq_true hgr; omega) hP9 hD9 hS9 (zL_ad had9 h1l hl) (by dsimp only; omega) (by dsimp only; omega)
  rw [List.map_append, zcs_ad had9 h1r] at kk2
  have e8 : v.toList.map (zc G ad9) = (v.map (zc G ad9)).toList := by cases v <;> rfl
  rw [e8] at kk2
  exact kk2
theorem Ev.callIN {G : zG} {M y : zM} {pc pc9 : Nat} {ls rest : List zSV} {sh sh1 : List (Nat × Nat)} {rf rf1 : Nat → Nat → Option Nat} {ia ia1 : Nat → Int → Int} {w w1 : (Nat → Int → Int) × (Nat → Int → Int)} {o : Option zSV ⊕ String} {h2 : zHp} {ce sl idx n : Nat} {v : Option zSV} {ce2 sl2 : Nat} (c : Nat) (ce1 sl1 : Nat) (as : List zSV) (hf : zf M pc = some (.invokespecial idx, 3, pc9)) (hl9 : zLkIN M idx y n) (hn9 : as.length = n) (hac : ((1, (c : Int)) :: as).all (fun v => zcat v == 1) = true) (hal : ((1, (c : Int)) :: as).length ≤ y.2.2.1) (hrc : (rest.map zcat).sum ≤ 8) (h1l : ls.all (zOk sh.length) = true) (h1r : rest.all (zOk sh.length) = true) (hgr : Nat.ble sh.length sh1.length = true) (hce : ce1 + ce2 = ce) (hsl : sl1 + sl2 = sl)
    (ev : Ev G y 0 (zIn ((1, (c : Int)) :: as) y.2.2.1) [] (sh, rf, ia, w) (.inl v, (sh1, rf1, ia1, w1), ce1, sl1)) (kk : Ev G M pc9 ls (v.toList ++ rest) (sh1, rf1, ia1, w1) (o, h2, ce2, sl2)) : Ev G M pc ls (as.reverse ++ (1, (c : Int)) :: rest) (sh, rf, ia, w) (o, h2, ce, sl) := by
  intro p l e R s m args below meth cd C A hA hE hK ad0 n0 ad H locs cells slots la ha hn hP hD hS hl hcs hss
  obtain ⟨hd, rfl⟩ := zf_ok hf
  subst hce
  subst hsl
  dsimp only at hcs hss hn
  obtain ⟨hini, hpl, hmh, hpar, hfr, hlo⟩ := hl9.1
  obtain ⟨host, hnst⟩ := hl9.2.2.1
  have hrn := hl9.2.2.2.2.2
  have hcb := hl9.2.1.2
  have hgd := zWs_good hcb C.2.2.2.2.2.2.1
  have hin0 : Cond.code y.1 y.2.1 y.2.2.1 y.2.2.2.1 ∈ zWs y := List.mem_cons_self
  have hcb2 := C.2.2.2.2.2.2.1 _ hcb
  rw [hrn] at hin0 hcb2
  have hRun := va_runIN (As := as.map (zc G ad)) (b := ad c) (rest := rest.map (zc G ad)) (g := F0 m pc la (List.map (zc G ad) (as.reverse ++ (1, (c : Int)) :: rest))) (R := R) (cells := cells) (slots := slots) (e := e) (below := below) (meth := meth) (locs := locs) (p := p) (H := H) ⟨C.1, C.2.1, C.2.2.1, C.2.2.2.2.1, C.2.2.2.2.2.2.1⟩ (zMet_of (zMetX (sz := H.size) (ad := ad) hpl hl9.2.1.1 C.2.2.2.2.2.2.2.2.1 hac hal ev) zX_no) ⟨⟨⟨rfl, rfl, Nat.le_trans hfr C.2.2.2.2.2.2.2.2.2.1, Nat.le_trans hlo C.2.2.2.2.2.2.2.2.2.2.1, hgd, hin0⟩, hcb2, C.2.2.2.2.2.2.1 _ hini, hmh, zN_of hpar, va_Nw.use rfl (hE.1 _ hnst)⟩, hl9.2.2.2.2.1, C.2.2.2.2.2.2.1 _ hl9.2.2.2.1⟩ ⟨zPre_blind, zPre_at hA hE hK hP hD hS⟩ rfl (by rw [List.length_map]; exact hn9) hl.1 (by show List.map (zc G ad) (as.reverse ++ (1, (c : Int)) :: rest) = (as.map (zc G ad)).reverse ++ .ref (ad c) :: rest.map (zc G ad); rw [List.map_append, List.map_reverse]; rfl) (lv_room (by rw [zcats]; exact hrc)) hd ⟨by dsimp only; omega, by dsimp only; omega⟩
  have hf9 := zFree hD hS hA
  refine zCall hRun hS hf9 (fun v9 ad9 H1 locs1 hv1 had9 hP9 hD9 hS9 => ?_)
  cases hv1
  have kk2 := kk p l e R s m args below meth cd C A hA hE hK ad0 n0 ad9 H1 locs1 (cells + ce1) (slots + sl1) la (fun c hc => (had9 c (Nat.lt_of_lt_of_le hc hn)).trans (ha c hc)) (by dsimp only; have := Nat.le_of_ble_eq_true hgr; omega) hP9 hD9 hS9 (zL_ad had9 h1l hl) (by dsimp only; omega) (by dsimp only; omega)
  rw [List.map_append, zcs_ad had9 h1r] at kk2
  have e8 : v.toList.map (zc G ad9) = (v.map (zc G ad9)).toList := by cases v <;> rfl
  rw [e8] at kk2
  exact kk2
theorem Ev.callH {G : zG} {M y : zM} {pc pc9 : Nat} {ls rest : List zSV} {sh sh1 : List (Nat × Nat)} {rf rf1 : Nat → Nat → Option Nat} {ia ia1 : Nat → Int → Int} {w w1 : (Nat → Int → Int) × (Nat → Int → Int)} {o : Option zSV ⊕ String} {h2 : zHp} {ce sl idx n : Nat} {v : Option zSV} {ce2 sl2 : Nat} (ce1 sl1 : Nat) (as : List zSV) (hf : zf M pc = some (.invokestatic idx, 3, pc9)) (hl9 : zLkH M idx y n) (hn9 : as.length = n) (hac : as.all (fun v => zcat v == 1) = true) (hal : as.length ≤ y.2.2.1) (hrc : (rest.map zcat).sum ≤ 8) (h1l : ls.all (zOk sh.length) = true) (h1r : rest.all (zOk sh.length) = true) (hgr : Nat.ble sh.length sh1.length = true) (hce : ce1 + ce2 = ce) (hsl : sl1 + sl2 = sl)
    (ev : Ev G y 0 (zIn as y.2.2.1) [] (sh, rf, ia, w) (.inl v, (sh1, rf1, ia1, w1), ce1, sl1)) (kk : Ev G M pc9 ls (v.toList ++ rest) (sh1, rf1, ia1, w1) (o, h2, ce2, sl2)) : Ev G M pc ls (as.reverse ++ rest) (sh, rf, ia, w) (o, h2, ce, sl) := by
  intro p l e R s m args below meth cd C A hA hE hK ad0 n0 ad H locs cells slots la ha hn hP hD hS hl hcs hss
  obtain ⟨hd, rfl⟩ := zf_ok hf
  subst hce
  subst hsl
  dsimp only at hcs hss hn
  obtain ⟨hini, hpl, hmh, hpar, hfr, hlo⟩ := hl9.1
  have hRun := vx_runSW (hh := y.2.2.2.2.1) (As := as.map (zc G ad)) (rest := rest.map (zc G ad)) (g := F0 m pc la (List.map (zc G ad) (as.reverse ++ rest))) (R := R) (cells := cells) (slots := slots) (e := e) (below := below) (meth := meth) (locs := locs) (p := p) (H := H) ⟨C.1, C.2.1, C.2.2.1, C.2.2.2.2.1, C.2.2.2.2.2.2.1⟩ (zMet_of (zMetH (sz := H.size) (ad := ad) hpl C.2.2.2.2.2.2.2.2.1 hac hal ev) zX_no) ⟨⟨rfl, rfl, Nat.le_trans hfr C.2.2.2.2.2.2.2.2.2.1, Nat.le_trans hlo C.2.2.2.2.2.2.2.2.2.2.1, zWsH_good hl9.2.1 C.2.2.2.2.2.2.1, List.mem_cons_self⟩, C.2.2.2.2.2.2.1 _ hl9.2.1, C.2.2.2.2.2.2.1 _ hini, hmh, zN_of hpar, C.2.2.2.2.2.2.1 _ hl9.2.2.1, C.2.2.2.2.2.2.1 _ hl9.2.2.2⟩ ⟨zPre_blind, zPre_at hA hE hK hP hD hS⟩ rfl (by rw [List.length_map]; exact hn9) hl.1 (by show List.map (zc G ad) (as.reverse ++ rest) = (as.map (zc G ad)).reverse ++ rest.map (zc G ad); rw [List.map_append, List.map_reverse]) (lv_room (by rw [zcats]; exact hrc)) hd ⟨by dsimp only; omega, by dsimp only; omega⟩
  have hf9 := zFree hD hS hA
  refine zCall hRun hS hf9 (fun v9 ad9 H1 locs1 hv1 had9 hP9 hD9 hS9 => ?_)
  cases hv1
  have kk2 := kk p l e R s m args below meth cd C A hA hE hK ad0 n0 ad9 H1 locs1 (cells + ce1) (slots + sl1) la (fun c hc => (had9 c (Nat.lt_of_lt_of_le hc hn)).trans (ha c hc)) (by dsimp only; have := Nat.le_of_ble_eq_true hgr; omega) hP9 hD9 hS9 (zL_ad had9 h1l hl) (by dsimp only; omega) (by dsimp only; omega)
  rw [List.map_append, zcs_ad had9 h1r] at kk2
  have e8 : v.toList.map (zc G ad9) = (v.map (zc G ad9)).toList := by cases v <;> rfl
  rw [e8] at kk2
  exact kk2
