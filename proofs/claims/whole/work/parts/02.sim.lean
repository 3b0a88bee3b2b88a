/-! THE SMALL MACHINE: values by tags, cells by their numbers, ints as Int; 'Ev' says of a method's body, from a place on, what comes of it -/
/-- a value: (0,x) an int; (1,c) the cell c of ours; (2,i) the text constant i; (3,j) the old array j; (4,x) a long; (5,b) a double's bits; (6,b) a float's bits; (7,i) the bytes of the text i; (8,_) the JDK's formatter; (9,_) nothing known -/
abbrev zSV : Type := Nat × Int
/-- the shape (kind, size or class), references, ints, longs, doubles -/
abbrev zHp : Type := List (Nat × Nat) × (Nat → Nat → Option Nat) × (Nat → Int → Int) × (Nat → Int → Int) × (Nat → Int → Int)
/-- an outcome: what is returned, or the class that is thrown; the heap then; how many cells and slots were made -/
abbrev zO : Type := (Option zSV ⊕ String) × zHp × Nat × Nat
/-- a method: its name, bytes, locals, return type, handlers, frames and locals that its calls need -/
abbrev zM : Type := MethodName × ByteArray × Nat × Option FieldType × List (Nat × Nat × Nat × Nat) × Nat × Nat
/-- class numbers; the array classes; the text constants and their byte arrays; the old arrays; what these hold -/
abbrev zG : Type := va_G × (Nat → ClassId) × (Nat → Nat) × (Nat → Nat) × (Nat → Nat) × (Nat → Nat × (Int → Int)) × Option Nat
def zT : List Cond := lw_tbl.filter goodWord
def zNwOk : Cond → Bool
  | .fieldLinkNest .. => true
  | .methodLinkNest .. => true
  | .castable .. => true
  | .declares .. => true
  | _ => false
def zNw : List Cond := lw_tbl.filter zNwOk
theorem zT_good {w : Cond} (h : w ∈ zT) : goodWord w = true := (List.mem_filter.mp h).2
theorem zT_in {w : Cond} (i : Nat) (h : lw_tbl[i]? = some w) (hg : goodWord w = true) : w ∈ zT := List.mem_filter.mpr ⟨List.mem_of_getElem? h, hg⟩
theorem zNw_in {w : Cond} (i : Nat) (h : lw_tbl[i]? = some w) (hg : zNwOk w = true) : w ∈ zNw := List.mem_filter.mpr ⟨List.mem_of_getElem? h, hg⟩
def zf (M : zM) (pc : Nat) : Option (Instr × Nat × Nat) := match decode M.2.1 pc with
  | .ok (i, n) => some (i, n, pc + n)
  | .error _ => none
theorem zf_ok {M : zM} {pc n pc' : Nat} {i : Instr} (h : zf M pc = some (i, n, pc')) : decode M.2.1 pc = .ok (i, n) ∧ pc' = pc + n := by
  unfold zf at h
  split at h
  · rename_i i' n' h1
    cases h
    exact ⟨h1, rfl⟩
  · cases h
def zc (G : zG) (ad : Nat → Nat) (v : zSV) : Value := match v with
  | (0, x) => .int (Int32.ofInt x)
  | (1, k) => .ref (ad k.toNat)
  | (2, k) => .ref (G.2.2.1 k.toNat)
  | (3, k) => .ref (G.2.2.2.2.1 k.toNat)
  | (4, x) => .long (Int64.ofInt x)
  | (5, x) => .double (UInt64.ofNat x.toNat)
  | (6, x) => .float (UInt32.ofNat x.toNat)
  | (7, k) => .ref (G.2.2.2.1 k.toNat)
  | (8, _) => va_rf G.2.2.2.2.2.2
  | _ => .null
def zcat (v : zSV) : Nat := if v.1 = 4 ∨ v.1 = 5 then 2 else 1
theorem zcat_eq (G : zG) (ad : Nat → Nat) (v : zSV) : (zc G ad v).category = zcat v := by
  obtain ⟨t, x⟩ := v
  match t with
  | 0 => rfl
  | 1 => rfl
  | 2 => rfl
  | 3 => rfl
  | 4 => rfl
  | 5 => rfl
  | 6 => rfl
  | 7 => rfl
  | 8 =>
    show (va_rf G.2.2.2.2.2.2).category = 1
    cases G.2.2.2.2.2.2 <;> rfl
  | t + 9 => simp [zc, zcat, Value.category]
theorem zcats (G : zG) (ad : Nat → Nat) (st : List zSV) : ((st.map (zc G ad)).map fun v => v.category) = st.map zcat := by
  rw [List.map_map]
  exact List.map_congr_left fun v _ => zcat_eq G ad v
/-- the known locals -/
def zL (G : zG) (ad : Nat → Nat) (ls : List zSV) : List (Nat × Value) := (ls.mapIdx fun i v => (i, v)).filterMap fun q => if q.2.1 = 9 then none else some (q.1, zc G ad q.2)
theorem zL_mem {G : zG} {ad : Nat → Nat} {ls : List zSV} {q : Nat × Value} : q ∈ zL G ad ls ↔ ∃ w, ls[q.1]? = some w ∧ w.1 ≠ 9 ∧ q.2 = zc G ad w := by
  unfold zL
  rw [List.mem_filterMap]
  constructor
  · rintro ⟨⟨i, w⟩, h1, h2⟩
    obtain ⟨k, hk⟩ := List.getElem?_of_mem h1
    rw [List.getElem?_mapIdx] at hk
    cases hw : ls[k]? with
    | none => rw [hw] at hk; cases hk
    | some w' =>
      rw [hw] at hk
      cases hk
      by_cases h9 : w.1 = 9
      · simp [h9] at h2
      · simp [h9] at h2
        subst h2
        exact ⟨w, hw, h9, rfl⟩
  · rintro ⟨w, h1, h2, h3⟩
    refine ⟨(q.1, w), ?_, by simp [h2, ← h3]⟩
    refine List.mem_of_getElem? (i := q.1) ?_
    rw [List.getElem?_mapIdx, h1]
    rfl
theorem zL_at {G : zG} {ad : Nat → Nat} {ls : List zSV} {la : Array Slot} {n i : Nat} {w : zSV} (h : lv_has la n (zL G ad ls)) (hi : ls[i]? = some w) (hw : w.1 ≠ 9) : la[i]? = some (.val (zc G ad w)) := h.2.2 (i, zc G ad w) (zL_mem.mpr ⟨w, hi, hw, rfl⟩)
theorem lv_less {la : Array Slot} {n : Nat} {l l' : List (Nat × Value)} (h : lv_has la n l) (hs : ∀ q ∈ l', q ∈ l) : lv_has la n l' := ⟨h.1, h.2.1, fun q hq => h.2.2 q (hs q hq)⟩
/-- no long or double right below -/
def zb (ls : List zSV) : Nat → Bool
  | 0 => true
  | i + 1 => match ls[i]? with
    | some (4, _) => false
    | some (5, _) => false
    | _ => true
theorem zb_ok {G : zG} {ad : Nat → Nat} {ls : List zSV} {i j : Nat} {w : zSV} (h : zb ls i = true) (hj : ls[j]? = some w) (e : j + 1 = i) : ¬ (zc G ad w).category = 2 := by
  subst e
  rw [zcat_eq]
  unfold zcat
  intro h2
  have h3 : w.1 = 4 ∨ w.1 = 5 := by
    by_cases h4 : w.1 = 4 ∨ w.1 = 5
    · exact h4
    · rw [if_neg h4] at h2; cases h2
  obtain ⟨t, x⟩ := w
  simp only [zb, hj] at h
  rcases h3 with h3 | h3 <;> (simp only at h3; subst h3; simp at h)
theorem zL_set {G : zG} {ad : Nat → Nat} {ls : List zSV} {la : Array Slot} {n i : Nat} {w : zSV} (hb : zb ls i = true) (h : lv_has la n ((i, zc G ad w) :: (zL G ad ls).filter (fun q => !(q.1 == i) && !(q.1 + 1 == i && q.2.category == 2)))) : lv_has la n (zL G ad (ls.set i w)) := by
  refine lv_less h fun q hq => ?_
  obtain ⟨w', h1, h2, h3⟩ := zL_mem.mp hq
  by_cases hqi : q.1 = i
  · have hlt : i < ls.length := by
      have := (List.getElem?_eq_some_iff.mp h1).1
      rw [List.length_set] at this
      omega
    rw [hqi, List.getElem?_set_self hlt] at h1
    cases h1
    refine List.mem_cons.mpr (Or.inl ?_)
    rw [← hqi, ← h3]
  · rw [List.getElem?_set_ne (Ne.symm hqi)] at h1
    refine List.mem_cons.mpr (Or.inr (List.mem_filter.mpr ⟨zL_mem.mpr ⟨w', h1, h2, h3⟩, ?_⟩))
    have h5 : q.1 + 1 = i → ¬ q.2.category = 2 := fun e => by rw [h3]; exact zb_ok hb h1 e
    by_cases e : q.1 + 1 = i
    · simp [hqi, h5 e]
    · simp [hqi, e]
/-- fields: how many, and which are references -/
def zN (ci : Nat) : Nat := match ci with
  | 0 => 5
  | 1 => 3
  | 2 => 5
  | 3 => 2
  | 4 => 3
  | 5 => 2
  | 6 => 5
  | 7 => 10
  | _ => 22
def zR (ci k : Nat) : Bool := match ci with
  | 0 => k ∈ [0, 1]
  | 1 => k ∈ [0, 1, 2]
  | 2 => k ∈ [0, 4]
  | 3 => k ∈ [0]
  | 4 => false
  | 5 => k ∈ [0]
  | 6 => k ∈ [1, 2, 3, 4]
  | 7 => k ∈ [0, 1, 2, 3, 4, 6, 7, 9]
  | _ => k ∈ [0, 1, 2, 3, 12, 15, 17, 18, 20]
def zF (ad : Nat → Nat) (h : zHp) (c ci : Nat) : List Value := (List.range (zN ci)).map fun k => if zR ci k then va_rf ((h.2.1 c k).map ad) else .int (Int32.ofInt (h.2.2.1 c (k : Int)))
def zE (G : zG) (ad : Nat → Nat) (h : zHp) (c : Nat) (kn : Nat × Nat) : va_E := match kn with
  | (0, ci) => .inr (ci, zF ad h c ci)
  | (1, n) => .inl (G.2.1 0, n, .inl fun j => Int32.ofInt (h.2.2.1 c (j : Int)))
  | (2, n) => .inl (G.2.1 1, n, .inl fun j => Int32.ofInt (h.2.2.1 c (j : Int)))
  | (3, n) => .inl (G.2.1 2, n, .inr (.inl fun j => Int64.ofInt (h.2.2.2.1 c (j : Int))))
  | (_, n) => .inl (G.2.1 3, n, .inr (.inr (.inr (.inl fun j => UInt64.ofNat (h.2.2.2.2 c (j : Int)).toNat))))
def zW (G : zG) (ad : Nat → Nat) (h : zHp) : va_W := h.1.mapIdx fun c kn => (ad c, zE G ad h c kn)
theorem zW_at {G : zG} {ad : Nat → Nat} {h : zHp} {c : Nat} {kn : Nat × Nat} (hc : h.1[c]? = some kn) : (zW G ad h)[c]? = some (ad c, zE G ad h c kn) := by
  unfold zW
  rw [List.getElem?_mapIdx, hc]
  rfl
theorem zW_set {G : zG} {ad : Nat → Nat} {h h' : zHp} {c : Nat} {e : va_E} (hs : h'.1 = h.1) (ho : ∀ j kn, j ≠ c → zE G ad h' j kn = zE G ad h j kn) (hc : ∀ kn, h.1[c]? = some kn → zE G ad h' c kn = e) : (zW G ad h).set c (ad c, e) = zW G ad h' := by
  apply List.ext_getElem?
  intro j
  unfold zW
  rw [hs]
  by_cases hj : j = c
  · subst hj
    cases hk : h.1[j]? with
    | none =>
      have h1 : h.1.length ≤ j := List.getElem?_eq_none_iff.mp hk
      rw [List.getElem?_mapIdx, hk]
      apply List.getElem?_eq_none
      rw [List.length_set, List.length_mapIdx]
      exact h1
    | some kn =>
      have h1 : j < (h.1.mapIdx fun c kn => (ad c, zE G ad h c kn)).length := by rw [List.length_mapIdx]; exact (List.getElem?_eq_some_iff.mp hk).1
      rw [List.getElem?_set_self h1, List.getElem?_mapIdx, hk]
      show some (ad j, e) = some (ad j, zE G ad h' j kn)
      rw [hc kn hk]
  · rw [List.getElem?_set_ne (Ne.symm hj), List.getElem?_mapIdx, List.getElem?_mapIdx]
    cases hk : h.1[j]? with
    | none => rfl
    | some kn =>
      show some (ad j, zE G ad h j kn) = some (ad j, zE G ad h' j kn)
      rw [ho j kn hj]
/-- a number written at a place -/
def zu (f : Nat → Int → Int) (c : Nat) (i x : Int) : Nat → Int → Int := fun c' i' => if c' = c ∧ i' = i then x else f c' i'
def zur (f : Nat → Nat → Option Nat) (c k : Nat) (x : Option Nat) : Nat → Nat → Option Nat := fun c' k' => if c' = c ∧ k' = k then x else f c' k'
def zTys (G : zG) : List (ClassId × FieldType) := [(G.2.1 0, .int), (G.2.1 1, .char), (G.2.1 2, .long), (G.2.1 3, .double)]
def zNc : List (String × String) := [("java/lang/IllegalArgumentException", "java/lang/IndexOutOfBoundsException"), ("java/util/NoSuchElementException", "java/lang/IndexOutOfBoundsException"), ("java/lang/UnsupportedOperationException", "java/lang/IllegalArgumentException"), ("java/util/NoSuchElementException", "java/lang/IllegalArgumentException")]
