/-! THE PURE READER OF COMMANDS (printed by wip/whole/gen/pars.py) -/
def zup (nf : Int → Int) (j x : Int) : Int → Int := if j < 4 then (fun i => if i = j then x else nf i) else nf
/-- the draft's position, kind and numbers -/
def zDf (ia : Nat → Int → Int) (p k : Int) (nf : Int → Int) : Nat → Int → Int := fun c i => if c = 19 ∧ i = 2 then p else if c = 19 ∧ i = 3 then k else if c = 21 then nf i else ia c i
theorem zD_id {ia : Nat → Int → Int} : zDf ia (ia 19 2) (ia 19 3) (ia 21) = ia := by
  funext c i
  unfold zDf
  by_cases h : c = 19 ∧ i = 2
  · rw [if_pos h, h.1, h.2]
  · rw [if_neg h]
    by_cases h2 : c = 19 ∧ i = 3
    · rw [if_pos h2, h2.1, h2.2]
    · rw [if_neg h2]
      by_cases h3 : c = 21
      · rw [if_pos h3, h3]
      · rw [if_neg h3]
theorem zD_p {ia : Nat → Int → Int} {p k x : Int} {nf : Int → Int} : zu (zDf ia p k nf) 19 2 x = zDf ia x k nf := by
  funext c i
  unfold zu zDf
  by_cases h : c = 19 ∧ i = 2
  · rw [if_pos h, if_pos h]
  · rw [if_neg h, if_neg h, if_neg h]
theorem zD_k {ia : Nat → Int → Int} {p k x : Int} {nf : Int → Int} : zu (zDf ia p k nf) 19 3 x = zDf ia p x nf := by
  funext c i
  unfold zu zDf
  by_cases h : c = 19 ∧ i = 2
  · rw [if_pos h, if_pos h, if_neg (by omega)]
  · rw [if_neg h, if_neg h]
    by_cases h2 : c = 19 ∧ i = 3
    · rw [if_pos h2, if_pos h2]
    · rw [if_neg h2, if_neg h2, if_neg h2]
theorem zD_n {ia : Nat → Int → Int} {p k j x : Int} {nf : Int → Int} (hj : j < 4) : zu (zDf ia p k nf) 21 j x = zDf ia p k (zup nf j x) := by
  funext c i
  unfold zu zDf zup
  rw [if_pos hj]
  by_cases h : c = 21
  · subst h
    by_cases h2 : i = j
    · simp [h2]
    · simp [h2]
  · simp [h]
theorem zup_ge {nf : Int → Int} {j x : Int} (hj : 4 ≤ j) : zup nf j x = nf := by
  unfold zup
  rw [if_neg (by omega)]
theorem zup_same {nf : Int → Int} {j x : Int} (hj : j < 4) : zup nf j x j = x := by
  unfold zup
  rw [if_pos hj, if_pos rfl]
theorem zup_ne {nf : Int → Int} {j x i : Int} (h : i ≠ j) : zup nf j x i = nf i := by
  unfold zup
  split
  · exact if_neg h
  · rfl
theorem zD_p' {ia : Nat → Int → Int} {p k x : Int} {nf : Int → Int} : zu (zDf ia p k nf) 19 ((2 : Nat) : Int) x = zDf ia x k nf := zD_p
theorem zD_k' {ia : Nat → Int → Int} {p k x : Int} {nf : Int → Int} : zu (zDf ia p k nf) 19 ((3 : Nat) : Int) x = zDf ia p x nf := zD_k
/-- where a number of at most so many digits ends -/
def zdn (ch : Int → Int) : Nat → Int → Int
  | 0, p => p
  | n + 1, p => if 48 ≤ ch p ∧ ch p ≤ 57 then zdn ch n (p + 1) else p
def zdv (ch : Int → Int) : Nat → Int → Int → Int
  | 0, _, v => v
  | n + 1, p, v => if 48 ≤ ch p ∧ ch p ≤ 57 then zdv ch n (p + 1) (10 * v + (ch p - 48)) else v
theorem zdn_0 {ch : Int → Int} {p : Int} : zdn ch 0 p = p := rfl
theorem zdv_0 {ch : Int → Int} {p v : Int} : zdv ch 0 p v = v := rfl
theorem zdn_t {ch : Int → Int} {n : Nat} {p : Int} (h : 48 ≤ ch p ∧ ch p ≤ 57) : zdn ch (n + 1) p = zdn ch n (p + 1) := by
  show (if 48 ≤ ch p ∧ ch p ≤ 57 then zdn ch n (p + 1) else p) = _
  rw [if_pos h]
theorem zdn_f {ch : Int → Int} {n : Nat} {p : Int} (h : ¬ (48 ≤ ch p ∧ ch p ≤ 57)) : zdn ch n p = p := by
  cases n with
  | zero => rfl
  | succ n =>
    show (if 48 ≤ ch p ∧ ch p ≤ 57 then zdn ch n (p + 1) else p) = _
    rw [if_neg h]
theorem zdv_t {ch : Int → Int} {n : Nat} {p v : Int} (h : 48 ≤ ch p ∧ ch p ≤ 57) : zdv ch (n + 1) p v = zdv ch n (p + 1) (10 * v + (ch p - 48)) := by
  show (if 48 ≤ ch p ∧ ch p ≤ 57 then zdv ch n (p + 1) (10 * v + (ch p - 48)) else v) = _
  rw [if_pos h]
theorem zdv_f {ch : Int → Int} {n : Nat} {p v : Int} (h : ¬ (48 ≤ ch p ∧ ch p ≤ 57)) : zdv ch n p v = v := by
  cases n with
  | zero => rfl
  | succ n =>
    show (if 48 ≤ ch p ∧ ch p ≤ 57 then zdv ch n (p + 1) (10 * v + (ch p - 48)) else v) = _
    rw [if_neg h]
theorem zdn_in {ch : Int → Int} : ∀ (n : Nat) (p : Int), p ≤ zdn ch n p ∧ zdn ch n p ≤ p + n
  | 0, p => ⟨Int.le_refl _, by show p ≤ p + ((0 : Nat) : Int); omega⟩
  | n + 1, p => by
    by_cases h : 48 ≤ ch p ∧ ch p ≤ 57
    · have := zdn_in (ch := ch) n (p + 1)
      rw [zdn_t h]
      omega
    · rw [zdn_f h]
      omega
theorem zdn_len {ch : Int → Int} {L : Int} (hc : ∀ p, L ≤ p → ch p = 0) : ∀ (n : Nat) (p : Int), p ≤ L → zdn ch n p ≤ L
  | 0, p, h0 => h0
  | n + 1, p, h0 => by
    by_cases h : 48 ≤ ch p ∧ ch p ≤ 57
    · rw [zdn_t h]
      refine zdn_len hc n (p + 1) ?_
      by_cases hp : p < L
      · omega
      · have := hc p (by omega)
        omega
    · rw [zdn_f h]
      exact h0
theorem zdv_in {ch : Int → Int} : ∀ (n : Nat) (p v : Int), 0 ≤ v → 0 ≤ zdv ch n p v ∧ zdv ch n p v ≤ 10 ^ n * v + (10 ^ n - 1)
  | 0, p, v, hv => ⟨hv, by show v ≤ 10 ^ 0 * v + (10 ^ 0 - 1); omega⟩
  | n + 1, p, v, hv => by
    by_cases h : 48 ≤ ch p ∧ ch p ≤ 57
    · have h2 := zdv_in (ch := ch) n (p + 1) (10 * v + (ch p - 48)) (by omega)
      rw [zdv_t h]
      refine ⟨h2.1, Int.le_trans h2.2 ?_⟩
      have hp : (0 : Int) ≤ 10 ^ n := Int.le_of_lt (Int.pow_pos (by decide))
      have h3 : (10 : Int) ^ n * (10 * v + (ch p - 48)) ≤ 10 ^ n * (10 * v + 9) := Int.mul_le_mul_of_nonneg_left (by omega) hp
      have h5 : (10 : Int) ^ n * (10 * v + 9) = 10 ^ n * (10 * v) + 10 ^ n * 9 := Int.mul_add _ _ _
      have h4 : (10 : Int) ^ (n + 1) * v = 10 ^ n * (10 * v) := by rw [Int.pow_succ, Int.mul_assoc]
      have h6 : (10 : Int) ^ (n + 1) = 10 ^ n * 10 := Int.pow_succ _ _
      rw [h4, h6]
      omega
    · have hp : (1 : Int) ≤ 10 ^ (n + 1) := Int.pow_pos (by decide)
      have h3 : (1 : Int) * v ≤ 10 ^ (n + 1) * v := Int.mul_le_mul_of_nonneg_right hp hv
      rw [zdv_f h]
      omega
/-- what follows the letter: the form f from part j on, at p, the next number's place pl -/
def zpt (f ch : Int → Int) : Nat → Int → Int → Int → (Int → Int) → Int × Int × (Int → Int)
  | 0, _, p, _, nf => (p, 1, nf)
  | n + 1, j, p, pl, nf =>
    if 48 ≤ f j ∧ f j ≤ 57 then
      (if zdn ch (f j - 48).toNat p = p then (p, 0, zup nf pl (zdv ch (f j - 48).toNat p 0))
      else zpt f ch n (j + 1) (zdn ch (f j - 48).toNat p) (pl + 1) (zup nf pl (zdv ch (f j - 48).toNat p 0)))
    else if ch p = f j then zpt f ch n (j + 1) (p + 1) pl nf else (p, 0, nf)
/-- a form: its text, its length, its signs -/
def zFo (i : Nat) (L : Int) (f : Int → Int) : Prop :=
  (i < 24 ∧ ((zSl.getD i 0 : Nat) : Int) = L ∧ 0 ≤ L ∧ L ≤ 7) ∧ ∀ j : Int, 0 ≤ j → j < L → (zSb.getD i []).getD j.toNat 0 = Int32.ofInt (f j) ∧ (0 ≤ f j ∧ f j ≤ 127) ∧ (48 ≤ f j ∧ f j ≤ 57 → 49 ≤ f j ∧ f j ≤ 51)
def zfl (l : List Int) (j : Int) : Int := l.getD j.toNat 0
/-- the letters' forms: their texts, their signs -/
def zft (x : Int) : Nat := if x = 119 then 11 else if x = 103 then 12 else if x = 102 then 13 else if x = 98 then 14 else if x = 121 then 15 else 16
def zfL (x : Int) : List Int := if x = 119 then [49, 47, 50, 61, 51] else if x = 103 then [49, 47, 50, 58, 50, 45, 50] else if x = 102 then [49, 60, 49] else if x = 98 then [49, 42, 50] else if x = 121 then [50] else []
/-- a command at p: where it ends, or where it fails; whether it is one; the numbers -/
def zrd (ch : Int → Int) (p : Int) (nf : Int → Int) : Int × Int × (Int → Int) := if zfL (ch p) = [] then (p, 0, nf) else zpt (zfl (zfL (ch p))) ch (zfL (ch p)).length 0 (p + 1) 0 nf
/-- where the text from p on has its fault, or -1 -/
def zft2 (ch : Int → Int) (L : Int) : Nat → Int → (Int → Int) → Int
  | 0, p, _ => p
  | n + 1, p, nf => if (zrd ch p nf).2.1 = 0 then (zrd ch p nf).1 else if L ≤ (zrd ch p nf).1 then -1 else if ch (zrd ch p nf).1 = 59 then zft2 ch L n ((zrd ch p nf).1 + 1) (zrd ch p nf).2.2 else (zrd ch p nf).1
/-- the class's text -/
def zch (ia : Nat → Int → Int) (p : Int) : Int := if 0 ≤ p ∧ p < ia 19 1 ∧ p < 60 then ia 20 p else 0
def zDI (ia : Nat → Int → Int) : Prop := 0 ≤ ia 19 1 ∧ ia 19 1 ≤ 60 ∧ ∀ i : Int, 0 ≤ i → i < 60 → 0 ≤ ia 20 i ∧ ia 20 i ≤ 65535
theorem zch_in {ia : Nat → Int → Int} (D : zDI ia) (p : Int) : 0 ≤ zch ia p ∧ zch ia p ≤ 65535 := by
  unfold zch
  by_cases h : 0 ≤ p ∧ p < ia 19 1 ∧ p < 60
  · rw [if_pos h]
    exact D.2.2 p h.1 h.2.2
  · rw [if_neg h]
    omega
theorem zch_end {ia : Nat → Int → Int} (p : Int) (h : ia 19 1 ≤ p) : zch ia p = 0 := by
  unfold zch
  rw [if_neg (by omega)]
theorem zpt_0 {f ch : Int → Int} {j p pl : Int} {nf : Int → Int} : zpt f ch 0 j p pl nf = (p, 1, nf) := rfl
theorem zpt_s {f ch : Int → Int} {n : Nat} {j p pl : Int} {nf : Int → Int} : zpt f ch (n + 1) j p pl nf = if 48 ≤ f j ∧ f j ≤ 57 then
      (if zdn ch (f j - 48).toNat p = p then (p, 0, zup nf pl (zdv ch (f j - 48).toNat p 0))
      else zpt f ch n (j + 1) (zdn ch (f j - 48).toNat p) (pl + 1) (zup nf pl (zdv ch (f j - 48).toNat p 0)))
    else if ch p = f j then zpt f ch n (j + 1) (p + 1) pl nf else (p, 0, nf) := rfl
theorem zpt_in {f ch : Int → Int} {L : Int} (hc : ∀ p, L ≤ p → ch p = 0) : ∀ (n : Nat) (j p pl : Int) (nf : Int → Int), (∀ i : Int, j ≤ i → i < j + n → 1 ≤ f i) → p ≤ L → p ≤ (zpt f ch n j p pl nf).1 ∧ (zpt f ch n j p pl nf).1 ≤ L ∧ ((zpt f ch n j p pl nf).2.1 = 0 ∨ (zpt f ch n j p pl nf).2.1 = 1) := by
  intro n
  induction n with
  | zero =>
    intro j p pl nf h1 h2
    exact ⟨Int.le_refl _, h2, Or.inr rfl⟩
  | succ n ih =>
    intro j p pl nf h1 h2
    rw [zpt_s]
    have hz := zdn_in (ch := ch) (f j - 48).toNat p
    have hz2 := zdn_len hc (f j - 48).toNat p h2
    have h1j := h1 j (by omega) (by omega)
    split
    · split
      · exact ⟨Int.le_refl _, h2, Or.inl rfl⟩
      · have h3 := ih (j + 1) (zdn ch (f j - 48).toNat p) (pl + 1) (zup nf pl (zdv ch (f j - 48).toNat p 0)) (fun i h4 h5 => h1 i (by omega) (by omega)) hz2
        exact ⟨by omega, h3.2⟩
    · split
      · rename_i h6
        have hp : p < L := by
          by_cases hp : p < L
          · exact hp
          · have := hc p (by omega)
            omega
        have h3 := ih (j + 1) (p + 1) pl nf (fun i h4 h5 => h1 i (by omega) (by omega)) (by omega)
        exact ⟨by omega, h3.2⟩
      · exact ⟨Int.le_refl _, h2, Or.inl rfl⟩
theorem zfl_ok {i : Nat} {l : List Int} (h : (Nat.ble (i + 1) 24 && Nat.beq (zSl.getD i 0) l.length && Nat.ble l.length 7 && (List.range l.length).all (fun j => decide ((zSb.getD i []).getD j 0 = Int32.ofInt (l.getD j 0)) && decide (0 ≤ l.getD j 0 ∧ l.getD j 0 ≤ 127 ∧ (48 ≤ l.getD j 0 ∧ l.getD j 0 ≤ 57 → 49 ≤ l.getD j 0 ∧ l.getD j 0 ≤ 51)))) = true) : zFo i l.length (zfl l) := by
  simp only [Bool.and_eq_true] at h
  obtain ⟨⟨⟨h1, h2⟩, h3⟩, h4⟩ := h
  have h1 := Nat.le_of_ble_eq_true h1
  have h2 := Nat.eq_of_beq_eq_true h2
  have h3 := Nat.le_of_ble_eq_true h3
  refine ⟨⟨h1, by rw [h2], by omega, by omega⟩, fun j h5 h6 => ?_⟩
  have h7 := List.all_eq_true.mp h4 j.toNat (List.mem_range.mpr (by omega))
  simp only [Bool.and_eq_true, decide_eq_true_eq] at h7
  exact ⟨h7.1, ⟨h7.2.1, h7.2.2.1⟩, h7.2.2.2⟩
theorem zfo_of {x : Int} (h : zfL x ≠ []) : zFo (zft x) (zfL x).length (zfl (zfL x)) := by
  unfold zfL zft at *
  by_cases h1 : x = 119
  · simp only [h1, if_true]
    exact zfl_ok (by decide)
  by_cases h2 : x = 103
  · simp only [h2, if_true]
    exact zfl_ok (by decide)
  by_cases h3 : x = 102
  · simp only [h3, if_true]
    exact zfl_ok (by decide)
  by_cases h4 : x = 98
  · simp only [h4, if_true]
    exact zfl_ok (by decide)
  by_cases h5 : x = 121
  · simp only [h5, if_true]
    exact zfl_ok (by decide)
  exfalso
  rw [if_neg h1, if_neg h2, if_neg h3, if_neg h4, if_neg h5] at h
  exact h rfl
