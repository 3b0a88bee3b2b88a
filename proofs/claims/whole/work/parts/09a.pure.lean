/-! PURE FUNCTIONS (printed by wip/whole/gen/pure.py) -/
def zit (f : Int → Int) : Nat → Int → Int
  | 0, v => v
  | n + 1, v => zit f n (f v)
/-- how many there are of v, its parent, and on, till below 0 -/
def zanc (par : Int → Int) : Nat → Int → Int
  | 0, _ => 0
  | n + 1, v => if v < 0 then 0 else 1 + zanc par n (par v)
def zlby (par yr : Int → Int) (year : Int) : Nat → Int → Int
  | 0, v => v
  | n + 1, v => if 0 < v ∧ year < yr v then zlby par yr year n (par v) else v
def zsin (par A : Int → Int) (x : Int) : Nat → Int → Int
  | 0, v => v
  | n + 1, v => if 0 ≤ par v ∧ A (par v) = x then zsin par A x n (par v) else v
def zcom (par : Int → Int) : Nat → Int → Int → Int
  | 0, a, _ => a
  | n + 1, a, b => if a = b then a else if b < a then zcom par n (par a) b else zcom par n a (par b)
/-- the first k from here on with P, of n, or -1 -/
def zfnd (P : Int → Bool) : Nat → Int → Int
  | 0, _ => -1
  | n + 1, k => if P k then k else zfnd P n (k + 1)
/-- the first of the greatest, from lo to lo + n -/
def zmx (A : Int → Int) (lo : Int) : Nat → Int
  | 0 => lo
  | n + 1 => if A (zmx A lo n) < A (lo + (n + 1 : Int)) then lo + (n + 1 : Int) else zmx A lo n
/-- parents go down to -1, below N -/
def zPar (par : Int → Int) (N : Int) : Prop := ∀ v : Int, 0 ≤ v → v < N → -1 ≤ par v ∧ par v < v
theorem zanc_fuel {par : Int → Int} {N : Int} (hp : zPar par N) : ∀ (n m : Nat) (v : Int), v < N → v < n → v < m → zanc par n v = zanc par m v := by
  intro n
  induction n with
  | zero =>
    intro m v h1 h2 h3
    cases m with
    | zero => rfl
    | succ m =>
      show 0 = if v < 0 then 0 else 1 + zanc par m (par v)
      rw [if_pos (by omega)]
  | succ n ih =>
    intro m v h1 h2 h3
    cases m with
    | zero =>
      show (if v < 0 then 0 else 1 + zanc par n (par v)) = 0
      rw [if_pos (by omega)]
    | succ m =>
      show (if v < 0 then 0 else 1 + zanc par n (par v)) = (if v < 0 then 0 else 1 + zanc par m (par v))
      by_cases h : v < 0
      · rw [if_pos h, if_pos h]
      · obtain ⟨h4, h5⟩ := hp v (by omega) h1
        rw [if_neg h, if_neg h, ih m (par v) (by omega) (by omega) (by omega)]
theorem zanc_neg {par : Int → Int} {n : Nat} {v : Int} (h : v < 0) : zanc par n v = 0 := by
  cases n with
  | zero => rfl
  | succ n =>
    show (if v < 0 then 0 else 1 + zanc par n (par v)) = 0
    rw [if_pos h]
theorem zanc_pos {par : Int → Int} {N : Int} (hp : zPar par N) {n : Nat} {v : Int} (h0 : 0 ≤ v) (h : v < N) (hn : v < n) : zanc par n v = 1 + zanc par n (par v) := by
  cases n with
  | zero => omega
  | succ n =>
    show (if v < 0 then 0 else 1 + zanc par n (par v)) = 1 + zanc par (n + 1) (par v)
    obtain ⟨h4, h5⟩ := hp v h0 h
    rw [if_neg (by omega), zanc_fuel hp n (n + 1) (par v) (by omega) (by omega) (by omega)]
theorem zanc_le {par : Int → Int} {N : Int} (hp : zPar par N) : ∀ (n : Nat) (v : Int), v < N → -1 ≤ v → 0 ≤ zanc par n v ∧ zanc par n v ≤ v + 1 := by
  intro n
  induction n with
  | zero =>
    intro v h1 h2
    exact ⟨Int.le_refl 0, by show (0 : Int) ≤ v + 1; omega⟩
  | succ n ih =>
    intro v h1 h2
    show 0 ≤ (if v < 0 then 0 else 1 + zanc par n (par v)) ∧ (if v < 0 then 0 else 1 + zanc par n (par v)) ≤ v + 1
    by_cases h : v < 0
    · rw [if_pos h]
      omega
    · obtain ⟨h4, h5⟩ := hp v (by omega) h1
      obtain ⟨h6, h7⟩ := ih (par v) (by omega) (by omega)
      rw [if_neg h]
      omega
theorem zlby_s {par yr : Int → Int} {year : Int} {n : Nat} {v : Int} : zlby par yr year (n + 1) v = if 0 < v ∧ year < yr v then zlby par yr year n (par v) else v := rfl
theorem zsin_s {par A : Int → Int} {x : Int} {n : Nat} {v : Int} : zsin par A x (n + 1) v = if 0 ≤ par v ∧ A (par v) = x then zsin par A x n (par v) else v := rfl
theorem zcom_s {par : Int → Int} {n : Nat} {a b : Int} : zcom par (n + 1) a b = if a = b then a else if b < a then zcom par n (par a) b else zcom par n a (par b) := rfl
theorem zfnd_s {P : Int → Bool} {n : Nat} {k : Int} : zfnd P (n + 1) k = if P k then k else zfnd P n (k + 1) := rfl
theorem zmx_s {A : Int → Int} {lo : Int} {n : Nat} : zmx A lo (n + 1) = if A (zmx A lo n) < A (lo + (n + 1 : Int)) then lo + (n + 1 : Int) else zmx A lo n := rfl
theorem zmx_in {A : Int → Int} {lo : Int} : ∀ n : Nat, lo ≤ zmx A lo n ∧ zmx A lo n ≤ lo + n
  | 0 => ⟨Int.le_refl _, by show lo ≤ lo + ((0 : Nat) : Int); omega⟩
  | n + 1 => by
    obtain ⟨h1, h2⟩ := zmx_in (A := A) (lo := lo) n
    rw [zmx_s]
    split <;> omega
