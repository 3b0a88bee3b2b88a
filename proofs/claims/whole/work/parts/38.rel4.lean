/-! THE RELATION OF BOTH SIDES' CELLS -/
/-- the books at a mark -/
def zVm (ia : Nat → Int → Int) (k : Int) : Nat → Int → Int := fun c i => if c = 3 then ia 18 (8 * k) else if c = 2 then ia 18 (8 * k + (i - 1)) else if c = 8 then ia 18 (8 * k + (4 + i)) else ia c i
/-- the saved books -/
def zSa (ia : Nat → Int → Int) : Nat → Int → Int := fun c i => if c = 2 then ia 10 i else if c = 3 then ia 11 i else if c = 4 then ia 12 i else if c = 5 then ia 13 i else if c = 6 then ia 14 i else if c = 7 then ia 15 i else if c = 8 then ia 16 i else ia c i
def zPa (ia ib : Nat → Int → Int) : Prop := (0 ≤ ia 17 1 ∧ ia 17 1 ≤ 8) ∧ ib 24 5 = ia 17 1 ∧
  (∀ k : Int, 0 ≤ k → k < ia 17 1 → zVw (zVm ia k) (fun i => ib 26 (1968 * k + i)) ∧ ia 18 (8 * k) ≤ ia 3 0) ∧ ∀ k k2 : Int, 0 ≤ k → k ≤ k2 → k2 < ia 17 1 → ia 18 (8 * k) ≤ ia 18 (8 * k2)
def zSd (ia ib : Nat → Int → Int) : Prop := ib 24 4 = ia 0 5 ∧ (ia 0 5 = 0 ∨ (ia 0 5 = 1 ∧ zVw (zSa ia) (ib 27)))
def zTx (ia ib : Nat → Int → Int) : Prop := zDI ia ∧ ib 24 13 = ia 19 1 ∧ (∀ i : Int, 0 ≤ i → i < ia 19 1 → ib 29 i = ia 20 i) ∧ ib 24 14 = ia 0 8 ∧ (-1 ≤ ia 0 8 ∧ ia 0 8 ≤ 60)
def zRe (ia ib : Nat → Int → Int) : Prop := ib 24 9 = ia 9 0 ∧ ib 24 10 = ia 9 1 ∧ ib 24 11 = ia 9 2 ∧ (0 ≤ ia 9 0 ∧ ia 9 0 ≤ 8) ∧ (0 ≤ ia 9 1 ∧ ia 9 1 ≤ 100) ∧ (0 ≤ ia 9 2 ∧ ia 9 2 ≤ 60)
def zLi (ia ib : Nat → Int → Int) : Prop := (0 ≤ ia 22 1 ∧ ia 22 1 ≤ 109) ∧ ib 24 16 = ia 22 1 ∧ ∀ i : Int, 0 ≤ i → i < ia 22 1 → ib 30 i = ia 23 i ∧ 0 ≤ ia 23 i ∧ ia 23 i ≤ 65535
def zQq (ia ib : Nat → Int → Int) : Prop := zVw ia (ib 25) ∧ zPa ia ib ∧ zSd ia ib ∧ zTx ia ib ∧ zRe ia ib ∧ zLi ia ib ∧ ib 24 6 = 0 ∧ zLH ib
theorem zQq_code {ia : Nat → Int → Int} {k : Int} (Q : zQq ia ia) : zQq (zu ia 24 8 k) (zu ia 24 8 k) := Q
/-! the marks -/
theorem zNo_c {ia : Nat → Int → Int} {c : Nat} (h : c ≠ 18) : zNo ia c = ia c := by
  funext i
  unfold zNo
  rw [zcp_off (Or.inl h), zu_nc h, zu_nc h, zu_nc h, zu_nc h]
theorem zNo_o {ia : Nat → Int → Int} {i : Int} (h : i < 8 * ia 17 1) : zNo ia 18 i = ia 18 i := by
  unfold zNo
  rw [zcp_off (Or.inr (Or.inl (by omega))), zu_ni (by omega), zu_ni (by omega), zu_ni (by omega), zu_ni (by omega)]
theorem zNo_0 {ia : Nat → Int → Int} : zNo ia 18 (8 * ia 17 1) = ia 3 0 := by
  unfold zNo
  rw [zcp_off (Or.inr (Or.inl (by omega))), zu_ni (by omega), zu_ni (by omega), zu_ni (by omega), show 8 * ia 17 1 = ia 17 1 * 8 by omega, zu_same]
theorem zNo_1 {ia : Nat → Int → Int} : zNo ia 18 (8 * ia 17 1 + 1) = ia 2 2 := by
  unfold zNo
  rw [zcp_off (Or.inr (Or.inl (by omega))), zu_ni (by omega), zu_ni (by omega), show 8 * ia 17 1 + 1 = ia 17 1 * 8 + 1 by omega, zu_same]
theorem zNo_2 {ia : Nat → Int → Int} : zNo ia 18 (8 * ia 17 1 + 2) = ia 2 3 := by
  unfold zNo
  rw [zcp_off (Or.inr (Or.inl (by omega))), zu_ni (by omega), show 8 * ia 17 1 + 2 = ia 17 1 * 8 + 2 by omega, zu_same]
theorem zNo_3 {ia : Nat → Int → Int} : zNo ia 18 (8 * ia 17 1 + 3) = ia 2 4 := by
  unfold zNo
  rw [zcp_off (Or.inr (Or.inl (by omega))), show 8 * ia 17 1 + 3 = ia 17 1 * 8 + 3 by omega, zu_same]
theorem zNo_4 {ia : Nat → Int → Int} {h : Int} (hh : 0 ≤ h ∧ h < 4) : zNo ia 18 (8 * ia 17 1 + (4 + h)) = ia 8 h := by
  unfold zNo
  rw [zcp_on (by omega), show 0 + (8 * ia 17 1 + (4 + h) - (ia 17 1 * 8 + 4)) = h by omega, zu_nc (by decide), zu_nc (by decide), zu_nc (by decide), zu_nc (by decide)]
/-- what a heap has of the marks that a note of ia has laid -/
def zFm (ia jx : Nat → Int → Int) : Prop := jx 17 = ia 17 ∧ jx 18 = zNo ia 18 ∧ zGv (zNo ia) jx
theorem zFm_v {ia jx : Nat → Int → Int} (F : zFm ia jx) (v : Int) (h1 : 0 ≤ v) (h2 : v < ia 3 0) : jx 4 v = ia 4 v ∧ jx 5 v = ia 5 v ∧ ∀ s : Int, 0 ≤ s → s < 31 → jx 6 (v * 31 + s) = ia 6 (v * 31 + s) ∧ zTo jx v s = zTo ia v s := F.2.2.2 v h1 h2
theorem zFm_n {ia jx : Nat → Int → Int} (F : zFm ia jx) : ia 3 0 ≤ jx 3 0 ∧ jx 3 0 ≤ 40 := F.2.2.1
/-- a note, then changes, then back -/
theorem zBa_c {jx : Nat → Int → Int} {c : Nat} (h3 : c ≠ 3) (h2 : c ≠ 2) (h8 : c ≠ 8) : zBa jx c = jx c := by
  funext i
  unfold zBa
  rw [zcp_off (Or.inl h8), zu_nc h2, zu_nc h2, zu_nc h2, zu_nc h3]
theorem zBa_3 {jx : Nat → Int → Int} : zBa jx 3 0 = jx 18 (8 * jx 17 1) := by
  unfold zBa
  rw [zcp_off (Or.inl (by decide)), zu_nc (by decide), zu_nc (by decide), zu_nc (by decide), zu_same, show jx 17 1 * 8 = 8 * jx 17 1 by omega]
theorem zBa_2 {jx : Nat → Int → Int} {i : Int} (hi : 2 ≤ i ∧ i ≤ 4) : zBa jx 2 i = jx 18 (8 * jx 17 1 + (i - 1)) := by
  have h : i = 2 ∨ i = 3 ∨ i = 4 := by omega
  unfold zBa
  rw [zcp_off (Or.inl (by decide))]
  rcases h with rfl | rfl | rfl
  · rw [zu_ni (by decide), zu_ni (by decide), zu_same, show jx 17 1 * 8 + 1 = 8 * jx 17 1 + (2 - 1) by omega]
  · rw [zu_ni (by decide), zu_same, show jx 17 1 * 8 + 2 = 8 * jx 17 1 + (3 - 1) by omega]
  · rw [zu_same, show jx 17 1 * 8 + 3 = 8 * jx 17 1 + (4 - 1) by omega]
theorem zBa_8 {jx : Nat → Int → Int} {h : Int} (hh : 0 ≤ h ∧ h < 4) : zBa jx 8 h = jx 18 (8 * jx 17 1 + (4 + h)) := by
  unfold zBa
  rw [zcp_on (by omega), show jx 17 1 * 8 + 4 + (h - 0) = 8 * jx 17 1 + (4 + h) by omega, zu_nc (by decide), zu_nc (by decide), zu_nc (by decide), zu_nc (by decide)]
theorem zBa_To {jx : Nat → Int → Int} {v s : Int} : zTo (zBa jx) v s = zTo jx v s := by
  unfold zTo
  rw [zBa_c (c := 6) (by decide) (by decide) (by decide), zBa_c (c := 7) (by decide) (by decide) (by decide)]
/-- back is the view of the mark -/
theorem zBa_vm {jx : Nat → Int → Int} : zSbk (zVm jx (jx 17 1)) (zBa jx) := by
  refine ⟨zBa_3, zBa_2 (by decide), zBa_2 (by decide), zBa_2 (by decide), fun h h1 h2 => zBa_8 ⟨h1, h2⟩, fun v h1 h2 => ⟨?_, ?_, fun s h3 h4 => ⟨?_, zBa_To⟩⟩⟩
  · rw [zBa_c (by decide) (by decide) (by decide)]; rfl
  · rw [zBa_c (by decide) (by decide) (by decide)]; rfl
  · rw [zBa_c (by decide) (by decide) (by decide)]; rfl
/-- the view of a noted mark is what there was -/
theorem zFm_vm {ia jx : Nat → Int → Int} (F : zFm ia jx) : zSbk ia (zVm jx (ia 17 1)) := by
  refine ⟨?_, ?_, ?_, ?_, fun h h1 h2 => ?_, fun v h1 h2 => zFm_v F v h1 h2⟩
  · show jx 18 (8 * ia 17 1) = ia 3 0
    rw [F.2.1, zNo_0]
  · show jx 18 (8 * ia 17 1 + (2 - 1)) = ia 2 2
    rw [F.2.1, show (2 : Int) - 1 = 1 from rfl, zNo_1]
  · show jx 18 (8 * ia 17 1 + (3 - 1)) = ia 2 3
    rw [F.2.1, show (3 : Int) - 1 = 2 from rfl, zNo_2]
  · show jx 18 (8 * ia 17 1 + (4 - 1)) = ia 2 4
    rw [F.2.1, show (4 : Int) - 1 = 3 from rfl, zNo_3]
  · show jx 18 (8 * ia 17 1 + (4 + h)) = ia 8 h
    rw [F.2.1, zNo_4 ⟨h1, h2⟩]
/-- the views of the elder marks live on -/
theorem zFm_old {ia jx : Nat → Int → Int} {g : Int → Int} {k : Int} (F : zFm ia jx) (h0 : 0 ≤ k) (hk : k < ia 17 1) (hc : ia 18 (8 * k) ≤ ia 3 0) (V : zVw (zVm ia k) g) : zVw (zVm jx k) g := by
  refine zVw_cg V ⟨?_, ?_, ?_, ?_, fun h h1 h2 => ?_, fun v h1 h2 => zFm_v F v h1 (Int.lt_of_lt_of_le h2 hc)⟩
  · show jx 18 (8 * k) = ia 18 (8 * k)
    rw [F.2.1, zNo_o (by omega)]
  · show jx 18 (8 * k + (2 - 1)) = ia 18 (8 * k + (2 - 1))
    rw [F.2.1, zNo_o (by omega)]
  · show jx 18 (8 * k + (3 - 1)) = ia 18 (8 * k + (3 - 1))
    rw [F.2.1, zNo_o (by omega)]
  · show jx 18 (8 * k + (4 - 1)) = ia 18 (8 * k + (4 - 1))
    rw [F.2.1, zNo_o (by omega)]
  · show jx 18 (8 * k + (4 + h)) = ia 18 (8 * k + (4 + h))
    rw [F.2.1, zNo_o (by omega)]
theorem zFm_tb {ia jx : Nat → Int → Int} {g : Int → Int} (V : zVw ia g) (hk : 0 ≤ ia 17 1 ∧ ia 17 1 ≤ 8) (F : zFm ia jx) : zTb jx := by
  have hn := V.1.1.1
  have h2 := zFm_n F
  have e : jx 18 (jx 17 1 * 8) = ia 3 0 := by
    rw [F.1, F.2.1, show ia 17 1 * 8 = 8 * ia 17 1 by omega, zNo_0]
  unfold zTb
  rw [e, F.1]
  omega
/-- a change that is refused, or commands that are: back -/
theorem zFm_back {ia jx : Nat → Int → Int} {g : Int → Int} (V : zVw ia g) (F : zFm ia jx) : zVw (zBa jx) g := by
  have h := zBa_vm (jx := jx)
  rw [F.1] at h
  exact zVw_cg (zVw_cg V (zFm_vm F)) h
theorem zPa_back {ia ib jx jb : Nat → Int → Int} (P : zPa ia ib) (F : zFm ia jx) (h5 : jb 24 5 = ib 24 5) (h26 : jb 26 = ib 26) : zPa (zBa jx) jb := by
  obtain ⟨p0, p1, p2, p3⟩ := P
  have e17 : zBa jx 17 = ia 17 := (zBa_c (by decide) (by decide) (by decide)).trans F.1
  have e18 : zBa jx 18 = zNo ia 18 := (zBa_c (by decide) (by decide) (by decide)).trans F.2.1
  have e3 : zBa jx 3 0 = ia 3 0 := by rw [zBa_3, F.1, F.2.1, zNo_0]
  unfold zPa
  rw [e17, e18, e3, h5, h26]
  refine ⟨p0, p1, fun k h1 h2 => ⟨?_, ?_⟩, fun k k2 h1 h2 h3 => ?_⟩
  · obtain ⟨v1, v2⟩ := p2 k h1 h2
    refine zVw_cg (zFm_old F h1 h2 v2 v1) ⟨?_, ?_, ?_, ?_, fun h h3 h4 => ?_, fun v h3 h4 => ⟨?_, ?_, fun s h5 h6 => ⟨?_, zBa_To⟩⟩⟩
    · show zBa jx 18 _ = jx 18 _
      rw [e18, F.2.1]
    · show zBa jx 18 _ = jx 18 _
      rw [e18, F.2.1]
    · show zBa jx 18 _ = jx 18 _
      rw [e18, F.2.1]
    · show zBa jx 18 _ = jx 18 _
      rw [e18, F.2.1]
    · show zBa jx 18 _ = jx 18 _
      rw [e18, F.2.1]
    · show zBa jx 4 _ = jx 4 _
      rw [zBa_c (by decide) (by decide) (by decide)]
    · show zBa jx 5 _ = jx 5 _
      rw [zBa_c (by decide) (by decide) (by decide)]
    · show zBa jx 6 _ = jx 6 _
      rw [zBa_c (by decide) (by decide) (by decide)]
  · rw [zNo_o (by omega)]
    exact (p2 k h1 h2).2
  · rw [zNo_o (by omega), zNo_o (by omega)]
    exact p3 k k2 h1 h2 h3
/-! a change is kept -/
theorem zKe_c {jx : Nat → Int → Int} {c : Nat} (h17 : c ≠ 17) (h18 : c ≠ 18) : zKe jx c = jx c := by
  funext i
  unfold zKe
  split
  · rw [zu_nc h17]
  · rw [zcp_off (Or.inl h18)]
theorem zKe_To {jx : Nat → Int → Int} {v s : Int} : zTo (zKe jx) v s = zTo jx v s := by
  unfold zTo
  rw [zKe_c (c := 6) (by decide) (by decide), zKe_c (c := 7) (by decide) (by decide)]
theorem zKe_lt {jx : Nat → Int → Int} (h : jx 17 1 < 8) : zKe jx = zu jx 17 1 (jx 17 1 + 1) := if_pos h
theorem zKe_ge {jx : Nat → Int → Int} (h : ¬ jx 17 1 < 8) : zKe jx = zcp jx 18 8 18 0 64 := if_neg h
/-- by how much the marks are shifted -/
def zsh (n : Int) : Int := if n < 8 then 0 else 1
theorem zKe_17 {jx : Nat → Int → Int} (h : jx 17 1 ≤ 8) : zKe jx 17 1 = jx 17 1 + 1 - zsh (jx 17 1) := by
  unfold zsh
  by_cases e : jx 17 1 < 8
  · rw [if_pos e, zKe_lt e, zu_same]
    omega
  · rw [if_neg e, zKe_ge e, zcp_off (Or.inl (by decide))]
    omega
theorem zKe_18 {jx : Nat → Int → Int} {i : Int} (h : jx 17 1 ≤ 8) (h0 : 0 ≤ i) (hi : i < 8 * (jx 17 1 + 1 - zsh (jx 17 1))) : zKe jx 18 i = jx 18 (8 * zsh (jx 17 1) + i) := by
  unfold zsh at hi ⊢
  by_cases e : jx 17 1 < 8
  · rw [if_pos e, zKe_lt e, zu_nc (by decide), show 8 * 0 + i = i by omega]
  · rw [if_neg e] at hi
    rw [if_neg e, zKe_ge e, zcp_on (by omega), show 8 + (i - 0) = 8 * 1 + i by omega]
theorem zKp_5 {ib : Nat → Int → Int} {c : Nat} (h6 : ib 24 6 = 0) (h5 : ib 24 5 ≤ 8) : zKp ib c 24 5 = ib 24 5 + 1 - zsh (ib 24 5) := by
  unfold zKp zsh
  rw [if_neg (by omega)]
  by_cases e : ib 24 5 < 8
  · rw [if_pos e, if_pos e, zu_same]
    omega
  · rw [if_neg e, if_neg e]
    unfold zKs
    rw [zu_same]
    omega
theorem zKp_26 {ib : Nat → Int → Int} {c : Nat} {k i : Int} (h6 : ib 24 6 = 0) (h5 : 0 ≤ ib 24 5 ∧ ib 24 5 ≤ 8) (hc : c ≠ 24 ∧ c ≠ 26) (hk : 0 ≤ k ∧ k < ib 24 5 + 1 - zsh (ib 24 5)) (hi : 0 ≤ i ∧ i < 1968) : zKp ib c 26 (1968 * k + i) = if k + zsh (ib 24 5) = ib 24 5 then ib c i else ib 26 (1968 * (k + zsh (ib 24 5)) + i) := by
  unfold zKp
  rw [if_neg (by omega)]
  by_cases e : ib 24 5 < 8
  · have e0 : zsh (ib 24 5) = 0 := if_pos e
    rw [e0] at hk ⊢
    rw [if_pos e, zu_nc (by decide), show k + 0 = k by omega]
    by_cases e2 : k = ib 24 5
    · rw [if_pos e2, e2, zcp_on (by omega), show 0 + (1968 * ib 24 5 + i - 1968 * ib 24 5) = i by omega, zu_nc hc.1]
    · rw [if_neg e2, zcp_off (by omega), zu_nc (by decide)]
  · have e0 : zsh (ib 24 5) = 1 := if_neg e
    rw [e0] at hk ⊢
    rw [if_neg e]
    unfold zKs
    rw [zu_nc (by decide)]
    by_cases e2 : k + 1 = ib 24 5
    · rw [if_pos e2, show ib 24 5 - 1 = k by omega, zcp_on (by omega), show 0 + (1968 * k + i - 1968 * k) = i by omega, zu_nc hc.1, zcp_off (Or.inl hc.2), zu_nc hc.1]
    · rw [if_neg e2, zcp_off (by omega), zu_nc (by decide), zcp_on (by omega), show 1968 + (1968 * k + i - 0) = 1968 * (k + 1) + i by omega, zu_nc (by decide)]
theorem zPa_keep {ia ib jx : Nat → Int → Int} {c : Nat} (P : zPa ia ib) (V : zVw ia (ib c)) (hc : c ≠ 24 ∧ c ≠ 26) (h6 : ib 24 6 = 0) (F : zFm ia jx) : zPa (zKe jx) (zKp ib c) := by
  obtain ⟨p0, p1, p2, p3⟩ := P
  have f17 : jx 17 1 = ia 17 1 := by rw [F.1]
  have hn := zFm_n F
  have e3 : zKe jx 3 = jx 3 := zKe_c (by decide) (by decide)
  have e17 := zKe_17 (jx := jx) (by omega)
  rw [f17] at e17
  have hs : (ia 17 1 < 8 ∧ zsh (ia 17 1) = 0) ∨ (ia 17 1 = 8 ∧ zsh (ia 17 1) = 1) := by
    by_cases e : ia 17 1 < 8
    · exact Or.inl ⟨e, if_pos e⟩
    · exact Or.inr ⟨by omega, if_neg e⟩
  have e18 : ∀ i : Int, 0 ≤ i → i < 8 * (ia 17 1 + 1 - zsh (ia 17 1)) → zKe jx 18 i = zNo ia 18 (8 * zsh (ia 17 1) + i) := fun i h1 h2 => by
    have h := zKe_18 (jx := jx) (i := i) (by omega) h1 (by rw [f17]; exact h2)
    rw [h, f17, F.2.1]
  -- the count of a mark
  have ec : ∀ k : Int, 0 ≤ k → k < ia 17 1 + 1 - zsh (ia 17 1) → zKe jx 18 (8 * k) = if k + zsh (ia 17 1) = ia 17 1 then ia 3 0 else ia 18 (8 * (k + zsh (ia 17 1))) := fun k h1 h2 => by
    rw [e18 _ (by omega) (by omega), show 8 * zsh (ia 17 1) + 8 * k = 8 * (k + zsh (ia 17 1)) by omega]
    by_cases e : k + zsh (ia 17 1) = ia 17 1
    · rw [if_pos e, e, zNo_0]
    · rw [if_neg e, zNo_o (by omega)]
  unfold zPa
  rw [e17, e3]
  refine ⟨by omega, ?_, fun k h1 h2 => ⟨?_, ?_⟩, fun k k2 h1 h2 h3 => ?_⟩
  · rw [zKp_5 h6 (by omega), p1]
  · have hk2 : 0 ≤ k + zsh (ia 17 1) ∧ k + zsh (ia 17 1) ≤ ia 17 1 := by omega
    -- the view of the mark k is that of the mark k + shift of jx
    have S : zSbk (zVm jx (k + zsh (ia 17 1))) (zVm (zKe jx) k) := by
      have m : ∀ j : Int, 0 ≤ j → j < 8 → zKe jx 18 (8 * k + j) = jx 18 (8 * (k + zsh (ia 17 1)) + j) := fun j h3 h4 => by
        rw [e18 _ (by omega) (by omega), F.2.1, show 8 * zsh (ia 17 1) + (8 * k + j) = 8 * (k + zsh (ia 17 1)) + j by omega]
      refine ⟨?_, m _ (by decide) (by decide), m _ (by decide) (by decide), m _ (by decide) (by decide), fun h h3 h4 => m _ (by omega) (by omega), fun v h3 h4 => ⟨?_, ?_, fun s h5 h7 => ⟨?_, zKe_To⟩⟩⟩
      · have h := m 0 (by decide) (by decide)
        rw [show 8 * k + 0 = 8 * k by omega, show 8 * (k + zsh (ia 17 1)) + 0 = 8 * (k + zsh (ia 17 1)) by omega] at h
        exact h
      · show zKe jx 4 _ = jx 4 _
        rw [zKe_c (by decide) (by decide)]
      · show zKe jx 5 _ = jx 5 _
        rw [zKe_c (by decide) (by decide)]
      · show zKe jx 6 _ = jx 6 _
        rw [zKe_c (by decide) (by decide)]
    refine zVw_cg ?_ S
    by_cases e : k + zsh (ia 17 1) = ia 17 1
    · rw [e]
      refine zVw_g (zVw_cg V (zFm_vm F)) (fun i h3 h4 => ?_)
      rw [zKp_26 h6 (by omega) hc (by rw [p1]; omega) ⟨h3, h4⟩, p1, if_pos e]
    · obtain ⟨v1, v2⟩ := p2 (k + zsh (ia 17 1)) hk2.1 (by omega)
      refine zVw_g (zFm_old F hk2.1 (by omega) v2 v1) (fun i h3 h4 => ?_)
      rw [zKp_26 h6 (by omega) hc (by rw [p1]; omega) ⟨h3, h4⟩, p1, if_neg e]
  · rw [ec k h1 h2]
    split
    · omega
    · have := (p2 (k + zsh (ia 17 1)) (by omega) (by omega)).2
      omega
  · rw [ec k h1 (by omega), ec k2 (by omega) h3]
    split
    · rw [if_pos (by omega)]
      omega
    · split
      · exact (p2 (k + zsh (ia 17 1)) (by omega) (by omega)).2
      · exact p3 _ _ (by omega) (by omega) (by omega)
/-! undo -/
theorem zUn_fm {ia : Nat → Int → Int} : zBa (zu ia 17 1 (ia 17 1 - 1)) 17 1 = ia 17 1 - 1 := by
  rw [zBa_c (by decide) (by decide) (by decide), zu_same]
theorem zUn_vw {ia : Nat → Int → Int} {g : Int → Int} (V : zVw (zVm ia (ia 17 1 - 1)) g) : zVw (zBa (zu ia 17 1 (ia 17 1 - 1))) g := by
  have h := zBa_vm (jx := zu ia 17 1 (ia 17 1 - 1))
  rw [zu_same] at h
  exact zVw_cg V h
theorem zPa_undo {ia ib jb : Nat → Int → Int} (P : zPa ia ib) (h1 : 1 ≤ ia 17 1) (h5 : jb 24 5 = ia 17 1 - 1) (h26 : jb 26 = ib 26) : zPa (zBa (zu ia 17 1 (ia 17 1 - 1))) jb := by
  obtain ⟨p0, p1, p2, p3⟩ := P
  have e18 : zBa (zu ia 17 1 (ia 17 1 - 1)) 18 = ia 18 := zBa_c (by decide) (by decide) (by decide)
  have e3 : zBa (zu ia 17 1 (ia 17 1 - 1)) 3 0 = ia 18 (8 * (ia 17 1 - 1)) := by
    rw [zBa_3, zu_same]
    rfl
  unfold zPa
  rw [zUn_fm, e18, e3, h5, h26]
  refine ⟨by omega, rfl, fun k h2 h3 => ⟨?_, p3 k _ h2 (by omega) (by omega)⟩, fun k k2 h2 h3 h4 => p3 k k2 h2 h3 (by omega)⟩
  obtain ⟨v1, v2⟩ := p2 k h2 (by omega)
  refine zVw_cg v1 ⟨?_, ?_, ?_, ?_, fun h h3 h4 => ?_, fun v h3 h4 => ⟨?_, ?_, fun s h5 h6 => ⟨?_, zBa_To⟩⟩⟩
  · show zBa (zu ia 17 1 (ia 17 1 - 1)) 18 _ = ia 18 _
    rw [e18]
  · show zBa (zu ia 17 1 (ia 17 1 - 1)) 18 _ = ia 18 _
    rw [e18]
  · show zBa (zu ia 17 1 (ia 17 1 - 1)) 18 _ = ia 18 _
    rw [e18]
  · show zBa (zu ia 17 1 (ia 17 1 - 1)) 18 _ = ia 18 _
    rw [e18]
  · show zBa (zu ia 17 1 (ia 17 1 - 1)) 18 _ = ia 18 _
    rw [e18]
  · show zBa (zu ia 17 1 (ia 17 1 - 1)) 4 _ = ia 4 _
    rw [zBa_c (by decide) (by decide) (by decide)]
    rfl
  · show zBa (zu ia 17 1 (ia 17 1 - 1)) 5 _ = ia 5 _
    rw [zBa_c (by decide) (by decide) (by decide)]
    rfl
  · show zBa (zu ia 17 1 (ia 17 1 - 1)) 6 _ = ia 6 _
    rw [zBa_c (by decide) (by decide) (by decide)]
    rfl
