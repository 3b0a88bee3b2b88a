/-! THE RELATION: VIEWS AND ROWS -/
/-- the row has what the books of ja have, and these are sound in all that is asked of them -/
def zVw (ja : Nat → Int → Int) (g : Int → Int) : Prop := zRw ja g ∧ zCS ja ∧ ja 5 0 = 0 ∧ ja 2 3 + ja 2 4 + 1 = ja 3 0
/-- two heaps have the same books -/
def zSbk (ja jb : Nat → Int → Int) : Prop := jb 3 0 = ja 3 0 ∧ jb 2 2 = ja 2 2 ∧ jb 2 3 = ja 2 3 ∧ jb 2 4 = ja 2 4 ∧ (∀ h : Int, 0 ≤ h → h < 4 → jb 8 h = ja 8 h) ∧
  ∀ v : Int, 0 ≤ v → v < ja 3 0 → jb 4 v = ja 4 v ∧ jb 5 v = ja 5 v ∧ ∀ s : Int, 0 ≤ s → s < 31 → jb 6 (v * 31 + s) = ja 6 (v * 31 + s) ∧ zTo jb v s = zTo ja v s
theorem zSbk_refl {ja : Nat → Int → Int} : zSbk ja ja := ⟨rfl, rfl, rfl, rfl, fun _ _ _ => rfl, fun _ _ _ => ⟨rfl, rfl, fun _ _ _ => ⟨rfl, rfl⟩⟩⟩
theorem zCI_cg {ja jb : Nat → Int → Int} (I : zCI ja) (S : zSbk ja jb) : zCI jb := by
  obtain ⟨s0, s1, s2, s3, s4, s5⟩ := S
  obtain ⟨i0, i1, i2, i3, i4, i5, i6⟩ := I
  refine ⟨by rw [s0]; exact i0, fun v h1 h2 => ?_, fun v s h1 h2 h3 h4 => ?_, fun v s h1 h2 h3 h4 => ?_, fun h h1 h2 => ?_, by rw [s1]; exact i5, by rw [s2, s3]; exact i6⟩
  · rw [s0] at h2
    rw [(s5 v h1 h2).1, (s5 v h1 h2).2.1]
    exact i1 v h1 h2
  · rw [s0] at h2
    rw [((s5 v h1 h2).2.2 s h3 h4).1]
    exact i2 v s h1 h2 h3 h4
  · rw [s0] at h2
    rw [((s5 v h1 h2).2.2 s h3 h4).2]
    exact i3 v s h1 h2 h3 h4
  · rw [s4 h h1 h2, s0]
    exact i4 h h1 h2
theorem zVw_cg {ja jb : Nat → Int → Int} {g : Int → Int} (V : zVw ja g) (S : zSbk ja jb) : zVw jb g := by
  have I2 := zCI_cg V.1.1 S
  obtain ⟨s0, s1, s2, s3, s4, s5⟩ := S
  obtain ⟨⟨I, r0, r1, r2, r3, r4, r5⟩, cs, y0, bw⟩ := V
  have hn := I.1
  refine ⟨⟨I2, by rw [s0]; exact r0, by rw [s1]; exact r1, by rw [s2]; exact r2, by rw [s3]; exact r3, fun h h1 h2 => ?_, fun v h1 h2 => ?_⟩, fun v s h1 h2 h3 h4 => ?_, ?_, by rw [s0, s2, s3]; exact bw⟩
  · rw [s4 h h1 h2]
    exact r4 h h1 h2
  · rw [s0] at h2
    obtain ⟨a1, a2, a3⟩ := s5 v h1 h2
    obtain ⟨b1, b2, b3, b4⟩ := r5 v h1 h2
    refine ⟨by rw [a1]; exact b1, by rw [a2]; exact b2, fun l h3 h4 => ?_, fun s h3 h4 => ?_⟩
    · rw [(a3 (15 + l) (by omega) (by omega)).2]
      exact b3 l h3 h4
    · rw [(a3 s h3 h4).1]
      exact b4 s h3 h4
  · rw [s0] at h2
    obtain ⟨a1, a2, a3⟩ := s5 v h1 h2
    rw [(a3 s h3 (by omega)).2, (a3 (2 * s + 1) (by omega) (by omega)).2, (a3 (2 * s + 2) (by omega) (by omega)).2]
    exact cs v s h1 h2 h3 h4
  · rw [(s5 0 (by omega) (by omega)).2.1]
    exact y0
theorem zVw_g {ja : Nat → Int → Int} {g g2 : Int → Int} (V : zVw ja g) (hg : ∀ i : Int, 0 ≤ i → i < 1968 → g2 i = g i) : zVw ja g2 := by
  obtain ⟨⟨I, r0, r1, r2, r3, r4, r5⟩, cs, y0, bw⟩ := V
  have hn := I.1
  refine ⟨⟨I, by rw [hg 0 (by omega) (by omega)]; exact r0, by rw [hg 1 (by omega) (by omega)]; exact r1, by rw [hg 2 (by omega) (by omega)]; exact r2, by rw [hg 3 (by omega) (by omega)]; exact r3, fun h h1 h2 => ?_, fun v h1 h2 => ?_⟩, cs, y0, bw⟩
  · rw [hg _ (by omega) (by omega)]
    exact r4 h h1 h2
  · obtain ⟨b1, b2, b3, b4⟩ := r5 v h1 h2
    refine ⟨by rw [hg _ (by omega) (by omega)]; exact b1, by rw [hg _ (by omega) (by omega)]; exact b2, fun l h3 h4 => ?_, fun s h3 h4 => ?_⟩
    · rw [hg _ (by omega) (by omega)]
      exact b3 l h3 h4
    · rw [hg _ (by omega) (by omega)]
      exact b4 s h3 h4
/-- versions are only added -/
def zGv (ia ib : Nat → Int → Int) : Prop := (ia 3 0 ≤ ib 3 0 ∧ ib 3 0 ≤ 40) ∧ ∀ v : Int, 0 ≤ v → v < ia 3 0 → ib 4 v = ia 4 v ∧ ib 5 v = ia 5 v ∧ ∀ s : Int, 0 ≤ s → s < 31 → ib 6 (v * 31 + s) = ia 6 (v * 31 + s) ∧ zTo ib v s = zTo ia v s
theorem zGv_tr {ia ib ic : Nat → Int → Int} (A : zGv ia ib) (B : zGv ib ic) : zGv ia ic := by
  refine ⟨⟨Int.le_trans A.1.1 B.1.1, B.1.2⟩, fun v h1 h2 => ?_⟩
  obtain ⟨a1, a2, a3⟩ := A.2 v h1 h2
  obtain ⟨b1, b2, b3⟩ := B.2 v h1 (Int.lt_of_lt_of_le h2 A.1.1)
  exact ⟨b1.trans a1, b2.trans a2, fun s h3 h4 => ⟨(b3 s h3 h4).1.trans (a3 s h3 h4).1, (b3 s h3 h4).2.trans (a3 s h3 h4).2⟩⟩
theorem zGv_refl {ia : Nat → Int → Int} (h : ia 3 0 ≤ 40) : zGv ia ia := ⟨⟨Int.le_refl _, h⟩, fun _ _ _ => ⟨rfl, rfl, fun _ _ _ => ⟨rfl, rfl⟩⟩⟩
/-- a house's ledger -/
theorem zVw_led {ia : Nat → Int → Int} {g : Int → Int} {h x : Int} (V : zVw ia g) (hh : 0 ≤ h ∧ h < 4) (hx : 0 ≤ x ∧ x < ia 3 0) : zVw (zu ia 8 h x) (zru g (4 + h) x) := by
  obtain ⟨⟨I, r0, r1, r2, r3, r4, r5⟩, cs, y0, bw⟩ := V
  obtain ⟨i0, i1, i2, i3, i4, i5, i6⟩ := I
  refine ⟨⟨⟨i0, i1, i2, i3, fun k h1 h2 => ?_, i5, i6⟩, ?_, ?_, ?_, ?_, fun k h1 h2 => ?_, fun v h1 h2 => ?_⟩, cs, y0, bw⟩
  · show 0 ≤ zu ia 8 h x 8 k ∧ zu ia 8 h x 8 k < ia 3 0
    by_cases e : k = h
    · subst e
      unfold zu
      rw [if_pos ⟨rfl, rfl⟩]
      exact hx
    · rw [zu_ni e]
      exact i4 k h1 h2
  · rw [zru_ne (by omega)]; exact r0
  · rw [zru_ne (by omega)]; exact r1
  · rw [zru_ne (by omega)]; exact r2
  · rw [zru_ne (by omega)]; exact r3
  · by_cases e : k = h
    · subst e
      unfold zu
      rw [zru_at (by omega), if_pos ⟨rfl, rfl⟩]
    · rw [zru_ne (by omega), zu_ni e]
      exact r4 k h1 h2
  · obtain ⟨b1, b2, b3, b4⟩ := r5 v h1 h2
    refine ⟨by rw [zru_ne (by omega)]; exact b1, by rw [zru_ne (by omega)]; exact b2, fun l h3 h4 => by rw [zru_ne (by omega)]; exact b3 l h3 h4, fun s h3 h4 => by rw [zru_ne (by omega)]; exact b4 s h3 h4⟩
/-- the year -/
theorem zVw_year {ia : Nat → Int → Int} {g : Int → Int} {x : Int} (V : zVw ia g) (hx : 0 ≤ x ∧ x ≤ 99) : zVw (zu ia 2 2 x) (zru g 1 x) := by
  obtain ⟨⟨I, r0, r1, r2, r3, r4, r5⟩, cs, y0, bw⟩ := V
  obtain ⟨i0, i1, i2, i3, i4, i5, i6⟩ := I
  refine ⟨⟨⟨i0, i1, i2, i3, i4, hx, i6⟩, ?_, ?_, ?_, ?_, fun k h1 h2 => ?_, fun v h1 h2 => ?_⟩, cs, y0, bw⟩
  · rw [zru_ne (by omega)]; exact r0
  · rw [zru_at rfl]; rfl
  · rw [zru_ne (by omega)]; exact r2
  · rw [zru_ne (by omega)]; exact r3
  · rw [zru_ne (by omega)]; exact r4 k h1 h2
  · obtain ⟨b1, b2, b3, b4⟩ := r5 v h1 h2
    refine ⟨by rw [zru_ne (by omega)]; exact b1, by rw [zru_ne (by omega)]; exact b2, fun l h3 h4 => by rw [zru_ne (by omega)]; exact b3 l h3 h4, fun s h3 h4 => by rw [zru_ne (by omega)]; exact b4 s h3 h4⟩
/-- a new version: the class's heap -/
def zNw9 (ia1 : Nat → Int → Int) (h N j : Int) : Nat → Int → Int := zu (zu ia1 8 h N) 2 j (ia1 2 j + 1)
theorem zNw9_c {ia1 : Nat → Int → Int} {h N j : Int} {c : Nat} (h8 : c ≠ 8) (h2 : c ≠ 2) : zNw9 ia1 h N j c = ia1 c := by
  funext i
  unfold zNw9
  rw [zu_nc h2, zu_nc h8]
theorem zNw9_gv {ia ia1 : Nat → Int → Int} {fr amt : Int → Int} {p y h j : Int} (J : zGI ia fr amt p y (-1) ia1) (h0 : ia 3 0 < 40) : zGv ia (zNw9 ia1 h (ia 3 0) j) := by
  obtain ⟨j0, j1, j2, j3, j4, j5, j6, j7, j8, j9, j10⟩ := J
  refine ⟨?_, fun v h1 h2 => ?_⟩
  · rw [zNw9_c (by decide) (by decide)]
    omega
  · rw [zNw9_c (c := 4) (by decide) (by decide), zNw9_c (c := 5) (by decide) (by decide), zNw9_c (c := 6) (by decide) (by decide)]
    refine ⟨(j4 v h1 h2).1, (j4 v h1 h2).2, fun s h3 h4 => ?_⟩
    have e : zTo (zNw9 ia1 h (ia 3 0) j) v s = zTo ia1 v s := by
      unfold zTo
      rw [zNw9_c (c := 6) (by decide) (by decide), zNw9_c (c := 7) (by decide) (by decide)]
    rw [e]
    exact j3 v s h1 h2 h3 h4
theorem zVw_new {ia ia1 : Nat → Int → Int} {g g2 fr amt : Int → Int} {h j : Int} (V : zVw ia g) (J : zGI ia fr amt (ia 8 h) (ia 2 2) (-1) ia1) (hh : 0 ≤ h ∧ h < 4) (h0 : ia 3 0 < 40) (hj : j = 3 ∨ j = 4)
    (q0 : g2 0 = ia 3 0 + 1) (q1 : g2 1 = g 1) (q2 : g2 2 = if j = 3 then g 2 + 1 else g 2) (q3 : g2 3 = if j = 4 then g 3 + 1 else g 3) (q4 : ∀ k : Int, 0 ≤ k → k < 4 → g2 (4 + k) = if k = h then ia 3 0 else g (4 + k))
    (q5 : ∀ v x : Int, 0 ≤ v → v < ia 3 0 → 0 ≤ x → x < 49 → g2 (8 + 49 * v + x) = g (8 + 49 * v + x)) (q6 : g2 (8 + 49 * ia 3 0 + 0) = ia 8 h) (q7 : g2 (8 + 49 * ia 3 0 + 1) = ia 2 2)
    (q8 : ∀ l : Int, 0 ≤ l → l < 16 → g2 (8 + 49 * ia 3 0 + (2 + l)) = amt l) (q9 : ∀ s : Int, 0 ≤ s → s < 31 → g2 (8 + 49 * ia 3 0 + (18 + s)) = if fr s = ia 3 0 then ia 3 0 else ia 6 (fr s * 31 + s)) : zVw (zNw9 ia1 h (ia 3 0) j) g2 := by
  obtain ⟨⟨I, r0, r1, r2, r3, r4, r5⟩, cs, y0, bw⟩ := V
  have hn := I.1
  obtain ⟨j0, j1, j2, j3, j4, j5, j6, j7, j8, j9, j10⟩ := J
  have eT : ∀ v s : Int, zTo (zNw9 ia1 h (ia 3 0) j) v s = zTo ia1 v s := fun v s => by
    unfold zTo
    rw [zNw9_c (c := 6) (by decide) (by decide), zNw9_c (c := 7) (by decide) (by decide)]
  have e3 : zNw9 ia1 h (ia 3 0) j 3 = ia1 3 := zNw9_c (by decide) (by decide)
  have e4 : zNw9 ia1 h (ia 3 0) j 4 = ia1 4 := zNw9_c (by decide) (by decide)
  have e5 : zNw9 ia1 h (ia 3 0) j 5 = ia1 5 := zNw9_c (by decide) (by decide)
  have e6 : zNw9 ia1 h (ia 3 0) j 6 = ia1 6 := zNw9_c (by decide) (by decide)
  have e8 : ∀ k : Int, zNw9 ia1 h (ia 3 0) j 8 k = if k = h then ia 3 0 else ia 8 k := fun k => by
    unfold zNw9
    rw [zu_nc (by decide)]
    by_cases e : k = h
    · rw [if_pos e]
      unfold zu
      rw [if_pos ⟨rfl, e⟩]
    · rw [if_neg e, zu_ni e, j2 8 (by decide) (by decide) (by decide) (by decide) (by decide)]
  have e2 : ∀ k : Int, zNw9 ia1 h (ia 3 0) j 2 k = if k = j then ia 2 j + 1 else ia 2 k := fun k => by
    unfold zNw9
    have e9 : ia1 2 = ia 2 := j2 2 (by decide) (by decide) (by decide) (by decide) (by decide)
    by_cases e : k = j
    · rw [if_pos e]
      unfold zu
      rw [if_pos ⟨rfl, e⟩, e9]
    · rw [if_neg e, zu_ni e, zu_nc (by decide), e9]
  obtain ⟨c0, c1, c2, c3, c4, c5, c6⟩ := j0
  refine ⟨⟨⟨?_, ?_, ?_, ?_, fun k h1 h2 => ?_, ?_, ?_⟩, ?_, ?_, ?_, ?_, fun k h1 h2 => ?_, fun v h1 h2 => ?_⟩, fun v s h1 h2 h3 h4 => ?_, ?_, ?_⟩
  · rw [e3]; exact c0
  · rw [e3, e4, e5]; exact c1
  · rw [e3, e6]; exact c2
  · intro v s h1 h2 h3 h4
    rw [eT]
    rw [e3] at h2
    exact c3 v s h1 h2 h3 h4
  · rw [e8, e3, j1]
    have := I.2.2.2.2.1 k h1 h2
    split <;> omega
  · rw [e2, if_neg (by omega)]; exact I.2.2.2.2.2.1
  · have := I.2.2.2.2.2.2
    rw [e2, e2]
    rcases hj with rfl | rfl
    · rw [if_pos rfl, if_neg (by decide)]; omega
    · rw [if_neg (by decide), if_pos rfl]; omega
  · rw [e3, j1]; exact q0
  · rw [e2, if_neg (by omega), q1]; exact r1
  · rw [e2, q2]
    rcases hj with rfl | rfl
    · rw [if_pos rfl, if_pos rfl, r2]
    · rw [if_neg (by decide), if_neg (by decide), r2]
  · rw [e2, q3]
    rcases hj with rfl | rfl
    · rw [if_neg (by decide), if_neg (by decide), r3]
    · rw [if_pos rfl, if_pos rfl, r3]
  · rw [e8, q4 k h1 h2, r4 k h1 h2]
  · rw [e3, j1] at h2
    rw [e4, e5, e6]
    by_cases hv : v < ia 3 0
    · obtain ⟨b1, b2, b3, b4⟩ := r5 v h1 hv
      refine ⟨?_, ?_, fun l h3 h4 => ?_, fun s h3 h4 => ?_⟩
      · rw [q5 v 0 h1 hv (by omega) (by omega), b1, (j4 v h1 hv).1]
      · rw [q5 v 1 h1 hv (by omega) (by omega), b2, (j4 v h1 hv).2]
      · rw [eT, q5 v (2 + l) h1 hv (by omega) (by omega), b3 l h3 h4, (j3 v (15 + l) h1 hv (by omega) (by omega)).2]
      · rw [q5 v (18 + s) h1 hv (by omega) (by omega), b4 s h3 h4, (j3 v s h1 hv h3 h4).1]
    · obtain rfl : v = ia 3 0 := by omega
      refine ⟨by rw [q6, j5], by rw [q7, j6], fun l h3 h4 => ?_, fun s h3 h4 => ?_⟩
      · rw [eT, q8 l h3 h4, j9 l h3 h4 (by omega)]
      · rw [q9 s h3 h4]
        have hs := j8 s (by omega) h3 h4
        split
        · rename_i e
          exact (hs.1 e).symm
        · rename_i e
          exact (hs.2 e).1.symm
  · rw [e3, j1] at h2
    rw [eT, eT, eT]
    by_cases hv : v < ia 3 0
    · rw [(j3 v s h1 hv h3 (by omega)).2, (j3 v (2 * s + 1) h1 hv (by omega) (by omega)).2, (j3 v (2 * s + 2) h1 hv (by omega) (by omega)).2]
      exact cs v s h1 hv h3 h4
    · obtain rfl : v = ia 3 0 := by omega
      exact j10 s (by omega) h3 h4
  · rw [e5, (j4 0 (by omega) (by omega)).2]
    exact y0
  · rw [e3, e2, e2, j1]
    rcases hj with rfl | rfl
    · rw [if_pos rfl, if_neg (by decide)]; omega
    · rw [if_neg (by decide), if_pos rfl]; omega
