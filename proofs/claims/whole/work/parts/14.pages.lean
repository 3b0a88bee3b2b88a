/-! A NEW VERSION'S PAGES: the invariant of the loops of addWritten and addGrafted -/
/-- the cells behind addChild -/
def zAC (ia : Nat → Int → Int) (par yr : Int) : Nat → Int → Int := zcp (zu (zu (zu ia 3 0 (ia 3 0 + 1)) 4 (ia 3 0) par) 5 (ia 3 0) yr) 6 (par * 31) 6 (ia 3 0 * 31) 31
/-- from which version the page of the new version N for a span is: N where it is new -/
def zFr (ia0 : Nat → Int → Int) (fr amt : Int → Int) : Prop :=
  (∀ s : Int, 0 ≤ s → s < 31 → 0 ≤ fr s ∧ fr s ≤ ia0 3 0) ∧
  (∀ s : Int, 0 ≤ s → s < 15 → fr s ≠ ia0 3 0 → fr (2 * s + 1) = fr s ∧ fr (2 * s + 2) = fr s) ∧
  (∀ l : Int, 0 ≤ l → l < 16 → fr (15 + l) ≠ ia0 3 0 → amt l = zTo ia0 (fr (15 + l)) (15 + l)) ∧
  (∀ l : Int, 0 ≤ l → l < 16 → 0 ≤ amt l ∧ amt l ≤ 999)
/-- the spans above k are done -/
def zGI (ia0 : Nat → Int → Int) (fr amt : Int → Int) (par yr k : Int) (ia : Nat → Int → Int) : Prop :=
  zCI ia ∧ ia 3 0 = ia0 3 0 + 1 ∧
  (∀ c : Nat, c ≠ 3 → c ≠ 4 → c ≠ 5 → c ≠ 6 → c ≠ 7 → ia c = ia0 c) ∧
  (∀ v s : Int, 0 ≤ v → v < ia0 3 0 → 0 ≤ s → s < 31 → ia 6 (v * 31 + s) = ia0 6 (v * 31 + s) ∧ zTo ia v s = zTo ia0 v s) ∧
  (∀ v : Int, 0 ≤ v → v < ia0 3 0 → ia 4 v = ia0 4 v ∧ ia 5 v = ia0 5 v) ∧ ia 4 (ia0 3 0) = par ∧ ia 5 (ia0 3 0) = yr ∧
  (∀ s : Int, 0 ≤ s → s ≤ k → s < 31 → ia 6 (ia0 3 0 * 31 + s) = ia0 6 (par * 31 + s) ∧ zTo ia (ia0 3 0) s = zTo ia0 par s) ∧
  (∀ s : Int, k < s → 0 ≤ s → s < 31 → (fr s = ia0 3 0 → ia 6 (ia0 3 0 * 31 + s) = ia0 3 0) ∧ (fr s ≠ ia0 3 0 → ia 6 (ia0 3 0 * 31 + s) = ia0 6 (fr s * 31 + s) ∧ zTo ia (ia0 3 0) s = zTo ia0 (fr s) s)) ∧
  (∀ l : Int, 0 ≤ l → l < 16 → k < 15 + l → zTo ia (ia0 3 0) (15 + l) = amt l) ∧
  (∀ s : Int, k < s → 0 ≤ s → s < 15 → zTo ia (ia0 3 0) s = zTo ia (ia0 3 0) (2 * s + 1) + zTo ia (ia0 3 0) (2 * s + 2))
/-- the sums of the pages are those of their halves -/
def zCS (ia : Nat → Int → Int) : Prop := ∀ v s : Int, 0 ≤ v → v < ia 3 0 → 0 ≤ s → s < 15 → zTo ia v s = zTo ia v (2 * s + 1) + zTo ia v (2 * s + 2)
theorem zcp_off {ia : Nat → Int → Int} {c0 c1 c : Nat} {sp dp n i : Int} (h : c ≠ c1 ∨ i < dp ∨ dp + n ≤ i) : zcp ia c0 sp c1 dp n c i = ia c i := by
  unfold zcp
  rw [if_neg (by omega)]
theorem zcp_on {ia : Nat → Int → Int} {c0 c1 : Nat} {sp dp n i : Int} (h : dp ≤ i ∧ i < dp + n) : zcp ia c0 sp c1 dp n c1 i = ia c0 (sp + (i - dp)) := by
  unfold zcp
  rw [if_pos ⟨rfl, h⟩]
theorem zAC_3 {ia : Nat → Int → Int} {par yr : Int} : zAC ia par yr 3 0 = ia 3 0 + 1 := rfl
theorem zAC_4 {ia : Nat → Int → Int} {par yr v : Int} : zAC ia par yr 4 v = if v = ia 3 0 then par else ia 4 v := by
  unfold zAC
  rw [zcp_off (Or.inl (by decide)), zu_cell (by decide)]
  unfold zu
  by_cases h : v = ia 3 0
  · rw [if_pos h, if_pos ⟨rfl, h⟩]
  · rw [if_neg h, if_neg (fun e => h e.2), if_neg (by omega)]
theorem zAC_5 {ia : Nat → Int → Int} {par yr v : Int} : zAC ia par yr 5 v = if v = ia 3 0 then yr else ia 5 v := by
  unfold zAC
  rw [zcp_off (Or.inl (by decide))]
  unfold zu
  by_cases h : v = ia 3 0
  · rw [if_pos h, if_pos ⟨rfl, h⟩]
  · rw [if_neg h, if_neg (fun e => h e.2), if_neg (by omega), if_neg (by omega)]
theorem zAC_6 {ia : Nat → Int → Int} {par yr v s : Int} (hs : 0 ≤ s ∧ s < 31) : zAC ia par yr 6 (v * 31 + s) = if v = ia 3 0 then ia 6 (par * 31 + s) else ia 6 (v * 31 + s) := by
  unfold zAC
  by_cases h : v = ia 3 0
  · rw [if_pos h, zcp_on (by omega), zu_cell (by decide), zu_cell (by decide), zu_cell (by decide), show par * 31 + (v * 31 + s - ia 3 0 * 31) = par * 31 + s by omega]
  · rw [if_neg h, zcp_off (Or.inr (by omega)), zu_cell (by decide), zu_cell (by decide), zu_cell (by decide)]
theorem zAC_c {ia : Nat → Int → Int} {par yr : Int} {c : Nat} (h3 : c ≠ 3) (h4 : c ≠ 4) (h5 : c ≠ 5) (h6 : c ≠ 6) : zAC ia par yr c = ia c := by
  funext i
  unfold zAC
  rw [zcp_off (Or.inl h6), zu_cell h5, zu_cell h4, zu_cell h3]
theorem zAC_To {ia : Nat → Int → Int} {par yr v s : Int} (hs : 0 ≤ s ∧ s < 31) : zTo (zAC ia par yr) v s = if v = ia 3 0 then zTo ia par s else zTo ia v s := by
  unfold zTo
  rw [zAC_6 hs, zAC_c (c := 7) (by decide) (by decide) (by decide) (by decide)]
  split <;> rfl
theorem zAC_CI {ia : Nat → Int → Int} {par yr : Int} (I : zCI ia) (hp : 0 ≤ par ∧ par < ia 3 0) (hy : 0 ≤ yr ∧ yr ≤ 99) (hc : ia 3 0 < 40) : zCI (zAC ia par yr) := by
  have h3 : zAC ia par yr 3 0 = ia 3 0 + 1 := zAC_3
  have h8 : zAC ia par yr 8 = ia 8 := zAC_c (by decide) (by decide) (by decide) (by decide)
  have h2 : zAC ia par yr 2 = ia 2 := zAC_c (by decide) (by decide) (by decide) (by decide)
  refine ⟨by rw [h3]; have := I.1; omega, fun v g1 g2 => ?_, fun v s g1 g2 g3 g4 => ?_, fun v s g1 g2 g3 g4 => ?_, fun h g1 g2 => ?_, by rw [h2]; exact I.2.2.2.2.2.1, by rw [h2]; exact I.2.2.2.2.2.2⟩
  · rw [h3] at g2
    rw [zAC_4, zAC_5]
    by_cases h : v = ia 3 0
    · rw [if_pos h, if_pos h]
      omega
    · rw [if_neg h, if_neg h]
      exact I.2.1 v g1 (by omega)
  · rw [h3] at g2
    rw [zAC_6 ⟨g3, g4⟩]
    by_cases h : v = ia 3 0
    · rw [if_pos h]
      have := I.2.2.1 par s hp.1 hp.2 g3 g4
      omega
    · rw [if_neg h]
      exact I.2.2.1 v s g1 (by omega) g3 g4
  · rw [h3] at g2
    rw [zAC_To ⟨g3, g4⟩]
    by_cases h : v = ia 3 0
    · rw [if_pos h]
      exact I.2.2.2.1 par s hp.1 hp.2 g3 g4
    · rw [if_neg h]
      exact I.2.2.2.1 v s g1 (by omega) g3 g4
  · rw [h3, h8]
    have := I.2.2.2.2.1 h g1 g2
    omega
theorem zGI_init {ia0 : Nat → Int → Int} {fr amt : Int → Int} {par yr : Int} (I : zCI ia0) (hp : 0 ≤ par ∧ par < ia0 3 0) (hy : 0 ≤ yr ∧ yr ≤ 99) (hc : ia0 3 0 < 40) : zGI ia0 fr amt par yr 30 (zAC ia0 par yr) := by
  refine ⟨zAC_CI I hp hy hc, zAC_3, fun c h3 h4 h5 h6 _ => zAC_c h3 h4 h5 h6, fun v s g1 g2 g3 g4 => ?_, fun v g1 g2 => ?_, ?_, ?_, fun s g1 g2 g3 => ?_, fun s g1 g2 g3 => by omega, fun l g1 g2 g3 => by omega, fun s g1 g2 g3 => by omega⟩
  · rw [zAC_6 ⟨g3, g4⟩, zAC_To ⟨g3, g4⟩, if_neg (by omega), if_neg (by omega)]
    exact ⟨rfl, rfl⟩
  · rw [zAC_4, zAC_5, if_neg (by omega), if_neg (by omega)]
    exact ⟨rfl, rfl⟩
  · rw [zAC_4, if_pos rfl]
  · rw [zAC_5, if_pos rfl]
  · rw [zAC_6 ⟨g1, g3⟩, zAC_To ⟨g1, g3⟩, if_pos rfl, if_pos rfl]
    exact ⟨rfl, rfl⟩
/-- a page made: N's for the span k, with the sum t -/
def zMP (ia : Nat → Int → Int) (N k t : Int) : Nat → Int → Int := zu (zu ia 6 (N * 31 + k) N) 7 (N * 31 + k) t
theorem zMP_6 {ia : Nat → Int → Int} {N k t v s : Int} (hs : 0 ≤ s ∧ s < 31) (hk : 0 ≤ k ∧ k < 31) : zMP ia N k t 6 (v * 31 + s) = if v = N ∧ s = k then N else ia 6 (v * 31 + s) := by
  unfold zMP
  rw [zu_cell (by decide)]
  unfold zu
  by_cases h : v = N ∧ s = k
  · rw [if_pos h, if_pos ⟨rfl, by rw [h.1, h.2]⟩]
  · rw [if_neg h, if_neg (by omega)]
theorem zMP_c {ia : Nat → Int → Int} {N k t : Int} {c : Nat} (h6 : c ≠ 6) (h7 : c ≠ 7) : zMP ia N k t c = ia c := by
  funext i
  unfold zMP
  rw [zu_cell h7, zu_cell h6]
theorem zMP_To {ia : Nat → Int → Int} {N k t v s : Int} (I : zCI ia) (hN : ia 3 0 = N + 1) (hv : 0 ≤ v ∧ v ≤ N) (hs : 0 ≤ s ∧ s < 31) (hk : 0 ≤ k ∧ k < 31) : zTo (zMP ia N k t) v s = if v = N ∧ s = k then t else zTo ia v s := by
  unfold zTo
  rw [zMP_6 hs hk]
  by_cases h : v = N ∧ s = k
  · rw [if_pos h, if_pos h]
    unfold zMP
    rw [h.2, zu_same]
  · rw [if_neg h, if_neg h]
    have hm := I.2.2.1 v s hv.1 (by omega) hs.1 hs.2
    unfold zMP
    rw [zu_place (by omega), zu_cell (by decide)]
theorem zMP_CI {ia : Nat → Int → Int} {N k t : Int} (I : zCI ia) (hN : ia 3 0 = N + 1) (hN0 : 0 ≤ N) (hk : 0 ≤ k ∧ k < 31) (ht : 0 ≤ t ∧ t ≤ 999 * (zhig k - zlow k + 1)) : zCI (zMP ia N k t) := by
  have h3 : zMP ia N k t 3 = ia 3 := zMP_c (by decide) (by decide)
  have h4 : zMP ia N k t 4 = ia 4 := zMP_c (by decide) (by decide)
  have h5 : zMP ia N k t 5 = ia 5 := zMP_c (by decide) (by decide)
  have h8 : zMP ia N k t 8 = ia 8 := zMP_c (by decide) (by decide)
  have h2 : zMP ia N k t 2 = ia 2 := zMP_c (by decide) (by decide)
  refine ⟨by rw [h3]; exact I.1, by rw [h3, h4, h5]; exact I.2.1, fun v s g1 g2 g3 g4 => ?_, fun v s g1 g2 g3 g4 => ?_, by rw [h3, h8]; exact I.2.2.2.2.1, by rw [h2]; exact I.2.2.2.2.2.1, by rw [h2]; exact I.2.2.2.2.2.2⟩
  · rw [h3] at g2
    rw [zMP_6 ⟨g3, g4⟩ hk]
    by_cases h : v = N ∧ s = k
    · rw [if_pos h]
      omega
    · rw [if_neg h]
      exact I.2.2.1 v s g1 g2 g3 g4
  · rw [h3] at g2
    rw [zMP_To I hN ⟨g1, by omega⟩ ⟨g3, g4⟩ hk]
    by_cases h : v = N ∧ s = k
    · rw [if_pos h, h.2]
      exact ht
    · rw [if_neg h]
      exact I.2.2.2.1 v s g1 g2 g3 g4
theorem zhalf {s : Int} (h : 0 ≤ s ∧ s < 15) : zlow s = zlow (2 * s + 1) ∧ zhig (2 * s + 1) + 1 = zlow (2 * s + 2) ∧ zhig (2 * s + 2) = zhig s := by
  unfold zlow zhig
  omega
theorem zline {l : Int} (h : 0 ≤ l ∧ l < 16) : zlow (15 + l) = l ∧ zhig (15 + l) = l := by
  unfold zlow zhig
  omega
theorem zGI_make {ia0 ia : Nat → Int → Int} {fr amt : Int → Int} {par yr k t : Int} (F : zFr ia0 fr amt) (J : zGI ia0 fr amt par yr k ia) (h0 : 1 ≤ ia0 3 0) (hk : 0 ≤ k ∧ k < 31) (hf : fr k = ia0 3 0) (ht1 : k < 15 → t = zTo ia (ia0 3 0) (2 * k + 1) + zTo ia (ia0 3 0) (2 * k + 2)) (ht2 : 15 ≤ k → t = amt (k - 15)) : zGI ia0 fr amt par yr (k - 1) (zMP ia (ia0 3 0) k t) := by
  obtain ⟨I, hN, hc, hv, hp, hp4, hp5, hlo, hhi, ham, hco⟩ := J
  have ht : 0 ≤ t ∧ t ≤ 999 * (zhig k - zlow k + 1) := by
    by_cases g : k < 15
    · have e1 := I.2.2.2.1 (ia0 3 0) (2 * k + 1) (by omega) (by omega) (by omega) (by omega)
      have e2 := I.2.2.2.1 (ia0 3 0) (2 * k + 2) (by omega) (by omega) (by omega) (by omega)
      have e3 := zhalf ⟨hk.1, g⟩
      have e4 := ht1 g
      omega
    · have e1 := F.2.2.2 (k - 15) (by omega) (by omega)
      have e2 := ht2 (by omega)
      have e3 := zline (l := k - 15) (by omega)
      rw [show 15 + (k - 15) = k by omega] at e3
      omega
  refine ⟨zMP_CI I hN (by omega) hk ht, by rw [zMP_c (by decide) (by decide)]; exact hN, fun c h3 h4 h5 h6 h7 => by rw [zMP_c h6 h7]; exact hc c h3 h4 h5 h6 h7, fun v s g1 g2 g3 g4 => ?_, by rw [zMP_c (by decide) (by decide), zMP_c (by decide) (by decide)]; exact hp, by rw [zMP_c (by decide) (by decide)]; exact hp4, by rw [zMP_c (by decide) (by decide)]; exact hp5, fun s g1 g2 g3 => ?_, fun s g1 g2 g3 => ?_, fun l g1 g2 g3 => ?_, fun s g1 g2 g3 => ?_⟩
  · rw [zMP_6 ⟨g3, g4⟩ hk, zMP_To I hN ⟨g1, by omega⟩ ⟨g3, g4⟩ hk, if_neg (by omega), if_neg (by omega)]
    exact hv v s g1 g2 g3 g4
  · rw [zMP_6 ⟨g1, g3⟩ hk, zMP_To I hN ⟨by omega, by omega⟩ ⟨g1, g3⟩ hk, if_neg (by omega), if_neg (by omega)]
    exact hlo s g1 (by omega) g3
  · rw [zMP_6 ⟨g2, g3⟩ hk, zMP_To I hN ⟨by omega, by omega⟩ ⟨g2, g3⟩ hk]
    by_cases h : s = k
    · rw [if_pos ⟨rfl, h⟩, if_pos ⟨rfl, h⟩]
      exact ⟨fun _ => rfl, fun e => absurd (by rw [h]; exact hf) e⟩
    · rw [if_neg (by omega), if_neg (by omega)]
      exact hhi s (by omega) g2 g3
  · rw [zMP_To I hN ⟨by omega, by omega⟩ ⟨by omega, by omega⟩ hk]
    by_cases h : 15 + l = k
    · rw [if_pos ⟨rfl, h⟩, ht2 (by omega), show k - 15 = l by omega]
    · rw [if_neg (by omega)]
      exact ham l g1 g2 (by omega)
  · rw [zMP_To I hN ⟨by omega, by omega⟩ ⟨by omega, by omega⟩ hk, zMP_To I hN ⟨by omega, by omega⟩ ⟨by omega, by omega⟩ hk, zMP_To I hN ⟨by omega, by omega⟩ ⟨by omega, by omega⟩ hk, if_neg (c := ia0 3 0 = ia0 3 0 ∧ 2 * s + 1 = k) (by omega), if_neg (c := ia0 3 0 = ia0 3 0 ∧ 2 * s + 2 = k) (by omega)]
    by_cases h : s = k
    · rw [if_pos ⟨rfl, h⟩, ht1 (by omega), h]
    · rw [if_neg (by omega)]
      exact hco s (by omega) g2 g3
/-- a page taken from the version u -/
def zTP (ia : Nat → Int → Int) (N k u : Int) : Nat → Int → Int := zu ia 6 (N * 31 + k) (ia 6 (u * 31 + k))
theorem zTP_6 {ia : Nat → Int → Int} {N k u v s : Int} (hs : 0 ≤ s ∧ s < 31) (hk : 0 ≤ k ∧ k < 31) : zTP ia N k u 6 (v * 31 + s) = if v = N ∧ s = k then ia 6 (u * 31 + k) else ia 6 (v * 31 + s) := by
  unfold zTP zu
  by_cases h : v = N ∧ s = k
  · rw [if_pos h, if_pos ⟨rfl, by rw [h.1, h.2]⟩]
  · rw [if_neg h, if_neg (by omega)]
theorem zTP_c {ia : Nat → Int → Int} {N k u : Int} {c : Nat} (h6 : c ≠ 6) : zTP ia N k u c = ia c := by
  funext i
  unfold zTP
  rw [zu_cell h6]
theorem zTP_To {ia : Nat → Int → Int} {N k u v s : Int} (hs : 0 ≤ s ∧ s < 31) (hk : 0 ≤ k ∧ k < 31) : zTo (zTP ia N k u) v s = if v = N ∧ s = k then zTo ia u k else zTo ia v s := by
  unfold zTo
  rw [zTP_6 hs hk, zTP_c (by decide)]
  by_cases h : v = N ∧ s = k
  · rw [if_pos h, if_pos h, h.2]
  · rw [if_neg h, if_neg h]
theorem zTP_CI {ia : Nat → Int → Int} {N k u : Int} (I : zCI ia) (hN : ia 3 0 = N + 1) (hu : 0 ≤ u ∧ u ≤ N) (hk : 0 ≤ k ∧ k < 31) : zCI (zTP ia N k u) := by
  have h3 : zTP ia N k u 3 = ia 3 := zTP_c (by decide)
  have h4 : zTP ia N k u 4 = ia 4 := zTP_c (by decide)
  have h5 : zTP ia N k u 5 = ia 5 := zTP_c (by decide)
  have h8 : zTP ia N k u 8 = ia 8 := zTP_c (by decide)
  have h2 : zTP ia N k u 2 = ia 2 := zTP_c (by decide)
  refine ⟨by rw [h3]; exact I.1, by rw [h3, h4, h5]; exact I.2.1, fun v s g1 g2 g3 g4 => ?_, fun v s g1 g2 g3 g4 => ?_, by rw [h3, h8]; exact I.2.2.2.2.1, by rw [h2]; exact I.2.2.2.2.2.1, by rw [h2]; exact I.2.2.2.2.2.2⟩
  · rw [h3] at g2
    rw [zTP_6 ⟨g3, g4⟩ hk]
    by_cases h : v = N ∧ s = k
    · rw [if_pos h]
      have := I.2.2.1 u k hu.1 (by omega) hk.1 hk.2
      omega
    · rw [if_neg h]
      exact I.2.2.1 v s g1 g2 g3 g4
  · rw [h3] at g2
    rw [zTP_To ⟨g3, g4⟩ hk]
    by_cases h : v = N ∧ s = k
    · rw [if_pos h, h.2]
      exact I.2.2.2.1 u k hu.1 (by omega) hk.1 hk.2
    · rw [if_neg h]
      exact I.2.2.2.1 v s g1 g2 g3 g4
theorem zGI_take {ia0 ia : Nat → Int → Int} {fr amt : Int → Int} {par yr k : Int} (S : zCS ia0) (F : zFr ia0 fr amt) (J : zGI ia0 fr amt par yr k ia) (h0 : 1 ≤ ia0 3 0) (hk : 0 ≤ k ∧ k < 31) (hf : fr k ≠ ia0 3 0) : zGI ia0 fr amt par yr (k - 1) (zTP ia (ia0 3 0) k (fr k)) := by
  obtain ⟨I, hN, hc, hv, hp, hp4, hp5, hlo, hhi, ham, hco⟩ := J
  have hu := F.1 k hk.1 hk.2
  obtain ⟨q1, q2⟩ := hv (fr k) k hu.1 (by omega) hk.1 hk.2
  refine ⟨zTP_CI I hN hu hk, by rw [zTP_c (by decide)]; exact hN, fun c h3 h4 h5 h6 h7 => by rw [zTP_c h6]; exact hc c h3 h4 h5 h6 h7, fun v s g1 g2 g3 g4 => ?_, by rw [zTP_c (by decide), zTP_c (by decide)]; exact hp, by rw [zTP_c (by decide)]; exact hp4, by rw [zTP_c (by decide)]; exact hp5, fun s g1 g2 g3 => ?_, fun s g1 g2 g3 => ?_, fun l g1 g2 g3 => ?_, fun s g1 g2 g3 => ?_⟩
  · rw [zTP_6 ⟨g3, g4⟩ hk, zTP_To ⟨g3, g4⟩ hk, if_neg (by omega), if_neg (by omega)]
    exact hv v s g1 g2 g3 g4
  · rw [zTP_6 ⟨g1, g3⟩ hk, zTP_To ⟨g1, g3⟩ hk, if_neg (by omega), if_neg (by omega)]
    exact hlo s g1 (by omega) g3
  · rw [zTP_6 ⟨g2, g3⟩ hk, zTP_To ⟨g2, g3⟩ hk]
    by_cases h : s = k
    · rw [if_pos ⟨rfl, h⟩, if_pos ⟨rfl, h⟩, h]
      exact ⟨fun e => absurd e hf, fun _ => ⟨q1, q2⟩⟩
    · rw [if_neg (by omega), if_neg (by omega)]
      exact hhi s (by omega) g2 g3
  · rw [zTP_To ⟨by omega, by omega⟩ hk]
    by_cases h : 15 + l = k
    · rw [if_pos ⟨rfl, h⟩, q2, F.2.2.1 l g1 g2 (by rw [h]; exact hf), h]
    · rw [if_neg (by omega)]
      exact ham l g1 g2 (by omega)
  · rw [zTP_To ⟨by omega, by omega⟩ hk, zTP_To ⟨by omega, by omega⟩ hk, zTP_To ⟨by omega, by omega⟩ hk, if_neg (c := ia0 3 0 = ia0 3 0 ∧ 2 * s + 1 = k) (by omega), if_neg (c := ia0 3 0 = ia0 3 0 ∧ 2 * s + 2 = k) (by omega)]
    by_cases h : s = k
    · obtain ⟨f1, f2⟩ := F.2.1 k hk.1 (by omega) hf
      have e1 := ((hhi (2 * k + 1) (by omega) (by omega) (by omega)).2 (by rw [f1]; exact hf)).2
      have e2 := ((hhi (2 * k + 2) (by omega) (by omega) (by omega)).2 (by rw [f2]; exact hf)).2
      rw [if_pos ⟨rfl, h⟩, q2, h, e1, e2, f1, f2]
      exact S (fr k) k hu.1 (by omega) hk.1 (by omega)
    · rw [if_neg (by omega)]
      exact hco s (by omega) g2 g3
theorem zGI_none {ia0 ia : Nat → Int → Int} {fr amt : Int → Int} {par yr k : Int} (S : zCS ia0) (F : zFr ia0 fr amt) (J : zGI ia0 fr amt par yr k ia) (hp9 : 0 ≤ par ∧ par < ia0 3 0) (hk : 0 ≤ k ∧ k < 31) (hf : fr k = par) : zGI ia0 fr amt par yr (k - 1) ia := by
  obtain ⟨I, hN, hc, hv, hp, hp4, hp5, hlo, hhi, ham, hco⟩ := J
  obtain ⟨q1, q2⟩ := hlo k hk.1 (by omega) hk.2
  refine ⟨I, hN, hc, hv, hp, hp4, hp5, fun s g1 g2 g3 => hlo s g1 (by omega) g3, fun s g1 g2 g3 => ?_, fun l g1 g2 g3 => ?_, fun s g1 g2 g3 => ?_⟩
  · by_cases h : s = k
    · rw [h, hf]
      exact ⟨fun e => by omega, fun _ => ⟨q1, q2⟩⟩
    · exact hhi s (by omega) g2 g3
  · by_cases h : 15 + l = k
    · have e := F.2.2.1 l g1 g2 (by rw [h, hf]; omega)
      rw [h, hf] at e
      rw [h, q2, e]
    · exact ham l g1 g2 (by omega)
  · by_cases h : s = k
    · obtain ⟨f1, f2⟩ := F.2.1 k hk.1 (by omega) (by rw [hf]; omega)
      have e1 := ((hhi (2 * k + 1) (by omega) (by omega) (by omega)).2 (by rw [f1, hf]; omega)).2
      have e2 := ((hhi (2 * k + 2) (by omega) (by omega) (by omega)).2 (by rw [f2, hf]; omega)).2
      rw [h, q2, e1, e2, f1, f2, hf]
      exact S par k hp9.1 hp9.2 hk.1 (by omega)
    · exact hco s (by omega) g2 g3
