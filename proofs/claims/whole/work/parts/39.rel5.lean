/-! SNAPSHOTS; WHAT A WHOLE CALL LEAVES -/
theorem zSv_c {ia : Nat → Int → Int} {c : Nat} (h : c < 10 ∨ 16 < c) : zSv ia c = ia c := by
  funext i
  unfold zSv
  rw [zu_nc (by omega), zu_nc (by omega), zu_nc (by omega), zcp_off (Or.inl (by omega)), zcp_off (Or.inl (by omega)), zcp_off (Or.inl (by omega)), zcp_off (Or.inl (by omega)), zcp_off (Or.inl (by omega)), zu_nc (by omega)]
theorem zSv_10 {ia : Nat → Int → Int} {i : Int} (hi : 2 ≤ i ∧ i ≤ 4) : zSv ia 10 i = ia 2 i := by
  have h : i = 2 ∨ i = 3 ∨ i = 4 := by omega
  unfold zSv
  rcases h with rfl | rfl | rfl
  · rw [zu_ni (by decide), zu_ni (by decide), zu_same]
  · rw [zu_ni (by decide), zu_same]
  · rw [zu_same]
theorem zSv_11 {ia : Nat → Int → Int} : zSv ia 11 0 = ia 3 0 := by
  unfold zSv
  rw [zu_nc (by omega), zu_nc (by omega), zu_nc (by omega), zcp_off (Or.inl (by omega)), zcp_off (Or.inl (by omega)), zcp_off (Or.inl (by omega)), zcp_off (Or.inl (by omega)), zcp_off (Or.inl (by omega)), zu_same]
theorem zSv_12 {ia : Nat → Int → Int} {i : Int} (hi : 0 ≤ i ∧ i < 40) : zSv ia 12 i = ia 4 i := by
  unfold zSv
  rw [zu_nc (by omega), zu_nc (by omega), zu_nc (by omega), zcp_off (Or.inl (by omega)), zcp_off (Or.inl (by omega)), zcp_off (Or.inl (by omega)), zcp_off (Or.inl (by omega)), zcp_on (by omega), zu_nc (by omega), show 0 + (i - 0) = i by omega]
theorem zSv_13 {ia : Nat → Int → Int} {i : Int} (hi : 0 ≤ i ∧ i < 40) : zSv ia 13 i = ia 5 i := by
  unfold zSv
  rw [zu_nc (by omega), zu_nc (by omega), zu_nc (by omega), zcp_off (Or.inl (by omega)), zcp_off (Or.inl (by omega)), zcp_off (Or.inl (by omega)), zcp_on (by omega), zcp_off (Or.inl (by omega)), zu_nc (by omega), show 0 + (i - 0) = i by omega]
theorem zSv_14 {ia : Nat → Int → Int} {i : Int} (hi : 0 ≤ i ∧ i < 1240) : zSv ia 14 i = ia 6 i := by
  unfold zSv
  rw [zu_nc (by omega), zu_nc (by omega), zu_nc (by omega), zcp_off (Or.inl (by omega)), zcp_off (Or.inl (by omega)), zcp_on (by omega), zcp_off (Or.inl (by omega)), zcp_off (Or.inl (by omega)), zu_nc (by omega), show 0 + (i - 0) = i by omega]
theorem zSv_15 {ia : Nat → Int → Int} {i : Int} (hi : 0 ≤ i ∧ i < 1240) : zSv ia 15 i = ia 7 i := by
  unfold zSv
  rw [zu_nc (by omega), zu_nc (by omega), zu_nc (by omega), zcp_off (Or.inl (by omega)), zcp_on (by omega), zcp_off (Or.inl (by omega)), zcp_off (Or.inl (by omega)), zcp_off (Or.inl (by omega)), zu_nc (by omega), show 0 + (i - 0) = i by omega]
theorem zSv_16 {ia : Nat → Int → Int} {i : Int} (hi : 0 ≤ i ∧ i < 4) : zSv ia 16 i = ia 8 i := by
  unfold zSv
  rw [zu_nc (by omega), zu_nc (by omega), zu_nc (by omega), zcp_on (by omega), zcp_off (Or.inl (by omega)), zcp_off (Or.inl (by omega)), zcp_off (Or.inl (by omega)), zcp_off (Or.inl (by omega)), zu_nc (by omega), show 0 + (i - 0) = i by omega]
theorem zSv_sb {ia : Nat → Int → Int} (I : zCI ia) : zSbk ia (zSa (zSv ia)) := by
  have hn := I.1
  refine ⟨zSv_11, zSv_10 (i := 2) (by decide), zSv_10 (i := 3) (by decide), zSv_10 (i := 4) (by decide), fun h h1 h2 => zSv_16 ⟨h1, h2⟩, fun v h1 h2 => ⟨zSv_12 (by omega), zSv_13 (by omega), fun s h3 h4 => ⟨zSv_14 (by omega), ?_⟩⟩⟩
  have hm := I.2.2.1 v s h1 h2 h3 h4
  show zSv ia 15 (zSv ia 14 (v * 31 + s) * 31 + s) = ia 7 (ia 6 (v * 31 + s) * 31 + s)
  rw [zSv_14 (by omega), zSv_15 (by omega)]
theorem zRs_c {ia : Nat → Int → Int} {c : Nat} (h : c < 2 ∨ 8 < c) : zRs ia c = ia c := by
  funext i
  unfold zRs
  rw [zu_nc (by omega), zu_nc (by omega), zu_nc (by omega), zcp_off (Or.inl (by omega)), zcp_off (Or.inl (by omega)), zcp_off (Or.inl (by omega)), zcp_off (Or.inl (by omega)), zcp_off (Or.inl (by omega)), zu_nc (by omega)]
theorem zRs_2 {ia : Nat → Int → Int} {i : Int} (hi : 2 ≤ i ∧ i ≤ 4) : zRs ia 2 i = ia 10 i := by
  have h : i = 2 ∨ i = 3 ∨ i = 4 := by omega
  unfold zRs
  rcases h with rfl | rfl | rfl
  · rw [zu_ni (by decide), zu_ni (by decide), zu_same]
  · rw [zu_ni (by decide), zu_same]
  · rw [zu_same]
theorem zRs_3 {ia : Nat → Int → Int} : zRs ia 3 0 = ia 11 0 := by
  unfold zRs
  rw [zu_nc (by omega), zu_nc (by omega), zu_nc (by omega), zcp_off (Or.inl (by omega)), zcp_off (Or.inl (by omega)), zcp_off (Or.inl (by omega)), zcp_off (Or.inl (by omega)), zcp_off (Or.inl (by omega)), zu_same]
theorem zRs_4 {ia : Nat → Int → Int} {i : Int} (hi : 0 ≤ i ∧ i < 40) : zRs ia 4 i = ia 12 i := by
  unfold zRs
  rw [zu_nc (by omega), zu_nc (by omega), zu_nc (by omega), zcp_off (Or.inl (by omega)), zcp_off (Or.inl (by omega)), zcp_off (Or.inl (by omega)), zcp_off (Or.inl (by omega)), zcp_on (by omega), zu_nc (by omega), show 0 + (i - 0) = i by omega]
theorem zRs_5 {ia : Nat → Int → Int} {i : Int} (hi : 0 ≤ i ∧ i < 40) : zRs ia 5 i = ia 13 i := by
  unfold zRs
  rw [zu_nc (by omega), zu_nc (by omega), zu_nc (by omega), zcp_off (Or.inl (by omega)), zcp_off (Or.inl (by omega)), zcp_off (Or.inl (by omega)), zcp_on (by omega), zcp_off (Or.inl (by omega)), zu_nc (by omega), show 0 + (i - 0) = i by omega]
theorem zRs_6 {ia : Nat → Int → Int} {i : Int} (hi : 0 ≤ i ∧ i < 1240) : zRs ia 6 i = ia 14 i := by
  unfold zRs
  rw [zu_nc (by omega), zu_nc (by omega), zu_nc (by omega), zcp_off (Or.inl (by omega)), zcp_off (Or.inl (by omega)), zcp_on (by omega), zcp_off (Or.inl (by omega)), zcp_off (Or.inl (by omega)), zu_nc (by omega), show 0 + (i - 0) = i by omega]
theorem zRs_7 {ia : Nat → Int → Int} {i : Int} (hi : 0 ≤ i ∧ i < 1240) : zRs ia 7 i = ia 15 i := by
  unfold zRs
  rw [zu_nc (by omega), zu_nc (by omega), zu_nc (by omega), zcp_off (Or.inl (by omega)), zcp_on (by omega), zcp_off (Or.inl (by omega)), zcp_off (Or.inl (by omega)), zcp_off (Or.inl (by omega)), zu_nc (by omega), show 0 + (i - 0) = i by omega]
theorem zRs_8 {ia : Nat → Int → Int} {i : Int} (hi : 0 ≤ i ∧ i < 4) : zRs ia 8 i = ia 16 i := by
  unfold zRs
  rw [zu_nc (by omega), zu_nc (by omega), zu_nc (by omega), zcp_on (by omega), zcp_off (Or.inl (by omega)), zcp_off (Or.inl (by omega)), zcp_off (Or.inl (by omega)), zcp_off (Or.inl (by omega)), zu_nc (by omega), show 0 + (i - 0) = i by omega]
theorem zRs_sb {ia : Nat → Int → Int} (I : zCI (zSa ia)) : zSbk (zSa ia) (zRs ia) := by
  have hn : 1 ≤ ia 11 0 ∧ ia 11 0 ≤ 40 := I.1
  refine ⟨zRs_3, zRs_2 (by decide), zRs_2 (by decide), zRs_2 (by decide), fun h h1 h2 => zRs_8 ⟨h1, h2⟩, fun v h1 h2 => ?_⟩
  have h9 : v < ia 11 0 := h2
  refine ⟨zRs_4 (by omega), zRs_5 (by omega), fun s h3 h4 => ⟨zRs_6 (by omega), ?_⟩⟩
  have hm : 0 ≤ ia 14 (v * 31 + s) ∧ ia 14 (v * 31 + s) ≤ v := I.2.2.1 v s h1 h2 h3 h4
  show zRs ia 7 (zRs ia 6 (v * 31 + s) * 31 + s) = ia 15 (ia 14 (v * 31 + s) * 31 + s)
  rw [zRs_6 (by omega), zRs_7 (by omega)]
/-! cells that stay -/
theorem zSbk_of {ia ja : Nat → Int → Int} (h : ∀ c : Nat, 2 ≤ c → c ≤ 8 → ja c = ia c) : zSbk ia ja := by
  refine ⟨by rw [h 3 (by decide) (by decide)], by rw [h 2 (by decide) (by decide)], by rw [h 2 (by decide) (by decide)], by rw [h 2 (by decide) (by decide)], fun k _ _ => by rw [h 8 (by decide) (by decide)], fun v _ _ => ⟨by rw [h 4 (by decide) (by decide)], by rw [h 5 (by decide) (by decide)], fun s _ _ => ⟨by rw [h 6 (by decide) (by decide)], ?_⟩⟩⟩
  unfold zTo
  rw [h 6 (by decide) (by decide), h 7 (by decide) (by decide)]
theorem zSd_of {ia ib ja jb : Nat → Int → Int} (h : ∀ c : Nat, 10 ≤ c → c ≤ 16 → ja c = ia c) (h0 : ja 0 5 = ia 0 5) (h4 : jb 24 4 = ib 24 4) (h27 : jb 27 = ib 27) (D : zSd ia ib) : zSd ja jb := by
  unfold zSd
  rw [h0, h4, h27]
  refine ⟨D.1, ?_⟩
  rcases D.2 with d | d
  · exact Or.inl d
  · refine Or.inr ⟨d.1, zVw_cg d.2 ⟨?_, ?_, ?_, ?_, fun k _ _ => ?_, fun v _ _ => ⟨?_, ?_, fun s _ _ => ⟨?_, ?_⟩⟩⟩⟩
    · show ja 11 0 = ia 11 0
      rw [h 11 (by decide) (by decide)]
    · show ja 10 2 = ia 10 2
      rw [h 10 (by decide) (by decide)]
    · show ja 10 3 = ia 10 3
      rw [h 10 (by decide) (by decide)]
    · show ja 10 4 = ia 10 4
      rw [h 10 (by decide) (by decide)]
    · show ja 16 k = ia 16 k
      rw [h 16 (by decide) (by decide)]
    · show ja 12 v = ia 12 v
      rw [h 12 (by decide) (by decide)]
    · show ja 13 v = ia 13 v
      rw [h 13 (by decide) (by decide)]
    · show ja 14 _ = ia 14 _
      rw [h 14 (by decide) (by decide)]
    · show ja 15 (ja 14 (v * 31 + s) * 31 + s) = ia 15 (ia 14 (v * 31 + s) * 31 + s)
      rw [h 14 (by decide) (by decide), h 15 (by decide) (by decide)]
theorem zTx_of {ia ib ja jb : Nat → Int → Int} (h1 : ja 19 1 = ia 19 1) (h2 : ja 20 = ia 20) (h3 : ja 0 8 = ia 0 8) (h4 : jb 24 13 = ib 24 13) (h5 : jb 29 = ib 29) (h6 : jb 24 14 = ib 24 14) (X : zTx ia ib) : zTx ja jb := by
  unfold zTx zDI
  rw [h1, h2, h3, h4, h5, h6]
  exact X
theorem zRe_of {ia ib ja jb : Nat → Int → Int} (h1 : ja 9 = ia 9) (h4 : jb 24 9 = ib 24 9) (h5 : jb 24 10 = ib 24 10) (h6 : jb 24 11 = ib 24 11) (X : zRe ia ib) : zRe ja jb := by
  unfold zRe
  rw [h1, h4, h5, h6]
  exact X
theorem zLi_of {ia ib ja jb : Nat → Int → Int} (h1 : ja 22 1 = ia 22 1) (h2 : ja 23 = ia 23) (h4 : jb 24 16 = ib 24 16) (h5 : jb 30 = ib 30) (X : zLi ia ib) : zLi ja jb := by
  unfold zLi
  rw [h1, h2, h4, h5]
  exact X
theorem zLH_of {ib jb : Nat → Int → Int} (h1 : jb 31 = ib 31) (h2 : jb 32 = ib 32) (X : zLH ib) : zLH jb := by
  unfold zLH
  rw [h1, h2]
  exact X
/-! a change -/
theorem zgr_c {ia : Nat → Int → Int} {g : Int → Int} {c : Nat} (h : c ≠ 25) : zgr ia g c = ia c := by
  funext i
  unfold zgr
  rw [if_neg h]
theorem zgr_25 {ia : Nat → Int → Int} {g : Int → Int} : zgr ia g 25 = g := by
  funext i
  unfold zgr
  rw [if_pos rfl]
/-- what the class's clerk leaves, seen from before the note -/
theorem zFm_of {ia ia1 : Nat → Int → Int} (Gv : zGv (zNo ia) ia1) (F : ∀ c : Nat, c < 2 ∨ 8 < c → ia1 c = zNo ia c) : zFm ia ia1 := ⟨(F 17 (by decide)).trans (zNo_c (by decide)), F 18 (by decide), Gv⟩
theorem zVw_no {ia : Nat → Int → Int} {g : Int → Int} (V : zVw ia g) : zVw (zNo ia) g := zVw_cg V (zSbk_of fun c _ h2 => zNo_c (by omega))
/-- the model's heap behind keeps, in the cells that are neither kept nor the row -/
theorem zKg_c {ib : Nat → Int → Int} {g : Int → Int} {c c2 : Nat} (h1 : c2 ≠ 24) (h2 : c2 ≠ 25) (h3 : c2 ≠ 26) : zgr (zKp ib c) g c2 = ib c2 := by
  rw [zgr_c h2, zKp_c h1 h3]
theorem zKg_24 {ib : Nat → Int → Int} {g : Int → Int} {c : Nat} {j : Int} (h1 : j ≠ 5) (h2 : j ≠ 8) : zgr (zKp ib c) g 24 j = ib 24 j := by
  rw [zgr_c (by decide), zKp_24 h1 h2]
theorem top_ok {ia ia1 : Nat → Int → Int} {g2 : Int → Int} (Q : zQq ia ia) (Gv : zGv (zNo ia) ia1) (F : ∀ c : Nat, c < 2 ∨ 8 < c → ia1 c = zNo ia c) (V2 : zVw ia1 g2) : zQq (zgr (zKp (zKe ia1) 25) g2) (zgr (zKp (zKe ia1) 25) g2) := by
  obtain ⟨V, P, D, X, R, L, W, H⟩ := Q
  have Fm := zFm_of Gv F
  have e0 : ∀ c : Nat, c ≠ 17 → c ≠ 18 → c ≠ 24 → c ≠ 25 → c ≠ 26 → (c < 2 ∨ 8 < c) → zgr (zKp (zKe ia1) 25) g2 c = ia c := fun c h1 h2 h3 h4 h5 h6 => by
    rw [zKg_c h3 h4 h5, zKe_c h1 h2, F c h6, zNo_c h2]
  have e24 : ∀ j : Int, j ≠ 5 → j ≠ 8 → zgr (zKp (zKe ia1) 25) g2 24 j = ia 24 j := fun j h1 h2 => by
    rw [zKg_24 h1 h2, zKe_c (by decide) (by decide), F 24 (by decide), zNo_c (by decide)]
  have k24 : zKe ia1 24 = ia 24 := by rw [zKe_c (by decide) (by decide), F 24 (by decide), zNo_c (by decide)]
  have k25 : zKe ia1 25 = ia 25 := by rw [zKe_c (by decide) (by decide), F 25 (by decide), zNo_c (by decide)]
  have k26 : zKe ia1 26 = ia 26 := by rw [zKe_c (by decide) (by decide), F 26 (by decide), zNo_c (by decide)]
  refine ⟨?_, ?_, ?_, ?_, ?_, ?_, ?_, ?_⟩
  · rw [zgr_25]
    exact zVw_cg V2 (zSbk_of fun c h1 h2 => by rw [zKg_c (by omega) (by omega) (by omega), zKe_c (by omega) (by omega)])
  · have P2 : zPa ia (zKe ia1) := by
      unfold zPa
      rw [k24, k26]
      exact P
    have h := zPa_keep (c := 25) P2 (by rw [k25]; exact V) (by decide) (by rw [k24]; exact W) Fm
    -- the class's cells of the last heap are those of zKe ia1
    obtain ⟨p0, p1, p2, p3⟩ := h
    have e17 : zgr (zKp (zKe ia1) 25) g2 17 = zKe ia1 17 := zKg_c (by decide) (by decide) (by decide)
    have e18 : zgr (zKp (zKe ia1) 25) g2 18 = zKe ia1 18 := zKg_c (by decide) (by decide) (by decide)
    have e3 : zgr (zKp (zKe ia1) 25) g2 3 = zKe ia1 3 := zKg_c (by decide) (by decide) (by decide)
    have e26 : zgr (zKp (zKe ia1) 25) g2 26 = zKp (zKe ia1) 25 26 := zgr_c (by decide)
    have e5 : zgr (zKp (zKe ia1) 25) g2 24 = zKp (zKe ia1) 25 24 := zgr_c (by decide)
    unfold zPa
    rw [e17, e18, e3, e26, e5]
    refine ⟨p0, p1, fun k h1 h2 => ⟨zVw_cg (p2 k h1 h2).1 ?_, (p2 k h1 h2).2⟩, p3⟩
    refine ⟨?_, ?_, ?_, ?_, fun k _ _ => ?_, fun v _ _ => ⟨?_, ?_, fun s _ _ => ⟨?_, ?_⟩⟩⟩
    · show zgr (zKp (zKe ia1) 25) g2 18 _ = zKe ia1 18 _
      rw [e18]
    · show zgr (zKp (zKe ia1) 25) g2 18 _ = zKe ia1 18 _
      rw [e18]
    · show zgr (zKp (zKe ia1) 25) g2 18 _ = zKe ia1 18 _
      rw [e18]
    · show zgr (zKp (zKe ia1) 25) g2 18 _ = zKe ia1 18 _
      rw [e18]
    · show zgr (zKp (zKe ia1) 25) g2 18 _ = zKe ia1 18 _
      rw [e18]
    · show zgr (zKp (zKe ia1) 25) g2 4 _ = zKe ia1 4 _
      rw [zKg_c (by decide) (by decide) (by decide)]
    · show zgr (zKp (zKe ia1) 25) g2 5 _ = zKe ia1 5 _
      rw [zKg_c (by decide) (by decide) (by decide)]
    · show zgr (zKp (zKe ia1) 25) g2 6 _ = zKe ia1 6 _
      rw [zKg_c (by decide) (by decide) (by decide)]
    · show zgr (zKp (zKe ia1) 25) g2 7 (zgr (zKp (zKe ia1) 25) g2 6 (v * 31 + s) * 31 + s) = zKe ia1 7 (zKe ia1 6 (v * 31 + s) * 31 + s)
      rw [zKg_c (by decide) (by decide) (by decide), zKg_c (by decide) (by decide) (by decide)]
  · exact zSd_of (fun c h1 h2 => e0 c (by omega) (by omega) (by omega) (by omega) (by omega) (by omega)) (by rw [e0 0 (by decide) (by decide) (by decide) (by decide) (by decide) (by decide)]) (e24 4 (by decide) (by decide)) (e0 27 (by decide) (by decide) (by decide) (by decide) (by decide) (by decide)) D
  · exact zTx_of (by rw [e0 19 (by decide) (by decide) (by decide) (by decide) (by decide) (by decide)]) (e0 20 (by decide) (by decide) (by decide) (by decide) (by decide) (by decide)) (by rw [e0 0 (by decide) (by decide) (by decide) (by decide) (by decide) (by decide)]) (e24 13 (by decide) (by decide)) (e0 29 (by decide) (by decide) (by decide) (by decide) (by decide) (by decide)) (e24 14 (by decide) (by decide)) X
  · exact zRe_of (e0 9 (by decide) (by decide) (by decide) (by decide) (by decide) (by decide)) (e24 9 (by decide) (by decide)) (e24 10 (by decide) (by decide)) (e24 11 (by decide) (by decide)) R
  · exact zLi_of (by rw [e0 22 (by decide) (by decide) (by decide) (by decide) (by decide) (by decide)]) (e0 23 (by decide) (by decide) (by decide) (by decide) (by decide) (by decide)) (e24 16 (by decide) (by decide)) (e0 30 (by decide) (by decide) (by decide) (by decide) (by decide) (by decide)) L
  · rw [e24 6 (by decide) (by decide)]
    exact W
  · exact zLH_of (e0 31 (by decide) (by decide) (by decide) (by decide) (by decide) (by decide)) (e0 32 (by decide) (by decide) (by decide) (by decide) (by decide) (by decide)) H
theorem zrf_c {ib : Nat → Int → Int} {a b i : Int} {c : Nat} (h : c ≠ 24) : zrf ib a b i c = ib c := by
  funext j
  unfold zrf
  rw [zu_nc h, zu_nc h, zu_nc h, zu_nc h]
theorem zrf_24 {ib : Nat → Int → Int} {a b i j : Int} (h : j < 8 ∨ 11 < j) : zrf ib a b i 24 j = ib 24 j := by
  unfold zrf
  rw [zu_ni (by omega), zu_ni (by omega), zu_ni (by omega), zu_ni (by omega)]
/-- refused: the class goes back to its note, whatever has grown; the model keeps the reason -/
theorem top_ref {ia jx jb : Nat → Int → Int} {a b q : Int} (Q : zQq ia ia) (Fm : zFm ia jx) (ha : 1 ≤ a ∧ a ≤ 8) (hb : 0 ≤ b ∧ b ≤ 100) (hq : 0 ≤ q ∧ q ≤ 60) (x9 : jx 9 0 = a ∧ jx 9 1 = b ∧ jx 9 2 = q) (jf : ∀ c : Nat, 9 < c → c < 24 → c ≠ 17 → c ≠ 18 → c ≠ 19 → c ≠ 21 → jx c = ia c)
    (x0 : jx 0 5 = ia 0 5) (x8 : -1 ≤ jx 0 8 ∧ jx 0 8 ≤ 60) (x19 : 0 ≤ jx 19 1 ∧ jx 19 1 ≤ ia 19 1)
    (bc : ∀ c : Nat, c < 24 → jb c = zBa jx c) (b24 : ∀ j : Int, j = 4 ∨ j = 5 ∨ j = 6 ∨ j = 16 → jb 24 j = ia 24 j) (b13 : jb 24 13 = jx 19 1) (b14 : jb 24 14 = jx 0 8) (b9 : jb 24 9 = a ∧ jb 24 10 = b ∧ jb 24 11 = q)
    (b25 : ∀ i : Int, 0 ≤ i → i < 1968 → jb 25 i = ia 25 i) (br : ∀ c : Nat, c = 26 ∨ c = 27 ∨ 29 ≤ c ∧ c ≤ 32 → jb c = ia c) : zQq jb jb := by
  obtain ⟨V, P, D, X, R, L, W, H⟩ := Q
  have e0 : ∀ c : Nat, 9 < c → c < 24 → c ≠ 17 → c ≠ 18 → c ≠ 19 → c ≠ 21 → jb c = ia c := fun c h1 h2 h3 h4 h5 h6 => by
    rw [bc c h2, zBa_c (by omega) (by omega) (by omega), jf c h1 h2 h3 h4 h5 h6]
  have e19 : jb 19 = jx 19 := by rw [bc 19 (by decide), zBa_c (by decide) (by decide) (by decide)]
  have ez : jb 0 = jx 0 := by rw [bc 0 (by decide), zBa_c (by decide) (by decide) (by decide)]
  have e9 : jb 9 = jx 9 := by rw [bc 9 (by decide), zBa_c (by decide) (by decide) (by decide)]
  refine ⟨?_, ?_, ?_, ?_, ?_, ?_, ?_, ?_⟩
  · refine zVw_g (zVw_cg (zFm_back V Fm) (zSbk_of fun c h1 h2 => bc c (by omega))) b25
  · have h := zPa_back (jb := jb) P Fm (b24 5 (by decide)) (br 26 (by decide))
    obtain ⟨p0, p1, p2, p3⟩ := h
    unfold zPa
    rw [bc 17 (by decide), bc 18 (by decide), bc 3 (by decide)]
    refine ⟨p0, p1, fun k h1 h2 => ⟨zVw_cg (p2 k h1 h2).1 ?_, (p2 k h1 h2).2⟩, p3⟩
    refine ⟨?_, ?_, ?_, ?_, fun k _ _ => ?_, fun v _ _ => ⟨?_, ?_, fun s _ _ => ⟨?_, ?_⟩⟩⟩
    · show jb 18 _ = zBa jx 18 _
      rw [bc 18 (by decide)]
    · show jb 18 _ = zBa jx 18 _
      rw [bc 18 (by decide)]
    · show jb 18 _ = zBa jx 18 _
      rw [bc 18 (by decide)]
    · show jb 18 _ = zBa jx 18 _
      rw [bc 18 (by decide)]
    · show jb 18 _ = zBa jx 18 _
      rw [bc 18 (by decide)]
    · show jb 4 _ = zBa jx 4 _
      rw [bc 4 (by decide)]
    · show jb 5 _ = zBa jx 5 _
      rw [bc 5 (by decide)]
    · show jb 6 _ = zBa jx 6 _
      rw [bc 6 (by decide)]
    · show jb 7 (jb 6 (v * 31 + s) * 31 + s) = zBa jx 7 (zBa jx 6 (v * 31 + s) * 31 + s)
      rw [bc 6 (by decide), bc 7 (by decide)]
  · exact zSd_of (fun c h1 h2 => e0 c (by omega) (by omega) (by omega) (by omega) (by omega) (by omega)) (by rw [ez, x0]) (b24 4 (by decide)) (br 27 (by decide)) D
  · obtain ⟨⟨d1, d2, d3⟩, t1, t2, t3, t4⟩ := X
    have e20 : jb 20 = ia 20 := e0 20 (by decide) (by decide) (by decide) (by decide) (by decide) (by decide)
    unfold zTx zDI
    rw [e19, e20, ez, b13, b14, br 29 (by decide)]
    exact ⟨⟨x19.1, by omega, d3⟩, rfl, fun i h1 h2 => t2 i h1 (by omega), rfl, x8⟩
  · unfold zRe
    rw [e9, b9.1, b9.2.1, b9.2.2, x9.1, x9.2.1, x9.2.2]
    exact ⟨rfl, rfl, rfl, by omega, hb, hq⟩
  · exact zLi_of (by rw [e0 22 (by decide) (by decide) (by decide) (by decide) (by decide) (by decide)]) (e0 23 (by decide) (by decide) (by decide) (by decide) (by decide) (by decide)) (b24 16 (by decide)) (br 30 (by decide)) L
  · rw [b24 6 (by decide)]
    exact W
  · exact zLH_of (br 31 (by decide)) (br 32 (by decide)) H
