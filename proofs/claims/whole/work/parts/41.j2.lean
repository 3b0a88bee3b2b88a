/-! WHOLE CALLS, BOTH SIDES: THE CHANGES, UNDO, SNAPSHOTS, TEXT -/
theorem zPa_cl {ia ja jb : Nat → Int → Int} (h : ∀ c : Nat, (2 ≤ c ∧ c ≤ 8) ∨ c = 17 ∨ c = 18 → ja c = ia c) (P : zPa ia jb) : zPa ja jb := by
  obtain ⟨p0, p1, p2, p3⟩ := P
  unfold zPa
  rw [h 17 (by omega), h 18 (by omega), h 3 (by omega)]
  refine ⟨p0, p1, fun k h1 h2 => ⟨zVw_cg (p2 k h1 h2).1 ⟨?_, ?_, ?_, ?_, fun k _ _ => ?_, fun v _ _ => ⟨?_, ?_, fun s _ _ => ⟨?_, ?_⟩⟩⟩, (p2 k h1 h2).2⟩, p3⟩
  · show ja 18 _ = ia 18 _
    rw [h 18 (by omega)]
  · show ja 18 _ = ia 18 _
    rw [h 18 (by omega)]
  · show ja 18 _ = ia 18 _
    rw [h 18 (by omega)]
  · show ja 18 _ = ia 18 _
    rw [h 18 (by omega)]
  · show ja 18 _ = ia 18 _
    rw [h 18 (by omega)]
  · show ja 4 _ = ia 4 _
    rw [h 4 (by omega)]
  · show ja 5 _ = ia 5 _
    rw [h 5 (by omega)]
  · show ja 6 _ = ia 6 _
    rw [h 6 (by omega)]
  · show ja 7 (ja 6 (v * 31 + s) * 31 + s) = ia 7 (ia 6 (v * 31 + s) * 31 + s)
    rw [h 6 (by omega), h 7 (by omega)]
theorem zPa_b {ia ib jb : Nat → Int → Int} (h5 : jb 24 5 = ib 24 5) (h26 : jb 26 = ib 26) (P : zPa ia ib) : zPa ia jb := by
  unfold zPa
  rw [h5, h26]
  exact P
theorem zSa_sb {ia ja : Nat → Int → Int} (h : ∀ c : Nat, 10 ≤ c → c ≤ 16 → ja c = ia c) : zSbk (zSa ia) (zSa ja) := by
  refine ⟨?_, ?_, ?_, ?_, fun k _ _ => ?_, fun v _ _ => ⟨?_, ?_, fun s _ _ => ⟨?_, ?_⟩⟩⟩
  · show ja 11 0 = ia 11 0
    rw [h 11 (by decide) (by decide)]
  · show ja 10 2 = ia 10 2
    rw [h 10 (by decide) (by decide)]
  · show ja 10 3 = ia 10 3
    rw [h 10 (by decide) (by decide)]
  · show ja 10 4 = ia 10 4
    rw [h 10 (by decide) (by decide)]
  · show ja 16 k = ia 16 k
    rw [h 16 (by decide) (by decide)]
  · show ja 12 v = ia 12 v
    rw [h 12 (by decide) (by decide)]
  · show ja 13 v = ia 13 v
    rw [h 13 (by decide) (by decide)]
  · show ja 14 _ = ia 14 _
    rw [h 14 (by decide) (by decide)]
  · show ja 15 (ja 14 (v * 31 + s) * 31 + s) = ia 15 (ia 14 (v * 31 + s) * 31 + s)
    rw [h 14 (by decide) (by decide), h 15 (by decide) (by decide)]
/-! append -/
theorem zTx_app {ia : Nat → Int → Int} {c : Int} (hc : 0 ≤ c ∧ c ≤ 65535) (Q : zQq ia ia) (hl : ia 19 1 < 60) : zQq (zu (zu (zu (zu (zu ia 20 (ia 19 1) c) 19 1 (ia 19 1 + 1)) 24 8 0) 29 (ia 19 1) c) 24 13 (ia 19 1 + 1)) (zu (zu (zu (zu (zu ia 20 (ia 19 1) c) 19 1 (ia 19 1 + 1)) 24 8 0) 29 (ia 19 1) c) 24 13 (ia 19 1 + 1)) := by
  obtain ⟨V, P, D, ⟨⟨d1, d2, d3⟩, t1, t2, t3, t4⟩, R, L, W, H⟩ := Q
  refine ⟨V, P, D, ⟨⟨?_, ?_, fun i h1 h2 => ?_⟩, rfl, fun i h1 h2 => ?_, t3, t4⟩, R, L, W, H⟩
  · show 0 ≤ ia 19 1 + 1
    omega
  · show ia 19 1 + 1 ≤ 60
    omega
  · show 0 ≤ zu ia 20 (ia 19 1) c 20 i ∧ zu ia 20 (ia 19 1) c 20 i ≤ 65535
    by_cases e : i = ia 19 1
    · rw [e, zu_same]
      exact hc
    · rw [zu_ni e]
      exact d3 i h1 h2
  · show zu ia 29 (ia 19 1) c 29 i = zu ia 20 (ia 19 1) c 20 i
    have h3 : i < ia 19 1 + 1 := h2
    by_cases e : i = ia 19 1
    · rw [e, zu_same, zu_same]
    · rw [zu_ni e, zu_ni e]
      exact t2 i h1 (by omega)
theorem j_append {G : zG} {ia : Nat → Int → Int} {c : Int} (Q : zQq ia ia) (hc : 0 ≤ c ∧ c ≤ 65535) : zJT G mX7_append [(1, 0), (0, c)] mX8_append [(1, 24), (0, c)] "java/lang/IllegalStateException" "java/lang/Error" ia := by
  have X := Q.2.2.2.1
  have h1 := X.1
  have hL : 0 ≤ ia 19 1 ∧ ia 19 1 ≤ 60 := ⟨h1.1, h1.2.1⟩
  by_cases e : ia 19 1 = 60
  · exact zJT_1 Q (v := 0) (by decide) (fun w => eX7_append_x0 e) (fun w2 => eX8_append_c1 (by rw [X.2.1]; exact e))
  · intro w
    refine ⟨zu (zu ia 20 (ia 19 1) c) 19 1 (ia 19 1 + 1), 0, ia 19 1 + 1, ⟨by omega, by omega⟩, Or.inl ⟨rfl, eX7_append_0 ⟨hL.1, by omega⟩ hc⟩, fun w2 => ?_⟩
    have h9 := eX8_append_0 (G := G) (w := w2) (ia := zu (zu ia 20 (ia 19 1) c) 19 1 (ia 19 1 + 1)) (c := c) (show 0 ≤ ia 24 13 ∧ ia 24 13 < 60 by rw [X.2.1]; omega)
    rw [show zu (zu ia 20 (ia 19 1) c) 19 1 (ia 19 1 + 1) 24 13 = ia 19 1 from X.2.1] at h9
    exact ⟨_, _, h9, fun _ => rfl, ⟨by omega, by omega⟩, rfl, zTx_app hc Q (by omega)⟩
/-! the five changes -/
theorem zwi_0 {ia : Nat → Int → Int} (h : ia 24 6 = 0) : zwi ia = 0 := if_pos h
theorem zJT_cj {G : zG} {M1 M3 M2 : zM} {l1 l3 l2 : List zSV} {ia : Nat → Int → Int} (Q : zQq ia ia) (C : ∀ w, zCJ G w M3 l3 M2 l2 (zNo ia))
    (hx : ∀ w jx, Ev G M3 0 l3 [] (zH (zNo ia) w) (.inl (some (0, (-1))), zH jx w, 0, 0) → zTb jx → Ev G M1 0 l1 [] (zH ia w) (.inr "java/lang/UnsupportedOperationException", zH (zBa jx) w, 1, 6))
    (h0 : ∀ w jx r, Ev G M3 0 l3 [] (zH (zNo ia) w) (.inl (some (0, r)), zH jx w, 0, 0) → (0 ≤ jx 17 1 ∧ jx 17 1 ≤ 8) → (0 ≤ r ∧ r ≤ 2147483647) → Ev G M1 0 l1 [] (zH ia w) (.inl (some (0, r)), zH (zKe jx) w, 0, 0)) : zJT G M1 l1 M2 l2 "java/lang/UnsupportedOperationException" "java/lang/Error" ia := by
  intro w
  obtain ⟨V, P, D, X, R, L, W, H⟩ := Q
  have hn := V.1.1.1
  rcases C w with ⟨a, b, ha, hb, E1, E2⟩ | ⟨r, ia1, hr, E1, Gv, F, E2⟩
  · generalize hjx : zu (zu (zu (zNo ia) 9 0 a) 9 1 b) 9 2 0 = jx at E1
    have jc : ∀ c : Nat, c ≠ 9 → jx c = zNo ia c := fun c h => by
      rw [← hjx]
      funext i
      rw [zu_nc h, zu_nc h, zu_nc h]
    have j9 : jx 9 0 = a ∧ jx 9 1 = b ∧ jx 9 2 = 0 := by
      rw [← hjx]
      exact ⟨rfl, rfl, rfl⟩
    have ji : ∀ c : Nat, c ≠ 9 → c ≠ 18 → jx c = ia c := fun c h1 h2 => by rw [jc c h1, zNo_c h2]
    have Fm : zFm ia jx := by
      refine ⟨ji 17 (by decide) (by decide), jc 18 (by decide), ⟨?_, fun v _ _ => ?_⟩⟩
      · rw [jc 3 (by decide), zNo_c (by decide)]
        omega
      · rw [jc 4 (by decide), jc 5 (by decide), jc 6 (by decide)]
        refine ⟨rfl, rfl, fun s _ _ => ⟨rfl, ?_⟩⟩
        unfold zTo
        rw [jc 6 (by decide), jc 7 (by decide)]
    have bz : ∀ c : Nat, c ≠ 2 → c ≠ 3 → c ≠ 8 → c ≠ 9 → c ≠ 18 → zBa jx c = ia c := fun c h1 h2 h3 h4 h5 => by rw [zBa_c h2 h1 h3, ji c h4 h5]
    have b24 : zBa jx 24 = ia 24 := bz 24 (by decide) (by decide) (by decide) (by decide) (by decide)
    have b25 : zBa jx 25 = ia 25 := bz 25 (by decide) (by decide) (by decide) (by decide) (by decide)
    have Md : zMd (zNo ia) (zBa jx) := by
      unfold zMd
      rw [b24, b25]
      exact ⟨zVw_no V, zLH_of (bz 31 (by decide) (by decide) (by decide) (by decide) (by decide)) (bz 32 (by decide) (by decide) (by decide) (by decide) (by decide)) H, Or.inl W, by rw [P.2.1]; exact P.1⟩
    have hz : zwi (zBa jx) = 0 := zwi_0 (by rw [b24]; exact W)
    have q24 : ∀ j : Int, j < 8 ∨ 11 < j → zrf (zBa jx) a b 0 24 j = ia 24 j := fun j h => by rw [zrf_24 h, b24]
    refine ⟨zBa jx, 1, 0, by decide, Or.inr (Or.inl ⟨rfl, hx w jx E1 (zFm_tb V P.1 Fm)⟩), fun w2 => ⟨zrf (zBa jx) a b 0, 0, ?_, fun e => absurd e (by decide), by decide, rfl, ?_⟩⟩
    · have h9 := E2 (zBa jx) Md w2
      rw [hz] at h9
      exact h9
    · refine top_ref (jx := jx) (a := a) (b := b) (q := 0) ⟨V, P, D, X, R, L, W, H⟩ Fm ha hb (by decide) j9 (fun c h1 h2 h3 h4 h5 h6 => ji c (by omega) h4) (by rw [ji 0 (by decide) (by decide)]) (by rw [ji 0 (by decide) (by decide)]; exact X.2.2.2.2) (by rw [ji 19 (by decide) (by decide)]; exact ⟨X.1.1, Int.le_refl _⟩)
        (fun c h => zrf_c (by omega)) (fun j h => q24 j (by omega)) ?_ ?_ ⟨rfl, rfl, rfl⟩ (fun i _ _ => ?_) (fun c h => ?_)
      · rw [q24 13 (by decide), ji 19 (by decide) (by decide)]
        exact X.2.1
      · rw [q24 14 (by decide), ji 0 (by decide) (by decide)]
        exact X.2.2.2.1
      · rw [zrf_c (by decide), b25]
      · rw [zrf_c (by omega), bz c (by omega) (by omega) (by omega) (by omega) (by omega)]
  · have k24 : zKe ia1 24 = ia 24 := by rw [zKe_c (by decide) (by decide), F 24 (by decide), zNo_c (by decide)]
    have k25 : zKe ia1 25 = ia 25 := by rw [zKe_c (by decide) (by decide), F 25 (by decide), zNo_c (by decide)]
    have k31 : zKe ia1 31 = ia 31 := by rw [zKe_c (by decide) (by decide), F 31 (by decide), zNo_c (by decide)]
    have k32 : zKe ia1 32 = ia 32 := by rw [zKe_c (by decide) (by decide), F 32 (by decide), zNo_c (by decide)]
    have Md : zMd (zNo ia) (zKe ia1) := by
      unfold zMd
      rw [k24, k25]
      exact ⟨zVw_no V, zLH_of k31 k32 H, Or.inl W, by rw [P.2.1]; exact P.1⟩
    obtain ⟨g2, V2, E3⟩ := E2 (zKe ia1) Md
    refine ⟨zKe ia1, 0, r, ⟨by omega, by omega⟩, Or.inl ⟨rfl, h0 w ia1 r E1 ?_ ⟨by omega, by omega⟩⟩, fun w2 => ⟨zgr (zKp (zKe ia1) 25) g2, r, E3 w2, fun _ => rfl, ⟨by omega, by omega⟩, ?_, top_ok ⟨V, P, D, X, R, L, W, H⟩ Gv F V2⟩⟩
    · rw [F 17 (by decide), zNo_c (by decide)]
      exact P.1
    · rw [zgr_c (by decide), zKp_8]
theorem j_write {G : zG} {ia : Nat → Int → Int} {h line amount : Int} (hG : zGo G) (Q : zQq ia ia) (hrh : zI32 h) (hrl : zI32 line) (hra : zI32 amount) : zJT G mX7_write [(1, 0), (0, h), (0, line), (0, amount)] mX8_write [(1, 24), (0, h), (0, line), (0, amount), (9, 0), (9, 0)] "java/lang/UnsupportedOperationException" "java/lang/Error" ia :=
  zJT_cj Q (fun w => cj_write hG (zVw_no Q.1) hrh hrl hra) (fun w jx E ht => eX7_write_x Q.2.1.1 E ht) (fun w jx r E hj hr => eX7_write_0 Q.2.1.1 E hj hr)
theorem j_graft {G : zG} {ia : Nat → Int → Int} {h v first last : Int} (hG : zGo G) (Q : zQq ia ia) (hrh : zI32 h) (hrv : zI32 v) (hrf : zI32 first) (hrl : zI32 last) : zJT G mX7_graft [(1, 0), (0, h), (0, v), (0, first), (0, last)] mX8_graft [(1, 24), (0, h), (0, v), (0, first), (0, last), (9, 0), (9, 0)] "java/lang/UnsupportedOperationException" "java/lang/Error" ia :=
  zJT_cj Q (fun w => cj_graft hG (zVw_no Q.1) hrh hrv hrf hrl) (fun w jx E ht => eX7_graft_x Q.2.1.1 E ht) (fun w jx r E hj hr => eX7_graft_0 Q.2.1.1 E hj hr)
theorem j_fork {G : zG} {ia : Nat → Int → Int} {h f : Int} (Q : zQq ia ia) (hrh : zI32 h) (hrf : zI32 f) : zJT G mX7_fork [(1, 0), (0, h), (0, f)] mX8_fork [(1, 24), (0, h), (0, f)] "java/lang/UnsupportedOperationException" "java/lang/Error" ia :=
  zJT_cj Q (fun w => cj_fork (zVw_no Q.1) hrh hrf) (fun w jx E ht => eX7_fork_x Q.2.1.1 E ht) (fun w jx r E hj hr => eX7_fork_0 Q.2.1.1 E hj hr)
theorem j_back {G : zG} {ia : Nat → Int → Int} {h m : Int} (Q : zQq ia ia) (hrh : zI32 h) (hrm : zI32 m) : zJT G mX7_back [(1, 0), (0, h), (0, m)] mX8_back [(1, 24), (0, h), (0, m), (9, 0), (9, 0)] "java/lang/UnsupportedOperationException" "java/lang/Error" ia :=
  zJT_cj Q (fun w => cj_back (zVw_no Q.1) hrh hrm) (fun w jx E ht => eX7_back_x Q.2.1.1 E ht) (fun w jx r E hj hr => eX7_back_0 Q.2.1.1 E hj hr)
theorem j_pass {G : zG} {ia : Nat → Int → Int} {y : Int} (Q : zQq ia ia) (hry : zI32 y) : zJT G mX7_pass [(1, 0), (0, y)] mX8_pass [(1, 24), (0, y)] "java/lang/UnsupportedOperationException" "java/lang/Error" ia :=
  zJT_cj Q (fun w => cj_pass (zVw_no Q.1) hry) (fun w jx E ht => eX7_pass_x Q.2.1.1 E ht) (fun w jx r E hj hr => eX7_pass_0 Q.2.1.1 E hj hr)
/-! undo -/
theorem j_undo {G : zG} {ia : Nat → Int → Int} (Q : zQq ia ia) : zJT G mX7_undo [(1, 0)] mX8_undo [(1, 24)] "java/lang/IllegalStateException" "java/lang/Error" ia := by
  obtain ⟨V, P, D, X, R, L, W, H⟩ := Q
  have hn := V.1.1.1
  obtain ⟨p0, p1, p2, p3⟩ := P
  by_cases e : ia 17 1 = 0
  · exact zJT_1 ⟨V, ⟨p0, p1, p2, p3⟩, D, X, R, L, W, H⟩ (v := 0) (by decide) (fun w => eX7_undo_x0 e) (fun w2 => eX8_undo_c1 (by rw [p1]; exact e))
  · obtain ⟨v1, v2⟩ := p2 (ia 17 1 - 1) (by omega) (by omega)
    have hc : 1 ≤ ia 18 (8 * (ia 17 1 - 1)) ∧ ia 18 (8 * (ia 17 1 - 1)) ≤ 40 := v1.1.1.1
    have ht : zTb (zu ia 17 1 (ia 17 1 - 1)) := by
      unfold zTb
      rw [zu_same, zu_nc (by decide), zu_nc (by decide), show (ia 17 1 - 1) * 8 = 8 * (ia 17 1 - 1) by omega]
      omega
    have Vu := zUn_vw v1
    have bz : ∀ c : Nat, c ≠ 2 → c ≠ 3 → c ≠ 8 → c ≠ 17 → zBa (zu ia 17 1 (ia 17 1 - 1)) c = ia c := fun c h1 h2 h3 h4 => by
      rw [zBa_c h2 h1 h3]
      funext i
      rw [zu_nc h4]
    intro w
    refine ⟨zBa (zu ia 17 1 (ia 17 1 - 1)), 0, ia 17 1 - 1, ⟨by omega, by omega⟩, Or.inl ⟨rfl, eX7_undo_0 ⟨by omega, p0.2⟩ ht⟩, fun w2 => ?_⟩
    have P9 := zPa_undo (ib := ia) (jb := zu ia 24 5 (ia 17 1 - 1)) ⟨p0, p1, p2, p3⟩ (by omega) zu_same rfl
    generalize zBa (zu ia 17 1 (ia 17 1 - 1)) = ja at Vu bz P9 ⊢
    have e24 : ja 24 = ia 24 := bz 24 (by decide) (by decide) (by decide) (by decide)
    have e25 : ja 24 5 = ia 17 1 := by rw [e24]; exact p1
    have h9 := eX8_undo_0 (G := G) (w := w2) (ia := ja) (by rw [e25]; omega)
    rw [e25] at h9
    refine ⟨_, _, h9, fun _ => rfl, ⟨by omega, by omega⟩, ?_, ?_⟩
    · rw [zcp_off (Or.inl (by decide)), zu_ni (by decide), zu_same]
    generalize hjb : zcp (zu (zu ja 24 8 0) 24 5 (ia 17 1 - 1)) 26 (1968 * (ia 17 1 - 1)) 25 0 1968 = jb
    have jc : ∀ c : Nat, c ≠ 24 → c ≠ 25 → jb c = ja c := fun c h1 h2 => by
      rw [← hjb]
      funext i
      rw [zcp_off (Or.inl h2), zu_nc h1, zu_nc h1]
    have j24 : ∀ j : Int, j ≠ 5 → j ≠ 8 → jb 24 j = ia 24 j := fun j h1 h2 => by rw [← hjb, zcp_off (Or.inl (by decide)), zu_ni h1, zu_ni h2, e24]
    have j5 : jb 24 5 = ia 17 1 - 1 := by rw [← hjb, zcp_off (Or.inl (by decide)), zu_same]
    have j25 : ∀ i : Int, 0 ≤ i → i < 1968 → jb 25 i = ia 26 (1968 * (ia 17 1 - 1) + i) := fun i h1 h2 => by
      rw [← hjb, zcp_on (by omega), zu_nc (by decide), zu_nc (by decide), bz 26 (by decide) (by decide) (by decide) (by decide), show 1968 * (ia 17 1 - 1) + (i - 0) = 1968 * (ia 17 1 - 1) + i by omega]
    have ji : ∀ c : Nat, c ≠ 24 → c ≠ 25 → c ≠ 2 → c ≠ 3 → c ≠ 8 → c ≠ 17 → jb c = ia c := fun c h1 h2 h3 h4 h5 h6 => by rw [jc c h1 h2, bz c h3 h4 h5 h6]
    refine ⟨zVw_g (zVw_cg Vu (zSbk_of fun c h1 h2 => jc c (by omega) (by omega))) j25, zPa_cl (fun c h => jc c (by omega) (by omega)) (zPa_b (ib := zu ia 24 5 (ia 17 1 - 1)) (by rw [j5, zu_same]) (ji 26 (by decide) (by decide) (by decide) (by decide) (by decide) (by decide)) P9), ?_, ?_, ?_, ?_, ?_, ?_⟩
    · exact zSd_of (fun c h1 h2 => ji c (by omega) (by omega) (by omega) (by omega) (by omega) (by omega)) (by rw [ji 0 (by decide) (by decide) (by decide) (by decide) (by decide) (by decide)]) (j24 4 (by decide) (by decide)) (ji 27 (by decide) (by decide) (by decide) (by decide) (by decide) (by decide)) D
    · exact zTx_of (by rw [ji 19 (by decide) (by decide) (by decide) (by decide) (by decide) (by decide)]) (ji 20 (by decide) (by decide) (by decide) (by decide) (by decide) (by decide)) (by rw [ji 0 (by decide) (by decide) (by decide) (by decide) (by decide) (by decide)]) (j24 13 (by decide) (by decide)) (ji 29 (by decide) (by decide) (by decide) (by decide) (by decide) (by decide)) (j24 14 (by decide) (by decide)) X
    · exact zRe_of (ji 9 (by decide) (by decide) (by decide) (by decide) (by decide) (by decide)) (j24 9 (by decide) (by decide)) (j24 10 (by decide) (by decide)) (j24 11 (by decide) (by decide)) R
    · exact zLi_of (by rw [ji 22 (by decide) (by decide) (by decide) (by decide) (by decide) (by decide)]) (ji 23 (by decide) (by decide) (by decide) (by decide) (by decide) (by decide)) (j24 16 (by decide) (by decide)) (ji 30 (by decide) (by decide) (by decide) (by decide) (by decide) (by decide)) L
    · rw [j24 6 (by decide) (by decide)]
      exact W
    · exact zLH_of (ji 31 (by decide) (by decide) (by decide) (by decide) (by decide) (by decide)) (ji 32 (by decide) (by decide) (by decide) (by decide) (by decide) (by decide)) H
/-! snapshots -/
theorem j_restore {G : zG} {ia : Nat → Int → Int} (Q : zQq ia ia) : zJT G mX7_restore [(1, 0)] mX8_restore [(1, 24)] "java/lang/IllegalStateException" "java/lang/Error" ia := by
  obtain ⟨V, P, D, X, R, L, W, H⟩ := Q
  have D2 := D
  obtain ⟨d1, d2⟩ := D2
  rcases d2 with d2 | ⟨d2, d3⟩
  · exact zJT_1 ⟨V, P, D, X, R, L, W, H⟩ (v := 0) (by decide) (fun w => eX7_restore_x0 d2) (fun w2 => eX8_restore_c1 (by rw [d1]; exact d2))
  · have I2 := d3.1.1
    have hc : 1 ≤ ia 11 0 ∧ ia 11 0 ≤ 40 := I2.1
    have hr : ia 27 0 = ia 11 0 := d3.1.2.1
    have Vr := zVw_cg d3 (zRs_sb I2)
    intro w
    refine ⟨zu (zRs ia) 17 1 0, 0, ia 11 0, ⟨by omega, by omega⟩, Or.inl ⟨rfl, eX7_restore_0 d2⟩, fun w2 => ?_⟩
    have bz : ∀ c : Nat, c < 2 ∨ 8 < c → c ≠ 17 → zu (zRs ia) 17 1 0 c = ia c := fun c h1 h2 => by
      funext i
      rw [zu_nc h2, zRs_c h1]
    have bv : ∀ c : Nat, 2 ≤ c → c ≤ 8 → zu (zRs ia) 17 1 0 c = zRs ia c := fun c h1 h2 => by
      funext i
      rw [zu_nc (by omega)]
    have e17 : zu (zRs ia) 17 1 0 17 1 = 0 := zu_same
    generalize zu (zRs ia) 17 1 0 = ja at bz bv e17 ⊢
    have e24 : ja 24 = ia 24 := bz 24 (by decide) (by decide)
    have h9 := eX8_restore_0 (G := G) (w := w2) (ia := ja) (by rw [e24, d1]; exact d2)
    rw [show ja 27 0 = ia 11 0 by rw [bz 27 (by decide) (by decide)]; exact hr] at h9
    refine ⟨_, _, h9, fun _ => rfl, ⟨by omega, by omega⟩, ?_, ?_⟩
    · rw [zu_ni (by decide), zcp_off (Or.inl (by decide)), zu_same]
    generalize hjb : zu (zcp (zu ja 24 8 0) 27 0 25 0 1968) 24 5 0 = jb
    have jc : ∀ c : Nat, c ≠ 24 → c ≠ 25 → jb c = ja c := fun c h1 h2 => by
      rw [← hjb]
      funext i
      rw [zu_nc h1, zcp_off (Or.inl h2), zu_nc h1]
    have j24 : ∀ j : Int, j ≠ 5 → j ≠ 8 → jb 24 j = ia 24 j := fun j h1 h2 => by rw [← hjb, zu_ni h1, zcp_off (Or.inl (by decide)), zu_ni h2, e24]
    have j5 : jb 24 5 = 0 := by rw [← hjb, zu_same]
    have j25 : ∀ i : Int, 0 ≤ i → i < 1968 → jb 25 i = ia 27 i := fun i h1 h2 => by
      rw [← hjb, zu_nc (by decide), zcp_on (by omega), zu_nc (by decide), bz 27 (by decide) (by decide), show 0 + (i - 0) = i by omega]
    have ji : ∀ c : Nat, c ≠ 24 → c ≠ 25 → (c < 2 ∨ 8 < c) → c ≠ 17 → jb c = ia c := fun c h1 h2 h3 h4 => by rw [jc c h1 h2, bz c h3 h4]
    refine ⟨zVw_g (zVw_cg Vr (zSbk_of fun c h1 h2 => by rw [jc c (by omega) (by omega), bv c h1 h2])) j25, ?_, ?_, ?_, ?_, ?_, ?_, ?_⟩
    · have e9 : jb 17 1 = 0 := by rw [jc 17 (by decide) (by decide), e17]
      unfold zPa
      rw [e9, j5]
      exact ⟨by decide, rfl, fun k h1 h2 => absurd h2 (by omega), fun k k2 h1 h2 h3 => absurd h3 (by omega)⟩
    · exact zSd_of (fun c h1 h2 => ji c (by omega) (by omega) (by omega) (by omega)) (by rw [ji 0 (by decide) (by decide) (by decide) (by decide)]) (j24 4 (by decide) (by decide)) (ji 27 (by decide) (by decide) (by decide) (by decide)) D
    · exact zTx_of (by rw [ji 19 (by decide) (by decide) (by decide) (by decide)]) (ji 20 (by decide) (by decide) (by decide) (by decide)) (by rw [ji 0 (by decide) (by decide) (by decide) (by decide)]) (j24 13 (by decide) (by decide)) (ji 29 (by decide) (by decide) (by decide) (by decide)) (j24 14 (by decide) (by decide)) X
    · exact zRe_of (ji 9 (by decide) (by decide) (by decide) (by decide)) (j24 9 (by decide) (by decide)) (j24 10 (by decide) (by decide)) (j24 11 (by decide) (by decide)) R
    · exact zLi_of (by rw [ji 22 (by decide) (by decide) (by decide) (by decide)]) (ji 23 (by decide) (by decide) (by decide) (by decide)) (j24 16 (by decide) (by decide)) (ji 30 (by decide) (by decide) (by decide) (by decide)) L
    · rw [j24 6 (by decide) (by decide)]
      exact W
    · exact zLH_of (ji 31 (by decide) (by decide) (by decide) (by decide)) (ji 32 (by decide) (by decide) (by decide) (by decide)) H
theorem j_save {G : zG} {ia : Nat → Int → Int} (Q : zQq ia ia) : ∃ (ia1 ib1 : Nat → Int → Int) (r : Int), zI32 r ∧ zQq ib1 ib1 ∧ (∀ w, Ev G mX7_save 0 [(1, 0)] [] (zH ia w) (.inl (some (0, r)), zH ia1 w, 0, 0)) ∧ ∀ w, Ev G mX8_save 0 [(1, 24)] [] (zH ia1 w) (.inl (some (0, r)), zH ib1 w, 0, 0) := by
  obtain ⟨V, P, D, X, R, L, W, H⟩ := Q
  have hn := V.1.1.1
  have hr : ia 25 0 = ia 3 0 := V.1.2.1
  have Vs := zVw_cg V (zSv_sb V.1.1)
  have h8 : ∀ w, Ev G mX8_save 0 [(1, 24)] [] (zH (zu (zSv ia) 0 5 1) w) (.inl (some (0, ia 3 0)), zH (zcp (zu (zu (zu (zSv ia) 0 5 1) 24 8 0) 24 4 1) 25 0 27 0 1968) w, 0, 0) := fun w => by
    have h9 := eX8_save (G := G) (w := w) (ia := zu (zSv ia) 0 5 1)
    rw [show zu (zSv ia) 0 5 1 25 0 = ia 3 0 by rw [zu_nc (by decide), zSv_c (by decide)]; exact hr] at h9
    exact h9
  refine ⟨zu (zSv ia) 0 5 1, zcp (zu (zu (zu (zSv ia) 0 5 1) 24 8 0) 24 4 1) 25 0 27 0 1968, ia 3 0, ⟨by omega, by omega⟩, ?_, fun w => eX7_save, h8⟩
  generalize hjb : zcp (zu (zu (zu (zSv ia) 0 5 1) 24 8 0) 24 4 1) 25 0 27 0 1968 = jb
  have ji : ∀ c : Nat, c ≠ 24 → c ≠ 27 → c ≠ 0 → (c < 10 ∨ 16 < c) → jb c = ia c := fun c h1 h2 h3 h4 => by
    rw [← hjb]
    funext i
    rw [zcp_off (Or.inl h2), zu_nc h1, zu_nc h1, zu_nc h3, zSv_c h4]
  have js : ∀ c : Nat, 10 ≤ c → c ≤ 16 → jb c = zSv ia c := fun c h1 h2 => by
    rw [← hjb]
    funext i
    rw [zcp_off (Or.inl (by omega)), zu_nc (by omega), zu_nc (by omega), zu_nc (by omega)]
  have j24 : ∀ j : Int, j ≠ 4 → j ≠ 8 → jb 24 j = ia 24 j := fun j h1 h2 => by rw [← hjb, zcp_off (Or.inl (by decide)), zu_ni h1, zu_ni h2, zu_nc (by decide), zSv_c (by decide)]
  have j4 : jb 24 4 = 1 := by rw [← hjb, zcp_off (Or.inl (by decide)), zu_same]
  have j05 : jb 0 5 = 1 := by rw [← hjb, zcp_off (Or.inl (by decide)), zu_nc (by decide), zu_nc (by decide), zu_same]
  have j08 : jb 0 8 = ia 0 8 := by rw [← hjb, zcp_off (Or.inl (by decide)), zu_nc (by decide), zu_nc (by decide), zu_ni (by decide), zSv_c (by decide)]
  have j27 : ∀ i : Int, 0 ≤ i → i < 1968 → jb 27 i = ia 25 i := fun i h1 h2 => by
    rw [← hjb, zcp_on (by omega), zu_nc (by decide), zu_nc (by decide), zu_nc (by decide), zSv_c (by decide), show 0 + (i - 0) = i by omega]
  refine ⟨?_, zPa_cl (fun c h => ji c (by omega) (by omega) (by omega) (by omega)) (zPa_b (j24 5 (by decide) (by decide)) (ji 26 (by decide) (by decide) (by decide) (by decide)) P), ⟨by rw [j4, j05], Or.inr ⟨j05, zVw_g (zVw_cg Vs (zSa_sb js)) j27⟩⟩, ?_, ?_, ?_, ?_, ?_⟩
  · rw [ji 25 (by decide) (by decide) (by decide) (by decide)]
    exact zVw_cg V (zSbk_of fun c h1 h2 => ji c (by omega) (by omega) (by omega) (by omega))
  · exact zTx_of (by rw [ji 19 (by decide) (by decide) (by decide) (by decide)]) (ji 20 (by decide) (by decide) (by decide) (by decide)) j08 (j24 13 (by decide) (by decide)) (ji 29 (by decide) (by decide) (by decide) (by decide)) (j24 14 (by decide) (by decide)) X
  · exact zRe_of (ji 9 (by decide) (by decide) (by decide) (by decide)) (j24 9 (by decide) (by decide)) (j24 10 (by decide) (by decide)) (j24 11 (by decide) (by decide)) R
  · exact zLi_of (by rw [ji 22 (by decide) (by decide) (by decide) (by decide)]) (ji 23 (by decide) (by decide) (by decide) (by decide)) (j24 16 (by decide) (by decide)) (ji 30 (by decide) (by decide) (by decide) (by decide)) L
  · rw [j24 6 (by decide) (by decide)]
    exact W
  · exact zLH_of (ji 31 (by decide) (by decide) (by decide) (by decide)) (ji 32 (by decide) (by decide) (by decide) (by decide)) H
theorem j_fault {G : zG} {ia : Nat → Int → Int} (Q : zQq ia ia) : zI32 (ia 0 8) ∧ zQq (zu ia 24 8 0) (zu ia 24 8 0) ∧ (∀ w, Ev G mX7_faultPosition 0 [(1, 0)] [] (zH ia w) (.inl (some (0, ia 0 8)), zH ia w, 0, 0)) ∧ ∀ w, Ev G mX8_faultPosition 0 [(1, 24)] [] (zH ia w) (.inl (some (0, ia 0 8)), zH (zu ia 24 8 0) w, 0, 0) := by
  have X := Q.2.2.2.1
  have hb := X.2.2.2.2
  refine ⟨⟨by omega, by omega⟩, zQq_code Q, fun w => eX7_faultPosition, fun w => ?_⟩
  have h9 := eX8_faultPosition (G := G) (w := w) (ia := ia)
  rw [X.2.2.2.1] at h9
  exact h9
