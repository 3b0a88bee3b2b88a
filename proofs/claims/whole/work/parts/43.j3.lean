/-! WHOLE CALLS, BOTH SIDES: COMMANDS -/
theorem zpt_nf {f ch : Int → Int} : ∀ (n : Nat) (j p pl : Int) (nf mf : Int → Int), (zpt f ch n j p pl nf).1 = (zpt f ch n j p pl mf).1 ∧ (zpt f ch n j p pl nf).2.1 = (zpt f ch n j p pl mf).2.1
  | 0, _, _, _, _, _ => ⟨rfl, rfl⟩
  | n + 1, j, p, pl, nf, mf => by
    rw [zpt_s, zpt_s]
    split
    · split
      · exact ⟨rfl, rfl⟩
      · exact zpt_nf n _ _ _ _ _
    · split
      · exact zpt_nf n _ _ _ _ _
      · exact ⟨rfl, rfl⟩
theorem zrd_nf {ch : Int → Int} (p : Int) (nf mf : Int → Int) : (zrd ch p nf).1 = (zrd ch p mf).1 ∧ (zrd ch p nf).2.1 = (zrd ch p mf).2.1 := by
  unfold zrd
  split
  · exact ⟨rfl, rfl⟩
  · exact zpt_nf _ _ _ _ _ _
theorem zft2_nf {ch : Int → Int} {L : Int} : ∀ (n : Nat) (p : Int) (nf mf : Int → Int), zft2 ch L n p nf = zft2 ch L n p mf
  | 0, _, _, _ => rfl
  | n + 1, p, nf, mf => by
    have h := zrd_nf (ch := ch) p nf mf
    show (if (zrd ch p nf).2.1 = 0 then (zrd ch p nf).1 else if L ≤ (zrd ch p nf).1 then -1 else if ch (zrd ch p nf).1 = 59 then zft2 ch L n ((zrd ch p nf).1 + 1) (zrd ch p nf).2.2 else (zrd ch p nf).1) = (if (zrd ch p mf).2.1 = 0 then (zrd ch p mf).1 else if L ≤ (zrd ch p mf).1 then -1 else if ch (zrd ch p mf).1 = 59 then zft2 ch L n ((zrd ch p mf).1 + 1) (zrd ch p mf).2.2 else (zrd ch p mf).1)
    rw [h.1, h.2, zft2_nf n _ (zrd ch p nf).2.2 (zrd ch p mf).2.2]
theorem zTc_of {ia ib : Nat → Int → Int} (X : zTx ia ia) (h1 : ib 24 13 = ia 19 1) (h2 : ∀ i : Int, 0 ≤ i → i < ia 19 1 → ib 29 i = ia 20 i) : zTc ib (zch ia) (ia 19 1) := by
  obtain ⟨⟨d1, d2, d3⟩, _⟩ := X
  refine ⟨h1, ⟨d1, d2⟩, fun p h3 h4 => ?_, fun p h => zch_end p h⟩
  have e : zch ia p = ia 20 p := if_pos ⟨h3, h4, by omega⟩
  rw [e]
  exact ⟨h2 p h3 h4, d3 p h3 (by omega)⟩
/-- the model's heap once its text is read and its row is set aside -/
def zHm (jt : Nat → Int → Int) : Nat → Int → Int := zu (zu (zcp (zu (zu (zu jt 24 14 (-1)) 24 13 0) 24 8 0) 25 0 28 0 1968) 24 6 1) 24 7 0
theorem zHm_c {ia : Nat → Int → Int} {q M : Int} {T : Int → Int} {c : Nat} (h1 : c ≠ 24) (h2 : c ≠ 28) (h3 : c ≠ 33) : zHm (zTd ia q M T) c = ia c := by
  funext i
  unfold zHm
  rw [zu_nc h1, zu_nc h1, zcp_off (Or.inl h2), zu_nc h1, zu_nc h1, zu_nc h1]
  unfold zTd
  rw [if_neg (fun e => h1 e.1), if_neg (fun e => h1 e.1), if_neg h3]
theorem zHm_33 {ia : Nat → Int → Int} {q M : Int} {T : Int → Int} : zHm (zTd ia q M T) 33 = T := rfl
theorem zHm_28 {ia : Nat → Int → Int} {q M i : Int} {T : Int → Int} (h : 0 ≤ i ∧ i < 1968) : zHm (zTd ia q M T) 28 i = ia 25 i := by
  unfold zHm
  rw [zu_nc (by decide), zu_nc (by decide), zcp_on (by omega), show 0 + (i - 0) = i by omega]
  rfl
theorem zHm_24 {ia : Nat → Int → Int} {q M j : Int} {T : Int → Int} (h : j ≠ 6 ∧ j ≠ 7 ∧ j ≠ 8 ∧ j ≠ 13 ∧ j ≠ 14 ∧ j ≠ 19 ∧ j ≠ 21) : zHm (zTd ia q M T) 24 j = ia 24 j := by
  unfold zHm
  rw [zu_ni h.2.1, zu_ni h.1, zcp_off (Or.inl (by decide)), zu_ni h.2.2.1, zu_ni h.2.2.2.1, zu_ni h.2.2.2.2.1]
  unfold zTd
  rw [if_neg (fun e => h.2.2.2.2.2.1 e.2), if_neg (fun e => h.2.2.2.2.2.2 e.2), if_neg (by decide)]
theorem zHm_k {ia : Nat → Int → Int} {q M : Int} {T : Int → Int} : zHm (zTd ia q M T) 24 6 = 1 ∧ zHm (zTd ia q M T) 24 7 = 0 ∧ zHm (zTd ia q M T) 24 8 = 0 ∧ zHm (zTd ia q M T) 24 13 = 0 ∧ zHm (zTd ia q M T) 24 14 = -1 ∧ zHm (zTd ia q M T) 24 21 = M := ⟨rfl, rfl, rfl, rfl, rfl, rfl⟩
theorem j_commands {G : zG} {ia : Nat → Int → Int} (hG : zGo G) (Q : zQq ia ia) : zJT G mX7_commands [(1, 0), (9, 0), (9, 0)] mX8_commands [(1, 24), (9, 0), (9, 0)] "java/lang/IllegalArgumentException" "java/lang/UnsupportedOperationException" ia := by
  intro w
  obtain ⟨V, P, Dd, X, R, Ll, W, H⟩ := Q
  have D := X.1
  have hn := V.1.1.1
  have hz : ∀ p : Int, ia 19 1 ≤ p → zch ia p = 0 := fun p h => zch_end p h
  obtain ⟨p9, k9, nf9, hE⟩ := eX2_findFault_p (G := G) (w := w) D
  rw [zft2_nf 60 0 (ia 21) nf9] at hE
  obtain ⟨b, q, M9, T9, hq, hcase, _⟩ := eX8_isText (G := G) (w := w) (nf := nf9) (zTc_of X X.2.1 X.2.2.1)
  rcases hcase with ⟨_, hft⟩ | ⟨_, hft, hqL, hM9, hok⟩
  · -- a fault
    rw [hft] at hE
    refine ⟨_, 1, 0, by decide, Or.inr (Or.inl ⟨rfl, eX7_commands_x0 hE ⟨hq.1, by have := D.2.1; omega⟩⟩), fun w2 => ?_⟩
    obtain ⟨b2, q2, M2, T2, hq2, hc2, E2⟩ := eX8_isText (G := G) (w := w2) (nf := nf9) (ia := zu (zu (zDf ia p9 k9 nf9) 0 8 q) 19 1 0) (zTc_of X X.2.1 X.2.2.1)
    rcases hc2 with ⟨hb2, hf2⟩ | ⟨_, hf2, _⟩
    · have e : q2 = q := by rw [← hf2, hft]
      subst e hb2
      refine ⟨_, 0, eX8_commands_c1 E2 rfl, fun e => absurd e (by decide), by decide, rfl, V, P, Dd, ⟨⟨Int.le_refl 0, (by decide : (0 : Int) ≤ 60), D.2.2⟩, rfl, fun i h1 h2 => ?_, rfl, ?_, ?_⟩, R, Ll, W, H⟩
      · have h3 : i < 0 := h2
        omega
      · show -1 ≤ q2
        omega
      · show q2 ≤ 60
        have := D.2.1
        omega
    · rw [hft] at hf2
      exact absurd hf2 (by omega)
  · -- commands
    rw [hft] at hE
    have s2 : ∀ c : Nat, c ≠ 0 → c ≠ 18 → c ≠ 19 → c ≠ 21 → zu (zNo (zu (zDf ia p9 k9 nf9) 0 8 (-1))) 19 2 0 c = ia c := fun c h1 h2 h3 h4 => by
      funext i
      rw [zu_nc h3, zNo_c h2, zu_nc h1, zDf_c h3 h4]
    have s18 : zu (zNo (zu (zDf ia p9 k9 nf9) 0 8 (-1))) 19 2 0 18 = zNo ia 18 := rfl
    have s05 : zu (zNo (zu (zDf ia p9 k9 nf9) 0 8 (-1))) 19 2 0 0 5 = ia 0 5 := rfl
    have s08 : zu (zNo (zu (zDf ia p9 k9 nf9) 0 8 (-1))) 19 2 0 0 8 = -1 := rfl
    have s191 : zu (zNo (zu (zDf ia p9 k9 nf9) 0 8 (-1))) 19 2 0 19 1 = ia 19 1 := rfl
    have s192 : zu (zNo (zu (zDf ia p9 k9 nf9) 0 8 (-1))) 19 2 0 19 2 = 0 := rfl
    have s21 : zu (zNo (zu (zDf ia p9 k9 nf9) 0 8 (-1))) 19 2 0 21 = nf9 := rfl
    have hin : ∀ O, Ev G mX7_commands 58 [(1, 0), (0, 0), (0, 0)] [] (zH (zu (zNo (zu (zDf ia p9 k9 nf9) 0 8 (-1))) 19 2 0) w) O → Ev G mX7_commands 0 [(1, 0), (9, 0), (9, 0)] [] (zH ia w) O := fun O h => eX7_commands_in hE P.1 h
    generalize zu (zNo (zu (zDf ia p9 k9 nf9) 0 8 (-1))) 19 2 0 = i2 at s2 s18 s05 s08 s191 s192 s21 hin
    have V2 : zVw i2 (ia 25) := zVw_cg V (zSbk_of fun c h1 h2 => s2 c (by omega) (by omega) (by omega) (by omega))
    have C2 : zCC (zch ia) (ia 19 1) 0 nf9 i2 := by
      refine ⟨⟨_, V2⟩, zDI_cg s191 (s2 20 (by decide) (by decide) (by decide) (by decide)) D, zch_cg s191 (s2 20 (by decide) (by decide) (by decide) (by decide)), s191, s192, s21, ⟨Int.le_refl 0, D.1⟩, by rw [s2 17 (by decide) (by decide) (by decide) (by decide)]; exact P.1, ?_⟩
      rw [s18, s2 17 (by decide) (by decide) (by decide) (by decide), s2 3 (by decide) (by decide) (by decide) (by decide), show ia 17 1 * 8 = 8 * ia 17 1 by omega, zNo_0]
      omega
    have hGv : ∀ jx, zGv i2 jx → zGv (zNo ia) (zu jx 19 1 0) := fun jx h => by
      have e3 : i2 3 = ia 3 := s2 3 (by decide) (by decide) (by decide) (by decide)
      have e4 : i2 4 = ia 4 := s2 4 (by decide) (by decide) (by decide) (by decide)
      have e5 : i2 5 = ia 5 := s2 5 (by decide) (by decide) (by decide) (by decide)
      have e6 : i2 6 = ia 6 := s2 6 (by decide) (by decide) (by decide) (by decide)
      have e7 : i2 7 = ia 7 := s2 7 (by decide) (by decide) (by decide) (by decide)
      unfold zGv zTo at h
      rw [e3, e4, e5, e6, e7] at h
      exact h
    have hFm : ∀ jx, zCF i2 jx → zFm ia (zu jx 19 1 0) := fun jx h => by
      refine ⟨?_, ?_, hGv jx h.1⟩
      · funext i
        rw [zu_nc (by decide), h.2.1 17 (by decide) (by decide) (by decide) (by decide), s2 17 (by decide) (by decide) (by decide) (by decide)]
      · funext i
        rw [zu_nc (by decide), h.2.1 18 (by decide) (by decide) (by decide) (by decide), s18]
    -- the model's side, from any heap that has the model's cells
    have hMd : ∀ i1 : Nat → Int → Int, (∀ c : Nat, 24 ≤ c → i1 c = ia c) → ∀ (q2 M2 : Int) (T2 : Int → Int), zMC i2 (zHm (zTd i1 q2 M2 T2)) 0 M2 T2 := fun i1 h1 q2 M2 T2 => by
      obtain ⟨k6, k7, k8, k13, k14, k21⟩ := zHm_k (ia := i1) (q := q2) (M := M2) (T := T2)
      refine ⟨⟨?_, ?_, Or.inr k6, ?_⟩, k6, k8, k7, k21, zHm_33⟩
      · rw [zHm_c (by decide) (by decide) (by decide), h1 25 (by decide)]
        exact V2
      · exact zLH_of ((zHm_c (by decide) (by decide) (by decide)).trans (h1 31 (by decide))) ((zHm_c (by decide) (by decide) (by decide)).trans (h1 32 (by decide))) H
      · rw [zHm_24 (by decide), h1 24 (by decide), P.2.1]
        exact P.1
    have hIT : ∀ (i1 : Nat → Int → Int) (w2 : (Nat → Int → Int) × (Nat → Int → Int)), (∀ c : Nat, 24 ≤ c → i1 c = ia c) → ∃ (q2 M2 : Int) (T2 : Int → Int), (0 ≤ M2 ∧ M2 ≤ 30) ∧ zok (zch ia) (ia 19 1) T2 60 0 0 nf9 M2 ∧ ∀ O, Ev G mX8_commands 69 [(1, 24), (0, 1), (0, 0)] [] (zH (zHm (zTd i1 q2 M2 T2)) w2) O → Ev G mX8_commands 0 [(1, 24), (9, 0), (9, 0)] [] (zH i1 w2) O := fun i1 w2 h1 => by
      obtain ⟨b2, q2, M2, T2, hq2, hc2, E2⟩ := eX8_isText (G := G) (w := w2) (nf := nf9) (ia := i1) (zTc_of X (by rw [h1 24 (by decide)]; exact X.2.1) (by rw [h1 29 (by decide)]; exact X.2.2.1))
      rcases hc2 with ⟨_, hf2⟩ | ⟨hb2, hf2, _, hM2, hok2⟩
      · rw [hft] at hf2
        exact absurd hf2 (by omega)
      · subst hb2
        have := D.2.1
        exact ⟨q2, M2, T2, ⟨by omega, by omega⟩, hok2, fun O h => eX8_commands_in E2 h⟩
    rcases zex hG ⟨D.1, D.2.1⟩ hz 60 0 0 nf9 i2 ⟨Int.le_refl 0, by decide⟩ ⟨T9, M9, hok⟩ C2 w with ⟨jx, M, k1, k2, k3, k4, k5⟩ | ⟨jx, a, b9, q9, k1, ha, hb, hq9, k2, k3, k5⟩
    · -- all are carried out
      have Fm := hFm jx k1
      have hM := hin _ k4
      have jc : ∀ c : Nat, 8 < c → c ≠ 18 → c ≠ 19 → c ≠ 21 → zu jx 19 1 0 c = ia c := fun c h1 h2 h3 h4 => by
        funext i
        rw [zu_nc h3]
        by_cases e : c = 9
        · rw [e, k2, s2 9 (by decide) (by decide) (by decide) (by decide)]
        · rw [k1.2.1 c (Or.inr h1) e h3 h4, s2 c (by omega) h2 h3 h4]
      have j05 : zu jx 19 1 0 0 5 = ia 0 5 := by rw [zu_nc (by decide), k1.2.1 0 (by decide) (by decide) (by decide) (by decide), s05]
      have j08 : zu jx 19 1 0 0 8 = -1 := by rw [zu_nc (by decide), k1.2.1 0 (by decide) (by decide) (by decide) (by decide), s08]
      have j191 : zu jx 19 1 0 19 1 = 0 := zu_same
      have jv : ∀ c : Nat, c ≠ 19 → zu jx 19 1 0 c = jx c := fun c h => by funext i; rw [zu_nc h]
      generalize hj9 : zu jx 19 1 0 = j9 at Fm hM jc j05 j08 j191 jv
      have n17 : j9 17 1 = ia 17 1 := by rw [jc 17 (by decide) (by decide) (by decide) (by decide)]
      have l1 : ∀ c : Nat, 8 < c → c ≠ 17 → c ≠ 18 → c ≠ 19 → c ≠ 21 → zKe j9 c = ia c := fun c h0 h1 h2 h3 h4 => by rw [zKe_c h1 h2, jc c h0 h2 h3 h4]
      refine ⟨zKe j9, 0, M, ⟨by omega, by omega⟩, Or.inl ⟨rfl, hM⟩, fun w2 => ?_⟩
      have l24 : ∀ c : Nat, 24 ≤ c → zKe j9 c = ia c := fun c h => l1 c (by omega) (by omega) (by omega) (by omega) (by omega)
      obtain ⟨q2, M2, T2, hM2, hok2, hin2⟩ := hIT (zKe j9) w2 l24
      obtain ⟨x1, jb, x2, x3, x4, x5, x6⟩ := k5 _ T2 M2 hM2 hok2 (hMd (zKe j9) l24 q2 M2 T2)
      obtain ⟨k6, k7, k8, k13, k14, k21⟩ := zHm_k (ia := zKe j9) (q := q2) (M := M2) (T := T2)
      have b5 : jb 24 5 = ia 17 1 := by rw [x3 5 (by decide), zHm_24 (by decide), l24 24 (by decide), P.2.1]
      have hfin := hin2 _ (x6 w2 _ 0 (fun r9 => eX8_commands_fin (M := M) (g9 := r9) x4 (by rw [x3 21 (by decide), k21]; exact x1) (by rw [b5]; exact P.1)))
      refine ⟨_, M, hfin, fun _ => rfl, ⟨by omega, by omega⟩, zKp_8, ?_⟩
      have c0 : ∀ c : Nat, c ≠ 24 → c ≠ 25 → c ≠ 28 → c ≠ 33 → jb c = zKe j9 c := fun c h1 h2 h3 h4 => by rw [x2.1 c h1 h2, zHm_c h1 h3 h4]
      have b28 : ∀ i : Int, 0 ≤ i → i < 1968 → zu jb 24 6 0 28 i = ia 25 i := fun i h1 h2 => by
        rw [zu_nc (by decide), x2.1 28 (by decide) (by decide), zHm_28 ⟨h1, h2⟩, l24 25 (by decide)]
      have u5 : zu jb 24 6 0 24 5 = ia 24 5 := by rw [zu_ni (by decide), b5, P.2.1]
      have u26 : zu jb 24 6 0 26 = ia 26 := by
        funext i
        rw [zu_nc (by decide), c0 26 (by decide) (by decide) (by decide) (by decide), l24 26 (by decide)]
      have P9 := zPa_keep (ib := zu jb 24 6 0) (c := 28) (zPa_b u5 u26 P) (zVw_g V b28) (by decide) zu_same Fm
      have f24 : ∀ j : Int, j ≠ 5 → j ≠ 6 → j ≠ 7 → j ≠ 8 → zKp (zu jb 24 6 0) 28 24 j = zHm (zTd (zKe j9) q2 M2 T2) 24 j := fun j h1 h2 h3 h4 => by rw [zKp_24 h1 h4, zu_ni h2, x3 j (by omega)]
      have f24i : ∀ j : Int, j ≠ 5 → j ≠ 6 ∧ j ≠ 7 ∧ j ≠ 8 ∧ j ≠ 13 ∧ j ≠ 14 ∧ j ≠ 19 ∧ j ≠ 21 → zKp (zu jb 24 6 0) 28 24 j = ia 24 j := fun j h1 h2 => by rw [f24 j h1 h2.1 h2.2.1 h2.2.2.1, zHm_24 h2, l24 24 (by decide)]
      have fc : ∀ c : Nat, c ≠ 24 → c ≠ 25 → c ≠ 26 → c ≠ 28 → c ≠ 33 → zKp (zu jb 24 6 0) 28 c = zKe j9 c := fun c h1 h2 h3 h4 h5 => by
        rw [zKp_c h1 h3]
        funext i
        rw [zu_nc h1, c0 c h1 h2 h4 h5]
      have f25 : zKp (zu jb 24 6 0) 28 25 = jb 25 := by
        rw [zKp_c (by decide) (by decide)]
        funext i
        rw [zu_nc (by decide)]
      have f6 : zKp (zu jb 24 6 0) 28 24 6 = 0 := by rw [zKp_24 (by decide) (by decide), zu_same]
      generalize zKp (zu jb 24 6 0) 28 = jf at P9 f24 f24i fc f25 f6
      have fi : ∀ c : Nat, 8 < c → c ≠ 17 → c ≠ 18 → c ≠ 19 → c ≠ 21 → c ≠ 24 → c ≠ 25 → c ≠ 26 → c ≠ 28 → c ≠ 33 → jf c = ia c := fun c h0 h1 h2 h3 h4 h5 h6 h7 h8 h9 => by rw [fc c h5 h6 h7 h8 h9, l1 c h0 h1 h2 h3 h4]
      have f0 : jf 0 = j9 0 := by rw [fc 0 (by decide) (by decide) (by decide) (by decide) (by decide), zKe_c (by decide) (by decide)]
      have f19 : jf 19 = j9 19 := by rw [fc 19 (by decide) (by decide) (by decide) (by decide) (by decide), zKe_c (by decide) (by decide)]
      refine ⟨?_, zPa_cl (fun c h => fc c (by omega) (by omega) (by omega) (by omega) (by omega)) P9, ?_, ⟨⟨?_, ?_, ?_⟩, ?_, fun i h1 h2 => ?_, ?_, ?_⟩, ?_, ?_, f6, ?_⟩
      · rw [f25]
        exact zVw_cg x5 (zSbk_of fun c h1 h2 => by rw [fc c (by omega) (by omega) (by omega) (by omega) (by omega), zKe_c (by omega) (by omega), jv c (by omega)])
      · exact zSd_of (fun c h1 h2 => fi c (by omega) (by omega) (by omega) (by omega) (by omega) (by omega) (by omega) (by omega) (by omega) (by omega)) (by rw [f0]; exact j05) (f24i 4 (by decide) (by decide)) (fi 27 (by decide) (by decide) (by decide) (by decide) (by decide) (by decide) (by decide) (by decide) (by decide) (by decide)) Dd
      · rw [f19, j191]
        decide
      · rw [f19, j191]
        decide
      · rw [fi 20 (by decide) (by decide) (by decide) (by decide) (by decide) (by decide) (by decide) (by decide) (by decide) (by decide)]
        exact D.2.2
      · rw [f24 13 (by decide) (by decide) (by decide) (by decide), k13, f19, j191]
      · rw [f19, j191] at h2
        omega
      · rw [f24 14 (by decide) (by decide) (by decide) (by decide), k14, f0, j08]
      · rw [f0, j08]
        decide
      · exact zRe_of (fi 9 (by decide) (by decide) (by decide) (by decide) (by decide) (by decide) (by decide) (by decide) (by decide) (by decide)) (f24i 9 (by decide) (by decide)) (f24i 10 (by decide) (by decide)) (f24i 11 (by decide) (by decide)) R
      · exact zLi_of (by rw [fi 22 (by decide) (by decide) (by decide) (by decide) (by decide) (by decide) (by decide) (by decide) (by decide) (by decide)]) (fi 23 (by decide) (by decide) (by decide) (by decide) (by decide) (by decide) (by decide) (by decide) (by decide) (by decide)) (f24i 16 (by decide) (by decide)) (fi 30 (by decide) (by decide) (by decide) (by decide) (by decide) (by decide) (by decide) (by decide) (by decide) (by decide)) Ll
      · exact zLH_of (fi 31 (by decide) (by decide) (by decide) (by decide) (by decide) (by decide) (by decide) (by decide) (by decide) (by decide)) (fi 32 (by decide) (by decide) (by decide) (by decide) (by decide) (by decide) (by decide) (by decide) (by decide) (by decide)) H
    · -- one is refused
      have Fm := hFm jx k1
      have hM := hin _ k3
      have jc : ∀ c : Nat, c < 2 ∨ 8 < c → c ≠ 0 → c ≠ 9 → c ≠ 18 → c ≠ 19 → c ≠ 21 → zu jx 19 1 0 c = ia c := fun c h1 h0 h9 h2 h3 h4 => by
        funext i
        rw [zu_nc h3, k1.2.1 c h1 h9 h3 h4, s2 c h0 h2 h3 h4]
      have j05 : zu jx 19 1 0 0 5 = ia 0 5 := by rw [zu_nc (by decide), k1.2.1 0 (by decide) (by decide) (by decide) (by decide), s05]
      have j08 : zu jx 19 1 0 0 8 = -1 := by rw [zu_nc (by decide), k1.2.1 0 (by decide) (by decide) (by decide) (by decide), s08]
      have j191 : zu jx 19 1 0 19 1 = 0 := zu_same
      have j9 : zu jx 19 1 0 9 0 = a ∧ zu jx 19 1 0 9 1 = b9 ∧ zu jx 19 1 0 9 2 = q9 := by
        rw [zu_nc (by decide), zu_nc (by decide), zu_nc (by decide)]
        exact k2
      generalize hj9 : zu jx 19 1 0 = jy at Fm hM jc j05 j08 j191 j9
      have l24 : ∀ c : Nat, 24 ≤ c → zBa jy c = ia c := fun c h => by rw [zBa_c (by omega) (by omega) (by omega), jc c (by omega) (by omega) (by omega) (by omega) (by omega) (by omega)]
      refine ⟨zBa jy, 2, 0, by decide, Or.inr (Or.inr ⟨rfl, by simp, hM⟩), fun w2 => ?_⟩
      obtain ⟨q2, M2, T2, hM2, hok2, hin2⟩ := hIT (zBa jy) w2 l24
      obtain ⟨jb, x2, x3, x4, x5, x6, x7⟩ := k5 _ T2 M2 hM2 hok2 (hMd (zBa jy) l24 q2 M2 T2)
      obtain ⟨k6, k7, k8, k13, k14, k21⟩ := zHm_k (ia := zBa jy) (q := q2) (M := M2) (T := T2)
      have hfin := hin2 _ (x7 w2 _ 0 (eX8_commands_c2 x3))
      refine ⟨_, 0, hfin, fun e => absurd e (by decide), by decide, rfl, ?_⟩
      have c0 : ∀ c : Nat, c ≠ 24 → c ≠ 25 → c ≠ 28 → c ≠ 33 → jb c = zBa jy c := fun c h1 h2 h3 h4 => by rw [x2.1 c h1 h2, zHm_c h1 h3 h4]
      generalize hjf : zu (zcp (zu jb 24 6 0) 28 0 25 0 1968) 24 8 2 = jf
      have fc : ∀ c : Nat, c ≠ 24 → c ≠ 25 → jf c = jb c := fun c h1 h2 => by
        rw [← hjf]
        funext i
        rw [zu_nc h1, zcp_off (Or.inl h2), zu_nc h1]
      have f24 : ∀ j : Int, j ≠ 6 → j ≠ 8 → jf 24 j = jb 24 j := fun j h1 h2 => by rw [← hjf, zu_ni h2, zcp_off (Or.inl (by decide)), zu_ni h1]
      have f6 : jf 24 6 = 0 := by rw [← hjf, zu_ni (by decide), zcp_off (Or.inl (by decide)), zu_same]
      have f25 : ∀ i : Int, 0 ≤ i → i < 1968 → jf 25 i = ia 25 i := fun i h1 h2 => by
        rw [← hjf, zu_nc (by decide), zcp_on (by omega), zu_nc (by decide), x2.1 28 (by decide) (by decide), show 0 + (i - 0) = i by omega, zHm_28 ⟨h1, h2⟩, l24 25 (by decide)]
      refine top_ref (jx := jy) (a := a) (b := b9) (q := q9) ⟨V, P, Dd, X, R, Ll, W, H⟩ Fm ha hb hq9 j9 (fun c h1 h2 h3 h4 h5 h6 => jc c (by omega) (by omega) (by omega) h4 h5 h6) j05 (by rw [j08]; decide) (by rw [j191]; exact ⟨by decide, D.1⟩) (fun c h => by rw [fc c (by omega) (by omega), c0 c (by omega) (by omega) (by omega) (by omega)]) (fun j h => ?_) ?_ ?_ ⟨?_, ?_, ?_⟩ f25 (fun c h => ?_)
      · by_cases e : j = 6
        · rw [e, f6, W]
        · rw [f24 j e (by omega), x2.2 j (by omega), zHm_24 (by omega), l24 24 (by decide)]
      · rw [f24 13 (by decide) (by decide), x2.2 13 (by decide), k13, j191]
      · rw [f24 14 (by decide) (by decide), x2.2 14 (by decide), k14, j08]
      · rw [f24 9 (by decide) (by decide), x4]
      · rw [f24 10 (by decide) (by decide), x5]
      · rw [f24 11 (by decide) (by decide), x6]
      · rw [fc c (by omega) (by omega), c0 c (by omega) (by omega) (by omega) (by omega), l24 c (by omega)]
