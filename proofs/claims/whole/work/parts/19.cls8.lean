/-! THE CLASS: THE DRAFT READS COMMANDS (printed by wip/whole/gen/cls8.py) -/
theorem eJ_charAt_i {G : zG} {ia : Nat → Int → Int} {w : (Nat → Int → Int) × (Nat → Int → Int)} {i : Nat} {L b j : Int} (hib : Nat.ble (i + 1) 24 = true) (hL : ((zSl.getD i 0 : Nat) : Int) = L) (hL0 : 0 ≤ L ∧ L ≤ 7) (hj : 0 ≤ j ∧ j < L) (hb : (zSb.getD i []).getD j.toNat 0 = Int32.ofInt b) (hb2 : 0 ≤ b ∧ b ≤ 127) : Ev G mJ0_charAt_5068e 0 [(2, (i : Int)), (0, j)] [] (zH ia w) (.inl (some (0, b)), zH ia w, 0, 0) := by
  obtain ⟨hj0, hj1⟩ := hj
  obtain ⟨m, rfl⟩ := Int.eq_ofNat_of_zero_le hj0
  exact eJ_charAt hib hL hL0 hj1 hb hb2
theorem eX2_formOf_119 {G : zG} {ia : Nat → Int → Int} {w : (Nat → Int → Int) × (Nat → Int → Int)}   : Ev G mX2_formOf 0 [(0, 119)] [] (zH ia w) (.inl (some (2, 11)), zH ia w, 0, 0) := by
  refine Ev.iload_n fX2_formOf_0 rfl ?_
  refine Ev.lookup fX2_formOf_1 (by decide) (by decide) rfl rfl ?_
  refine Ev.ldcS 11 fX2_formOf_52 rfl ?_
  exact Ev.zT fX2_formOf_54 rfl
theorem eX2_formOf_103 {G : zG} {ia : Nat → Int → Int} {w : (Nat → Int → Int) × (Nat → Int → Int)}   : Ev G mX2_formOf 0 [(0, 103)] [] (zH ia w) (.inl (some (2, 12)), zH ia w, 0, 0) := by
  refine Ev.iload_n fX2_formOf_0 rfl ?_
  refine Ev.lookup fX2_formOf_1 (by decide) (by decide) rfl rfl ?_
  refine Ev.ldcS 12 fX2_formOf_55 rfl ?_
  exact Ev.zT fX2_formOf_57 rfl
theorem eX2_formOf_102 {G : zG} {ia : Nat → Int → Int} {w : (Nat → Int → Int) × (Nat → Int → Int)}   : Ev G mX2_formOf 0 [(0, 102)] [] (zH ia w) (.inl (some (2, 13)), zH ia w, 0, 0) := by
  refine Ev.iload_n fX2_formOf_0 rfl ?_
  refine Ev.lookup fX2_formOf_1 (by decide) (by decide) rfl rfl ?_
  refine Ev.ldcS 13 fX2_formOf_58 rfl ?_
  exact Ev.zT fX2_formOf_60 rfl
theorem eX2_formOf_98 {G : zG} {ia : Nat → Int → Int} {w : (Nat → Int → Int) × (Nat → Int → Int)}   : Ev G mX2_formOf 0 [(0, 98)] [] (zH ia w) (.inl (some (2, 14)), zH ia w, 0, 0) := by
  refine Ev.iload_n fX2_formOf_0 rfl ?_
  refine Ev.lookup fX2_formOf_1 (by decide) (by decide) rfl rfl ?_
  refine Ev.ldcS 14 fX2_formOf_61 rfl ?_
  exact Ev.zT fX2_formOf_63 rfl
theorem eX2_formOf_121 {G : zG} {ia : Nat → Int → Int} {w : (Nat → Int → Int) × (Nat → Int → Int)}   : Ev G mX2_formOf 0 [(0, 121)] [] (zH ia w) (.inl (some (2, 15)), zH ia w, 0, 0) := by
  refine Ev.iload_n fX2_formOf_0 rfl ?_
  refine Ev.lookup fX2_formOf_1 (by decide) (by decide) rfl rfl ?_
  refine Ev.ldcS 15 fX2_formOf_64 rfl ?_
  exact Ev.zT fX2_formOf_66 rfl
theorem eX2_formOf_0 {G : zG} {ia : Nat → Int → Int} {w : (Nat → Int → Int) × (Nat → Int → Int)} {x : Int} (hr : 0 ≤ x ∧ x ≤ 65535) (h : x ≠ 119 ∧ x ≠ 103 ∧ x ≠ 102 ∧ x ≠ 98 ∧ x ≠ 121) : Ev G mX2_formOf 0 [(0, x)] [] (zH ia w) (.inl (some (2, 16)), zH ia w, 0, 0) := by
  refine Ev.iload_n fX2_formOf_0 rfl ?_
  refine Ev.lookup fX2_formOf_1 ⟨by omega, by omega⟩ (by decide) (by show Op.lookupswitch.offset [(98, 60), (102, 57), (103, 54), (119, 51), (121, 63)] 66 x = 66; rw [Op.lookupswitch.offset_cons, Op.lookupswitch.offset_cons, Op.lookupswitch.offset_cons, Op.lookupswitch.offset_cons, Op.lookupswitch.offset_cons, Op.lookupswitch.offset_nil, if_neg (by omega), if_neg (by omega), if_neg (by omega), if_neg (by omega), if_neg (by omega)]) rfl ?_
  refine Ev.ldcS 16 fX2_formOf_67 rfl ?_
  exact Ev.zT fX2_formOf_69 rfl
theorem eX2_formOf {G : zG} {ia : Nat → Int → Int} {w : (Nat → Int → Int) × (Nat → Int → Int)} {x : Int} {i : Nat} (hr : 0 ≤ x ∧ x ≤ 65535) (hi : zft x = i) : Ev G mX2_formOf 0 [(0, x)] [] (zH ia w) (.inl (some (2, (i : Int))), zH ia w, 0, 0) := by
  subst hi
  unfold zft
  by_cases h1 : x = 119
  · subst h1
    exact eX2_formOf_119
  by_cases h2 : x = 103
  · subst h2
    exact eX2_formOf_103
  by_cases h3 : x = 102
  · subst h3
    exact eX2_formOf_102
  by_cases h4 : x = 98
  · subst h4
    exact eX2_formOf_98
  by_cases h5 : x = 121
  · subst h5
    exact eX2_formOf_121
  rw [if_neg h1, if_neg h2, if_neg h3, if_neg h4, if_neg h5]
  exact eX2_formOf_0 hr ⟨h1, h2, h3, h4, h5⟩
theorem zfL_16 {x : Int} (h : zfL x = []) : zft x = 16 := by
  unfold zfL at h
  unfold zft
  by_cases h1 : x = 119
  · rw [if_pos h1] at h
    exact absurd h (by decide)
  rw [if_neg h1] at h ⊢
  by_cases h2 : x = 103
  · rw [if_pos h2] at h
    exact absurd h (by decide)
  rw [if_neg h2] at h ⊢
  by_cases h3 : x = 102
  · rw [if_pos h3] at h
    exact absurd h (by decide)
  rw [if_neg h3] at h ⊢
  by_cases h4 : x = 98
  · rw [if_pos h4] at h
    exact absurd h (by decide)
  rw [if_neg h4] at h ⊢
  by_cases h5 : x = 121
  · rw [if_pos h5] at h
    exact absurd h (by decide)
  rw [if_neg h5]
theorem zfL_pos {x : Int} (h : zfL x ≠ []) : 1 ≤ (zfL x).length ∧ ∀ i : Int, 0 ≤ i → i < 0 + ((zfL x).length : Int) → 1 ≤ zfl (zfL x) i := by
  have F := zfo_of h
  refine ⟨List.length_pos_iff.mpr h, fun i h1 h2 => ?_⟩
  have h3 := F.2 i h1 (by omega)
  have hall : ∀ l ∈ ([[49, 47, 50, 61, 51], [49, 47, 50, 58, 50, 45, 50], [49, 60, 49], [49, 42, 50], [50]] : List (List Int)), (l.all (fun z => decide ((1 : Int) ≤ z))) = true := by decide
  have h4 : ∀ l : List Int, l ∈ ([[49, 47, 50, 61, 51], [49, 47, 50, 58, 50, 45, 50], [49, 60, 49], [49, 42, 50], [50]] : List (List Int)) → ∀ k : Nat, k < l.length → (1 : Int) ≤ l.getD k 0 := by
    intro l hl k hk
    have h6 := List.all_eq_true.mp (hall l hl) (l.getD k 0) (by rw [List.getD_eq_getElem?_getD, List.getElem?_eq_getElem hk]; exact List.getElem_mem hk)
    exact of_decide_eq_true h6
  refine h4 (zfL x) ?_ i.toNat (by omega)
  unfold zfL at h ⊢
  split <;> (try split) <;> (try split) <;> (try split) <;> (try split) <;> simp_all
theorem zrd_in {ch : Int → Int} {L : Int} (hc : ∀ p, L ≤ p → ch p = 0) {p q b : Int} {nf mf : Int → Int} (h0 : p ≤ L) (hR : zrd ch p nf = (q, b, mf)) : p ≤ q ∧ q ≤ L ∧ (b = 0 ∨ b = 1) ∧ (b = 1 → p < q) := by
  unfold zrd at hR
  by_cases h : zfL (ch p) = []
  · rw [if_pos h] at hR
    cases hR
    exact ⟨Int.le_refl _, h0, Or.inl rfl, fun e => absurd e (by decide)⟩
  · rw [if_neg h] at hR
    have hp : p < L := by
      rcases Int.lt_or_le p L with h1 | h1
      · exact h1
      · rw [hc p h1] at h
        exact absurd (by decide) h
    have h2 := zpt_in (f := zfl (zfL (ch p))) hc (zfL (ch p)).length 0 (p + 1) 0 nf (fun i h3 h4 => (zfL_pos h).2 i h3 (by omega)) (by omega)
    rw [hR] at h2
    exact ⟨by have := h2.1; omega, h2.2.1, h2.2.2, fun _ => by have := h2.1; omega⟩
theorem zft2_a {ch : Int → Int} {L p q : Int} {n : Nat} {nf mf : Int → Int} (hR : zrd ch p nf = (q, 0, mf)) : zft2 ch L (n + 1) p nf = q := by
  show (if (zrd ch p nf).2.1 = 0 then (zrd ch p nf).1 else _) = q
  rw [hR, if_pos rfl]
theorem zft2_b {ch : Int → Int} {L p q : Int} {n : Nat} {nf mf : Int → Int} (hR : zrd ch p nf = (q, 1, mf)) (hq : L ≤ q) : zft2 ch L (n + 1) p nf = -1 := by
  show (if (zrd ch p nf).2.1 = 0 then (zrd ch p nf).1 else if L ≤ (zrd ch p nf).1 then -1 else _) = -1
  rw [hR, if_neg (show ¬ (1 : Int) = 0 by decide), if_pos hq]
theorem zft2_c {ch : Int → Int} {L p q : Int} {n : Nat} {nf mf : Int → Int} (hR : zrd ch p nf = (q, 1, mf)) (hq : q < L) (hc : ch q = 59) : zft2 ch L (n + 1) p nf = zft2 ch L n (q + 1) mf := by
  show (if (zrd ch p nf).2.1 = 0 then (zrd ch p nf).1 else if L ≤ (zrd ch p nf).1 then -1 else if ch (zrd ch p nf).1 = 59 then zft2 ch L n ((zrd ch p nf).1 + 1) (zrd ch p nf).2.2 else (zrd ch p nf).1) = _
  rw [hR, if_neg (show ¬ (1 : Int) = 0 by decide), if_neg (by show ¬ L ≤ q; omega), if_pos hc]
theorem zft2_d {ch : Int → Int} {L p q : Int} {n : Nat} {nf mf : Int → Int} (hR : zrd ch p nf = (q, 1, mf)) (hq : q < L) (hc : ch q ≠ 59) : zft2 ch L (n + 1) p nf = q := by
  show (if (zrd ch p nf).2.1 = 0 then (zrd ch p nf).1 else if L ≤ (zrd ch p nf).1 then -1 else if ch (zrd ch p nf).1 = 59 then zft2 ch L n ((zrd ch p nf).1 + 1) (zrd ch p nf).2.2 else (zrd ch p nf).1) = _
  rw [hR, if_neg (show ¬ (1 : Int) = 0 by decide), if_neg (by show ¬ L ≤ q; omega), if_neg hc]
theorem eX2_readNumber_t {G : zG} {ia : Nat → Int → Int} {w : (Nat → Int → Int) × (Nat → Int → Int)} {mx pl p k : Int} {nf : Int → Int} (D : zDI ia) (hp : 0 ≤ p ∧ p ≤ 60) (hm : 1 ≤ mx ∧ mx ≤ 3) (hpl : 0 ≤ pl ∧ pl ≤ 10) (hz : zdn (zch ia) mx.toNat p ≠ p) : Ev G mX2_readNumber 0 [(1, 19), (0, pl), (0, mx), (9, 0), (9, 0)] [] (zH (zDf ia p k nf) w) (.inl (some (0, 1)), zH (zDf ia (zdn (zch ia) mx.toNat p) k (zup nf pl (zdv (zch ia) mx.toNat p 0))) w, 0, 0) := by
  have h := eX2_readNumber (G := G) (w := w) (k := k) (nf := nf) D hp hm hpl
  rw [if_neg hz] at h
  exact h
theorem eX2_readNumber_f {G : zG} {ia : Nat → Int → Int} {w : (Nat → Int → Int) × (Nat → Int → Int)} {mx pl p k : Int} {nf : Int → Int} (D : zDI ia) (hp : 0 ≤ p ∧ p ≤ 60) (hm : 1 ≤ mx ∧ mx ≤ 3) (hpl : 0 ≤ pl ∧ pl ≤ 10) (hz : zdn (zch ia) mx.toNat p = p) : Ev G mX2_readNumber 0 [(1, 19), (0, pl), (0, mx), (9, 0), (9, 0)] [] (zH (zDf ia p k nf) w) (.inl (some (0, 0)), zH (zDf ia p k (zup nf pl (zdv (zch ia) mx.toNat p 0))) w, 0, 0) := by
  have h := eX2_readNumber (G := G) (w := w) (k := k) (nf := nf) D hp hm hpl
  rw [if_pos hz, hz] at h
  exact h
theorem eX2_readCommand_L {G : zG} {ia : Nat → Int → Int} {w : (Nat → Int → Int) × (Nat → Int → Int)} {i : Nat} {L lt k : Int} {f : Int → Int} (D : zDI ia) (F : zFo i L f) (F3 : ∀ i : Int, 0 ≤ i → i < L → 1 ≤ f i) : ∀ (n : Nat) (j p pl : Int) (nf : Int → Int), j + n = L → 0 ≤ j → 0 ≤ p ∧ p ≤ ia 19 1 → 0 ≤ pl → pl ≤ j → Ev G mX2_readCommand 39 [(1, 19), (0, lt), (2, (i : Int)), (0, pl), (0, j), (9, 0)] [] (zH (zDf ia p k nf) w) (.inl (some (0, (zpt f (zch ia) n j p pl nf).2.1)), zH (zDf ia (zpt f (zch ia) n j p pl nf).1 k (zpt f (zch ia) n j p pl nf).2.2) w, 0, 0) := by
  have hl1 := D.1
  have hl2 := D.2.1
  have hib : Nat.ble (i + 1) 24 = true := Nat.ble_eq_true_of_le F.1.1
  have hL := F.1.2.1
  have hL0 := F.1.2.2
  intro n
  induction n with
  | zero =>
    intro j p pl nf h1 h2 h3 h4 h5
    rw [zpt_0]
    refine Ev.iload fX2_readCommand_39 rfl ?_
    refine Ev.aload_n_2 fX2_readCommand_41 rfl ?_
    refine Ev.cVTi i [] [(0, j)] fX2_readCommand_42 lkX2_readCommand_57 rfl (by rw [hib]; rfl) (eJ_length hib hL hL0) ?_
    refine Ev.icmp_ge fX2_readCommand_45 rfl ⟨by omega, by omega⟩ ⟨by omega, by omega⟩ (fun h45 => ?_) (fun h45 => by exfalso; omega)
    refine Ev.iconst fX2_readCommand_102 ?_
    exact Ev.zZ fX2_readCommand_103 rfl (by first | exact Or.inl rfl | exact Or.inr rfl) rfl
  | succ n ih =>
    intro j p pl nf h1 h2 h3 h4 h5
    obtain ⟨hb, hb2, hd⟩ := F.2 j h2 (by omega)
    have hch := zch_in D p
    rw [zpt_s]
    by_cases hdg : 48 ≤ f j ∧ f j ≤ 57
    · rw [if_pos hdg]
      have hd := hd hdg
      have hzi := zdn_in (ch := zch ia) (f j - 48).toNat p
      have hzl := zdn_len (zch_end (ia := ia)) (f j - 48).toNat p h3.2
      by_cases hz : zdn (zch ia) (f j - 48).toNat p = p
      · rw [if_pos hz]
        refine Ev.iload fX2_readCommand_39 rfl ?_
        refine Ev.aload_n_2 fX2_readCommand_41 rfl ?_
        refine Ev.cVTi i [] [(0, j)] fX2_readCommand_42 lkX2_readCommand_57 rfl (by rw [hib]; rfl) (eJ_length hib hL hL0) ?_
        refine Ev.icmp_ge fX2_readCommand_45 rfl ⟨by omega, by omega⟩ ⟨by omega, by omega⟩ (fun h45 => by exfalso; omega) (fun h45 => ?_)
        refine Ev.aload_n_2 fX2_readCommand_48 rfl ?_
        refine Ev.iload fX2_readCommand_49 rfl ?_
        refine Ev.cVTi i [(0, j)] [] fX2_readCommand_51 lkX2_readCommand_60 rfl (by rw [hib]; rfl) (eJ_charAt_i hib hL hL0 ⟨by omega, by omega⟩ hb hb2) ?_
        refine Ev.sistore [(1, 19), (0, lt), (2, (i : Int)), (0, pl), (0, j), (0, (f j))] fX2_readCommand_54 rfl rfl ?_
        refine Ev.iload fX2_readCommand_56 rfl ?_
        obtain ⟨b56, ga56, gb56, ge56⟩ := eX7_isDigit_b (G := G) (ia := (zDf ia p k nf)) (w := w) (f j) ⟨by omega, by omega⟩
        refine Ev.cSNi [(0, (f j))] [] fX2_readCommand_58 lkX2_readCommand_64 rfl ge56 ?_
        refine Ev.if_eq fX2_readCommand_61 rfl ⟨by omega, by omega⟩ (fun h61 => by exfalso; omega) (fun h61 => ?_)
        refine Ev.aload_n_1 fX2_readCommand_64 rfl ?_
        refine Ev.iload_n fX2_readCommand_65 rfl ?_
        refine Ev.iload fX2_readCommand_66 rfl ?_
        refine Ev.bipush fX2_readCommand_68 rfl ?_
        refine Ev.isub fX2_readCommand_70 ?_
        refine Ev.cVi 19 [(0, pl), (0, ((f j) - 48))] [] fX2_readCommand_71 lkX2_readCommand_67 2 TX2 5 rfl rfl rfl (eX2_readNumber_f D ⟨by omega, by omega⟩ ⟨by omega, by omega⟩ ⟨by omega, by omega⟩ hz) ?_
        refine Ev.if_ne fX2_readCommand_74 rfl (by decide) (fun h74 => by exfalso; revert h74; decide) (fun h74 => ?_)
        refine Ev.iconst fX2_readCommand_77 ?_
        exact Ev.zZ fX2_readCommand_78 rfl (by first | exact Or.inl rfl | exact Or.inr rfl) rfl
      · rw [if_neg hz]
        refine Ev.iload fX2_readCommand_39 rfl ?_
        refine Ev.aload_n_2 fX2_readCommand_41 rfl ?_
        refine Ev.cVTi i [] [(0, j)] fX2_readCommand_42 lkX2_readCommand_57 rfl (by rw [hib]; rfl) (eJ_length hib hL hL0) ?_
        refine Ev.icmp_ge fX2_readCommand_45 rfl ⟨by omega, by omega⟩ ⟨by omega, by omega⟩ (fun h45 => by exfalso; omega) (fun h45 => ?_)
        refine Ev.aload_n_2 fX2_readCommand_48 rfl ?_
        refine Ev.iload fX2_readCommand_49 rfl ?_
        refine Ev.cVTi i [(0, j)] [] fX2_readCommand_51 lkX2_readCommand_60 rfl (by rw [hib]; rfl) (eJ_charAt_i hib hL hL0 ⟨by omega, by omega⟩ hb hb2) ?_
        refine Ev.sistore [(1, 19), (0, lt), (2, (i : Int)), (0, pl), (0, j), (0, (f j))] fX2_readCommand_54 rfl rfl ?_
        refine Ev.iload fX2_readCommand_56 rfl ?_
        obtain ⟨b57, ga57, gb57, ge57⟩ := eX7_isDigit_b (G := G) (ia := (zDf ia p k nf)) (w := w) (f j) ⟨by omega, by omega⟩
        refine Ev.cSNi [(0, (f j))] [] fX2_readCommand_58 lkX2_readCommand_64 rfl ge57 ?_
        refine Ev.if_eq fX2_readCommand_61 rfl ⟨by omega, by omega⟩ (fun h61 => by exfalso; omega) (fun h61 => ?_)
        refine Ev.aload_n_1 fX2_readCommand_64 rfl ?_
        refine Ev.iload_n fX2_readCommand_65 rfl ?_
        refine Ev.iload fX2_readCommand_66 rfl ?_
        refine Ev.bipush fX2_readCommand_68 rfl ?_
        refine Ev.isub fX2_readCommand_70 ?_
        refine Ev.cVi 19 [(0, pl), (0, ((f j) - 48))] [] fX2_readCommand_71 lkX2_readCommand_67 2 TX2 5 rfl rfl rfl (eX2_readNumber_t D ⟨by omega, by omega⟩ ⟨by omega, by omega⟩ ⟨by omega, by omega⟩ hz) ?_
        refine Ev.if_ne fX2_readCommand_74 rfl (by decide) (fun h74 => ?_) (fun h74 => by exfalso; revert h74; decide)
        refine Ev.siinc [(1, 19), (0, lt), (2, (i : Int)), (0, (pl + 1)), (0, j), (0, (f j))] fX2_readCommand_79 rfl rfl rfl ?_
        refine Ev.goto fX2_readCommand_82 rfl ?_
        refine Ev.siinc [(1, 19), (0, lt), (2, (i : Int)), (0, (pl + 1)), (0, (j + 1)), (0, (f j))] fX2_readCommand_96 rfl rfl rfl ?_
        refine Ev.goto fX2_readCommand_99 rfl ?_
        refine Ev.fg 5 [(1, 19), (0, lt), (2, (i : Int)), (0, (pl + 1)), (0, (j + 1)), (9, 0)] rfl ?_
        exact ih (j + 1) (zdn (zch ia) (f j - 48).toNat p) (pl + 1) (zup nf pl (zdv (zch ia) (f j - 48).toNat p 0)) (by omega) (by omega) ⟨by omega, by omega⟩ (by omega) (by omega)
    · rw [if_neg hdg]
      by_cases hc : zch ia p = f j
      · rw [if_pos hc]
        have hpL : p < ia 19 1 := by
          rcases Int.lt_or_le p (ia 19 1) with q | q
          · exact q
          · have q2 := zch_end p q
            have q3 := F3 j h2 (by omega)
            omega
        refine Ev.iload fX2_readCommand_39 rfl ?_
        refine Ev.aload_n_2 fX2_readCommand_41 rfl ?_
        refine Ev.cVTi i [] [(0, j)] fX2_readCommand_42 lkX2_readCommand_57 rfl (by rw [hib]; rfl) (eJ_length hib hL hL0) ?_
        refine Ev.icmp_ge fX2_readCommand_45 rfl ⟨by omega, by omega⟩ ⟨by omega, by omega⟩ (fun h45 => by exfalso; omega) (fun h45 => ?_)
        refine Ev.aload_n_2 fX2_readCommand_48 rfl ?_
        refine Ev.iload fX2_readCommand_49 rfl ?_
        refine Ev.cVTi i [(0, j)] [] fX2_readCommand_51 lkX2_readCommand_60 rfl (by rw [hib]; rfl) (eJ_charAt_i hib hL hL0 ⟨by omega, by omega⟩ hb hb2) ?_
        refine Ev.sistore [(1, 19), (0, lt), (2, (i : Int)), (0, pl), (0, j), (0, (f j))] fX2_readCommand_54 rfl rfl ?_
        refine Ev.iload fX2_readCommand_56 rfl ?_
        obtain ⟨b58, ga58, gb58, ge58⟩ := eX7_isDigit_b (G := G) (ia := (zDf ia p k nf)) (w := w) (f j) ⟨by omega, by omega⟩
        refine Ev.cSNi [(0, (f j))] [] fX2_readCommand_58 lkX2_readCommand_64 rfl ge58 ?_
        refine Ev.if_eq fX2_readCommand_61 rfl ⟨by omega, by omega⟩ (fun h61 => ?_) (fun h61 => by exfalso; omega)
        refine Ev.aload_n_1 fX2_readCommand_85 rfl ?_
        refine Ev.iload fX2_readCommand_86 rfl ?_
        refine Ev.cVi 19 [(0, (f j))] [] fX2_readCommand_88 lkX2_readCommand_40 2 TX2 5 rfl rfl rfl (eX2_readSign_t D ⟨by omega, by omega⟩ hc) ?_
        refine Ev.if_ne fX2_readCommand_91 rfl (by decide) (fun h91 => ?_) (fun h91 => by exfalso; revert h91; decide)
        refine Ev.siinc [(1, 19), (0, lt), (2, (i : Int)), (0, pl), (0, (j + 1)), (0, (f j))] fX2_readCommand_96 rfl rfl rfl ?_
        refine Ev.goto fX2_readCommand_99 rfl ?_
        refine Ev.fg 5 [(1, 19), (0, lt), (2, (i : Int)), (0, pl), (0, (j + 1)), (9, 0)] rfl ?_
        exact ih (j + 1) (p + 1) pl nf (by omega) (by omega) ⟨by omega, by omega⟩ (by omega) (by omega)
      · rw [if_neg hc]
        refine Ev.iload fX2_readCommand_39 rfl ?_
        refine Ev.aload_n_2 fX2_readCommand_41 rfl ?_
        refine Ev.cVTi i [] [(0, j)] fX2_readCommand_42 lkX2_readCommand_57 rfl (by rw [hib]; rfl) (eJ_length hib hL hL0) ?_
        refine Ev.icmp_ge fX2_readCommand_45 rfl ⟨by omega, by omega⟩ ⟨by omega, by omega⟩ (fun h45 => by exfalso; omega) (fun h45 => ?_)
        refine Ev.aload_n_2 fX2_readCommand_48 rfl ?_
        refine Ev.iload fX2_readCommand_49 rfl ?_
        refine Ev.cVTi i [(0, j)] [] fX2_readCommand_51 lkX2_readCommand_60 rfl (by rw [hib]; rfl) (eJ_charAt_i hib hL hL0 ⟨by omega, by omega⟩ hb hb2) ?_
        refine Ev.sistore [(1, 19), (0, lt), (2, (i : Int)), (0, pl), (0, j), (0, (f j))] fX2_readCommand_54 rfl rfl ?_
        refine Ev.iload fX2_readCommand_56 rfl ?_
        obtain ⟨b59, ga59, gb59, ge59⟩ := eX7_isDigit_b (G := G) (ia := (zDf ia p k nf)) (w := w) (f j) ⟨by omega, by omega⟩
        refine Ev.cSNi [(0, (f j))] [] fX2_readCommand_58 lkX2_readCommand_64 rfl ge59 ?_
        refine Ev.if_eq fX2_readCommand_61 rfl ⟨by omega, by omega⟩ (fun h61 => ?_) (fun h61 => by exfalso; omega)
        refine Ev.aload_n_1 fX2_readCommand_85 rfl ?_
        refine Ev.iload fX2_readCommand_86 rfl ?_
        refine Ev.cVi 19 [(0, (f j))] [] fX2_readCommand_88 lkX2_readCommand_40 2 TX2 5 rfl rfl rfl (eX2_readSign_f D ⟨by omega, by omega⟩ ⟨by omega, by omega⟩ hc) ?_
        refine Ev.if_ne fX2_readCommand_91 rfl (by decide) (fun h91 => by exfalso; revert h91; decide) (fun h91 => ?_)
        refine Ev.iconst fX2_readCommand_94 ?_
        exact Ev.zZ fX2_readCommand_95 rfl (by first | exact Or.inl rfl | exact Or.inr rfl) rfl
theorem eX2_readCommand {G : zG} {ia : Nat → Int → Int} {w : (Nat → Int → Int) × (Nat → Int → Int)} {p k q b : Int} {nf mf : Int → Int} (D : zDI ia) (hp : 0 ≤ p ∧ p ≤ ia 19 1) (hR : zrd (zch ia) p nf = (q, b, mf)) : Ev G mX2_readCommand 0 [(1, 19), (9, 0), (9, 0), (9, 0), (9, 0), (9, 0)] [] (zH (zDf ia p k nf) w) (.inl (some (0, b)), zH (zDf ia q (if zfL (zch ia p) = [] then k else zch ia p) mf) w, 0, 0) := by
  have hl1 := D.1
  have hl2 := D.2.1
  have hch := zch_in D p
  unfold zrd at hR
  by_cases he : zfL (zch ia p) = []
  · rw [if_pos he] at hR ⊢
    cases hR
    have h16 := zfL_16 he
    have hib : Nat.ble (16 + 1) 24 = true := rfl
    refine Ev.aload_n_1 fX2_readCommand_0 rfl ?_
    refine Ev.cVi 19 [] [] fX2_readCommand_1 lkX2_readCommand_44 2 TX2 5 rfl rfl rfl (eX2_signAhead D ⟨by omega, by omega⟩) ?_
    refine Ev.sistore_n [(1, 19), (0, (zch ia p)), (9, 0), (9, 0), (9, 0), (9, 0)] fX2_readCommand_4 rfl rfl ?_
    refine Ev.iload_n fX2_readCommand_5 rfl ?_
    refine Ev.cSi [(0, (zch ia p))] [] fX2_readCommand_6 lkX2_readCommand_48 rfl (eX2_formOf hch h16) ?_
    refine Ev.sastore_n_2 [(1, 19), (0, (zch ia p)), (2, ((16 : Nat) : Int)), (9, 0), (9, 0), (9, 0)] fX2_readCommand_9 rfl rfl ?_
    refine Ev.aload_n_2 fX2_readCommand_10 rfl ?_
    refine Ev.cVTi 16 [] [] fX2_readCommand_11 lkX2_readCommand_52 rfl (by rw [hib]; rfl) (eJ_isEmpty_t rfl rfl (by decide) rfl) ?_
    refine Ev.if_eq fX2_readCommand_14 rfl (by decide) (fun h14 => by exfalso; revert h14; decide) (fun h14 => ?_)
    refine Ev.iconst fX2_readCommand_17 ?_
    exact Ev.zZ fX2_readCommand_18 rfl (by first | exact Or.inl rfl | exact Or.inr rfl) rfl
  · rw [if_neg he] at hR ⊢
    have F := zfo_of he
    have F3 := (zfL_pos he).2
    have hln := (zfL_pos he).1
    generalize hI : zft (zch ia p) = i at F
    have hib : Nat.ble (i + 1) 24 = true := Nat.ble_eq_true_of_le F.1.1
    have hpL : p < ia 19 1 := by
      rcases Int.lt_or_le p (ia 19 1) with q | q
      · exact q
      · rw [zch_end p q] at he
        exact absurd (by decide) he
    have hE := eX2_readCommand_L (G := G) (w := w) (lt := zch ia p) (k := zch ia p) D F (fun i h1 h2 => F3 i h1 (by omega)) (zfL (zch ia p)).length 0 (p + 1) 0 nf (by omega) (by omega) ⟨by omega, by omega⟩ (by omega) (by omega)
    rw [hR] at hE
    refine Ev.aload_n_1 fX2_readCommand_0 rfl ?_
    refine Ev.cVi 19 [] [] fX2_readCommand_1 lkX2_readCommand_44 2 TX2 5 rfl rfl rfl (eX2_signAhead D ⟨by omega, by omega⟩) ?_
    refine Ev.sistore_n [(1, 19), (0, (zch ia p)), (9, 0), (9, 0), (9, 0), (9, 0)] fX2_readCommand_4 rfl rfl ?_
    refine Ev.iload_n fX2_readCommand_5 rfl ?_
    refine Ev.cSi [(0, (zch ia p))] [] fX2_readCommand_6 lkX2_readCommand_48 rfl (eX2_formOf hch hI) ?_
    refine Ev.sastore_n_2 [(1, 19), (0, (zch ia p)), (2, (i : Int)), (9, 0), (9, 0), (9, 0)] fX2_readCommand_9 rfl rfl ?_
    refine Ev.aload_n_2 fX2_readCommand_10 rfl ?_
    refine Ev.cVTi i [] [] fX2_readCommand_11 lkX2_readCommand_52 rfl (by rw [hib]; rfl) (eJ_isEmpty_f hib F.1.2.1 F.1.2.2 (by omega)) ?_
    refine Ev.if_eq fX2_readCommand_14 rfl (by decide) (fun h14 => ?_) (fun h14 => by exfalso; revert h14; decide)
    refine Ev.aload_n_1 fX2_readCommand_19 rfl ?_
    refine Ev.iload_n fX2_readCommand_20 rfl ?_
    refine Ev.pI 19 3 fX2_readCommand_21 (flX2_22 rfl) rfl rfl ⟨by omega, by omega⟩ ?_
    rw [zD_k']
    refine Ev.aload_n_1 fX2_readCommand_24 rfl ?_
    refine Ev.dup fX2_readCommand_25 rfl ?_
    refine Ev.gI 19 2 (v := p) fX2_readCommand_26 (flX2_19 rfl) rfl rfl rfl ?_
    refine Ev.iconst fX2_readCommand_29 ?_
    refine Ev.iadd fX2_readCommand_30 ?_
    refine Ev.pI 19 2 fX2_readCommand_31 (flX2_19 rfl) rfl rfl trivial ?_
    rw [zD_p']
    refine Ev.iconst fX2_readCommand_34 ?_
    refine Ev.sistore_n [(1, 19), (0, (zch ia p)), (2, (i : Int)), (0, 0), (9, 0), (9, 0)] fX2_readCommand_35 rfl rfl ?_
    refine Ev.iconst fX2_readCommand_36 ?_
    refine Ev.sistore [(1, 19), (0, (zch ia p)), (2, (i : Int)), (0, 0), (0, 0), (9, 0)] fX2_readCommand_37 rfl rfl ?_
    exact hE
theorem eX2_findFault_L {G : zG} {ia : Nat → Int → Int} {w : (Nat → Int → Int) × (Nat → Int → Int)} (D : zDI ia) : ∀ (n : Nat) (r p k : Int) (nf : Int → Int), r + n = 60 → 0 ≤ r → 0 ≤ p ∧ p ≤ ia 19 1 → ∃ (p9 k9 : Int) (nf9 : Int → Int), Ev G mX2_findFault 6 [(1, 19), (0, r)] [] (zH (zDf ia p k nf) w) (.inl (some (0, zft2 (zch ia) (ia 19 1) n p nf)), zH (zDf ia p9 k9 nf9) w, 0, 0) := by
  have hl1 := D.1
  have hl2 := D.2.1
  intro n
  induction n with
  | zero =>
    intro r p k nf h1 h2 h3
    refine ⟨p, k, nf, ?_⟩
    show Ev _ _ _ _ _ _ (.inl (some (0, p)), _, 0, 0)
    refine Ev.iload_n fX2_findFault_6 rfl ?_
    refine Ev.bipush fX2_findFault_7 rfl ?_
    refine Ev.icmp_ge fX2_findFault_9 rfl ⟨by omega, by omega⟩ (by decide) (fun h9 => ?_) (fun h9 => by exfalso; omega)
    refine Ev.aload_n_1 fX2_findFault_57 rfl ?_
    refine Ev.gI 19 2 (v := p) fX2_findFault_58 (flX2_19 rfl) rfl rfl rfl ?_
    exact Ev.zI fX2_findFault_61 rfl rfl
  | succ n ih =>
    intro r p k nf h1 h2 h3
    rcases hR : zrd (zch ia) p nf with ⟨q, b, mf⟩
    obtain ⟨hq1, hq2, hb, hb2⟩ := zrd_in (zch_end (ia := ia)) h3.2 hR
    have hE := eX2_readCommand (G := G) (w := w) (k := k) D h3 hR
    generalize hk9 : (if zfL (zch ia p) = [] then k else zch ia p) = k9 at hE
    rcases hb with hb | hb
    · subst hb
      rw [zft2_a hR]
      refine ⟨q, k9, mf, ?_⟩
      refine Ev.iload_n fX2_findFault_6 rfl ?_
      refine Ev.bipush fX2_findFault_7 rfl ?_
      refine Ev.icmp_ge fX2_findFault_9 rfl ⟨by omega, by omega⟩ (by decide) (fun h9 => by exfalso; omega) (fun h9 => ?_)
      refine Ev.aload_n_1 fX2_findFault_12 rfl ?_
      refine Ev.cVi 19 [] [] fX2_findFault_13 lkX2_findFault_37 2 TX2 5 rfl rfl rfl hE ?_
      refine Ev.if_ne fX2_findFault_16 rfl (by decide) (fun h16 => by exfalso; revert h16; decide) (fun h16 => ?_)
      refine Ev.aload_n_1 fX2_findFault_19 rfl ?_
      refine Ev.gI 19 2 (v := q) fX2_findFault_20 (flX2_19 rfl) rfl rfl rfl ?_
      exact Ev.zI fX2_findFault_23 rfl rfl
    · subst hb
      have hb2 := hb2 rfl
      rcases Int.lt_or_le q (ia 19 1) with hql | hql
      · by_cases hc : zch ia q = 59
        · rw [zft2_c hR hql hc]
          obtain ⟨p9, k10, nf9, hE2⟩ := ih (r + 1) (q + 1) k9 mf (by omega) (by omega) ⟨by omega, by omega⟩
          refine ⟨p9, k10, nf9, ?_⟩
          refine Ev.iload_n fX2_findFault_6 rfl ?_
          refine Ev.bipush fX2_findFault_7 rfl ?_
          refine Ev.icmp_ge fX2_findFault_9 rfl ⟨by omega, by omega⟩ (by decide) (fun h9 => by exfalso; omega) (fun h9 => ?_)
          refine Ev.aload_n_1 fX2_findFault_12 rfl ?_
          refine Ev.cVi 19 [] [] fX2_findFault_13 lkX2_findFault_37 2 TX2 5 rfl rfl rfl hE ?_
          refine Ev.if_ne fX2_findFault_16 rfl (by decide) (fun h16 => ?_) (fun h16 => by exfalso; revert h16; decide)
          refine Ev.aload_n_1 fX2_findFault_24 rfl ?_
          refine Ev.gI 19 2 (v := q) fX2_findFault_25 (flX2_19 rfl) rfl rfl rfl ?_
          refine Ev.aload_n_1 fX2_findFault_28 rfl ?_
          refine Ev.gI 19 1 (v := (ia 19 1)) fX2_findFault_29 (flX2_15 rfl) rfl rfl rfl ?_
          refine Ev.icmp_lt fX2_findFault_32 rfl ⟨by omega, by omega⟩ ⟨by omega, by omega⟩ (fun h32 => ?_) (fun h32 => by exfalso; omega)
          refine Ev.aload_n_1 fX2_findFault_37 rfl ?_
          refine Ev.bipush fX2_findFault_38 rfl ?_
          refine Ev.cVi 19 [(0, 59)] [] fX2_findFault_40 lkX2_findFault_40 2 TX2 5 rfl rfl rfl (eX2_readSign_t D ⟨by omega, by omega⟩ hc) ?_
          refine Ev.if_ne fX2_findFault_43 rfl (by decide) (fun h43 => ?_) (fun h43 => by exfalso; revert h43; decide)
          refine Ev.siinc [(1, 19), (0, (r + 1))] fX2_findFault_51 rfl rfl rfl ?_
          refine Ev.goto fX2_findFault_54 rfl ?_
          exact hE2
        · rw [zft2_d hR hql hc]
          refine ⟨q, k9, mf, ?_⟩
          refine Ev.iload_n fX2_findFault_6 rfl ?_
          refine Ev.bipush fX2_findFault_7 rfl ?_
          refine Ev.icmp_ge fX2_findFault_9 rfl ⟨by omega, by omega⟩ (by decide) (fun h9 => by exfalso; omega) (fun h9 => ?_)
          refine Ev.aload_n_1 fX2_findFault_12 rfl ?_
          refine Ev.cVi 19 [] [] fX2_findFault_13 lkX2_findFault_37 2 TX2 5 rfl rfl rfl hE ?_
          refine Ev.if_ne fX2_findFault_16 rfl (by decide) (fun h16 => ?_) (fun h16 => by exfalso; revert h16; decide)
          refine Ev.aload_n_1 fX2_findFault_24 rfl ?_
          refine Ev.gI 19 2 (v := q) fX2_findFault_25 (flX2_19 rfl) rfl rfl rfl ?_
          refine Ev.aload_n_1 fX2_findFault_28 rfl ?_
          refine Ev.gI 19 1 (v := (ia 19 1)) fX2_findFault_29 (flX2_15 rfl) rfl rfl rfl ?_
          refine Ev.icmp_lt fX2_findFault_32 rfl ⟨by omega, by omega⟩ ⟨by omega, by omega⟩ (fun h32 => ?_) (fun h32 => by exfalso; omega)
          refine Ev.aload_n_1 fX2_findFault_37 rfl ?_
          refine Ev.bipush fX2_findFault_38 rfl ?_
          refine Ev.cVi 19 [(0, 59)] [] fX2_findFault_40 lkX2_findFault_40 2 TX2 5 rfl rfl rfl (eX2_readSign_f D ⟨by omega, by omega⟩ (by decide) hc) ?_
          refine Ev.if_ne fX2_findFault_43 rfl (by decide) (fun h43 => by exfalso; revert h43; decide) (fun h43 => ?_)
          refine Ev.aload_n_1 fX2_findFault_46 rfl ?_
          refine Ev.gI 19 2 (v := q) fX2_findFault_47 (flX2_19 rfl) rfl rfl rfl ?_
          exact Ev.zI fX2_findFault_50 rfl rfl
      · rw [zft2_b hR hql]
        refine ⟨q, k9, mf, ?_⟩
        refine Ev.iload_n fX2_findFault_6 rfl ?_
        refine Ev.bipush fX2_findFault_7 rfl ?_
        refine Ev.icmp_ge fX2_findFault_9 rfl ⟨by omega, by omega⟩ (by decide) (fun h9 => by exfalso; omega) (fun h9 => ?_)
        refine Ev.aload_n_1 fX2_findFault_12 rfl ?_
        refine Ev.cVi 19 [] [] fX2_findFault_13 lkX2_findFault_37 2 TX2 5 rfl rfl rfl hE ?_
        refine Ev.if_ne fX2_findFault_16 rfl (by decide) (fun h16 => ?_) (fun h16 => by exfalso; revert h16; decide)
        refine Ev.aload_n_1 fX2_findFault_24 rfl ?_
        refine Ev.gI 19 2 (v := q) fX2_findFault_25 (flX2_19 rfl) rfl rfl rfl ?_
        refine Ev.aload_n_1 fX2_findFault_28 rfl ?_
        refine Ev.gI 19 1 (v := (ia 19 1)) fX2_findFault_29 (flX2_15 rfl) rfl rfl rfl ?_
        refine Ev.icmp_lt fX2_findFault_32 rfl ⟨by omega, by omega⟩ ⟨by omega, by omega⟩ (fun h32 => by exfalso; omega) (fun h32 => ?_)
        refine Ev.iconst fX2_findFault_35 ?_
        exact Ev.zI fX2_findFault_36 rfl rfl
theorem eX2_rewind_D {G : zG} {ia : Nat → Int → Int} {w : (Nat → Int → Int) × (Nat → Int → Int)} {p k : Int} {nf : Int → Int}  : Ev G mX2_rewind 0 [(1, 19)] [] (zH (zDf ia p k nf) w) (.inl none, zH (zDf ia 0 k nf) w, 0, 0) := by
  refine Ev.aload_n_1 fX2_rewind_0 rfl ?_
  refine Ev.iconst fX2_rewind_1 ?_
  refine Ev.pI 19 2 fX2_rewind_2 (flX2_19 rfl) rfl rfl trivial ?_
  rw [zD_p']
  exact Ev.zV fX2_rewind_5 rfl
theorem eX2_findFault {G : zG} {ia : Nat → Int → Int} {w : (Nat → Int → Int) × (Nat → Int → Int)} {p k : Int} {nf : Int → Int} (D : zDI ia) : ∃ (p9 k9 : Int) (nf9 : Int → Int), Ev G mX2_findFault 0 [(1, 19), (9, 0)] [] (zH (zDf ia p k nf) w) (.inl (some (0, zft2 (zch ia) (ia 19 1) 60 0 nf)), zH (zDf ia p9 k9 nf9) w, 0, 0) := by
  obtain ⟨p9, k9, nf9, hE⟩ := eX2_findFault_L (G := G) (w := w) D 60 0 0 k nf (by omega) (by omega) ⟨by omega, D.1⟩
  refine ⟨p9, k9, nf9, ?_⟩
  refine Ev.aload_n_1 fX2_findFault_0 rfl ?_
  refine Ev.cVv 19 [] [] fX2_findFault_1 lkX2_findFault_34 2 TX2 5 rfl rfl rfl eX2_rewind_D ?_
  refine Ev.iconst fX2_findFault_4 ?_
  refine Ev.sistore_n [(1, 19), (0, 0)] fX2_findFault_5 rfl rfl ?_
  exact hE
