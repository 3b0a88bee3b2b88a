/-! THE MODEL: COMMANDS (printed by wip/whole/gen/mod11.py) -/
/-- from p on the text is commands, told from m to M as the class reads them -/
def zok (ch : Int → Int) (L : Int) (T : Int → Int) : Nat → Int → Int → (Int → Int) → Int → Prop
  | 0, _, _, _, _ => False
  | n + 1, m, p, nf, M => ∃ (q : Int) (mf : Int → Int), zrd ch p nf = (q, 1, mf) ∧ zmt ch T m p mf ∧ ((q = L ∧ M = m + 1) ∨ (q < L ∧ ch q = 59 ∧ zok ch L T n (m + 1) (q + 1) mf M))
theorem zmt_cg {ch T T2 : Int → Int} {m p : Int} {mf : Int → Int} (h : zmt ch T m p mf) (hT : ∀ i : Int, i < 5 * (m + 1) → T2 i = T i) : zmt ch T2 m p mf := by
  have hz : zcn (ch p) ≤ 4 := by
    unfold zcn
    split
    · decide
    · split
      · decide
      · split <;> decide
  refine ⟨by rw [hT _ (by omega)]; exact h.1, fun j h1 h2 => ?_⟩
  rw [hT _ (by omega)]
  exact h.2 j h1 h2
theorem zcn_in (x : Int) : 1 ≤ zcn x ∧ zcn x ≤ 4 := by
  unfold zcn
  split
  · decide
  · split
    · decide
    · split <;> decide
theorem eX8_isText_L {G : zG} {ia : Nat → Int → Int} {w : (Nat → Int → Int) × (Nat → Int → Int)} {ch : Int → Int} {L : Int} (C : zTc ia ch L) : ∀ (f : Nat) (p M : Int) (T nf : Int → Int), L - p < 2 * f → 0 ≤ p ∧ p ≤ L → (0 ≤ M ∧ 2 * M ≤ p) → ∃ (b q M9 : Int) (T9 : Int → Int), (∀ i : Int, i < 5 * M → T9 i = T i) ∧ (0 ≤ q ∧ q ≤ L) ∧ ((b = 0 ∧ zft2 ch L f p nf = q) ∨ (b = 1 ∧ zft2 ch L f p nf = -1 ∧ q = L ∧ (M < M9 ∧ 2 * M9 ≤ L + 1) ∧ zok ch L T9 f M p nf M9)) ∧ Ev G mX8_isText 10 [(1, 24)] [] (zH (zTd ia p M T) w) (.inl (some (0, b)), zH (zTd ia q M9 T9) w, 0, 0) := by
  have hL := C.2.1
  have hz := C.2.2.2
  intro f
  induction f with
  | zero =>
    intro p M T nf h1 hp hM
    exact absurd h1 (by omega)
  | succ f ih =>
    intro p M T nf h1 hp hM
    obtain ⟨q, b, mf, hR⟩ : ∃ (q b : Int) (mf : Int → Int), zrd ch p nf = (q, b, mf) := ⟨_, _, _, rfl⟩
    have hI := zrd_in hz hp.2 hR
    obtain ⟨T9, hT, hm, hE⟩ := eX8_commandHere (G := G) (w := w) (T := T) (M := M) C hp ⟨by omega, by omega⟩ hR
    rcases hI.2.2.1 with hb | hb
    · subst hb
      refine ⟨0, q, M, T9, fun i hi => hT i (by omega), ⟨by omega, hI.2.1⟩, Or.inl ⟨rfl, zft2_a hR⟩, ?_⟩
      refine Ev.aload_n_1 fX8_isText_10 rfl ?_
      refine Ev.cVi 24 [] [] fX8_isText_11 lkX8_isText_171 8 TX8 22 rfl rfl rfl hE ?_
      refine Ev.if_ne fX8_isText_14 rfl (by decide) (fun h14 => by exfalso; revert h14; decide) (fun h14 => ?_)
      refine Ev.iconst fX8_isText_17 ?_
      exact Ev.zZ fX8_isText_18 rfl (by first | exact Or.inl rfl | exact Or.inr rfl) rfl
    · subst hb
      have hq := hI.2.2.2 rfl
      have hh := zhr_is C (p := q) ⟨by omega, hI.2.1⟩
      by_cases hc : ch q = 59
      · have hq2 : q < L := by omega
        obtain ⟨b2, q2, M2, T2, g1, g2, g3, g4⟩ := ih (q + 1) (M + 1) T9 mf (by omega) ⟨by omega, by omega⟩ ⟨by omega, by omega⟩
        refine ⟨b2, q2, M2, T2, fun i hi => by rw [g1 i (by omega)]; exact hT i (by omega), g2, ?_, ?_⟩
        · rw [zft2_c hR hq2 hc]
          rcases g3 with g3 | g3
          · exact Or.inl g3
          · exact Or.inr ⟨g3.1, g3.2.1, g3.2.2.1, ⟨by omega, g3.2.2.2.1.2⟩, q, mf, hR, zmt_cg (hm rfl) g1, Or.inr ⟨hq2, hc, g3.2.2.2.2⟩⟩
        · refine Ev.aload_n_1 fX8_isText_10 rfl ?_
          refine Ev.cVi 24 [] [] fX8_isText_11 lkX8_isText_171 8 TX8 22 rfl rfl rfl hE ?_
          refine Ev.if_ne fX8_isText_14 rfl (by decide) (fun h14 => ?_) (fun h14 => by exfalso; revert h14; decide)
          refine Ev.aload_n_1 fX8_isText_19 rfl ?_
          refine Ev.dup fX8_isText_20 rfl ?_
          refine Ev.gI 24 21 (v := M) fX8_isText_21 (flX8_162 rfl) rfl rfl rfl ?_
          refine Ev.iconst fX8_isText_24 ?_
          refine Ev.iadd fX8_isText_25 ?_
          refine Ev.pI 24 21 fX8_isText_26 (flX8_162 rfl) rfl rfl trivial ?_
          rw [zTd_m']
          refine Ev.aload_n_1 fX8_isText_29 rfl ?_
          refine Ev.bipush fX8_isText_30 rfl ?_
          refine Ev.cVi 24 [(0, 59)] [] fX8_isText_32 lkX8_isText_165 8 TX8 22 rfl rfl rfl (eX8_skips_t C ⟨by omega, by omega⟩ (by decide) hc) ?_
          refine Ev.if_ne fX8_isText_35 rfl (by decide) (fun h35 => ?_) (fun h35 => by exfalso; revert h35; decide)
          exact g4
      · by_cases hq2 : q = L
        · refine ⟨1, q, M + 1, T9, fun i hi => hT i (by omega), ⟨by omega, hI.2.1⟩, Or.inr ⟨rfl, zft2_b hR (by omega), hq2, ⟨by omega, by omega⟩, q, mf, hR, hm rfl, Or.inl ⟨hq2, rfl⟩⟩, ?_⟩
          refine Ev.aload_n_1 fX8_isText_10 rfl ?_
          refine Ev.cVi 24 [] [] fX8_isText_11 lkX8_isText_171 8 TX8 22 rfl rfl rfl hE ?_
          refine Ev.if_ne fX8_isText_14 rfl (by decide) (fun h14 => ?_) (fun h14 => by exfalso; revert h14; decide)
          refine Ev.aload_n_1 fX8_isText_19 rfl ?_
          refine Ev.dup fX8_isText_20 rfl ?_
          refine Ev.gI 24 21 (v := M) fX8_isText_21 (flX8_162 rfl) rfl rfl rfl ?_
          refine Ev.iconst fX8_isText_24 ?_
          refine Ev.iadd fX8_isText_25 ?_
          refine Ev.pI 24 21 fX8_isText_26 (flX8_162 rfl) rfl rfl trivial ?_
          rw [zTd_m']
          refine Ev.aload_n_1 fX8_isText_29 rfl ?_
          refine Ev.bipush fX8_isText_30 rfl ?_
          refine Ev.cVi 24 [(0, 59)] [] fX8_isText_32 lkX8_isText_165 8 TX8 22 rfl rfl rfl (eX8_skips_f C ⟨by omega, by omega⟩ (by decide) hc) ?_
          refine Ev.if_ne fX8_isText_35 rfl (by decide) (fun h35 => by exfalso; revert h35; decide) (fun h35 => ?_)
          refine Ev.aload_n_1 fX8_isText_38 rfl ?_
          refine Ev.gI 24 19 (v := q) fX8_isText_39 (flX8_155 rfl) rfl rfl rfl ?_
          refine Ev.aload_n_1 fX8_isText_42 rfl ?_
          refine Ev.gI 24 13 (v := L) fX8_isText_43 (flX8_152 rfl) rfl rfl C.1 ?_
          refine Ev.icmp_ne fX8_isText_46 rfl ⟨by omega, by omega⟩ ⟨by omega, by omega⟩ (fun h46 => by exfalso; omega) (fun h46 => ?_)
          refine Ev.iconst fX8_isText_49 ?_
          refine Ev.goto fX8_isText_50 rfl ?_
          exact Ev.zZ fX8_isText_54 rfl (by first | exact Or.inl rfl | exact Or.inr rfl) rfl
        · refine ⟨0, q, M + 1, T9, fun i hi => hT i (by omega), ⟨by omega, hI.2.1⟩, Or.inl ⟨rfl, zft2_d hR (by omega) hc⟩, ?_⟩
          refine Ev.aload_n_1 fX8_isText_10 rfl ?_
          refine Ev.cVi 24 [] [] fX8_isText_11 lkX8_isText_171 8 TX8 22 rfl rfl rfl hE ?_
          refine Ev.if_ne fX8_isText_14 rfl (by decide) (fun h14 => ?_) (fun h14 => by exfalso; revert h14; decide)
          refine Ev.aload_n_1 fX8_isText_19 rfl ?_
          refine Ev.dup fX8_isText_20 rfl ?_
          refine Ev.gI 24 21 (v := M) fX8_isText_21 (flX8_162 rfl) rfl rfl rfl ?_
          refine Ev.iconst fX8_isText_24 ?_
          refine Ev.iadd fX8_isText_25 ?_
          refine Ev.pI 24 21 fX8_isText_26 (flX8_162 rfl) rfl rfl trivial ?_
          rw [zTd_m']
          refine Ev.aload_n_1 fX8_isText_29 rfl ?_
          refine Ev.bipush fX8_isText_30 rfl ?_
          refine Ev.cVi 24 [(0, 59)] [] fX8_isText_32 lkX8_isText_165 8 TX8 22 rfl rfl rfl (eX8_skips_f C ⟨by omega, by omega⟩ (by decide) hc) ?_
          refine Ev.if_ne fX8_isText_35 rfl (by decide) (fun h35 => by exfalso; revert h35; decide) (fun h35 => ?_)
          refine Ev.aload_n_1 fX8_isText_38 rfl ?_
          refine Ev.gI 24 19 (v := q) fX8_isText_39 (flX8_155 rfl) rfl rfl rfl ?_
          refine Ev.aload_n_1 fX8_isText_42 rfl ?_
          refine Ev.gI 24 13 (v := L) fX8_isText_43 (flX8_152 rfl) rfl rfl C.1 ?_
          refine Ev.icmp_ne fX8_isText_46 rfl ⟨by omega, by omega⟩ ⟨by omega, by omega⟩ (fun h46 => ?_) (fun h46 => by exfalso; omega)
          refine Ev.iconst fX8_isText_53 ?_
          exact Ev.zZ fX8_isText_54 rfl (by first | exact Or.inl rfl | exact Or.inr rfl) rfl
theorem eX8_isText {G : zG} {ia : Nat → Int → Int} {w : (Nat → Int → Int) × (Nat → Int → Int)} {ch nf : Int → Int} {L : Int} (C : zTc ia ch L) : ∃ (b q M9 : Int) (T9 : Int → Int), (0 ≤ q ∧ q ≤ L) ∧ ((b = 0 ∧ zft2 ch L 60 0 nf = q) ∨ (b = 1 ∧ zft2 ch L 60 0 nf = -1 ∧ q = L ∧ (0 < M9 ∧ 2 * M9 ≤ L + 1) ∧ zok ch L T9 60 0 0 nf M9)) ∧ Ev G mX8_isText 0 [(1, 24)] [] (zH ia w) (.inl (some (0, b)), zH (zTd ia q M9 T9) w, 0, 0) := by
  have hL := C.2.1
  obtain ⟨b, q, M9, T9, g1, g2, g3, g4⟩ := eX8_isText_L (G := G) (w := w) C 60 0 0 (ia 33) nf (by omega) ⟨by omega, by omega⟩ ⟨by omega, by omega⟩
  refine ⟨b, q, M9, T9, g2, g3, ?_⟩
  have e := zTd_id (ia := ia)
  rw [show zH ia w = zH (zTd ia (ia 24 19) (ia 24 21) (ia 33)) w by rw [e]]
  refine Ev.aload_n_1 fX8_isText_0 rfl ?_
  refine Ev.iconst fX8_isText_1 ?_
  refine Ev.pI 24 19 fX8_isText_2 (flX8_155 rfl) rfl rfl trivial ?_
  rw [zTd_p']
  refine Ev.aload_n_1 fX8_isText_5 rfl ?_
  refine Ev.iconst fX8_isText_6 ?_
  refine Ev.pI 24 21 fX8_isText_7 (flX8_162 rfl) rfl rfl trivial ?_
  rw [zTd_m']
  exact g4
theorem eX8_carries_119 {G : zG} {ia ja : Nat → Int → Int} {w : (Nat → Int → Int) × (Nat → Int → Int)} {m r : Int} (hm : 0 ≤ m ∧ m ≤ 30) (hk : ia 33 (5 * m) = 119) (hE : Ev G mX8_write 0 [(1, 24), (0, (ia 33 ((5 * m) + 1))), (0, (ia 33 ((5 * m) + 2))), (0, (ia 33 ((5 * m) + 3))), (9, 0), (9, 0)] [] (zH ia w) (.inl (some (0, r)), zH ja w, 0, 0)) : Ev G mX8_carries 0 [(1, 24), (0, (5 * m))] [] (zH ia w) (.inl (some (0, r)), zH ja w, 0, 0) := by
  refine Ev.aload_n_1 fX8_carries_0 rfl ?_
  refine Ev.gR 24 20 33 fX8_carries_1 (flX8_39 rfl) rfl rfl rfl ?_
  refine Ev.iload_n fX8_carries_4 rfl ?_
  refine Ev.ld 33 155 (v := 119) fX8_carries_5 rfl rfl ⟨by omega, by omega⟩ hk ?_
  refine Ev.lookup fX8_carries_6 (by decide) (by decide) rfl rfl ?_
  refine Ev.aload_n_1 fX8_carries_48 rfl ?_
  refine Ev.aload_n_1 fX8_carries_49 rfl ?_
  refine Ev.gR 24 20 33 fX8_carries_50 (flX8_39 rfl) rfl rfl rfl ?_
  refine Ev.iload_n fX8_carries_53 rfl ?_
  refine Ev.iconst fX8_carries_54 ?_
  refine Ev.iadd fX8_carries_55 ?_
  refine Ev.ld 33 155 (v := (ia 33 ((5 * m) + 1))) fX8_carries_56 rfl rfl ⟨by omega, by omega⟩ rfl ?_
  refine Ev.aload_n_1 fX8_carries_57 rfl ?_
  refine Ev.gR 24 20 33 fX8_carries_58 (flX8_39 rfl) rfl rfl rfl ?_
  refine Ev.iload_n fX8_carries_61 rfl ?_
  refine Ev.iconst fX8_carries_62 ?_
  refine Ev.iadd fX8_carries_63 ?_
  refine Ev.ld 33 155 (v := (ia 33 ((5 * m) + 2))) fX8_carries_64 rfl rfl ⟨by omega, by omega⟩ rfl ?_
  refine Ev.aload_n_1 fX8_carries_65 rfl ?_
  refine Ev.gR 24 20 33 fX8_carries_66 (flX8_39 rfl) rfl rfl rfl ?_
  refine Ev.iload_n fX8_carries_69 rfl ?_
  refine Ev.iconst fX8_carries_70 ?_
  refine Ev.iadd fX8_carries_71 ?_
  refine Ev.ld 33 155 (v := (ia 33 ((5 * m) + 3))) fX8_carries_72 rfl rfl ⟨by omega, by omega⟩ rfl ?_
  refine Ev.cVi 24 [(0, (ia 33 ((5 * m) + 1))), (0, (ia 33 ((5 * m) + 2))), (0, (ia 33 ((5 * m) + 3)))] [] fX8_carries_73 lkX8_carries_175 8 TX8 22 rfl rfl rfl hE ?_
  exact Ev.zI fX8_carries_76 rfl rfl
theorem eX8_carries_103 {G : zG} {ia ja : Nat → Int → Int} {w : (Nat → Int → Int) × (Nat → Int → Int)} {m r : Int} (hm : 0 ≤ m ∧ m ≤ 30) (hk : ia 33 (5 * m) = 103) (hE : Ev G mX8_graft 0 [(1, 24), (0, (ia 33 ((5 * m) + 1))), (0, (ia 33 ((5 * m) + 2))), (0, (ia 33 ((5 * m) + 3))), (0, (ia 33 ((5 * m) + 4))), (9, 0), (9, 0)] [] (zH ia w) (.inl (some (0, r)), zH ja w, 0, 0)) : Ev G mX8_carries 0 [(1, 24), (0, (5 * m))] [] (zH ia w) (.inl (some (0, r)), zH ja w, 0, 0) := by
  refine Ev.aload_n_1 fX8_carries_0 rfl ?_
  refine Ev.gR 24 20 33 fX8_carries_1 (flX8_39 rfl) rfl rfl rfl ?_
  refine Ev.iload_n fX8_carries_4 rfl ?_
  refine Ev.ld 33 155 (v := 103) fX8_carries_5 rfl rfl ⟨by omega, by omega⟩ hk ?_
  refine Ev.lookup fX8_carries_6 (by decide) (by decide) rfl rfl ?_
  refine Ev.aload_n_1 fX8_carries_77 rfl ?_
  refine Ev.aload_n_1 fX8_carries_78 rfl ?_
  refine Ev.gR 24 20 33 fX8_carries_79 (flX8_39 rfl) rfl rfl rfl ?_
  refine Ev.iload_n fX8_carries_82 rfl ?_
  refine Ev.iconst fX8_carries_83 ?_
  refine Ev.iadd fX8_carries_84 ?_
  refine Ev.ld 33 155 (v := (ia 33 ((5 * m) + 1))) fX8_carries_85 rfl rfl ⟨by omega, by omega⟩ rfl ?_
  refine Ev.aload_n_1 fX8_carries_86 rfl ?_
  refine Ev.gR 24 20 33 fX8_carries_87 (flX8_39 rfl) rfl rfl rfl ?_
  refine Ev.iload_n fX8_carries_90 rfl ?_
  refine Ev.iconst fX8_carries_91 ?_
  refine Ev.iadd fX8_carries_92 ?_
  refine Ev.ld 33 155 (v := (ia 33 ((5 * m) + 2))) fX8_carries_93 rfl rfl ⟨by omega, by omega⟩ rfl ?_
  refine Ev.aload_n_1 fX8_carries_94 rfl ?_
  refine Ev.gR 24 20 33 fX8_carries_95 (flX8_39 rfl) rfl rfl rfl ?_
  refine Ev.iload_n fX8_carries_98 rfl ?_
  refine Ev.iconst fX8_carries_99 ?_
  refine Ev.iadd fX8_carries_100 ?_
  refine Ev.ld 33 155 (v := (ia 33 ((5 * m) + 3))) fX8_carries_101 rfl rfl ⟨by omega, by omega⟩ rfl ?_
  refine Ev.aload_n_1 fX8_carries_102 rfl ?_
  refine Ev.gR 24 20 33 fX8_carries_103 (flX8_39 rfl) rfl rfl rfl ?_
  refine Ev.iload_n fX8_carries_106 rfl ?_
  refine Ev.iconst fX8_carries_107 ?_
  refine Ev.iadd fX8_carries_108 ?_
  refine Ev.ld 33 155 (v := (ia 33 ((5 * m) + 4))) fX8_carries_109 rfl rfl ⟨by omega, by omega⟩ rfl ?_
  refine Ev.cVi 24 [(0, (ia 33 ((5 * m) + 1))), (0, (ia 33 ((5 * m) + 2))), (0, (ia 33 ((5 * m) + 3))), (0, (ia 33 ((5 * m) + 4)))] [] fX8_carries_110 lkX8_carries_178 8 TX8 22 rfl rfl rfl hE ?_
  exact Ev.zI fX8_carries_113 rfl rfl
theorem eX8_carries_102 {G : zG} {ia ja : Nat → Int → Int} {w : (Nat → Int → Int) × (Nat → Int → Int)} {m r : Int} (hm : 0 ≤ m ∧ m ≤ 30) (hk : ia 33 (5 * m) = 102) (hE : Ev G mX8_fork 0 [(1, 24), (0, (ia 33 ((5 * m) + 1))), (0, (ia 33 ((5 * m) + 2)))] [] (zH ia w) (.inl (some (0, r)), zH ja w, 0, 0)) : Ev G mX8_carries 0 [(1, 24), (0, (5 * m))] [] (zH ia w) (.inl (some (0, r)), zH ja w, 0, 0) := by
  refine Ev.aload_n_1 fX8_carries_0 rfl ?_
  refine Ev.gR 24 20 33 fX8_carries_1 (flX8_39 rfl) rfl rfl rfl ?_
  refine Ev.iload_n fX8_carries_4 rfl ?_
  refine Ev.ld 33 155 (v := 102) fX8_carries_5 rfl rfl ⟨by omega, by omega⟩ hk ?_
  refine Ev.lookup fX8_carries_6 (by decide) (by decide) rfl rfl ?_
  refine Ev.aload_n_1 fX8_carries_114 rfl ?_
  refine Ev.aload_n_1 fX8_carries_115 rfl ?_
  refine Ev.gR 24 20 33 fX8_carries_116 (flX8_39 rfl) rfl rfl rfl ?_
  refine Ev.iload_n fX8_carries_119 rfl ?_
  refine Ev.iconst fX8_carries_120 ?_
  refine Ev.iadd fX8_carries_121 ?_
  refine Ev.ld 33 155 (v := (ia 33 ((5 * m) + 1))) fX8_carries_122 rfl rfl ⟨by omega, by omega⟩ rfl ?_
  refine Ev.aload_n_1 fX8_carries_123 rfl ?_
  refine Ev.gR 24 20 33 fX8_carries_124 (flX8_39 rfl) rfl rfl rfl ?_
  refine Ev.iload_n fX8_carries_127 rfl ?_
  refine Ev.iconst fX8_carries_128 ?_
  refine Ev.iadd fX8_carries_129 ?_
  refine Ev.ld 33 155 (v := (ia 33 ((5 * m) + 2))) fX8_carries_130 rfl rfl ⟨by omega, by omega⟩ rfl ?_
  refine Ev.cVi 24 [(0, (ia 33 ((5 * m) + 1))), (0, (ia 33 ((5 * m) + 2)))] [] fX8_carries_131 lkX8_carries_182 8 TX8 22 rfl rfl rfl hE ?_
  exact Ev.zI fX8_carries_134 rfl rfl
theorem eX8_carries_98 {G : zG} {ia ja : Nat → Int → Int} {w : (Nat → Int → Int) × (Nat → Int → Int)} {m r : Int} (hm : 0 ≤ m ∧ m ≤ 30) (hk : ia 33 (5 * m) = 98) (hE : Ev G mX8_back 0 [(1, 24), (0, (ia 33 ((5 * m) + 1))), (0, (ia 33 ((5 * m) + 2))), (9, 0), (9, 0)] [] (zH ia w) (.inl (some (0, r)), zH ja w, 0, 0)) : Ev G mX8_carries 0 [(1, 24), (0, (5 * m))] [] (zH ia w) (.inl (some (0, r)), zH ja w, 0, 0) := by
  refine Ev.aload_n_1 fX8_carries_0 rfl ?_
  refine Ev.gR 24 20 33 fX8_carries_1 (flX8_39 rfl) rfl rfl rfl ?_
  refine Ev.iload_n fX8_carries_4 rfl ?_
  refine Ev.ld 33 155 (v := 98) fX8_carries_5 rfl rfl ⟨by omega, by omega⟩ hk ?_
  refine Ev.lookup fX8_carries_6 (by decide) (by decide) rfl rfl ?_
  refine Ev.aload_n_1 fX8_carries_135 rfl ?_
  refine Ev.aload_n_1 fX8_carries_136 rfl ?_
  refine Ev.gR 24 20 33 fX8_carries_137 (flX8_39 rfl) rfl rfl rfl ?_
  refine Ev.iload_n fX8_carries_140 rfl ?_
  refine Ev.iconst fX8_carries_141 ?_
  refine Ev.iadd fX8_carries_142 ?_
  refine Ev.ld 33 155 (v := (ia 33 ((5 * m) + 1))) fX8_carries_143 rfl rfl ⟨by omega, by omega⟩ rfl ?_
  refine Ev.aload_n_1 fX8_carries_144 rfl ?_
  refine Ev.gR 24 20 33 fX8_carries_145 (flX8_39 rfl) rfl rfl rfl ?_
  refine Ev.iload_n fX8_carries_148 rfl ?_
  refine Ev.iconst fX8_carries_149 ?_
  refine Ev.iadd fX8_carries_150 ?_
  refine Ev.ld 33 155 (v := (ia 33 ((5 * m) + 2))) fX8_carries_151 rfl rfl ⟨by omega, by omega⟩ rfl ?_
  refine Ev.cVi 24 [(0, (ia 33 ((5 * m) + 1))), (0, (ia 33 ((5 * m) + 2)))] [] fX8_carries_152 lkX8_carries_185 8 TX8 22 rfl rfl rfl hE ?_
  exact Ev.zI fX8_carries_155 rfl rfl
theorem eX8_carries_121 {G : zG} {ia ja : Nat → Int → Int} {w : (Nat → Int → Int) × (Nat → Int → Int)} {m r : Int} (hm : 0 ≤ m ∧ m ≤ 30) (hk : ia 33 (5 * m) = 121) (hE : Ev G mX8_pass 0 [(1, 24), (0, (ia 33 ((5 * m) + 1)))] [] (zH ia w) (.inl (some (0, r)), zH ja w, 0, 0)) : Ev G mX8_carries 0 [(1, 24), (0, (5 * m))] [] (zH ia w) (.inl (some (0, r)), zH ja w, 0, 0) := by
  refine Ev.aload_n_1 fX8_carries_0 rfl ?_
  refine Ev.gR 24 20 33 fX8_carries_1 (flX8_39 rfl) rfl rfl rfl ?_
  refine Ev.iload_n fX8_carries_4 rfl ?_
  refine Ev.ld 33 155 (v := 121) fX8_carries_5 rfl rfl ⟨by omega, by omega⟩ hk ?_
  refine Ev.lookup fX8_carries_6 (by decide) (by decide) rfl rfl ?_
  refine Ev.aload_n_1 fX8_carries_156 rfl ?_
  refine Ev.aload_n_1 fX8_carries_157 rfl ?_
  refine Ev.gR 24 20 33 fX8_carries_158 (flX8_39 rfl) rfl rfl rfl ?_
  refine Ev.iload_n fX8_carries_161 rfl ?_
  refine Ev.iconst fX8_carries_162 ?_
  refine Ev.iadd fX8_carries_163 ?_
  refine Ev.ld 33 155 (v := (ia 33 ((5 * m) + 1))) fX8_carries_164 rfl rfl ⟨by omega, by omega⟩ rfl ?_
  refine Ev.cVi 24 [(0, (ia 33 ((5 * m) + 1)))] [] fX8_carries_165 lkX8_carries_188 8 TX8 22 rfl rfl rfl hE ?_
  exact Ev.zI fX8_carries_168 rfl rfl
theorem eX8_commands_c1 {G : zG} {ia ja : Nat → Int → Int} {w : (Nat → Int → Int) × (Nat → Int → Int)} {q : Int} (hE : Ev G mX8_isText 0 [(1, 24)] [] (zH ia w) (.inl (some (0, 0)), zH ja w, 0, 0)) (hq : ja 24 19 = q) : Ev G mX8_commands 0 [(1, 24), (9, 0), (9, 0)] [] (zH ia w) (.inl (some (0, 0)), zH (zu (zu (zu ja 24 14 q) 24 13 0) 24 8 1) w, 0, 0) := by
  refine Ev.aload_n_1 fX8_commands_0 rfl ?_
  refine Ev.cVi 24 [] [] fX8_commands_1 lkX8_commands_191 8 TX8 22 rfl rfl rfl hE ?_
  refine Ev.sistore_n [(1, 24), (0, 0), (9, 0)] fX8_commands_4 rfl rfl ?_
  refine Ev.aload_n_1 fX8_commands_5 rfl ?_
  refine Ev.iload_n fX8_commands_6 rfl ?_
  refine Ev.if_eq fX8_commands_7 rfl (by decide) (fun h7 => ?_) (fun h7 => by exfalso; revert h7; decide)
  refine Ev.aload_n_1 fX8_commands_14 rfl ?_
  refine Ev.gI 24 19 (v := q) fX8_commands_15 (flX8_155 rfl) rfl rfl hq ?_
  refine Ev.pI 24 14 fX8_commands_18 (flX8_25 rfl) rfl rfl trivial ?_
  refine Ev.aload_n_1 fX8_commands_21 rfl ?_
  refine Ev.iconst fX8_commands_22 ?_
  refine Ev.pI 24 13 fX8_commands_23 (flX8_152 rfl) rfl rfl trivial ?_
  refine Ev.aload_n_1 fX8_commands_26 rfl ?_
  refine Ev.iload_n fX8_commands_27 rfl ?_
  refine Ev.if_eq fX8_commands_28 rfl (by decide) (fun h28 => ?_) (fun h28 => by exfalso; revert h28; decide)
  refine Ev.iconst fX8_commands_35 ?_
  refine Ev.cVi 24 [(0, 1)] [] fX8_commands_36 lkX8_commands_117 8 TX8 22 rfl rfl rfl eX8_fails_1 ?_
  refine Ev.if_eq fX8_commands_39 rfl (by decide) (fun h39 => by exfalso; revert h39; decide) (fun h39 => ?_)
  refine Ev.iconst fX8_commands_42 ?_
  exact Ev.zI fX8_commands_43 rfl rfl
theorem eX8_commands_in {G : zG} {ia ja : Nat → Int → Int} {w : (Nat → Int → Int) × (Nat → Int → Int)} {O : zO} (hE : Ev G mX8_isText 0 [(1, 24)] [] (zH ia w) (.inl (some (0, 1)), zH ja w, 0, 0)) (next : Ev G mX8_commands 69 [(1, 24), (0, 1), (0, 0)] [] (zH (zu (zu (zcp (zu (zu (zu ja 24 14 (-1)) 24 13 0) 24 8 0) 25 0 28 0 1968) 24 6 1) 24 7 0) w) O) : Ev G mX8_commands 0 [(1, 24), (9, 0), (9, 0)] [] (zH ia w) O := by
  refine Ev.aload_n_1 fX8_commands_0 rfl ?_
  refine Ev.cVi 24 [] [] fX8_commands_1 lkX8_commands_191 8 TX8 22 rfl rfl rfl hE ?_
  refine Ev.sistore_n [(1, 24), (0, 1), (9, 0)] fX8_commands_4 rfl rfl ?_
  refine Ev.aload_n_1 fX8_commands_5 rfl ?_
  refine Ev.iload_n fX8_commands_6 rfl ?_
  refine Ev.if_eq fX8_commands_7 rfl (by decide) (fun h7 => by exfalso; revert h7; decide) (fun h7 => ?_)
  refine Ev.iconst fX8_commands_10 ?_
  refine Ev.goto fX8_commands_11 rfl ?_
  refine Ev.pI 24 14 fX8_commands_18 (flX8_25 rfl) rfl rfl trivial ?_
  refine Ev.aload_n_1 fX8_commands_21 rfl ?_
  refine Ev.iconst fX8_commands_22 ?_
  refine Ev.pI 24 13 fX8_commands_23 (flX8_152 rfl) rfl rfl trivial ?_
  refine Ev.aload_n_1 fX8_commands_26 rfl ?_
  refine Ev.iload_n fX8_commands_27 rfl ?_
  refine Ev.if_eq fX8_commands_28 rfl (by decide) (fun h28 => by exfalso; revert h28; decide) (fun h28 => ?_)
  refine Ev.iconst fX8_commands_31 ?_
  refine Ev.goto fX8_commands_32 rfl ?_
  refine Ev.cVi 24 [(0, 0)] [] fX8_commands_36 lkX8_commands_117 8 TX8 22 rfl rfl rfl eX8_fails_0 ?_
  refine Ev.if_eq fX8_commands_39 rfl (by decide) (fun h39 => ?_) (fun h39 => by exfalso; revert h39; decide)
  refine Ev.aload_n_1 fX8_commands_44 rfl ?_
  refine Ev.gR 24 0 25 fX8_commands_45 (flX8_7 rfl) rfl rfl rfl ?_
  refine Ev.iconst fX8_commands_48 ?_
  refine Ev.aload_n_1 fX8_commands_49 rfl ?_
  refine Ev.gR 24 3 28 fX8_commands_50 (flX8_19 rfl) rfl rfl rfl ?_
  refine Ev.iconst fX8_commands_53 ?_
  refine Ev.cSv [(1, 25), (0, 0), (1, 28), (0, 0)] [] fX8_commands_54 lkX8_commands_64 rfl (eX8_copies_25_28 ⟨by omega, by omega⟩ ⟨by omega, by omega⟩) ?_
  refine Ev.aload_n_1 fX8_commands_57 rfl ?_
  refine Ev.iconst fX8_commands_58 ?_
  refine Ev.pI 24 6 fX8_commands_59 (flX8_51 rfl) rfl rfl (by first | exact Or.inl rfl | exact Or.inr rfl) ?_
  refine Ev.aload_n_1 fX8_commands_62 rfl ?_
  refine Ev.iconst fX8_commands_63 ?_
  refine Ev.pI 24 7 fX8_commands_64 (flX8_55 rfl) rfl rfl trivial ?_
  refine Ev.iconst fX8_commands_67 ?_
  refine Ev.sistore_n [(1, 24), (0, 1), (0, 0)] fX8_commands_68 rfl rfl ?_
  exact next
theorem eX8_commands_ok {G : zG} {ia ja : Nat → Int → Int} {w : (Nat → Int → Int) × (Nat → Int → Int)} {m M r g9 : Int} {O : zO} (hm : 0 ≤ m ∧ m ≤ 30) (hM : 0 ≤ M ∧ M ≤ 30) (h7 : ia 24 7 = m) (h21 : ia 24 21 = M) (h8 : ia 24 8 = 0) (hlt : m < M) (hE : Ev G mX8_carries 0 [(1, 24), (0, (5 * m))] [] (zH ia w) (.inl (some (0, r)), zH ja w, 0, 0)) (j8 : ja 24 8 = 0) (j7 : ja 24 7 = m) (next : Ev G mX8_commands 69 [(1, 24), (0, 1), (0, r)] [] (zH (zu ja 24 7 (m + 1)) w) O) : Ev G mX8_commands 69 [(1, 24), (0, 1), (0, g9)] [] (zH ia w) O := by
  refine Ev.aload_n_1 fX8_commands_69 rfl ?_
  refine Ev.gI 24 7 (v := m) fX8_commands_70 (flX8_55 rfl) rfl rfl h7 ?_
  refine Ev.aload_n_1 fX8_commands_73 rfl ?_
  refine Ev.gI 24 21 (v := M) fX8_commands_74 (flX8_162 rfl) rfl rfl h21 ?_
  refine Ev.icmp_ge fX8_commands_77 rfl ⟨by omega, by omega⟩ ⟨by omega, by omega⟩ (fun h77 => by exfalso; omega) (fun h77 => ?_)
  refine Ev.aload_n_1 fX8_commands_80 rfl ?_
  refine Ev.gI 24 8 (v := 0) fX8_commands_81 (flX8_42 rfl) rfl rfl h8 ?_
  refine Ev.if_ne fX8_commands_84 rfl (by decide) (fun h84 => by exfalso; revert h84; decide) (fun h84 => ?_)
  refine Ev.aload_n_1 fX8_commands_87 rfl ?_
  refine Ev.iconst fX8_commands_88 ?_
  refine Ev.aload_n_1 fX8_commands_89 rfl ?_
  refine Ev.gI 24 7 (v := m) fX8_commands_90 (flX8_55 rfl) rfl rfl h7 ?_
  refine Ev.imul fX8_commands_93 ?_
  refine Ev.cVi 24 [(0, (5 * m))] [] fX8_commands_94 lkX8_commands_194 8 TX8 22 rfl rfl rfl hE ?_
  refine Ev.sistore_n [(1, 24), (0, 1), (0, r)] fX8_commands_97 rfl rfl ?_
  refine Ev.aload_n_1 fX8_commands_98 rfl ?_
  refine Ev.gI 24 8 (v := 0) fX8_commands_99 (flX8_42 rfl) rfl rfl j8 ?_
  refine Ev.if_ne fX8_commands_102 rfl (by decide) (fun h102 => by exfalso; revert h102; decide) (fun h102 => ?_)
  refine Ev.aload_n_1 fX8_commands_105 rfl ?_
  refine Ev.dup fX8_commands_106 rfl ?_
  refine Ev.gI 24 7 (v := m) fX8_commands_107 (flX8_55 rfl) rfl rfl j7 ?_
  refine Ev.iconst fX8_commands_110 ?_
  refine Ev.iadd fX8_commands_111 ?_
  refine Ev.pI 24 7 fX8_commands_112 (flX8_55 rfl) rfl rfl trivial ?_
  refine Ev.goto fX8_commands_115 rfl ?_
  exact next
theorem eX8_commands_done {G : zG} {ia : Nat → Int → Int} {w : (Nat → Int → Int) × (Nat → Int → Int)} {m g9 : Int} {O : zO} (hm : 0 ≤ m ∧ m ≤ 30) (h7 : ia 24 7 = m) (h21 : ia 24 21 = m) (next : Ev G mX8_commands 118 [(1, 24), (0, 1), (0, g9)] [] (zH ia w) O) : Ev G mX8_commands 69 [(1, 24), (0, 1), (0, g9)] [] (zH ia w) O := by
  refine Ev.aload_n_1 fX8_commands_69 rfl ?_
  refine Ev.gI 24 7 (v := m) fX8_commands_70 (flX8_55 rfl) rfl rfl h7 ?_
  refine Ev.aload_n_1 fX8_commands_73 rfl ?_
  refine Ev.gI 24 21 (v := m) fX8_commands_74 (flX8_162 rfl) rfl rfl h21 ?_
  refine Ev.icmp_ge fX8_commands_77 rfl ⟨by omega, by omega⟩ ⟨by omega, by omega⟩ (fun h77 => ?_) (fun h77 => by exfalso; omega)
  exact next
theorem eX8_commands_out {G : zG} {ia : Nat → Int → Int} {w : (Nat → Int → Int) × (Nat → Int → Int)} {m M g9 : Int} {O : zO} (hm : 0 ≤ m ∧ m ≤ 30) (hM : 0 ≤ M ∧ M ≤ 30) (h7 : ia 24 7 = m) (h21 : ia 24 21 = M) (h8 : ia 24 8 = 1) (hlt : m < M) (next : Ev G mX8_commands 118 [(1, 24), (0, 1), (0, g9)] [] (zH ia w) O) : Ev G mX8_commands 69 [(1, 24), (0, 1), (0, g9)] [] (zH ia w) O := by
  refine Ev.aload_n_1 fX8_commands_69 rfl ?_
  refine Ev.gI 24 7 (v := m) fX8_commands_70 (flX8_55 rfl) rfl rfl h7 ?_
  refine Ev.aload_n_1 fX8_commands_73 rfl ?_
  refine Ev.gI 24 21 (v := M) fX8_commands_74 (flX8_162 rfl) rfl rfl h21 ?_
  refine Ev.icmp_ge fX8_commands_77 rfl ⟨by omega, by omega⟩ ⟨by omega, by omega⟩ (fun h77 => by exfalso; omega) (fun h77 => ?_)
  refine Ev.aload_n_1 fX8_commands_80 rfl ?_
  refine Ev.gI 24 8 (v := 1) fX8_commands_81 (flX8_42 rfl) rfl rfl h8 ?_
  refine Ev.if_ne fX8_commands_84 rfl (by decide) (fun h84 => ?_) (fun h84 => by exfalso; revert h84; decide)
  exact next
theorem eX8_commands_ref {G : zG} {ia ja : Nat → Int → Int} {w : (Nat → Int → Int) × (Nat → Int → Int)} {m M r g9 : Int} {O : zO} (hm : 0 ≤ m ∧ m ≤ 30) (hM : 0 ≤ M ∧ M ≤ 30) (h7 : ia 24 7 = m) (h21 : ia 24 21 = M) (h8 : ia 24 8 = 0) (hlt : m < M) (hE : Ev G mX8_carries 0 [(1, 24), (0, (5 * m))] [] (zH ia w) (.inl (some (0, r)), zH ja w, 0, 0)) (j8 : ja 24 8 = 1) (j7 : ja 24 7 = m) (j21 : ja 24 21 = M) (next : Ev G mX8_commands 118 [(1, 24), (0, 1), (0, r)] [] (zH ja w) O) : Ev G mX8_commands 69 [(1, 24), (0, 1), (0, g9)] [] (zH ia w) O := by
  refine Ev.aload_n_1 fX8_commands_69 rfl ?_
  refine Ev.gI 24 7 (v := m) fX8_commands_70 (flX8_55 rfl) rfl rfl h7 ?_
  refine Ev.aload_n_1 fX8_commands_73 rfl ?_
  refine Ev.gI 24 21 (v := M) fX8_commands_74 (flX8_162 rfl) rfl rfl h21 ?_
  refine Ev.icmp_ge fX8_commands_77 rfl ⟨by omega, by omega⟩ ⟨by omega, by omega⟩ (fun h77 => by exfalso; omega) (fun h77 => ?_)
  refine Ev.aload_n_1 fX8_commands_80 rfl ?_
  refine Ev.gI 24 8 (v := 0) fX8_commands_81 (flX8_42 rfl) rfl rfl h8 ?_
  refine Ev.if_ne fX8_commands_84 rfl (by decide) (fun h84 => by exfalso; revert h84; decide) (fun h84 => ?_)
  refine Ev.aload_n_1 fX8_commands_87 rfl ?_
  refine Ev.iconst fX8_commands_88 ?_
  refine Ev.aload_n_1 fX8_commands_89 rfl ?_
  refine Ev.gI 24 7 (v := m) fX8_commands_90 (flX8_55 rfl) rfl rfl h7 ?_
  refine Ev.imul fX8_commands_93 ?_
  refine Ev.cVi 24 [(0, (5 * m))] [] fX8_commands_94 lkX8_commands_194 8 TX8 22 rfl rfl rfl hE ?_
  refine Ev.sistore_n [(1, 24), (0, 1), (0, r)] fX8_commands_97 rfl rfl ?_
  refine Ev.aload_n_1 fX8_commands_98 rfl ?_
  refine Ev.gI 24 8 (v := 1) fX8_commands_99 (flX8_42 rfl) rfl rfl j8 ?_
  refine Ev.if_ne fX8_commands_102 rfl (by decide) (fun h102 => ?_) (fun h102 => by exfalso; revert h102; decide)
  exact eX8_commands_out hm hM j7 j21 j8 hlt next
theorem eX8_commands_fin {G : zG} {ia : Nat → Int → Int} {w : (Nat → Int → Int) × (Nat → Int → Int)} {M g9 : Int} (h8 : ia 24 8 = 0) (h21 : ia 24 21 = M) (hk : 0 ≤ ia 24 5 ∧ ia 24 5 ≤ 8) : Ev G mX8_commands 118 [(1, 24), (0, 1), (0, g9)] [] (zH ia w) (.inl (some (0, M)), zH (zKp (zu ia 24 6 0) 28) w, 0, 0) := by
  refine Ev.aload_n_1 fX8_commands_118 rfl ?_
  refine Ev.iconst fX8_commands_119 ?_
  refine Ev.pI 24 6 fX8_commands_120 (flX8_51 rfl) rfl rfl (by first | exact Or.inl rfl | exact Or.inr rfl) ?_
  refine Ev.aload_n_1 fX8_commands_123 rfl ?_
  refine Ev.gI 24 8 (v := 0) fX8_commands_124 (flX8_42 rfl) rfl rfl h8 ?_
  refine Ev.if_le fX8_commands_127 rfl (by decide) (fun h127 => ?_) (fun h127 => by exfalso; revert h127; decide)
  refine Ev.aload_n_1 fX8_commands_158 rfl ?_
  refine Ev.aload_n_1 fX8_commands_159 rfl ?_
  refine Ev.gR 24 3 28 fX8_commands_160 (flX8_19 rfl) rfl rfl rfl ?_
  refine Ev.cVv 24 [(1, 28)] [] fX8_commands_163 lkX8_commands_93 8 TX8 22 rfl rfl rfl (eX8_keeps_28 (Or.inl rfl) hk) ?_
  refine Ev.aload_n_1 fX8_commands_166 rfl ?_
  refine Ev.gI 24 21 (v := M) fX8_commands_167 (flX8_162 rfl) rfl rfl (by rw [zKp_24 (by decide) (by decide)]; exact h21) ?_
  exact Ev.zI fX8_commands_170 rfl rfl
theorem eX8_commands_c2 {G : zG} {ia : Nat → Int → Int} {w : (Nat → Int → Int) × (Nat → Int → Int)}  (h8 : ia 24 8 = 1) : Ev G mX8_commands 118 [(1, 24), (0, 1), (0, 0)] [] (zH ia w) (.inl (some (0, 0)), zH (zu (zcp (zu ia 24 6 0) 28 0 25 0 1968) 24 8 2) w, 0, 0) := by
  refine Ev.aload_n_1 fX8_commands_118 rfl ?_
  refine Ev.iconst fX8_commands_119 ?_
  refine Ev.pI 24 6 fX8_commands_120 (flX8_51 rfl) rfl rfl (by first | exact Or.inl rfl | exact Or.inr rfl) ?_
  refine Ev.aload_n_1 fX8_commands_123 rfl ?_
  refine Ev.gI 24 8 (v := 1) fX8_commands_124 (flX8_42 rfl) rfl rfl h8 ?_
  refine Ev.if_le fX8_commands_127 rfl (by decide) (fun h127 => by exfalso; revert h127; decide) (fun h127 => ?_)
  refine Ev.aload_n_1 fX8_commands_130 rfl ?_
  refine Ev.gR 24 3 28 fX8_commands_131 (flX8_19 rfl) rfl rfl rfl ?_
  refine Ev.iconst fX8_commands_134 ?_
  refine Ev.aload_n_1 fX8_commands_135 rfl ?_
  refine Ev.gR 24 0 25 fX8_commands_136 (flX8_7 rfl) rfl rfl rfl ?_
  refine Ev.iconst fX8_commands_139 ?_
  refine Ev.cSv [(1, 28), (0, 0), (1, 25), (0, 0)] [] fX8_commands_140 lkX8_commands_64 rfl (eX8_copies_28_25 ⟨by omega, by omega⟩ ⟨by omega, by omega⟩) ?_
  refine Ev.aload_n_1 fX8_commands_143 rfl ?_
  refine Ev.iconst fX8_commands_144 ?_
  refine Ev.pI 24 8 fX8_commands_145 (flX8_42 rfl) rfl rfl trivial ?_
  refine Ev.iload_n fX8_commands_148 rfl ?_
  refine Ev.if_le fX8_commands_149 rfl (by decide) (fun h149 => ?_) (fun h149 => by exfalso; revert h149; decide)
  refine Ev.iload_n fX8_commands_156 rfl ?_
  exact Ev.zI fX8_commands_157 rfl rfl
