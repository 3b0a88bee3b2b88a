/-! THE CLASS: THE COMMANDS OF A TEXT (printed by wip/whole/gen/cls12.py) -/
theorem eX1_carryOut_119 {G : zG} {ia ja : Nat → Int → Int} {w : (Nat → Int → Int) × (Nat → Int → Int)} {p r : Int} {nf : Int → Int} (hE : Ev G mX1_enter 0 [(1, 1), (0, (nf 0)), (0, (nf 1)), (0, (nf 2)), (9, 0)] [] (zH (zDf ia p 119 nf) w) (.inl (some (0, r)), zH ja w, 0, 0)) : Ev G mX1_carryOut 0 [(1, 1), (1, 19), (9, 0)] [] (zH (zDf ia p 119 nf) w) (.inl (some (0, r)), zH ja w, 0, 0) := by
  refine Ev.aload_n_1 fX1_carryOut_0 rfl ?_
  refine Ev.iconst fX1_carryOut_1 ?_
  refine Ev.cVi 19 [(0, 0)] [] fX1_carryOut_2 lkX1_carryOut_30 2 TX2 5 rfl rfl rfl (eX2_number ⟨by decide, by decide⟩) ?_
  refine Ev.sistore_n [(1, 1), (1, 19), (0, (nf 0))] fX1_carryOut_5 rfl rfl ?_
  refine Ev.aload_n_1 fX1_carryOut_6 rfl ?_
  refine Ev.cVi 19 [] [] fX1_carryOut_7 lkX1_carryOut_36 2 TX2 5 rfl rfl rfl (eX2_kind (by decide)) ?_
  refine Ev.lookup fX1_carryOut_10 (by decide) (by decide) rfl rfl ?_
  refine Ev.aload_n_1 fX1_carryOut_52 rfl ?_
  refine Ev.iload_n fX1_carryOut_53 rfl ?_
  refine Ev.aload_n_1 fX1_carryOut_54 rfl ?_
  refine Ev.iconst fX1_carryOut_55 ?_
  refine Ev.cVi 19 [(0, 1)] [(0, (nf 0)), (1, 1)] fX1_carryOut_56 lkX1_carryOut_30 2 TX2 5 rfl rfl rfl (eX2_number ⟨by decide, by decide⟩) ?_
  refine Ev.aload_n_1 fX1_carryOut_59 rfl ?_
  refine Ev.iconst fX1_carryOut_60 ?_
  refine Ev.cVi 19 [(0, 2)] [(0, (nf 1)), (0, (nf 0)), (1, 1)] fX1_carryOut_61 lkX1_carryOut_30 2 TX2 5 rfl rfl rfl (eX2_number ⟨by decide, by decide⟩) ?_
  refine Ev.cVi 1 [(0, (nf 0)), (0, (nf 1)), (0, (nf 2))] [] fX1_carryOut_64 lkX1_carryOut_40 1 TX1 3 rfl rfl rfl hE ?_
  exact Ev.zI fX1_carryOut_67 rfl rfl
theorem eX1_carryOut_103 {G : zG} {ia ja : Nat → Int → Int} {w : (Nat → Int → Int) × (Nat → Int → Int)} {p r : Int} {nf : Int → Int} (hE : Ev G mX1_copyLines 0 [(1, 1), (0, (nf 0)), (0, (nf 1)), (0, (nf 2)), (0, (nf 3)), (9, 0)] [] (zH (zDf ia p 103 nf) w) (.inl (some (0, r)), zH ja w, 0, 0)) : Ev G mX1_carryOut 0 [(1, 1), (1, 19), (9, 0)] [] (zH (zDf ia p 103 nf) w) (.inl (some (0, r)), zH ja w, 0, 0) := by
  refine Ev.aload_n_1 fX1_carryOut_0 rfl ?_
  refine Ev.iconst fX1_carryOut_1 ?_
  refine Ev.cVi 19 [(0, 0)] [] fX1_carryOut_2 lkX1_carryOut_30 2 TX2 5 rfl rfl rfl (eX2_number ⟨by decide, by decide⟩) ?_
  refine Ev.sistore_n [(1, 1), (1, 19), (0, (nf 0))] fX1_carryOut_5 rfl rfl ?_
  refine Ev.aload_n_1 fX1_carryOut_6 rfl ?_
  refine Ev.cVi 19 [] [] fX1_carryOut_7 lkX1_carryOut_36 2 TX2 5 rfl rfl rfl (eX2_kind (by decide)) ?_
  refine Ev.lookup fX1_carryOut_10 (by decide) (by decide) rfl rfl ?_
  refine Ev.aload_n_1 fX1_carryOut_68 rfl ?_
  refine Ev.iload_n fX1_carryOut_69 rfl ?_
  refine Ev.aload_n_1 fX1_carryOut_70 rfl ?_
  refine Ev.iconst fX1_carryOut_71 ?_
  refine Ev.cVi 19 [(0, 1)] [(0, (nf 0)), (1, 1)] fX1_carryOut_72 lkX1_carryOut_30 2 TX2 5 rfl rfl rfl (eX2_number ⟨by decide, by decide⟩) ?_
  refine Ev.aload_n_1 fX1_carryOut_75 rfl ?_
  refine Ev.iconst fX1_carryOut_76 ?_
  refine Ev.cVi 19 [(0, 2)] [(0, (nf 1)), (0, (nf 0)), (1, 1)] fX1_carryOut_77 lkX1_carryOut_30 2 TX2 5 rfl rfl rfl (eX2_number ⟨by decide, by decide⟩) ?_
  refine Ev.aload_n_1 fX1_carryOut_80 rfl ?_
  refine Ev.iconst fX1_carryOut_81 ?_
  refine Ev.cVi 19 [(0, 3)] [(0, (nf 2)), (0, (nf 1)), (0, (nf 0)), (1, 1)] fX1_carryOut_82 lkX1_carryOut_30 2 TX2 5 rfl rfl rfl (eX2_number ⟨by decide, by decide⟩) ?_
  refine Ev.cVi 1 [(0, (nf 0)), (0, (nf 1)), (0, (nf 2)), (0, (nf 3))] [] fX1_carryOut_85 lkX1_carryOut_44 1 TX1 3 rfl rfl rfl hE ?_
  exact Ev.zI fX1_carryOut_88 rfl rfl
theorem eX1_carryOut_102 {G : zG} {ia ja : Nat → Int → Int} {w : (Nat → Int → Int) × (Nat → Int → Int)} {p r : Int} {nf : Int → Int} (hE : Ev G mX1_takeOver 0 [(1, 1), (0, (nf 0)), (0, (nf 1)), (9, 0)] [] (zH (zDf ia p 102 nf) w) (.inl (some (0, r)), zH ja w, 0, 0)) : Ev G mX1_carryOut 0 [(1, 1), (1, 19), (9, 0)] [] (zH (zDf ia p 102 nf) w) (.inl (some (0, r)), zH ja w, 0, 0) := by
  refine Ev.aload_n_1 fX1_carryOut_0 rfl ?_
  refine Ev.iconst fX1_carryOut_1 ?_
  refine Ev.cVi 19 [(0, 0)] [] fX1_carryOut_2 lkX1_carryOut_30 2 TX2 5 rfl rfl rfl (eX2_number ⟨by decide, by decide⟩) ?_
  refine Ev.sistore_n [(1, 1), (1, 19), (0, (nf 0))] fX1_carryOut_5 rfl rfl ?_
  refine Ev.aload_n_1 fX1_carryOut_6 rfl ?_
  refine Ev.cVi 19 [] [] fX1_carryOut_7 lkX1_carryOut_36 2 TX2 5 rfl rfl rfl (eX2_kind (by decide)) ?_
  refine Ev.lookup fX1_carryOut_10 (by decide) (by decide) rfl rfl ?_
  refine Ev.aload_n_1 fX1_carryOut_89 rfl ?_
  refine Ev.iload_n fX1_carryOut_90 rfl ?_
  refine Ev.aload_n_1 fX1_carryOut_91 rfl ?_
  refine Ev.iconst fX1_carryOut_92 ?_
  refine Ev.cVi 19 [(0, 1)] [(0, (nf 0)), (1, 1)] fX1_carryOut_93 lkX1_carryOut_30 2 TX2 5 rfl rfl rfl (eX2_number ⟨by decide, by decide⟩) ?_
  refine Ev.cVi 1 [(0, (nf 0)), (0, (nf 1))] [] fX1_carryOut_96 lkX1_carryOut_48 1 TX1 3 rfl rfl rfl hE ?_
  exact Ev.zI fX1_carryOut_99 rfl rfl
theorem eX1_carryOut_98 {G : zG} {ia ja : Nat → Int → Int} {w : (Nat → Int → Int) × (Nat → Int → Int)} {p r : Int} {nf : Int → Int} (hE : Ev G mX1_goBack 0 [(1, 1), (0, (nf 0)), (0, (nf 1)), (9, 0), (9, 0)] [] (zH (zDf ia p 98 nf) w) (.inl (some (0, r)), zH ja w, 0, 0)) : Ev G mX1_carryOut 0 [(1, 1), (1, 19), (9, 0)] [] (zH (zDf ia p 98 nf) w) (.inl (some (0, r)), zH ja w, 0, 0) := by
  refine Ev.aload_n_1 fX1_carryOut_0 rfl ?_
  refine Ev.iconst fX1_carryOut_1 ?_
  refine Ev.cVi 19 [(0, 0)] [] fX1_carryOut_2 lkX1_carryOut_30 2 TX2 5 rfl rfl rfl (eX2_number ⟨by decide, by decide⟩) ?_
  refine Ev.sistore_n [(1, 1), (1, 19), (0, (nf 0))] fX1_carryOut_5 rfl rfl ?_
  refine Ev.aload_n_1 fX1_carryOut_6 rfl ?_
  refine Ev.cVi 19 [] [] fX1_carryOut_7 lkX1_carryOut_36 2 TX2 5 rfl rfl rfl (eX2_kind (by decide)) ?_
  refine Ev.lookup fX1_carryOut_10 (by decide) (by decide) rfl rfl ?_
  refine Ev.aload_n_1 fX1_carryOut_100 rfl ?_
  refine Ev.iload_n fX1_carryOut_101 rfl ?_
  refine Ev.aload_n_1 fX1_carryOut_102 rfl ?_
  refine Ev.iconst fX1_carryOut_103 ?_
  refine Ev.cVi 19 [(0, 1)] [(0, (nf 0)), (1, 1)] fX1_carryOut_104 lkX1_carryOut_30 2 TX2 5 rfl rfl rfl (eX2_number ⟨by decide, by decide⟩) ?_
  refine Ev.cVi 1 [(0, (nf 0)), (0, (nf 1))] [] fX1_carryOut_107 lkX1_carryOut_52 1 TX1 3 rfl rfl rfl hE ?_
  exact Ev.zI fX1_carryOut_110 rfl rfl
theorem eX1_carryOut_121 {G : zG} {ia ja : Nat → Int → Int} {w : (Nat → Int → Int) × (Nat → Int → Int)} {p r : Int} {nf : Int → Int} (hE : Ev G mX1_letGoBy 0 [(1, 1), (0, (nf 0))] [] (zH (zDf ia p 121 nf) w) (.inl (some (0, r)), zH ja w, 0, 0)) : Ev G mX1_carryOut 0 [(1, 1), (1, 19), (9, 0)] [] (zH (zDf ia p 121 nf) w) (.inl (some (0, r)), zH ja w, 0, 0) := by
  refine Ev.aload_n_1 fX1_carryOut_0 rfl ?_
  refine Ev.iconst fX1_carryOut_1 ?_
  refine Ev.cVi 19 [(0, 0)] [] fX1_carryOut_2 lkX1_carryOut_30 2 TX2 5 rfl rfl rfl (eX2_number ⟨by decide, by decide⟩) ?_
  refine Ev.sistore_n [(1, 1), (1, 19), (0, (nf 0))] fX1_carryOut_5 rfl rfl ?_
  refine Ev.aload_n_1 fX1_carryOut_6 rfl ?_
  refine Ev.cVi 19 [] [] fX1_carryOut_7 lkX1_carryOut_36 2 TX2 5 rfl rfl rfl (eX2_kind (by decide)) ?_
  refine Ev.lookup fX1_carryOut_10 (by decide) (by decide) rfl rfl ?_
  refine Ev.aload_n_1 fX1_carryOut_111 rfl ?_
  refine Ev.aload_n_1 fX1_carryOut_112 rfl ?_
  refine Ev.iconst fX1_carryOut_113 ?_
  refine Ev.cVi 19 [(0, 0)] [(1, 1)] fX1_carryOut_114 lkX1_carryOut_30 2 TX2 5 rfl rfl rfl (eX2_number ⟨by decide, by decide⟩) ?_
  refine Ev.cVi 1 [(0, (nf 0))] [] fX1_carryOut_117 lkX1_carryOut_55 1 TX1 3 rfl rfl rfl hE ?_
  exact Ev.zI fX1_carryOut_120 rfl rfl
theorem eX2_readCommand_p {G : zG} {ia : Nat → Int → Int} {w : (Nat → Int → Int) × (Nat → Int → Int)} {q b : Int} {mf : Int → Int} (D : zDI ia) (hp : 0 ≤ ia 19 2 ∧ ia 19 2 ≤ ia 19 1) (hR : zrd (zch ia) (ia 19 2) (ia 21) = (q, b, mf)) : Ev G mX2_readCommand 0 [(1, 19), (9, 0), (9, 0), (9, 0), (9, 0), (9, 0)] [] (zH ia w) (.inl (some (0, b)), zH (zDf ia q (if zfL (zch ia (ia 19 2)) = [] then ia 19 3 else zch ia (ia 19 2)) mf) w, 0, 0) := by
  have h := eX2_readCommand (G := G) (w := w) (k := ia 19 3) D hp hR
  rw [zD_id] at h
  exact h
theorem eX2_readSign_pt {G : zG} {ia : Nat → Int → Int} {w : (Nat → Int → Int) × (Nat → Int → Int)} {c : Int} (D : zDI ia) (hp : 0 ≤ ia 19 2 ∧ ia 19 2 ≤ 60) (hc : zch ia (ia 19 2) = c) : Ev G mX2_readSign 0 [(1, 19), (0, c)] [] (zH ia w) (.inl (some (0, 1)), zH (zu ia 19 2 (ia 19 2 + 1)) w, 0, 0) := by
  have h := eX2_readSign_t (G := G) (w := w) (k := ia 19 3) (nf := ia 21) D hp hc
  have e := zD_p (ia := ia) (p := ia 19 2) (k := ia 19 3) (nf := ia 21) (x := ia 19 2 + 1)
  rw [zD_id] at e
  rw [← e] at h
  rw [zD_id] at h
  exact h
theorem eX2_readSign_pf {G : zG} {ia : Nat → Int → Int} {w : (Nat → Int → Int) × (Nat → Int → Int)} {c : Int} (D : zDI ia) (hp : 0 ≤ ia 19 2 ∧ ia 19 2 ≤ 60) (hr : 0 ≤ c ∧ c ≤ 65535) (hc : zch ia (ia 19 2) ≠ c) : Ev G mX2_readSign 0 [(1, 19), (0, c)] [] (zH ia w) (.inl (some (0, 0)), zH ia w, 0, 0) := by
  have h := eX2_readSign_f (G := G) (w := w) (k := ia 19 3) (nf := ia 21) D hp hr hc
  rw [zD_id] at h
  exact h
theorem eX2_findFault_p {G : zG} {ia : Nat → Int → Int} {w : (Nat → Int → Int) × (Nat → Int → Int)} (D : zDI ia) : ∃ (p9 k9 : Int) (nf9 : Int → Int), Ev G mX2_findFault 0 [(1, 19), (9, 0)] [] (zH ia w) (.inl (some (0, zft2 (zch ia) (ia 19 1) 60 0 (ia 21))), zH (zDf ia p9 k9 nf9) w, 0, 0) := by
  obtain ⟨p9, k9, nf9, h⟩ := eX2_findFault (G := G) (w := w) (p := ia 19 2) (k := ia 19 3) (nf := ia 21) D
  rw [zD_id] at h
  exact ⟨p9, k9, nf9, h⟩
theorem eX7_commands_x0 {G : zG} {ia ja : Nat → Int → Int} {w : (Nat → Int → Int) × (Nat → Int → Int)} {f : Int} (hE : Ev G mX2_findFault 0 [(1, 19), (9, 0)] [] (zH ia w) (.inl (some (0, f)), zH ja w, 0, 0)) (hf : 0 ≤ f ∧ f ≤ 60) : Ev G mX7_commands 0 [(1, 0), (9, 0), (9, 0)] [] (zH ia w) (.inr "java/lang/IllegalArgumentException", zH (zu (zu ja 0 8 f) 19 1 0) w, 1, 6) := by
  refine Ev.aload_n_1 fX7_commands_0 rfl ?_
  refine Ev.aload_n_1 fX7_commands_1 rfl ?_
  refine Ev.gR 0 7 19 fX7_commands_2 (flX7_51 rfl) rfl rfl rfl ?_
  refine Ev.cVi 19 [] [(1, 0)] fX7_commands_5 lkX7_commands_217 2 TX2 5 rfl rfl rfl hE ?_
  refine Ev.pI 0 8 fX7_commands_8 (flX7_55 rfl) rfl rfl trivial ?_
  refine Ev.aload_n_1 fX7_commands_11 rfl ?_
  refine Ev.gI 0 8 (v := f) fX7_commands_12 (flX7_55 rfl) rfl rfl rfl ?_
  refine Ev.iconst fX7_commands_15 ?_
  refine Ev.icmp_eq fX7_commands_16 rfl ⟨by omega, by omega⟩ (by decide) (fun h16 => by exfalso; omega) (fun h16 => ?_)
  refine Ev.aload_n_1 fX7_commands_19 rfl ?_
  refine Ev.gR 0 7 19 fX7_commands_20 (flX7_51 rfl) rfl rfl rfl ?_
  refine Ev.cVv 19 [] [] fX7_commands_23 lkX7_commands_220 2 TX2 5 rfl rfl rfl eX2_clear ?_
  exact Ev.throw (pc9 := 0) 17 (thX7_151_155 rfl) fX7_commands_26 fX7_commands_29 fX7_commands_30 fX7_commands_32 fX7_commands_35 rfl rfl (by decide) (by decide)
theorem eX7_commands_in {G : zG} {ia ja : Nat → Int → Int} {w : (Nat → Int → Int) × (Nat → Int → Int)} {O : zO} (hE : Ev G mX2_findFault 0 [(1, 19), (9, 0)] [] (zH ia w) (.inl (some (0, (-1))), zH ja w, 0, 0)) (hk : 0 ≤ ja 17 1 ∧ ja 17 1 ≤ 8) (next : Ev G mX7_commands 58 [(1, 0), (0, 0), (0, 0)] [] (zH (zu (zNo (zu ja 0 8 (-1))) 19 2 0) w) O) : Ev G mX7_commands 0 [(1, 0), (9, 0), (9, 0)] [] (zH ia w) O := by
  refine Ev.aload_n_1 fX7_commands_0 rfl ?_
  refine Ev.aload_n_1 fX7_commands_1 rfl ?_
  refine Ev.gR 0 7 19 fX7_commands_2 (flX7_51 rfl) rfl rfl rfl ?_
  refine Ev.cVi 19 [] [(1, 0)] fX7_commands_5 lkX7_commands_217 2 TX2 5 rfl rfl rfl hE ?_
  refine Ev.pI 0 8 fX7_commands_8 (flX7_55 rfl) rfl rfl trivial ?_
  refine Ev.aload_n_1 fX7_commands_11 rfl ?_
  refine Ev.gI 0 8 (v := (-1)) fX7_commands_12 (flX7_55 rfl) rfl rfl rfl ?_
  refine Ev.iconst fX7_commands_15 ?_
  refine Ev.icmp_eq fX7_commands_16 rfl (by decide) (by decide) (fun h16 => ?_) (fun h16 => by exfalso; revert h16; decide)
  refine Ev.aload_n_1 fX7_commands_36 rfl ?_
  refine Ev.gR 0 6 17 fX7_commands_37 (flX7_44 rfl) rfl rfl rfl ?_
  refine Ev.aload_n_1 fX7_commands_40 rfl ?_
  refine Ev.gR 0 2 2 fX7_commands_41 (flX7_25 rfl) rfl rfl rfl ?_
  refine Ev.cVv 17 [(1, 2)] [] fX7_commands_44 lkX7_commands_66 3 TX3 2 rfl rfl rfl (eX3_note_z hk) ?_
  refine Ev.aload_n_1 fX7_commands_47 rfl ?_
  refine Ev.gR 0 7 19 fX7_commands_48 (flX7_51 rfl) rfl rfl rfl ?_
  refine Ev.cVv 19 [] [] fX7_commands_51 lkX7_commands_225 2 TX2 5 rfl rfl rfl eX2_rewind ?_
  refine Ev.iconst fX7_commands_54 ?_
  refine Ev.sistore_n [(1, 0), (0, 0), (9, 0)] fX7_commands_55 rfl rfl ?_
  refine Ev.iconst fX7_commands_56 ?_
  refine Ev.sistore_n [(1, 0), (0, 0), (0, 0)] fX7_commands_57 rfl rfl ?_
  exact next
theorem eX7_commands_end {G : zG} {ia ja : Nat → Int → Int} {w : (Nat → Int → Int) × (Nat → Int → Int)} {p1 q : Int} {mf : Int → Int} (D : zDI ia) (hp : 0 ≤ ia 19 2 ∧ ia 19 2 ≤ ia 19 1) (hR : zrd (zch ia) (ia 19 2) (ia 21) = (p1, 0, mf)) (hq : 0 ≤ q ∧ q < 60) (hj : 0 ≤ ia 17 1 ∧ ia 17 1 ≤ 8) : Ev G mX7_commands 58 [(1, 0), (0, q), (0, 0)] [] (zH ia w) (.inl (some (0, q)), zH (zKe (zu (zDf ia p1 (if zfL (zch ia (ia 19 2)) = [] then ia 19 3 else zch ia (ia 19 2)) mf) 19 1 0)) w, 0, 0) := by
  refine Ev.iload_n fX7_commands_58 rfl ?_
  refine Ev.if_ne fX7_commands_59 rfl (by decide) (fun h59 => by exfalso; revert h59; decide) (fun h59 => ?_)
  refine Ev.iload_n fX7_commands_62 rfl ?_
  refine Ev.bipush fX7_commands_63 rfl ?_
  refine Ev.icmp_ge fX7_commands_65 rfl ⟨by omega, by omega⟩ (by decide) (fun h65 => by exfalso; omega) (fun h65 => ?_)
  refine Ev.aload_n_1 fX7_commands_68 rfl ?_
  refine Ev.gR 0 7 19 fX7_commands_69 (flX7_51 rfl) rfl rfl rfl ?_
  refine Ev.cVi 19 [] [] fX7_commands_72 lkX7_commands_228 2 TX2 5 rfl rfl rfl (eX2_readCommand_p D hp hR) ?_
  refine Ev.if_eq fX7_commands_75 rfl (by decide) (fun h75 => ?_) (fun h75 => by exfalso; revert h75; decide)
  refine Ev.aload_n_1 fX7_commands_127 rfl ?_
  refine Ev.gR 0 7 19 fX7_commands_128 (flX7_51 rfl) rfl rfl rfl ?_
  refine Ev.cVv 19 [] [] fX7_commands_131 lkX7_commands_220 2 TX2 5 rfl rfl rfl eX2_clear ?_
  refine Ev.aload_n_1 fX7_commands_134 rfl ?_
  refine Ev.iload_n fX7_commands_135 rfl ?_
  refine Ev.if_eq fX7_commands_136 rfl (by decide) (fun h136 => ?_) (fun h136 => by exfalso; revert h136; decide)
  refine Ev.iload_n fX7_commands_143 rfl ?_
  refine Ev.cVi 0 [(0, q)] [] fX7_commands_144 lkX7_commands_74 7 TX7 10 rfl rfl rfl (eX7_settled_0 hj ⟨by omega, by omega⟩) ?_
  exact Ev.zI fX7_commands_147 rfl rfl
theorem eX7_commands_ok_t {G : zG} {ia ja : Nat → Int → Int} {w : (Nat → Int → Int) × (Nat → Int → Int)} {p1 q r : Int} {mf : Int → Int} {O : zO} (D : zDI ia) (hp : 0 ≤ ia 19 2 ∧ ia 19 2 ≤ ia 19 1) (hR : zrd (zch ia) (ia 19 2) (ia 21) = (p1, 1, mf)) (hE : Ev G mX1_carryOut 0 [(1, 1), (1, 19), (9, 0)] [] (zH (zDf ia p1 (if zfL (zch ia (ia 19 2)) = [] then ia 19 3 else zch ia (ia 19 2)) mf) w) (.inl (some (0, r)), zH ja w, 0, 0)) (D2 : zDI ja) (hp2 : 0 ≤ ja 19 2 ∧ ja 19 2 ≤ 60) (hr : 0 ≤ r ∧ r ≤ 2147483647) (hq : 0 ≤ q ∧ q < 60) (hc : zch ja (ja 19 2) = 59) (next : Ev G mX7_commands 58 [(1, 0), (0, (q + 1)), (0, 0)] [] (zH (zu ja 19 2 (ja 19 2 + 1)) w) O) : Ev G mX7_commands 58 [(1, 0), (0, q), (0, 0)] [] (zH ia w) O := by
  refine Ev.iload_n fX7_commands_58 rfl ?_
  refine Ev.if_ne fX7_commands_59 rfl (by decide) (fun h59 => by exfalso; revert h59; decide) (fun h59 => ?_)
  refine Ev.iload_n fX7_commands_62 rfl ?_
  refine Ev.bipush fX7_commands_63 rfl ?_
  refine Ev.icmp_ge fX7_commands_65 rfl ⟨by omega, by omega⟩ (by decide) (fun h65 => by exfalso; omega) (fun h65 => ?_)
  refine Ev.aload_n_1 fX7_commands_68 rfl ?_
  refine Ev.gR 0 7 19 fX7_commands_69 (flX7_51 rfl) rfl rfl rfl ?_
  refine Ev.cVi 19 [] [] fX7_commands_72 lkX7_commands_228 2 TX2 5 rfl rfl rfl (eX2_readCommand_p D hp hR) ?_
  refine Ev.if_eq fX7_commands_75 rfl (by decide) (fun h75 => by exfalso; revert h75; decide) (fun h75 => ?_)
  refine Ev.aload_n_1 fX7_commands_78 rfl ?_
  refine Ev.gR 0 0 1 fX7_commands_79 (flX7_10 rfl) rfl rfl rfl ?_
  refine Ev.aload_n_1 fX7_commands_82 rfl ?_
  refine Ev.gR 0 7 19 fX7_commands_83 (flX7_51 rfl) rfl rfl rfl ?_
  refine Ev.cVi 1 [(1, 19)] [] fX7_commands_86 lkX7_commands_231 1 TX1 3 rfl rfl rfl hE ?_
  refine Ev.iconst fX7_commands_89 ?_
  refine Ev.icmp_ne fX7_commands_90 rfl ⟨by omega, by omega⟩ (by decide) (fun h90 => ?_) (fun h90 => by exfalso; omega)
  refine Ev.iconst fX7_commands_97 ?_
  refine Ev.sistore_n [(1, 0), (0, q), (0, 0)] fX7_commands_98 rfl rfl ?_
  refine Ev.iload_n fX7_commands_99 rfl ?_
  refine Ev.if_eq fX7_commands_100 rfl (by decide) (fun h100 => ?_) (fun h100 => by exfalso; revert h100; decide)
  refine Ev.aload_n_1 fX7_commands_111 rfl ?_
  refine Ev.gR 0 7 19 fX7_commands_112 (flX7_51 rfl) rfl rfl rfl ?_
  refine Ev.bipush fX7_commands_115 rfl ?_
  refine Ev.cVi 19 [(0, 59)] [] fX7_commands_117 lkX7_commands_240 2 TX2 5 rfl rfl rfl (eX2_readSign_pt D2 hp2 hc) ?_
  refine Ev.pop fX7_commands_120 rfl ?_
  refine Ev.siinc [(1, 0), (0, (q + 1)), (0, 0)] fX7_commands_121 rfl rfl rfl ?_
  refine Ev.goto fX7_commands_124 rfl ?_
  exact next
theorem eX7_commands_ok_f {G : zG} {ia ja : Nat → Int → Int} {w : (Nat → Int → Int) × (Nat → Int → Int)} {p1 q r : Int} {mf : Int → Int} {O : zO} (D : zDI ia) (hp : 0 ≤ ia 19 2 ∧ ia 19 2 ≤ ia 19 1) (hR : zrd (zch ia) (ia 19 2) (ia 21) = (p1, 1, mf)) (hE : Ev G mX1_carryOut 0 [(1, 1), (1, 19), (9, 0)] [] (zH (zDf ia p1 (if zfL (zch ia (ia 19 2)) = [] then ia 19 3 else zch ia (ia 19 2)) mf) w) (.inl (some (0, r)), zH ja w, 0, 0)) (D2 : zDI ja) (hp2 : 0 ≤ ja 19 2 ∧ ja 19 2 ≤ 60) (hr : 0 ≤ r ∧ r ≤ 2147483647) (hq : 0 ≤ q ∧ q < 60) (hc : zch ja (ja 19 2) ≠ 59) (next : Ev G mX7_commands 58 [(1, 0), (0, (q + 1)), (0, 0)] [] (zH ja w) O) : Ev G mX7_commands 58 [(1, 0), (0, q), (0, 0)] [] (zH ia w) O := by
  refine Ev.iload_n fX7_commands_58 rfl ?_
  refine Ev.if_ne fX7_commands_59 rfl (by decide) (fun h59 => by exfalso; revert h59; decide) (fun h59 => ?_)
  refine Ev.iload_n fX7_commands_62 rfl ?_
  refine Ev.bipush fX7_commands_63 rfl ?_
  refine Ev.icmp_ge fX7_commands_65 rfl ⟨by omega, by omega⟩ (by decide) (fun h65 => by exfalso; omega) (fun h65 => ?_)
  refine Ev.aload_n_1 fX7_commands_68 rfl ?_
  refine Ev.gR 0 7 19 fX7_commands_69 (flX7_51 rfl) rfl rfl rfl ?_
  refine Ev.cVi 19 [] [] fX7_commands_72 lkX7_commands_228 2 TX2 5 rfl rfl rfl (eX2_readCommand_p D hp hR) ?_
  refine Ev.if_eq fX7_commands_75 rfl (by decide) (fun h75 => by exfalso; revert h75; decide) (fun h75 => ?_)
  refine Ev.aload_n_1 fX7_commands_78 rfl ?_
  refine Ev.gR 0 0 1 fX7_commands_79 (flX7_10 rfl) rfl rfl rfl ?_
  refine Ev.aload_n_1 fX7_commands_82 rfl ?_
  refine Ev.gR 0 7 19 fX7_commands_83 (flX7_51 rfl) rfl rfl rfl ?_
  refine Ev.cVi 1 [(1, 19)] [] fX7_commands_86 lkX7_commands_231 1 TX1 3 rfl rfl rfl hE ?_
  refine Ev.iconst fX7_commands_89 ?_
  refine Ev.icmp_ne fX7_commands_90 rfl ⟨by omega, by omega⟩ (by decide) (fun h90 => ?_) (fun h90 => by exfalso; omega)
  refine Ev.iconst fX7_commands_97 ?_
  refine Ev.sistore_n [(1, 0), (0, q), (0, 0)] fX7_commands_98 rfl rfl ?_
  refine Ev.iload_n fX7_commands_99 rfl ?_
  refine Ev.if_eq fX7_commands_100 rfl (by decide) (fun h100 => ?_) (fun h100 => by exfalso; revert h100; decide)
  refine Ev.aload_n_1 fX7_commands_111 rfl ?_
  refine Ev.gR 0 7 19 fX7_commands_112 (flX7_51 rfl) rfl rfl rfl ?_
  refine Ev.bipush fX7_commands_115 rfl ?_
  refine Ev.cVi 19 [(0, 59)] [] fX7_commands_117 lkX7_commands_240 2 TX2 5 rfl rfl rfl (eX2_readSign_pf D2 hp2 (by decide) hc) ?_
  refine Ev.pop fX7_commands_120 rfl ?_
  refine Ev.siinc [(1, 0), (0, (q + 1)), (0, 0)] fX7_commands_121 rfl rfl rfl ?_
  refine Ev.goto fX7_commands_124 rfl ?_
  exact next
theorem eX7_commands_ref_t {G : zG} {ia ja : Nat → Int → Int} {w : (Nat → Int → Int) × (Nat → Int → Int)} {p1 q : Int} {mf : Int → Int} (D : zDI ia) (hp : 0 ≤ ia 19 2 ∧ ia 19 2 ≤ ia 19 1) (hR : zrd (zch ia) (ia 19 2) (ia 21) = (p1, 1, mf)) (hE : Ev G mX1_carryOut 0 [(1, 1), (1, 19), (9, 0)] [] (zH (zDf ia p1 (if zfL (zch ia (ia 19 2)) = [] then ia 19 3 else zch ia (ia 19 2)) mf) w) (.inl (some (0, (-1))), zH ja w, 0, 0)) (D2 : zDI ja) (hp2 : 0 ≤ ja 19 2 ∧ ja 19 2 ≤ 60) (hq : 0 ≤ q ∧ q < 60) (hc : zch ja (ja 19 2) = 59) (ht : zTb (zu (zu (zu ja 9 2 q) 19 2 (ja 19 2 + 1)) 19 1 0)) : Ev G mX7_commands 58 [(1, 0), (0, q), (0, 0)] [] (zH ia w) (.inr "java/lang/UnsupportedOperationException", zH (zBa (zu (zu (zu ja 9 2 q) 19 2 (ja 19 2 + 1)) 19 1 0)) w, 1, 6) := by
  refine Ev.iload_n fX7_commands_58 rfl ?_
  refine Ev.if_ne fX7_commands_59 rfl (by decide) (fun h59 => by exfalso; revert h59; decide) (fun h59 => ?_)
  refine Ev.iload_n fX7_commands_62 rfl ?_
  refine Ev.bipush fX7_commands_63 rfl ?_
  refine Ev.icmp_ge fX7_commands_65 rfl ⟨by omega, by omega⟩ (by decide) (fun h65 => by exfalso; omega) (fun h65 => ?_)
  refine Ev.aload_n_1 fX7_commands_68 rfl ?_
  refine Ev.gR 0 7 19 fX7_commands_69 (flX7_51 rfl) rfl rfl rfl ?_
  refine Ev.cVi 19 [] [] fX7_commands_72 lkX7_commands_228 2 TX2 5 rfl rfl rfl (eX2_readCommand_p D hp hR) ?_
  refine Ev.if_eq fX7_commands_75 rfl (by decide) (fun h75 => by exfalso; revert h75; decide) (fun h75 => ?_)
  refine Ev.aload_n_1 fX7_commands_78 rfl ?_
  refine Ev.gR 0 0 1 fX7_commands_79 (flX7_10 rfl) rfl rfl rfl ?_
  refine Ev.aload_n_1 fX7_commands_82 rfl ?_
  refine Ev.gR 0 7 19 fX7_commands_83 (flX7_51 rfl) rfl rfl rfl ?_
  refine Ev.cVi 1 [(1, 19)] [] fX7_commands_86 lkX7_commands_231 1 TX1 3 rfl rfl rfl hE ?_
  refine Ev.iconst fX7_commands_89 ?_
  refine Ev.icmp_ne fX7_commands_90 rfl (by decide) (by decide) (fun h90 => by exfalso; revert h90; decide) (fun h90 => ?_)
  refine Ev.iconst fX7_commands_93 ?_
  refine Ev.goto fX7_commands_94 rfl ?_
  refine Ev.sistore_n [(1, 0), (0, q), (0, 1)] fX7_commands_98 rfl rfl ?_
  refine Ev.iload_n fX7_commands_99 rfl ?_
  refine Ev.if_eq fX7_commands_100 rfl (by decide) (fun h100 => by exfalso; revert h100; decide) (fun h100 => ?_)
  refine Ev.aload_n_1 fX7_commands_103 rfl ?_
  refine Ev.gR 0 1 9 fX7_commands_104 (flX7_20 rfl) rfl rfl rfl ?_
  refine Ev.iload_n fX7_commands_107 rfl ?_
  refine Ev.pI 9 2 fX7_commands_108 (flX7_235 rfl) rfl rfl trivial ?_
  refine Ev.aload_n_1 fX7_commands_111 rfl ?_
  refine Ev.gR 0 7 19 fX7_commands_112 (flX7_51 rfl) rfl rfl rfl ?_
  refine Ev.bipush fX7_commands_115 rfl ?_
  refine Ev.cVi 19 [(0, 59)] [] fX7_commands_117 lkX7_commands_240 2 TX2 5 rfl rfl rfl (eX2_readSign_pt (ia := (zu ja 9 2 q)) D2 hp2 hc) ?_
  refine Ev.pop fX7_commands_120 rfl ?_
  refine Ev.siinc [(1, 0), (0, (q + 1)), (0, 1)] fX7_commands_121 rfl rfl rfl ?_
  refine Ev.goto fX7_commands_124 rfl ?_
  refine Ev.iload_n fX7_commands_58 rfl ?_
  refine Ev.if_ne fX7_commands_59 rfl (by decide) (fun h59_2 => ?_) (fun h59_2 => by exfalso; revert h59_2; decide)
  refine Ev.aload_n_1 fX7_commands_127 rfl ?_
  refine Ev.gR 0 7 19 fX7_commands_128 (flX7_51 rfl) rfl rfl rfl ?_
  refine Ev.cVv 19 [] [] fX7_commands_131 lkX7_commands_220 2 TX2 5 rfl rfl rfl eX2_clear ?_
  refine Ev.aload_n_1 fX7_commands_134 rfl ?_
  refine Ev.iload_n fX7_commands_135 rfl ?_
  refine Ev.if_eq fX7_commands_136 rfl (by decide) (fun h136 => by exfalso; revert h136; decide) (fun h136 => ?_)
  refine Ev.iconst fX7_commands_139 ?_
  refine Ev.goto fX7_commands_140 rfl ?_
  exact Ev.xV 0 [(0, (-1))] [] fX7_commands_144 lkX7_commands_74 7 TX7 10 rfl rfl rfl rfl (eX7_settled_x ht)
theorem eX7_commands_ref_f {G : zG} {ia ja : Nat → Int → Int} {w : (Nat → Int → Int) × (Nat → Int → Int)} {p1 q : Int} {mf : Int → Int} (D : zDI ia) (hp : 0 ≤ ia 19 2 ∧ ia 19 2 ≤ ia 19 1) (hR : zrd (zch ia) (ia 19 2) (ia 21) = (p1, 1, mf)) (hE : Ev G mX1_carryOut 0 [(1, 1), (1, 19), (9, 0)] [] (zH (zDf ia p1 (if zfL (zch ia (ia 19 2)) = [] then ia 19 3 else zch ia (ia 19 2)) mf) w) (.inl (some (0, (-1))), zH ja w, 0, 0)) (D2 : zDI ja) (hp2 : 0 ≤ ja 19 2 ∧ ja 19 2 ≤ 60) (hq : 0 ≤ q ∧ q < 60) (hc : zch ja (ja 19 2) ≠ 59) (ht : zTb (zu (zu ja 9 2 q) 19 1 0)) : Ev G mX7_commands 58 [(1, 0), (0, q), (0, 0)] [] (zH ia w) (.inr "java/lang/UnsupportedOperationException", zH (zBa (zu (zu ja 9 2 q) 19 1 0)) w, 1, 6) := by
  refine Ev.iload_n fX7_commands_58 rfl ?_
  refine Ev.if_ne fX7_commands_59 rfl (by decide) (fun h59 => by exfalso; revert h59; decide) (fun h59 => ?_)
  refine Ev.iload_n fX7_commands_62 rfl ?_
  refine Ev.bipush fX7_commands_63 rfl ?_
  refine Ev.icmp_ge fX7_commands_65 rfl ⟨by omega, by omega⟩ (by decide) (fun h65 => by exfalso; omega) (fun h65 => ?_)
  refine Ev.aload_n_1 fX7_commands_68 rfl ?_
  refine Ev.gR 0 7 19 fX7_commands_69 (flX7_51 rfl) rfl rfl rfl ?_
  refine Ev.cVi 19 [] [] fX7_commands_72 lkX7_commands_228 2 TX2 5 rfl rfl rfl (eX2_readCommand_p D hp hR) ?_
  refine Ev.if_eq fX7_commands_75 rfl (by decide) (fun h75 => by exfalso; revert h75; decide) (fun h75 => ?_)
  refine Ev.aload_n_1 fX7_commands_78 rfl ?_
  refine Ev.gR 0 0 1 fX7_commands_79 (flX7_10 rfl) rfl rfl rfl ?_
  refine Ev.aload_n_1 fX7_commands_82 rfl ?_
  refine Ev.gR 0 7 19 fX7_commands_83 (flX7_51 rfl) rfl rfl rfl ?_
  refine Ev.cVi 1 [(1, 19)] [] fX7_commands_86 lkX7_commands_231 1 TX1 3 rfl rfl rfl hE ?_
  refine Ev.iconst fX7_commands_89 ?_
  refine Ev.icmp_ne fX7_commands_90 rfl (by decide) (by decide) (fun h90 => by exfalso; revert h90; decide) (fun h90 => ?_)
  refine Ev.iconst fX7_commands_93 ?_
  refine Ev.goto fX7_commands_94 rfl ?_
  refine Ev.sistore_n [(1, 0), (0, q), (0, 1)] fX7_commands_98 rfl rfl ?_
  refine Ev.iload_n fX7_commands_99 rfl ?_
  refine Ev.if_eq fX7_commands_100 rfl (by decide) (fun h100 => by exfalso; revert h100; decide) (fun h100 => ?_)
  refine Ev.aload_n_1 fX7_commands_103 rfl ?_
  refine Ev.gR 0 1 9 fX7_commands_104 (flX7_20 rfl) rfl rfl rfl ?_
  refine Ev.iload_n fX7_commands_107 rfl ?_
  refine Ev.pI 9 2 fX7_commands_108 (flX7_235 rfl) rfl rfl trivial ?_
  refine Ev.aload_n_1 fX7_commands_111 rfl ?_
  refine Ev.gR 0 7 19 fX7_commands_112 (flX7_51 rfl) rfl rfl rfl ?_
  refine Ev.bipush fX7_commands_115 rfl ?_
  refine Ev.cVi 19 [(0, 59)] [] fX7_commands_117 lkX7_commands_240 2 TX2 5 rfl rfl rfl (eX2_readSign_pf (ia := (zu ja 9 2 q)) D2 hp2 (by decide) hc) ?_
  refine Ev.pop fX7_commands_120 rfl ?_
  refine Ev.siinc [(1, 0), (0, (q + 1)), (0, 1)] fX7_commands_121 rfl rfl rfl ?_
  refine Ev.goto fX7_commands_124 rfl ?_
  refine Ev.iload_n fX7_commands_58 rfl ?_
  refine Ev.if_ne fX7_commands_59 rfl (by decide) (fun h59_2 => ?_) (fun h59_2 => by exfalso; revert h59_2; decide)
  refine Ev.aload_n_1 fX7_commands_127 rfl ?_
  refine Ev.gR 0 7 19 fX7_commands_128 (flX7_51 rfl) rfl rfl rfl ?_
  refine Ev.cVv 19 [] [] fX7_commands_131 lkX7_commands_220 2 TX2 5 rfl rfl rfl eX2_clear ?_
  refine Ev.aload_n_1 fX7_commands_134 rfl ?_
  refine Ev.iload_n fX7_commands_135 rfl ?_
  refine Ev.if_eq fX7_commands_136 rfl (by decide) (fun h136 => by exfalso; revert h136; decide) (fun h136 => ?_)
  refine Ev.iconst fX7_commands_139 ?_
  refine Ev.goto fX7_commands_140 rfl ?_
  exact Ev.xV 0 [(0, (-1))] [] fX7_commands_144 lkX7_commands_74 7 TX7 10 rfl rfl rfl rfl (eX7_settled_x ht)
