/-! THE MODEL: GREATEST ONES, FIRST ONES (printed by wip/whole/gen/mod5.py) -/
theorem zmx_step {A : Int → Int} {lo k b : Int} (hk : lo < k) (hb : b = zmx A lo (k - 1 - lo).toNat) : zmx A lo (k + 1 - 1 - lo).toNat = if A b < A k then k else b := by
  rw [show (k + 1 - 1 - lo).toNat = (k - 1 - lo).toNat + 1 by omega, zmx_s, ← hb, show lo + (((k - 1 - lo).toNat : Nat) + 1 : Int) = k by omega]
theorem zmx_fst {A : Int → Int} {lo : Int} : zmx A lo (lo + 1 - 1 - lo).toNat = lo := by
  rw [show (lo + 1 - 1 - lo).toNat = 0 by omega]
  rfl
theorem zsum_upto {A : Int → Int} {k : Int} (h0 : 0 ≤ k) (h1 : k < 16) : zsum (fun j => if 0 ≤ j ∧ j ≤ k then A j else 0) 16 = zsum A (k + 1) := by
  rw [zsum_cut (a := k + 1) (by omega) (by omega) (fun j h2 h3 => if_neg (by omega))]
  exact zsum_congr (fun j h2 h3 => if_pos ⟨h2, by omega⟩)
/-- the whole of a version is the sum of its lines -/
def zTS (ja : Nat → Int → Int) : Prop := ∀ v : Int, 0 ≤ v → v < ja 3 0 → zsum (fun j => if 0 ≤ j ∧ j ≤ 15 then zTo ja v (15 + j) else 0) 16 = zTo ja v 0
theorem eX8_most_c1 {G : zG} {ia ja : Nat → Int → Int} {w : (Nat → Int → Int) × (Nat → Int → Int)} {v first last : Int} (H : zRw ja (ia 25)) (hrv : -2147483648 ≤ v ∧ v ≤ 2147483647) (hrfirst : -2147483648 ≤ first ∧ first ≤ 2147483647) (hrlast : -2147483648 ≤ last ∧ last ≤ 2147483647) (hx : ¬ (0 ≤ v ∧ v < ja 3 0)) : Ev G mX8_most 0 [(1, 24), (0, v), (0, first), (0, last), (9, 0), (9, 0)] [] (zH ia w) (.inl (some (0, 0)), zH (zu ia 24 8 1) w, 0, 0) := by
  have I := H.1
  have hn := I.1
  refine Ev.aload_n_1 fX8_most_0 rfl ?_
  refine Ev.aload_n_1 fX8_most_1 rfl ?_
  refine Ev.iload_n fX8_most_2 rfl ?_
  refine Ev.cVi 24 [(0, v)] [(1, 24)] fX8_most_3 lkX8_most_104 8 TX8 22 rfl rfl rfl (eX8_isVersion_f H ⟨by omega, by omega⟩ (by omega)) ?_
  refine Ev.if_ne fX8_most_6 rfl (by decide) (fun h6 => by exfalso; revert h6; decide) (fun h6 => ?_)
  refine Ev.iconst fX8_most_9 ?_
  refine Ev.goto fX8_most_10 rfl ?_
  refine Ev.cVi 24 [(0, 1)] [] fX8_most_26 lkX8_most_117 8 TX8 22 rfl rfl rfl eX8_fails_1 ?_
  refine Ev.if_eq fX8_most_29 rfl (by decide) (fun h29 => by exfalso; revert h29; decide) (fun h29 => ?_)
  refine Ev.iconst fX8_most_32 ?_
  exact Ev.zI fX8_most_33 rfl rfl
theorem eX8_most_c2 {G : zG} {ia ja : Nat → Int → Int} {w : (Nat → Int → Int) × (Nat → Int → Int)} {v first last : Int} (H : zRw ja (ia 25)) (hrv : -2147483648 ≤ v ∧ v ≤ 2147483647) (hrfirst : -2147483648 ≤ first ∧ first ≤ 2147483647) (hrlast : -2147483648 ≤ last ∧ last ≤ 2147483647) (hc0 : 0 ≤ v ∧ v < ja 3 0) (hx : ¬ (0 ≤ first ∧ first ≤ last ∧ last < 16)) : Ev G mX8_most 0 [(1, 24), (0, v), (0, first), (0, last), (9, 0), (9, 0)] [] (zH ia w) (.inl (some (0, 0)), zH (zu ia 24 8 2) w, 0, 0) := by
  have I := H.1
  have hn := I.1
  refine Ev.aload_n_1 fX8_most_0 rfl ?_
  refine Ev.aload_n_1 fX8_most_1 rfl ?_
  refine Ev.iload_n fX8_most_2 rfl ?_
  refine Ev.cVi 24 [(0, v)] [(1, 24)] fX8_most_3 lkX8_most_104 8 TX8 22 rfl rfl rfl (eX8_isVersion_t H ⟨by omega, by omega⟩) ?_
  refine Ev.if_ne fX8_most_6 rfl (by decide) (fun h6 => ?_) (fun h6 => by exfalso; revert h6; decide)
  refine Ev.iload_n fX8_most_13 rfl ?_
  refine Ev.iload_n fX8_most_14 rfl ?_
  refine Ev.cSi [(0, first), (0, last)] [(1, 24)] fX8_most_15 lkX8_most_120 rfl (eX8_areLines_f ⟨by omega, by omega⟩ ⟨by omega, by omega⟩ (by omega)) ?_
  refine Ev.if_eq fX8_most_18 rfl (by decide) (fun h18 => ?_) (fun h18 => by exfalso; revert h18; decide)
  refine Ev.iconst fX8_most_25 ?_
  refine Ev.cVi 24 [(0, 2)] [] fX8_most_26 lkX8_most_117 8 TX8 22 rfl rfl rfl eX8_fails_2 ?_
  refine Ev.if_eq fX8_most_29 rfl (by decide) (fun h29 => by exfalso; revert h29; decide) (fun h29 => ?_)
  refine Ev.iconst fX8_most_32 ?_
  exact Ev.zI fX8_most_33 rfl rfl
theorem eX8_most_0_L {G : zG} {ia ja : Nat → Int → Int} {w : (Nat → Int → Int) × (Nat → Int → Int)} {v first last : Int} (H : zRw ja (ia 25)) (hv : 0 ≤ v ∧ v < ja 3 0) (hf : 0 ≤ first ∧ first ≤ last ∧ last < 16) : ∀ (n : Nat) (k b : Int), (16 - k < n) → (first ≤ k) → (k ≤ last + 1) → (first ≤ b) → (b ≤ last) → (b = zmx (fun j => zTo ja v (15 + j)) first (k - 1 - first).toNat) → Ev G mX8_most 40 [(1, 24), (0, v), (0, first), (0, last), (0, b), (0, k)] [] (zH ia w) (.inl (some (0, (zmx (fun j => zTo ja v (15 + j)) first (last - first).toNat))), zH ia w, 0, 0) := by
  intro n
  induction n with
  | zero =>
    intro k b hN hk0 hk1 hb0 hb1 hb
    exact absurd hN (by omega)
  | succ n ih =>
    intro k b hN hk0 hk1 hb0 hb1 hb
    have I := H.1
    have hn := I.1
    refine Ev.iload fX8_most_40 rfl ?_
    refine Ev.iload_n fX8_most_42 rfl ?_
    refine Ev.icmp_gt fX8_most_43 rfl ⟨by omega, by omega⟩ ⟨by omega, by omega⟩ (fun h43 => ?_) (fun h43 => ?_)
    · refine Ev.iload fX8_most_73 rfl ?_
      exact Ev.zI fX8_most_75 rfl (by rw [hb, show k - 1 - first = last - first by omega])
    · refine Ev.aload_n_1 fX8_most_46 rfl ?_
      refine Ev.iload_n fX8_most_47 rfl ?_
      refine Ev.iload fX8_most_48 rfl ?_
      refine Ev.cVi 24 [(0, v), (0, k)] [] fX8_most_50 lkX8_most_90 8 TX8 22 rfl rfl rfl (eX8_amountOf H ⟨by omega, by omega⟩ ⟨by omega, by omega⟩) ?_
      refine Ev.aload_n_1 fX8_most_53 rfl ?_
      refine Ev.iload_n fX8_most_54 rfl ?_
      refine Ev.iload fX8_most_55 rfl ?_
      refine Ev.cVi 24 [(0, v), (0, b)] [(0, (zTo ja v (15 + k)))] fX8_most_57 lkX8_most_90 8 TX8 22 rfl rfl rfl (eX8_amountOf H ⟨by omega, by omega⟩ ⟨by omega, by omega⟩) ?_
      have q1 := I.to v (15 + k) (by omega) (by omega) (by omega) (by omega)
      have q2 := I.to v (15 + b) (by omega) (by omega) (by omega) (by omega)
      refine Ev.icmp_le fX8_most_60 rfl ⟨by omega, by omega⟩ ⟨by omega, by omega⟩ (fun h60 => ?_) (fun h60 => ?_)
      · refine Ev.siinc [(1, 24), (0, v), (0, first), (0, last), (0, b), (0, (k + 1))] fX8_most_67 rfl rfl rfl ?_
        refine Ev.goto fX8_most_70 rfl ?_
        rcases Int.lt_or_le first k with q9 | q9
        · exact ih (k + 1) b (by omega) (by omega) (by omega) (by omega) (by omega) (by rw [zmx_step q9 hb, if_neg (show ¬ zTo ja v (15 + b) < zTo ja v (15 + k) by omega)])
        · have e9 : k = first := by omega
          have e8 : b = first := by rw [hb, show (k - 1 - first).toNat = 0 by omega]; rfl
          exact ih (k + 1) b (by omega) (by omega) (by omega) (by omega) (by omega) (by rw [e9, zmx_fst]; exact e8)
      · refine Ev.iload fX8_most_63 rfl ?_
        refine Ev.sistore [(1, 24), (0, v), (0, first), (0, last), (0, k), (0, k)] fX8_most_65 rfl rfl ?_
        refine Ev.siinc [(1, 24), (0, v), (0, first), (0, last), (0, k), (0, (k + 1))] fX8_most_67 rfl rfl rfl ?_
        refine Ev.goto fX8_most_70 rfl ?_
        rcases Int.lt_or_le first k with q9 | q9
        · exact ih (k + 1) k (by omega) (by omega) (by omega) (by omega) (by omega) (by rw [zmx_step q9 hb, if_pos (show zTo ja v (15 + b) < zTo ja v (15 + k) by omega)])
        · have e9 : k = first := by omega
          have e8 : b = first := by rw [hb, show (k - 1 - first).toNat = 0 by omega]; rfl
          exfalso
          rw [e8, e9] at h60
          omega
theorem eX8_most_0 {G : zG} {ia ja : Nat → Int → Int} {w : (Nat → Int → Int) × (Nat → Int → Int)} {v first last : Int} (H : zRw ja (ia 25)) (hv : 0 ≤ v ∧ v < ja 3 0) (hf : 0 ≤ first ∧ first ≤ last ∧ last < 16) : Ev G mX8_most 0 [(1, 24), (0, v), (0, first), (0, last), (9, 0), (9, 0)] [] (zH ia w) (.inl (some (0, (zmx (fun j => zTo ja v (15 + j)) first (last - first).toNat))), zH (zu ia 24 8 0) w, 0, 0) := by
  have I := H.1
  have hn := I.1
  refine Ev.aload_n_1 fX8_most_0 rfl ?_
  refine Ev.aload_n_1 fX8_most_1 rfl ?_
  refine Ev.iload_n fX8_most_2 rfl ?_
  refine Ev.cVi 24 [(0, v)] [(1, 24)] fX8_most_3 lkX8_most_104 8 TX8 22 rfl rfl rfl (eX8_isVersion_t H ⟨by omega, by omega⟩) ?_
  refine Ev.if_ne fX8_most_6 rfl (by decide) (fun h6 => ?_) (fun h6 => by exfalso; revert h6; decide)
  refine Ev.iload_n fX8_most_13 rfl ?_
  refine Ev.iload_n fX8_most_14 rfl ?_
  refine Ev.cSi [(0, first), (0, last)] [(1, 24)] fX8_most_15 lkX8_most_120 rfl (eX8_areLines_t ⟨by omega, by omega, by omega⟩) ?_
  refine Ev.if_eq fX8_most_18 rfl (by decide) (fun h18 => by exfalso; revert h18; decide) (fun h18 => ?_)
  refine Ev.iconst fX8_most_21 ?_
  refine Ev.goto fX8_most_22 rfl ?_
  refine Ev.cVi 24 [(0, 0)] [] fX8_most_26 lkX8_most_117 8 TX8 22 rfl rfl rfl eX8_fails_0 ?_
  refine Ev.if_eq fX8_most_29 rfl (by decide) (fun h29 => ?_) (fun h29 => by exfalso; revert h29; decide)
  refine Ev.iload_n fX8_most_34 rfl ?_
  refine Ev.sistore [(1, 24), (0, v), (0, first), (0, last), (0, first), (9, 0)] fX8_most_35 rfl rfl ?_
  refine Ev.iload_n fX8_most_37 rfl ?_
  refine Ev.sistore [(1, 24), (0, v), (0, first), (0, last), (0, first), (0, first)] fX8_most_38 rfl rfl ?_
  exact eX8_most_0_L (ia := (zu ia 24 8 0)) H hv hf 60 first first (by omega) (by omega) (by omega) (by omega) (by omega) (by rw [show (first - 1 - first).toNat = 0 by omega]; rfl)
theorem eX8_lent_z {G : zG} {ia ja : Nat → Int → Int} {w : (Nat → Int → Int) × (Nat → Int → Int)} {v : Int} (H : zRw ja (ia 25)) (hv : 0 ≤ v ∧ v < ja 3 0) : Ev G mX8_lent 0 [(1, 24), (0, v), (9, 0), (9, 0)] [] (zH ia w) (.inl (some (0, zln ja v)), zH ia w, 0, 0) := eX8_lent H hv
theorem eX8_busiest_c1 {G : zG} {ia ja : Nat → Int → Int} {w : (Nat → Int → Int) × (Nat → Int → Int)}  (H : zRw ja (ia 25)) (hx : ja 3 0 = 1) : Ev G mX8_busiest 0 [(1, 24), (9, 0), (9, 0)] [] (zH ia w) (.inl (some (0, 0)), zH (zu ia 24 8 1) w, 0, 0) := by
  have I := H.1
  have hn := I.1
  refine Ev.aload_n_1 fX8_busiest_0 rfl ?_
  refine Ev.aload_n_1 fX8_busiest_1 rfl ?_
  refine Ev.gR 24 0 25 fX8_busiest_2 (flX8_7 rfl) rfl rfl rfl ?_
  refine Ev.iconst fX8_busiest_5 ?_
  refine Ev.ld 25 1968 (v := (ja 3 0)) fX8_busiest_6 rfl rfl (by decide) H.2.1 ?_
  refine Ev.iconst fX8_busiest_7 ?_
  refine Ev.icmp_ne fX8_busiest_8 rfl ⟨by omega, by omega⟩ (by decide) (fun h8 => by exfalso; omega) (fun h8 => ?_)
  refine Ev.iconst fX8_busiest_11 ?_
  refine Ev.goto fX8_busiest_12 rfl ?_
  refine Ev.cVi 24 [(0, 1)] [] fX8_busiest_16 lkX8_busiest_117 8 TX8 22 rfl rfl rfl eX8_fails_1 ?_
  refine Ev.if_eq fX8_busiest_19 rfl (by decide) (fun h19 => by exfalso; revert h19; decide) (fun h19 => ?_)
  refine Ev.iconst fX8_busiest_22 ?_
  exact Ev.zI fX8_busiest_23 rfl rfl
theorem eX8_busiest_0_L {G : zG} {ia ja : Nat → Int → Int} {w : (Nat → Int → Int) × (Nat → Int → Int)}  (H : zRw ja (ia 25)) (hx : 2 ≤ ja 3 0) : ∀ (n : Nat) (k b : Int), (ja 3 0 - k < n) → (2 ≤ k) → (k ≤ ja 3 0) → (1 ≤ b) → (b < k) → (b = zmx (zln ja) 1 (k - 1 - 1).toNat) → Ev G mX8_busiest 28 [(1, 24), (0, b), (0, k)] [] (zH ia w) (.inl (some (0, (zmx (zln ja) 1 (ja 3 0 - 2).toNat))), zH ia w, 0, 0) := by
  intro n
  induction n with
  | zero =>
    intro k b hN hk0 hk1 hb0 hb1 hb
    exact absurd hN (by omega)
  | succ n ih =>
    intro k b hN hk0 hk1 hb0 hb1 hb
    have I := H.1
    have hn := I.1
    refine Ev.iload_n fX8_busiest_28 rfl ?_
    refine Ev.aload_n_1 fX8_busiest_29 rfl ?_
    refine Ev.gR 24 0 25 fX8_busiest_30 (flX8_7 rfl) rfl rfl rfl ?_
    refine Ev.iconst fX8_busiest_33 ?_
    refine Ev.ld 25 1968 (v := (ja 3 0)) fX8_busiest_34 rfl rfl (by decide) H.2.1 ?_
    refine Ev.icmp_ge fX8_busiest_35 rfl ⟨by omega, by omega⟩ ⟨by omega, by omega⟩ (fun h35 => ?_) (fun h35 => ?_)
    · refine Ev.iload_n fX8_busiest_59 rfl ?_
      exact Ev.zI fX8_busiest_60 rfl (by rw [hb, show k - 1 - 1 = ja 3 0 - 2 by omega])
    · refine Ev.aload_n_1 fX8_busiest_38 rfl ?_
      refine Ev.iload_n fX8_busiest_39 rfl ?_
      refine Ev.cVi 24 [(0, k)] [] fX8_busiest_40 lkX8_busiest_149 8 TX8 22 rfl rfl rfl (eX8_lent_z H ⟨by omega, by omega⟩) ?_
      refine Ev.aload_n_1 fX8_busiest_43 rfl ?_
      refine Ev.iload_n fX8_busiest_44 rfl ?_
      refine Ev.cVi 24 [(0, b)] [(0, (zln ja k))] fX8_busiest_45 lkX8_busiest_149 8 TX8 22 rfl rfl rfl (eX8_lent_z H ⟨by omega, by omega⟩) ?_
      have q1 := zln_in (ia := ja) (v := k)
      have q2 := zln_in (ia := ja) (v := b)
      refine Ev.icmp_le fX8_busiest_48 rfl ⟨by omega, by omega⟩ ⟨by omega, by omega⟩ (fun h48 => ?_) (fun h48 => ?_)
      · refine Ev.siinc [(1, 24), (0, b), (0, (k + 1))] fX8_busiest_53 rfl rfl rfl ?_
        refine Ev.goto fX8_busiest_56 rfl ?_
        exact ih (k + 1) b (by omega) (by omega) (by omega) (by omega) (by omega) (by rw [zmx_step (by omega) hb, if_neg (by omega)])
      · refine Ev.iload_n fX8_busiest_51 rfl ?_
        refine Ev.sistore_n [(1, 24), (0, k), (0, k)] fX8_busiest_52 rfl rfl ?_
        refine Ev.siinc [(1, 24), (0, k), (0, (k + 1))] fX8_busiest_53 rfl rfl rfl ?_
        refine Ev.goto fX8_busiest_56 rfl ?_
        exact ih (k + 1) k (by omega) (by omega) (by omega) (by omega) (by omega) (by rw [zmx_step (by omega) hb, if_pos (by omega)])
theorem eX8_busiest_0 {G : zG} {ia ja : Nat → Int → Int} {w : (Nat → Int → Int) × (Nat → Int → Int)}  (H : zRw ja (ia 25)) (hx : 2 ≤ ja 3 0) : Ev G mX8_busiest 0 [(1, 24), (9, 0), (9, 0)] [] (zH ia w) (.inl (some (0, (zmx (zln ja) 1 (ja 3 0 - 2).toNat))), zH (zu ia 24 8 0) w, 0, 0) := by
  have I := H.1
  have hn := I.1
  refine Ev.aload_n_1 fX8_busiest_0 rfl ?_
  refine Ev.aload_n_1 fX8_busiest_1 rfl ?_
  refine Ev.gR 24 0 25 fX8_busiest_2 (flX8_7 rfl) rfl rfl rfl ?_
  refine Ev.iconst fX8_busiest_5 ?_
  refine Ev.ld 25 1968 (v := (ja 3 0)) fX8_busiest_6 rfl rfl (by decide) H.2.1 ?_
  refine Ev.iconst fX8_busiest_7 ?_
  refine Ev.icmp_ne fX8_busiest_8 rfl ⟨by omega, by omega⟩ (by decide) (fun h8 => ?_) (fun h8 => by exfalso; omega)
  refine Ev.iconst fX8_busiest_15 ?_
  refine Ev.cVi 24 [(0, 0)] [] fX8_busiest_16 lkX8_busiest_117 8 TX8 22 rfl rfl rfl eX8_fails_0 ?_
  refine Ev.if_eq fX8_busiest_19 rfl (by decide) (fun h19 => ?_) (fun h19 => by exfalso; revert h19; decide)
  refine Ev.iconst fX8_busiest_24 ?_
  refine Ev.sistore_n [(1, 24), (0, 1), (9, 0)] fX8_busiest_25 rfl rfl ?_
  refine Ev.iconst fX8_busiest_26 ?_
  refine Ev.sistore_n [(1, 24), (0, 1), (0, 2)] fX8_busiest_27 rfl rfl ?_
  exact eX8_busiest_0_L (ia := (zu ia 24 8 0)) H hx 60 2 1 (by omega) (by omega) (by omega) (by omega) (by omega) rfl
theorem eX8_reached_c1 {G : zG} {ia ja : Nat → Int → Int} {w : (Nat → Int → Int) × (Nat → Int → Int)} {v want : Int} (H : zRw ja (ia 25)) (hrv : -2147483648 ≤ v ∧ v ≤ 2147483647) (hrwant : -2147483648 ≤ want ∧ want ≤ 2147483647) (hx : ¬ (0 ≤ v ∧ v < ja 3 0)) : Ev G mX8_reached 0 [(1, 24), (0, v), (0, want), (9, 0)] [] (zH ia w) (.inl (some (0, 0)), zH (zu ia 24 8 1) w, 0, 0) := by
  have I := H.1
  have hn := I.1
  refine Ev.aload_n_1 fX8_reached_0 rfl ?_
  refine Ev.aload_n_1 fX8_reached_1 rfl ?_
  refine Ev.iload_n fX8_reached_2 rfl ?_
  refine Ev.cVi 24 [(0, v)] [(1, 24)] fX8_reached_3 lkX8_reached_104 8 TX8 22 rfl rfl rfl (eX8_isVersion_f H ⟨by omega, by omega⟩ (by omega)) ?_
  refine Ev.if_eq fX8_reached_6 rfl (by decide) (fun h6 => ?_) (fun h6 => by exfalso; revert h6; decide)
  refine Ev.iconst fX8_reached_13 ?_
  refine Ev.cVi 24 [(0, 1)] [] fX8_reached_14 lkX8_reached_117 8 TX8 22 rfl rfl rfl eX8_fails_1 ?_
  refine Ev.if_eq fX8_reached_17 rfl (by decide) (fun h17 => by exfalso; revert h17; decide) (fun h17 => ?_)
  refine Ev.iconst fX8_reached_20 ?_
  exact Ev.zI fX8_reached_21 rfl rfl
theorem eX8_reached_0_L {G : zG} {ia ja : Nat → Int → Int} {w : (Nat → Int → Int) × (Nat → Int → Int)} {v want r : Int} (H : zRw ja (ia 25)) (hv : 0 ≤ v ∧ v < ja 3 0) (hwt : -2147483648 ≤ want ∧ want ≤ 2147483647) (hr : zfnd (fun l => decide (want ≤ zsum (fun j => zTo ja v (15 + j)) (l + 1))) 16 0 = r) (hr0 : 0 ≤ r) : ∀ (n : Nat) (k : Int), (16 - k < n) → (0 ≤ k) → (k ≤ 16) → (zfnd (fun l => decide (want ≤ zsum (fun j => zTo ja v (15 + j)) (l + 1))) (16 - k).toNat k = r) → Ev G mX8_reached 24 [(1, 24), (0, v), (0, want), (0, k)] [] (zH ia w) (.inl (some (0, r)), zH ia w, 0, 0) := by
  intro n
  induction n with
  | zero =>
    intro k hN hk0 hk1 hz
    exact absurd hN (by omega)
  | succ n ih =>
    intro k hN hk0 hk1 hz
    have I := H.1
    have hn := I.1
    refine Ev.iload_n fX8_reached_24 rfl ?_
    refine Ev.bipush fX8_reached_25 rfl ?_
    refine Ev.icmp_ge fX8_reached_27 rfl ⟨by omega, by omega⟩ (by decide) (fun h27 => ?_) (fun h27 => ?_)
    · exact absurd (show r = -1 by rw [← hz, show (16 - k).toNat = 0 by omega]; rfl) (by omega)
    · refine Ev.aload_n_1 fX8_reached_30 rfl ?_
      refine Ev.iload_n fX8_reached_31 rfl ?_
      refine Ev.iconst fX8_reached_32 ?_
      refine Ev.iload_n fX8_reached_33 rfl ?_
      refine Ev.cVi 24 [(0, v), (0, 0), (0, k)] [] fX8_reached_34 lkX8_reached_124 8 TX8 22 rfl rfl rfl (eX8_sumOf H ⟨by omega, by omega⟩ ⟨by omega, by omega, by omega⟩) ?_
      refine Ev.iload_n fX8_reached_37 rfl ?_
      have q1 : zsum (fun j => if 0 ≤ j ∧ j ≤ k then zTo ja v (15 + j) else 0) 16 = zsum (fun j => zTo ja v (15 + j)) (k + 1) := zsum_upto (A := (fun j => zTo ja v (15 + j))) hk0 (by omega)
      have q2 := zsum_le (f := (fun j => zTo ja v (15 + j))) (m := 0) (M := 15984) (k := k + 1) (by omega) (fun j g1 g2 => I.to v (15 + j) (by omega) (by omega) (by omega) (by omega))
      refine Ev.icmp_lt fX8_reached_38 rfl ⟨by omega, by omega⟩ ⟨by omega, by omega⟩ (fun h38 => ?_) (fun h38 => ?_)
      · refine Ev.siinc [(1, 24), (0, v), (0, want), (0, (k + 1))] fX8_reached_43 rfl rfl rfl ?_
        refine Ev.goto fX8_reached_46 rfl ?_
        exact ih (k + 1) (by omega) (by omega) (by omega) (by rw [← hz, show (16 - k).toNat = (16 - (k + 1)).toNat + 1 by omega, zfnd_s, if_neg (by rw [decide_eq_true_eq]; omega)])
      · refine Ev.iload_n fX8_reached_41 rfl ?_
        exact Ev.zI fX8_reached_42 rfl (by rw [← hz, show (16 - k).toNat = (16 - (k + 1)).toNat + 1 by omega, zfnd_s, if_pos (decide_eq_true (by omega))])
theorem eX8_reached_0 {G : zG} {ia ja : Nat → Int → Int} {w : (Nat → Int → Int) × (Nat → Int → Int)} {v want r : Int} (H : zRw ja (ia 25)) (hv : 0 ≤ v ∧ v < ja 3 0) (hwt : -2147483648 ≤ want ∧ want ≤ 2147483647) (hr : zfnd (fun l => decide (want ≤ zsum (fun j => zTo ja v (15 + j)) (l + 1))) 16 0 = r) (hr0 : 0 ≤ r) : Ev G mX8_reached 0 [(1, 24), (0, v), (0, want), (9, 0)] [] (zH ia w) (.inl (some (0, r)), zH (zu ia 24 8 0) w, 0, 0) := by
  have I := H.1
  have hn := I.1
  refine Ev.aload_n_1 fX8_reached_0 rfl ?_
  refine Ev.aload_n_1 fX8_reached_1 rfl ?_
  refine Ev.iload_n fX8_reached_2 rfl ?_
  refine Ev.cVi 24 [(0, v)] [(1, 24)] fX8_reached_3 lkX8_reached_104 8 TX8 22 rfl rfl rfl (eX8_isVersion_t H ⟨by omega, by omega⟩) ?_
  refine Ev.if_eq fX8_reached_6 rfl (by decide) (fun h6 => by exfalso; revert h6; decide) (fun h6 => ?_)
  refine Ev.iconst fX8_reached_9 ?_
  refine Ev.goto fX8_reached_10 rfl ?_
  refine Ev.cVi 24 [(0, 0)] [] fX8_reached_14 lkX8_reached_117 8 TX8 22 rfl rfl rfl eX8_fails_0 ?_
  refine Ev.if_eq fX8_reached_17 rfl (by decide) (fun h17 => ?_) (fun h17 => by exfalso; revert h17; decide)
  refine Ev.iconst fX8_reached_22 ?_
  refine Ev.sistore_n [(1, 24), (0, v), (0, want), (0, 0)] fX8_reached_23 rfl rfl ?_
  exact eX8_reached_0_L (ia := (zu ia 24 8 0)) H hv hwt hr hr0 60 0 (by omega) (by omega) (by omega) hr
theorem eX8_reached_c2_L {G : zG} {ia ja : Nat → Int → Int} {w : (Nat → Int → Int) × (Nat → Int → Int)} {v want r : Int} (H : zRw ja (ia 25)) (hv : 0 ≤ v ∧ v < ja 3 0) (hwt : -2147483648 ≤ want ∧ want ≤ 2147483647) (hr : zfnd (fun l => decide (want ≤ zsum (fun j => zTo ja v (15 + j)) (l + 1))) 16 0 = r) (hr0 : r = -1) : ∀ (n : Nat) (k : Int), (16 - k < n) → (0 ≤ k) → (k ≤ 16) → (zfnd (fun l => decide (want ≤ zsum (fun j => zTo ja v (15 + j)) (l + 1))) (16 - k).toNat k = r) → Ev G mX8_reached 24 [(1, 24), (0, v), (0, want), (0, k)] [] (zH ia w) (.inl (some (0, 0)), zH (zu ia 24 8 2) w, 0, 0) := by
  intro n
  induction n with
  | zero =>
    intro k hN hk0 hk1 hz
    exact absurd hN (by omega)
  | succ n ih =>
    intro k hN hk0 hk1 hz
    have I := H.1
    have hn := I.1
    refine Ev.iload_n fX8_reached_24 rfl ?_
    refine Ev.bipush fX8_reached_25 rfl ?_
    refine Ev.icmp_ge fX8_reached_27 rfl ⟨by omega, by omega⟩ (by decide) (fun h27 => ?_) (fun h27 => ?_)
    · refine Ev.aload_n_1 fX8_reached_49 rfl ?_
      refine Ev.iconst fX8_reached_50 ?_
      refine Ev.pI 24 8 fX8_reached_51 (flX8_42 rfl) rfl rfl trivial ?_
      refine Ev.iconst fX8_reached_54 ?_
      exact Ev.zI fX8_reached_55 rfl rfl
    · refine Ev.aload_n_1 fX8_reached_30 rfl ?_
      refine Ev.iload_n fX8_reached_31 rfl ?_
      refine Ev.iconst fX8_reached_32 ?_
      refine Ev.iload_n fX8_reached_33 rfl ?_
      refine Ev.cVi 24 [(0, v), (0, 0), (0, k)] [] fX8_reached_34 lkX8_reached_124 8 TX8 22 rfl rfl rfl (eX8_sumOf H ⟨by omega, by omega⟩ ⟨by omega, by omega, by omega⟩) ?_
      refine Ev.iload_n fX8_reached_37 rfl ?_
      have q1 : zsum (fun j => if 0 ≤ j ∧ j ≤ k then zTo ja v (15 + j) else 0) 16 = zsum (fun j => zTo ja v (15 + j)) (k + 1) := zsum_upto (A := (fun j => zTo ja v (15 + j))) hk0 (by omega)
      have q2 := zsum_le (f := (fun j => zTo ja v (15 + j))) (m := 0) (M := 15984) (k := k + 1) (by omega) (fun j g1 g2 => I.to v (15 + j) (by omega) (by omega) (by omega) (by omega))
      refine Ev.icmp_lt fX8_reached_38 rfl ⟨by omega, by omega⟩ ⟨by omega, by omega⟩ (fun h38 => ?_) (fun h38 => ?_)
      · refine Ev.siinc [(1, 24), (0, v), (0, want), (0, (k + 1))] fX8_reached_43 rfl rfl rfl ?_
        refine Ev.goto fX8_reached_46 rfl ?_
        exact ih (k + 1) (by omega) (by omega) (by omega) (by rw [← hz, show (16 - k).toNat = (16 - (k + 1)).toNat + 1 by omega, zfnd_s, if_neg (by rw [decide_eq_true_eq]; omega)])
      · exact absurd (show k = r by rw [← hz, show (16 - k).toNat = (16 - (k + 1)).toNat + 1 by omega, zfnd_s, if_pos (decide_eq_true (by omega))]) (by omega)
theorem eX8_reached_c2 {G : zG} {ia ja : Nat → Int → Int} {w : (Nat → Int → Int) × (Nat → Int → Int)} {v want r : Int} (H : zRw ja (ia 25)) (hv : 0 ≤ v ∧ v < ja 3 0) (hwt : -2147483648 ≤ want ∧ want ≤ 2147483647) (hr : zfnd (fun l => decide (want ≤ zsum (fun j => zTo ja v (15 + j)) (l + 1))) 16 0 = r) (hr0 : r = -1) : Ev G mX8_reached 0 [(1, 24), (0, v), (0, want), (9, 0)] [] (zH ia w) (.inl (some (0, 0)), zH (zu (zu ia 24 8 0) 24 8 2) w, 0, 0) := by
  have I := H.1
  have hn := I.1
  refine Ev.aload_n_1 fX8_reached_0 rfl ?_
  refine Ev.aload_n_1 fX8_reached_1 rfl ?_
  refine Ev.iload_n fX8_reached_2 rfl ?_
  refine Ev.cVi 24 [(0, v)] [(1, 24)] fX8_reached_3 lkX8_reached_104 8 TX8 22 rfl rfl rfl (eX8_isVersion_t H ⟨by omega, by omega⟩) ?_
  refine Ev.if_eq fX8_reached_6 rfl (by decide) (fun h6 => by exfalso; revert h6; decide) (fun h6 => ?_)
  refine Ev.iconst fX8_reached_9 ?_
  refine Ev.goto fX8_reached_10 rfl ?_
  refine Ev.cVi 24 [(0, 0)] [] fX8_reached_14 lkX8_reached_117 8 TX8 22 rfl rfl rfl eX8_fails_0 ?_
  refine Ev.if_eq fX8_reached_17 rfl (by decide) (fun h17 => ?_) (fun h17 => by exfalso; revert h17; decide)
  refine Ev.iconst fX8_reached_22 ?_
  refine Ev.sistore_n [(1, 24), (0, v), (0, want), (0, 0)] fX8_reached_23 rfl rfl ?_
  exact eX8_reached_c2_L (ia := (zu ia 24 8 0)) H hv hwt hr hr0 60 0 (by omega) (by omega) (by omega) hr
theorem eX8_total {G : zG} {ia ja : Nat → Int → Int} {w : (Nat → Int → Int) × (Nat → Int → Int)} {v : Int} (H : zRw ja (ia 25)) (TS : zTS ja) (hv : 0 ≤ v ∧ v < ja 3 0) : Ev G mX8_sumOf 0 [(1, 24), (0, v), (0, 0), (0, 15), (9, 0), (9, 0)] [] (zH ia w) (.inl (some (0, zTo ja v 0)), zH ia w, 0, 0) := by
  have h := eX8_sumOf (G := G) (w := w) (first := 0) (last := 15) H hv ⟨by omega, by omega, by omega⟩
  rw [TS v hv.1 hv.2] at h
  exact h
theorem eX8_richest_in {G : zG} {ia ja : Nat → Int → Int} {w : (Nat → Int → Int) × (Nat → Int → Int)} {k place : Int} {O : zO} (H : zRw ja (ia 25)) (TS : zTS ja) (hk : 0 ≤ k ∧ k < ja 3 0) (next : Ev G mX8_richest 83 [(1, 24), (0, place), (0, k), (0, (zTo ja k 0)), (0, (zsum (fun j => if zTo ja k 0 < zTo ja j 0 ∨ (zTo ja j 0 = zTo ja k 0 ∧ k < j) then 1 else 0) (ja 3 0))), (9, 0), (9, 0)] [] (zH ia w) O) : ∀ (n : Nat) (q acc : Int), (ja 3 0 - q < n) → (0 ≤ q) → (q ≤ ja 3 0) → (acc = zsum (fun j => if zTo ja k 0 < zTo ja j 0 ∨ (zTo ja j 0 = zTo ja k 0 ∧ k < j) then 1 else 0) q) → Ev G mX8_richest 27 [(1, 24), (0, place), (0, k), (0, (zTo ja k 0)), (0, acc), (0, q), (9, 0)] [] (zH ia w) O := by
  intro n
  induction n with
  | zero =>
    intro q acc hN hk0 hk1 hacc
    exact absurd hN (by omega)
  | succ n ih =>
    intro q acc hN hk0 hk1 hacc
    have I := H.1
    have hn := I.1
    refine Ev.iload fX8_richest_27 rfl ?_
    refine Ev.aload_n_1 fX8_richest_29 rfl ?_
    refine Ev.gR 24 0 25 fX8_richest_30 (flX8_7 rfl) rfl rfl rfl ?_
    refine Ev.iconst fX8_richest_33 ?_
    refine Ev.ld 25 1968 (v := (ja 3 0)) fX8_richest_34 rfl rfl (by decide) H.2.1 ?_
    refine Ev.icmp_ge fX8_richest_35 rfl ⟨by omega, by omega⟩ ⟨by omega, by omega⟩ (fun h35 => ?_) (fun h35 => ?_)
    · have e9 : acc = zsum (fun j => if zTo ja k 0 < zTo ja j 0 ∨ (zTo ja j 0 = zTo ja k 0 ∧ k < j) then 1 else 0) (ja 3 0) := by rw [hacc, show q = ja 3 0 by omega]
      refine Ev.fg 5 [(1, 24), (0, place), (0, k), (0, (zTo ja k 0)), (0, acc), (9, 0), (9, 0)] rfl ?_
      rw [e9]
      exact next
    · refine Ev.aload_n_1 fX8_richest_38 rfl ?_
      refine Ev.iload fX8_richest_39 rfl ?_
      refine Ev.iconst fX8_richest_41 ?_
      refine Ev.bipush fX8_richest_42 rfl ?_
      refine Ev.cVi 24 [(0, q), (0, 0), (0, 15)] [] fX8_richest_44 lkX8_richest_124 8 TX8 22 rfl rfl rfl (eX8_total H TS ⟨by omega, by omega⟩) ?_
      refine Ev.sistore [(1, 24), (0, place), (0, k), (0, (zTo ja k 0)), (0, acc), (0, q), (0, (zTo ja q 0))] fX8_richest_47 rfl rfl ?_
      refine Ev.iload fX8_richest_49 rfl ?_
      refine Ev.iload fX8_richest_51 rfl ?_
      refine Ev.iload_n fX8_richest_53 rfl ?_
      have q1 := I.to q 0 (by omega) (by omega) (by omega) (by omega)
      have q2 := I.to k 0 (by omega) (by omega) (by omega) (by omega)
      refine Ev.icmp_gt fX8_richest_54 rfl ⟨by omega, by omega⟩ ⟨by omega, by omega⟩ (fun h54 => ?_) (fun h54 => ?_)
      · refine Ev.iconst fX8_richest_69 ?_
        refine Ev.goto fX8_richest_70 rfl ?_
        refine Ev.iadd fX8_richest_74 ?_
        refine Ev.sistore [(1, 24), (0, place), (0, k), (0, (zTo ja k 0)), (0, (acc + 1)), (0, q), (0, (zTo ja q 0))] fX8_richest_75 rfl rfl ?_
        refine Ev.siinc [(1, 24), (0, place), (0, k), (0, (zTo ja k 0)), (0, (acc + 1)), (0, (q + 1)), (0, (zTo ja q 0))] fX8_richest_77 rfl rfl rfl ?_
        refine Ev.goto fX8_richest_80 rfl ?_
        refine Ev.fg 6 [(1, 24), (0, place), (0, k), (0, (zTo ja k 0)), (0, (acc + 1)), (0, (q + 1)), (9, 0)] rfl ?_
        exact ih (q + 1) (acc + 1) (by omega) (by omega) (by omega) (by rw [zsum_s (by omega), hacc]; rw [if_pos (by omega)])
      · refine Ev.iload fX8_richest_57 rfl ?_
        refine Ev.iload_n fX8_richest_59 rfl ?_
        refine Ev.icmp_ne fX8_richest_60 rfl ⟨by omega, by omega⟩ ⟨by omega, by omega⟩ (fun h60 => ?_) (fun h60 => ?_)
        · refine Ev.iconst fX8_richest_73 ?_
          refine Ev.iadd fX8_richest_74 ?_
          refine Ev.sistore [(1, 24), (0, place), (0, k), (0, (zTo ja k 0)), (0, (acc + 0)), (0, q), (0, (zTo ja q 0))] fX8_richest_75 rfl rfl ?_
          refine Ev.siinc [(1, 24), (0, place), (0, k), (0, (zTo ja k 0)), (0, (acc + 0)), (0, (q + 1)), (0, (zTo ja q 0))] fX8_richest_77 rfl rfl rfl ?_
          refine Ev.goto fX8_richest_80 rfl ?_
          refine Ev.fg 6 [(1, 24), (0, place), (0, k), (0, (zTo ja k 0)), (0, (acc + 0)), (0, (q + 1)), (9, 0)] rfl ?_
          exact ih (q + 1) (acc + 0) (by omega) (by omega) (by omega) (by rw [zsum_s (by omega), hacc]; rw [if_neg (by omega)])
        · refine Ev.iload fX8_richest_63 rfl ?_
          refine Ev.iload_n fX8_richest_65 rfl ?_
          refine Ev.icmp_le fX8_richest_66 rfl ⟨by omega, by omega⟩ ⟨by omega, by omega⟩ (fun h66 => ?_) (fun h66 => ?_)
          · refine Ev.iconst fX8_richest_73 ?_
            refine Ev.iadd fX8_richest_74 ?_
            refine Ev.sistore [(1, 24), (0, place), (0, k), (0, (zTo ja k 0)), (0, (acc + 0)), (0, q), (0, (zTo ja q 0))] fX8_richest_75 rfl rfl ?_
            refine Ev.siinc [(1, 24), (0, place), (0, k), (0, (zTo ja k 0)), (0, (acc + 0)), (0, (q + 1)), (0, (zTo ja q 0))] fX8_richest_77 rfl rfl rfl ?_
            refine Ev.goto fX8_richest_80 rfl ?_
            refine Ev.fg 6 [(1, 24), (0, place), (0, k), (0, (zTo ja k 0)), (0, (acc + 0)), (0, (q + 1)), (9, 0)] rfl ?_
            exact ih (q + 1) (acc + 0) (by omega) (by omega) (by omega) (by rw [zsum_s (by omega), hacc]; rw [if_neg (by omega)])
          · refine Ev.iconst fX8_richest_69 ?_
            refine Ev.goto fX8_richest_70 rfl ?_
            refine Ev.iadd fX8_richest_74 ?_
            refine Ev.sistore [(1, 24), (0, place), (0, k), (0, (zTo ja k 0)), (0, (acc + 1)), (0, q), (0, (zTo ja q 0))] fX8_richest_75 rfl rfl ?_
            refine Ev.siinc [(1, 24), (0, place), (0, k), (0, (zTo ja k 0)), (0, (acc + 1)), (0, (q + 1)), (0, (zTo ja q 0))] fX8_richest_77 rfl rfl rfl ?_
            refine Ev.goto fX8_richest_80 rfl ?_
            refine Ev.fg 6 [(1, 24), (0, place), (0, k), (0, (zTo ja k 0)), (0, (acc + 1)), (0, (q + 1)), (9, 0)] rfl ?_
            exact ih (q + 1) (acc + 1) (by omega) (by omega) (by omega) (by rw [zsum_s (by omega), hacc]; rw [if_pos (by omega)])
theorem eX8_richest_0_L {G : zG} {ia ja : Nat → Int → Int} {w : (Nat → Int → Int) × (Nat → Int → Int)} {place r : Int} (H : zRw ja (ia 25)) (TS : zTS ja) (hpl : -2147483648 ≤ place ∧ place ≤ 2147483647) (hr : zfnd (fun v => decide ((zsum (fun j => if zTo ja v 0 < zTo ja j 0 ∨ (zTo ja j 0 = zTo ja v 0 ∧ v < j) then 1 else 0) (ja 3 0)) = place)) (ja 3 0).toNat 0 = r) (hr0 : 0 ≤ r) : ∀ (n : Nat) (k : Int), (ja 3 0 - k < n) → (0 ≤ k) → (k ≤ ja 3 0) → (zfnd (fun v => decide ((zsum (fun j => if zTo ja v 0 < zTo ja j 0 ∨ (zTo ja j 0 = zTo ja v 0 ∧ v < j) then 1 else 0) (ja 3 0)) = place)) (ja 3 0 - k).toNat k = r) → Ev G mX8_richest 2 [(1, 24), (0, place), (0, k), (9, 0), (9, 0), (9, 0), (9, 0)] [] (zH ia w) (.inl (some (0, r)), zH (zu ia 24 8 0) w, 0, 0) := by
  intro n
  induction n with
  | zero =>
    intro k hN hk0 hk1 hz
    exact absurd hN (by omega)
  | succ n ih =>
    intro k hN hk0 hk1 hz
    have I := H.1
    have hn := I.1
    refine Ev.iload_n fX8_richest_2 rfl ?_
    refine Ev.aload_n_1 fX8_richest_3 rfl ?_
    refine Ev.gR 24 0 25 fX8_richest_4 (flX8_7 rfl) rfl rfl rfl ?_
    refine Ev.iconst fX8_richest_7 ?_
    refine Ev.ld 25 1968 (v := (ja 3 0)) fX8_richest_8 rfl rfl (by decide) H.2.1 ?_
    refine Ev.icmp_ge fX8_richest_9 rfl ⟨by omega, by omega⟩ ⟨by omega, by omega⟩ (fun h9 => ?_) (fun h9 => ?_)
    · exact absurd (show r = -1 by rw [← hz, show (ja 3 0 - k).toNat = 0 by omega]; rfl) (by omega)
    · refine Ev.aload_n_1 fX8_richest_12 rfl ?_
      refine Ev.iload_n fX8_richest_13 rfl ?_
      refine Ev.iconst fX8_richest_14 ?_
      refine Ev.bipush fX8_richest_15 rfl ?_
      refine Ev.cVi 24 [(0, k), (0, 0), (0, 15)] [] fX8_richest_17 lkX8_richest_124 8 TX8 22 rfl rfl rfl (eX8_total H TS ⟨by omega, by omega⟩) ?_
      refine Ev.sistore_n [(1, 24), (0, place), (0, k), (0, (zTo ja k 0)), (9, 0), (9, 0), (9, 0)] fX8_richest_20 rfl rfl ?_
      refine Ev.iconst fX8_richest_21 ?_
      refine Ev.sistore [(1, 24), (0, place), (0, k), (0, (zTo ja k 0)), (0, 0), (9, 0), (9, 0)] fX8_richest_22 rfl rfl ?_
      refine Ev.iconst fX8_richest_24 ?_
      refine Ev.sistore [(1, 24), (0, place), (0, k), (0, (zTo ja k 0)), (0, 0), (0, 0), (9, 0)] fX8_richest_25 rfl rfl ?_
      refine eX8_richest_in H TS ⟨by omega, by omega⟩ ?_ 60 0 0 (by omega) (by omega) (by omega) rfl
      refine Ev.iload fX8_richest_83 rfl ?_
      refine Ev.iload_n fX8_richest_85 rfl ?_
      have hzb := zsum_le (f := (fun j => if zTo ja k 0 < zTo ja j 0 ∨ (zTo ja j 0 = zTo ja k 0 ∧ k < j) then (1 : Int) else 0)) (m := 0) (M := 1) (k := ja 3 0) (by omega) (fun j _ _ => by (try dsimp only); split <;> omega)
      refine Ev.icmp_eq fX8_richest_86 rfl ⟨by omega, by omega⟩ ⟨by omega, by omega⟩ (fun h86 => ?_) (fun h86 => ?_)
      · refine Ev.aload_n_1 fX8_richest_92 rfl ?_
        refine Ev.iconst fX8_richest_93 ?_
        refine Ev.pI 24 8 fX8_richest_94 (flX8_42 rfl) rfl rfl trivial ?_
        refine Ev.iload_n fX8_richest_97 rfl ?_
        exact Ev.zI fX8_richest_98 rfl (by rw [← hz, show (ja 3 0 - k).toNat = (ja 3 0 - (k + 1)).toNat + 1 by omega, zfnd_s, if_pos (decide_eq_true (by omega))])
      · refine Ev.goto fX8_richest_89 rfl ?_
        refine Ev.siinc [(1, 24), (0, place), (0, (k + 1)), (0, (zTo ja k 0)), (0, (zsum (fun j => if zTo ja k 0 < zTo ja j 0 ∨ (zTo ja j 0 = zTo ja k 0 ∧ k < j) then 1 else 0) (ja 3 0))), (9, 0), (9, 0)] fX8_richest_99 rfl rfl rfl ?_
        refine Ev.goto fX8_richest_102 rfl ?_
        refine Ev.fg 3 [(1, 24), (0, place), (0, (k + 1)), (9, 0), (0, (zsum (fun j => if zTo ja k 0 < zTo ja j 0 ∨ (zTo ja j 0 = zTo ja k 0 ∧ k < j) then 1 else 0) (ja 3 0))), (9, 0), (9, 0)] rfl ?_
        refine Ev.fg 4 [(1, 24), (0, place), (0, (k + 1)), (9, 0), (9, 0), (9, 0), (9, 0)] rfl ?_
        exact ih (k + 1) (by omega) (by omega) (by omega) (by rw [← hz, show (ja 3 0 - k).toNat = (ja 3 0 - (k + 1)).toNat + 1 by omega, zfnd_s, if_neg (by rw [decide_eq_true_eq]; omega)])
theorem eX8_richest_0 {G : zG} {ia ja : Nat → Int → Int} {w : (Nat → Int → Int) × (Nat → Int → Int)} {place r : Int} (H : zRw ja (ia 25)) (TS : zTS ja) (hpl : -2147483648 ≤ place ∧ place ≤ 2147483647) (hr : zfnd (fun v => decide ((zsum (fun j => if zTo ja v 0 < zTo ja j 0 ∨ (zTo ja j 0 = zTo ja v 0 ∧ v < j) then 1 else 0) (ja 3 0)) = place)) (ja 3 0).toNat 0 = r) (hr0 : 0 ≤ r) : Ev G mX8_richest 0 [(1, 24), (0, place), (9, 0), (9, 0), (9, 0), (9, 0), (9, 0)] [] (zH ia w) (.inl (some (0, r)), zH (zu ia 24 8 0) w, 0, 0) := by
  have I := H.1
  have hn := I.1
  refine Ev.iconst fX8_richest_0 ?_
  refine Ev.sistore_n [(1, 24), (0, place), (0, 0), (9, 0), (9, 0), (9, 0), (9, 0)] fX8_richest_1 rfl rfl ?_
  exact eX8_richest_0_L (ia := ia) H TS hpl hr hr0 60 0 (by omega) (by omega) (by omega) (by rw [Int.sub_zero]; exact hr)
theorem eX8_richest_c1_L {G : zG} {ia ja : Nat → Int → Int} {w : (Nat → Int → Int) × (Nat → Int → Int)} {place r : Int} (H : zRw ja (ia 25)) (TS : zTS ja) (hpl : -2147483648 ≤ place ∧ place ≤ 2147483647) (hr : zfnd (fun v => decide ((zsum (fun j => if zTo ja v 0 < zTo ja j 0 ∨ (zTo ja j 0 = zTo ja v 0 ∧ v < j) then 1 else 0) (ja 3 0)) = place)) (ja 3 0).toNat 0 = r) (hr0 : r = -1) : ∀ (n : Nat) (k : Int), (ja 3 0 - k < n) → (0 ≤ k) → (k ≤ ja 3 0) → (zfnd (fun v => decide ((zsum (fun j => if zTo ja v 0 < zTo ja j 0 ∨ (zTo ja j 0 = zTo ja v 0 ∧ v < j) then 1 else 0) (ja 3 0)) = place)) (ja 3 0 - k).toNat k = r) → Ev G mX8_richest 2 [(1, 24), (0, place), (0, k), (9, 0), (9, 0), (9, 0), (9, 0)] [] (zH ia w) (.inl (some (0, 0)), zH (zu ia 24 8 1) w, 0, 0) := by
  intro n
  induction n with
  | zero =>
    intro k hN hk0 hk1 hz
    exact absurd hN (by omega)
  | succ n ih =>
    intro k hN hk0 hk1 hz
    have I := H.1
    have hn := I.1
    refine Ev.iload_n fX8_richest_2 rfl ?_
    refine Ev.aload_n_1 fX8_richest_3 rfl ?_
    refine Ev.gR 24 0 25 fX8_richest_4 (flX8_7 rfl) rfl rfl rfl ?_
    refine Ev.iconst fX8_richest_7 ?_
    refine Ev.ld 25 1968 (v := (ja 3 0)) fX8_richest_8 rfl rfl (by decide) H.2.1 ?_
    refine Ev.icmp_ge fX8_richest_9 rfl ⟨by omega, by omega⟩ ⟨by omega, by omega⟩ (fun h9 => ?_) (fun h9 => ?_)
    · refine Ev.aload_n_1 fX8_richest_105 rfl ?_
      refine Ev.iconst fX8_richest_106 ?_
      refine Ev.pI 24 8 fX8_richest_107 (flX8_42 rfl) rfl rfl trivial ?_
      refine Ev.iconst fX8_richest_110 ?_
      exact Ev.zI fX8_richest_111 rfl rfl
    · refine Ev.aload_n_1 fX8_richest_12 rfl ?_
      refine Ev.iload_n fX8_richest_13 rfl ?_
      refine Ev.iconst fX8_richest_14 ?_
      refine Ev.bipush fX8_richest_15 rfl ?_
      refine Ev.cVi 24 [(0, k), (0, 0), (0, 15)] [] fX8_richest_17 lkX8_richest_124 8 TX8 22 rfl rfl rfl (eX8_total H TS ⟨by omega, by omega⟩) ?_
      refine Ev.sistore_n [(1, 24), (0, place), (0, k), (0, (zTo ja k 0)), (9, 0), (9, 0), (9, 0)] fX8_richest_20 rfl rfl ?_
      refine Ev.iconst fX8_richest_21 ?_
      refine Ev.sistore [(1, 24), (0, place), (0, k), (0, (zTo ja k 0)), (0, 0), (9, 0), (9, 0)] fX8_richest_22 rfl rfl ?_
      refine Ev.iconst fX8_richest_24 ?_
      refine Ev.sistore [(1, 24), (0, place), (0, k), (0, (zTo ja k 0)), (0, 0), (0, 0), (9, 0)] fX8_richest_25 rfl rfl ?_
      refine eX8_richest_in H TS ⟨by omega, by omega⟩ ?_ 60 0 0 (by omega) (by omega) (by omega) rfl
      refine Ev.iload fX8_richest_83 rfl ?_
      refine Ev.iload_n fX8_richest_85 rfl ?_
      have hzb := zsum_le (f := (fun j => if zTo ja k 0 < zTo ja j 0 ∨ (zTo ja j 0 = zTo ja k 0 ∧ k < j) then (1 : Int) else 0)) (m := 0) (M := 1) (k := ja 3 0) (by omega) (fun j _ _ => by (try dsimp only); split <;> omega)
      refine Ev.icmp_eq fX8_richest_86 rfl ⟨by omega, by omega⟩ ⟨by omega, by omega⟩ (fun h86 => ?_) (fun h86 => ?_)
      · exact absurd (show k = r by rw [← hz, show (ja 3 0 - k).toNat = (ja 3 0 - (k + 1)).toNat + 1 by omega, zfnd_s, if_pos (decide_eq_true (by omega))]) (by omega)
      · refine Ev.goto fX8_richest_89 rfl ?_
        refine Ev.siinc [(1, 24), (0, place), (0, (k + 1)), (0, (zTo ja k 0)), (0, (zsum (fun j => if zTo ja k 0 < zTo ja j 0 ∨ (zTo ja j 0 = zTo ja k 0 ∧ k < j) then 1 else 0) (ja 3 0))), (9, 0), (9, 0)] fX8_richest_99 rfl rfl rfl ?_
        refine Ev.goto fX8_richest_102 rfl ?_
        refine Ev.fg 3 [(1, 24), (0, place), (0, (k + 1)), (9, 0), (0, (zsum (fun j => if zTo ja k 0 < zTo ja j 0 ∨ (zTo ja j 0 = zTo ja k 0 ∧ k < j) then 1 else 0) (ja 3 0))), (9, 0), (9, 0)] rfl ?_
        refine Ev.fg 4 [(1, 24), (0, place), (0, (k + 1)), (9, 0), (9, 0), (9, 0), (9, 0)] rfl ?_
        exact ih (k + 1) (by omega) (by omega) (by omega) (by rw [← hz, show (ja 3 0 - k).toNat = (ja 3 0 - (k + 1)).toNat + 1 by omega, zfnd_s, if_neg (by rw [decide_eq_true_eq]; omega)])
theorem eX8_richest_c1 {G : zG} {ia ja : Nat → Int → Int} {w : (Nat → Int → Int) × (Nat → Int → Int)} {place r : Int} (H : zRw ja (ia 25)) (TS : zTS ja) (hpl : -2147483648 ≤ place ∧ place ≤ 2147483647) (hr : zfnd (fun v => decide ((zsum (fun j => if zTo ja v 0 < zTo ja j 0 ∨ (zTo ja j 0 = zTo ja v 0 ∧ v < j) then 1 else 0) (ja 3 0)) = place)) (ja 3 0).toNat 0 = r) (hr0 : r = -1) : Ev G mX8_richest 0 [(1, 24), (0, place), (9, 0), (9, 0), (9, 0), (9, 0), (9, 0)] [] (zH ia w) (.inl (some (0, 0)), zH (zu ia 24 8 1) w, 0, 0) := by
  have I := H.1
  have hn := I.1
  refine Ev.iconst fX8_richest_0 ?_
  refine Ev.sistore_n [(1, 24), (0, place), (0, 0), (9, 0), (9, 0), (9, 0), (9, 0)] fX8_richest_1 rfl rfl ?_
  exact eX8_richest_c1_L (ia := ia) H TS hpl hr hr0 60 0 (by omega) (by omega) (by omega) (by rw [Int.sub_zero]; exact hr)
