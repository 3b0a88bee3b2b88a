/-! THE MODEL: COUNTING (printed by wip/whole/gen/mod2.py) -/
theorem zsum_zero {F : Int → Int} {a : Int} (ha : 0 ≤ a) : ∀ n : Nat, (∀ j : Int, a ≤ j → j < a + n → F j = 0) → zsum F (a + n) = zsum F a
  | 0, _ => by rw [show a + ((0 : Nat) : Int) = a by omega]
  | n + 1, h => by
    rw [show a + ((n + 1 : Nat) : Int) = (a + n) + 1 by omega, zsum_s (by omega), zsum_zero ha n (fun j h1 h2 => h j h1 (by omega)), h (a + n) (by omega) (by omega)]
    omega
theorem zsum_cut {F : Int → Int} {a b : Int} (ha : 0 ≤ a) (hab : a ≤ b) (h : ∀ j : Int, a ≤ j → j < b → F j = 0) : zsum F b = zsum F a := by
  have h2 := zsum_zero (F := F) ha (b - a).toNat (fun j h1 h2 => h j h1 (by omega))
  rw [show a + (((b - a).toNat : Nat) : Int) = b by omega] at h2
  exact h2
theorem eX8_ancestors_L {G : zG} {ia ja : Nat → Int → Int} {w : (Nat → Int → Int) × (Nat → Int → Int)} {v : Int} (H : zRw ja (ia 25)) (hv : 0 ≤ v ∧ v < ja 3 0) : ∀ (n : Nat) (a c : Int), (a + 1 < n) → (0 ≤ c) → (-1 ≤ a) → (a + c < v) → (c + zanc (ja 4) 40 a = zanc (ja 4) 40 (ja 4 v)) → Ev G mX8_ancestors 9 [(1, 24), (0, v), (0, c), (0, a)] [] (zH ia w) (.inl (some (0, (zanc (ja 4) 40 (ja 4 v)))), zH ia w, 0, 0) := by
  intro n
  induction n with
  | zero =>
    intro a c hN hc0 ha0 ha1 hz
    exact absurd hN (by omega)
  | succ n ih =>
    intro a c hN hc0 ha0 ha1 hz
    have I := H.1
    have hn := I.1
    refine Ev.iload_n fX8_ancestors_9 rfl ?_
    refine Ev.if_lt fX8_ancestors_10 rfl ⟨by omega, by omega⟩ (fun h10 => ?_) (fun h10 => ?_)
    · refine Ev.iload_n fX8_ancestors_26 rfl ?_
      exact Ev.zI fX8_ancestors_27 rfl (by rw [← hz, zanc_neg (by omega)]; omega)
    · refine Ev.siinc [(1, 24), (0, v), (0, (c + 1)), (0, a)] fX8_ancestors_13 rfl rfl rfl ?_
      refine Ev.aload_n_1 fX8_ancestors_16 rfl ?_
      refine Ev.iload_n fX8_ancestors_17 rfl ?_
      refine Ev.iconst fX8_ancestors_18 ?_
      refine Ev.cVi 24 [(0, a), (0, 0)] [] fX8_ancestors_19 lkX8_ancestors_72 8 TX8 22 rfl rfl rfl (eX8_of_par H ⟨by omega, by omega⟩) ?_
      refine Ev.sistore_n [(1, 24), (0, v), (0, (c + 1)), (0, (ja 4 a))] fX8_ancestors_22 rfl rfl ?_
      refine Ev.goto fX8_ancestors_23 rfl ?_
      have hq2 := I.2.1 a (by omega) (by omega)
      rw [zanc_pos I.par (by omega) (by omega) (by omega)] at hz
      exact ih (ja 4 a) (c + 1) (by omega) (by omega) (by omega) (by omega) (by omega)
theorem eX8_ancestors {G : zG} {ia ja : Nat → Int → Int} {w : (Nat → Int → Int) × (Nat → Int → Int)} {v : Int} (H : zRw ja (ia 25)) (hv : 0 ≤ v ∧ v < ja 3 0) : Ev G mX8_ancestors 0 [(1, 24), (0, v), (9, 0), (9, 0)] [] (zH ia w) (.inl (some (0, (zanc (ja 4) 40 (ja 4 v)))), zH ia w, 0, 0) := by
  have I := H.1
  have hn := I.1
  refine Ev.iconst fX8_ancestors_0 ?_
  refine Ev.sistore_n [(1, 24), (0, v), (0, 0), (9, 0)] fX8_ancestors_1 rfl rfl ?_
  refine Ev.aload_n_1 fX8_ancestors_2 rfl ?_
  refine Ev.iload_n fX8_ancestors_3 rfl ?_
  refine Ev.iconst fX8_ancestors_4 ?_
  refine Ev.cVi 24 [(0, v), (0, 0)] [] fX8_ancestors_5 lkX8_ancestors_72 8 TX8 22 rfl rfl rfl (eX8_of_par H ⟨by omega, by omega⟩) ?_
  refine Ev.sistore_n [(1, 24), (0, v), (0, 0), (0, (ja 4 v))] fX8_ancestors_8 rfl rfl ?_
  have hq2 := I.2.1 v hv.1 hv.2
  exact eX8_ancestors_L H hv 60 (ja 4 v) 0 (by omega) (by omega) (by omega) (by omega) (by omega)
theorem eX8_children_L {G : zG} {ia ja : Nat → Int → Int} {w : (Nat → Int → Int) × (Nat → Int → Int)} {v : Int} (H : zRw ja (ia 25)) (hv : 0 ≤ v ∧ v < ja 3 0) : ∀ (n : Nat) (k acc : Int), (ja 3 0 - k < n) → (1 ≤ k) → (k ≤ ja 3 0) → (acc = zsum (fun j => if 1 ≤ j ∧ ja 4 j = v then 1 else 0) k) → Ev G mX8_children 4 [(1, 24), (0, v), (0, acc), (0, k)] [] (zH ia w) (.inl (some (0, (zsum (fun j => if 1 ≤ j ∧ ja 4 j = v then 1 else 0) (ja 3 0)))), zH ia w, 0, 0) := by
  intro n
  induction n with
  | zero =>
    intro k acc hN hk0 hk1 hacc
    exact absurd hN (by omega)
  | succ n ih =>
    intro k acc hN hk0 hk1 hacc
    have I := H.1
    have hn := I.1
    refine Ev.iload_n fX8_children_4 rfl ?_
    refine Ev.aload_n_1 fX8_children_5 rfl ?_
    refine Ev.gR 24 0 25 fX8_children_6 (flX8_7 rfl) rfl rfl rfl ?_
    refine Ev.iconst fX8_children_9 ?_
    refine Ev.ld 25 1968 (v := (ja 3 0)) fX8_children_10 rfl rfl (by decide) H.2.1 ?_
    refine Ev.icmp_ge fX8_children_11 rfl ⟨by omega, by omega⟩ ⟨by omega, by omega⟩ (fun h11 => ?_) (fun h11 => ?_)
    · refine Ev.iload_n fX8_children_38 rfl ?_
      exact Ev.zI fX8_children_39 rfl (by rw [hacc, show k = ja 3 0 by omega])
    · refine Ev.iload_n fX8_children_14 rfl ?_
      refine Ev.aload_n_1 fX8_children_15 rfl ?_
      refine Ev.iload_n fX8_children_16 rfl ?_
      refine Ev.iconst fX8_children_17 ?_
      refine Ev.cVi 24 [(0, k), (0, 0)] [(0, acc)] fX8_children_18 lkX8_children_72 8 TX8 22 rfl rfl rfl (eX8_of_par H ⟨by omega, by omega⟩) ?_
      refine Ev.iload_n fX8_children_21 rfl ?_
      have hq := I.2.1 k (by omega) (by omega)
      refine Ev.icmp_ne fX8_children_22 rfl ⟨by omega, by omega⟩ ⟨by omega, by omega⟩ (fun h22 => ?_) (fun h22 => ?_)
      · refine Ev.iconst fX8_children_29 ?_
        refine Ev.iadd fX8_children_30 ?_
        refine Ev.sistore_n [(1, 24), (0, v), (0, (acc + 0)), (0, k)] fX8_children_31 rfl rfl ?_
        refine Ev.siinc [(1, 24), (0, v), (0, (acc + 0)), (0, (k + 1))] fX8_children_32 rfl rfl rfl ?_
        refine Ev.goto fX8_children_35 rfl ?_
        exact ih (k + 1) (acc + 0) (by omega) (by omega) (by omega) (by rw [zsum_s (by omega), hacc]; rw [if_neg (by omega)])
      · refine Ev.iconst fX8_children_25 ?_
        refine Ev.goto fX8_children_26 rfl ?_
        refine Ev.iadd fX8_children_30 ?_
        refine Ev.sistore_n [(1, 24), (0, v), (0, (acc + 1)), (0, k)] fX8_children_31 rfl rfl ?_
        refine Ev.siinc [(1, 24), (0, v), (0, (acc + 1)), (0, (k + 1))] fX8_children_32 rfl rfl rfl ?_
        refine Ev.goto fX8_children_35 rfl ?_
        exact ih (k + 1) (acc + 1) (by omega) (by omega) (by omega) (by rw [zsum_s (by omega), hacc]; rw [if_pos (by omega)])
theorem eX8_children {G : zG} {ia ja : Nat → Int → Int} {w : (Nat → Int → Int) × (Nat → Int → Int)} {v : Int} (H : zRw ja (ia 25)) (hv : 0 ≤ v ∧ v < ja 3 0) : Ev G mX8_children 0 [(1, 24), (0, v), (9, 0), (9, 0)] [] (zH ia w) (.inl (some (0, (zsum (fun j => if 1 ≤ j ∧ ja 4 j = v then 1 else 0) (ja 3 0)))), zH ia w, 0, 0) := by
  have I := H.1
  have hn := I.1
  refine Ev.iconst fX8_children_0 ?_
  refine Ev.sistore_n [(1, 24), (0, v), (0, 0), (9, 0)] fX8_children_1 rfl rfl ?_
  refine Ev.iconst fX8_children_2 ?_
  refine Ev.sistore_n [(1, 24), (0, v), (0, 0), (0, 1)] fX8_children_3 rfl rfl ?_
  exact eX8_children_L H hv 2000 1 0 (by omega) (by omega) (by omega) (by rfl)
theorem eX8_made_L {G : zG} {ia ja : Nat → Int → Int} {w : (Nat → Int → Int) × (Nat → Int → Int)} {v : Int} (H : zRw ja (ia 25)) (hv : 0 ≤ v ∧ v < ja 3 0) : ∀ (n : Nat) (k acc : Int), (31 - k < n) → (0 ≤ k) → (k ≤ 31) → (acc = zsum (fun s => if ja 6 (v * 31 + s) = v then 1 else 0) k) → Ev G mX8_made 4 [(1, 24), (0, v), (0, acc), (0, k)] [] (zH ia w) (.inl (some (0, (zsum (fun s => if ja 6 (v * 31 + s) = v then 1 else 0) (31)))), zH ia w, 0, 0) := by
  intro n
  induction n with
  | zero =>
    intro k acc hN hk0 hk1 hacc
    exact absurd hN (by omega)
  | succ n ih =>
    intro k acc hN hk0 hk1 hacc
    have I := H.1
    have hn := I.1
    refine Ev.iload_n fX8_made_4 rfl ?_
    refine Ev.bipush fX8_made_5 rfl ?_
    refine Ev.icmp_ge fX8_made_7 rfl ⟨by omega, by omega⟩ (by decide) (fun h7 => ?_) (fun h7 => ?_)
    · refine Ev.iload_n fX8_made_37 rfl ?_
      exact Ev.zI fX8_made_38 rfl (by rw [hacc, show k = 31 by omega])
    · refine Ev.iload_n fX8_made_10 rfl ?_
      refine Ev.aload_n_1 fX8_made_11 rfl ?_
      refine Ev.iload_n fX8_made_12 rfl ?_
      refine Ev.bipush fX8_made_13 rfl ?_
      refine Ev.iload_n fX8_made_15 rfl ?_
      refine Ev.iadd fX8_made_16 ?_
      refine Ev.cVi 24 [(0, v), (0, (18 + k))] [(0, acc)] fX8_made_17 lkX8_made_72 8 TX8 22 rfl rfl rfl (eX8_of_mk H ⟨by omega, by omega⟩ ⟨by omega, by omega⟩) ?_
      refine Ev.iload_n fX8_made_20 rfl ?_
      have hq := I.2.2.1 v k hv.1 hv.2 (by omega) (by omega)
      refine Ev.icmp_ne fX8_made_21 rfl ⟨by omega, by omega⟩ ⟨by omega, by omega⟩ (fun h21 => ?_) (fun h21 => ?_)
      · refine Ev.iconst fX8_made_28 ?_
        refine Ev.iadd fX8_made_29 ?_
        refine Ev.sistore_n [(1, 24), (0, v), (0, (acc + 0)), (0, k)] fX8_made_30 rfl rfl ?_
        refine Ev.siinc [(1, 24), (0, v), (0, (acc + 0)), (0, (k + 1))] fX8_made_31 rfl rfl rfl ?_
        refine Ev.goto fX8_made_34 rfl ?_
        exact ih (k + 1) (acc + 0) (by omega) (by omega) (by omega) (by rw [zsum_s (by omega), hacc]; rw [if_neg (by omega)])
      · refine Ev.iconst fX8_made_24 ?_
        refine Ev.goto fX8_made_25 rfl ?_
        refine Ev.iadd fX8_made_29 ?_
        refine Ev.sistore_n [(1, 24), (0, v), (0, (acc + 1)), (0, k)] fX8_made_30 rfl rfl ?_
        refine Ev.siinc [(1, 24), (0, v), (0, (acc + 1)), (0, (k + 1))] fX8_made_31 rfl rfl rfl ?_
        refine Ev.goto fX8_made_34 rfl ?_
        exact ih (k + 1) (acc + 1) (by omega) (by omega) (by omega) (by rw [zsum_s (by omega), hacc]; rw [if_pos (by omega)])
theorem eX8_made {G : zG} {ia ja : Nat → Int → Int} {w : (Nat → Int → Int) × (Nat → Int → Int)} {v : Int} (H : zRw ja (ia 25)) (hv : 0 ≤ v ∧ v < ja 3 0) : Ev G mX8_made 0 [(1, 24), (0, v), (9, 0), (9, 0)] [] (zH ia w) (.inl (some (0, (zsum (fun s => if ja 6 (v * 31 + s) = v then 1 else 0) (31)))), zH ia w, 0, 0) := by
  have I := H.1
  have hn := I.1
  refine Ev.iconst fX8_made_0 ?_
  refine Ev.sistore_n [(1, 24), (0, v), (0, 0), (9, 0)] fX8_made_1 rfl rfl ?_
  refine Ev.iconst fX8_made_2 ?_
  refine Ev.sistore_n [(1, 24), (0, v), (0, 0), (0, 0)] fX8_made_3 rfl rfl ?_
  exact eX8_made_L H hv 2000 0 0 (by omega) (by omega) (by omega) rfl
theorem eX8_apart0_L {G : zG} {ia ja : Nat → Int → Int} {w : (Nat → Int → Int) × (Nat → Int → Int)} {one other : Int} (H : zRw ja (ia 25)) (ho : 0 ≤ one ∧ one < ja 3 0) (hp : 0 ≤ other ∧ other < ja 3 0) : ∀ (n : Nat) (k acc : Int), (16 - k < n) → (0 ≤ k) → (k ≤ 16) → (acc = zsum (fun i => if 0 ≤ i ∧ i ≤ 15 ∧ zTo ja one (15 + i) ≠ zTo ja other (15 + i) then 1 else 0) k) → Ev G mX8_apart0 5 [(1, 24), (0, one), (0, other), (0, acc), (0, k)] [] (zH ia w) (.inl (some (0, (zsum (fun i => if 0 ≤ i ∧ i ≤ 15 ∧ zTo ja one (15 + i) ≠ zTo ja other (15 + i) then 1 else 0) (16)))), zH ia w, 0, 0) := by
  intro n
  induction n with
  | zero =>
    intro k acc hN hk0 hk1 hacc
    exact absurd hN (by omega)
  | succ n ih =>
    intro k acc hN hk0 hk1 hacc
    have I := H.1
    have hn := I.1
    refine Ev.iload fX8_apart0_5 rfl ?_
    refine Ev.bipush fX8_apart0_7 rfl ?_
    refine Ev.icmp_ge fX8_apart0_9 rfl ⟨by omega, by omega⟩ (by decide) (fun h9 => ?_) (fun h9 => ?_)
    · refine Ev.iload_n fX8_apart0_43 rfl ?_
      exact Ev.zI fX8_apart0_44 rfl (by rw [hacc, show k = 16 by omega])
    · refine Ev.iload_n fX8_apart0_12 rfl ?_
      refine Ev.aload_n_1 fX8_apart0_13 rfl ?_
      refine Ev.iload_n fX8_apart0_14 rfl ?_
      refine Ev.iload fX8_apart0_15 rfl ?_
      refine Ev.cVi 24 [(0, one), (0, k)] [(0, acc)] fX8_apart0_17 lkX8_apart0_90 8 TX8 22 rfl rfl rfl (eX8_amountOf H ⟨by omega, by omega⟩ ⟨by omega, by omega⟩) ?_
      refine Ev.aload_n_1 fX8_apart0_20 rfl ?_
      refine Ev.iload_n fX8_apart0_21 rfl ?_
      refine Ev.iload fX8_apart0_22 rfl ?_
      refine Ev.cVi 24 [(0, other), (0, k)] [(0, (zTo ja one (15 + k))), (0, acc)] fX8_apart0_24 lkX8_apart0_90 8 TX8 22 rfl rfl rfl (eX8_amountOf H ⟨by omega, by omega⟩ ⟨by omega, by omega⟩) ?_
      have t1 := I.to one (15 + k) ho.1 ho.2 (by omega) (by omega)
      have t2 := I.to other (15 + k) hp.1 hp.2 (by omega) (by omega)
      refine Ev.icmp_eq fX8_apart0_27 rfl ⟨by omega, by omega⟩ ⟨by omega, by omega⟩ (fun h27 => ?_) (fun h27 => ?_)
      · refine Ev.iconst fX8_apart0_34 ?_
        refine Ev.iadd fX8_apart0_35 ?_
        refine Ev.sistore_n [(1, 24), (0, one), (0, other), (0, (acc + 0)), (0, k)] fX8_apart0_36 rfl rfl ?_
        refine Ev.siinc [(1, 24), (0, one), (0, other), (0, (acc + 0)), (0, (k + 1))] fX8_apart0_37 rfl rfl rfl ?_
        refine Ev.goto fX8_apart0_40 rfl ?_
        exact ih (k + 1) (acc + 0) (by omega) (by omega) (by omega) (by rw [zsum_s (by omega), hacc]; rw [if_neg (by omega)])
      · refine Ev.iconst fX8_apart0_30 ?_
        refine Ev.goto fX8_apart0_31 rfl ?_
        refine Ev.iadd fX8_apart0_35 ?_
        refine Ev.sistore_n [(1, 24), (0, one), (0, other), (0, (acc + 1)), (0, k)] fX8_apart0_36 rfl rfl ?_
        refine Ev.siinc [(1, 24), (0, one), (0, other), (0, (acc + 1)), (0, (k + 1))] fX8_apart0_37 rfl rfl rfl ?_
        refine Ev.goto fX8_apart0_40 rfl ?_
        exact ih (k + 1) (acc + 1) (by omega) (by omega) (by omega) (by rw [zsum_s (by omega), hacc]; rw [if_pos (by refine ⟨?_, ?_, ?_⟩ <;> omega)])
theorem eX8_apart0 {G : zG} {ia ja : Nat → Int → Int} {w : (Nat → Int → Int) × (Nat → Int → Int)} {one other : Int} (H : zRw ja (ia 25)) (ho : 0 ≤ one ∧ one < ja 3 0) (hp : 0 ≤ other ∧ other < ja 3 0) : Ev G mX8_apart0 0 [(1, 24), (0, one), (0, other), (9, 0), (9, 0)] [] (zH ia w) (.inl (some (0, (zsum (fun i => if 0 ≤ i ∧ i ≤ 15 ∧ zTo ja one (15 + i) ≠ zTo ja other (15 + i) then 1 else 0) (16)))), zH ia w, 0, 0) := by
  have I := H.1
  have hn := I.1
  refine Ev.iconst fX8_apart0_0 ?_
  refine Ev.sistore_n [(1, 24), (0, one), (0, other), (0, 0), (9, 0)] fX8_apart0_1 rfl rfl ?_
  refine Ev.iconst fX8_apart0_2 ?_
  refine Ev.sistore [(1, 24), (0, one), (0, other), (0, 0), (0, 0)] fX8_apart0_3 rfl rfl ?_
  exact eX8_apart0_L H ho hp 2000 0 0 (by omega) (by omega) (by omega) rfl
theorem eX8_houses_L {G : zG} {ia ja : Nat → Int → Int} {w : (Nat → Int → Int) × (Nat → Int → Int)} {v : Int} (H : zRw ja (ia 25)) (hv : 0 ≤ v ∧ v < ja 3 0) : ∀ (n : Nat) (k acc : Int), (4 - k < n) → (0 ≤ k) → (k ≤ 4) → (acc = zsum (fun h => if ja 8 h = v then 1 else 0) k) → Ev G mX8_houses 4 [(1, 24), (0, v), (0, acc), (0, k)] [] (zH ia w) (.inl (some (0, (zsum (fun h => if ja 8 h = v then 1 else 0) (4)))), zH ia w, 0, 0) := by
  intro n
  induction n with
  | zero =>
    intro k acc hN hk0 hk1 hacc
    exact absurd hN (by omega)
  | succ n ih =>
    intro k acc hN hk0 hk1 hacc
    have I := H.1
    have hn := I.1
    refine Ev.iload_n fX8_houses_4 rfl ?_
    refine Ev.iconst fX8_houses_5 ?_
    refine Ev.icmp_ge fX8_houses_6 rfl ⟨by omega, by omega⟩ (by decide) (fun h6 => ?_) (fun h6 => ?_)
    · refine Ev.iload_n fX8_houses_35 rfl ?_
      exact Ev.zI fX8_houses_36 rfl (by rw [hacc, show k = 4 by omega])
    · refine Ev.iload_n fX8_houses_9 rfl ?_
      refine Ev.aload_n_1 fX8_houses_10 rfl ?_
      refine Ev.gR 24 0 25 fX8_houses_11 (flX8_7 rfl) rfl rfl rfl ?_
      refine Ev.iconst fX8_houses_14 ?_
      refine Ev.iload_n fX8_houses_15 rfl ?_
      refine Ev.iadd fX8_houses_16 ?_
      refine Ev.ld 25 1968 (v := (ja 8 k)) fX8_houses_17 rfl rfl ⟨by omega, by omega⟩ (H.2.2.2.2.2.1 k (by omega) (by omega)) ?_
      have hq := I.2.2.2.2.1 k (by omega) (by omega)
      refine Ev.iload_n fX8_houses_18 rfl ?_
      refine Ev.icmp_ne fX8_houses_19 rfl ⟨by omega, by omega⟩ ⟨by omega, by omega⟩ (fun h19 => ?_) (fun h19 => ?_)
      · refine Ev.iconst fX8_houses_26 ?_
        refine Ev.iadd fX8_houses_27 ?_
        refine Ev.sistore_n [(1, 24), (0, v), (0, (acc + 0)), (0, k)] fX8_houses_28 rfl rfl ?_
        refine Ev.siinc [(1, 24), (0, v), (0, (acc + 0)), (0, (k + 1))] fX8_houses_29 rfl rfl rfl ?_
        refine Ev.goto fX8_houses_32 rfl ?_
        exact ih (k + 1) (acc + 0) (by omega) (by omega) (by omega) (by rw [zsum_s (by omega), hacc]; rw [if_neg (by omega)])
      · refine Ev.iconst fX8_houses_22 ?_
        refine Ev.goto fX8_houses_23 rfl ?_
        refine Ev.iadd fX8_houses_27 ?_
        refine Ev.sistore_n [(1, 24), (0, v), (0, (acc + 1)), (0, k)] fX8_houses_28 rfl rfl ?_
        refine Ev.siinc [(1, 24), (0, v), (0, (acc + 1)), (0, (k + 1))] fX8_houses_29 rfl rfl rfl ?_
        refine Ev.goto fX8_houses_32 rfl ?_
        exact ih (k + 1) (acc + 1) (by omega) (by omega) (by omega) (by rw [zsum_s (by omega), hacc]; rw [if_pos (by omega)])
theorem eX8_houses {G : zG} {ia ja : Nat → Int → Int} {w : (Nat → Int → Int) × (Nat → Int → Int)} {v : Int} (H : zRw ja (ia 25)) (hv : 0 ≤ v ∧ v < ja 3 0) : Ev G mX8_houses 0 [(1, 24), (0, v), (9, 0), (9, 0)] [] (zH ia w) (.inl (some (0, (zsum (fun h => if ja 8 h = v then 1 else 0) (4)))), zH ia w, 0, 0) := by
  have I := H.1
  have hn := I.1
  refine Ev.iconst fX8_houses_0 ?_
  refine Ev.sistore_n [(1, 24), (0, v), (0, 0), (9, 0)] fX8_houses_1 rfl rfl ?_
  refine Ev.iconst fX8_houses_2 ?_
  refine Ev.sistore_n [(1, 24), (0, v), (0, 0), (0, 0)] fX8_houses_3 rfl rfl ?_
  exact eX8_houses_L H hv 2000 0 0 (by omega) (by omega) (by omega) rfl
theorem eX8_usersOf_L {G : zG} {ia ja : Nat → Int → Int} {w : (Nat → Int → Int) × (Nat → Int → Int)} {u s : Int} (H : zRw ja (ia 25)) (hu : -2147483648 ≤ u ∧ u ≤ 2147483647) (hs : 0 ≤ s ∧ s < 31) : ∀ (n : Nat) (k acc : Int), (ja 3 0 - k < n) → (0 ≤ k) → (k ≤ ja 3 0) → (acc = zsum (fun j => if ja 6 (j * 31 + s) = u then 1 else 0) k) → Ev G mX8_usersOf 5 [(1, 24), (0, u), (0, s), (0, acc), (0, k)] [] (zH ia w) (.inl (some (0, (zsum (fun j => if ja 6 (j * 31 + s) = u then 1 else 0) (ja 3 0)))), zH ia w, 0, 0) := by
  intro n
  induction n with
  | zero =>
    intro k acc hN hk0 hk1 hacc
    exact absurd hN (by omega)
  | succ n ih =>
    intro k acc hN hk0 hk1 hacc
    have I := H.1
    have hn := I.1
    refine Ev.iload fX8_usersOf_5 rfl ?_
    refine Ev.aload_n_1 fX8_usersOf_7 rfl ?_
    refine Ev.gR 24 0 25 fX8_usersOf_8 (flX8_7 rfl) rfl rfl rfl ?_
    refine Ev.iconst fX8_usersOf_11 ?_
    refine Ev.ld 25 1968 (v := (ja 3 0)) fX8_usersOf_12 rfl rfl (by decide) H.2.1 ?_
    refine Ev.icmp_ge fX8_usersOf_13 rfl ⟨by omega, by omega⟩ ⟨by omega, by omega⟩ (fun h13 => ?_) (fun h13 => ?_)
    · refine Ev.iload_n fX8_usersOf_44 rfl ?_
      exact Ev.zI fX8_usersOf_45 rfl (by rw [hacc, show k = ja 3 0 by omega])
    · refine Ev.iload_n fX8_usersOf_16 rfl ?_
      refine Ev.aload_n_1 fX8_usersOf_17 rfl ?_
      refine Ev.iload fX8_usersOf_18 rfl ?_
      refine Ev.bipush fX8_usersOf_20 rfl ?_
      refine Ev.iload_n fX8_usersOf_22 rfl ?_
      refine Ev.iadd fX8_usersOf_23 ?_
      refine Ev.cVi 24 [(0, k), (0, (18 + s))] [(0, acc)] fX8_usersOf_24 lkX8_usersOf_72 8 TX8 22 rfl rfl rfl (eX8_of_mk H ⟨by omega, by omega⟩ ⟨by omega, by omega⟩) ?_
      refine Ev.iload_n fX8_usersOf_27 rfl ?_
      have hq := I.2.2.1 k s (by omega) (by omega) hs.1 hs.2
      refine Ev.icmp_ne fX8_usersOf_28 rfl ⟨by omega, by omega⟩ ⟨by omega, by omega⟩ (fun h28 => ?_) (fun h28 => ?_)
      · refine Ev.iconst fX8_usersOf_35 ?_
        refine Ev.iadd fX8_usersOf_36 ?_
        refine Ev.sistore_n [(1, 24), (0, u), (0, s), (0, (acc + 0)), (0, k)] fX8_usersOf_37 rfl rfl ?_
        refine Ev.siinc [(1, 24), (0, u), (0, s), (0, (acc + 0)), (0, (k + 1))] fX8_usersOf_38 rfl rfl rfl ?_
        refine Ev.goto fX8_usersOf_41 rfl ?_
        exact ih (k + 1) (acc + 0) (by omega) (by omega) (by omega) (by rw [zsum_s (by omega), hacc]; rw [if_neg (by omega)])
      · refine Ev.iconst fX8_usersOf_31 ?_
        refine Ev.goto fX8_usersOf_32 rfl ?_
        refine Ev.iadd fX8_usersOf_36 ?_
        refine Ev.sistore_n [(1, 24), (0, u), (0, s), (0, (acc + 1)), (0, k)] fX8_usersOf_37 rfl rfl ?_
        refine Ev.siinc [(1, 24), (0, u), (0, s), (0, (acc + 1)), (0, (k + 1))] fX8_usersOf_38 rfl rfl rfl ?_
        refine Ev.goto fX8_usersOf_41 rfl ?_
        exact ih (k + 1) (acc + 1) (by omega) (by omega) (by omega) (by rw [zsum_s (by omega), hacc]; rw [if_pos (by omega)])
theorem eX8_usersOf {G : zG} {ia ja : Nat → Int → Int} {w : (Nat → Int → Int) × (Nat → Int → Int)} {u s : Int} (H : zRw ja (ia 25)) (hu : -2147483648 ≤ u ∧ u ≤ 2147483647) (hs : 0 ≤ s ∧ s < 31) : Ev G mX8_usersOf 0 [(1, 24), (0, u), (0, s), (9, 0), (9, 0)] [] (zH ia w) (.inl (some (0, (zsum (fun j => if ja 6 (j * 31 + s) = u then 1 else 0) (ja 3 0)))), zH ia w, 0, 0) := by
  have I := H.1
  have hn := I.1
  refine Ev.iconst fX8_usersOf_0 ?_
  refine Ev.sistore_n [(1, 24), (0, u), (0, s), (0, 0), (9, 0)] fX8_usersOf_1 rfl rfl ?_
  refine Ev.iconst fX8_usersOf_2 ?_
  refine Ev.sistore [(1, 24), (0, u), (0, s), (0, 0), (0, 0)] fX8_usersOf_3 rfl rfl ?_
  exact eX8_usersOf_L H hu hs 2000 0 0 (by omega) (by omega) (by omega) rfl
theorem eX8_lent_L {G : zG} {ia ja : Nat → Int → Int} {w : (Nat → Int → Int) × (Nat → Int → Int)} {v : Int} (H : zRw ja (ia 25)) (hv : 0 ≤ v ∧ v < ja 3 0) : ∀ (n : Nat) (k acc : Int), (31 - k < n) → (0 ≤ k) → (k ≤ 31) → (acc = zsum (fun s => if ja 6 (v * 31 + s) = v ∧ 1 < (zsum (fun u => if ja 6 (u * 31 + s) = v then 1 else 0) (ja 3 0)) then 1 else 0) k) → Ev G mX8_lent 4 [(1, 24), (0, v), (0, acc), (0, k)] [] (zH ia w) (.inl (some (0, (zsum (fun s => if ja 6 (v * 31 + s) = v ∧ 1 < (zsum (fun u => if ja 6 (u * 31 + s) = v then 1 else 0) (ja 3 0)) then 1 else 0) (31)))), zH ia w, 0, 0) := by
  intro n
  induction n with
  | zero =>
    intro k acc hN hk0 hk1 hacc
    exact absurd hN (by omega)
  | succ n ih =>
    intro k acc hN hk0 hk1 hacc
    have I := H.1
    have hn := I.1
    refine Ev.iload_n fX8_lent_4 rfl ?_
    refine Ev.bipush fX8_lent_5 rfl ?_
    refine Ev.icmp_ge fX8_lent_7 rfl ⟨by omega, by omega⟩ (by decide) (fun h7 => ?_) (fun h7 => ?_)
    · refine Ev.iload_n fX8_lent_47 rfl ?_
      exact Ev.zI fX8_lent_48 rfl (by rw [hacc, show k = 31 by omega])
    · refine Ev.iload_n fX8_lent_10 rfl ?_
      refine Ev.aload_n_1 fX8_lent_11 rfl ?_
      refine Ev.iload_n fX8_lent_12 rfl ?_
      refine Ev.bipush fX8_lent_13 rfl ?_
      refine Ev.iload_n fX8_lent_15 rfl ?_
      refine Ev.iadd fX8_lent_16 ?_
      refine Ev.cVi 24 [(0, v), (0, (18 + k))] [(0, acc)] fX8_lent_17 lkX8_lent_72 8 TX8 22 rfl rfl rfl (eX8_of_mk H ⟨by omega, by omega⟩ ⟨by omega, by omega⟩) ?_
      refine Ev.iload_n fX8_lent_20 rfl ?_
      have hq := I.2.2.1 v k hv.1 hv.2 (by omega) (by omega)
      refine Ev.icmp_ne fX8_lent_21 rfl ⟨by omega, by omega⟩ ⟨by omega, by omega⟩ (fun h21 => ?_) (fun h21 => ?_)
      · refine Ev.iconst fX8_lent_38 ?_
        refine Ev.iadd fX8_lent_39 ?_
        refine Ev.sistore_n [(1, 24), (0, v), (0, (acc + 0)), (0, k)] fX8_lent_40 rfl rfl ?_
        refine Ev.siinc [(1, 24), (0, v), (0, (acc + 0)), (0, (k + 1))] fX8_lent_41 rfl rfl rfl ?_
        refine Ev.goto fX8_lent_44 rfl ?_
        exact ih (k + 1) (acc + 0) (by omega) (by omega) (by omega) (by rw [zsum_s (by omega), hacc]; rw [if_neg (by omega)])
      · refine Ev.aload_n_1 fX8_lent_24 rfl ?_
        refine Ev.iload_n fX8_lent_25 rfl ?_
        refine Ev.iload_n fX8_lent_26 rfl ?_
        refine Ev.cVi 24 [(0, v), (0, k)] [(0, acc)] fX8_lent_27 lkX8_lent_146 8 TX8 22 rfl rfl rfl (eX8_usersOf H ⟨by omega, by omega⟩ ⟨by omega, by omega⟩) ?_
        refine Ev.iconst fX8_lent_30 ?_
        have hzb := zsum_le (f := (fun j => if ja 6 (j * 31 + k) = v then (1 : Int) else 0)) (m := 0) (M := 1) (k := ja 3 0) (by omega) (fun j _ _ => by (try dsimp only); split <;> omega)
        refine Ev.icmp_le fX8_lent_31 rfl ⟨by omega, by omega⟩ (by decide) (fun h31 => ?_) (fun h31 => ?_)
        · refine Ev.iconst fX8_lent_38 ?_
          refine Ev.iadd fX8_lent_39 ?_
          refine Ev.sistore_n [(1, 24), (0, v), (0, (acc + 0)), (0, k)] fX8_lent_40 rfl rfl ?_
          refine Ev.siinc [(1, 24), (0, v), (0, (acc + 0)), (0, (k + 1))] fX8_lent_41 rfl rfl rfl ?_
          refine Ev.goto fX8_lent_44 rfl ?_
          exact ih (k + 1) (acc + 0) (by omega) (by omega) (by omega) (by rw [zsum_s (by omega), hacc]; rw [if_neg (by omega)])
        · refine Ev.iconst fX8_lent_34 ?_
          refine Ev.goto fX8_lent_35 rfl ?_
          refine Ev.iadd fX8_lent_39 ?_
          refine Ev.sistore_n [(1, 24), (0, v), (0, (acc + 1)), (0, k)] fX8_lent_40 rfl rfl ?_
          refine Ev.siinc [(1, 24), (0, v), (0, (acc + 1)), (0, (k + 1))] fX8_lent_41 rfl rfl rfl ?_
          refine Ev.goto fX8_lent_44 rfl ?_
          exact ih (k + 1) (acc + 1) (by omega) (by omega) (by omega) (by rw [zsum_s (by omega), hacc]; rw [if_pos (by omega)])
theorem eX8_lent {G : zG} {ia ja : Nat → Int → Int} {w : (Nat → Int → Int) × (Nat → Int → Int)} {v : Int} (H : zRw ja (ia 25)) (hv : 0 ≤ v ∧ v < ja 3 0) : Ev G mX8_lent 0 [(1, 24), (0, v), (9, 0), (9, 0)] [] (zH ia w) (.inl (some (0, (zsum (fun s => if ja 6 (v * 31 + s) = v ∧ 1 < (zsum (fun u => if ja 6 (u * 31 + s) = v then 1 else 0) (ja 3 0)) then 1 else 0) (31)))), zH ia w, 0, 0) := by
  have I := H.1
  have hn := I.1
  refine Ev.iconst fX8_lent_0 ?_
  refine Ev.sistore_n [(1, 24), (0, v), (0, 0), (9, 0)] fX8_lent_1 rfl rfl ?_
  refine Ev.iconst fX8_lent_2 ?_
  refine Ev.sistore_n [(1, 24), (0, v), (0, 0), (0, 0)] fX8_lent_3 rfl rfl ?_
  exact eX8_lent_L H hv 2000 0 0 (by omega) (by omega) (by omega) rfl
theorem eX8_sumOf_L {G : zG} {ia ja : Nat → Int → Int} {w : (Nat → Int → Int) × (Nat → Int → Int)} {v first last : Int} (H : zRw ja (ia 25)) (hv : 0 ≤ v ∧ v < ja 3 0) (hf : 0 ≤ first ∧ first ≤ last ∧ last < 16) : ∀ (n : Nat) (k acc : Int), (16 - k < n) → (first ≤ k) → (k ≤ last + 1) → (acc = zsum (fun j => if first ≤ j ∧ j ≤ last then zTo ja v (15 + j) else 0) k) → Ev G mX8_sumOf 6 [(1, 24), (0, v), (0, first), (0, last), (0, acc), (0, k)] [] (zH ia w) (.inl (some (0, (zsum (fun j => if first ≤ j ∧ j ≤ last then zTo ja v (15 + j) else 0) 16))), zH ia w, 0, 0) := by
  intro n
  induction n with
  | zero =>
    intro k acc hN hk0 hk1 hacc
    exact absurd hN (by omega)
  | succ n ih =>
    intro k acc hN hk0 hk1 hacc
    have I := H.1
    have hn := I.1
    refine Ev.iload fX8_sumOf_6 rfl ?_
    refine Ev.iload_n fX8_sumOf_8 rfl ?_
    refine Ev.icmp_gt fX8_sumOf_9 rfl ⟨by omega, by omega⟩ ⟨by omega, by omega⟩ (fun h9 => ?_) (fun h9 => ?_)
    · refine Ev.iload fX8_sumOf_30 rfl ?_
      exact Ev.zI fX8_sumOf_32 rfl (by rw [hacc, show k = last + 1 by omega]; exact (zsum_cut (by omega) (by omega) (fun j h1 h2 => if_neg (by omega))).symm)
    · refine Ev.iload fX8_sumOf_12 rfl ?_
      refine Ev.aload_n_1 fX8_sumOf_14 rfl ?_
      refine Ev.iload_n fX8_sumOf_15 rfl ?_
      refine Ev.iload fX8_sumOf_16 rfl ?_
      refine Ev.cVi 24 [(0, v), (0, k)] [(0, acc)] fX8_sumOf_18 lkX8_sumOf_90 8 TX8 22 rfl rfl rfl (eX8_amountOf H ⟨by omega, by omega⟩ ⟨by omega, by omega⟩) ?_
      refine Ev.iadd fX8_sumOf_21 ?_
      refine Ev.sistore [(1, 24), (0, v), (0, first), (0, last), (0, (acc + (zTo ja v (15 + k)))), (0, k)] fX8_sumOf_22 rfl rfl ?_
      refine Ev.siinc [(1, 24), (0, v), (0, first), (0, last), (0, (acc + (zTo ja v (15 + k)))), (0, (k + 1))] fX8_sumOf_24 rfl rfl rfl ?_
      refine Ev.goto fX8_sumOf_27 rfl ?_
      exact ih (k + 1) (acc + (zTo ja v (15 + k))) (by omega) (by omega) (by omega) (by rw [zsum_s (by omega), hacc, if_pos (by omega)])
theorem eX8_sumOf {G : zG} {ia ja : Nat → Int → Int} {w : (Nat → Int → Int) × (Nat → Int → Int)} {v first last : Int} (H : zRw ja (ia 25)) (hv : 0 ≤ v ∧ v < ja 3 0) (hf : 0 ≤ first ∧ first ≤ last ∧ last < 16) : Ev G mX8_sumOf 0 [(1, 24), (0, v), (0, first), (0, last), (9, 0), (9, 0)] [] (zH ia w) (.inl (some (0, (zsum (fun j => if first ≤ j ∧ j ≤ last then zTo ja v (15 + j) else 0) 16))), zH ia w, 0, 0) := by
  have I := H.1
  have hn := I.1
  refine Ev.iconst fX8_sumOf_0 ?_
  refine Ev.sistore [(1, 24), (0, v), (0, first), (0, last), (0, 0), (9, 0)] fX8_sumOf_1 rfl rfl ?_
  refine Ev.iload_n fX8_sumOf_3 rfl ?_
  refine Ev.sistore [(1, 24), (0, v), (0, first), (0, last), (0, 0), (0, first)] fX8_sumOf_4 rfl rfl ?_
  exact eX8_sumOf_L H hv hf 60 first 0 (by omega) (by omega) (by omega) (zsum_cut (Int.le_refl 0) hf.1 (fun j h1 h2 => if_neg (by omega))).symm
