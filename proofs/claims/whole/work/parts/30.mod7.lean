/-! THE MODEL: CHANGES (printed by wip/whole/gen/mod7.py) -/
/-- the heap with another row -/
def zgr (ia : Nat → Int → Int) (g : Int → Int) : Nat → Int → Int := fun c i => if c = 25 then g i else ia c i
def zru (g : Int → Int) (i x : Int) : Int → Int := fun j => if j = i then x else g j
/-- n places from b on hold F -/
def zrF (g : Int → Int) (b n : Int) (F : Int → Int) : Int → Int := fun i => if b ≤ i ∧ i < b + n then F (i - b) else g i
theorem zgr_id {ia : Nat → Int → Int} : zgr ia (ia 25) = ia := by
  funext c i
  unfold zgr
  by_cases h : c = 25
  · rw [if_pos h, h]
  · rw [if_neg h]
theorem zgr_gr {ia : Nat → Int → Int} {g g2 : Int → Int} : zgr (zgr ia g) g2 = zgr ia g2 := by
  funext c i
  unfold zgr
  by_cases h : c = 25
  · rw [if_pos h, if_pos h]
  · rw [if_neg h, if_neg h, if_neg h]
theorem zG_p {ia : Nat → Int → Int} {g : Int → Int} {i x : Int} : zu (zgr ia g) 25 i x = zgr ia (zru g i x) := by
  funext c j
  unfold zu zgr zru
  by_cases h : c = 25
  · by_cases h2 : j = i
    · rw [if_pos ⟨h, h2⟩, if_pos h, if_pos h2]
    · rw [if_neg (fun e => h2 e.2), if_pos h, if_pos h, if_neg h2]
  · rw [if_neg (fun e => h e.1), if_neg h, if_neg h]
theorem zgr_at {ia : Nat → Int → Int} {g : Int → Int} {i v : Int} (h : g i = v) : zgr ia g 25 i = v := by
  unfold zgr
  rw [if_pos rfl]
  exact h
theorem zru_eq {g : Int → Int} {i x : Int} : zru g i x i = x := if_pos rfl
theorem zru_ne {g : Int → Int} {i x j : Int} (h : j ≠ i) : zru g i x j = g j := if_neg h
theorem zrF_0 {g F : Int → Int} {b : Int} : zrF g b 0 F = g := by
  funext i
  unfold zrF
  rw [if_neg (by omega)]
theorem zrF_s {g F : Int → Int} {b k i x : Int} (hk : 0 ≤ k) (hi : i = b + k) (hx : x = F k) : zru (zrF g b k F) i x = zrF g b (k + 1) F := by
  funext j
  subst hi hx
  unfold zru zrF
  by_cases h : j = b + k
  · rw [if_pos h, if_pos (by omega), show j - b = k by omega]
  · rw [if_neg h]
    by_cases h2 : b ≤ j ∧ j < b + k
    · rw [if_pos h2, if_pos (by omega)]
    · rw [if_neg h2, if_neg (by omega)]
theorem zrF_e {g F : Int → Int} {b k : Int} (hk : 0 ≤ k) (hx : F k = g (b + k)) : zrF g b k F = zrF g b (k + 1) F := by
  funext j
  unfold zrF
  by_cases h2 : b ≤ j ∧ j < b + k
  · rw [if_pos h2, if_pos (by omega)]
  · by_cases h : j = b + k
    · rw [if_neg h2, if_pos (by omega), show j - b = k by omega, hx, h]
    · rw [if_neg h2, if_neg (by omega)]
theorem zrF_out {g F : Int → Int} {b n i : Int} (h : ¬ (b ≤ i ∧ i < b + n)) : zrF g b n F i = g i := if_neg h
theorem zrF_on {g F : Int → Int} {b n i : Int} (h : b ≤ i ∧ i < b + n) : zrF g b n F i = F (i - b) := if_pos h
/-- a refusal -/
def zrf (ia : Nat → Int → Int) (a b i : Int) : Nat → Int → Int := zu (zu (zu (zu ia 24 8 1) 24 9 a) 24 10 b) 24 11 i
/-- the index that a refusal keeps -/
def zwi (ia : Nat → Int → Int) : Int := if ia 24 6 = 0 then 0 else ia 24 7
/-- what is kept, once 8 changes are kept -/
def zKs (ia : Nat → Int → Int) (c : Nat) : Nat → Int → Int := zu (zcp (zu (zcp (zu ia 24 8 0) 26 1968 26 0 13776) 24 5 (ia 24 5 - 1)) c 0 26 (1968 * (ia 24 5 - 1)) 1968) 24 5 ((ia 24 5 - 1) + 1)
def zKp (ia : Nat → Int → Int) (c : Nat) : Nat → Int → Int := if ia 24 6 = 1 then zu ia 24 8 0 else if ia 24 5 < 8 then zu (zcp (zu ia 24 8 0) c 0 26 (1968 * ia 24 5) 1968) 24 5 (ia 24 5 + 1) else zKs ia c
theorem eX8_refuses_0 {G : zG} {ia : Nat → Int → Int} {w : (Nat → Int → Int) × (Nat → Int → Int)} {a b : Int} (hw : ia 24 6 = 0) : Ev G mX8_refuses 0 [(1, 24), (0, a), (0, b)] [] (zH ia w) (.inl (some (0, 0)), zH (zrf ia a b 0) w, 0, 0) := by
  refine Ev.aload_n_1 fX8_refuses_0 rfl ?_
  refine Ev.iconst fX8_refuses_1 ?_
  refine Ev.pI 24 8 fX8_refuses_2 (flX8_42 rfl) rfl rfl trivial ?_
  refine Ev.aload_n_1 fX8_refuses_5 rfl ?_
  refine Ev.iload_n fX8_refuses_6 rfl ?_
  refine Ev.pI 24 9 fX8_refuses_7 (flX8_45 rfl) rfl rfl trivial ?_
  refine Ev.aload_n_1 fX8_refuses_10 rfl ?_
  refine Ev.iload_n fX8_refuses_11 rfl ?_
  refine Ev.pI 24 10 fX8_refuses_12 (flX8_48 rfl) rfl rfl trivial ?_
  refine Ev.aload_n_1 fX8_refuses_15 rfl ?_
  refine Ev.aload_n_1 fX8_refuses_16 rfl ?_
  refine Ev.gI 24 6 (v := (ia 24 6)) fX8_refuses_17 (flX8_51 rfl) rfl rfl rfl ?_
  refine Ev.if_eq fX8_refuses_20 rfl ⟨by omega, by omega⟩ (fun h20 => ?_) (fun h20 => by exfalso; omega)
  refine Ev.iconst fX8_refuses_30 ?_
  refine Ev.pI 24 11 fX8_refuses_31 (flX8_58 rfl) rfl rfl trivial ?_
  refine Ev.iconst fX8_refuses_34 ?_
  exact Ev.zI fX8_refuses_35 rfl rfl
theorem eX8_refuses_1 {G : zG} {ia : Nat → Int → Int} {w : (Nat → Int → Int) × (Nat → Int → Int)} {a b : Int} (hw : ia 24 6 = 1) : Ev G mX8_refuses 0 [(1, 24), (0, a), (0, b)] [] (zH ia w) (.inl (some (0, 0)), zH (zrf ia a b (ia 24 7)) w, 0, 0) := by
  refine Ev.aload_n_1 fX8_refuses_0 rfl ?_
  refine Ev.iconst fX8_refuses_1 ?_
  refine Ev.pI 24 8 fX8_refuses_2 (flX8_42 rfl) rfl rfl trivial ?_
  refine Ev.aload_n_1 fX8_refuses_5 rfl ?_
  refine Ev.iload_n fX8_refuses_6 rfl ?_
  refine Ev.pI 24 9 fX8_refuses_7 (flX8_45 rfl) rfl rfl trivial ?_
  refine Ev.aload_n_1 fX8_refuses_10 rfl ?_
  refine Ev.iload_n fX8_refuses_11 rfl ?_
  refine Ev.pI 24 10 fX8_refuses_12 (flX8_48 rfl) rfl rfl trivial ?_
  refine Ev.aload_n_1 fX8_refuses_15 rfl ?_
  refine Ev.aload_n_1 fX8_refuses_16 rfl ?_
  refine Ev.gI 24 6 (v := (ia 24 6)) fX8_refuses_17 (flX8_51 rfl) rfl rfl rfl ?_
  refine Ev.if_eq fX8_refuses_20 rfl ⟨by omega, by omega⟩ (fun h20 => by exfalso; omega) (fun h20 => ?_)
  refine Ev.aload_n_1 fX8_refuses_23 rfl ?_
  refine Ev.gI 24 7 (v := (ia 24 7)) fX8_refuses_24 (flX8_55 rfl) rfl rfl rfl ?_
  refine Ev.goto fX8_refuses_27 rfl ?_
  refine Ev.pI 24 11 fX8_refuses_31 (flX8_58 rfl) rfl rfl trivial ?_
  refine Ev.iconst fX8_refuses_34 ?_
  exact Ev.zI fX8_refuses_35 rfl rfl
theorem eX8_refuses {G : zG} {ia : Nat → Int → Int} {w : (Nat → Int → Int) × (Nat → Int → Int)} {a b : Int} (hw : ia 24 6 = 0 ∨ ia 24 6 = 1) : Ev G mX8_refuses 0 [(1, 24), (0, a), (0, b)] [] (zH ia w) (.inl (some (0, 0)), zH (zrf ia a b (zwi ia)) w, 0, 0) := by
  rcases hw with hw | hw
  · have h := eX8_refuses_0 (G := G) (w := w) (a := a) (b := b) hw
    unfold zwi
    rw [if_pos hw]
    exact h
  · have h := eX8_refuses_1 (G := G) (w := w) (a := a) (b := b) hw
    unfold zwi
    rw [if_neg (by omega)]
    exact h
theorem eX8_keeps_w_25 {G : zG} {ia : Nat → Int → Int} {w : (Nat → Int → Int) × (Nat → Int → Int)}  (hw : ia 24 6 = 1) : Ev G mX8_keeps 0 [(1, 24), (1, 25), (9, 0)] [] (zH ia w) (.inl none, zH (zu ia 24 8 0) w, 0, 0) := by
  refine Ev.aload_n_1 fX8_keeps_0 rfl ?_
  refine Ev.iconst fX8_keeps_1 ?_
  refine Ev.pI 24 8 fX8_keeps_2 (flX8_42 rfl) rfl rfl trivial ?_
  refine Ev.aload_n_1 fX8_keeps_5 rfl ?_
  refine Ev.gI 24 6 (v := (ia 24 6)) fX8_keeps_6 (flX8_51 rfl) rfl rfl rfl ?_
  refine Ev.if_eq fX8_keeps_9 rfl ⟨by omega, by omega⟩ (fun h9 => by exfalso; omega) (fun h9 => ?_)
  exact Ev.zV fX8_keeps_12 rfl
theorem eX8_keeps_lt_25 {G : zG} {ia : Nat → Int → Int} {w : (Nat → Int → Int) × (Nat → Int → Int)}  (hw : ia 24 6 = 0) (hk : 0 ≤ ia 24 5 ∧ ia 24 5 < 8) : Ev G mX8_keeps 0 [(1, 24), (1, 25), (9, 0)] [] (zH ia w) (.inl none, zH (zu (zcp (zu ia 24 8 0) 25 0 26 (1968 * ia 24 5) 1968) 24 5 (ia 24 5 + 1)) w, 0, 0) := by
  refine Ev.aload_n_1 fX8_keeps_0 rfl ?_
  refine Ev.iconst fX8_keeps_1 ?_
  refine Ev.pI 24 8 fX8_keeps_2 (flX8_42 rfl) rfl rfl trivial ?_
  refine Ev.aload_n_1 fX8_keeps_5 rfl ?_
  refine Ev.gI 24 6 (v := (ia 24 6)) fX8_keeps_6 (flX8_51 rfl) rfl rfl rfl ?_
  refine Ev.if_eq fX8_keeps_9 rfl ⟨by omega, by omega⟩ (fun h9 => ?_) (fun h9 => by exfalso; omega)
  refine Ev.aload_n_1 fX8_keeps_13 rfl ?_
  refine Ev.gI 24 5 (v := (ia 24 5)) fX8_keeps_14 (flX8_61 rfl) rfl rfl rfl ?_
  refine Ev.bipush fX8_keeps_17 rfl ?_
  refine Ev.icmp_ne fX8_keeps_19 rfl ⟨by omega, by omega⟩ (by decide) (fun h19 => ?_) (fun h19 => by exfalso; omega)
  refine Ev.aload_n_1 fX8_keeps_63 rfl ?_
  refine Ev.iconst fX8_keeps_64 ?_
  refine Ev.aload_n_1 fX8_keeps_65 rfl ?_
  refine Ev.gR 24 1 26 fX8_keeps_66 (flX8_13 rfl) rfl rfl rfl ?_
  refine Ev.sipush fX8_keeps_69 rfl ?_
  refine Ev.aload_n_1 fX8_keeps_72 rfl ?_
  refine Ev.gI 24 5 (v := (ia 24 5)) fX8_keeps_73 (flX8_61 rfl) rfl rfl rfl ?_
  refine Ev.imul fX8_keeps_76 ?_
  refine Ev.cSv [(1, 25), (0, 0), (1, 26), (0, (1968 * (ia 24 5)))] [] fX8_keeps_77 lkX8_keeps_64 rfl (eX8_copies_25_26 ⟨by omega, by omega⟩ ⟨by omega, by omega⟩) ?_
  refine Ev.aload_n_1 fX8_keeps_80 rfl ?_
  refine Ev.dup fX8_keeps_81 rfl ?_
  refine Ev.gI 24 5 (v := (ia 24 5)) fX8_keeps_82 (flX8_61 rfl) rfl rfl rfl ?_
  refine Ev.iconst fX8_keeps_85 ?_
  refine Ev.iadd fX8_keeps_86 ?_
  refine Ev.pI 24 5 fX8_keeps_87 (flX8_61 rfl) rfl rfl trivial ?_
  exact Ev.zV fX8_keeps_90 rfl
theorem eX8_keeps_t_25 {G : zG} {ia : Nat → Int → Int} {w : (Nat → Int → Int) × (Nat → Int → Int)}  (hk : ia 24 5 = 8) : Ev G mX8_keeps 53 [(1, 24), (1, 25), (9, 0)] [] (zH (zcp (zu ia 24 8 0) 26 1968 26 0 13776) w) (.inl none, zH (zKs ia 25) w, 0, 0) := by
  refine Ev.aload_n_1 fX8_keeps_53 rfl ?_
  refine Ev.dup fX8_keeps_54 rfl ?_
  refine Ev.gI 24 5 (v := (ia 24 5)) fX8_keeps_55 (flX8_61 rfl) rfl rfl rfl ?_
  refine Ev.iconst fX8_keeps_58 ?_
  refine Ev.isub fX8_keeps_59 ?_
  refine Ev.pI 24 5 fX8_keeps_60 (flX8_61 rfl) rfl rfl trivial ?_
  refine Ev.aload_n_1 fX8_keeps_63 rfl ?_
  refine Ev.iconst fX8_keeps_64 ?_
  refine Ev.aload_n_1 fX8_keeps_65 rfl ?_
  refine Ev.gR 24 1 26 fX8_keeps_66 (flX8_13 rfl) rfl rfl rfl ?_
  refine Ev.sipush fX8_keeps_69 rfl ?_
  refine Ev.aload_n_1 fX8_keeps_72 rfl ?_
  refine Ev.gI 24 5 (v := (ia 24 5 - 1)) fX8_keeps_73 (flX8_61 rfl) rfl rfl rfl ?_
  refine Ev.imul fX8_keeps_76 ?_
  refine Ev.cSv [(1, 25), (0, 0), (1, 26), (0, (1968 * (ia 24 5 - 1)))] [] fX8_keeps_77 lkX8_keeps_64 rfl (eX8_copies_25_26 ⟨by omega, by omega⟩ ⟨by omega, by omega⟩) ?_
  refine Ev.aload_n_1 fX8_keeps_80 rfl ?_
  refine Ev.dup fX8_keeps_81 rfl ?_
  refine Ev.gI 24 5 (v := (ia 24 5 - 1)) fX8_keeps_82 (flX8_61 rfl) rfl rfl rfl ?_
  refine Ev.iconst fX8_keeps_85 ?_
  refine Ev.iadd fX8_keeps_86 ?_
  refine Ev.pI 24 5 fX8_keeps_87 (flX8_61 rfl) rfl rfl trivial ?_
  exact Ev.zV fX8_keeps_90 rfl
theorem zcp_s9 {ia : Nat → Int → Int} {c0 : Nat} {sp k i : Int} (hk : 0 ≤ k) (hi : i = k + sp) : zu (zcp ia c0 sp c0 0 k) c0 k (ia c0 i) = zcp ia c0 sp c0 0 (k + 1) := by
  subst hi
  have h := zcp_s (ia := ia) (c0 := c0) (c1 := c0) (sp := sp) (dp := 0) hk
  rw [show (0 : Int) + k = k by omega, show sp + k = k + sp by omega] at h
  exact h
theorem eX8_keeps_L_25 {G : zG} {ia : Nat → Int → Int} {w : (Nat → Int → Int) × (Nat → Int → Int)}  (hk : ia 24 5 = 8) : ∀ (n : Nat) (k : Int), (13776 - k < n) → (0 ≤ k) → (k ≤ 13776) → Ev G mX8_keeps 24 [(1, 24), (1, 25), (0, k)] [] (zH (zcp (zu ia 24 8 0) 26 1968 26 0 k) w) (.inl none, zH (zKs ia 25) w, 0, 0) := by
  intro n
  induction n with
  | zero =>
    intro k hN hk0 hk1
    exact absurd hN (by omega)
  | succ n ih =>
    intro k hN hk0 hk1
    refine Ev.iload_n fX8_keeps_24 rfl ?_
    refine Ev.sipush fX8_keeps_25 rfl ?_
    refine Ev.icmp_ge fX8_keeps_28 rfl ⟨by omega, by omega⟩ (by decide) (fun h28 => ?_) (fun h28 => ?_)
    · rw [show k = 13776 by omega]
      exact Ev.fg 2 [(1, 24), (1, 25), (9, 0)] rfl (eX8_keeps_t_25 hk)
    · refine Ev.aload_n_1 fX8_keeps_31 rfl ?_
      refine Ev.gR 24 1 26 fX8_keeps_32 (flX8_13 rfl) rfl rfl rfl ?_
      refine Ev.iload_n fX8_keeps_35 rfl ?_
      refine Ev.aload_n_1 fX8_keeps_36 rfl ?_
      refine Ev.gR 24 1 26 fX8_keeps_37 (flX8_13 rfl) rfl rfl rfl ?_
      refine Ev.iload_n fX8_keeps_40 rfl ?_
      refine Ev.sipush fX8_keeps_41 rfl ?_
      refine Ev.iadd fX8_keeps_44 ?_
      refine Ev.ld 26 15744 (v := ((zu ia 24 8 0) 26 (k + 1968))) fX8_keeps_45 rfl rfl ⟨by omega, by omega⟩ (zcp_out (by omega)) ?_
      refine Ev.stI 26 15744 fX8_keeps_46 rfl rfl ⟨by omega, by omega⟩ ?_
      refine Ev.siinc [(1, 24), (1, 25), (0, (k + 1))] fX8_keeps_47 rfl rfl rfl ?_
      refine Ev.goto fX8_keeps_50 rfl ?_
      rw [zcp_s9 hk0 (by omega)]
      exact ih (k + 1) (by omega) (by omega) (by omega)
theorem eX8_keeps_ge_25 {G : zG} {ia : Nat → Int → Int} {w : (Nat → Int → Int) × (Nat → Int → Int)}  (hw : ia 24 6 = 0) (hk : ia 24 5 = 8) : Ev G mX8_keeps 0 [(1, 24), (1, 25), (9, 0)] [] (zH ia w) (.inl none, zH (zKs ia 25) w, 0, 0) := by
  refine Ev.aload_n_1 fX8_keeps_0 rfl ?_
  refine Ev.iconst fX8_keeps_1 ?_
  refine Ev.pI 24 8 fX8_keeps_2 (flX8_42 rfl) rfl rfl trivial ?_
  refine Ev.aload_n_1 fX8_keeps_5 rfl ?_
  refine Ev.gI 24 6 (v := (ia 24 6)) fX8_keeps_6 (flX8_51 rfl) rfl rfl rfl ?_
  refine Ev.if_eq fX8_keeps_9 rfl ⟨by omega, by omega⟩ (fun h9 => ?_) (fun h9 => by exfalso; omega)
  refine Ev.aload_n_1 fX8_keeps_13 rfl ?_
  refine Ev.gI 24 5 (v := (ia 24 5)) fX8_keeps_14 (flX8_61 rfl) rfl rfl rfl ?_
  refine Ev.bipush fX8_keeps_17 rfl ?_
  refine Ev.icmp_ne fX8_keeps_19 rfl ⟨by omega, by omega⟩ (by decide) (fun h19 => by exfalso; omega) (fun h19 => ?_)
  refine Ev.iconst fX8_keeps_22 ?_
  refine Ev.sistore_n [(1, 24), (1, 25), (0, 0)] fX8_keeps_23 rfl rfl ?_
  have h := eX8_keeps_L_25 (G := G) (w := w) hk 20000 0 (by omega) (by omega) (by omega)
  rw [zcp_0] at h
  exact h
theorem eX8_keeps_25 {G : zG} {ia : Nat → Int → Int} {w : (Nat → Int → Int) × (Nat → Int → Int)} (hw : ia 24 6 = 0 ∨ ia 24 6 = 1) (hk : 0 ≤ ia 24 5 ∧ ia 24 5 ≤ 8) : Ev G mX8_keeps 0 [(1, 24), (1, 25), (9, 0)] [] (zH ia w) (.inl none, zH (zKp ia 25) w, 0, 0) := by
  unfold zKp
  rcases hw with hw | hw
  · rw [if_neg (by omega)]
    by_cases h8 : ia 24 5 < 8
    · rw [if_pos h8]
      exact eX8_keeps_lt_25 hw ⟨hk.1, h8⟩
    · rw [if_neg h8]
      exact eX8_keeps_ge_25 hw (by omega)
  · rw [if_pos hw]
    exact eX8_keeps_w_25 hw
theorem eX8_keeps_w_28 {G : zG} {ia : Nat → Int → Int} {w : (Nat → Int → Int) × (Nat → Int → Int)}  (hw : ia 24 6 = 1) : Ev G mX8_keeps 0 [(1, 24), (1, 28), (9, 0)] [] (zH ia w) (.inl none, zH (zu ia 24 8 0) w, 0, 0) := by
  refine Ev.aload_n_1 fX8_keeps_0 rfl ?_
  refine Ev.iconst fX8_keeps_1 ?_
  refine Ev.pI 24 8 fX8_keeps_2 (flX8_42 rfl) rfl rfl trivial ?_
  refine Ev.aload_n_1 fX8_keeps_5 rfl ?_
  refine Ev.gI 24 6 (v := (ia 24 6)) fX8_keeps_6 (flX8_51 rfl) rfl rfl rfl ?_
  refine Ev.if_eq fX8_keeps_9 rfl ⟨by omega, by omega⟩ (fun h9 => by exfalso; omega) (fun h9 => ?_)
  exact Ev.zV fX8_keeps_12 rfl
theorem eX8_keeps_lt_28 {G : zG} {ia : Nat → Int → Int} {w : (Nat → Int → Int) × (Nat → Int → Int)}  (hw : ia 24 6 = 0) (hk : 0 ≤ ia 24 5 ∧ ia 24 5 < 8) : Ev G mX8_keeps 0 [(1, 24), (1, 28), (9, 0)] [] (zH ia w) (.inl none, zH (zu (zcp (zu ia 24 8 0) 28 0 26 (1968 * ia 24 5) 1968) 24 5 (ia 24 5 + 1)) w, 0, 0) := by
  refine Ev.aload_n_1 fX8_keeps_0 rfl ?_
  refine Ev.iconst fX8_keeps_1 ?_
  refine Ev.pI 24 8 fX8_keeps_2 (flX8_42 rfl) rfl rfl trivial ?_
  refine Ev.aload_n_1 fX8_keeps_5 rfl ?_
  refine Ev.gI 24 6 (v := (ia 24 6)) fX8_keeps_6 (flX8_51 rfl) rfl rfl rfl ?_
  refine Ev.if_eq fX8_keeps_9 rfl ⟨by omega, by omega⟩ (fun h9 => ?_) (fun h9 => by exfalso; omega)
  refine Ev.aload_n_1 fX8_keeps_13 rfl ?_
  refine Ev.gI 24 5 (v := (ia 24 5)) fX8_keeps_14 (flX8_61 rfl) rfl rfl rfl ?_
  refine Ev.bipush fX8_keeps_17 rfl ?_
  refine Ev.icmp_ne fX8_keeps_19 rfl ⟨by omega, by omega⟩ (by decide) (fun h19 => ?_) (fun h19 => by exfalso; omega)
  refine Ev.aload_n_1 fX8_keeps_63 rfl ?_
  refine Ev.iconst fX8_keeps_64 ?_
  refine Ev.aload_n_1 fX8_keeps_65 rfl ?_
  refine Ev.gR 24 1 26 fX8_keeps_66 (flX8_13 rfl) rfl rfl rfl ?_
  refine Ev.sipush fX8_keeps_69 rfl ?_
  refine Ev.aload_n_1 fX8_keeps_72 rfl ?_
  refine Ev.gI 24 5 (v := (ia 24 5)) fX8_keeps_73 (flX8_61 rfl) rfl rfl rfl ?_
  refine Ev.imul fX8_keeps_76 ?_
  refine Ev.cSv [(1, 28), (0, 0), (1, 26), (0, (1968 * (ia 24 5)))] [] fX8_keeps_77 lkX8_keeps_64 rfl (eX8_copies_28_26 ⟨by omega, by omega⟩ ⟨by omega, by omega⟩) ?_
  refine Ev.aload_n_1 fX8_keeps_80 rfl ?_
  refine Ev.dup fX8_keeps_81 rfl ?_
  refine Ev.gI 24 5 (v := (ia 24 5)) fX8_keeps_82 (flX8_61 rfl) rfl rfl rfl ?_
  refine Ev.iconst fX8_keeps_85 ?_
  refine Ev.iadd fX8_keeps_86 ?_
  refine Ev.pI 24 5 fX8_keeps_87 (flX8_61 rfl) rfl rfl trivial ?_
  exact Ev.zV fX8_keeps_90 rfl
theorem eX8_keeps_t_28 {G : zG} {ia : Nat → Int → Int} {w : (Nat → Int → Int) × (Nat → Int → Int)}  (hk : ia 24 5 = 8) : Ev G mX8_keeps 53 [(1, 24), (1, 28), (9, 0)] [] (zH (zcp (zu ia 24 8 0) 26 1968 26 0 13776) w) (.inl none, zH (zKs ia 28) w, 0, 0) := by
  refine Ev.aload_n_1 fX8_keeps_53 rfl ?_
  refine Ev.dup fX8_keeps_54 rfl ?_
  refine Ev.gI 24 5 (v := (ia 24 5)) fX8_keeps_55 (flX8_61 rfl) rfl rfl rfl ?_
  refine Ev.iconst fX8_keeps_58 ?_
  refine Ev.isub fX8_keeps_59 ?_
  refine Ev.pI 24 5 fX8_keeps_60 (flX8_61 rfl) rfl rfl trivial ?_
  refine Ev.aload_n_1 fX8_keeps_63 rfl ?_
  refine Ev.iconst fX8_keeps_64 ?_
  refine Ev.aload_n_1 fX8_keeps_65 rfl ?_
  refine Ev.gR 24 1 26 fX8_keeps_66 (flX8_13 rfl) rfl rfl rfl ?_
  refine Ev.sipush fX8_keeps_69 rfl ?_
  refine Ev.aload_n_1 fX8_keeps_72 rfl ?_
  refine Ev.gI 24 5 (v := (ia 24 5 - 1)) fX8_keeps_73 (flX8_61 rfl) rfl rfl rfl ?_
  refine Ev.imul fX8_keeps_76 ?_
  refine Ev.cSv [(1, 28), (0, 0), (1, 26), (0, (1968 * (ia 24 5 - 1)))] [] fX8_keeps_77 lkX8_keeps_64 rfl (eX8_copies_28_26 ⟨by omega, by omega⟩ ⟨by omega, by omega⟩) ?_
  refine Ev.aload_n_1 fX8_keeps_80 rfl ?_
  refine Ev.dup fX8_keeps_81 rfl ?_
  refine Ev.gI 24 5 (v := (ia 24 5 - 1)) fX8_keeps_82 (flX8_61 rfl) rfl rfl rfl ?_
  refine Ev.iconst fX8_keeps_85 ?_
  refine Ev.iadd fX8_keeps_86 ?_
  refine Ev.pI 24 5 fX8_keeps_87 (flX8_61 rfl) rfl rfl trivial ?_
  exact Ev.zV fX8_keeps_90 rfl
theorem eX8_keeps_L_28 {G : zG} {ia : Nat → Int → Int} {w : (Nat → Int → Int) × (Nat → Int → Int)}  (hk : ia 24 5 = 8) : ∀ (n : Nat) (k : Int), (13776 - k < n) → (0 ≤ k) → (k ≤ 13776) → Ev G mX8_keeps 24 [(1, 24), (1, 28), (0, k)] [] (zH (zcp (zu ia 24 8 0) 26 1968 26 0 k) w) (.inl none, zH (zKs ia 28) w, 0, 0) := by
  intro n
  induction n with
  | zero =>
    intro k hN hk0 hk1
    exact absurd hN (by omega)
  | succ n ih =>
    intro k hN hk0 hk1
    refine Ev.iload_n fX8_keeps_24 rfl ?_
    refine Ev.sipush fX8_keeps_25 rfl ?_
    refine Ev.icmp_ge fX8_keeps_28 rfl ⟨by omega, by omega⟩ (by decide) (fun h28 => ?_) (fun h28 => ?_)
    · rw [show k = 13776 by omega]
      exact Ev.fg 2 [(1, 24), (1, 28), (9, 0)] rfl (eX8_keeps_t_28 hk)
    · refine Ev.aload_n_1 fX8_keeps_31 rfl ?_
      refine Ev.gR 24 1 26 fX8_keeps_32 (flX8_13 rfl) rfl rfl rfl ?_
      refine Ev.iload_n fX8_keeps_35 rfl ?_
      refine Ev.aload_n_1 fX8_keeps_36 rfl ?_
      refine Ev.gR 24 1 26 fX8_keeps_37 (flX8_13 rfl) rfl rfl rfl ?_
      refine Ev.iload_n fX8_keeps_40 rfl ?_
      refine Ev.sipush fX8_keeps_41 rfl ?_
      refine Ev.iadd fX8_keeps_44 ?_
      refine Ev.ld 26 15744 (v := ((zu ia 24 8 0) 26 (k + 1968))) fX8_keeps_45 rfl rfl ⟨by omega, by omega⟩ (zcp_out (by omega)) ?_
      refine Ev.stI 26 15744 fX8_keeps_46 rfl rfl ⟨by omega, by omega⟩ ?_
      refine Ev.siinc [(1, 24), (1, 28), (0, (k + 1))] fX8_keeps_47 rfl rfl rfl ?_
      refine Ev.goto fX8_keeps_50 rfl ?_
      rw [zcp_s9 hk0 (by omega)]
      exact ih (k + 1) (by omega) (by omega) (by omega)
theorem eX8_keeps_ge_28 {G : zG} {ia : Nat → Int → Int} {w : (Nat → Int → Int) × (Nat → Int → Int)}  (hw : ia 24 6 = 0) (hk : ia 24 5 = 8) : Ev G mX8_keeps 0 [(1, 24), (1, 28), (9, 0)] [] (zH ia w) (.inl none, zH (zKs ia 28) w, 0, 0) := by
  refine Ev.aload_n_1 fX8_keeps_0 rfl ?_
  refine Ev.iconst fX8_keeps_1 ?_
  refine Ev.pI 24 8 fX8_keeps_2 (flX8_42 rfl) rfl rfl trivial ?_
  refine Ev.aload_n_1 fX8_keeps_5 rfl ?_
  refine Ev.gI 24 6 (v := (ia 24 6)) fX8_keeps_6 (flX8_51 rfl) rfl rfl rfl ?_
  refine Ev.if_eq fX8_keeps_9 rfl ⟨by omega, by omega⟩ (fun h9 => ?_) (fun h9 => by exfalso; omega)
  refine Ev.aload_n_1 fX8_keeps_13 rfl ?_
  refine Ev.gI 24 5 (v := (ia 24 5)) fX8_keeps_14 (flX8_61 rfl) rfl rfl rfl ?_
  refine Ev.bipush fX8_keeps_17 rfl ?_
  refine Ev.icmp_ne fX8_keeps_19 rfl ⟨by omega, by omega⟩ (by decide) (fun h19 => by exfalso; omega) (fun h19 => ?_)
  refine Ev.iconst fX8_keeps_22 ?_
  refine Ev.sistore_n [(1, 24), (1, 28), (0, 0)] fX8_keeps_23 rfl rfl ?_
  have h := eX8_keeps_L_28 (G := G) (w := w) hk 20000 0 (by omega) (by omega) (by omega)
  rw [zcp_0] at h
  exact h
theorem eX8_keeps_28 {G : zG} {ia : Nat → Int → Int} {w : (Nat → Int → Int) × (Nat → Int → Int)} (hw : ia 24 6 = 0 ∨ ia 24 6 = 1) (hk : 0 ≤ ia 24 5 ∧ ia 24 5 ≤ 8) : Ev G mX8_keeps 0 [(1, 24), (1, 28), (9, 0)] [] (zH ia w) (.inl none, zH (zKp ia 28) w, 0, 0) := by
  unfold zKp
  rcases hw with hw | hw
  · rw [if_neg (by omega)]
    by_cases h8 : ia 24 5 < 8
    · rw [if_pos h8]
      exact eX8_keeps_lt_28 hw ⟨hk.1, h8⟩
    · rw [if_neg h8]
      exact eX8_keeps_ge_28 hw (by omega)
  · rw [if_pos hw]
    exact eX8_keeps_w_28 hw
theorem zu_nc {f : Nat → Int → Int} {c c2 : Nat} {i x j : Int} (h : c2 ≠ c) : zu f c i x c2 j = f c2 j := by
  unfold zu
  rw [if_neg (fun e => h e.1)]
theorem zu_ni {f : Nat → Int → Int} {c c2 : Nat} {i x j : Int} (h : j ≠ i) : zu f c i x c2 j = f c2 j := by
  unfold zu
  rw [if_neg (fun e => h e.2)]
theorem zKp_c {ia : Nat → Int → Int} {c c2 : Nat} (h1 : c2 ≠ 24) (h2 : c2 ≠ 26) : zKp ia c c2 = ia c2 := by
  funext i
  unfold zKp zKs
  split
  · rw [zu_nc h1]
  · split
    · rw [zu_nc h1, zcp_off (Or.inl h2), zu_nc h1]
    · rw [zu_nc h1, zcp_off (Or.inl h2), zu_nc h1, zcp_off (Or.inl h2), zu_nc h1]
theorem zKp_24 {ia : Nat → Int → Int} {c : Nat} {j : Int} (h1 : j ≠ 5) (h2 : j ≠ 8) : zKp ia c 24 j = ia 24 j := by
  unfold zKp zKs
  split
  · rw [zu_ni h2]
  · split
    · rw [zu_ni h1, zcp_off (Or.inl (by decide)), zu_ni h2]
    · rw [zu_ni h1, zcp_off (Or.inl (by decide)), zu_ni h1, zcp_off (Or.inl (by decide)), zu_ni h2]
theorem zKp_8 {ia : Nat → Int → Int} {c : Nat} : zKp ia c 24 8 = 0 := by
  unfold zKp zKs
  split
  · rfl
  · split
    · rfl
    · rfl
theorem eX8_lays {G : zG} {ia : Nat → Int → Int} {w : (Nat → Int → Int) × (Nat → Int → Int)} {g : Int → Int} {v x y : Int} (hv : 0 ≤ v ∧ v < 40) (hx : 0 ≤ x ∧ x < 49) : Ev G mX8_lays 0 [(1, 24), (0, v), (0, x), (0, y)] [] (zH (zgr ia g) w) (.inl none, zH (zgr ia (zru g (8 + 49 * v + x) y)) w, 0, 0) := by
  refine Ev.aload_n_1 fX8_lays_0 rfl ?_
  refine Ev.gR 24 0 25 fX8_lays_1 (flX8_7 rfl) rfl rfl rfl ?_
  refine Ev.bipush fX8_lays_4 rfl ?_
  refine Ev.bipush fX8_lays_6 rfl ?_
  refine Ev.iload_n fX8_lays_8 rfl ?_
  refine Ev.imul fX8_lays_9 ?_
  refine Ev.iadd fX8_lays_10 ?_
  refine Ev.iload_n fX8_lays_11 rfl ?_
  refine Ev.iadd fX8_lays_12 ?_
  refine Ev.iload_n fX8_lays_13 rfl ?_
  refine Ev.stI 25 1968 fX8_lays_14 rfl rfl ⟨by omega, by omega⟩ ?_
  rw [zG_p]
  exact Ev.zV fX8_lays_15 rfl
theorem eX8_of_r {G : zG} {ia : Nat → Int → Int} {w : (Nat → Int → Int) × (Nat → Int → Int)} {g : Int → Int} {v x r : Int} (hv : 0 ≤ v ∧ v < 40) (hx : 0 ≤ x ∧ x < 49) (hr : g (8 + 49 * v + x) = r) : Ev G mX8_of 0 [(1, 24), (0, v), (0, x)] [] (zH (zgr ia g) w) (.inl (some (0, r)), zH (zgr ia g) w, 0, 0) := eX8_of hv hx (zgr_at hr)
theorem eX8_amountOf_r {G : zG} {ia : Nat → Int → Int} {w : (Nat → Int → Int) × (Nat → Int → Int)} {g : Int → Int} {v l r : Int} (hv : 0 ≤ v ∧ v < 40) (hl : 0 ≤ l ∧ l < 16) (hr : g (8 + 49 * v + (2 + l)) = r) : Ev G mX8_amountOf 0 [(1, 24), (0, v), (0, l)] [] (zH (zgr ia g) w) (.inl (some (0, r)), zH (zgr ia g) w, 0, 0) := by
  refine Ev.aload_n_1 fX8_amountOf_0 rfl ?_
  refine Ev.iload_n fX8_amountOf_1 rfl ?_
  refine Ev.iconst fX8_amountOf_2 ?_
  refine Ev.iload_n fX8_amountOf_3 rfl ?_
  refine Ev.iadd fX8_amountOf_4 ?_
  refine Ev.cVi 24 [(0, v), (0, (2 + l))] [] fX8_amountOf_5 lkX8_amountOf_72 8 TX8 22 rfl rfl rfl (eX8_of_r hv ⟨by omega, by omega⟩ hr) ?_
  exact Ev.zI fX8_amountOf_8 rfl rfl
/-- the row, once a version has come from the ledger p of the house h -/
def zcm (g : Int → Int) (N p y h : Int) : Int → Int := zru (zru (zru (zrF (zru g 0 (N + 1)) (8 + 49 * N) 49 (fun j => (zru g 0 (N + 1)) (8 + 49 * p + j))) (8 + 49 * N + 0) p) (8 + 49 * N + 1) y) (4 + h) N
theorem eX8_comes_L {G : zG} {ia : Nat → Int → Int} {w : (Nat → Int → Int) × (Nat → Int → Int)} {g : Int → Int} {N p y h : Int} (hN : 1 ≤ N ∧ N < 40) (hp : 0 ≤ p ∧ p < N) (hh : 0 ≤ h ∧ h < 4) (e2 : g 1 = y) : ∀ (n : Nat) (k : Int), (49 - k < n) → (0 ≤ k) → (k ≤ 49) → Ev G mX8_comes 29 [(1, 24), (0, h), (0, N), (0, p), (0, k)] [] (zH (zgr ia (zrF (zru g 0 (N + 1)) (8 + 49 * N) k (fun j => (zru g 0 (N + 1)) (8 + 49 * p + j)))) w) (.inl (some (0, N)), zH (zgr ia (zcm g N p y h)) w, 0, 0) := by
  intro n
  induction n with
  | zero =>
    intro k hN9 hk0 hk1
    exact absurd hN9 (by omega)
  | succ n ih =>
    intro k hN9 hk0 hk1
    refine Ev.iload fX8_comes_29 rfl ?_
    refine Ev.bipush fX8_comes_31 rfl ?_
    refine Ev.icmp_ge fX8_comes_33 rfl ⟨by omega, by omega⟩ (by decide) (fun h33 => ?_) (fun h33 => ?_)
    · obtain rfl : k = 49 := by omega
      refine Ev.aload_n_1 fX8_comes_56 rfl ?_
      refine Ev.iload_n fX8_comes_57 rfl ?_
      refine Ev.iconst fX8_comes_58 ?_
      refine Ev.iload_n fX8_comes_59 rfl ?_
      refine Ev.cVv 24 [(0, N), (0, 0), (0, p)] [] fX8_comes_60 lkX8_comes_76 8 TX8 22 rfl rfl rfl (eX8_lays ⟨by omega, by omega⟩ ⟨by omega, by omega⟩) ?_
      refine Ev.aload_n_1 fX8_comes_63 rfl ?_
      refine Ev.iload_n fX8_comes_64 rfl ?_
      refine Ev.iconst fX8_comes_65 ?_
      refine Ev.aload_n_1 fX8_comes_66 rfl ?_
      refine Ev.gR 24 0 25 fX8_comes_67 (flX8_7 rfl) rfl rfl rfl ?_
      refine Ev.iconst fX8_comes_70 ?_
      refine Ev.ld 25 1968 (v := y) fX8_comes_71 rfl rfl (by decide) (zgr_at (by rw [zru_ne (by omega), zrF_out (by omega), zru_ne (by omega)]; exact e2)) ?_
      refine Ev.cVv 24 [(0, N), (0, 1), (0, y)] [] fX8_comes_72 lkX8_comes_76 8 TX8 22 rfl rfl rfl (eX8_lays ⟨by omega, by omega⟩ ⟨by omega, by omega⟩) ?_
      refine Ev.aload_n_1 fX8_comes_75 rfl ?_
      refine Ev.gR 24 0 25 fX8_comes_76 (flX8_7 rfl) rfl rfl rfl ?_
      refine Ev.iconst fX8_comes_79 ?_
      refine Ev.iload_n fX8_comes_80 rfl ?_
      refine Ev.iadd fX8_comes_81 ?_
      refine Ev.iload_n fX8_comes_82 rfl ?_
      refine Ev.stI 25 1968 fX8_comes_83 rfl rfl ⟨by omega, by omega⟩ ?_
      rw [zG_p]
      refine Ev.iload_n fX8_comes_84 rfl ?_
      exact Ev.zI fX8_comes_85 rfl rfl
    · refine Ev.aload_n_1 fX8_comes_36 rfl ?_
      refine Ev.iload_n fX8_comes_37 rfl ?_
      refine Ev.iload fX8_comes_38 rfl ?_
      refine Ev.aload_n_1 fX8_comes_40 rfl ?_
      refine Ev.iload_n fX8_comes_41 rfl ?_
      refine Ev.iload fX8_comes_42 rfl ?_
      refine Ev.cVi 24 [(0, p), (0, k)] [(0, k), (0, N), (1, 24)] fX8_comes_44 lkX8_comes_72 8 TX8 22 rfl rfl rfl (eX8_of_r ⟨by omega, by omega⟩ ⟨by omega, by omega⟩ (zrF_out (by omega))) ?_
      refine Ev.cVv 24 [(0, N), (0, k), (0, ((zru g 0 (N + 1)) (8 + 49 * p + k)))] [] fX8_comes_47 lkX8_comes_76 8 TX8 22 rfl rfl rfl (eX8_lays ⟨by omega, by omega⟩ ⟨by omega, by omega⟩) ?_
      refine Ev.siinc [(1, 24), (0, h), (0, N), (0, p), (0, (k + 1))] fX8_comes_50 rfl rfl rfl ?_
      refine Ev.goto fX8_comes_53 rfl ?_
      rw [zrF_s hk0 rfl rfl]
      exact ih (k + 1) (by omega) (by omega) (by omega)
theorem eX8_comes {G : zG} {ia : Nat → Int → Int} {w : (Nat → Int → Int) × (Nat → Int → Int)} {g : Int → Int} {N p y h : Int} (hN : 1 ≤ N ∧ N < 40) (hp : 0 ≤ p ∧ p < N) (hh : 0 ≤ h ∧ h < 4) (e2 : g 1 = y) (e0 : g 0 = N) (e1 : g (4 + h) = p) : Ev G mX8_comes 0 [(1, 24), (0, h), (9, 0), (9, 0), (9, 0)] [] (zH (zgr ia g) w) (.inl (some (0, N)), zH (zgr ia (zcm g N p y h)) w, 0, 0) := by
  refine Ev.aload_n_1 fX8_comes_0 rfl ?_
  refine Ev.gR 24 0 25 fX8_comes_1 (flX8_7 rfl) rfl rfl rfl ?_
  refine Ev.iconst fX8_comes_4 ?_
  refine Ev.ld 25 1968 (v := N) fX8_comes_5 rfl rfl (by decide) (zgr_at e0) ?_
  refine Ev.sistore_n [(1, 24), (0, h), (0, N), (9, 0), (9, 0)] fX8_comes_6 rfl rfl ?_
  refine Ev.aload_n_1 fX8_comes_7 rfl ?_
  refine Ev.gR 24 0 25 fX8_comes_8 (flX8_7 rfl) rfl rfl rfl ?_
  refine Ev.iconst fX8_comes_11 ?_
  refine Ev.iload_n fX8_comes_12 rfl ?_
  refine Ev.iadd fX8_comes_13 ?_
  refine Ev.ld 25 1968 (v := p) fX8_comes_14 rfl rfl ⟨by omega, by omega⟩ (zgr_at e1) ?_
  refine Ev.sistore_n [(1, 24), (0, h), (0, N), (0, p), (9, 0)] fX8_comes_15 rfl rfl ?_
  refine Ev.aload_n_1 fX8_comes_16 rfl ?_
  refine Ev.gR 24 0 25 fX8_comes_17 (flX8_7 rfl) rfl rfl rfl ?_
  refine Ev.iconst fX8_comes_20 ?_
  refine Ev.dup2 fX8_comes_21 rfl rfl ?_
  refine Ev.ld 25 1968 (v := N) fX8_comes_22 rfl rfl (by decide) (zgr_at e0) ?_
  refine Ev.iconst fX8_comes_23 ?_
  refine Ev.iadd fX8_comes_24 ?_
  refine Ev.stI 25 1968 fX8_comes_25 rfl rfl (by decide) ?_
  rw [zG_p]
  refine Ev.iconst fX8_comes_26 ?_
  refine Ev.sistore [(1, 24), (0, h), (0, N), (0, p), (0, 0)] fX8_comes_27 rfl rfl ?_
  have h9 := eX8_comes_L (G := G) (ia := ia) (w := w) hN hp hh e2 200 0 (by omega) (by omega) (by omega)
  rw [zrF_0] at h9
  exact h9
