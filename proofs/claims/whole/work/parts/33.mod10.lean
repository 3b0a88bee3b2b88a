/-! THE MODEL: TEXTS (printed by wip/whole/gen/mod10.py) -/
/-- the heap with the reader at p, M commands told, told as T -/
def zTd (ia : Nat → Int → Int) (p M : Int) (T : Int → Int) : Nat → Int → Int := fun c i => if c = 24 ∧ i = 19 then p else if c = 24 ∧ i = 21 then M else if c = 33 then T i else ia c i
theorem zTd_id {ia : Nat → Int → Int} : zTd ia (ia 24 19) (ia 24 21) (ia 33) = ia := by
  funext c i
  unfold zTd
  split
  · rename_i h; rw [h.1, h.2]
  · split
    · rename_i h; rw [h.1, h.2]
    · split
      · rename_i h; rw [h]
      · rfl
theorem zTd_p {ia : Nat → Int → Int} {p M x : Int} {T : Int → Int} : zu (zTd ia p M T) 24 19 x = zTd ia x M T := by
  funext c i
  unfold zu zTd
  split
  · rfl
  · rfl
theorem zTd_m {ia : Nat → Int → Int} {p M x : Int} {T : Int → Int} : zu (zTd ia p M T) 24 21 x = zTd ia p x T := by
  funext c i
  unfold zu zTd
  by_cases h : c = 24 ∧ i = 21
  · rw [if_pos h, if_neg (by omega), if_pos h]
  · rw [if_neg h]
    split
    · rfl
    · first | rfl | rw [if_neg h, if_neg h]
theorem zTd_t {ia : Nat → Int → Int} {p M i x : Int} {T : Int → Int} : zu (zTd ia p M T) 33 i x = zTd ia p M (zru T i x) := by
  funext c j
  unfold zu zTd zru
  by_cases h : c = 33
  · rw [if_neg (by omega : ¬ (c = 24 ∧ j = 19)), if_neg (by omega : ¬ (c = 24 ∧ j = 21)), if_pos h, if_neg (by omega : ¬ (c = 24 ∧ j = 19)), if_neg (by omega : ¬ (c = 24 ∧ j = 21)), if_pos h]
    by_cases h2 : j = i
    · rw [if_pos ⟨h, h2⟩, if_pos h2]
    · rw [if_neg (fun e => h2 e.2), if_neg h2]
  · rw [if_neg (fun e => h e.1)]
    split
    · rfl
    · split
      · rfl
      · first | rfl | rw [if_neg h, if_neg h]
theorem zTd_p' {ia : Nat → Int → Int} {p M x : Int} {T : Int → Int} : zu (zTd ia p M T) 24 ((19 : Nat) : Int) x = zTd ia x M T := zTd_p
theorem zTd_m' {ia : Nat → Int → Int} {p M x : Int} {T : Int → Int} : zu (zTd ia p M T) 24 ((21 : Nat) : Int) x = zTd ia p x T := zTd_m
theorem zru_at {g : Int → Int} {i x j : Int} (h : j = i) : zru g i x j = x := if_pos h
/-- the text is ch, of length L -/
def zTc (ia : Nat → Int → Int) (ch : Int → Int) (L : Int) : Prop := ia 24 13 = L ∧ (0 ≤ L ∧ L ≤ 60) ∧ (∀ p : Int, 0 ≤ p → p < L → ia 29 p = ch p ∧ 0 ≤ ch p ∧ ch p ≤ 65535) ∧ ∀ p : Int, L ≤ p → ch p = 0
def zhr (ch : Int → Int) (L p : Int) : Int := if p < L then ch p else -1
theorem zhr_is {ia : Nat → Int → Int} {ch : Int → Int} {L p : Int} (C : zTc ia ch L) (hp : 0 ≤ p ∧ p ≤ L) : (zhr ch L p = ch p ∧ p < L ∧ 0 ≤ ch p ∧ ch p ≤ 65535) ∨ (zhr ch L p = -1 ∧ ch p = 0 ∧ p = L) := by
  unfold zhr
  by_cases h : p < L
  · rw [if_pos h]
    exact Or.inl ⟨rfl, h, (C.2.2.1 p hp.1 h).2⟩
  · rw [if_neg h]
    exact Or.inr ⟨rfl, C.2.2.2 p (by omega), by omega⟩
theorem eX8_here_a {G : zG} {ia : Nat → Int → Int} {w : (Nat → Int → Int) × (Nat → Int → Int)} {ch T : Int → Int} {L p M : Int} (C : zTc ia ch L) (hp : 0 ≤ p ∧ p ≤ L) (hx : p < L) : Ev G mX8_here 0 [(1, 24)] [] (zH (zTd ia p M T) w) (.inl (some (0, (ch p))), zH (zTd ia p M T) w, 0, 0) := by
  have hL := C.2.1
  refine Ev.aload_n_1 fX8_here_0 rfl ?_
  refine Ev.gI 24 19 (v := p) fX8_here_1 (flX8_155 rfl) rfl rfl rfl ?_
  refine Ev.aload_n_1 fX8_here_4 rfl ?_
  refine Ev.gI 24 13 (v := L) fX8_here_5 (flX8_152 rfl) rfl rfl C.1 ?_
  refine Ev.icmp_ge fX8_here_8 rfl ⟨by omega, by omega⟩ ⟨by omega, by omega⟩ (fun h8 => by exfalso; omega) (fun h8 => ?_)
  refine Ev.aload_n_1 fX8_here_11 rfl ?_
  refine Ev.gR 24 12 29 fX8_here_12 (flX8_22 rfl) rfl rfl rfl ?_
  refine Ev.aload_n_1 fX8_here_15 rfl ?_
  refine Ev.gI 24 19 (v := p) fX8_here_16 (flX8_155 rfl) rfl rfl rfl ?_
  refine Ev.ld 29 60 (v := (ch p)) fX8_here_19 rfl rfl ⟨by omega, by omega⟩ (C.2.2.1 p hp.1 hx).1 ?_
  refine Ev.goto fX8_here_20 rfl ?_
  exact Ev.zI fX8_here_24 rfl rfl
theorem eX8_here_b {G : zG} {ia : Nat → Int → Int} {w : (Nat → Int → Int) × (Nat → Int → Int)} {ch T : Int → Int} {L p M : Int} (C : zTc ia ch L) (hp : 0 ≤ p ∧ p ≤ L) (hx : p = L) : Ev G mX8_here 0 [(1, 24)] [] (zH (zTd ia p M T) w) (.inl (some (0, (-1))), zH (zTd ia p M T) w, 0, 0) := by
  have hL := C.2.1
  refine Ev.aload_n_1 fX8_here_0 rfl ?_
  refine Ev.gI 24 19 (v := p) fX8_here_1 (flX8_155 rfl) rfl rfl rfl ?_
  refine Ev.aload_n_1 fX8_here_4 rfl ?_
  refine Ev.gI 24 13 (v := L) fX8_here_5 (flX8_152 rfl) rfl rfl C.1 ?_
  refine Ev.icmp_ge fX8_here_8 rfl ⟨by omega, by omega⟩ ⟨by omega, by omega⟩ (fun h8 => ?_) (fun h8 => by exfalso; omega)
  refine Ev.iconst fX8_here_23 ?_
  exact Ev.zI fX8_here_24 rfl rfl
theorem eX8_here {G : zG} {ia : Nat → Int → Int} {w : (Nat → Int → Int) × (Nat → Int → Int)} {ch T : Int → Int} {L p M : Int} (C : zTc ia ch L) (hp : 0 ≤ p ∧ p ≤ L) : Ev G mX8_here 0 [(1, 24)] [] (zH (zTd ia p M T) w) (.inl (some (0, zhr ch L p)), zH (zTd ia p M T) w, 0, 0) := by
  unfold zhr
  by_cases h : p < L
  · rw [if_pos h]
    exact eX8_here_a C hp h
  · rw [if_neg h]
    exact eX8_here_b C hp (by omega)
theorem eX8_skips_t {G : zG} {ia : Nat → Int → Int} {w : (Nat → Int → Int) × (Nat → Int → Int)} {ch T : Int → Int} {L p M : Int} {c : Int} (C : zTc ia ch L) (hp : 0 ≤ p ∧ p ≤ L) (hc : 1 ≤ c ∧ c ≤ 65535) (hx : ch p = c) : Ev G mX8_skips 0 [(1, 24), (0, c)] [] (zH (zTd ia p M T) w) (.inl (some (0, 1)), zH (zTd ia (p + 1) M T) w, 0, 0) := by
  have hL := C.2.1
  have hh := zhr_is C hp
  refine Ev.aload_n_1 fX8_skips_0 rfl ?_
  refine Ev.cVi 24 [] [] fX8_skips_1 lkX8_skips_158 8 TX8 22 rfl rfl rfl (eX8_here C ⟨by omega, by omega⟩) ?_
  refine Ev.iload_n fX8_skips_4 rfl ?_
  refine Ev.icmp_eq fX8_skips_5 rfl ⟨by omega, by omega⟩ ⟨by omega, by omega⟩ (fun h5 => ?_) (fun h5 => by exfalso; omega)
  refine Ev.aload_n_1 fX8_skips_10 rfl ?_
  refine Ev.dup fX8_skips_11 rfl ?_
  refine Ev.gI 24 19 (v := p) fX8_skips_12 (flX8_155 rfl) rfl rfl rfl ?_
  refine Ev.iconst fX8_skips_15 ?_
  refine Ev.iadd fX8_skips_16 ?_
  refine Ev.pI 24 19 fX8_skips_17 (flX8_155 rfl) rfl rfl trivial ?_
  rw [zTd_p']
  refine Ev.iconst fX8_skips_20 ?_
  exact Ev.zZ fX8_skips_21 rfl (by first | exact Or.inl rfl | exact Or.inr rfl) rfl
theorem eX8_skips_f {G : zG} {ia : Nat → Int → Int} {w : (Nat → Int → Int) × (Nat → Int → Int)} {ch T : Int → Int} {L p M : Int} {c : Int} (C : zTc ia ch L) (hp : 0 ≤ p ∧ p ≤ L) (hc : 1 ≤ c ∧ c ≤ 65535) (hx : ch p ≠ c) : Ev G mX8_skips 0 [(1, 24), (0, c)] [] (zH (zTd ia p M T) w) (.inl (some (0, 0)), zH (zTd ia p M T) w, 0, 0) := by
  have hL := C.2.1
  have hh := zhr_is C hp
  refine Ev.aload_n_1 fX8_skips_0 rfl ?_
  refine Ev.cVi 24 [] [] fX8_skips_1 lkX8_skips_158 8 TX8 22 rfl rfl rfl (eX8_here C ⟨by omega, by omega⟩) ?_
  refine Ev.iload_n fX8_skips_4 rfl ?_
  refine Ev.icmp_eq fX8_skips_5 rfl ⟨by omega, by omega⟩ ⟨by omega, by omega⟩ (fun h5 => by exfalso; omega) (fun h5 => ?_)
  refine Ev.iconst fX8_skips_8 ?_
  exact Ev.zZ fX8_skips_9 rfl (by first | exact Or.inl rfl | exact Or.inr rfl) rfl
theorem eX8_in_d {G : zG} {ia : Nat → Int → Int} {w : (Nat → Int → Int) × (Nat → Int → Int)} {x : Int} (hr : -1 ≤ x ∧ x ≤ 65535) : ∃ z : Int, (z = 0 ∨ z = 1) ∧ (z = 1 ↔ 48 ≤ x ∧ x ≤ 57) ∧ Ev G mX8_in 0 [(0, x), (0, 48), (0, 57)] [] (zH ia w) (.inl (some (0, z)), zH ia w, 0, 0) := eX8_in_b x 48 57 ⟨by omega, by omega⟩ (by decide) (by decide)
theorem eX8_figures_L {G : zG} {ia : Nat → Int → Int} {w : (Nat → Int → Int) × (Nat → Int → Int)} {ch T : Int → Int} {L M pl mx : Int} (C : zTc ia ch L) (hpl : 0 ≤ pl ∧ pl < 155) (hm : mx ≤ 3) : ∀ (n : Nat) (p k v : Int), k + n = mx → 0 ≤ k → 0 ≤ p ∧ p ≤ L → (0 ≤ v) → Ev G mX8_figures 25 [(1, 24), (0, pl), (0, mx), (0, k)] [] (zH (zTd ia p M (zru T pl v)) w) (.inl (some (0, 1)), zH (zTd ia (zdn ch n p) M (zru T pl (zdv ch n p v))) w, 0, 0) := by
  have hL := C.2.1
  intro n
  induction n with
  | zero =>
    intro p k v h1 h2 hp h4
    show Ev _ _ _ _ _ _ (.inl (some (0, 1)), zH (zTd ia p M (zru T pl v)) w, 0, 0)
    refine Ev.iload_n fX8_figures_25 rfl ?_
    refine Ev.iload_n fX8_figures_26 rfl ?_
    refine Ev.icmp_ge fX8_figures_27 rfl ⟨by omega, by omega⟩ ⟨by omega, by omega⟩ (fun h27 => ?_) (fun h27 => by exfalso; omega)
    refine Ev.iconst fX8_figures_83 ?_
    exact Ev.zZ fX8_figures_84 rfl (by first | exact Or.inl rfl | exact Or.inr rfl) rfl
  | succ n ih =>
    intro p k v h1 h2 hp h4
    have hh := zhr_is C hp
    by_cases hd : 48 ≤ ch p ∧ ch p ≤ 57
    · rw [zdn_t hd, zdv_t hd]
      refine Ev.iload_n fX8_figures_25 rfl ?_
      refine Ev.iload_n fX8_figures_26 rfl ?_
      refine Ev.icmp_ge fX8_figures_27 rfl ⟨by omega, by omega⟩ ⟨by omega, by omega⟩ (fun h27 => by exfalso; omega) (fun h27 => ?_)
      refine Ev.aload_n_1 fX8_figures_30 rfl ?_
      refine Ev.cVi 24 [] [] fX8_figures_31 lkX8_figures_158 8 TX8 22 rfl rfl rfl (eX8_here C ⟨by omega, by omega⟩) ?_
      refine Ev.bipush fX8_figures_34 rfl ?_
      refine Ev.bipush fX8_figures_36 rfl ?_
      obtain ⟨b83, ga83, gb83, ge83⟩ := eX8_in_d (G := G) (ia := (zTd ia p M (zru T pl v))) (w := w) (x := (zhr ch L p)) ⟨by omega, by omega⟩
      refine Ev.cSi [(0, (zhr ch L p)), (0, 48), (0, 57)] [] fX8_figures_38 lkX8_figures_68 rfl ge83 ?_
      refine Ev.if_eq fX8_figures_41 rfl ⟨by omega, by omega⟩ (fun h41 => by exfalso; omega) (fun h41 => ?_)
      refine Ev.aload_n_1 fX8_figures_44 rfl ?_
      refine Ev.gR 24 20 33 fX8_figures_45 (flX8_39 rfl) rfl rfl rfl ?_
      refine Ev.iload_n fX8_figures_48 rfl ?_
      refine Ev.bipush fX8_figures_49 rfl ?_
      refine Ev.aload_n_1 fX8_figures_51 rfl ?_
      refine Ev.gR 24 20 33 fX8_figures_52 (flX8_39 rfl) rfl rfl rfl ?_
      refine Ev.iload_n fX8_figures_55 rfl ?_
      refine Ev.ld 33 155 (v := v) fX8_figures_56 rfl rfl ⟨by omega, by omega⟩ zru_eq ?_
      refine Ev.imul fX8_figures_57 ?_
      refine Ev.aload_n_1 fX8_figures_58 rfl ?_
      refine Ev.cVi 24 [] [(0, (10 * v)), (0, pl), (1, 33)] fX8_figures_59 lkX8_figures_158 8 TX8 22 rfl rfl rfl (eX8_here C ⟨by omega, by omega⟩) ?_
      refine Ev.iadd fX8_figures_62 ?_
      refine Ev.bipush fX8_figures_63 rfl ?_
      refine Ev.isub fX8_figures_65 ?_
      refine Ev.stI 33 155 fX8_figures_66 rfl rfl ⟨by omega, by omega⟩ ?_
      rw [zTd_t]
      refine Ev.aload_n_1 fX8_figures_67 rfl ?_
      refine Ev.dup fX8_figures_68 rfl ?_
      refine Ev.gI 24 19 (v := p) fX8_figures_69 (flX8_155 rfl) rfl rfl rfl ?_
      refine Ev.iconst fX8_figures_72 ?_
      refine Ev.iadd fX8_figures_73 ?_
      refine Ev.pI 24 19 fX8_figures_74 (flX8_155 rfl) rfl rfl trivial ?_
      rw [zTd_p']
      refine Ev.siinc [(1, 24), (0, pl), (0, mx), (0, (k + 1))] fX8_figures_77 rfl rfl rfl ?_
      refine Ev.goto fX8_figures_80 rfl ?_
      rw [zru_ru, show 10 * v + zhr ch L p - 48 = 10 * v + (ch p - 48) by omega]
      exact ih (p + 1) (k + 1) (10 * v + (ch p - 48)) (by omega) (by omega) ⟨by omega, by omega⟩ (by omega)
    · rw [zdn_f hd, zdv_f hd]
      refine Ev.iload_n fX8_figures_25 rfl ?_
      refine Ev.iload_n fX8_figures_26 rfl ?_
      refine Ev.icmp_ge fX8_figures_27 rfl ⟨by omega, by omega⟩ ⟨by omega, by omega⟩ (fun h27 => by exfalso; omega) (fun h27 => ?_)
      refine Ev.aload_n_1 fX8_figures_30 rfl ?_
      refine Ev.cVi 24 [] [] fX8_figures_31 lkX8_figures_158 8 TX8 22 rfl rfl rfl (eX8_here C ⟨by omega, by omega⟩) ?_
      refine Ev.bipush fX8_figures_34 rfl ?_
      refine Ev.bipush fX8_figures_36 rfl ?_
      obtain ⟨b84, ga84, gb84, ge84⟩ := eX8_in_d (G := G) (ia := (zTd ia p M (zru T pl v))) (w := w) (x := (zhr ch L p)) ⟨by omega, by omega⟩
      refine Ev.cSi [(0, (zhr ch L p)), (0, 48), (0, 57)] [] fX8_figures_38 lkX8_figures_68 rfl ge84 ?_
      refine Ev.if_eq fX8_figures_41 rfl ⟨by omega, by omega⟩ (fun h41 => ?_) (fun h41 => by exfalso; omega)
      refine Ev.iconst fX8_figures_83 ?_
      exact Ev.zZ fX8_figures_84 rfl (by first | exact Or.inl rfl | exact Or.inr rfl) rfl
theorem eX8_figures_f {G : zG} {ia : Nat → Int → Int} {w : (Nat → Int → Int) × (Nat → Int → Int)} {ch T : Int → Int} {L p M pl mx : Int} (C : zTc ia ch L) (hp : 0 ≤ p ∧ p ≤ L) (hx : ¬ (48 ≤ ch p ∧ ch p ≤ 57)) : Ev G mX8_figures 0 [(1, 24), (0, pl), (0, mx), (9, 0)] [] (zH (zTd ia p M T) w) (.inl (some (0, 0)), zH (zTd ia p M T) w, 0, 0) := by
  have hL := C.2.1
  have hh := zhr_is C hp
  refine Ev.aload_n_1 fX8_figures_0 rfl ?_
  refine Ev.cVi 24 [] [] fX8_figures_1 lkX8_figures_158 8 TX8 22 rfl rfl rfl (eX8_here C ⟨by omega, by omega⟩) ?_
  refine Ev.bipush fX8_figures_4 rfl ?_
  refine Ev.bipush fX8_figures_6 rfl ?_
  obtain ⟨b85, ga85, gb85, ge85⟩ := eX8_in_d (G := G) (ia := (zTd ia p M T)) (w := w) (x := (zhr ch L p)) ⟨by omega, by omega⟩
  refine Ev.cSi [(0, (zhr ch L p)), (0, 48), (0, 57)] [] fX8_figures_8 lkX8_figures_68 rfl ge85 ?_
  refine Ev.if_ne fX8_figures_11 rfl ⟨by omega, by omega⟩ (fun h11 => by exfalso; omega) (fun h11 => ?_)
  refine Ev.iconst fX8_figures_14 ?_
  exact Ev.zZ fX8_figures_15 rfl (by first | exact Or.inl rfl | exact Or.inr rfl) rfl
theorem eX8_figures_t {G : zG} {ia : Nat → Int → Int} {w : (Nat → Int → Int) × (Nat → Int → Int)} {ch T : Int → Int} {L p M pl mx : Int} (C : zTc ia ch L) (hp : 0 ≤ p ∧ p ≤ L) (hpl : 0 ≤ pl ∧ pl < 155) (hm : 1 ≤ mx ∧ mx ≤ 3) (hx : 48 ≤ ch p ∧ ch p ≤ 57) : Ev G mX8_figures 0 [(1, 24), (0, pl), (0, mx), (9, 0)] [] (zH (zTd ia p M T) w) (.inl (some (0, 1)), zH (zTd ia (zdn ch mx.toNat p) M (zru T pl (zdv ch mx.toNat p 0))) w, 0, 0) := by
  have hL := C.2.1
  have hh := zhr_is C hp
  refine Ev.aload_n_1 fX8_figures_0 rfl ?_
  refine Ev.cVi 24 [] [] fX8_figures_1 lkX8_figures_158 8 TX8 22 rfl rfl rfl (eX8_here C ⟨by omega, by omega⟩) ?_
  refine Ev.bipush fX8_figures_4 rfl ?_
  refine Ev.bipush fX8_figures_6 rfl ?_
  obtain ⟨b86, ga86, gb86, ge86⟩ := eX8_in_d (G := G) (ia := (zTd ia p M T)) (w := w) (x := (zhr ch L p)) ⟨by omega, by omega⟩
  refine Ev.cSi [(0, (zhr ch L p)), (0, 48), (0, 57)] [] fX8_figures_8 lkX8_figures_68 rfl ge86 ?_
  refine Ev.if_ne fX8_figures_11 rfl ⟨by omega, by omega⟩ (fun h11 => ?_) (fun h11 => by exfalso; omega)
  refine Ev.aload_n_1 fX8_figures_16 rfl ?_
  refine Ev.gR 24 20 33 fX8_figures_17 (flX8_39 rfl) rfl rfl rfl ?_
  refine Ev.iload_n fX8_figures_20 rfl ?_
  refine Ev.iconst fX8_figures_21 ?_
  refine Ev.stI 33 155 fX8_figures_22 rfl rfl ⟨by omega, by omega⟩ ?_
  rw [zTd_t]
  refine Ev.iconst fX8_figures_23 ?_
  refine Ev.sistore_n [(1, 24), (0, pl), (0, mx), (0, 0)] fX8_figures_24 rfl rfl ?_
  exact eX8_figures_L C hpl hm.2 mx.toNat p 0 0 (by omega) (by omega) hp (by omega)
theorem eX8_figures_t1 {G : zG} {ia : Nat → Int → Int} {w : (Nat → Int → Int) × (Nat → Int → Int)} {ch T : Int → Int} {L p M pl : Int} (C : zTc ia ch L) (hp : 0 ≤ p ∧ p ≤ L) (hpl : 0 ≤ pl ∧ pl < 155) (hx : 48 ≤ ch p ∧ ch p ≤ 57) : Ev G mX8_figures 0 [(1, 24), (0, pl), (0, 1), (9, 0)] [] (zH (zTd ia p M T) w) (.inl (some (0, 1)), zH (zTd ia (zdn ch 1 p) M (zru T pl (zdv ch 1 p 0))) w, 0, 0) := eX8_figures_t (mx := 1) C hp hpl (by decide) hx
theorem eX8_figures_t2 {G : zG} {ia : Nat → Int → Int} {w : (Nat → Int → Int) × (Nat → Int → Int)} {ch T : Int → Int} {L p M pl : Int} (C : zTc ia ch L) (hp : 0 ≤ p ∧ p ≤ L) (hpl : 0 ≤ pl ∧ pl < 155) (hx : 48 ≤ ch p ∧ ch p ≤ 57) : Ev G mX8_figures 0 [(1, 24), (0, pl), (0, 2), (9, 0)] [] (zH (zTd ia p M T) w) (.inl (some (0, 1)), zH (zTd ia (zdn ch 2 p) M (zru T pl (zdv ch 2 p 0))) w, 0, 0) := eX8_figures_t (mx := 2) C hp hpl (by decide) hx
theorem eX8_figures_t3 {G : zG} {ia : Nat → Int → Int} {w : (Nat → Int → Int) × (Nat → Int → Int)} {ch T : Int → Int} {L p M pl : Int} (C : zTc ia ch L) (hp : 0 ≤ p ∧ p ≤ L) (hpl : 0 ≤ pl ∧ pl < 155) (hx : 48 ≤ ch p ∧ ch p ≤ 57) : Ev G mX8_figures 0 [(1, 24), (0, pl), (0, 3), (9, 0)] [] (zH (zTd ia p M T) w) (.inl (some (0, 1)), zH (zTd ia (zdn ch 3 p) M (zru T pl (zdv ch 3 p 0))) w, 0, 0) := eX8_figures_t (mx := 3) C hp hpl (by decide) hx
theorem zdn_ne {ch : Int → Int} {n : Nat} {p : Int} (hn : 1 ≤ n) : zdn ch n p ≠ p ↔ 48 ≤ ch p ∧ ch p ≤ 57 := by
  obtain ⟨m, rfl⟩ : ∃ m, n = m + 1 := ⟨n - 1, by omega⟩
  by_cases h : 48 ≤ ch p ∧ ch p ≤ 57
  · have h2 := zdn_in (ch := ch) m (p + 1)
    rw [zdn_t h]
    exact ⟨fun _ => h, fun _ => by omega⟩
  · rw [zdn_f h]
    exact ⟨fun e => absurd rfl e, fun e => absurd e h⟩
theorem zpt_n0 {f ch : Int → Int} {n m : Nat} {j p pl : Int} {nf : Int → Int} (h : ¬ (48 ≤ ch p ∧ ch p ≤ 57)) (hf : f j = 48 + m) (hm : 1 ≤ m ∧ m ≤ 9) : zpt f ch (n + 1) j p pl nf = (p, 0, zup nf pl (zdv ch m p 0)) := by
  have e : (f j - 48).toNat = m := by omega
  have h9 : ¬ zdn ch m p ≠ p := fun e => h ((zdn_ne hm.1).mp e)
  rw [zpt_s, if_pos (by omega), e, if_pos (by omega)]
theorem zpt_n1 {f ch : Int → Int} {n m : Nat} {j p pl : Int} {nf : Int → Int} (h : 48 ≤ ch p ∧ ch p ≤ 57) (hf : f j = 48 + m) (hm : 1 ≤ m ∧ m ≤ 9) : zpt f ch (n + 1) j p pl nf = zpt f ch n (j + 1) (zdn ch m p) (pl + 1) (zup nf pl (zdv ch m p 0)) := by
  have e : (f j - 48).toNat = m := by omega
  rw [zpt_s, if_pos (by omega), e, if_neg ((zdn_ne hm.1).mpr h)]
theorem zpt_s1 {f ch : Int → Int} {n : Nat} {j p pl c : Int} {nf : Int → Int} (h : ch p = c) (hf : f j = c) (hs : ¬ (48 ≤ c ∧ c ≤ 57)) : zpt f ch (n + 1) j p pl nf = zpt f ch n (j + 1) (p + 1) pl nf := by
  rw [zpt_s, hf, if_neg hs, if_pos h]
theorem zpt_s0 {f ch : Int → Int} {n : Nat} {j p pl c : Int} {nf : Int → Int} (h : ch p ≠ c) (hf : f j = c) (hs : ¬ (48 ≤ c ∧ c ≤ 57)) : zpt f ch (n + 1) j p pl nf = (p, 0, nf) := by
  rw [zpt_s, hf, if_neg hs, if_neg h]
theorem zrd_l {ch : Int → Int} {p x : Int} {nf : Int → Int} (h : ch p = x) (hx : zfL x ≠ []) : zrd ch p nf = zpt (zfl (zfL x)) ch (zfL x).length 0 (p + 1) 0 nf := by
  unfold zrd
  rw [h, if_neg hx]
theorem zpr {a b a9 b9 : Int} {c c9 : Int → Int} (h : (a, b, c) = (a9, b9, c9)) : a = a9 ∧ b = b9 ∧ c = c9 := by
  have h2 := congrArg Prod.snd h
  exact ⟨congrArg Prod.fst h, congrArg Prod.fst h2, congrArg Prod.snd h2⟩
/-- how many numbers a command has -/
def zcn (x : Int) : Int := if x = 119 then 3 else if x = 103 then 4 else if x = 121 then 1 else 2
/-- the command m is told as the class reads it -/
def zmt (ch T : Int → Int) (m p : Int) (mf : Int → Int) : Prop := T (5 * m) = ch p ∧ ∀ j : Int, 0 ≤ j → j < zcn (ch p) → T (5 * m + 1 + j) = mf j
theorem eX8_cmd_121 {G : zG} {ia : Nat → Int → Int} {w : (Nat → Int → Int) × (Nat → Int → Int)} {ch T nf mf : Int → Int} {L p M q b : Int} (C : zTc ia ch L) (hp : 0 ≤ p ∧ p ≤ L) (hM : 0 ≤ M ∧ M ≤ 30) (hc : ch p = 121) (hR : zrd ch p nf = (q, b, mf)) : ∃ T9 : Int → Int, (∀ i : Int, ¬ (5 * M ≤ i ∧ i < 5 * M + 5) → T9 i = T i) ∧ (b = 1 → zmt ch T9 M p mf) ∧ Ev G mX8_commandHere 0 [(1, 24), (9, 0)] [] (zH (zTd ia p M T) w) (.inl (some (0, b)), zH (zTd ia q M T9) w, 0, 0) := by
  have hL := C.2.1
  have hh := zhr_is C hp
  have hz := C.2.2.2
  rw [zrd_l hc (by decide), show zfL 121 = [50] from rfl, show ([50] : List Int).length = 1 from rfl] at hR
  have e1 : zhr ch L p = 121 := by omega
  by_cases c0 : 48 ≤ ch (p + 1) ∧ ch (p + 1) ≤ 57
  · rw [zpt_n1 (m := 2) c0 (by decide) (by decide)] at hR
    have u0 := zdn_in (ch := ch) 2 (p + 1)
    have v0 := zdn_len (ch := ch) hz 2 (p + 1) (by omega)
    rw [zpt_0] at hR
    obtain ⟨rfl, rfl, rfl⟩ := zpr hR
    refine ⟨(zru (zru T (5 * M) (zhr ch L p)) ((5 * M) + 1) (zdv ch 2 (p + 1) 0)), fun i hi => ?_, fun e9 => ?_, ?_⟩
    · rw [zru_ne (by omega), zru_ne (by omega)]
    · refine ⟨by rw [zru_ne (by omega), zru_eq, e1, hc], fun j h1 h2 => ?_⟩
      rw [hc, show zcn 121 = 1 from rfl] at h2
      have h3 : j = 0 := by omega
      subst h3
      · rw [zru_at (by omega)]
        exact (by first | rfl | simp [zup])
    · refine Ev.iconst fX8_commandHere_0 ?_
      refine Ev.aload_n_1 fX8_commandHere_1 rfl ?_
      refine Ev.gI 24 21 (v := M) fX8_commandHere_2 (flX8_162 rfl) rfl rfl rfl ?_
      refine Ev.imul fX8_commandHere_5 ?_
      refine Ev.sistore_n [(1, 24), (0, (5 * M))] fX8_commandHere_6 rfl rfl ?_
      refine Ev.aload_n_1 fX8_commandHere_7 rfl ?_
      refine Ev.gR 24 20 33 fX8_commandHere_8 (flX8_39 rfl) rfl rfl rfl ?_
      refine Ev.iload_n fX8_commandHere_11 rfl ?_
      refine Ev.aload_n_1 fX8_commandHere_12 rfl ?_
      refine Ev.cVi 24 [] [(0, (5 * M)), (1, 33)] fX8_commandHere_13 lkX8_commandHere_158 8 TX8 22 rfl rfl rfl (eX8_here C ⟨by omega, by omega⟩) ?_
      refine Ev.stI 33 155 fX8_commandHere_16 rfl rfl ⟨by omega, by omega⟩ ?_
      rw [zTd_t]
      refine Ev.aload_n_1 fX8_commandHere_17 rfl ?_
      refine Ev.bipush fX8_commandHere_18 rfl ?_
      refine Ev.cVi 24 [(0, 121)] [] fX8_commandHere_20 lkX8_commandHere_165 8 TX8 22 rfl rfl rfl (eX8_skips_t C ⟨by omega, by omega⟩ (by decide) (by omega)) ?_
      refine Ev.if_eq fX8_commandHere_23 rfl (by decide) (fun h23 => by exfalso; revert h23; decide) (fun h23 => ?_)
      refine Ev.aload_n_1 fX8_commandHere_26 rfl ?_
      refine Ev.iload_n fX8_commandHere_27 rfl ?_
      refine Ev.iconst fX8_commandHere_28 ?_
      refine Ev.iadd fX8_commandHere_29 ?_
      refine Ev.iconst fX8_commandHere_30 ?_
      refine Ev.cVi 24 [(0, ((5 * M) + 1)), (0, 2)] [] fX8_commandHere_31 lkX8_commandHere_168 8 TX8 22 rfl rfl rfl (eX8_figures_t2 C ⟨by omega, by omega⟩ ⟨by omega, by omega⟩ c0) ?_
      exact Ev.zZ fX8_commandHere_34 rfl (by first | exact Or.inl rfl | exact Or.inr rfl) rfl
  · rw [zpt_n0 (m := 2) c0 (by decide) (by decide)] at hR
    obtain ⟨rfl, rfl, rfl⟩ := zpr hR
    refine ⟨(zru T (5 * M) (zhr ch L p)), fun i hi => ?_, fun e9 => ?_, ?_⟩
    · rw [zru_ne (by omega)]
    · exact absurd e9 (by decide)
    · refine Ev.iconst fX8_commandHere_0 ?_
      refine Ev.aload_n_1 fX8_commandHere_1 rfl ?_
      refine Ev.gI 24 21 (v := M) fX8_commandHere_2 (flX8_162 rfl) rfl rfl rfl ?_
      refine Ev.imul fX8_commandHere_5 ?_
      refine Ev.sistore_n [(1, 24), (0, (5 * M))] fX8_commandHere_6 rfl rfl ?_
      refine Ev.aload_n_1 fX8_commandHere_7 rfl ?_
      refine Ev.gR 24 20 33 fX8_commandHere_8 (flX8_39 rfl) rfl rfl rfl ?_
      refine Ev.iload_n fX8_commandHere_11 rfl ?_
      refine Ev.aload_n_1 fX8_commandHere_12 rfl ?_
      refine Ev.cVi 24 [] [(0, (5 * M)), (1, 33)] fX8_commandHere_13 lkX8_commandHere_158 8 TX8 22 rfl rfl rfl (eX8_here C ⟨by omega, by omega⟩) ?_
      refine Ev.stI 33 155 fX8_commandHere_16 rfl rfl ⟨by omega, by omega⟩ ?_
      rw [zTd_t]
      refine Ev.aload_n_1 fX8_commandHere_17 rfl ?_
      refine Ev.bipush fX8_commandHere_18 rfl ?_
      refine Ev.cVi 24 [(0, 121)] [] fX8_commandHere_20 lkX8_commandHere_165 8 TX8 22 rfl rfl rfl (eX8_skips_t C ⟨by omega, by omega⟩ (by decide) (by omega)) ?_
      refine Ev.if_eq fX8_commandHere_23 rfl (by decide) (fun h23 => by exfalso; revert h23; decide) (fun h23 => ?_)
      refine Ev.aload_n_1 fX8_commandHere_26 rfl ?_
      refine Ev.iload_n fX8_commandHere_27 rfl ?_
      refine Ev.iconst fX8_commandHere_28 ?_
      refine Ev.iadd fX8_commandHere_29 ?_
      refine Ev.iconst fX8_commandHere_30 ?_
      refine Ev.cVi 24 [(0, ((5 * M) + 1)), (0, 2)] [] fX8_commandHere_31 lkX8_commandHere_168 8 TX8 22 rfl rfl rfl (eX8_figures_f C ⟨by omega, by omega⟩ c0) ?_
      exact Ev.zZ fX8_commandHere_34 rfl (by first | exact Or.inl rfl | exact Or.inr rfl) rfl
theorem eX8_cmd_119 {G : zG} {ia : Nat → Int → Int} {w : (Nat → Int → Int) × (Nat → Int → Int)} {ch T nf mf : Int → Int} {L p M q b : Int} (C : zTc ia ch L) (hp : 0 ≤ p ∧ p ≤ L) (hM : 0 ≤ M ∧ M ≤ 30) (hc : ch p = 119) (hR : zrd ch p nf = (q, b, mf)) : ∃ T9 : Int → Int, (∀ i : Int, ¬ (5 * M ≤ i ∧ i < 5 * M + 5) → T9 i = T i) ∧ (b = 1 → zmt ch T9 M p mf) ∧ Ev G mX8_commandHere 0 [(1, 24), (9, 0)] [] (zH (zTd ia p M T) w) (.inl (some (0, b)), zH (zTd ia q M T9) w, 0, 0) := by
  have hL := C.2.1
  have hh := zhr_is C hp
  have hz := C.2.2.2
  rw [zrd_l hc (by decide), show zfL 119 = [49, 47, 50, 61, 51] from rfl, show ([49, 47, 50, 61, 51] : List Int).length = 5 from rfl] at hR
  have e1 : zhr ch L p = 119 := by omega
  by_cases c0 : 48 ≤ ch (p + 1) ∧ ch (p + 1) ≤ 57
  · rw [zpt_n1 (m := 1) c0 (by decide) (by decide)] at hR
    have u0 := zdn_in (ch := ch) 1 (p + 1)
    have v0 := zdn_len (ch := ch) hz 1 (p + 1) (by omega)
    by_cases c1 : ch (zdn ch 1 (p + 1)) = 47
    · rw [zpt_s1 c1 (by decide) (by decide)] at hR
      have w1 : (zdn ch 1 (p + 1)) < L := by
        have := hz (zdn ch 1 (p + 1))
        omega
      by_cases c2 : 48 ≤ ch ((zdn ch 1 (p + 1)) + 1) ∧ ch ((zdn ch 1 (p + 1)) + 1) ≤ 57
      · rw [zpt_n1 (m := 2) c2 (by decide) (by decide)] at hR
        have u2 := zdn_in (ch := ch) 2 ((zdn ch 1 (p + 1)) + 1)
        have v2 := zdn_len (ch := ch) hz 2 ((zdn ch 1 (p + 1)) + 1) (by omega)
        by_cases c3 : ch (zdn ch 2 ((zdn ch 1 (p + 1)) + 1)) = 61
        · rw [zpt_s1 c3 (by decide) (by decide)] at hR
          have w3 : (zdn ch 2 ((zdn ch 1 (p + 1)) + 1)) < L := by
            have := hz (zdn ch 2 ((zdn ch 1 (p + 1)) + 1))
            omega
          by_cases c4 : 48 ≤ ch ((zdn ch 2 ((zdn ch 1 (p + 1)) + 1)) + 1) ∧ ch ((zdn ch 2 ((zdn ch 1 (p + 1)) + 1)) + 1) ≤ 57
          · rw [zpt_n1 (m := 3) c4 (by decide) (by decide)] at hR
            have u4 := zdn_in (ch := ch) 3 ((zdn ch 2 ((zdn ch 1 (p + 1)) + 1)) + 1)
            have v4 := zdn_len (ch := ch) hz 3 ((zdn ch 2 ((zdn ch 1 (p + 1)) + 1)) + 1) (by omega)
            rw [zpt_0] at hR
            obtain ⟨rfl, rfl, rfl⟩ := zpr hR
            refine ⟨(zru (zru (zru (zru T (5 * M) (zhr ch L p)) ((5 * M) + 1) (zdv ch 1 (p + 1) 0)) ((5 * M) + 2) (zdv ch 2 ((zdn ch 1 (p + 1)) + 1) 0)) ((5 * M) + 3) (zdv ch 3 ((zdn ch 2 ((zdn ch 1 (p + 1)) + 1)) + 1) 0)), fun i hi => ?_, fun e9 => ?_, ?_⟩
            · rw [zru_ne (by omega), zru_ne (by omega), zru_ne (by omega), zru_ne (by omega)]
            · refine ⟨by rw [zru_ne (by omega), zru_ne (by omega), zru_ne (by omega), zru_eq, e1, hc], fun j h1 h2 => ?_⟩
              rw [hc, show zcn 119 = 3 from rfl] at h2
              have h3 : j = 0 ∨ j = 1 ∨ j = 2 := by omega
              rcases h3 with rfl | rfl | rfl
              · rw [zru_ne (by omega), zru_ne (by omega), zru_at (by omega)]
                exact (by first | rfl | simp [zup])
              · rw [zru_ne (by omega), zru_at (by omega)]
                exact (by first | rfl | simp [zup])
              · rw [zru_at (by omega)]
                exact (by first | rfl | simp [zup])
            · refine Ev.iconst fX8_commandHere_0 ?_
              refine Ev.aload_n_1 fX8_commandHere_1 rfl ?_
              refine Ev.gI 24 21 (v := M) fX8_commandHere_2 (flX8_162 rfl) rfl rfl rfl ?_
              refine Ev.imul fX8_commandHere_5 ?_
              refine Ev.sistore_n [(1, 24), (0, (5 * M))] fX8_commandHere_6 rfl rfl ?_
              refine Ev.aload_n_1 fX8_commandHere_7 rfl ?_
              refine Ev.gR 24 20 33 fX8_commandHere_8 (flX8_39 rfl) rfl rfl rfl ?_
              refine Ev.iload_n fX8_commandHere_11 rfl ?_
              refine Ev.aload_n_1 fX8_commandHere_12 rfl ?_
              refine Ev.cVi 24 [] [(0, (5 * M)), (1, 33)] fX8_commandHere_13 lkX8_commandHere_158 8 TX8 22 rfl rfl rfl (eX8_here C ⟨by omega, by omega⟩) ?_
              refine Ev.stI 33 155 fX8_commandHere_16 rfl rfl ⟨by omega, by omega⟩ ?_
              rw [zTd_t]
              refine Ev.aload_n_1 fX8_commandHere_17 rfl ?_
              refine Ev.bipush fX8_commandHere_18 rfl ?_
              refine Ev.cVi 24 [(0, 121)] [] fX8_commandHere_20 lkX8_commandHere_165 8 TX8 22 rfl rfl rfl (eX8_skips_f C ⟨by omega, by omega⟩ (by decide) (by omega)) ?_
              refine Ev.if_eq fX8_commandHere_23 rfl (by decide) (fun h23 => ?_) (fun h23 => by exfalso; revert h23; decide)
              refine Ev.aload_n_1 fX8_commandHere_35 rfl ?_
              refine Ev.bipush fX8_commandHere_36 rfl ?_
              refine Ev.cVi 24 [(0, 119)] [] fX8_commandHere_38 lkX8_commandHere_165 8 TX8 22 rfl rfl rfl (eX8_skips_t C ⟨by omega, by omega⟩ (by decide) (by omega)) ?_
              refine Ev.if_eq fX8_commandHere_41 rfl (by decide) (fun h41 => by exfalso; revert h41; decide) (fun h41 => ?_)
              refine Ev.aload_n_1 fX8_commandHere_44 rfl ?_
              refine Ev.iload_n fX8_commandHere_45 rfl ?_
              refine Ev.iconst fX8_commandHere_46 ?_
              refine Ev.iadd fX8_commandHere_47 ?_
              refine Ev.iconst fX8_commandHere_48 ?_
              refine Ev.cVi 24 [(0, ((5 * M) + 1)), (0, 1)] [] fX8_commandHere_49 lkX8_commandHere_168 8 TX8 22 rfl rfl rfl (eX8_figures_t1 C ⟨by omega, by omega⟩ ⟨by omega, by omega⟩ c0) ?_
              refine Ev.if_eq fX8_commandHere_52 rfl (by decide) (fun h52 => by exfalso; revert h52; decide) (fun h52 => ?_)
              refine Ev.aload_n_1 fX8_commandHere_55 rfl ?_
              refine Ev.bipush fX8_commandHere_56 rfl ?_
              refine Ev.cVi 24 [(0, 47)] [] fX8_commandHere_58 lkX8_commandHere_165 8 TX8 22 rfl rfl rfl (eX8_skips_t C ⟨by omega, by omega⟩ (by decide) (by omega)) ?_
              refine Ev.if_eq fX8_commandHere_61 rfl (by decide) (fun h61 => by exfalso; revert h61; decide) (fun h61 => ?_)
              refine Ev.aload_n_1 fX8_commandHere_64 rfl ?_
              refine Ev.iload_n fX8_commandHere_65 rfl ?_
              refine Ev.iconst fX8_commandHere_66 ?_
              refine Ev.iadd fX8_commandHere_67 ?_
              refine Ev.iconst fX8_commandHere_68 ?_
              refine Ev.cVi 24 [(0, ((5 * M) + 2)), (0, 2)] [] fX8_commandHere_69 lkX8_commandHere_168 8 TX8 22 rfl rfl rfl (eX8_figures_t2 C ⟨by omega, by omega⟩ ⟨by omega, by omega⟩ c2) ?_
              refine Ev.if_eq fX8_commandHere_72 rfl (by decide) (fun h72 => by exfalso; revert h72; decide) (fun h72 => ?_)
              refine Ev.aload_n_1 fX8_commandHere_75 rfl ?_
              refine Ev.bipush fX8_commandHere_76 rfl ?_
              refine Ev.cVi 24 [(0, 61)] [] fX8_commandHere_78 lkX8_commandHere_165 8 TX8 22 rfl rfl rfl (eX8_skips_t C ⟨by omega, by omega⟩ (by decide) (by omega)) ?_
              refine Ev.if_eq fX8_commandHere_81 rfl (by decide) (fun h81 => by exfalso; revert h81; decide) (fun h81 => ?_)
              refine Ev.aload_n_1 fX8_commandHere_84 rfl ?_
              refine Ev.iload_n fX8_commandHere_85 rfl ?_
              refine Ev.iconst fX8_commandHere_86 ?_
              refine Ev.iadd fX8_commandHere_87 ?_
              refine Ev.iconst fX8_commandHere_88 ?_
              refine Ev.cVi 24 [(0, ((5 * M) + 3)), (0, 3)] [] fX8_commandHere_89 lkX8_commandHere_168 8 TX8 22 rfl rfl rfl (eX8_figures_t3 C ⟨by omega, by omega⟩ ⟨by omega, by omega⟩ c4) ?_
              refine Ev.if_eq fX8_commandHere_92 rfl (by decide) (fun h92 => by exfalso; revert h92; decide) (fun h92 => ?_)
              refine Ev.iconst fX8_commandHere_95 ?_
              refine Ev.goto fX8_commandHere_96 rfl ?_
              exact Ev.zZ fX8_commandHere_100 rfl (by first | exact Or.inl rfl | exact Or.inr rfl) rfl
          · rw [zpt_n0 (m := 3) c4 (by decide) (by decide)] at hR
            obtain ⟨rfl, rfl, rfl⟩ := zpr hR
            refine ⟨(zru (zru (zru T (5 * M) (zhr ch L p)) ((5 * M) + 1) (zdv ch 1 (p + 1) 0)) ((5 * M) + 2) (zdv ch 2 ((zdn ch 1 (p + 1)) + 1) 0)), fun i hi => ?_, fun e9 => ?_, ?_⟩
            · rw [zru_ne (by omega), zru_ne (by omega), zru_ne (by omega)]
            · exact absurd e9 (by decide)
            · refine Ev.iconst fX8_commandHere_0 ?_
              refine Ev.aload_n_1 fX8_commandHere_1 rfl ?_
              refine Ev.gI 24 21 (v := M) fX8_commandHere_2 (flX8_162 rfl) rfl rfl rfl ?_
              refine Ev.imul fX8_commandHere_5 ?_
              refine Ev.sistore_n [(1, 24), (0, (5 * M))] fX8_commandHere_6 rfl rfl ?_
              refine Ev.aload_n_1 fX8_commandHere_7 rfl ?_
              refine Ev.gR 24 20 33 fX8_commandHere_8 (flX8_39 rfl) rfl rfl rfl ?_
              refine Ev.iload_n fX8_commandHere_11 rfl ?_
              refine Ev.aload_n_1 fX8_commandHere_12 rfl ?_
              refine Ev.cVi 24 [] [(0, (5 * M)), (1, 33)] fX8_commandHere_13 lkX8_commandHere_158 8 TX8 22 rfl rfl rfl (eX8_here C ⟨by omega, by omega⟩) ?_
              refine Ev.stI 33 155 fX8_commandHere_16 rfl rfl ⟨by omega, by omega⟩ ?_
              rw [zTd_t]
              refine Ev.aload_n_1 fX8_commandHere_17 rfl ?_
              refine Ev.bipush fX8_commandHere_18 rfl ?_
              refine Ev.cVi 24 [(0, 121)] [] fX8_commandHere_20 lkX8_commandHere_165 8 TX8 22 rfl rfl rfl (eX8_skips_f C ⟨by omega, by omega⟩ (by decide) (by omega)) ?_
              refine Ev.if_eq fX8_commandHere_23 rfl (by decide) (fun h23 => ?_) (fun h23 => by exfalso; revert h23; decide)
              refine Ev.aload_n_1 fX8_commandHere_35 rfl ?_
              refine Ev.bipush fX8_commandHere_36 rfl ?_
              refine Ev.cVi 24 [(0, 119)] [] fX8_commandHere_38 lkX8_commandHere_165 8 TX8 22 rfl rfl rfl (eX8_skips_t C ⟨by omega, by omega⟩ (by decide) (by omega)) ?_
              refine Ev.if_eq fX8_commandHere_41 rfl (by decide) (fun h41 => by exfalso; revert h41; decide) (fun h41 => ?_)
              refine Ev.aload_n_1 fX8_commandHere_44 rfl ?_
              refine Ev.iload_n fX8_commandHere_45 rfl ?_
              refine Ev.iconst fX8_commandHere_46 ?_
              refine Ev.iadd fX8_commandHere_47 ?_
              refine Ev.iconst fX8_commandHere_48 ?_
              refine Ev.cVi 24 [(0, ((5 * M) + 1)), (0, 1)] [] fX8_commandHere_49 lkX8_commandHere_168 8 TX8 22 rfl rfl rfl (eX8_figures_t1 C ⟨by omega, by omega⟩ ⟨by omega, by omega⟩ c0) ?_
              refine Ev.if_eq fX8_commandHere_52 rfl (by decide) (fun h52 => by exfalso; revert h52; decide) (fun h52 => ?_)
              refine Ev.aload_n_1 fX8_commandHere_55 rfl ?_
              refine Ev.bipush fX8_commandHere_56 rfl ?_
              refine Ev.cVi 24 [(0, 47)] [] fX8_commandHere_58 lkX8_commandHere_165 8 TX8 22 rfl rfl rfl (eX8_skips_t C ⟨by omega, by omega⟩ (by decide) (by omega)) ?_
              refine Ev.if_eq fX8_commandHere_61 rfl (by decide) (fun h61 => by exfalso; revert h61; decide) (fun h61 => ?_)
              refine Ev.aload_n_1 fX8_commandHere_64 rfl ?_
              refine Ev.iload_n fX8_commandHere_65 rfl ?_
              refine Ev.iconst fX8_commandHere_66 ?_
              refine Ev.iadd fX8_commandHere_67 ?_
              refine Ev.iconst fX8_commandHere_68 ?_
              refine Ev.cVi 24 [(0, ((5 * M) + 2)), (0, 2)] [] fX8_commandHere_69 lkX8_commandHere_168 8 TX8 22 rfl rfl rfl (eX8_figures_t2 C ⟨by omega, by omega⟩ ⟨by omega, by omega⟩ c2) ?_
              refine Ev.if_eq fX8_commandHere_72 rfl (by decide) (fun h72 => by exfalso; revert h72; decide) (fun h72 => ?_)
              refine Ev.aload_n_1 fX8_commandHere_75 rfl ?_
              refine Ev.bipush fX8_commandHere_76 rfl ?_
              refine Ev.cVi 24 [(0, 61)] [] fX8_commandHere_78 lkX8_commandHere_165 8 TX8 22 rfl rfl rfl (eX8_skips_t C ⟨by omega, by omega⟩ (by decide) (by omega)) ?_
              refine Ev.if_eq fX8_commandHere_81 rfl (by decide) (fun h81 => by exfalso; revert h81; decide) (fun h81 => ?_)
              refine Ev.aload_n_1 fX8_commandHere_84 rfl ?_
              refine Ev.iload_n fX8_commandHere_85 rfl ?_
              refine Ev.iconst fX8_commandHere_86 ?_
              refine Ev.iadd fX8_commandHere_87 ?_
              refine Ev.iconst fX8_commandHere_88 ?_
              refine Ev.cVi 24 [(0, ((5 * M) + 3)), (0, 3)] [] fX8_commandHere_89 lkX8_commandHere_168 8 TX8 22 rfl rfl rfl (eX8_figures_f C ⟨by omega, by omega⟩ c4) ?_
              refine Ev.if_eq fX8_commandHere_92 rfl (by decide) (fun h92 => ?_) (fun h92 => by exfalso; revert h92; decide)
              refine Ev.iconst fX8_commandHere_99 ?_
              exact Ev.zZ fX8_commandHere_100 rfl (by first | exact Or.inl rfl | exact Or.inr rfl) rfl
        · rw [zpt_s0 c3 (by decide) (by decide)] at hR
          obtain ⟨rfl, rfl, rfl⟩ := zpr hR
          refine ⟨(zru (zru (zru T (5 * M) (zhr ch L p)) ((5 * M) + 1) (zdv ch 1 (p + 1) 0)) ((5 * M) + 2) (zdv ch 2 ((zdn ch 1 (p + 1)) + 1) 0)), fun i hi => ?_, fun e9 => ?_, ?_⟩
          · rw [zru_ne (by omega), zru_ne (by omega), zru_ne (by omega)]
          · exact absurd e9 (by decide)
          · refine Ev.iconst fX8_commandHere_0 ?_
            refine Ev.aload_n_1 fX8_commandHere_1 rfl ?_
            refine Ev.gI 24 21 (v := M) fX8_commandHere_2 (flX8_162 rfl) rfl rfl rfl ?_
            refine Ev.imul fX8_commandHere_5 ?_
            refine Ev.sistore_n [(1, 24), (0, (5 * M))] fX8_commandHere_6 rfl rfl ?_
            refine Ev.aload_n_1 fX8_commandHere_7 rfl ?_
            refine Ev.gR 24 20 33 fX8_commandHere_8 (flX8_39 rfl) rfl rfl rfl ?_
            refine Ev.iload_n fX8_commandHere_11 rfl ?_
            refine Ev.aload_n_1 fX8_commandHere_12 rfl ?_
            refine Ev.cVi 24 [] [(0, (5 * M)), (1, 33)] fX8_commandHere_13 lkX8_commandHere_158 8 TX8 22 rfl rfl rfl (eX8_here C ⟨by omega, by omega⟩) ?_
            refine Ev.stI 33 155 fX8_commandHere_16 rfl rfl ⟨by omega, by omega⟩ ?_
            rw [zTd_t]
            refine Ev.aload_n_1 fX8_commandHere_17 rfl ?_
            refine Ev.bipush fX8_commandHere_18 rfl ?_
            refine Ev.cVi 24 [(0, 121)] [] fX8_commandHere_20 lkX8_commandHere_165 8 TX8 22 rfl rfl rfl (eX8_skips_f C ⟨by omega, by omega⟩ (by decide) (by omega)) ?_
            refine Ev.if_eq fX8_commandHere_23 rfl (by decide) (fun h23 => ?_) (fun h23 => by exfalso; revert h23; decide)
            refine Ev.aload_n_1 fX8_commandHere_35 rfl ?_
            refine Ev.bipush fX8_commandHere_36 rfl ?_
            refine Ev.cVi 24 [(0, 119)] [] fX8_commandHere_38 lkX8_commandHere_165 8 TX8 22 rfl rfl rfl (eX8_skips_t C ⟨by omega, by omega⟩ (by decide) (by omega)) ?_
            refine Ev.if_eq fX8_commandHere_41 rfl (by decide) (fun h41 => by exfalso; revert h41; decide) (fun h41 => ?_)
            refine Ev.aload_n_1 fX8_commandHere_44 rfl ?_
            refine Ev.iload_n fX8_commandHere_45 rfl ?_
            refine Ev.iconst fX8_commandHere_46 ?_
            refine Ev.iadd fX8_commandHere_47 ?_
            refine Ev.iconst fX8_commandHere_48 ?_
            refine Ev.cVi 24 [(0, ((5 * M) + 1)), (0, 1)] [] fX8_commandHere_49 lkX8_commandHere_168 8 TX8 22 rfl rfl rfl (eX8_figures_t1 C ⟨by omega, by omega⟩ ⟨by omega, by omega⟩ c0) ?_
            refine Ev.if_eq fX8_commandHere_52 rfl (by decide) (fun h52 => by exfalso; revert h52; decide) (fun h52 => ?_)
            refine Ev.aload_n_1 fX8_commandHere_55 rfl ?_
            refine Ev.bipush fX8_commandHere_56 rfl ?_
            refine Ev.cVi 24 [(0, 47)] [] fX8_commandHere_58 lkX8_commandHere_165 8 TX8 22 rfl rfl rfl (eX8_skips_t C ⟨by omega, by omega⟩ (by decide) (by omega)) ?_
            refine Ev.if_eq fX8_commandHere_61 rfl (by decide) (fun h61 => by exfalso; revert h61; decide) (fun h61 => ?_)
            refine Ev.aload_n_1 fX8_commandHere_64 rfl ?_
            refine Ev.iload_n fX8_commandHere_65 rfl ?_
            refine Ev.iconst fX8_commandHere_66 ?_
            refine Ev.iadd fX8_commandHere_67 ?_
            refine Ev.iconst fX8_commandHere_68 ?_
            refine Ev.cVi 24 [(0, ((5 * M) + 2)), (0, 2)] [] fX8_commandHere_69 lkX8_commandHere_168 8 TX8 22 rfl rfl rfl (eX8_figures_t2 C ⟨by omega, by omega⟩ ⟨by omega, by omega⟩ c2) ?_
            refine Ev.if_eq fX8_commandHere_72 rfl (by decide) (fun h72 => by exfalso; revert h72; decide) (fun h72 => ?_)
            refine Ev.aload_n_1 fX8_commandHere_75 rfl ?_
            refine Ev.bipush fX8_commandHere_76 rfl ?_
            refine Ev.cVi 24 [(0, 61)] [] fX8_commandHere_78 lkX8_commandHere_165 8 TX8 22 rfl rfl rfl (eX8_skips_f C ⟨by omega, by omega⟩ (by decide) (by omega)) ?_
            refine Ev.if_eq fX8_commandHere_81 rfl (by decide) (fun h81 => ?_) (fun h81 => by exfalso; revert h81; decide)
            refine Ev.iconst fX8_commandHere_99 ?_
            exact Ev.zZ fX8_commandHere_100 rfl (by first | exact Or.inl rfl | exact Or.inr rfl) rfl
      · rw [zpt_n0 (m := 2) c2 (by decide) (by decide)] at hR
        obtain ⟨rfl, rfl, rfl⟩ := zpr hR
        refine ⟨(zru (zru T (5 * M) (zhr ch L p)) ((5 * M) + 1) (zdv ch 1 (p + 1) 0)), fun i hi => ?_, fun e9 => ?_, ?_⟩
        · rw [zru_ne (by omega), zru_ne (by omega)]
        · exact absurd e9 (by decide)
        · refine Ev.iconst fX8_commandHere_0 ?_
          refine Ev.aload_n_1 fX8_commandHere_1 rfl ?_
          refine Ev.gI 24 21 (v := M) fX8_commandHere_2 (flX8_162 rfl) rfl rfl rfl ?_
          refine Ev.imul fX8_commandHere_5 ?_
          refine Ev.sistore_n [(1, 24), (0, (5 * M))] fX8_commandHere_6 rfl rfl ?_
          refine Ev.aload_n_1 fX8_commandHere_7 rfl ?_
          refine Ev.gR 24 20 33 fX8_commandHere_8 (flX8_39 rfl) rfl rfl rfl ?_
          refine Ev.iload_n fX8_commandHere_11 rfl ?_
          refine Ev.aload_n_1 fX8_commandHere_12 rfl ?_
          refine Ev.cVi 24 [] [(0, (5 * M)), (1, 33)] fX8_commandHere_13 lkX8_commandHere_158 8 TX8 22 rfl rfl rfl (eX8_here C ⟨by omega, by omega⟩) ?_
          refine Ev.stI 33 155 fX8_commandHere_16 rfl rfl ⟨by omega, by omega⟩ ?_
          rw [zTd_t]
          refine Ev.aload_n_1 fX8_commandHere_17 rfl ?_
          refine Ev.bipush fX8_commandHere_18 rfl ?_
          refine Ev.cVi 24 [(0, 121)] [] fX8_commandHere_20 lkX8_commandHere_165 8 TX8 22 rfl rfl rfl (eX8_skips_f C ⟨by omega, by omega⟩ (by decide) (by omega)) ?_
          refine Ev.if_eq fX8_commandHere_23 rfl (by decide) (fun h23 => ?_) (fun h23 => by exfalso; revert h23; decide)
          refine Ev.aload_n_1 fX8_commandHere_35 rfl ?_
          refine Ev.bipush fX8_commandHere_36 rfl ?_
          refine Ev.cVi 24 [(0, 119)] [] fX8_commandHere_38 lkX8_commandHere_165 8 TX8 22 rfl rfl rfl (eX8_skips_t C ⟨by omega, by omega⟩ (by decide) (by omega)) ?_
          refine Ev.if_eq fX8_commandHere_41 rfl (by decide) (fun h41 => by exfalso; revert h41; decide) (fun h41 => ?_)
          refine Ev.aload_n_1 fX8_commandHere_44 rfl ?_
          refine Ev.iload_n fX8_commandHere_45 rfl ?_
          refine Ev.iconst fX8_commandHere_46 ?_
          refine Ev.iadd fX8_commandHere_47 ?_
          refine Ev.iconst fX8_commandHere_48 ?_
          refine Ev.cVi 24 [(0, ((5 * M) + 1)), (0, 1)] [] fX8_commandHere_49 lkX8_commandHere_168 8 TX8 22 rfl rfl rfl (eX8_figures_t1 C ⟨by omega, by omega⟩ ⟨by omega, by omega⟩ c0) ?_
          refine Ev.if_eq fX8_commandHere_52 rfl (by decide) (fun h52 => by exfalso; revert h52; decide) (fun h52 => ?_)
          refine Ev.aload_n_1 fX8_commandHere_55 rfl ?_
          refine Ev.bipush fX8_commandHere_56 rfl ?_
          refine Ev.cVi 24 [(0, 47)] [] fX8_commandHere_58 lkX8_commandHere_165 8 TX8 22 rfl rfl rfl (eX8_skips_t C ⟨by omega, by omega⟩ (by decide) (by omega)) ?_
          refine Ev.if_eq fX8_commandHere_61 rfl (by decide) (fun h61 => by exfalso; revert h61; decide) (fun h61 => ?_)
          refine Ev.aload_n_1 fX8_commandHere_64 rfl ?_
          refine Ev.iload_n fX8_commandHere_65 rfl ?_
          refine Ev.iconst fX8_commandHere_66 ?_
          refine Ev.iadd fX8_commandHere_67 ?_
          refine Ev.iconst fX8_commandHere_68 ?_
          refine Ev.cVi 24 [(0, ((5 * M) + 2)), (0, 2)] [] fX8_commandHere_69 lkX8_commandHere_168 8 TX8 22 rfl rfl rfl (eX8_figures_f C ⟨by omega, by omega⟩ c2) ?_
          refine Ev.if_eq fX8_commandHere_72 rfl (by decide) (fun h72 => ?_) (fun h72 => by exfalso; revert h72; decide)
          refine Ev.iconst fX8_commandHere_99 ?_
          exact Ev.zZ fX8_commandHere_100 rfl (by first | exact Or.inl rfl | exact Or.inr rfl) rfl
    · rw [zpt_s0 c1 (by decide) (by decide)] at hR
      obtain ⟨rfl, rfl, rfl⟩ := zpr hR
      refine ⟨(zru (zru T (5 * M) (zhr ch L p)) ((5 * M) + 1) (zdv ch 1 (p + 1) 0)), fun i hi => ?_, fun e9 => ?_, ?_⟩
      · rw [zru_ne (by omega), zru_ne (by omega)]
      · exact absurd e9 (by decide)
      · refine Ev.iconst fX8_commandHere_0 ?_
        refine Ev.aload_n_1 fX8_commandHere_1 rfl ?_
        refine Ev.gI 24 21 (v := M) fX8_commandHere_2 (flX8_162 rfl) rfl rfl rfl ?_
        refine Ev.imul fX8_commandHere_5 ?_
        refine Ev.sistore_n [(1, 24), (0, (5 * M))] fX8_commandHere_6 rfl rfl ?_
        refine Ev.aload_n_1 fX8_commandHere_7 rfl ?_
        refine Ev.gR 24 20 33 fX8_commandHere_8 (flX8_39 rfl) rfl rfl rfl ?_
        refine Ev.iload_n fX8_commandHere_11 rfl ?_
        refine Ev.aload_n_1 fX8_commandHere_12 rfl ?_
        refine Ev.cVi 24 [] [(0, (5 * M)), (1, 33)] fX8_commandHere_13 lkX8_commandHere_158 8 TX8 22 rfl rfl rfl (eX8_here C ⟨by omega, by omega⟩) ?_
        refine Ev.stI 33 155 fX8_commandHere_16 rfl rfl ⟨by omega, by omega⟩ ?_
        rw [zTd_t]
        refine Ev.aload_n_1 fX8_commandHere_17 rfl ?_
        refine Ev.bipush fX8_commandHere_18 rfl ?_
        refine Ev.cVi 24 [(0, 121)] [] fX8_commandHere_20 lkX8_commandHere_165 8 TX8 22 rfl rfl rfl (eX8_skips_f C ⟨by omega, by omega⟩ (by decide) (by omega)) ?_
        refine Ev.if_eq fX8_commandHere_23 rfl (by decide) (fun h23 => ?_) (fun h23 => by exfalso; revert h23; decide)
        refine Ev.aload_n_1 fX8_commandHere_35 rfl ?_
        refine Ev.bipush fX8_commandHere_36 rfl ?_
        refine Ev.cVi 24 [(0, 119)] [] fX8_commandHere_38 lkX8_commandHere_165 8 TX8 22 rfl rfl rfl (eX8_skips_t C ⟨by omega, by omega⟩ (by decide) (by omega)) ?_
        refine Ev.if_eq fX8_commandHere_41 rfl (by decide) (fun h41 => by exfalso; revert h41; decide) (fun h41 => ?_)
        refine Ev.aload_n_1 fX8_commandHere_44 rfl ?_
        refine Ev.iload_n fX8_commandHere_45 rfl ?_
        refine Ev.iconst fX8_commandHere_46 ?_
        refine Ev.iadd fX8_commandHere_47 ?_
        refine Ev.iconst fX8_commandHere_48 ?_
        refine Ev.cVi 24 [(0, ((5 * M) + 1)), (0, 1)] [] fX8_commandHere_49 lkX8_commandHere_168 8 TX8 22 rfl rfl rfl (eX8_figures_t1 C ⟨by omega, by omega⟩ ⟨by omega, by omega⟩ c0) ?_
        refine Ev.if_eq fX8_commandHere_52 rfl (by decide) (fun h52 => by exfalso; revert h52; decide) (fun h52 => ?_)
        refine Ev.aload_n_1 fX8_commandHere_55 rfl ?_
        refine Ev.bipush fX8_commandHere_56 rfl ?_
        refine Ev.cVi 24 [(0, 47)] [] fX8_commandHere_58 lkX8_commandHere_165 8 TX8 22 rfl rfl rfl (eX8_skips_f C ⟨by omega, by omega⟩ (by decide) (by omega)) ?_
        refine Ev.if_eq fX8_commandHere_61 rfl (by decide) (fun h61 => ?_) (fun h61 => by exfalso; revert h61; decide)
        refine Ev.iconst fX8_commandHere_99 ?_
        exact Ev.zZ fX8_commandHere_100 rfl (by first | exact Or.inl rfl | exact Or.inr rfl) rfl
  · rw [zpt_n0 (m := 1) c0 (by decide) (by decide)] at hR
    obtain ⟨rfl, rfl, rfl⟩ := zpr hR
    refine ⟨(zru T (5 * M) (zhr ch L p)), fun i hi => ?_, fun e9 => ?_, ?_⟩
    · rw [zru_ne (by omega)]
    · exact absurd e9 (by decide)
    · refine Ev.iconst fX8_commandHere_0 ?_
      refine Ev.aload_n_1 fX8_commandHere_1 rfl ?_
      refine Ev.gI 24 21 (v := M) fX8_commandHere_2 (flX8_162 rfl) rfl rfl rfl ?_
      refine Ev.imul fX8_commandHere_5 ?_
      refine Ev.sistore_n [(1, 24), (0, (5 * M))] fX8_commandHere_6 rfl rfl ?_
      refine Ev.aload_n_1 fX8_commandHere_7 rfl ?_
      refine Ev.gR 24 20 33 fX8_commandHere_8 (flX8_39 rfl) rfl rfl rfl ?_
      refine Ev.iload_n fX8_commandHere_11 rfl ?_
      refine Ev.aload_n_1 fX8_commandHere_12 rfl ?_
      refine Ev.cVi 24 [] [(0, (5 * M)), (1, 33)] fX8_commandHere_13 lkX8_commandHere_158 8 TX8 22 rfl rfl rfl (eX8_here C ⟨by omega, by omega⟩) ?_
      refine Ev.stI 33 155 fX8_commandHere_16 rfl rfl ⟨by omega, by omega⟩ ?_
      rw [zTd_t]
      refine Ev.aload_n_1 fX8_commandHere_17 rfl ?_
      refine Ev.bipush fX8_commandHere_18 rfl ?_
      refine Ev.cVi 24 [(0, 121)] [] fX8_commandHere_20 lkX8_commandHere_165 8 TX8 22 rfl rfl rfl (eX8_skips_f C ⟨by omega, by omega⟩ (by decide) (by omega)) ?_
      refine Ev.if_eq fX8_commandHere_23 rfl (by decide) (fun h23 => ?_) (fun h23 => by exfalso; revert h23; decide)
      refine Ev.aload_n_1 fX8_commandHere_35 rfl ?_
      refine Ev.bipush fX8_commandHere_36 rfl ?_
      refine Ev.cVi 24 [(0, 119)] [] fX8_commandHere_38 lkX8_commandHere_165 8 TX8 22 rfl rfl rfl (eX8_skips_t C ⟨by omega, by omega⟩ (by decide) (by omega)) ?_
      refine Ev.if_eq fX8_commandHere_41 rfl (by decide) (fun h41 => by exfalso; revert h41; decide) (fun h41 => ?_)
      refine Ev.aload_n_1 fX8_commandHere_44 rfl ?_
      refine Ev.iload_n fX8_commandHere_45 rfl ?_
      refine Ev.iconst fX8_commandHere_46 ?_
      refine Ev.iadd fX8_commandHere_47 ?_
      refine Ev.iconst fX8_commandHere_48 ?_
      refine Ev.cVi 24 [(0, ((5 * M) + 1)), (0, 1)] [] fX8_commandHere_49 lkX8_commandHere_168 8 TX8 22 rfl rfl rfl (eX8_figures_f C ⟨by omega, by omega⟩ c0) ?_
      refine Ev.if_eq fX8_commandHere_52 rfl (by decide) (fun h52 => ?_) (fun h52 => by exfalso; revert h52; decide)
      refine Ev.iconst fX8_commandHere_99 ?_
      exact Ev.zZ fX8_commandHere_100 rfl (by first | exact Or.inl rfl | exact Or.inr rfl) rfl
theorem eX8_cmd_103 {G : zG} {ia : Nat → Int → Int} {w : (Nat → Int → Int) × (Nat → Int → Int)} {ch T nf mf : Int → Int} {L p M q b : Int} (C : zTc ia ch L) (hp : 0 ≤ p ∧ p ≤ L) (hM : 0 ≤ M ∧ M ≤ 30) (hc : ch p = 103) (hR : zrd ch p nf = (q, b, mf)) : ∃ T9 : Int → Int, (∀ i : Int, ¬ (5 * M ≤ i ∧ i < 5 * M + 5) → T9 i = T i) ∧ (b = 1 → zmt ch T9 M p mf) ∧ Ev G mX8_commandHere 0 [(1, 24), (9, 0)] [] (zH (zTd ia p M T) w) (.inl (some (0, b)), zH (zTd ia q M T9) w, 0, 0) := by
  have hL := C.2.1
  have hh := zhr_is C hp
  have hz := C.2.2.2
  rw [zrd_l hc (by decide), show zfL 103 = [49, 47, 50, 58, 50, 45, 50] from rfl, show ([49, 47, 50, 58, 50, 45, 50] : List Int).length = 7 from rfl] at hR
  have e1 : zhr ch L p = 103 := by omega
  by_cases c0 : 48 ≤ ch (p + 1) ∧ ch (p + 1) ≤ 57
  · rw [zpt_n1 (m := 1) c0 (by decide) (by decide)] at hR
    have u0 := zdn_in (ch := ch) 1 (p + 1)
    have v0 := zdn_len (ch := ch) hz 1 (p + 1) (by omega)
    by_cases c1 : ch (zdn ch 1 (p + 1)) = 47
    · rw [zpt_s1 c1 (by decide) (by decide)] at hR
      have w1 : (zdn ch 1 (p + 1)) < L := by
        have := hz (zdn ch 1 (p + 1))
        omega
      by_cases c2 : 48 ≤ ch ((zdn ch 1 (p + 1)) + 1) ∧ ch ((zdn ch 1 (p + 1)) + 1) ≤ 57
      · rw [zpt_n1 (m := 2) c2 (by decide) (by decide)] at hR
        have u2 := zdn_in (ch := ch) 2 ((zdn ch 1 (p + 1)) + 1)
        have v2 := zdn_len (ch := ch) hz 2 ((zdn ch 1 (p + 1)) + 1) (by omega)
        by_cases c3 : ch (zdn ch 2 ((zdn ch 1 (p + 1)) + 1)) = 58
        · rw [zpt_s1 c3 (by decide) (by decide)] at hR
          have w3 : (zdn ch 2 ((zdn ch 1 (p + 1)) + 1)) < L := by
            have := hz (zdn ch 2 ((zdn ch 1 (p + 1)) + 1))
            omega
          by_cases c4 : 48 ≤ ch ((zdn ch 2 ((zdn ch 1 (p + 1)) + 1)) + 1) ∧ ch ((zdn ch 2 ((zdn ch 1 (p + 1)) + 1)) + 1) ≤ 57
          · rw [zpt_n1 (m := 2) c4 (by decide) (by decide)] at hR
            have u4 := zdn_in (ch := ch) 2 ((zdn ch 2 ((zdn ch 1 (p + 1)) + 1)) + 1)
            have v4 := zdn_len (ch := ch) hz 2 ((zdn ch 2 ((zdn ch 1 (p + 1)) + 1)) + 1) (by omega)
            by_cases c5 : ch (zdn ch 2 ((zdn ch 2 ((zdn ch 1 (p + 1)) + 1)) + 1)) = 45
            · rw [zpt_s1 c5 (by decide) (by decide)] at hR
              have w5 : (zdn ch 2 ((zdn ch 2 ((zdn ch 1 (p + 1)) + 1)) + 1)) < L := by
                have := hz (zdn ch 2 ((zdn ch 2 ((zdn ch 1 (p + 1)) + 1)) + 1))
                omega
              by_cases c6 : 48 ≤ ch ((zdn ch 2 ((zdn ch 2 ((zdn ch 1 (p + 1)) + 1)) + 1)) + 1) ∧ ch ((zdn ch 2 ((zdn ch 2 ((zdn ch 1 (p + 1)) + 1)) + 1)) + 1) ≤ 57
              · rw [zpt_n1 (m := 2) c6 (by decide) (by decide)] at hR
                have u6 := zdn_in (ch := ch) 2 ((zdn ch 2 ((zdn ch 2 ((zdn ch 1 (p + 1)) + 1)) + 1)) + 1)
                have v6 := zdn_len (ch := ch) hz 2 ((zdn ch 2 ((zdn ch 2 ((zdn ch 1 (p + 1)) + 1)) + 1)) + 1) (by omega)
                rw [zpt_0] at hR
                obtain ⟨rfl, rfl, rfl⟩ := zpr hR
                refine ⟨(zru (zru (zru (zru (zru T (5 * M) (zhr ch L p)) ((5 * M) + 1) (zdv ch 1 (p + 1) 0)) ((5 * M) + 2) (zdv ch 2 ((zdn ch 1 (p + 1)) + 1) 0)) ((5 * M) + 3) (zdv ch 2 ((zdn ch 2 ((zdn ch 1 (p + 1)) + 1)) + 1) 0)) ((5 * M) + 4) (zdv ch 2 ((zdn ch 2 ((zdn ch 2 ((zdn ch 1 (p + 1)) + 1)) + 1)) + 1) 0)), fun i hi => ?_, fun e9 => ?_, ?_⟩
                · rw [zru_ne (by omega), zru_ne (by omega), zru_ne (by omega), zru_ne (by omega), zru_ne (by omega)]
                · refine ⟨by rw [zru_ne (by omega), zru_ne (by omega), zru_ne (by omega), zru_ne (by omega), zru_eq, e1, hc], fun j h1 h2 => ?_⟩
                  rw [hc, show zcn 103 = 4 from rfl] at h2
                  have h3 : j = 0 ∨ j = 1 ∨ j = 2 ∨ j = 3 := by omega
                  rcases h3 with rfl | rfl | rfl | rfl
                  · rw [zru_ne (by omega), zru_ne (by omega), zru_ne (by omega), zru_at (by omega)]
                    exact (by first | rfl | simp [zup])
                  · rw [zru_ne (by omega), zru_ne (by omega), zru_at (by omega)]
                    exact (by first | rfl | simp [zup])
                  · rw [zru_ne (by omega), zru_at (by omega)]
                    exact (by first | rfl | simp [zup])
                  · rw [zru_at (by omega)]
                    exact (by first | rfl | simp [zup])
                · refine Ev.iconst fX8_commandHere_0 ?_
                  refine Ev.aload_n_1 fX8_commandHere_1 rfl ?_
                  refine Ev.gI 24 21 (v := M) fX8_commandHere_2 (flX8_162 rfl) rfl rfl rfl ?_
                  refine Ev.imul fX8_commandHere_5 ?_
                  refine Ev.sistore_n [(1, 24), (0, (5 * M))] fX8_commandHere_6 rfl rfl ?_
                  refine Ev.aload_n_1 fX8_commandHere_7 rfl ?_
                  refine Ev.gR 24 20 33 fX8_commandHere_8 (flX8_39 rfl) rfl rfl rfl ?_
                  refine Ev.iload_n fX8_commandHere_11 rfl ?_
                  refine Ev.aload_n_1 fX8_commandHere_12 rfl ?_
                  refine Ev.cVi 24 [] [(0, (5 * M)), (1, 33)] fX8_commandHere_13 lkX8_commandHere_158 8 TX8 22 rfl rfl rfl (eX8_here C ⟨by omega, by omega⟩) ?_
                  refine Ev.stI 33 155 fX8_commandHere_16 rfl rfl ⟨by omega, by omega⟩ ?_
                  rw [zTd_t]
                  refine Ev.aload_n_1 fX8_commandHere_17 rfl ?_
                  refine Ev.bipush fX8_commandHere_18 rfl ?_
                  refine Ev.cVi 24 [(0, 121)] [] fX8_commandHere_20 lkX8_commandHere_165 8 TX8 22 rfl rfl rfl (eX8_skips_f C ⟨by omega, by omega⟩ (by decide) (by omega)) ?_
                  refine Ev.if_eq fX8_commandHere_23 rfl (by decide) (fun h23 => ?_) (fun h23 => by exfalso; revert h23; decide)
                  refine Ev.aload_n_1 fX8_commandHere_35 rfl ?_
                  refine Ev.bipush fX8_commandHere_36 rfl ?_
                  refine Ev.cVi 24 [(0, 119)] [] fX8_commandHere_38 lkX8_commandHere_165 8 TX8 22 rfl rfl rfl (eX8_skips_f C ⟨by omega, by omega⟩ (by decide) (by omega)) ?_
                  refine Ev.if_eq fX8_commandHere_41 rfl (by decide) (fun h41 => ?_) (fun h41 => by exfalso; revert h41; decide)
                  refine Ev.aload_n_1 fX8_commandHere_101 rfl ?_
                  refine Ev.bipush fX8_commandHere_102 rfl ?_
                  refine Ev.cVi 24 [(0, 103)] [] fX8_commandHere_104 lkX8_commandHere_165 8 TX8 22 rfl rfl rfl (eX8_skips_t C ⟨by omega, by omega⟩ (by decide) (by omega)) ?_
                  refine Ev.if_eq fX8_commandHere_107 rfl (by decide) (fun h107 => by exfalso; revert h107; decide) (fun h107 => ?_)
                  refine Ev.aload_n_1 fX8_commandHere_110 rfl ?_
                  refine Ev.iload_n fX8_commandHere_111 rfl ?_
                  refine Ev.iconst fX8_commandHere_112 ?_
                  refine Ev.iadd fX8_commandHere_113 ?_
                  refine Ev.iconst fX8_commandHere_114 ?_
                  refine Ev.cVi 24 [(0, ((5 * M) + 1)), (0, 1)] [] fX8_commandHere_115 lkX8_commandHere_168 8 TX8 22 rfl rfl rfl (eX8_figures_t1 C ⟨by omega, by omega⟩ ⟨by omega, by omega⟩ c0) ?_
                  refine Ev.if_eq fX8_commandHere_118 rfl (by decide) (fun h118 => by exfalso; revert h118; decide) (fun h118 => ?_)
                  refine Ev.aload_n_1 fX8_commandHere_121 rfl ?_
                  refine Ev.bipush fX8_commandHere_122 rfl ?_
                  refine Ev.cVi 24 [(0, 47)] [] fX8_commandHere_124 lkX8_commandHere_165 8 TX8 22 rfl rfl rfl (eX8_skips_t C ⟨by omega, by omega⟩ (by decide) (by omega)) ?_
                  refine Ev.if_eq fX8_commandHere_127 rfl (by decide) (fun h127 => by exfalso; revert h127; decide) (fun h127 => ?_)
                  refine Ev.aload_n_1 fX8_commandHere_130 rfl ?_
                  refine Ev.iload_n fX8_commandHere_131 rfl ?_
                  refine Ev.iconst fX8_commandHere_132 ?_
                  refine Ev.iadd fX8_commandHere_133 ?_
                  refine Ev.iconst fX8_commandHere_134 ?_
                  refine Ev.cVi 24 [(0, ((5 * M) + 2)), (0, 2)] [] fX8_commandHere_135 lkX8_commandHere_168 8 TX8 22 rfl rfl rfl (eX8_figures_t2 C ⟨by omega, by omega⟩ ⟨by omega, by omega⟩ c2) ?_
                  refine Ev.if_eq fX8_commandHere_138 rfl (by decide) (fun h138 => by exfalso; revert h138; decide) (fun h138 => ?_)
                  refine Ev.aload_n_1 fX8_commandHere_141 rfl ?_
                  refine Ev.bipush fX8_commandHere_142 rfl ?_
                  refine Ev.cVi 24 [(0, 58)] [] fX8_commandHere_144 lkX8_commandHere_165 8 TX8 22 rfl rfl rfl (eX8_skips_t C ⟨by omega, by omega⟩ (by decide) (by omega)) ?_
                  refine Ev.if_eq fX8_commandHere_147 rfl (by decide) (fun h147 => by exfalso; revert h147; decide) (fun h147 => ?_)
                  refine Ev.aload_n_1 fX8_commandHere_150 rfl ?_
                  refine Ev.iload_n fX8_commandHere_151 rfl ?_
                  refine Ev.iconst fX8_commandHere_152 ?_
                  refine Ev.iadd fX8_commandHere_153 ?_
                  refine Ev.iconst fX8_commandHere_154 ?_
                  refine Ev.cVi 24 [(0, ((5 * M) + 3)), (0, 2)] [] fX8_commandHere_155 lkX8_commandHere_168 8 TX8 22 rfl rfl rfl (eX8_figures_t2 C ⟨by omega, by omega⟩ ⟨by omega, by omega⟩ c4) ?_
                  refine Ev.if_eq fX8_commandHere_158 rfl (by decide) (fun h158 => by exfalso; revert h158; decide) (fun h158 => ?_)
                  refine Ev.aload_n_1 fX8_commandHere_161 rfl ?_
                  refine Ev.bipush fX8_commandHere_162 rfl ?_
                  refine Ev.cVi 24 [(0, 45)] [] fX8_commandHere_164 lkX8_commandHere_165 8 TX8 22 rfl rfl rfl (eX8_skips_t C ⟨by omega, by omega⟩ (by decide) (by omega)) ?_
                  refine Ev.if_eq fX8_commandHere_167 rfl (by decide) (fun h167 => by exfalso; revert h167; decide) (fun h167 => ?_)
                  refine Ev.aload_n_1 fX8_commandHere_170 rfl ?_
                  refine Ev.iload_n fX8_commandHere_171 rfl ?_
                  refine Ev.iconst fX8_commandHere_172 ?_
                  refine Ev.iadd fX8_commandHere_173 ?_
                  refine Ev.iconst fX8_commandHere_174 ?_
                  refine Ev.cVi 24 [(0, ((5 * M) + 4)), (0, 2)] [] fX8_commandHere_175 lkX8_commandHere_168 8 TX8 22 rfl rfl rfl (eX8_figures_t2 C ⟨by omega, by omega⟩ ⟨by omega, by omega⟩ c6) ?_
                  refine Ev.if_eq fX8_commandHere_178 rfl (by decide) (fun h178 => by exfalso; revert h178; decide) (fun h178 => ?_)
                  refine Ev.iconst fX8_commandHere_181 ?_
                  refine Ev.goto fX8_commandHere_182 rfl ?_
                  exact Ev.zZ fX8_commandHere_186 rfl (by first | exact Or.inl rfl | exact Or.inr rfl) rfl
              · rw [zpt_n0 (m := 2) c6 (by decide) (by decide)] at hR
                obtain ⟨rfl, rfl, rfl⟩ := zpr hR
                refine ⟨(zru (zru (zru (zru T (5 * M) (zhr ch L p)) ((5 * M) + 1) (zdv ch 1 (p + 1) 0)) ((5 * M) + 2) (zdv ch 2 ((zdn ch 1 (p + 1)) + 1) 0)) ((5 * M) + 3) (zdv ch 2 ((zdn ch 2 ((zdn ch 1 (p + 1)) + 1)) + 1) 0)), fun i hi => ?_, fun e9 => ?_, ?_⟩
                · rw [zru_ne (by omega), zru_ne (by omega), zru_ne (by omega), zru_ne (by omega)]
                · exact absurd e9 (by decide)
                · refine Ev.iconst fX8_commandHere_0 ?_
                  refine Ev.aload_n_1 fX8_commandHere_1 rfl ?_
                  refine Ev.gI 24 21 (v := M) fX8_commandHere_2 (flX8_162 rfl) rfl rfl rfl ?_
                  refine Ev.imul fX8_commandHere_5 ?_
                  refine Ev.sistore_n [(1, 24), (0, (5 * M))] fX8_commandHere_6 rfl rfl ?_
                  refine Ev.aload_n_1 fX8_commandHere_7 rfl ?_
                  refine Ev.gR 24 20 33 fX8_commandHere_8 (flX8_39 rfl) rfl rfl rfl ?_
                  refine Ev.iload_n fX8_commandHere_11 rfl ?_
                  refine Ev.aload_n_1 fX8_commandHere_12 rfl ?_
                  refine Ev.cVi 24 [] [(0, (5 * M)), (1, 33)] fX8_commandHere_13 lkX8_commandHere_158 8 TX8 22 rfl rfl rfl (eX8_here C ⟨by omega, by omega⟩) ?_
                  refine Ev.stI 33 155 fX8_commandHere_16 rfl rfl ⟨by omega, by omega⟩ ?_
                  rw [zTd_t]
                  refine Ev.aload_n_1 fX8_commandHere_17 rfl ?_
                  refine Ev.bipush fX8_commandHere_18 rfl ?_
                  refine Ev.cVi 24 [(0, 121)] [] fX8_commandHere_20 lkX8_commandHere_165 8 TX8 22 rfl rfl rfl (eX8_skips_f C ⟨by omega, by omega⟩ (by decide) (by omega)) ?_
                  refine Ev.if_eq fX8_commandHere_23 rfl (by decide) (fun h23 => ?_) (fun h23 => by exfalso; revert h23; decide)
                  refine Ev.aload_n_1 fX8_commandHere_35 rfl ?_
                  refine Ev.bipush fX8_commandHere_36 rfl ?_
                  refine Ev.cVi 24 [(0, 119)] [] fX8_commandHere_38 lkX8_commandHere_165 8 TX8 22 rfl rfl rfl (eX8_skips_f C ⟨by omega, by omega⟩ (by decide) (by omega)) ?_
                  refine Ev.if_eq fX8_commandHere_41 rfl (by decide) (fun h41 => ?_) (fun h41 => by exfalso; revert h41; decide)
                  refine Ev.aload_n_1 fX8_commandHere_101 rfl ?_
                  refine Ev.bipush fX8_commandHere_102 rfl ?_
                  refine Ev.cVi 24 [(0, 103)] [] fX8_commandHere_104 lkX8_commandHere_165 8 TX8 22 rfl rfl rfl (eX8_skips_t C ⟨by omega, by omega⟩ (by decide) (by omega)) ?_
                  refine Ev.if_eq fX8_commandHere_107 rfl (by decide) (fun h107 => by exfalso; revert h107; decide) (fun h107 => ?_)
                  refine Ev.aload_n_1 fX8_commandHere_110 rfl ?_
                  refine Ev.iload_n fX8_commandHere_111 rfl ?_
                  refine Ev.iconst fX8_commandHere_112 ?_
                  refine Ev.iadd fX8_commandHere_113 ?_
                  refine Ev.iconst fX8_commandHere_114 ?_
                  refine Ev.cVi 24 [(0, ((5 * M) + 1)), (0, 1)] [] fX8_commandHere_115 lkX8_commandHere_168 8 TX8 22 rfl rfl rfl (eX8_figures_t1 C ⟨by omega, by omega⟩ ⟨by omega, by omega⟩ c0) ?_
                  refine Ev.if_eq fX8_commandHere_118 rfl (by decide) (fun h118 => by exfalso; revert h118; decide) (fun h118 => ?_)
                  refine Ev.aload_n_1 fX8_commandHere_121 rfl ?_
                  refine Ev.bipush fX8_commandHere_122 rfl ?_
                  refine Ev.cVi 24 [(0, 47)] [] fX8_commandHere_124 lkX8_commandHere_165 8 TX8 22 rfl rfl rfl (eX8_skips_t C ⟨by omega, by omega⟩ (by decide) (by omega)) ?_
                  refine Ev.if_eq fX8_commandHere_127 rfl (by decide) (fun h127 => by exfalso; revert h127; decide) (fun h127 => ?_)
                  refine Ev.aload_n_1 fX8_commandHere_130 rfl ?_
                  refine Ev.iload_n fX8_commandHere_131 rfl ?_
                  refine Ev.iconst fX8_commandHere_132 ?_
                  refine Ev.iadd fX8_commandHere_133 ?_
                  refine Ev.iconst fX8_commandHere_134 ?_
                  refine Ev.cVi 24 [(0, ((5 * M) + 2)), (0, 2)] [] fX8_commandHere_135 lkX8_commandHere_168 8 TX8 22 rfl rfl rfl (eX8_figures_t2 C ⟨by omega, by omega⟩ ⟨by omega, by omega⟩ c2) ?_
                  refine Ev.if_eq fX8_commandHere_138 rfl (by decide) (fun h138 => by exfalso; revert h138; decide) (fun h138 => ?_)
                  refine Ev.aload_n_1 fX8_commandHere_141 rfl ?_
                  refine Ev.bipush fX8_commandHere_142 rfl ?_
                  refine Ev.cVi 24 [(0, 58)] [] fX8_commandHere_144 lkX8_commandHere_165 8 TX8 22 rfl rfl rfl (eX8_skips_t C ⟨by omega, by omega⟩ (by decide) (by omega)) ?_
                  refine Ev.if_eq fX8_commandHere_147 rfl (by decide) (fun h147 => by exfalso; revert h147; decide) (fun h147 => ?_)
                  refine Ev.aload_n_1 fX8_commandHere_150 rfl ?_
                  refine Ev.iload_n fX8_commandHere_151 rfl ?_
                  refine Ev.iconst fX8_commandHere_152 ?_
                  refine Ev.iadd fX8_commandHere_153 ?_
                  refine Ev.iconst fX8_commandHere_154 ?_
                  refine Ev.cVi 24 [(0, ((5 * M) + 3)), (0, 2)] [] fX8_commandHere_155 lkX8_commandHere_168 8 TX8 22 rfl rfl rfl (eX8_figures_t2 C ⟨by omega, by omega⟩ ⟨by omega, by omega⟩ c4) ?_
                  refine Ev.if_eq fX8_commandHere_158 rfl (by decide) (fun h158 => by exfalso; revert h158; decide) (fun h158 => ?_)
                  refine Ev.aload_n_1 fX8_commandHere_161 rfl ?_
                  refine Ev.bipush fX8_commandHere_162 rfl ?_
                  refine Ev.cVi 24 [(0, 45)] [] fX8_commandHere_164 lkX8_commandHere_165 8 TX8 22 rfl rfl rfl (eX8_skips_t C ⟨by omega, by omega⟩ (by decide) (by omega)) ?_
                  refine Ev.if_eq fX8_commandHere_167 rfl (by decide) (fun h167 => by exfalso; revert h167; decide) (fun h167 => ?_)
                  refine Ev.aload_n_1 fX8_commandHere_170 rfl ?_
                  refine Ev.iload_n fX8_commandHere_171 rfl ?_
                  refine Ev.iconst fX8_commandHere_172 ?_
                  refine Ev.iadd fX8_commandHere_173 ?_
                  refine Ev.iconst fX8_commandHere_174 ?_
                  refine Ev.cVi 24 [(0, ((5 * M) + 4)), (0, 2)] [] fX8_commandHere_175 lkX8_commandHere_168 8 TX8 22 rfl rfl rfl (eX8_figures_f C ⟨by omega, by omega⟩ c6) ?_
                  refine Ev.if_eq fX8_commandHere_178 rfl (by decide) (fun h178 => ?_) (fun h178 => by exfalso; revert h178; decide)
                  refine Ev.iconst fX8_commandHere_185 ?_
                  exact Ev.zZ fX8_commandHere_186 rfl (by first | exact Or.inl rfl | exact Or.inr rfl) rfl
            · rw [zpt_s0 c5 (by decide) (by decide)] at hR
              obtain ⟨rfl, rfl, rfl⟩ := zpr hR
              refine ⟨(zru (zru (zru (zru T (5 * M) (zhr ch L p)) ((5 * M) + 1) (zdv ch 1 (p + 1) 0)) ((5 * M) + 2) (zdv ch 2 ((zdn ch 1 (p + 1)) + 1) 0)) ((5 * M) + 3) (zdv ch 2 ((zdn ch 2 ((zdn ch 1 (p + 1)) + 1)) + 1) 0)), fun i hi => ?_, fun e9 => ?_, ?_⟩
              · rw [zru_ne (by omega), zru_ne (by omega), zru_ne (by omega), zru_ne (by omega)]
              · exact absurd e9 (by decide)
              · refine Ev.iconst fX8_commandHere_0 ?_
                refine Ev.aload_n_1 fX8_commandHere_1 rfl ?_
                refine Ev.gI 24 21 (v := M) fX8_commandHere_2 (flX8_162 rfl) rfl rfl rfl ?_
                refine Ev.imul fX8_commandHere_5 ?_
                refine Ev.sistore_n [(1, 24), (0, (5 * M))] fX8_commandHere_6 rfl rfl ?_
                refine Ev.aload_n_1 fX8_commandHere_7 rfl ?_
                refine Ev.gR 24 20 33 fX8_commandHere_8 (flX8_39 rfl) rfl rfl rfl ?_
                refine Ev.iload_n fX8_commandHere_11 rfl ?_
                refine Ev.aload_n_1 fX8_commandHere_12 rfl ?_
                refine Ev.cVi 24 [] [(0, (5 * M)), (1, 33)] fX8_commandHere_13 lkX8_commandHere_158 8 TX8 22 rfl rfl rfl (eX8_here C ⟨by omega, by omega⟩) ?_
                refine Ev.stI 33 155 fX8_commandHere_16 rfl rfl ⟨by omega, by omega⟩ ?_
                rw [zTd_t]
                refine Ev.aload_n_1 fX8_commandHere_17 rfl ?_
                refine Ev.bipush fX8_commandHere_18 rfl ?_
                refine Ev.cVi 24 [(0, 121)] [] fX8_commandHere_20 lkX8_commandHere_165 8 TX8 22 rfl rfl rfl (eX8_skips_f C ⟨by omega, by omega⟩ (by decide) (by omega)) ?_
                refine Ev.if_eq fX8_commandHere_23 rfl (by decide) (fun h23 => ?_) (fun h23 => by exfalso; revert h23; decide)
                refine Ev.aload_n_1 fX8_commandHere_35 rfl ?_
                refine Ev.bipush fX8_commandHere_36 rfl ?_
                refine Ev.cVi 24 [(0, 119)] [] fX8_commandHere_38 lkX8_commandHere_165 8 TX8 22 rfl rfl rfl (eX8_skips_f C ⟨by omega, by omega⟩ (by decide) (by omega)) ?_
                refine Ev.if_eq fX8_commandHere_41 rfl (by decide) (fun h41 => ?_) (fun h41 => by exfalso; revert h41; decide)
                refine Ev.aload_n_1 fX8_commandHere_101 rfl ?_
                refine Ev.bipush fX8_commandHere_102 rfl ?_
                refine Ev.cVi 24 [(0, 103)] [] fX8_commandHere_104 lkX8_commandHere_165 8 TX8 22 rfl rfl rfl (eX8_skips_t C ⟨by omega, by omega⟩ (by decide) (by omega)) ?_
                refine Ev.if_eq fX8_commandHere_107 rfl (by decide) (fun h107 => by exfalso; revert h107; decide) (fun h107 => ?_)
                refine Ev.aload_n_1 fX8_commandHere_110 rfl ?_
                refine Ev.iload_n fX8_commandHere_111 rfl ?_
                refine Ev.iconst fX8_commandHere_112 ?_
                refine Ev.iadd fX8_commandHere_113 ?_
                refine Ev.iconst fX8_commandHere_114 ?_
                refine Ev.cVi 24 [(0, ((5 * M) + 1)), (0, 1)] [] fX8_commandHere_115 lkX8_commandHere_168 8 TX8 22 rfl rfl rfl (eX8_figures_t1 C ⟨by omega, by omega⟩ ⟨by omega, by omega⟩ c0) ?_
                refine Ev.if_eq fX8_commandHere_118 rfl (by decide) (fun h118 => by exfalso; revert h118; decide) (fun h118 => ?_)
                refine Ev.aload_n_1 fX8_commandHere_121 rfl ?_
                refine Ev.bipush fX8_commandHere_122 rfl ?_
                refine Ev.cVi 24 [(0, 47)] [] fX8_commandHere_124 lkX8_commandHere_165 8 TX8 22 rfl rfl rfl (eX8_skips_t C ⟨by omega, by omega⟩ (by decide) (by omega)) ?_
                refine Ev.if_eq fX8_commandHere_127 rfl (by decide) (fun h127 => by exfalso; revert h127; decide) (fun h127 => ?_)
                refine Ev.aload_n_1 fX8_commandHere_130 rfl ?_
                refine Ev.iload_n fX8_commandHere_131 rfl ?_
                refine Ev.iconst fX8_commandHere_132 ?_
                refine Ev.iadd fX8_commandHere_133 ?_
                refine Ev.iconst fX8_commandHere_134 ?_
                refine Ev.cVi 24 [(0, ((5 * M) + 2)), (0, 2)] [] fX8_commandHere_135 lkX8_commandHere_168 8 TX8 22 rfl rfl rfl (eX8_figures_t2 C ⟨by omega, by omega⟩ ⟨by omega, by omega⟩ c2) ?_
                refine Ev.if_eq fX8_commandHere_138 rfl (by decide) (fun h138 => by exfalso; revert h138; decide) (fun h138 => ?_)
                refine Ev.aload_n_1 fX8_commandHere_141 rfl ?_
                refine Ev.bipush fX8_commandHere_142 rfl ?_
                refine Ev.cVi 24 [(0, 58)] [] fX8_commandHere_144 lkX8_commandHere_165 8 TX8 22 rfl rfl rfl (eX8_skips_t C ⟨by omega, by omega⟩ (by decide) (by omega)) ?_
                refine Ev.if_eq fX8_commandHere_147 rfl (by decide) (fun h147 => by exfalso; revert h147; decide) (fun h147 => ?_)
                refine Ev.aload_n_1 fX8_commandHere_150 rfl ?_
                refine Ev.iload_n fX8_commandHere_151 rfl ?_
                refine Ev.iconst fX8_commandHere_152 ?_
                refine Ev.iadd fX8_commandHere_153 ?_
                refine Ev.iconst fX8_commandHere_154 ?_
                refine Ev.cVi 24 [(0, ((5 * M) + 3)), (0, 2)] [] fX8_commandHere_155 lkX8_commandHere_168 8 TX8 22 rfl rfl rfl (eX8_figures_t2 C ⟨by omega, by omega⟩ ⟨by omega, by omega⟩ c4) ?_
                refine Ev.if_eq fX8_commandHere_158 rfl (by decide) (fun h158 => by exfalso; revert h158; decide) (fun h158 => ?_)
                refine Ev.aload_n_1 fX8_commandHere_161 rfl ?_
                refine Ev.bipush fX8_commandHere_162 rfl ?_
                refine Ev.cVi 24 [(0, 45)] [] fX8_commandHere_164 lkX8_commandHere_165 8 TX8 22 rfl rfl rfl (eX8_skips_f C ⟨by omega, by omega⟩ (by decide) (by omega)) ?_
                refine Ev.if_eq fX8_commandHere_167 rfl (by decide) (fun h167 => ?_) (fun h167 => by exfalso; revert h167; decide)
                refine Ev.iconst fX8_commandHere_185 ?_
                exact Ev.zZ fX8_commandHere_186 rfl (by first | exact Or.inl rfl | exact Or.inr rfl) rfl
          · rw [zpt_n0 (m := 2) c4 (by decide) (by decide)] at hR
            obtain ⟨rfl, rfl, rfl⟩ := zpr hR
            refine ⟨(zru (zru (zru T (5 * M) (zhr ch L p)) ((5 * M) + 1) (zdv ch 1 (p + 1) 0)) ((5 * M) + 2) (zdv ch 2 ((zdn ch 1 (p + 1)) + 1) 0)), fun i hi => ?_, fun e9 => ?_, ?_⟩
            · rw [zru_ne (by omega), zru_ne (by omega), zru_ne (by omega)]
            · exact absurd e9 (by decide)
            · refine Ev.iconst fX8_commandHere_0 ?_
              refine Ev.aload_n_1 fX8_commandHere_1 rfl ?_
              refine Ev.gI 24 21 (v := M) fX8_commandHere_2 (flX8_162 rfl) rfl rfl rfl ?_
              refine Ev.imul fX8_commandHere_5 ?_
              refine Ev.sistore_n [(1, 24), (0, (5 * M))] fX8_commandHere_6 rfl rfl ?_
              refine Ev.aload_n_1 fX8_commandHere_7 rfl ?_
              refine Ev.gR 24 20 33 fX8_commandHere_8 (flX8_39 rfl) rfl rfl rfl ?_
              refine Ev.iload_n fX8_commandHere_11 rfl ?_
              refine Ev.aload_n_1 fX8_commandHere_12 rfl ?_
              refine Ev.cVi 24 [] [(0, (5 * M)), (1, 33)] fX8_commandHere_13 lkX8_commandHere_158 8 TX8 22 rfl rfl rfl (eX8_here C ⟨by omega, by omega⟩) ?_
              refine Ev.stI 33 155 fX8_commandHere_16 rfl rfl ⟨by omega, by omega⟩ ?_
              rw [zTd_t]
              refine Ev.aload_n_1 fX8_commandHere_17 rfl ?_
              refine Ev.bipush fX8_commandHere_18 rfl ?_
              refine Ev.cVi 24 [(0, 121)] [] fX8_commandHere_20 lkX8_commandHere_165 8 TX8 22 rfl rfl rfl (eX8_skips_f C ⟨by omega, by omega⟩ (by decide) (by omega)) ?_
              refine Ev.if_eq fX8_commandHere_23 rfl (by decide) (fun h23 => ?_) (fun h23 => by exfalso; revert h23; decide)
              refine Ev.aload_n_1 fX8_commandHere_35 rfl ?_
              refine Ev.bipush fX8_commandHere_36 rfl ?_
              refine Ev.cVi 24 [(0, 119)] [] fX8_commandHere_38 lkX8_commandHere_165 8 TX8 22 rfl rfl rfl (eX8_skips_f C ⟨by omega, by omega⟩ (by decide) (by omega)) ?_
              refine Ev.if_eq fX8_commandHere_41 rfl (by decide) (fun h41 => ?_) (fun h41 => by exfalso; revert h41; decide)
              refine Ev.aload_n_1 fX8_commandHere_101 rfl ?_
              refine Ev.bipush fX8_commandHere_102 rfl ?_
              refine Ev.cVi 24 [(0, 103)] [] fX8_commandHere_104 lkX8_commandHere_165 8 TX8 22 rfl rfl rfl (eX8_skips_t C ⟨by omega, by omega⟩ (by decide) (by omega)) ?_
              refine Ev.if_eq fX8_commandHere_107 rfl (by decide) (fun h107 => by exfalso; revert h107; decide) (fun h107 => ?_)
              refine Ev.aload_n_1 fX8_commandHere_110 rfl ?_
              refine Ev.iload_n fX8_commandHere_111 rfl ?_
              refine Ev.iconst fX8_commandHere_112 ?_
              refine Ev.iadd fX8_commandHere_113 ?_
              refine Ev.iconst fX8_commandHere_114 ?_
              refine Ev.cVi 24 [(0, ((5 * M) + 1)), (0, 1)] [] fX8_commandHere_115 lkX8_commandHere_168 8 TX8 22 rfl rfl rfl (eX8_figures_t1 C ⟨by omega, by omega⟩ ⟨by omega, by omega⟩ c0) ?_
              refine Ev.if_eq fX8_commandHere_118 rfl (by decide) (fun h118 => by exfalso; revert h118; decide) (fun h118 => ?_)
              refine Ev.aload_n_1 fX8_commandHere_121 rfl ?_
              refine Ev.bipush fX8_commandHere_122 rfl ?_
              refine Ev.cVi 24 [(0, 47)] [] fX8_commandHere_124 lkX8_commandHere_165 8 TX8 22 rfl rfl rfl (eX8_skips_t C ⟨by omega, by omega⟩ (by decide) (by omega)) ?_
              refine Ev.if_eq fX8_commandHere_127 rfl (by decide) (fun h127 => by exfalso; revert h127; decide) (fun h127 => ?_)
              refine Ev.aload_n_1 fX8_commandHere_130 rfl ?_
              refine Ev.iload_n fX8_commandHere_131 rfl ?_
              refine Ev.iconst fX8_commandHere_132 ?_
              refine Ev.iadd fX8_commandHere_133 ?_
              refine Ev.iconst fX8_commandHere_134 ?_
              refine Ev.cVi 24 [(0, ((5 * M) + 2)), (0, 2)] [] fX8_commandHere_135 lkX8_commandHere_168 8 TX8 22 rfl rfl rfl (eX8_figures_t2 C ⟨by omega, by omega⟩ ⟨by omega, by omega⟩ c2) ?_
              refine Ev.if_eq fX8_commandHere_138 rfl (by decide) (fun h138 => by exfalso; revert h138; decide) (fun h138 => ?_)
              refine Ev.aload_n_1 fX8_commandHere_141 rfl ?_
              refine Ev.bipush fX8_commandHere_142 rfl ?_
              refine Ev.cVi 24 [(0, 58)] [] fX8_commandHere_144 lkX8_commandHere_165 8 TX8 22 rfl rfl rfl (eX8_skips_t C ⟨by omega, by omega⟩ (by decide) (by omega)) ?_
              refine Ev.if_eq fX8_commandHere_147 rfl (by decide) (fun h147 => by exfalso; revert h147; decide) (fun h147 => ?_)
              refine Ev.aload_n_1 fX8_commandHere_150 rfl ?_
              refine Ev.iload_n fX8_commandHere_151 rfl ?_
              refine Ev.iconst fX8_commandHere_152 ?_
              refine Ev.iadd fX8_commandHere_153 ?_
              refine Ev.iconst fX8_commandHere_154 ?_
              refine Ev.cVi 24 [(0, ((5 * M) + 3)), (0, 2)] [] fX8_commandHere_155 lkX8_commandHere_168 8 TX8 22 rfl rfl rfl (eX8_figures_f C ⟨by omega, by omega⟩ c4) ?_
              refine Ev.if_eq fX8_commandHere_158 rfl (by decide) (fun h158 => ?_) (fun h158 => by exfalso; revert h158; decide)
              refine Ev.iconst fX8_commandHere_185 ?_
              exact Ev.zZ fX8_commandHere_186 rfl (by first | exact Or.inl rfl | exact Or.inr rfl) rfl
        · rw [zpt_s0 c3 (by decide) (by decide)] at hR
          obtain ⟨rfl, rfl, rfl⟩ := zpr hR
          refine ⟨(zru (zru (zru T (5 * M) (zhr ch L p)) ((5 * M) + 1) (zdv ch 1 (p + 1) 0)) ((5 * M) + 2) (zdv ch 2 ((zdn ch 1 (p + 1)) + 1) 0)), fun i hi => ?_, fun e9 => ?_, ?_⟩
          · rw [zru_ne (by omega), zru_ne (by omega), zru_ne (by omega)]
          · exact absurd e9 (by decide)
          · refine Ev.iconst fX8_commandHere_0 ?_
            refine Ev.aload_n_1 fX8_commandHere_1 rfl ?_
            refine Ev.gI 24 21 (v := M) fX8_commandHere_2 (flX8_162 rfl) rfl rfl rfl ?_
            refine Ev.imul fX8_commandHere_5 ?_
            refine Ev.sistore_n [(1, 24), (0, (5 * M))] fX8_commandHere_6 rfl rfl ?_
            refine Ev.aload_n_1 fX8_commandHere_7 rfl ?_
            refine Ev.gR 24 20 33 fX8_commandHere_8 (flX8_39 rfl) rfl rfl rfl ?_
            refine Ev.iload_n fX8_commandHere_11 rfl ?_
            refine Ev.aload_n_1 fX8_commandHere_12 rfl ?_
            refine Ev.cVi 24 [] [(0, (5 * M)), (1, 33)] fX8_commandHere_13 lkX8_commandHere_158 8 TX8 22 rfl rfl rfl (eX8_here C ⟨by omega, by omega⟩) ?_
            refine Ev.stI 33 155 fX8_commandHere_16 rfl rfl ⟨by omega, by omega⟩ ?_
            rw [zTd_t]
            refine Ev.aload_n_1 fX8_commandHere_17 rfl ?_
            refine Ev.bipush fX8_commandHere_18 rfl ?_
            refine Ev.cVi 24 [(0, 121)] [] fX8_commandHere_20 lkX8_commandHere_165 8 TX8 22 rfl rfl rfl (eX8_skips_f C ⟨by omega, by omega⟩ (by decide) (by omega)) ?_
            refine Ev.if_eq fX8_commandHere_23 rfl (by decide) (fun h23 => ?_) (fun h23 => by exfalso; revert h23; decide)
            refine Ev.aload_n_1 fX8_commandHere_35 rfl ?_
            refine Ev.bipush fX8_commandHere_36 rfl ?_
            refine Ev.cVi 24 [(0, 119)] [] fX8_commandHere_38 lkX8_commandHere_165 8 TX8 22 rfl rfl rfl (eX8_skips_f C ⟨by omega, by omega⟩ (by decide) (by omega)) ?_
            refine Ev.if_eq fX8_commandHere_41 rfl (by decide) (fun h41 => ?_) (fun h41 => by exfalso; revert h41; decide)
            refine Ev.aload_n_1 fX8_commandHere_101 rfl ?_
            refine Ev.bipush fX8_commandHere_102 rfl ?_
            refine Ev.cVi 24 [(0, 103)] [] fX8_commandHere_104 lkX8_commandHere_165 8 TX8 22 rfl rfl rfl (eX8_skips_t C ⟨by omega, by omega⟩ (by decide) (by omega)) ?_
            refine Ev.if_eq fX8_commandHere_107 rfl (by decide) (fun h107 => by exfalso; revert h107; decide) (fun h107 => ?_)
            refine Ev.aload_n_1 fX8_commandHere_110 rfl ?_
            refine Ev.iload_n fX8_commandHere_111 rfl ?_
            refine Ev.iconst fX8_commandHere_112 ?_
            refine Ev.iadd fX8_commandHere_113 ?_
            refine Ev.iconst fX8_commandHere_114 ?_
            refine Ev.cVi 24 [(0, ((5 * M) + 1)), (0, 1)] [] fX8_commandHere_115 lkX8_commandHere_168 8 TX8 22 rfl rfl rfl (eX8_figures_t1 C ⟨by omega, by omega⟩ ⟨by omega, by omega⟩ c0) ?_
            refine Ev.if_eq fX8_commandHere_118 rfl (by decide) (fun h118 => by exfalso; revert h118; decide) (fun h118 => ?_)
            refine Ev.aload_n_1 fX8_commandHere_121 rfl ?_
            refine Ev.bipush fX8_commandHere_122 rfl ?_
            refine Ev.cVi 24 [(0, 47)] [] fX8_commandHere_124 lkX8_commandHere_165 8 TX8 22 rfl rfl rfl (eX8_skips_t C ⟨by omega, by omega⟩ (by decide) (by omega)) ?_
            refine Ev.if_eq fX8_commandHere_127 rfl (by decide) (fun h127 => by exfalso; revert h127; decide) (fun h127 => ?_)
            refine Ev.aload_n_1 fX8_commandHere_130 rfl ?_
            refine Ev.iload_n fX8_commandHere_131 rfl ?_
            refine Ev.iconst fX8_commandHere_132 ?_
            refine Ev.iadd fX8_commandHere_133 ?_
            refine Ev.iconst fX8_commandHere_134 ?_
            refine Ev.cVi 24 [(0, ((5 * M) + 2)), (0, 2)] [] fX8_commandHere_135 lkX8_commandHere_168 8 TX8 22 rfl rfl rfl (eX8_figures_t2 C ⟨by omega, by omega⟩ ⟨by omega, by omega⟩ c2) ?_
            refine Ev.if_eq fX8_commandHere_138 rfl (by decide) (fun h138 => by exfalso; revert h138; decide) (fun h138 => ?_)
            refine Ev.aload_n_1 fX8_commandHere_141 rfl ?_
            refine Ev.bipush fX8_commandHere_142 rfl ?_
            refine Ev.cVi 24 [(0, 58)] [] fX8_commandHere_144 lkX8_commandHere_165 8 TX8 22 rfl rfl rfl (eX8_skips_f C ⟨by omega, by omega⟩ (by decide) (by omega)) ?_
            refine Ev.if_eq fX8_commandHere_147 rfl (by decide) (fun h147 => ?_) (fun h147 => by exfalso; revert h147; decide)
            refine Ev.iconst fX8_commandHere_185 ?_
            exact Ev.zZ fX8_commandHere_186 rfl (by first | exact Or.inl rfl | exact Or.inr rfl) rfl
      · rw [zpt_n0 (m := 2) c2 (by decide) (by decide)] at hR
        obtain ⟨rfl, rfl, rfl⟩ := zpr hR
        refine ⟨(zru (zru T (5 * M) (zhr ch L p)) ((5 * M) + 1) (zdv ch 1 (p + 1) 0)), fun i hi => ?_, fun e9 => ?_, ?_⟩
        · rw [zru_ne (by omega), zru_ne (by omega)]
        · exact absurd e9 (by decide)
        · refine Ev.iconst fX8_commandHere_0 ?_
          refine Ev.aload_n_1 fX8_commandHere_1 rfl ?_
          refine Ev.gI 24 21 (v := M) fX8_commandHere_2 (flX8_162 rfl) rfl rfl rfl ?_
          refine Ev.imul fX8_commandHere_5 ?_
          refine Ev.sistore_n [(1, 24), (0, (5 * M))] fX8_commandHere_6 rfl rfl ?_
          refine Ev.aload_n_1 fX8_commandHere_7 rfl ?_
          refine Ev.gR 24 20 33 fX8_commandHere_8 (flX8_39 rfl) rfl rfl rfl ?_
          refine Ev.iload_n fX8_commandHere_11 rfl ?_
          refine Ev.aload_n_1 fX8_commandHere_12 rfl ?_
          refine Ev.cVi 24 [] [(0, (5 * M)), (1, 33)] fX8_commandHere_13 lkX8_commandHere_158 8 TX8 22 rfl rfl rfl (eX8_here C ⟨by omega, by omega⟩) ?_
          refine Ev.stI 33 155 fX8_commandHere_16 rfl rfl ⟨by omega, by omega⟩ ?_
          rw [zTd_t]
          refine Ev.aload_n_1 fX8_commandHere_17 rfl ?_
          refine Ev.bipush fX8_commandHere_18 rfl ?_
          refine Ev.cVi 24 [(0, 121)] [] fX8_commandHere_20 lkX8_commandHere_165 8 TX8 22 rfl rfl rfl (eX8_skips_f C ⟨by omega, by omega⟩ (by decide) (by omega)) ?_
          refine Ev.if_eq fX8_commandHere_23 rfl (by decide) (fun h23 => ?_) (fun h23 => by exfalso; revert h23; decide)
          refine Ev.aload_n_1 fX8_commandHere_35 rfl ?_
          refine Ev.bipush fX8_commandHere_36 rfl ?_
          refine Ev.cVi 24 [(0, 119)] [] fX8_commandHere_38 lkX8_commandHere_165 8 TX8 22 rfl rfl rfl (eX8_skips_f C ⟨by omega, by omega⟩ (by decide) (by omega)) ?_
          refine Ev.if_eq fX8_commandHere_41 rfl (by decide) (fun h41 => ?_) (fun h41 => by exfalso; revert h41; decide)
          refine Ev.aload_n_1 fX8_commandHere_101 rfl ?_
          refine Ev.bipush fX8_commandHere_102 rfl ?_
          refine Ev.cVi 24 [(0, 103)] [] fX8_commandHere_104 lkX8_commandHere_165 8 TX8 22 rfl rfl rfl (eX8_skips_t C ⟨by omega, by omega⟩ (by decide) (by omega)) ?_
          refine Ev.if_eq fX8_commandHere_107 rfl (by decide) (fun h107 => by exfalso; revert h107; decide) (fun h107 => ?_)
          refine Ev.aload_n_1 fX8_commandHere_110 rfl ?_
          refine Ev.iload_n fX8_commandHere_111 rfl ?_
          refine Ev.iconst fX8_commandHere_112 ?_
          refine Ev.iadd fX8_commandHere_113 ?_
          refine Ev.iconst fX8_commandHere_114 ?_
          refine Ev.cVi 24 [(0, ((5 * M) + 1)), (0, 1)] [] fX8_commandHere_115 lkX8_commandHere_168 8 TX8 22 rfl rfl rfl (eX8_figures_t1 C ⟨by omega, by omega⟩ ⟨by omega, by omega⟩ c0) ?_
          refine Ev.if_eq fX8_commandHere_118 rfl (by decide) (fun h118 => by exfalso; revert h118; decide) (fun h118 => ?_)
          refine Ev.aload_n_1 fX8_commandHere_121 rfl ?_
          refine Ev.bipush fX8_commandHere_122 rfl ?_
          refine Ev.cVi 24 [(0, 47)] [] fX8_commandHere_124 lkX8_commandHere_165 8 TX8 22 rfl rfl rfl (eX8_skips_t C ⟨by omega, by omega⟩ (by decide) (by omega)) ?_
          refine Ev.if_eq fX8_commandHere_127 rfl (by decide) (fun h127 => by exfalso; revert h127; decide) (fun h127 => ?_)
          refine Ev.aload_n_1 fX8_commandHere_130 rfl ?_
          refine Ev.iload_n fX8_commandHere_131 rfl ?_
          refine Ev.iconst fX8_commandHere_132 ?_
          refine Ev.iadd fX8_commandHere_133 ?_
          refine Ev.iconst fX8_commandHere_134 ?_
          refine Ev.cVi 24 [(0, ((5 * M) + 2)), (0, 2)] [] fX8_commandHere_135 lkX8_commandHere_168 8 TX8 22 rfl rfl rfl (eX8_figures_f C ⟨by omega, by omega⟩ c2) ?_
          refine Ev.if_eq fX8_commandHere_138 rfl (by decide) (fun h138 => ?_) (fun h138 => by exfalso; revert h138; decide)
          refine Ev.iconst fX8_commandHere_185 ?_
          exact Ev.zZ fX8_commandHere_186 rfl (by first | exact Or.inl rfl | exact Or.inr rfl) rfl
    · rw [zpt_s0 c1 (by decide) (by decide)] at hR
      obtain ⟨rfl, rfl, rfl⟩ := zpr hR
      refine ⟨(zru (zru T (5 * M) (zhr ch L p)) ((5 * M) + 1) (zdv ch 1 (p + 1) 0)), fun i hi => ?_, fun e9 => ?_, ?_⟩
      · rw [zru_ne (by omega), zru_ne (by omega)]
      · exact absurd e9 (by decide)
      · refine Ev.iconst fX8_commandHere_0 ?_
        refine Ev.aload_n_1 fX8_commandHere_1 rfl ?_
        refine Ev.gI 24 21 (v := M) fX8_commandHere_2 (flX8_162 rfl) rfl rfl rfl ?_
        refine Ev.imul fX8_commandHere_5 ?_
        refine Ev.sistore_n [(1, 24), (0, (5 * M))] fX8_commandHere_6 rfl rfl ?_
        refine Ev.aload_n_1 fX8_commandHere_7 rfl ?_
        refine Ev.gR 24 20 33 fX8_commandHere_8 (flX8_39 rfl) rfl rfl rfl ?_
        refine Ev.iload_n fX8_commandHere_11 rfl ?_
        refine Ev.aload_n_1 fX8_commandHere_12 rfl ?_
        refine Ev.cVi 24 [] [(0, (5 * M)), (1, 33)] fX8_commandHere_13 lkX8_commandHere_158 8 TX8 22 rfl rfl rfl (eX8_here C ⟨by omega, by omega⟩) ?_
        refine Ev.stI 33 155 fX8_commandHere_16 rfl rfl ⟨by omega, by omega⟩ ?_
        rw [zTd_t]
        refine Ev.aload_n_1 fX8_commandHere_17 rfl ?_
        refine Ev.bipush fX8_commandHere_18 rfl ?_
        refine Ev.cVi 24 [(0, 121)] [] fX8_commandHere_20 lkX8_commandHere_165 8 TX8 22 rfl rfl rfl (eX8_skips_f C ⟨by omega, by omega⟩ (by decide) (by omega)) ?_
        refine Ev.if_eq fX8_commandHere_23 rfl (by decide) (fun h23 => ?_) (fun h23 => by exfalso; revert h23; decide)
        refine Ev.aload_n_1 fX8_commandHere_35 rfl ?_
        refine Ev.bipush fX8_commandHere_36 rfl ?_
        refine Ev.cVi 24 [(0, 119)] [] fX8_commandHere_38 lkX8_commandHere_165 8 TX8 22 rfl rfl rfl (eX8_skips_f C ⟨by omega, by omega⟩ (by decide) (by omega)) ?_
        refine Ev.if_eq fX8_commandHere_41 rfl (by decide) (fun h41 => ?_) (fun h41 => by exfalso; revert h41; decide)
        refine Ev.aload_n_1 fX8_commandHere_101 rfl ?_
        refine Ev.bipush fX8_commandHere_102 rfl ?_
        refine Ev.cVi 24 [(0, 103)] [] fX8_commandHere_104 lkX8_commandHere_165 8 TX8 22 rfl rfl rfl (eX8_skips_t C ⟨by omega, by omega⟩ (by decide) (by omega)) ?_
        refine Ev.if_eq fX8_commandHere_107 rfl (by decide) (fun h107 => by exfalso; revert h107; decide) (fun h107 => ?_)
        refine Ev.aload_n_1 fX8_commandHere_110 rfl ?_
        refine Ev.iload_n fX8_commandHere_111 rfl ?_
        refine Ev.iconst fX8_commandHere_112 ?_
        refine Ev.iadd fX8_commandHere_113 ?_
        refine Ev.iconst fX8_commandHere_114 ?_
        refine Ev.cVi 24 [(0, ((5 * M) + 1)), (0, 1)] [] fX8_commandHere_115 lkX8_commandHere_168 8 TX8 22 rfl rfl rfl (eX8_figures_t1 C ⟨by omega, by omega⟩ ⟨by omega, by omega⟩ c0) ?_
        refine Ev.if_eq fX8_commandHere_118 rfl (by decide) (fun h118 => by exfalso; revert h118; decide) (fun h118 => ?_)
        refine Ev.aload_n_1 fX8_commandHere_121 rfl ?_
        refine Ev.bipush fX8_commandHere_122 rfl ?_
        refine Ev.cVi 24 [(0, 47)] [] fX8_commandHere_124 lkX8_commandHere_165 8 TX8 22 rfl rfl rfl (eX8_skips_f C ⟨by omega, by omega⟩ (by decide) (by omega)) ?_
        refine Ev.if_eq fX8_commandHere_127 rfl (by decide) (fun h127 => ?_) (fun h127 => by exfalso; revert h127; decide)
        refine Ev.iconst fX8_commandHere_185 ?_
        exact Ev.zZ fX8_commandHere_186 rfl (by first | exact Or.inl rfl | exact Or.inr rfl) rfl
  · rw [zpt_n0 (m := 1) c0 (by decide) (by decide)] at hR
    obtain ⟨rfl, rfl, rfl⟩ := zpr hR
    refine ⟨(zru T (5 * M) (zhr ch L p)), fun i hi => ?_, fun e9 => ?_, ?_⟩
    · rw [zru_ne (by omega)]
    · exact absurd e9 (by decide)
    · refine Ev.iconst fX8_commandHere_0 ?_
      refine Ev.aload_n_1 fX8_commandHere_1 rfl ?_
      refine Ev.gI 24 21 (v := M) fX8_commandHere_2 (flX8_162 rfl) rfl rfl rfl ?_
      refine Ev.imul fX8_commandHere_5 ?_
      refine Ev.sistore_n [(1, 24), (0, (5 * M))] fX8_commandHere_6 rfl rfl ?_
      refine Ev.aload_n_1 fX8_commandHere_7 rfl ?_
      refine Ev.gR 24 20 33 fX8_commandHere_8 (flX8_39 rfl) rfl rfl rfl ?_
      refine Ev.iload_n fX8_commandHere_11 rfl ?_
      refine Ev.aload_n_1 fX8_commandHere_12 rfl ?_
      refine Ev.cVi 24 [] [(0, (5 * M)), (1, 33)] fX8_commandHere_13 lkX8_commandHere_158 8 TX8 22 rfl rfl rfl (eX8_here C ⟨by omega, by omega⟩) ?_
      refine Ev.stI 33 155 fX8_commandHere_16 rfl rfl ⟨by omega, by omega⟩ ?_
      rw [zTd_t]
      refine Ev.aload_n_1 fX8_commandHere_17 rfl ?_
      refine Ev.bipush fX8_commandHere_18 rfl ?_
      refine Ev.cVi 24 [(0, 121)] [] fX8_commandHere_20 lkX8_commandHere_165 8 TX8 22 rfl rfl rfl (eX8_skips_f C ⟨by omega, by omega⟩ (by decide) (by omega)) ?_
      refine Ev.if_eq fX8_commandHere_23 rfl (by decide) (fun h23 => ?_) (fun h23 => by exfalso; revert h23; decide)
      refine Ev.aload_n_1 fX8_commandHere_35 rfl ?_
      refine Ev.bipush fX8_commandHere_36 rfl ?_
      refine Ev.cVi 24 [(0, 119)] [] fX8_commandHere_38 lkX8_commandHere_165 8 TX8 22 rfl rfl rfl (eX8_skips_f C ⟨by omega, by omega⟩ (by decide) (by omega)) ?_
      refine Ev.if_eq fX8_commandHere_41 rfl (by decide) (fun h41 => ?_) (fun h41 => by exfalso; revert h41; decide)
      refine Ev.aload_n_1 fX8_commandHere_101 rfl ?_
      refine Ev.bipush fX8_commandHere_102 rfl ?_
      refine Ev.cVi 24 [(0, 103)] [] fX8_commandHere_104 lkX8_commandHere_165 8 TX8 22 rfl rfl rfl (eX8_skips_t C ⟨by omega, by omega⟩ (by decide) (by omega)) ?_
      refine Ev.if_eq fX8_commandHere_107 rfl (by decide) (fun h107 => by exfalso; revert h107; decide) (fun h107 => ?_)
      refine Ev.aload_n_1 fX8_commandHere_110 rfl ?_
      refine Ev.iload_n fX8_commandHere_111 rfl ?_
      refine Ev.iconst fX8_commandHere_112 ?_
      refine Ev.iadd fX8_commandHere_113 ?_
      refine Ev.iconst fX8_commandHere_114 ?_
      refine Ev.cVi 24 [(0, ((5 * M) + 1)), (0, 1)] [] fX8_commandHere_115 lkX8_commandHere_168 8 TX8 22 rfl rfl rfl (eX8_figures_f C ⟨by omega, by omega⟩ c0) ?_
      refine Ev.if_eq fX8_commandHere_118 rfl (by decide) (fun h118 => ?_) (fun h118 => by exfalso; revert h118; decide)
      refine Ev.iconst fX8_commandHere_185 ?_
      exact Ev.zZ fX8_commandHere_186 rfl (by first | exact Or.inl rfl | exact Or.inr rfl) rfl
theorem eX8_cmd_102 {G : zG} {ia : Nat → Int → Int} {w : (Nat → Int → Int) × (Nat → Int → Int)} {ch T nf mf : Int → Int} {L p M q b : Int} (C : zTc ia ch L) (hp : 0 ≤ p ∧ p ≤ L) (hM : 0 ≤ M ∧ M ≤ 30) (hc : ch p = 102) (hR : zrd ch p nf = (q, b, mf)) : ∃ T9 : Int → Int, (∀ i : Int, ¬ (5 * M ≤ i ∧ i < 5 * M + 5) → T9 i = T i) ∧ (b = 1 → zmt ch T9 M p mf) ∧ Ev G mX8_commandHere 0 [(1, 24), (9, 0)] [] (zH (zTd ia p M T) w) (.inl (some (0, b)), zH (zTd ia q M T9) w, 0, 0) := by
  have hL := C.2.1
  have hh := zhr_is C hp
  have hz := C.2.2.2
  rw [zrd_l hc (by decide), show zfL 102 = [49, 60, 49] from rfl, show ([49, 60, 49] : List Int).length = 3 from rfl] at hR
  have e1 : zhr ch L p = 102 := by omega
  by_cases c0 : 48 ≤ ch (p + 1) ∧ ch (p + 1) ≤ 57
  · rw [zpt_n1 (m := 1) c0 (by decide) (by decide)] at hR
    have u0 := zdn_in (ch := ch) 1 (p + 1)
    have v0 := zdn_len (ch := ch) hz 1 (p + 1) (by omega)
    by_cases c1 : ch (zdn ch 1 (p + 1)) = 60
    · rw [zpt_s1 c1 (by decide) (by decide)] at hR
      have w1 : (zdn ch 1 (p + 1)) < L := by
        have := hz (zdn ch 1 (p + 1))
        omega
      by_cases c2 : 48 ≤ ch ((zdn ch 1 (p + 1)) + 1) ∧ ch ((zdn ch 1 (p + 1)) + 1) ≤ 57
      · rw [zpt_n1 (m := 1) c2 (by decide) (by decide)] at hR
        have u2 := zdn_in (ch := ch) 1 ((zdn ch 1 (p + 1)) + 1)
        have v2 := zdn_len (ch := ch) hz 1 ((zdn ch 1 (p + 1)) + 1) (by omega)
        rw [zpt_0] at hR
        obtain ⟨rfl, rfl, rfl⟩ := zpr hR
        refine ⟨(zru (zru (zru T (5 * M) (zhr ch L p)) ((5 * M) + 1) (zdv ch 1 (p + 1) 0)) ((5 * M) + 2) (zdv ch 1 ((zdn ch 1 (p + 1)) + 1) 0)), fun i hi => ?_, fun e9 => ?_, ?_⟩
        · rw [zru_ne (by omega), zru_ne (by omega), zru_ne (by omega)]
        · refine ⟨by rw [zru_ne (by omega), zru_ne (by omega), zru_eq, e1, hc], fun j h1 h2 => ?_⟩
          rw [hc, show zcn 102 = 2 from rfl] at h2
          have h3 : j = 0 ∨ j = 1 := by omega
          rcases h3 with rfl | rfl
          · rw [zru_ne (by omega), zru_at (by omega)]
            exact (by first | rfl | simp [zup])
          · rw [zru_at (by omega)]
            exact (by first | rfl | simp [zup])
        · refine Ev.iconst fX8_commandHere_0 ?_
          refine Ev.aload_n_1 fX8_commandHere_1 rfl ?_
          refine Ev.gI 24 21 (v := M) fX8_commandHere_2 (flX8_162 rfl) rfl rfl rfl ?_
          refine Ev.imul fX8_commandHere_5 ?_
          refine Ev.sistore_n [(1, 24), (0, (5 * M))] fX8_commandHere_6 rfl rfl ?_
          refine Ev.aload_n_1 fX8_commandHere_7 rfl ?_
          refine Ev.gR 24 20 33 fX8_commandHere_8 (flX8_39 rfl) rfl rfl rfl ?_
          refine Ev.iload_n fX8_commandHere_11 rfl ?_
          refine Ev.aload_n_1 fX8_commandHere_12 rfl ?_
          refine Ev.cVi 24 [] [(0, (5 * M)), (1, 33)] fX8_commandHere_13 lkX8_commandHere_158 8 TX8 22 rfl rfl rfl (eX8_here C ⟨by omega, by omega⟩) ?_
          refine Ev.stI 33 155 fX8_commandHere_16 rfl rfl ⟨by omega, by omega⟩ ?_
          rw [zTd_t]
          refine Ev.aload_n_1 fX8_commandHere_17 rfl ?_
          refine Ev.bipush fX8_commandHere_18 rfl ?_
          refine Ev.cVi 24 [(0, 121)] [] fX8_commandHere_20 lkX8_commandHere_165 8 TX8 22 rfl rfl rfl (eX8_skips_f C ⟨by omega, by omega⟩ (by decide) (by omega)) ?_
          refine Ev.if_eq fX8_commandHere_23 rfl (by decide) (fun h23 => ?_) (fun h23 => by exfalso; revert h23; decide)
          refine Ev.aload_n_1 fX8_commandHere_35 rfl ?_
          refine Ev.bipush fX8_commandHere_36 rfl ?_
          refine Ev.cVi 24 [(0, 119)] [] fX8_commandHere_38 lkX8_commandHere_165 8 TX8 22 rfl rfl rfl (eX8_skips_f C ⟨by omega, by omega⟩ (by decide) (by omega)) ?_
          refine Ev.if_eq fX8_commandHere_41 rfl (by decide) (fun h41 => ?_) (fun h41 => by exfalso; revert h41; decide)
          refine Ev.aload_n_1 fX8_commandHere_101 rfl ?_
          refine Ev.bipush fX8_commandHere_102 rfl ?_
          refine Ev.cVi 24 [(0, 103)] [] fX8_commandHere_104 lkX8_commandHere_165 8 TX8 22 rfl rfl rfl (eX8_skips_f C ⟨by omega, by omega⟩ (by decide) (by omega)) ?_
          refine Ev.if_eq fX8_commandHere_107 rfl (by decide) (fun h107 => ?_) (fun h107 => by exfalso; revert h107; decide)
          refine Ev.aload_n_1 fX8_commandHere_187 rfl ?_
          refine Ev.bipush fX8_commandHere_188 rfl ?_
          refine Ev.cVi 24 [(0, 102)] [] fX8_commandHere_190 lkX8_commandHere_165 8 TX8 22 rfl rfl rfl (eX8_skips_t C ⟨by omega, by omega⟩ (by decide) (by omega)) ?_
          refine Ev.if_eq fX8_commandHere_193 rfl (by decide) (fun h193 => by exfalso; revert h193; decide) (fun h193 => ?_)
          refine Ev.aload_n_1 fX8_commandHere_196 rfl ?_
          refine Ev.iload_n fX8_commandHere_197 rfl ?_
          refine Ev.iconst fX8_commandHere_198 ?_
          refine Ev.iadd fX8_commandHere_199 ?_
          refine Ev.iconst fX8_commandHere_200 ?_
          refine Ev.cVi 24 [(0, ((5 * M) + 1)), (0, 1)] [] fX8_commandHere_201 lkX8_commandHere_168 8 TX8 22 rfl rfl rfl (eX8_figures_t1 C ⟨by omega, by omega⟩ ⟨by omega, by omega⟩ c0) ?_
          refine Ev.if_eq fX8_commandHere_204 rfl (by decide) (fun h204 => by exfalso; revert h204; decide) (fun h204 => ?_)
          refine Ev.aload_n_1 fX8_commandHere_207 rfl ?_
          refine Ev.bipush fX8_commandHere_208 rfl ?_
          refine Ev.cVi 24 [(0, 60)] [] fX8_commandHere_210 lkX8_commandHere_165 8 TX8 22 rfl rfl rfl (eX8_skips_t C ⟨by omega, by omega⟩ (by decide) (by omega)) ?_
          refine Ev.if_eq fX8_commandHere_213 rfl (by decide) (fun h213 => by exfalso; revert h213; decide) (fun h213 => ?_)
          refine Ev.aload_n_1 fX8_commandHere_216 rfl ?_
          refine Ev.iload_n fX8_commandHere_217 rfl ?_
          refine Ev.iconst fX8_commandHere_218 ?_
          refine Ev.iadd fX8_commandHere_219 ?_
          refine Ev.iconst fX8_commandHere_220 ?_
          refine Ev.cVi 24 [(0, ((5 * M) + 2)), (0, 1)] [] fX8_commandHere_221 lkX8_commandHere_168 8 TX8 22 rfl rfl rfl (eX8_figures_t1 C ⟨by omega, by omega⟩ ⟨by omega, by omega⟩ c2) ?_
          refine Ev.if_eq fX8_commandHere_224 rfl (by decide) (fun h224 => by exfalso; revert h224; decide) (fun h224 => ?_)
          refine Ev.iconst fX8_commandHere_227 ?_
          refine Ev.goto fX8_commandHere_228 rfl ?_
          exact Ev.zZ fX8_commandHere_232 rfl (by first | exact Or.inl rfl | exact Or.inr rfl) rfl
      · rw [zpt_n0 (m := 1) c2 (by decide) (by decide)] at hR
        obtain ⟨rfl, rfl, rfl⟩ := zpr hR
        refine ⟨(zru (zru T (5 * M) (zhr ch L p)) ((5 * M) + 1) (zdv ch 1 (p + 1) 0)), fun i hi => ?_, fun e9 => ?_, ?_⟩
        · rw [zru_ne (by omega), zru_ne (by omega)]
        · exact absurd e9 (by decide)
        · refine Ev.iconst fX8_commandHere_0 ?_
          refine Ev.aload_n_1 fX8_commandHere_1 rfl ?_
          refine Ev.gI 24 21 (v := M) fX8_commandHere_2 (flX8_162 rfl) rfl rfl rfl ?_
          refine Ev.imul fX8_commandHere_5 ?_
          refine Ev.sistore_n [(1, 24), (0, (5 * M))] fX8_commandHere_6 rfl rfl ?_
          refine Ev.aload_n_1 fX8_commandHere_7 rfl ?_
          refine Ev.gR 24 20 33 fX8_commandHere_8 (flX8_39 rfl) rfl rfl rfl ?_
          refine Ev.iload_n fX8_commandHere_11 rfl ?_
          refine Ev.aload_n_1 fX8_commandHere_12 rfl ?_
          refine Ev.cVi 24 [] [(0, (5 * M)), (1, 33)] fX8_commandHere_13 lkX8_commandHere_158 8 TX8 22 rfl rfl rfl (eX8_here C ⟨by omega, by omega⟩) ?_
          refine Ev.stI 33 155 fX8_commandHere_16 rfl rfl ⟨by omega, by omega⟩ ?_
          rw [zTd_t]
          refine Ev.aload_n_1 fX8_commandHere_17 rfl ?_
          refine Ev.bipush fX8_commandHere_18 rfl ?_
          refine Ev.cVi 24 [(0, 121)] [] fX8_commandHere_20 lkX8_commandHere_165 8 TX8 22 rfl rfl rfl (eX8_skips_f C ⟨by omega, by omega⟩ (by decide) (by omega)) ?_
          refine Ev.if_eq fX8_commandHere_23 rfl (by decide) (fun h23 => ?_) (fun h23 => by exfalso; revert h23; decide)
          refine Ev.aload_n_1 fX8_commandHere_35 rfl ?_
          refine Ev.bipush fX8_commandHere_36 rfl ?_
          refine Ev.cVi 24 [(0, 119)] [] fX8_commandHere_38 lkX8_commandHere_165 8 TX8 22 rfl rfl rfl (eX8_skips_f C ⟨by omega, by omega⟩ (by decide) (by omega)) ?_
          refine Ev.if_eq fX8_commandHere_41 rfl (by decide) (fun h41 => ?_) (fun h41 => by exfalso; revert h41; decide)
          refine Ev.aload_n_1 fX8_commandHere_101 rfl ?_
          refine Ev.bipush fX8_commandHere_102 rfl ?_
          refine Ev.cVi 24 [(0, 103)] [] fX8_commandHere_104 lkX8_commandHere_165 8 TX8 22 rfl rfl rfl (eX8_skips_f C ⟨by omega, by omega⟩ (by decide) (by omega)) ?_
          refine Ev.if_eq fX8_commandHere_107 rfl (by decide) (fun h107 => ?_) (fun h107 => by exfalso; revert h107; decide)
          refine Ev.aload_n_1 fX8_commandHere_187 rfl ?_
          refine Ev.bipush fX8_commandHere_188 rfl ?_
          refine Ev.cVi 24 [(0, 102)] [] fX8_commandHere_190 lkX8_commandHere_165 8 TX8 22 rfl rfl rfl (eX8_skips_t C ⟨by omega, by omega⟩ (by decide) (by omega)) ?_
          refine Ev.if_eq fX8_commandHere_193 rfl (by decide) (fun h193 => by exfalso; revert h193; decide) (fun h193 => ?_)
          refine Ev.aload_n_1 fX8_commandHere_196 rfl ?_
          refine Ev.iload_n fX8_commandHere_197 rfl ?_
          refine Ev.iconst fX8_commandHere_198 ?_
          refine Ev.iadd fX8_commandHere_199 ?_
          refine Ev.iconst fX8_commandHere_200 ?_
          refine Ev.cVi 24 [(0, ((5 * M) + 1)), (0, 1)] [] fX8_commandHere_201 lkX8_commandHere_168 8 TX8 22 rfl rfl rfl (eX8_figures_t1 C ⟨by omega, by omega⟩ ⟨by omega, by omega⟩ c0) ?_
          refine Ev.if_eq fX8_commandHere_204 rfl (by decide) (fun h204 => by exfalso; revert h204; decide) (fun h204 => ?_)
          refine Ev.aload_n_1 fX8_commandHere_207 rfl ?_
          refine Ev.bipush fX8_commandHere_208 rfl ?_
          refine Ev.cVi 24 [(0, 60)] [] fX8_commandHere_210 lkX8_commandHere_165 8 TX8 22 rfl rfl rfl (eX8_skips_t C ⟨by omega, by omega⟩ (by decide) (by omega)) ?_
          refine Ev.if_eq fX8_commandHere_213 rfl (by decide) (fun h213 => by exfalso; revert h213; decide) (fun h213 => ?_)
          refine Ev.aload_n_1 fX8_commandHere_216 rfl ?_
          refine Ev.iload_n fX8_commandHere_217 rfl ?_
          refine Ev.iconst fX8_commandHere_218 ?_
          refine Ev.iadd fX8_commandHere_219 ?_
          refine Ev.iconst fX8_commandHere_220 ?_
          refine Ev.cVi 24 [(0, ((5 * M) + 2)), (0, 1)] [] fX8_commandHere_221 lkX8_commandHere_168 8 TX8 22 rfl rfl rfl (eX8_figures_f C ⟨by omega, by omega⟩ c2) ?_
          refine Ev.if_eq fX8_commandHere_224 rfl (by decide) (fun h224 => ?_) (fun h224 => by exfalso; revert h224; decide)
          refine Ev.iconst fX8_commandHere_231 ?_
          exact Ev.zZ fX8_commandHere_232 rfl (by first | exact Or.inl rfl | exact Or.inr rfl) rfl
    · rw [zpt_s0 c1 (by decide) (by decide)] at hR
      obtain ⟨rfl, rfl, rfl⟩ := zpr hR
      refine ⟨(zru (zru T (5 * M) (zhr ch L p)) ((5 * M) + 1) (zdv ch 1 (p + 1) 0)), fun i hi => ?_, fun e9 => ?_, ?_⟩
      · rw [zru_ne (by omega), zru_ne (by omega)]
      · exact absurd e9 (by decide)
      · refine Ev.iconst fX8_commandHere_0 ?_
        refine Ev.aload_n_1 fX8_commandHere_1 rfl ?_
        refine Ev.gI 24 21 (v := M) fX8_commandHere_2 (flX8_162 rfl) rfl rfl rfl ?_
        refine Ev.imul fX8_commandHere_5 ?_
        refine Ev.sistore_n [(1, 24), (0, (5 * M))] fX8_commandHere_6 rfl rfl ?_
        refine Ev.aload_n_1 fX8_commandHere_7 rfl ?_
        refine Ev.gR 24 20 33 fX8_commandHere_8 (flX8_39 rfl) rfl rfl rfl ?_
        refine Ev.iload_n fX8_commandHere_11 rfl ?_
        refine Ev.aload_n_1 fX8_commandHere_12 rfl ?_
        refine Ev.cVi 24 [] [(0, (5 * M)), (1, 33)] fX8_commandHere_13 lkX8_commandHere_158 8 TX8 22 rfl rfl rfl (eX8_here C ⟨by omega, by omega⟩) ?_
        refine Ev.stI 33 155 fX8_commandHere_16 rfl rfl ⟨by omega, by omega⟩ ?_
        rw [zTd_t]
        refine Ev.aload_n_1 fX8_commandHere_17 rfl ?_
        refine Ev.bipush fX8_commandHere_18 rfl ?_
        refine Ev.cVi 24 [(0, 121)] [] fX8_commandHere_20 lkX8_commandHere_165 8 TX8 22 rfl rfl rfl (eX8_skips_f C ⟨by omega, by omega⟩ (by decide) (by omega)) ?_
        refine Ev.if_eq fX8_commandHere_23 rfl (by decide) (fun h23 => ?_) (fun h23 => by exfalso; revert h23; decide)
        refine Ev.aload_n_1 fX8_commandHere_35 rfl ?_
        refine Ev.bipush fX8_commandHere_36 rfl ?_
        refine Ev.cVi 24 [(0, 119)] [] fX8_commandHere_38 lkX8_commandHere_165 8 TX8 22 rfl rfl rfl (eX8_skips_f C ⟨by omega, by omega⟩ (by decide) (by omega)) ?_
        refine Ev.if_eq fX8_commandHere_41 rfl (by decide) (fun h41 => ?_) (fun h41 => by exfalso; revert h41; decide)
        refine Ev.aload_n_1 fX8_commandHere_101 rfl ?_
        refine Ev.bipush fX8_commandHere_102 rfl ?_
        refine Ev.cVi 24 [(0, 103)] [] fX8_commandHere_104 lkX8_commandHere_165 8 TX8 22 rfl rfl rfl (eX8_skips_f C ⟨by omega, by omega⟩ (by decide) (by omega)) ?_
        refine Ev.if_eq fX8_commandHere_107 rfl (by decide) (fun h107 => ?_) (fun h107 => by exfalso; revert h107; decide)
        refine Ev.aload_n_1 fX8_commandHere_187 rfl ?_
        refine Ev.bipush fX8_commandHere_188 rfl ?_
        refine Ev.cVi 24 [(0, 102)] [] fX8_commandHere_190 lkX8_commandHere_165 8 TX8 22 rfl rfl rfl (eX8_skips_t C ⟨by omega, by omega⟩ (by decide) (by omega)) ?_
        refine Ev.if_eq fX8_commandHere_193 rfl (by decide) (fun h193 => by exfalso; revert h193; decide) (fun h193 => ?_)
        refine Ev.aload_n_1 fX8_commandHere_196 rfl ?_
        refine Ev.iload_n fX8_commandHere_197 rfl ?_
        refine Ev.iconst fX8_commandHere_198 ?_
        refine Ev.iadd fX8_commandHere_199 ?_
        refine Ev.iconst fX8_commandHere_200 ?_
        refine Ev.cVi 24 [(0, ((5 * M) + 1)), (0, 1)] [] fX8_commandHere_201 lkX8_commandHere_168 8 TX8 22 rfl rfl rfl (eX8_figures_t1 C ⟨by omega, by omega⟩ ⟨by omega, by omega⟩ c0) ?_
        refine Ev.if_eq fX8_commandHere_204 rfl (by decide) (fun h204 => by exfalso; revert h204; decide) (fun h204 => ?_)
        refine Ev.aload_n_1 fX8_commandHere_207 rfl ?_
        refine Ev.bipush fX8_commandHere_208 rfl ?_
        refine Ev.cVi 24 [(0, 60)] [] fX8_commandHere_210 lkX8_commandHere_165 8 TX8 22 rfl rfl rfl (eX8_skips_f C ⟨by omega, by omega⟩ (by decide) (by omega)) ?_
        refine Ev.if_eq fX8_commandHere_213 rfl (by decide) (fun h213 => ?_) (fun h213 => by exfalso; revert h213; decide)
        refine Ev.iconst fX8_commandHere_231 ?_
        exact Ev.zZ fX8_commandHere_232 rfl (by first | exact Or.inl rfl | exact Or.inr rfl) rfl
  · rw [zpt_n0 (m := 1) c0 (by decide) (by decide)] at hR
    obtain ⟨rfl, rfl, rfl⟩ := zpr hR
    refine ⟨(zru T (5 * M) (zhr ch L p)), fun i hi => ?_, fun e9 => ?_, ?_⟩
    · rw [zru_ne (by omega)]
    · exact absurd e9 (by decide)
    · refine Ev.iconst fX8_commandHere_0 ?_
      refine Ev.aload_n_1 fX8_commandHere_1 rfl ?_
      refine Ev.gI 24 21 (v := M) fX8_commandHere_2 (flX8_162 rfl) rfl rfl rfl ?_
      refine Ev.imul fX8_commandHere_5 ?_
      refine Ev.sistore_n [(1, 24), (0, (5 * M))] fX8_commandHere_6 rfl rfl ?_
      refine Ev.aload_n_1 fX8_commandHere_7 rfl ?_
      refine Ev.gR 24 20 33 fX8_commandHere_8 (flX8_39 rfl) rfl rfl rfl ?_
      refine Ev.iload_n fX8_commandHere_11 rfl ?_
      refine Ev.aload_n_1 fX8_commandHere_12 rfl ?_
      refine Ev.cVi 24 [] [(0, (5 * M)), (1, 33)] fX8_commandHere_13 lkX8_commandHere_158 8 TX8 22 rfl rfl rfl (eX8_here C ⟨by omega, by omega⟩) ?_
      refine Ev.stI 33 155 fX8_commandHere_16 rfl rfl ⟨by omega, by omega⟩ ?_
      rw [zTd_t]
      refine Ev.aload_n_1 fX8_commandHere_17 rfl ?_
      refine Ev.bipush fX8_commandHere_18 rfl ?_
      refine Ev.cVi 24 [(0, 121)] [] fX8_commandHere_20 lkX8_commandHere_165 8 TX8 22 rfl rfl rfl (eX8_skips_f C ⟨by omega, by omega⟩ (by decide) (by omega)) ?_
      refine Ev.if_eq fX8_commandHere_23 rfl (by decide) (fun h23 => ?_) (fun h23 => by exfalso; revert h23; decide)
      refine Ev.aload_n_1 fX8_commandHere_35 rfl ?_
      refine Ev.bipush fX8_commandHere_36 rfl ?_
      refine Ev.cVi 24 [(0, 119)] [] fX8_commandHere_38 lkX8_commandHere_165 8 TX8 22 rfl rfl rfl (eX8_skips_f C ⟨by omega, by omega⟩ (by decide) (by omega)) ?_
      refine Ev.if_eq fX8_commandHere_41 rfl (by decide) (fun h41 => ?_) (fun h41 => by exfalso; revert h41; decide)
      refine Ev.aload_n_1 fX8_commandHere_101 rfl ?_
      refine Ev.bipush fX8_commandHere_102 rfl ?_
      refine Ev.cVi 24 [(0, 103)] [] fX8_commandHere_104 lkX8_commandHere_165 8 TX8 22 rfl rfl rfl (eX8_skips_f C ⟨by omega, by omega⟩ (by decide) (by omega)) ?_
      refine Ev.if_eq fX8_commandHere_107 rfl (by decide) (fun h107 => ?_) (fun h107 => by exfalso; revert h107; decide)
      refine Ev.aload_n_1 fX8_commandHere_187 rfl ?_
      refine Ev.bipush fX8_commandHere_188 rfl ?_
      refine Ev.cVi 24 [(0, 102)] [] fX8_commandHere_190 lkX8_commandHere_165 8 TX8 22 rfl rfl rfl (eX8_skips_t C ⟨by omega, by omega⟩ (by decide) (by omega)) ?_
      refine Ev.if_eq fX8_commandHere_193 rfl (by decide) (fun h193 => by exfalso; revert h193; decide) (fun h193 => ?_)
      refine Ev.aload_n_1 fX8_commandHere_196 rfl ?_
      refine Ev.iload_n fX8_commandHere_197 rfl ?_
      refine Ev.iconst fX8_commandHere_198 ?_
      refine Ev.iadd fX8_commandHere_199 ?_
      refine Ev.iconst fX8_commandHere_200 ?_
      refine Ev.cVi 24 [(0, ((5 * M) + 1)), (0, 1)] [] fX8_commandHere_201 lkX8_commandHere_168 8 TX8 22 rfl rfl rfl (eX8_figures_f C ⟨by omega, by omega⟩ c0) ?_
      refine Ev.if_eq fX8_commandHere_204 rfl (by decide) (fun h204 => ?_) (fun h204 => by exfalso; revert h204; decide)
      refine Ev.iconst fX8_commandHere_231 ?_
      exact Ev.zZ fX8_commandHere_232 rfl (by first | exact Or.inl rfl | exact Or.inr rfl) rfl
theorem eX8_cmd_98 {G : zG} {ia : Nat → Int → Int} {w : (Nat → Int → Int) × (Nat → Int → Int)} {ch T nf mf : Int → Int} {L p M q b : Int} (C : zTc ia ch L) (hp : 0 ≤ p ∧ p ≤ L) (hM : 0 ≤ M ∧ M ≤ 30) (hc : ch p = 98) (hR : zrd ch p nf = (q, b, mf)) : ∃ T9 : Int → Int, (∀ i : Int, ¬ (5 * M ≤ i ∧ i < 5 * M + 5) → T9 i = T i) ∧ (b = 1 → zmt ch T9 M p mf) ∧ Ev G mX8_commandHere 0 [(1, 24), (9, 0)] [] (zH (zTd ia p M T) w) (.inl (some (0, b)), zH (zTd ia q M T9) w, 0, 0) := by
  have hL := C.2.1
  have hh := zhr_is C hp
  have hz := C.2.2.2
  rw [zrd_l hc (by decide), show zfL 98 = [49, 42, 50] from rfl, show ([49, 42, 50] : List Int).length = 3 from rfl] at hR
  have e1 : zhr ch L p = 98 := by omega
  by_cases c0 : 48 ≤ ch (p + 1) ∧ ch (p + 1) ≤ 57
  · rw [zpt_n1 (m := 1) c0 (by decide) (by decide)] at hR
    have u0 := zdn_in (ch := ch) 1 (p + 1)
    have v0 := zdn_len (ch := ch) hz 1 (p + 1) (by omega)
    by_cases c1 : ch (zdn ch 1 (p + 1)) = 42
    · rw [zpt_s1 c1 (by decide) (by decide)] at hR
      have w1 : (zdn ch 1 (p + 1)) < L := by
        have := hz (zdn ch 1 (p + 1))
        omega
      by_cases c2 : 48 ≤ ch ((zdn ch 1 (p + 1)) + 1) ∧ ch ((zdn ch 1 (p + 1)) + 1) ≤ 57
      · rw [zpt_n1 (m := 2) c2 (by decide) (by decide)] at hR
        have u2 := zdn_in (ch := ch) 2 ((zdn ch 1 (p + 1)) + 1)
        have v2 := zdn_len (ch := ch) hz 2 ((zdn ch 1 (p + 1)) + 1) (by omega)
        rw [zpt_0] at hR
        obtain ⟨rfl, rfl, rfl⟩ := zpr hR
        refine ⟨(zru (zru (zru T (5 * M) (zhr ch L p)) ((5 * M) + 1) (zdv ch 1 (p + 1) 0)) ((5 * M) + 2) (zdv ch 2 ((zdn ch 1 (p + 1)) + 1) 0)), fun i hi => ?_, fun e9 => ?_, ?_⟩
        · rw [zru_ne (by omega), zru_ne (by omega), zru_ne (by omega)]
        · refine ⟨by rw [zru_ne (by omega), zru_ne (by omega), zru_eq, e1, hc], fun j h1 h2 => ?_⟩
          rw [hc, show zcn 98 = 2 from rfl] at h2
          have h3 : j = 0 ∨ j = 1 := by omega
          rcases h3 with rfl | rfl
          · rw [zru_ne (by omega), zru_at (by omega)]
            exact (by first | rfl | simp [zup])
          · rw [zru_at (by omega)]
            exact (by first | rfl | simp [zup])
        · refine Ev.iconst fX8_commandHere_0 ?_
          refine Ev.aload_n_1 fX8_commandHere_1 rfl ?_
          refine Ev.gI 24 21 (v := M) fX8_commandHere_2 (flX8_162 rfl) rfl rfl rfl ?_
          refine Ev.imul fX8_commandHere_5 ?_
          refine Ev.sistore_n [(1, 24), (0, (5 * M))] fX8_commandHere_6 rfl rfl ?_
          refine Ev.aload_n_1 fX8_commandHere_7 rfl ?_
          refine Ev.gR 24 20 33 fX8_commandHere_8 (flX8_39 rfl) rfl rfl rfl ?_
          refine Ev.iload_n fX8_commandHere_11 rfl ?_
          refine Ev.aload_n_1 fX8_commandHere_12 rfl ?_
          refine Ev.cVi 24 [] [(0, (5 * M)), (1, 33)] fX8_commandHere_13 lkX8_commandHere_158 8 TX8 22 rfl rfl rfl (eX8_here C ⟨by omega, by omega⟩) ?_
          refine Ev.stI 33 155 fX8_commandHere_16 rfl rfl ⟨by omega, by omega⟩ ?_
          rw [zTd_t]
          refine Ev.aload_n_1 fX8_commandHere_17 rfl ?_
          refine Ev.bipush fX8_commandHere_18 rfl ?_
          refine Ev.cVi 24 [(0, 121)] [] fX8_commandHere_20 lkX8_commandHere_165 8 TX8 22 rfl rfl rfl (eX8_skips_f C ⟨by omega, by omega⟩ (by decide) (by omega)) ?_
          refine Ev.if_eq fX8_commandHere_23 rfl (by decide) (fun h23 => ?_) (fun h23 => by exfalso; revert h23; decide)
          refine Ev.aload_n_1 fX8_commandHere_35 rfl ?_
          refine Ev.bipush fX8_commandHere_36 rfl ?_
          refine Ev.cVi 24 [(0, 119)] [] fX8_commandHere_38 lkX8_commandHere_165 8 TX8 22 rfl rfl rfl (eX8_skips_f C ⟨by omega, by omega⟩ (by decide) (by omega)) ?_
          refine Ev.if_eq fX8_commandHere_41 rfl (by decide) (fun h41 => ?_) (fun h41 => by exfalso; revert h41; decide)
          refine Ev.aload_n_1 fX8_commandHere_101 rfl ?_
          refine Ev.bipush fX8_commandHere_102 rfl ?_
          refine Ev.cVi 24 [(0, 103)] [] fX8_commandHere_104 lkX8_commandHere_165 8 TX8 22 rfl rfl rfl (eX8_skips_f C ⟨by omega, by omega⟩ (by decide) (by omega)) ?_
          refine Ev.if_eq fX8_commandHere_107 rfl (by decide) (fun h107 => ?_) (fun h107 => by exfalso; revert h107; decide)
          refine Ev.aload_n_1 fX8_commandHere_187 rfl ?_
          refine Ev.bipush fX8_commandHere_188 rfl ?_
          refine Ev.cVi 24 [(0, 102)] [] fX8_commandHere_190 lkX8_commandHere_165 8 TX8 22 rfl rfl rfl (eX8_skips_f C ⟨by omega, by omega⟩ (by decide) (by omega)) ?_
          refine Ev.if_eq fX8_commandHere_193 rfl (by decide) (fun h193 => ?_) (fun h193 => by exfalso; revert h193; decide)
          refine Ev.aload_n_1 fX8_commandHere_233 rfl ?_
          refine Ev.bipush fX8_commandHere_234 rfl ?_
          refine Ev.cVi 24 [(0, 98)] [] fX8_commandHere_236 lkX8_commandHere_165 8 TX8 22 rfl rfl rfl (eX8_skips_t C ⟨by omega, by omega⟩ (by decide) (by omega)) ?_
          refine Ev.if_eq fX8_commandHere_239 rfl (by decide) (fun h239 => by exfalso; revert h239; decide) (fun h239 => ?_)
          refine Ev.aload_n_1 fX8_commandHere_242 rfl ?_
          refine Ev.iload_n fX8_commandHere_243 rfl ?_
          refine Ev.iconst fX8_commandHere_244 ?_
          refine Ev.iadd fX8_commandHere_245 ?_
          refine Ev.iconst fX8_commandHere_246 ?_
          refine Ev.cVi 24 [(0, ((5 * M) + 1)), (0, 1)] [] fX8_commandHere_247 lkX8_commandHere_168 8 TX8 22 rfl rfl rfl (eX8_figures_t1 C ⟨by omega, by omega⟩ ⟨by omega, by omega⟩ c0) ?_
          refine Ev.if_eq fX8_commandHere_250 rfl (by decide) (fun h250 => by exfalso; revert h250; decide) (fun h250 => ?_)
          refine Ev.aload_n_1 fX8_commandHere_253 rfl ?_
          refine Ev.bipush fX8_commandHere_254 rfl ?_
          refine Ev.cVi 24 [(0, 42)] [] fX8_commandHere_256 lkX8_commandHere_165 8 TX8 22 rfl rfl rfl (eX8_skips_t C ⟨by omega, by omega⟩ (by decide) (by omega)) ?_
          refine Ev.if_eq fX8_commandHere_259 rfl (by decide) (fun h259 => by exfalso; revert h259; decide) (fun h259 => ?_)
          refine Ev.aload_n_1 fX8_commandHere_262 rfl ?_
          refine Ev.iload_n fX8_commandHere_263 rfl ?_
          refine Ev.iconst fX8_commandHere_264 ?_
          refine Ev.iadd fX8_commandHere_265 ?_
          refine Ev.iconst fX8_commandHere_266 ?_
          refine Ev.cVi 24 [(0, ((5 * M) + 2)), (0, 2)] [] fX8_commandHere_267 lkX8_commandHere_168 8 TX8 22 rfl rfl rfl (eX8_figures_t2 C ⟨by omega, by omega⟩ ⟨by omega, by omega⟩ c2) ?_
          refine Ev.if_eq fX8_commandHere_270 rfl (by decide) (fun h270 => by exfalso; revert h270; decide) (fun h270 => ?_)
          refine Ev.iconst fX8_commandHere_273 ?_
          refine Ev.goto fX8_commandHere_274 rfl ?_
          exact Ev.zZ fX8_commandHere_278 rfl (by first | exact Or.inl rfl | exact Or.inr rfl) rfl
      · rw [zpt_n0 (m := 2) c2 (by decide) (by decide)] at hR
        obtain ⟨rfl, rfl, rfl⟩ := zpr hR
        refine ⟨(zru (zru T (5 * M) (zhr ch L p)) ((5 * M) + 1) (zdv ch 1 (p + 1) 0)), fun i hi => ?_, fun e9 => ?_, ?_⟩
        · rw [zru_ne (by omega), zru_ne (by omega)]
        · exact absurd e9 (by decide)
        · refine Ev.iconst fX8_commandHere_0 ?_
          refine Ev.aload_n_1 fX8_commandHere_1 rfl ?_
          refine Ev.gI 24 21 (v := M) fX8_commandHere_2 (flX8_162 rfl) rfl rfl rfl ?_
          refine Ev.imul fX8_commandHere_5 ?_
          refine Ev.sistore_n [(1, 24), (0, (5 * M))] fX8_commandHere_6 rfl rfl ?_
          refine Ev.aload_n_1 fX8_commandHere_7 rfl ?_
          refine Ev.gR 24 20 33 fX8_commandHere_8 (flX8_39 rfl) rfl rfl rfl ?_
          refine Ev.iload_n fX8_commandHere_11 rfl ?_
          refine Ev.aload_n_1 fX8_commandHere_12 rfl ?_
          refine Ev.cVi 24 [] [(0, (5 * M)), (1, 33)] fX8_commandHere_13 lkX8_commandHere_158 8 TX8 22 rfl rfl rfl (eX8_here C ⟨by omega, by omega⟩) ?_
          refine Ev.stI 33 155 fX8_commandHere_16 rfl rfl ⟨by omega, by omega⟩ ?_
          rw [zTd_t]
          refine Ev.aload_n_1 fX8_commandHere_17 rfl ?_
          refine Ev.bipush fX8_commandHere_18 rfl ?_
          refine Ev.cVi 24 [(0, 121)] [] fX8_commandHere_20 lkX8_commandHere_165 8 TX8 22 rfl rfl rfl (eX8_skips_f C ⟨by omega, by omega⟩ (by decide) (by omega)) ?_
          refine Ev.if_eq fX8_commandHere_23 rfl (by decide) (fun h23 => ?_) (fun h23 => by exfalso; revert h23; decide)
          refine Ev.aload_n_1 fX8_commandHere_35 rfl ?_
          refine Ev.bipush fX8_commandHere_36 rfl ?_
          refine Ev.cVi 24 [(0, 119)] [] fX8_commandHere_38 lkX8_commandHere_165 8 TX8 22 rfl rfl rfl (eX8_skips_f C ⟨by omega, by omega⟩ (by decide) (by omega)) ?_
          refine Ev.if_eq fX8_commandHere_41 rfl (by decide) (fun h41 => ?_) (fun h41 => by exfalso; revert h41; decide)
          refine Ev.aload_n_1 fX8_commandHere_101 rfl ?_
          refine Ev.bipush fX8_commandHere_102 rfl ?_
          refine Ev.cVi 24 [(0, 103)] [] fX8_commandHere_104 lkX8_commandHere_165 8 TX8 22 rfl rfl rfl (eX8_skips_f C ⟨by omega, by omega⟩ (by decide) (by omega)) ?_
          refine Ev.if_eq fX8_commandHere_107 rfl (by decide) (fun h107 => ?_) (fun h107 => by exfalso; revert h107; decide)
          refine Ev.aload_n_1 fX8_commandHere_187 rfl ?_
          refine Ev.bipush fX8_commandHere_188 rfl ?_
          refine Ev.cVi 24 [(0, 102)] [] fX8_commandHere_190 lkX8_commandHere_165 8 TX8 22 rfl rfl rfl (eX8_skips_f C ⟨by omega, by omega⟩ (by decide) (by omega)) ?_
          refine Ev.if_eq fX8_commandHere_193 rfl (by decide) (fun h193 => ?_) (fun h193 => by exfalso; revert h193; decide)
          refine Ev.aload_n_1 fX8_commandHere_233 rfl ?_
          refine Ev.bipush fX8_commandHere_234 rfl ?_
          refine Ev.cVi 24 [(0, 98)] [] fX8_commandHere_236 lkX8_commandHere_165 8 TX8 22 rfl rfl rfl (eX8_skips_t C ⟨by omega, by omega⟩ (by decide) (by omega)) ?_
          refine Ev.if_eq fX8_commandHere_239 rfl (by decide) (fun h239 => by exfalso; revert h239; decide) (fun h239 => ?_)
          refine Ev.aload_n_1 fX8_commandHere_242 rfl ?_
          refine Ev.iload_n fX8_commandHere_243 rfl ?_
          refine Ev.iconst fX8_commandHere_244 ?_
          refine Ev.iadd fX8_commandHere_245 ?_
          refine Ev.iconst fX8_commandHere_246 ?_
          refine Ev.cVi 24 [(0, ((5 * M) + 1)), (0, 1)] [] fX8_commandHere_247 lkX8_commandHere_168 8 TX8 22 rfl rfl rfl (eX8_figures_t1 C ⟨by omega, by omega⟩ ⟨by omega, by omega⟩ c0) ?_
          refine Ev.if_eq fX8_commandHere_250 rfl (by decide) (fun h250 => by exfalso; revert h250; decide) (fun h250 => ?_)
          refine Ev.aload_n_1 fX8_commandHere_253 rfl ?_
          refine Ev.bipush fX8_commandHere_254 rfl ?_
          refine Ev.cVi 24 [(0, 42)] [] fX8_commandHere_256 lkX8_commandHere_165 8 TX8 22 rfl rfl rfl (eX8_skips_t C ⟨by omega, by omega⟩ (by decide) (by omega)) ?_
          refine Ev.if_eq fX8_commandHere_259 rfl (by decide) (fun h259 => by exfalso; revert h259; decide) (fun h259 => ?_)
          refine Ev.aload_n_1 fX8_commandHere_262 rfl ?_
          refine Ev.iload_n fX8_commandHere_263 rfl ?_
          refine Ev.iconst fX8_commandHere_264 ?_
          refine Ev.iadd fX8_commandHere_265 ?_
          refine Ev.iconst fX8_commandHere_266 ?_
          refine Ev.cVi 24 [(0, ((5 * M) + 2)), (0, 2)] [] fX8_commandHere_267 lkX8_commandHere_168 8 TX8 22 rfl rfl rfl (eX8_figures_f C ⟨by omega, by omega⟩ c2) ?_
          refine Ev.if_eq fX8_commandHere_270 rfl (by decide) (fun h270 => ?_) (fun h270 => by exfalso; revert h270; decide)
          refine Ev.iconst fX8_commandHere_277 ?_
          exact Ev.zZ fX8_commandHere_278 rfl (by first | exact Or.inl rfl | exact Or.inr rfl) rfl
    · rw [zpt_s0 c1 (by decide) (by decide)] at hR
      obtain ⟨rfl, rfl, rfl⟩ := zpr hR
      refine ⟨(zru (zru T (5 * M) (zhr ch L p)) ((5 * M) + 1) (zdv ch 1 (p + 1) 0)), fun i hi => ?_, fun e9 => ?_, ?_⟩
      · rw [zru_ne (by omega), zru_ne (by omega)]
      · exact absurd e9 (by decide)
      · refine Ev.iconst fX8_commandHere_0 ?_
        refine Ev.aload_n_1 fX8_commandHere_1 rfl ?_
        refine Ev.gI 24 21 (v := M) fX8_commandHere_2 (flX8_162 rfl) rfl rfl rfl ?_
        refine Ev.imul fX8_commandHere_5 ?_
        refine Ev.sistore_n [(1, 24), (0, (5 * M))] fX8_commandHere_6 rfl rfl ?_
        refine Ev.aload_n_1 fX8_commandHere_7 rfl ?_
        refine Ev.gR 24 20 33 fX8_commandHere_8 (flX8_39 rfl) rfl rfl rfl ?_
        refine Ev.iload_n fX8_commandHere_11 rfl ?_
        refine Ev.aload_n_1 fX8_commandHere_12 rfl ?_
        refine Ev.cVi 24 [] [(0, (5 * M)), (1, 33)] fX8_commandHere_13 lkX8_commandHere_158 8 TX8 22 rfl rfl rfl (eX8_here C ⟨by omega, by omega⟩) ?_
        refine Ev.stI 33 155 fX8_commandHere_16 rfl rfl ⟨by omega, by omega⟩ ?_
        rw [zTd_t]
        refine Ev.aload_n_1 fX8_commandHere_17 rfl ?_
        refine Ev.bipush fX8_commandHere_18 rfl ?_
        refine Ev.cVi 24 [(0, 121)] [] fX8_commandHere_20 lkX8_commandHere_165 8 TX8 22 rfl rfl rfl (eX8_skips_f C ⟨by omega, by omega⟩ (by decide) (by omega)) ?_
        refine Ev.if_eq fX8_commandHere_23 rfl (by decide) (fun h23 => ?_) (fun h23 => by exfalso; revert h23; decide)
        refine Ev.aload_n_1 fX8_commandHere_35 rfl ?_
        refine Ev.bipush fX8_commandHere_36 rfl ?_
        refine Ev.cVi 24 [(0, 119)] [] fX8_commandHere_38 lkX8_commandHere_165 8 TX8 22 rfl rfl rfl (eX8_skips_f C ⟨by omega, by omega⟩ (by decide) (by omega)) ?_
        refine Ev.if_eq fX8_commandHere_41 rfl (by decide) (fun h41 => ?_) (fun h41 => by exfalso; revert h41; decide)
        refine Ev.aload_n_1 fX8_commandHere_101 rfl ?_
        refine Ev.bipush fX8_commandHere_102 rfl ?_
        refine Ev.cVi 24 [(0, 103)] [] fX8_commandHere_104 lkX8_commandHere_165 8 TX8 22 rfl rfl rfl (eX8_skips_f C ⟨by omega, by omega⟩ (by decide) (by omega)) ?_
        refine Ev.if_eq fX8_commandHere_107 rfl (by decide) (fun h107 => ?_) (fun h107 => by exfalso; revert h107; decide)
        refine Ev.aload_n_1 fX8_commandHere_187 rfl ?_
        refine Ev.bipush fX8_commandHere_188 rfl ?_
        refine Ev.cVi 24 [(0, 102)] [] fX8_commandHere_190 lkX8_commandHere_165 8 TX8 22 rfl rfl rfl (eX8_skips_f C ⟨by omega, by omega⟩ (by decide) (by omega)) ?_
        refine Ev.if_eq fX8_commandHere_193 rfl (by decide) (fun h193 => ?_) (fun h193 => by exfalso; revert h193; decide)
        refine Ev.aload_n_1 fX8_commandHere_233 rfl ?_
        refine Ev.bipush fX8_commandHere_234 rfl ?_
        refine Ev.cVi 24 [(0, 98)] [] fX8_commandHere_236 lkX8_commandHere_165 8 TX8 22 rfl rfl rfl (eX8_skips_t C ⟨by omega, by omega⟩ (by decide) (by omega)) ?_
        refine Ev.if_eq fX8_commandHere_239 rfl (by decide) (fun h239 => by exfalso; revert h239; decide) (fun h239 => ?_)
        refine Ev.aload_n_1 fX8_commandHere_242 rfl ?_
        refine Ev.iload_n fX8_commandHere_243 rfl ?_
        refine Ev.iconst fX8_commandHere_244 ?_
        refine Ev.iadd fX8_commandHere_245 ?_
        refine Ev.iconst fX8_commandHere_246 ?_
        refine Ev.cVi 24 [(0, ((5 * M) + 1)), (0, 1)] [] fX8_commandHere_247 lkX8_commandHere_168 8 TX8 22 rfl rfl rfl (eX8_figures_t1 C ⟨by omega, by omega⟩ ⟨by omega, by omega⟩ c0) ?_
        refine Ev.if_eq fX8_commandHere_250 rfl (by decide) (fun h250 => by exfalso; revert h250; decide) (fun h250 => ?_)
        refine Ev.aload_n_1 fX8_commandHere_253 rfl ?_
        refine Ev.bipush fX8_commandHere_254 rfl ?_
        refine Ev.cVi 24 [(0, 42)] [] fX8_commandHere_256 lkX8_commandHere_165 8 TX8 22 rfl rfl rfl (eX8_skips_f C ⟨by omega, by omega⟩ (by decide) (by omega)) ?_
        refine Ev.if_eq fX8_commandHere_259 rfl (by decide) (fun h259 => ?_) (fun h259 => by exfalso; revert h259; decide)
        refine Ev.iconst fX8_commandHere_277 ?_
        exact Ev.zZ fX8_commandHere_278 rfl (by first | exact Or.inl rfl | exact Or.inr rfl) rfl
  · rw [zpt_n0 (m := 1) c0 (by decide) (by decide)] at hR
    obtain ⟨rfl, rfl, rfl⟩ := zpr hR
    refine ⟨(zru T (5 * M) (zhr ch L p)), fun i hi => ?_, fun e9 => ?_, ?_⟩
    · rw [zru_ne (by omega)]
    · exact absurd e9 (by decide)
    · refine Ev.iconst fX8_commandHere_0 ?_
      refine Ev.aload_n_1 fX8_commandHere_1 rfl ?_
      refine Ev.gI 24 21 (v := M) fX8_commandHere_2 (flX8_162 rfl) rfl rfl rfl ?_
      refine Ev.imul fX8_commandHere_5 ?_
      refine Ev.sistore_n [(1, 24), (0, (5 * M))] fX8_commandHere_6 rfl rfl ?_
      refine Ev.aload_n_1 fX8_commandHere_7 rfl ?_
      refine Ev.gR 24 20 33 fX8_commandHere_8 (flX8_39 rfl) rfl rfl rfl ?_
      refine Ev.iload_n fX8_commandHere_11 rfl ?_
      refine Ev.aload_n_1 fX8_commandHere_12 rfl ?_
      refine Ev.cVi 24 [] [(0, (5 * M)), (1, 33)] fX8_commandHere_13 lkX8_commandHere_158 8 TX8 22 rfl rfl rfl (eX8_here C ⟨by omega, by omega⟩) ?_
      refine Ev.stI 33 155 fX8_commandHere_16 rfl rfl ⟨by omega, by omega⟩ ?_
      rw [zTd_t]
      refine Ev.aload_n_1 fX8_commandHere_17 rfl ?_
      refine Ev.bipush fX8_commandHere_18 rfl ?_
      refine Ev.cVi 24 [(0, 121)] [] fX8_commandHere_20 lkX8_commandHere_165 8 TX8 22 rfl rfl rfl (eX8_skips_f C ⟨by omega, by omega⟩ (by decide) (by omega)) ?_
      refine Ev.if_eq fX8_commandHere_23 rfl (by decide) (fun h23 => ?_) (fun h23 => by exfalso; revert h23; decide)
      refine Ev.aload_n_1 fX8_commandHere_35 rfl ?_
      refine Ev.bipush fX8_commandHere_36 rfl ?_
      refine Ev.cVi 24 [(0, 119)] [] fX8_commandHere_38 lkX8_commandHere_165 8 TX8 22 rfl rfl rfl (eX8_skips_f C ⟨by omega, by omega⟩ (by decide) (by omega)) ?_
      refine Ev.if_eq fX8_commandHere_41 rfl (by decide) (fun h41 => ?_) (fun h41 => by exfalso; revert h41; decide)
      refine Ev.aload_n_1 fX8_commandHere_101 rfl ?_
      refine Ev.bipush fX8_commandHere_102 rfl ?_
      refine Ev.cVi 24 [(0, 103)] [] fX8_commandHere_104 lkX8_commandHere_165 8 TX8 22 rfl rfl rfl (eX8_skips_f C ⟨by omega, by omega⟩ (by decide) (by omega)) ?_
      refine Ev.if_eq fX8_commandHere_107 rfl (by decide) (fun h107 => ?_) (fun h107 => by exfalso; revert h107; decide)
      refine Ev.aload_n_1 fX8_commandHere_187 rfl ?_
      refine Ev.bipush fX8_commandHere_188 rfl ?_
      refine Ev.cVi 24 [(0, 102)] [] fX8_commandHere_190 lkX8_commandHere_165 8 TX8 22 rfl rfl rfl (eX8_skips_f C ⟨by omega, by omega⟩ (by decide) (by omega)) ?_
      refine Ev.if_eq fX8_commandHere_193 rfl (by decide) (fun h193 => ?_) (fun h193 => by exfalso; revert h193; decide)
      refine Ev.aload_n_1 fX8_commandHere_233 rfl ?_
      refine Ev.bipush fX8_commandHere_234 rfl ?_
      refine Ev.cVi 24 [(0, 98)] [] fX8_commandHere_236 lkX8_commandHere_165 8 TX8 22 rfl rfl rfl (eX8_skips_t C ⟨by omega, by omega⟩ (by decide) (by omega)) ?_
      refine Ev.if_eq fX8_commandHere_239 rfl (by decide) (fun h239 => by exfalso; revert h239; decide) (fun h239 => ?_)
      refine Ev.aload_n_1 fX8_commandHere_242 rfl ?_
      refine Ev.iload_n fX8_commandHere_243 rfl ?_
      refine Ev.iconst fX8_commandHere_244 ?_
      refine Ev.iadd fX8_commandHere_245 ?_
      refine Ev.iconst fX8_commandHere_246 ?_
      refine Ev.cVi 24 [(0, ((5 * M) + 1)), (0, 1)] [] fX8_commandHere_247 lkX8_commandHere_168 8 TX8 22 rfl rfl rfl (eX8_figures_f C ⟨by omega, by omega⟩ c0) ?_
      refine Ev.if_eq fX8_commandHere_250 rfl (by decide) (fun h250 => ?_) (fun h250 => by exfalso; revert h250; decide)
      refine Ev.iconst fX8_commandHere_277 ?_
      exact Ev.zZ fX8_commandHere_278 rfl (by first | exact Or.inl rfl | exact Or.inr rfl) rfl
theorem eX8_cmd_0 {G : zG} {ia : Nat → Int → Int} {w : (Nat → Int → Int) × (Nat → Int → Int)} {ch T nf mf : Int → Int} {L p M q b : Int} (C : zTc ia ch L) (hp : 0 ≤ p ∧ p ≤ L) (hM : 0 ≤ M ∧ M ≤ 30) (hc : ch p ≠ 121 ∧ ch p ≠ 119 ∧ ch p ≠ 103 ∧ ch p ≠ 102 ∧ ch p ≠ 98) (hR : zrd ch p nf = (q, b, mf)) : ∃ T9 : Int → Int, (∀ i : Int, ¬ (5 * M ≤ i ∧ i < 5 * M + 5) → T9 i = T i) ∧ (b = 1 → zmt ch T9 M p mf) ∧ Ev G mX8_commandHere 0 [(1, 24), (9, 0)] [] (zH (zTd ia p M T) w) (.inl (some (0, b)), zH (zTd ia q M T9) w, 0, 0) := by
  have hL := C.2.1
  have hh := zhr_is C hp
  have hf : zfL (ch p) = [] := by
    unfold zfL
    rw [if_neg hc.2.1, if_neg hc.2.2.1, if_neg hc.2.2.2.1, if_neg hc.2.2.2.2, if_neg hc.1]
  unfold zrd at hR
  rw [if_pos hf] at hR
  obtain ⟨rfl, rfl, rfl⟩ := zpr hR
  refine ⟨(zru T (5 * M) (zhr ch L p)), fun i hi => ?_, fun e9 => ?_, ?_⟩
  · rw [zru_ne (by omega)]
  · exact absurd e9 (by decide)
  · refine Ev.iconst fX8_commandHere_0 ?_
    refine Ev.aload_n_1 fX8_commandHere_1 rfl ?_
    refine Ev.gI 24 21 (v := M) fX8_commandHere_2 (flX8_162 rfl) rfl rfl rfl ?_
    refine Ev.imul fX8_commandHere_5 ?_
    refine Ev.sistore_n [(1, 24), (0, (5 * M))] fX8_commandHere_6 rfl rfl ?_
    refine Ev.aload_n_1 fX8_commandHere_7 rfl ?_
    refine Ev.gR 24 20 33 fX8_commandHere_8 (flX8_39 rfl) rfl rfl rfl ?_
    refine Ev.iload_n fX8_commandHere_11 rfl ?_
    refine Ev.aload_n_1 fX8_commandHere_12 rfl ?_
    refine Ev.cVi 24 [] [(0, (5 * M)), (1, 33)] fX8_commandHere_13 lkX8_commandHere_158 8 TX8 22 rfl rfl rfl (eX8_here C ⟨by omega, by omega⟩) ?_
    refine Ev.stI 33 155 fX8_commandHere_16 rfl rfl ⟨by omega, by omega⟩ ?_
    rw [zTd_t]
    refine Ev.aload_n_1 fX8_commandHere_17 rfl ?_
    refine Ev.bipush fX8_commandHere_18 rfl ?_
    refine Ev.cVi 24 [(0, 121)] [] fX8_commandHere_20 lkX8_commandHere_165 8 TX8 22 rfl rfl rfl (eX8_skips_f C ⟨by omega, by omega⟩ (by decide) (by omega)) ?_
    refine Ev.if_eq fX8_commandHere_23 rfl (by decide) (fun h23 => ?_) (fun h23 => by exfalso; revert h23; decide)
    refine Ev.aload_n_1 fX8_commandHere_35 rfl ?_
    refine Ev.bipush fX8_commandHere_36 rfl ?_
    refine Ev.cVi 24 [(0, 119)] [] fX8_commandHere_38 lkX8_commandHere_165 8 TX8 22 rfl rfl rfl (eX8_skips_f C ⟨by omega, by omega⟩ (by decide) (by omega)) ?_
    refine Ev.if_eq fX8_commandHere_41 rfl (by decide) (fun h41 => ?_) (fun h41 => by exfalso; revert h41; decide)
    refine Ev.aload_n_1 fX8_commandHere_101 rfl ?_
    refine Ev.bipush fX8_commandHere_102 rfl ?_
    refine Ev.cVi 24 [(0, 103)] [] fX8_commandHere_104 lkX8_commandHere_165 8 TX8 22 rfl rfl rfl (eX8_skips_f C ⟨by omega, by omega⟩ (by decide) (by omega)) ?_
    refine Ev.if_eq fX8_commandHere_107 rfl (by decide) (fun h107 => ?_) (fun h107 => by exfalso; revert h107; decide)
    refine Ev.aload_n_1 fX8_commandHere_187 rfl ?_
    refine Ev.bipush fX8_commandHere_188 rfl ?_
    refine Ev.cVi 24 [(0, 102)] [] fX8_commandHere_190 lkX8_commandHere_165 8 TX8 22 rfl rfl rfl (eX8_skips_f C ⟨by omega, by omega⟩ (by decide) (by omega)) ?_
    refine Ev.if_eq fX8_commandHere_193 rfl (by decide) (fun h193 => ?_) (fun h193 => by exfalso; revert h193; decide)
    refine Ev.aload_n_1 fX8_commandHere_233 rfl ?_
    refine Ev.bipush fX8_commandHere_234 rfl ?_
    refine Ev.cVi 24 [(0, 98)] [] fX8_commandHere_236 lkX8_commandHere_165 8 TX8 22 rfl rfl rfl (eX8_skips_f C ⟨by omega, by omega⟩ (by decide) (by omega)) ?_
    refine Ev.if_eq fX8_commandHere_239 rfl (by decide) (fun h239 => ?_) (fun h239 => by exfalso; revert h239; decide)
    refine Ev.iconst fX8_commandHere_277 ?_
    exact Ev.zZ fX8_commandHere_278 rfl (by first | exact Or.inl rfl | exact Or.inr rfl) rfl
theorem eX8_commandHere {G : zG} {ia : Nat → Int → Int} {w : (Nat → Int → Int) × (Nat → Int → Int)} {ch T nf mf : Int → Int} {L p M q b : Int} (C : zTc ia ch L) (hp : 0 ≤ p ∧ p ≤ L) (hM : 0 ≤ M ∧ M ≤ 30) (hR : zrd ch p nf = (q, b, mf)) : ∃ T9 : Int → Int, (∀ i : Int, ¬ (5 * M ≤ i ∧ i < 5 * M + 5) → T9 i = T i) ∧ (b = 1 → zmt ch T9 M p mf) ∧ Ev G mX8_commandHere 0 [(1, 24), (9, 0)] [] (zH (zTd ia p M T) w) (.inl (some (0, b)), zH (zTd ia q M T9) w, 0, 0) := by
  by_cases c0 : ch p = 121
  · exact eX8_cmd_121 C hp hM c0 hR
  by_cases c1 : ch p = 119
  · exact eX8_cmd_119 C hp hM c1 hR
  by_cases c2 : ch p = 103
  · exact eX8_cmd_103 C hp hM c2 hR
  by_cases c3 : ch p = 102
  · exact eX8_cmd_102 C hp hM c3 hR
  by_cases c4 : ch p = 98
  · exact eX8_cmd_98 C hp hM c4 hR
  exact eX8_cmd_0 C hp hM ⟨c0, c1, c2, c3, c4⟩ hR
