/-! THE MODEL: WRITE, GRAFT, FORK, BACK, PASS (printed by wip/whole/gen/mod8.py) -/
theorem eX8_isHouse_b {G : zG} {ia : Nat → Int → Int} {w : (Nat → Int → Int) × (Nat → Int → Int)} (x : Int) (hr : -2147483648 ≤ x ∧ x ≤ 2147483647) : ∃ b : Int, (b = 0 ∨ b = 1) ∧ (b = 1 ↔ 0 ≤ x ∧ x < 4) ∧ Ev G mX8_isHouse 0 [(0, x)] [] (zH ia w) (.inl (some (0, b)), zH ia w, 0, 0) := by
  by_cases h : 0 ≤ x ∧ x < 4
  · exact ⟨1, Or.inr rfl, ⟨fun _ => h, fun _ => rfl⟩, eX8_isHouse_t h⟩
  · exact ⟨0, Or.inl rfl, ⟨fun e => absurd e (by decide), fun e => absurd e h⟩, eX8_isHouse_f hr h⟩
theorem eX8_in_b {G : zG} {ia : Nat → Int → Int} {w : (Nat → Int → Int) × (Nat → Int → Int)} (x a b : Int) (hr : -2147483648 ≤ x ∧ x ≤ 2147483647) (ha : -2147483648 ≤ a ∧ a ≤ 2147483647) (hb : -2147483648 ≤ b ∧ b ≤ 2147483647) : ∃ z : Int, (z = 0 ∨ z = 1) ∧ (z = 1 ↔ a ≤ x ∧ x ≤ b) ∧ Ev G mX8_in 0 [(0, x), (0, a), (0, b)] [] (zH ia w) (.inl (some (0, z)), zH ia w, 0, 0) := by
  by_cases h : a ≤ x ∧ x ≤ b
  · exact ⟨1, Or.inr rfl, ⟨fun _ => h, fun _ => rfl⟩, eX8_in_t hr ha hb h⟩
  · exact ⟨0, Or.inl rfl, ⟨fun e => absurd e (by decide), fun e => absurd e h⟩, eX8_in_f hr ha hb h⟩
theorem eX8_write_1 {G : zG} {ia : Nat → Int → Int} {w : (Nat → Int → Int) × (Nat → Int → Int)} {h line amount : Int} (hw : ia 24 6 = 0 ∨ ia 24 6 = 1) (hrh : -2147483648 ≤ h ∧ h ≤ 2147483647) (hrline : -2147483648 ≤ line ∧ line ≤ 2147483647) (hramount : -2147483648 ≤ amount ∧ amount ≤ 2147483647) (hx : ¬ ((0 ≤ h ∧ h < 4) ∧ (0 ≤ line ∧ line < 16) ∧ 0 ≤ amount ∧ amount ≤ 999)) : Ev G mX8_write 0 [(1, 24), (0, h), (0, line), (0, amount), (9, 0), (9, 0)] [] (zH ia w) (.inl (some (0, 0)), zH (zrf ia 1 0 (zwi ia)) w, 0, 0) := by
  refine Ev.iload_n fX8_write_0 rfl ?_
  obtain ⟨b69, ga69, gb69, ge69⟩ := eX8_isHouse_b (G := G) (ia := ia) (w := w) h ⟨by omega, by omega⟩
  refine Ev.cSi [(0, h)] [] fX8_write_1 lkX8_write_80 rfl ge69 ?_
  refine Ev.if_eq fX8_write_4 rfl ⟨by omega, by omega⟩ (fun h4 => ?_) (fun h4 => ?_)
  · refine Ev.aload_n_1 fX8_write_25 rfl ?_
    refine Ev.iconst fX8_write_26 ?_
    refine Ev.iconst fX8_write_27 ?_
    refine Ev.cVi 24 [(0, 1), (0, 0)] [] fX8_write_28 lkX8_write_87 8 TX8 22 rfl rfl rfl (eX8_refuses hw) ?_
    exact Ev.zI fX8_write_31 rfl rfl
  · refine Ev.iload_n fX8_write_7 rfl ?_
    obtain ⟨b70, ga70, gb70, ge70⟩ := eX8_isLine_b (G := G) (ia := ia) (w := w) line ⟨by omega, by omega⟩
    refine Ev.cSi [(0, line)] [] fX8_write_8 lkX8_write_84 rfl ge70 ?_
    refine Ev.if_eq fX8_write_11 rfl ⟨by omega, by omega⟩ (fun h11 => ?_) (fun h11 => ?_)
    · refine Ev.aload_n_1 fX8_write_25 rfl ?_
      refine Ev.iconst fX8_write_26 ?_
      refine Ev.iconst fX8_write_27 ?_
      refine Ev.cVi 24 [(0, 1), (0, 0)] [] fX8_write_28 lkX8_write_87 8 TX8 22 rfl rfl rfl (eX8_refuses hw) ?_
      exact Ev.zI fX8_write_31 rfl rfl
    · refine Ev.iload_n fX8_write_14 rfl ?_
      refine Ev.iconst fX8_write_15 ?_
      refine Ev.sipush fX8_write_16 rfl ?_
      obtain ⟨b71, ga71, gb71, ge71⟩ := eX8_in_b (G := G) (ia := ia) (w := w) amount 0 999 ⟨by omega, by omega⟩ ⟨by omega, by omega⟩ ⟨by omega, by omega⟩
      refine Ev.cSi [(0, amount), (0, 0), (0, 999)] [] fX8_write_19 lkX8_write_68 rfl ge71 ?_
      refine Ev.if_ne fX8_write_22 rfl ⟨by omega, by omega⟩ (fun h22 => by exfalso; omega) (fun h22 => ?_)
      refine Ev.aload_n_1 fX8_write_25 rfl ?_
      refine Ev.iconst fX8_write_26 ?_
      refine Ev.iconst fX8_write_27 ?_
      refine Ev.cVi 24 [(0, 1), (0, 0)] [] fX8_write_28 lkX8_write_87 8 TX8 22 rfl rfl rfl (eX8_refuses hw) ?_
      exact Ev.zI fX8_write_31 rfl rfl
theorem eX8_write_3 {G : zG} {ia ja : Nat → Int → Int} {w : (Nat → Int → Int) × (Nat → Int → Int)} {h line amount : Int} (H : zRw ja (ia 25)) (hw : ia 24 6 = 0 ∨ ia 24 6 = 1) (hh : 0 ≤ h ∧ h < 4) (hl : 0 ≤ line ∧ line < 16) (hm : 0 ≤ amount ∧ amount ≤ 999) (hx : zTo ja (ja 8 h) (15 + line) = amount) : Ev G mX8_write 0 [(1, 24), (0, h), (0, line), (0, amount), (9, 0), (9, 0)] [] (zH ia w) (.inl (some (0, 0)), zH (zrf ia 3 (ja 8 h) (zwi ia)) w, 0, 0) := by
  have I := H.1
  have hn := I.1
  have hb8 := I.2.2.2.2.1
  have hq := hb8 h hh.1 hh.2
  refine Ev.iload_n fX8_write_0 rfl ?_
  refine Ev.cSi [(0, h)] [] fX8_write_1 lkX8_write_80 rfl (eX8_isHouse_t ⟨by omega, by omega⟩) ?_
  refine Ev.if_eq fX8_write_4 rfl (by decide) (fun h4 => by exfalso; revert h4; decide) (fun h4 => ?_)
  refine Ev.iload_n fX8_write_7 rfl ?_
  refine Ev.cSi [(0, line)] [] fX8_write_8 lkX8_write_84 rfl (eX8_isLine_t ⟨by omega, by omega⟩) ?_
  refine Ev.if_eq fX8_write_11 rfl (by decide) (fun h11 => by exfalso; revert h11; decide) (fun h11 => ?_)
  refine Ev.iload_n fX8_write_14 rfl ?_
  refine Ev.iconst fX8_write_15 ?_
  refine Ev.sipush fX8_write_16 rfl ?_
  refine Ev.cSi [(0, amount), (0, 0), (0, 999)] [] fX8_write_19 lkX8_write_68 rfl (eX8_in_t ⟨by omega, by omega⟩ ⟨by omega, by omega⟩ ⟨by omega, by omega⟩ ⟨by omega, by omega⟩) ?_
  refine Ev.if_ne fX8_write_22 rfl (by decide) (fun h22 => ?_) (fun h22 => by exfalso; revert h22; decide)
  refine Ev.aload_n_1 fX8_write_32 rfl ?_
  refine Ev.aload_n_1 fX8_write_33 rfl ?_
  refine Ev.gR 24 0 25 fX8_write_34 (flX8_7 rfl) rfl rfl rfl ?_
  refine Ev.iconst fX8_write_37 ?_
  refine Ev.iload_n fX8_write_38 rfl ?_
  refine Ev.iadd fX8_write_39 ?_
  refine Ev.ld 25 1968 (v := (ja 8 h)) fX8_write_40 rfl rfl ⟨by omega, by omega⟩ (H.2.2.2.2.2.1 h (by omega) (by omega)) ?_
  refine Ev.iload_n fX8_write_41 rfl ?_
  refine Ev.cVi 24 [(0, (ja 8 h)), (0, line)] [] fX8_write_42 lkX8_write_90 8 TX8 22 rfl rfl rfl (eX8_amountOf H ⟨by omega, by omega⟩ ⟨by omega, by omega⟩) ?_
  refine Ev.iload_n fX8_write_45 rfl ?_
  refine Ev.icmp_ne fX8_write_46 rfl (zr9 (by have q9 := I.to (ja 8 h) (15 + line) (by omega) (by omega) (by omega) (by omega); omega) (by have q9 := I.to (ja 8 h) (15 + line) (by omega) (by omega) (by omega) (by omega); omega)) ⟨by omega, by omega⟩ (fun h46 => by exact absurd hx h46) (fun h46 => ?_)
  refine Ev.aload_n_1 fX8_write_49 rfl ?_
  refine Ev.iconst fX8_write_50 ?_
  refine Ev.aload_n_1 fX8_write_51 rfl ?_
  refine Ev.gR 24 0 25 fX8_write_52 (flX8_7 rfl) rfl rfl rfl ?_
  refine Ev.iconst fX8_write_55 ?_
  refine Ev.iload_n fX8_write_56 rfl ?_
  refine Ev.iadd fX8_write_57 ?_
  refine Ev.ld 25 1968 (v := (ja 8 h)) fX8_write_58 rfl rfl ⟨by omega, by omega⟩ (H.2.2.2.2.2.1 h (by omega) (by omega)) ?_
  refine Ev.cVi 24 [(0, 3), (0, (ja 8 h))] [] fX8_write_59 lkX8_write_87 8 TX8 22 rfl rfl rfl (eX8_refuses hw) ?_
  exact Ev.zI fX8_write_62 rfl rfl
theorem eX8_write_2 {G : zG} {ia ja : Nat → Int → Int} {w : (Nat → Int → Int) × (Nat → Int → Int)} {h line amount : Int} (H : zRw ja (ia 25)) (hw : ia 24 6 = 0 ∨ ia 24 6 = 1) (hh : 0 ≤ h ∧ h < 4) (hl : 0 ≤ line ∧ line < 16) (hm : 0 ≤ amount ∧ amount ≤ 999) (hx : zTo ja (ja 8 h) (15 + line) ≠ amount) (hfu : ja 3 0 = 40) : Ev G mX8_write 0 [(1, 24), (0, h), (0, line), (0, amount), (9, 0), (9, 0)] [] (zH ia w) (.inl (some (0, 0)), zH (zrf ia 2 0 (zwi ia)) w, 0, 0) := by
  have I := H.1
  have hn := I.1
  have hb8 := I.2.2.2.2.1
  have hq := hb8 h hh.1 hh.2
  refine Ev.iload_n fX8_write_0 rfl ?_
  refine Ev.cSi [(0, h)] [] fX8_write_1 lkX8_write_80 rfl (eX8_isHouse_t ⟨by omega, by omega⟩) ?_
  refine Ev.if_eq fX8_write_4 rfl (by decide) (fun h4 => by exfalso; revert h4; decide) (fun h4 => ?_)
  refine Ev.iload_n fX8_write_7 rfl ?_
  refine Ev.cSi [(0, line)] [] fX8_write_8 lkX8_write_84 rfl (eX8_isLine_t ⟨by omega, by omega⟩) ?_
  refine Ev.if_eq fX8_write_11 rfl (by decide) (fun h11 => by exfalso; revert h11; decide) (fun h11 => ?_)
  refine Ev.iload_n fX8_write_14 rfl ?_
  refine Ev.iconst fX8_write_15 ?_
  refine Ev.sipush fX8_write_16 rfl ?_
  refine Ev.cSi [(0, amount), (0, 0), (0, 999)] [] fX8_write_19 lkX8_write_68 rfl (eX8_in_t ⟨by omega, by omega⟩ ⟨by omega, by omega⟩ ⟨by omega, by omega⟩ ⟨by omega, by omega⟩) ?_
  refine Ev.if_ne fX8_write_22 rfl (by decide) (fun h22 => ?_) (fun h22 => by exfalso; revert h22; decide)
  refine Ev.aload_n_1 fX8_write_32 rfl ?_
  refine Ev.aload_n_1 fX8_write_33 rfl ?_
  refine Ev.gR 24 0 25 fX8_write_34 (flX8_7 rfl) rfl rfl rfl ?_
  refine Ev.iconst fX8_write_37 ?_
  refine Ev.iload_n fX8_write_38 rfl ?_
  refine Ev.iadd fX8_write_39 ?_
  refine Ev.ld 25 1968 (v := (ja 8 h)) fX8_write_40 rfl rfl ⟨by omega, by omega⟩ (H.2.2.2.2.2.1 h (by omega) (by omega)) ?_
  refine Ev.iload_n fX8_write_41 rfl ?_
  refine Ev.cVi 24 [(0, (ja 8 h)), (0, line)] [] fX8_write_42 lkX8_write_90 8 TX8 22 rfl rfl rfl (eX8_amountOf H ⟨by omega, by omega⟩ ⟨by omega, by omega⟩) ?_
  refine Ev.iload_n fX8_write_45 rfl ?_
  refine Ev.icmp_ne fX8_write_46 rfl (zr9 (by have q9 := I.to (ja 8 h) (15 + line) (by omega) (by omega) (by omega) (by omega); omega) (by have q9 := I.to (ja 8 h) (15 + line) (by omega) (by omega) (by omega) (by omega); omega)) ⟨by omega, by omega⟩ (fun h46 => ?_) (fun h46 => by exact absurd h46 hx)
  refine Ev.aload_n_1 fX8_write_63 rfl ?_
  refine Ev.gR 24 0 25 fX8_write_64 (flX8_7 rfl) rfl rfl rfl ?_
  refine Ev.iconst fX8_write_67 ?_
  refine Ev.ld 25 1968 (v := (ja 3 0)) fX8_write_68 rfl rfl (by decide) H.2.1 ?_
  refine Ev.bipush fX8_write_69 rfl ?_
  refine Ev.icmp_ne fX8_write_71 rfl ⟨by omega, by omega⟩ (by decide) (fun h71 => by exfalso; omega) (fun h71 => ?_)
  refine Ev.aload_n_1 fX8_write_74 rfl ?_
  refine Ev.iconst fX8_write_75 ?_
  refine Ev.iconst fX8_write_76 ?_
  refine Ev.cVi 24 [(0, 2), (0, 0)] [] fX8_write_77 lkX8_write_87 8 TX8 22 rfl rfl rfl (eX8_refuses hw) ?_
  exact Ev.zI fX8_write_80 rfl rfl
/-- the row, before its pages are told -/
def zw4 (g : Int → Int) (N p y h line amount : Int) : Int → Int := zru (zcm g N p y h) (8 + 49 * N + (2 + line)) amount
def zw5 (g : Int → Int) (N p y h line amount : Int) : Int → Int := zrF (zw4 g N p y h line amount) (8 + 49 * N + 18) 31 (fun s => if zlow s ≤ line ∧ line ≤ zhig s then N else zw4 g N p y h line amount (8 + 49 * N + 18 + s))
def zgw (g : Int → Int) (N p y h line amount : Int) : Int → Int := zru (zw5 g N p y h line amount) 2 (zw5 g N p y h line amount 2 + 1)
theorem eX8_write_L {G : zG} {ia : Nat → Int → Int} {w : (Nat → Int → Int) × (Nat → Int → Int)} {g : Int → Int} {N p y h line amount : Int} (LH : zLH ia) (hN : 1 ≤ N ∧ N < 40) (hp : 0 ≤ p ∧ p < N) (hh : 0 ≤ h ∧ h < 4) (e2 : g 1 = y) (hl : 0 ≤ line ∧ line < 16) : ∀ (n : Nat) (k : Int), (31 - k < n) → (0 ≤ k) → (k ≤ 31) → Ev G mX8_write 109 [(1, 24), (0, h), (0, line), (0, amount), (0, N), (0, k)] [] (zH (zgr ia (zrF (zw4 g N p y h line amount) (8 + 49 * N + 18) k (fun s => if zlow s ≤ line ∧ line ≤ zhig s then N else (zw4 g N p y h line amount) (8 + 49 * N + 18 + s)))) w) (.inl (some (0, N)), zH (zgr ia (zgw g N p y h line amount)) w, 0, 0) := by
  intro n
  induction n with
  | zero =>
    intro k hN9 hk0 hk1
    exact absurd hN9 (by omega)
  | succ n ih =>
    intro k hN9 hk0 hk1
    refine Ev.iload fX8_write_109 rfl ?_
    refine Ev.bipush fX8_write_111 rfl ?_
    refine Ev.icmp_ge fX8_write_113 rfl ⟨by omega, by omega⟩ (by decide) (fun h113 => ?_) (fun h113 => ?_)
    · obtain rfl : k = 31 := by omega
      refine Ev.aload_n_1 fX8_write_146 rfl ?_
      refine Ev.gR 24 0 25 fX8_write_147 (flX8_7 rfl) rfl rfl rfl ?_
      refine Ev.iconst fX8_write_150 ?_
      refine Ev.dup2 fX8_write_151 rfl rfl ?_
      refine Ev.ld 25 1968 (v := (zw5 g N p y h line amount 2)) fX8_write_152 rfl rfl (by decide) (zgr_at rfl) ?_
      refine Ev.iconst fX8_write_153 ?_
      refine Ev.iadd fX8_write_154 ?_
      refine Ev.stI 25 1968 fX8_write_155 rfl rfl (by decide) ?_
      rw [zG_p]
      refine Ev.iload fX8_write_156 rfl ?_
      exact Ev.zI fX8_write_158 rfl rfl
    · refine Ev.aload_n_1 fX8_write_116 rfl ?_
      refine Ev.iload fX8_write_117 rfl ?_
      refine Ev.iload_n fX8_write_119 rfl ?_
      refine Ev.iload_n fX8_write_120 rfl ?_
      obtain ⟨b72, ga72, gb72, ge72⟩ := eX8_has_b (G := G) (ia := (zgr ia (zrF (zw4 g N p y h line amount) (8 + 49 * N + 18) k (fun s => if zlow s ≤ line ∧ line ≤ zhig s then N else (zw4 g N p y h line amount) (8 + 49 * N + 18 + s))))) (w := w) LH k line line ⟨by omega, by omega⟩ ⟨by omega, by omega⟩ ⟨by omega, by omega⟩
      refine Ev.cVi 24 [(0, k), (0, line), (0, line)] [] fX8_write_121 lkX8_write_101 8 TX8 22 rfl rfl rfl ge72 ?_
      refine Ev.if_eq fX8_write_124 rfl ⟨by omega, by omega⟩ (fun h124 => ?_) (fun h124 => ?_)
      · refine Ev.siinc [(1, 24), (0, h), (0, line), (0, amount), (0, N), (0, (k + 1))] fX8_write_140 rfl rfl rfl ?_
        refine Ev.goto fX8_write_143 rfl ?_
        rw [zrF_e hk0 (by rw [if_neg (by omega)])]
        exact ih (k + 1) (by omega) (by omega) (by omega)
      · refine Ev.aload_n_1 fX8_write_127 rfl ?_
        refine Ev.iload fX8_write_128 rfl ?_
        refine Ev.bipush fX8_write_130 rfl ?_
        refine Ev.iload fX8_write_132 rfl ?_
        refine Ev.iadd fX8_write_134 ?_
        refine Ev.iload fX8_write_135 rfl ?_
        refine Ev.cVv 24 [(0, N), (0, (18 + k)), (0, N)] [] fX8_write_137 lkX8_write_76 8 TX8 22 rfl rfl rfl (eX8_lays ⟨by omega, by omega⟩ ⟨by omega, by omega⟩) ?_
        refine Ev.siinc [(1, 24), (0, h), (0, line), (0, amount), (0, N), (0, (k + 1))] fX8_write_140 rfl rfl rfl ?_
        refine Ev.goto fX8_write_143 rfl ?_
        rw [zrF_s hk0 (by omega) (by rw [if_pos (by omega)])]
        exact ih (k + 1) (by omega) (by omega) (by omega)
theorem eX8_write_t {G : zG} {ia : Nat → Int → Int} {w : (Nat → Int → Int) × (Nat → Int → Int)} {g : Int → Int} {N p y h line amount : Int} (LH : zLH ia) (hN : 1 ≤ N ∧ N < 40) (hp : 0 ≤ p ∧ p < N) (hh : 0 ≤ h ∧ h < 4) (e2 : g 1 = y) (hl : 0 ≤ line ∧ line < 16) (e0 : g 0 = N) (e1 : g (4 + h) = p) : Ev G mX8_write 89 [(1, 24), (0, h), (0, line), (0, amount), (9, 0), (9, 0)] [] (zH (zgr ia g) w) (.inl (some (0, N)), zH (zgr ia (zgw g N p y h line amount)) w, 0, 0) := by
  refine Ev.aload_n_1 fX8_write_89 rfl ?_
  refine Ev.iload_n fX8_write_90 rfl ?_
  refine Ev.cVi 24 [(0, h)] [] fX8_write_91 lkX8_write_97 8 TX8 22 rfl rfl rfl (eX8_comes hN hp hh e2 e0 e1) ?_
  refine Ev.sistore [(1, 24), (0, h), (0, line), (0, amount), (0, N), (9, 0)] fX8_write_94 rfl rfl ?_
  refine Ev.aload_n_1 fX8_write_96 rfl ?_
  refine Ev.iload fX8_write_97 rfl ?_
  refine Ev.iconst fX8_write_99 ?_
  refine Ev.iload_n fX8_write_100 rfl ?_
  refine Ev.iadd fX8_write_101 ?_
  refine Ev.iload_n fX8_write_102 rfl ?_
  refine Ev.cVv 24 [(0, N), (0, (2 + line)), (0, amount)] [] fX8_write_103 lkX8_write_76 8 TX8 22 rfl rfl rfl (eX8_lays ⟨by omega, by omega⟩ ⟨by omega, by omega⟩) ?_
  refine Ev.iconst fX8_write_106 ?_
  refine Ev.sistore [(1, 24), (0, h), (0, line), (0, amount), (0, N), (0, 0)] fX8_write_107 rfl rfl ?_
  have h9 := eX8_write_L (G := G) (ia := ia) (w := w) (amount := amount) LH hN hp hh e2 hl 200 0 (by omega) (by omega) (by omega)
  rw [zrF_0] at h9
  exact h9
theorem zKp_25 {ia : Nat → Int → Int} {c : Nat} : zgr (zKp ia c) (ia 25) = zKp ia c := by
  have h := zgr_id (ia := zKp ia c)
  rw [zKp_c (c2 := 25) (by decide) (by decide)] at h
  exact h
theorem zLH_kp {ia : Nat → Int → Int} {c : Nat} (LH : zLH ia) : zLH (zKp ia c) := by
  unfold zLH
  rw [zKp_c (c2 := 31) (by decide) (by decide), zKp_c (c2 := 32) (by decide) (by decide)]
  exact LH
theorem eX8_write_0 {G : zG} {ia ja : Nat → Int → Int} {w : (Nat → Int → Int) × (Nat → Int → Int)} {h line amount : Int} (H : zRw ja (ia 25)) (hw : ia 24 6 = 0 ∨ ia 24 6 = 1) (hk : 0 ≤ ia 24 5 ∧ ia 24 5 ≤ 8) (LH : zLH ia) (hh : 0 ≤ h ∧ h < 4) (hl : 0 ≤ line ∧ line < 16) (hm : 0 ≤ amount ∧ amount ≤ 999) (hx : zTo ja (ja 8 h) (15 + line) ≠ amount) (hfu : ja 3 0 < 40) : Ev G mX8_write 0 [(1, 24), (0, h), (0, line), (0, amount), (9, 0), (9, 0)] [] (zH ia w) (.inl (some (0, (ja 3 0))), zH (zgr (zKp ia 25) (zgw (ia 25) (ja 3 0) (ja 8 h) (ja 2 2) h line amount)) w, 0, 0) := by
  have I := H.1
  have hn := I.1
  have hb8 := I.2.2.2.2.1
  have hq := hb8 h hh.1 hh.2
  refine Ev.iload_n fX8_write_0 rfl ?_
  refine Ev.cSi [(0, h)] [] fX8_write_1 lkX8_write_80 rfl (eX8_isHouse_t ⟨by omega, by omega⟩) ?_
  refine Ev.if_eq fX8_write_4 rfl (by decide) (fun h4 => by exfalso; revert h4; decide) (fun h4 => ?_)
  refine Ev.iload_n fX8_write_7 rfl ?_
  refine Ev.cSi [(0, line)] [] fX8_write_8 lkX8_write_84 rfl (eX8_isLine_t ⟨by omega, by omega⟩) ?_
  refine Ev.if_eq fX8_write_11 rfl (by decide) (fun h11 => by exfalso; revert h11; decide) (fun h11 => ?_)
  refine Ev.iload_n fX8_write_14 rfl ?_
  refine Ev.iconst fX8_write_15 ?_
  refine Ev.sipush fX8_write_16 rfl ?_
  refine Ev.cSi [(0, amount), (0, 0), (0, 999)] [] fX8_write_19 lkX8_write_68 rfl (eX8_in_t ⟨by omega, by omega⟩ ⟨by omega, by omega⟩ ⟨by omega, by omega⟩ ⟨by omega, by omega⟩) ?_
  refine Ev.if_ne fX8_write_22 rfl (by decide) (fun h22 => ?_) (fun h22 => by exfalso; revert h22; decide)
  refine Ev.aload_n_1 fX8_write_32 rfl ?_
  refine Ev.aload_n_1 fX8_write_33 rfl ?_
  refine Ev.gR 24 0 25 fX8_write_34 (flX8_7 rfl) rfl rfl rfl ?_
  refine Ev.iconst fX8_write_37 ?_
  refine Ev.iload_n fX8_write_38 rfl ?_
  refine Ev.iadd fX8_write_39 ?_
  refine Ev.ld 25 1968 (v := (ja 8 h)) fX8_write_40 rfl rfl ⟨by omega, by omega⟩ (H.2.2.2.2.2.1 h (by omega) (by omega)) ?_
  refine Ev.iload_n fX8_write_41 rfl ?_
  refine Ev.cVi 24 [(0, (ja 8 h)), (0, line)] [] fX8_write_42 lkX8_write_90 8 TX8 22 rfl rfl rfl (eX8_amountOf H ⟨by omega, by omega⟩ ⟨by omega, by omega⟩) ?_
  refine Ev.iload_n fX8_write_45 rfl ?_
  refine Ev.icmp_ne fX8_write_46 rfl (zr9 (by have q9 := I.to (ja 8 h) (15 + line) (by omega) (by omega) (by omega) (by omega); omega) (by have q9 := I.to (ja 8 h) (15 + line) (by omega) (by omega) (by omega) (by omega); omega)) ⟨by omega, by omega⟩ (fun h46 => ?_) (fun h46 => by exact absurd h46 hx)
  refine Ev.aload_n_1 fX8_write_63 rfl ?_
  refine Ev.gR 24 0 25 fX8_write_64 (flX8_7 rfl) rfl rfl rfl ?_
  refine Ev.iconst fX8_write_67 ?_
  refine Ev.ld 25 1968 (v := (ja 3 0)) fX8_write_68 rfl rfl (by decide) H.2.1 ?_
  refine Ev.bipush fX8_write_69 rfl ?_
  refine Ev.icmp_ne fX8_write_71 rfl ⟨by omega, by omega⟩ (by decide) (fun h71 => ?_) (fun h71 => by exfalso; omega)
  refine Ev.aload_n_1 fX8_write_81 rfl ?_
  refine Ev.aload_n_1 fX8_write_82 rfl ?_
  refine Ev.gR 24 0 25 fX8_write_83 (flX8_7 rfl) rfl rfl rfl ?_
  refine Ev.cVv 24 [(1, 25)] [] fX8_write_86 lkX8_write_93 8 TX8 22 rfl rfl rfl (eX8_keeps_25 hw hk) ?_
  have h9 := eX8_write_t (G := G) (ia := zKp ia 25) (w := w) (g := ia 25) (N := ja 3 0) (p := ja 8 h) (y := ja 2 2) (amount := amount) (zLH_kp LH) ⟨by omega, hfu⟩ hq hh (H.2.2.1) hl (H.2.1) (H.2.2.2.2.2.1 h hh.1 hh.2)
  rw [zKp_25] at h9
  exact h9
theorem eX8_areLike_t_L {G : zG} {ia ja : Nat → Int → Int} {w : (Nat → Int → Int) × (Nat → Int → Int)} {one other first last : Int} (H : zRw ja (ia 25)) (ho : 0 ≤ one ∧ one < ja 3 0) (hp : 0 ≤ other ∧ other < ja 3 0) (hf : 0 ≤ first ∧ first ≤ last ∧ last < 16) (hx : (∀ i : Int, first ≤ i → i ≤ last → zTo ja one (15 + i) = zTo ja other (15 + i))) : ∀ (n : Nat) (k : Int), (17 - k < n) → (first ≤ k) → (k ≤ 16) → Ev G mX8_areLike 3 [(1, 24), (0, one), (0, other), (0, first), (0, last), (0, k)] [] (zH ia w) (.inl (some (0, 1)), zH ia w, 0, 0) := by
  intro n
  induction n with
  | zero =>
    intro k hN hk0 hk1
    exact absurd hN (by omega)
  | succ n ih =>
    intro k hN hk0 hk1
    have I := H.1
    have hn := I.1
    refine Ev.iload fX8_areLike_3 rfl ?_
    refine Ev.iload fX8_areLike_5 rfl ?_
    refine Ev.icmp_gt fX8_areLike_7 rfl ⟨by omega, by omega⟩ ⟨by omega, by omega⟩ (fun h7 => ?_) (fun h7 => ?_)
    · refine Ev.iconst fX8_areLike_35 ?_
      exact Ev.zZ fX8_areLike_36 rfl (by first | exact Or.inl rfl | exact Or.inr rfl) rfl
    · refine Ev.aload_n_1 fX8_areLike_10 rfl ?_
      refine Ev.iload_n fX8_areLike_11 rfl ?_
      refine Ev.iload fX8_areLike_12 rfl ?_
      refine Ev.cVi 24 [(0, one), (0, k)] [] fX8_areLike_14 lkX8_areLike_90 8 TX8 22 rfl rfl rfl (eX8_amountOf H ⟨by omega, by omega⟩ ⟨by omega, by omega⟩) ?_
      refine Ev.aload_n_1 fX8_areLike_17 rfl ?_
      refine Ev.iload_n fX8_areLike_18 rfl ?_
      refine Ev.iload fX8_areLike_19 rfl ?_
      refine Ev.cVi 24 [(0, other), (0, k)] [(0, (zTo ja one (15 + k)))] fX8_areLike_21 lkX8_areLike_90 8 TX8 22 rfl rfl rfl (eX8_amountOf H ⟨by omega, by omega⟩ ⟨by omega, by omega⟩) ?_
      have q1 := I.to one (15 + k) (by omega) (by omega) (by omega) (by omega)
      have q2 := I.to other (15 + k) (by omega) (by omega) (by omega) (by omega)
      refine Ev.icmp_eq fX8_areLike_24 rfl ⟨by omega, by omega⟩ ⟨by omega, by omega⟩ (fun h24 => ?_) (fun h24 => by exact absurd (hx k (by omega) (by omega)) h24)
      refine Ev.siinc [(1, 24), (0, one), (0, other), (0, first), (0, last), (0, (k + 1))] fX8_areLike_29 rfl rfl rfl ?_
      refine Ev.goto fX8_areLike_32 rfl ?_
      exact ih (k + 1) (by omega) (by omega) (by omega)
theorem eX8_areLike_t {G : zG} {ia ja : Nat → Int → Int} {w : (Nat → Int → Int) × (Nat → Int → Int)} {one other first last : Int} (H : zRw ja (ia 25)) (ho : 0 ≤ one ∧ one < ja 3 0) (hp : 0 ≤ other ∧ other < ja 3 0) (hf : 0 ≤ first ∧ first ≤ last ∧ last < 16) (hx : (∀ i : Int, first ≤ i → i ≤ last → zTo ja one (15 + i) = zTo ja other (15 + i))) : Ev G mX8_areLike 0 [(1, 24), (0, one), (0, other), (0, first), (0, last), (9, 0)] [] (zH ia w) (.inl (some (0, 1)), zH ia w, 0, 0) := by
  refine Ev.iload_n fX8_areLike_0 rfl ?_
  refine Ev.sistore [(1, 24), (0, one), (0, other), (0, first), (0, last), (0, first)] fX8_areLike_1 rfl rfl ?_
  exact eX8_areLike_t_L H ho hp hf hx 200 first (by omega) (by omega) (by omega)
theorem eX8_areLike_f_L {G : zG} {ia ja : Nat → Int → Int} {w : (Nat → Int → Int) × (Nat → Int → Int)} {one other first last : Int} (H : zRw ja (ia 25)) (ho : 0 ≤ one ∧ one < ja 3 0) (hp : 0 ≤ other ∧ other < ja 3 0) (hf : 0 ≤ first ∧ first ≤ last ∧ last < 16) (hx : ¬ (∀ i : Int, first ≤ i → i ≤ last → zTo ja one (15 + i) = zTo ja other (15 + i))) : ∀ (n : Nat) (k : Int), (17 - k < n) → (first ≤ k) → (k ≤ 16) → (∀ i : Int, first ≤ i → i < k → zTo ja one (15 + i) = zTo ja other (15 + i)) → Ev G mX8_areLike 3 [(1, 24), (0, one), (0, other), (0, first), (0, last), (0, k)] [] (zH ia w) (.inl (some (0, 0)), zH ia w, 0, 0) := by
  intro n
  induction n with
  | zero =>
    intro k hN hk0 hk1 hall
    exact absurd hN (by omega)
  | succ n ih =>
    intro k hN hk0 hk1 hall
    have I := H.1
    have hn := I.1
    refine Ev.iload fX8_areLike_3 rfl ?_
    refine Ev.iload fX8_areLike_5 rfl ?_
    refine Ev.icmp_gt fX8_areLike_7 rfl ⟨by omega, by omega⟩ ⟨by omega, by omega⟩ (fun h7 => ?_) (fun h7 => ?_)
    · exact absurd (fun i h1 h2 => hall i h1 (by omega)) hx
    · refine Ev.aload_n_1 fX8_areLike_10 rfl ?_
      refine Ev.iload_n fX8_areLike_11 rfl ?_
      refine Ev.iload fX8_areLike_12 rfl ?_
      refine Ev.cVi 24 [(0, one), (0, k)] [] fX8_areLike_14 lkX8_areLike_90 8 TX8 22 rfl rfl rfl (eX8_amountOf H ⟨by omega, by omega⟩ ⟨by omega, by omega⟩) ?_
      refine Ev.aload_n_1 fX8_areLike_17 rfl ?_
      refine Ev.iload_n fX8_areLike_18 rfl ?_
      refine Ev.iload fX8_areLike_19 rfl ?_
      refine Ev.cVi 24 [(0, other), (0, k)] [(0, (zTo ja one (15 + k)))] fX8_areLike_21 lkX8_areLike_90 8 TX8 22 rfl rfl rfl (eX8_amountOf H ⟨by omega, by omega⟩ ⟨by omega, by omega⟩) ?_
      have q1 := I.to one (15 + k) (by omega) (by omega) (by omega) (by omega)
      have q2 := I.to other (15 + k) (by omega) (by omega) (by omega) (by omega)
      refine Ev.icmp_eq fX8_areLike_24 rfl ⟨by omega, by omega⟩ ⟨by omega, by omega⟩ (fun h24 => ?_) (fun h24 => ?_)
      · refine Ev.siinc [(1, 24), (0, one), (0, other), (0, first), (0, last), (0, (k + 1))] fX8_areLike_29 rfl rfl rfl ?_
        refine Ev.goto fX8_areLike_32 rfl ?_
        refine ih (k + 1) (by omega) (by omega) (by omega) (fun i h1 h2 => ?_)
        by_cases e : i = k
        · subst e; exact h24
        · exact hall i h1 (by omega)
      · refine Ev.iconst fX8_areLike_27 ?_
        exact Ev.zZ fX8_areLike_28 rfl (by first | exact Or.inl rfl | exact Or.inr rfl) rfl
theorem eX8_areLike_f {G : zG} {ia ja : Nat → Int → Int} {w : (Nat → Int → Int) × (Nat → Int → Int)} {one other first last : Int} (H : zRw ja (ia 25)) (ho : 0 ≤ one ∧ one < ja 3 0) (hp : 0 ≤ other ∧ other < ja 3 0) (hf : 0 ≤ first ∧ first ≤ last ∧ last < 16) (hx : ¬ (∀ i : Int, first ≤ i → i ≤ last → zTo ja one (15 + i) = zTo ja other (15 + i))) : Ev G mX8_areLike 0 [(1, 24), (0, one), (0, other), (0, first), (0, last), (9, 0)] [] (zH ia w) (.inl (some (0, 0)), zH ia w, 0, 0) := by
  refine Ev.iload_n fX8_areLike_0 rfl ?_
  refine Ev.sistore [(1, 24), (0, one), (0, other), (0, first), (0, last), (0, first)] fX8_areLike_1 rfl rfl ?_
  exact eX8_areLike_f_L H ho hp hf hx 200 first (by omega) (by omega) (by omega) (fun i h1 h2 => absurd h1 (by omega))
theorem eX8_graft_1 {G : zG} {ia : Nat → Int → Int} {w : (Nat → Int → Int) × (Nat → Int → Int)} {h v first last : Int} (hw : ia 24 6 = 0 ∨ ia 24 6 = 1) (hrh : -2147483648 ≤ h ∧ h ≤ 2147483647) (hrv : -2147483648 ≤ v ∧ v ≤ 2147483647) (hrfirst : -2147483648 ≤ first ∧ first ≤ 2147483647) (hrlast : -2147483648 ≤ last ∧ last ≤ 2147483647) (hx : ¬ ((0 ≤ h ∧ h < 4) ∧ (0 ≤ first ∧ first < 16) ∧ 0 ≤ last ∧ last < 16)) : Ev G mX8_graft 0 [(1, 24), (0, h), (0, v), (0, first), (0, last), (9, 0), (9, 0)] [] (zH ia w) (.inl (some (0, 0)), zH (zrf ia 1 0 (zwi ia)) w, 0, 0) := by
  refine Ev.iload_n fX8_graft_0 rfl ?_
  obtain ⟨b73, ga73, gb73, ge73⟩ := eX8_isHouse_b (G := G) (ia := ia) (w := w) h ⟨by omega, by omega⟩
  refine Ev.cSi [(0, h)] [] fX8_graft_1 lkX8_graft_80 rfl ge73 ?_
  refine Ev.if_eq fX8_graft_4 rfl ⟨by omega, by omega⟩ (fun h4 => ?_) (fun h4 => ?_)
  · refine Ev.aload_n_1 fX8_graft_22 rfl ?_
    refine Ev.iconst fX8_graft_23 ?_
    refine Ev.iconst fX8_graft_24 ?_
    refine Ev.cVi 24 [(0, 1), (0, 0)] [] fX8_graft_25 lkX8_graft_87 8 TX8 22 rfl rfl rfl (eX8_refuses hw) ?_
    exact Ev.zI fX8_graft_28 rfl rfl
  · refine Ev.iload_n fX8_graft_7 rfl ?_
    obtain ⟨b74, ga74, gb74, ge74⟩ := eX8_isLine_b (G := G) (ia := ia) (w := w) first ⟨by omega, by omega⟩
    refine Ev.cSi [(0, first)] [] fX8_graft_8 lkX8_graft_84 rfl ge74 ?_
    refine Ev.if_eq fX8_graft_11 rfl ⟨by omega, by omega⟩ (fun h11 => ?_) (fun h11 => ?_)
    · refine Ev.aload_n_1 fX8_graft_22 rfl ?_
      refine Ev.iconst fX8_graft_23 ?_
      refine Ev.iconst fX8_graft_24 ?_
      refine Ev.cVi 24 [(0, 1), (0, 0)] [] fX8_graft_25 lkX8_graft_87 8 TX8 22 rfl rfl rfl (eX8_refuses hw) ?_
      exact Ev.zI fX8_graft_28 rfl rfl
    · refine Ev.iload fX8_graft_14 rfl ?_
      obtain ⟨b75, ga75, gb75, ge75⟩ := eX8_isLine_b (G := G) (ia := ia) (w := w) last ⟨by omega, by omega⟩
      refine Ev.cSi [(0, last)] [] fX8_graft_16 lkX8_graft_84 rfl ge75 ?_
      refine Ev.if_ne fX8_graft_19 rfl ⟨by omega, by omega⟩ (fun h19 => by exfalso; omega) (fun h19 => ?_)
      refine Ev.aload_n_1 fX8_graft_22 rfl ?_
      refine Ev.iconst fX8_graft_23 ?_
      refine Ev.iconst fX8_graft_24 ?_
      refine Ev.cVi 24 [(0, 1), (0, 0)] [] fX8_graft_25 lkX8_graft_87 8 TX8 22 rfl rfl rfl (eX8_refuses hw) ?_
      exact Ev.zI fX8_graft_28 rfl rfl
theorem eX8_graft_4 {G : zG} {ia ja : Nat → Int → Int} {w : (Nat → Int → Int) × (Nat → Int → Int)} {h v first last : Int} (H : zRw ja (ia 25)) (hw : ia 24 6 = 0 ∨ ia 24 6 = 1) (hrv : -2147483648 ≤ v ∧ v ≤ 2147483647) (hh : 0 ≤ h ∧ h < 4) (hf : 0 ≤ first ∧ first < 16) (hl : 0 ≤ last ∧ last < 16) (hx : ¬ (0 ≤ v ∧ v < ja 3 0)) : Ev G mX8_graft 0 [(1, 24), (0, h), (0, v), (0, first), (0, last), (9, 0), (9, 0)] [] (zH ia w) (.inl (some (0, 0)), zH (zrf ia 4 (ja 3 0) (zwi ia)) w, 0, 0) := by
  have I := H.1
  have hn := I.1
  have hb8 := I.2.2.2.2.1
  have hq := hb8 h hh.1 hh.2
  refine Ev.iload_n fX8_graft_0 rfl ?_
  refine Ev.cSi [(0, h)] [] fX8_graft_1 lkX8_graft_80 rfl (eX8_isHouse_t ⟨by omega, by omega⟩) ?_
  refine Ev.if_eq fX8_graft_4 rfl (by decide) (fun h4 => by exfalso; revert h4; decide) (fun h4 => ?_)
  refine Ev.iload_n fX8_graft_7 rfl ?_
  refine Ev.cSi [(0, first)] [] fX8_graft_8 lkX8_graft_84 rfl (eX8_isLine_t ⟨by omega, by omega⟩) ?_
  refine Ev.if_eq fX8_graft_11 rfl (by decide) (fun h11 => by exfalso; revert h11; decide) (fun h11 => ?_)
  refine Ev.iload fX8_graft_14 rfl ?_
  refine Ev.cSi [(0, last)] [] fX8_graft_16 lkX8_graft_84 rfl (eX8_isLine_t ⟨by omega, by omega⟩) ?_
  refine Ev.if_ne fX8_graft_19 rfl (by decide) (fun h19 => ?_) (fun h19 => by exfalso; revert h19; decide)
  refine Ev.aload_n_1 fX8_graft_29 rfl ?_
  refine Ev.iload_n fX8_graft_30 rfl ?_
  refine Ev.cVi 24 [(0, v)] [] fX8_graft_31 lkX8_graft_104 8 TX8 22 rfl rfl rfl (eX8_isVersion_f H ⟨by omega, by omega⟩ (by omega)) ?_
  refine Ev.if_ne fX8_graft_34 rfl (by decide) (fun h34 => by exfalso; revert h34; decide) (fun h34 => ?_)
  refine Ev.aload_n_1 fX8_graft_37 rfl ?_
  refine Ev.iconst fX8_graft_38 ?_
  refine Ev.aload_n_1 fX8_graft_39 rfl ?_
  refine Ev.gR 24 0 25 fX8_graft_40 (flX8_7 rfl) rfl rfl rfl ?_
  refine Ev.iconst fX8_graft_43 ?_
  refine Ev.ld 25 1968 (v := (ja 3 0)) fX8_graft_44 rfl rfl (by decide) H.2.1 ?_
  refine Ev.cVi 24 [(0, 4), (0, (ja 3 0))] [] fX8_graft_45 lkX8_graft_87 8 TX8 22 rfl rfl rfl (eX8_refuses hw) ?_
  exact Ev.zI fX8_graft_48 rfl rfl
theorem eX8_graft_5 {G : zG} {ia ja : Nat → Int → Int} {w : (Nat → Int → Int) × (Nat → Int → Int)} {h v first last : Int} (H : zRw ja (ia 25)) (hw : ia 24 6 = 0 ∨ ia 24 6 = 1) (hh : 0 ≤ h ∧ h < 4) (hf : 0 ≤ first ∧ first < 16) (hl : 0 ≤ last ∧ last < 16) (hv : 0 ≤ v ∧ v < ja 3 0) (hx : last < first) : Ev G mX8_graft 0 [(1, 24), (0, h), (0, v), (0, first), (0, last), (9, 0), (9, 0)] [] (zH ia w) (.inl (some (0, 0)), zH (zrf ia 5 (first - last) (zwi ia)) w, 0, 0) := by
  have I := H.1
  have hn := I.1
  have hb8 := I.2.2.2.2.1
  have hq := hb8 h hh.1 hh.2
  refine Ev.iload_n fX8_graft_0 rfl ?_
  refine Ev.cSi [(0, h)] [] fX8_graft_1 lkX8_graft_80 rfl (eX8_isHouse_t ⟨by omega, by omega⟩) ?_
  refine Ev.if_eq fX8_graft_4 rfl (by decide) (fun h4 => by exfalso; revert h4; decide) (fun h4 => ?_)
  refine Ev.iload_n fX8_graft_7 rfl ?_
  refine Ev.cSi [(0, first)] [] fX8_graft_8 lkX8_graft_84 rfl (eX8_isLine_t ⟨by omega, by omega⟩) ?_
  refine Ev.if_eq fX8_graft_11 rfl (by decide) (fun h11 => by exfalso; revert h11; decide) (fun h11 => ?_)
  refine Ev.iload fX8_graft_14 rfl ?_
  refine Ev.cSi [(0, last)] [] fX8_graft_16 lkX8_graft_84 rfl (eX8_isLine_t ⟨by omega, by omega⟩) ?_
  refine Ev.if_ne fX8_graft_19 rfl (by decide) (fun h19 => ?_) (fun h19 => by exfalso; revert h19; decide)
  refine Ev.aload_n_1 fX8_graft_29 rfl ?_
  refine Ev.iload_n fX8_graft_30 rfl ?_
  refine Ev.cVi 24 [(0, v)] [] fX8_graft_31 lkX8_graft_104 8 TX8 22 rfl rfl rfl (eX8_isVersion_t H ⟨by omega, by omega⟩) ?_
  refine Ev.if_ne fX8_graft_34 rfl (by decide) (fun h34 => ?_) (fun h34 => by exfalso; revert h34; decide)
  refine Ev.iload fX8_graft_49 rfl ?_
  refine Ev.iload_n fX8_graft_51 rfl ?_
  refine Ev.icmp_ge fX8_graft_52 rfl ⟨by omega, by omega⟩ ⟨by omega, by omega⟩ (fun h52 => by exfalso; omega) (fun h52 => ?_)
  refine Ev.aload_n_1 fX8_graft_55 rfl ?_
  refine Ev.iconst fX8_graft_56 ?_
  refine Ev.iload_n fX8_graft_57 rfl ?_
  refine Ev.iload fX8_graft_58 rfl ?_
  refine Ev.isub fX8_graft_60 ?_
  refine Ev.cVi 24 [(0, 5), (0, (first - last))] [] fX8_graft_61 lkX8_graft_87 8 TX8 22 rfl rfl rfl (eX8_refuses hw) ?_
  exact Ev.zI fX8_graft_64 rfl rfl
theorem eX8_graft_3 {G : zG} {ia ja : Nat → Int → Int} {w : (Nat → Int → Int) × (Nat → Int → Int)} {h v first last : Int} (H : zRw ja (ia 25)) (hw : ia 24 6 = 0 ∨ ia 24 6 = 1) (hh : 0 ≤ h ∧ h < 4) (hf : 0 ≤ first ∧ first < 16) (hl : 0 ≤ last ∧ last < 16) (hv : 0 ≤ v ∧ v < ja 3 0) (hfl : first ≤ last) (hx : (∀ i : Int, first ≤ i → i ≤ last → zTo ja (ja 8 h) (15 + i) = zTo ja v (15 + i))) : Ev G mX8_graft 0 [(1, 24), (0, h), (0, v), (0, first), (0, last), (9, 0), (9, 0)] [] (zH ia w) (.inl (some (0, 0)), zH (zrf ia 3 (ja 8 h) (zwi ia)) w, 0, 0) := by
  have I := H.1
  have hn := I.1
  have hb8 := I.2.2.2.2.1
  have hq := hb8 h hh.1 hh.2
  refine Ev.iload_n fX8_graft_0 rfl ?_
  refine Ev.cSi [(0, h)] [] fX8_graft_1 lkX8_graft_80 rfl (eX8_isHouse_t ⟨by omega, by omega⟩) ?_
  refine Ev.if_eq fX8_graft_4 rfl (by decide) (fun h4 => by exfalso; revert h4; decide) (fun h4 => ?_)
  refine Ev.iload_n fX8_graft_7 rfl ?_
  refine Ev.cSi [(0, first)] [] fX8_graft_8 lkX8_graft_84 rfl (eX8_isLine_t ⟨by omega, by omega⟩) ?_
  refine Ev.if_eq fX8_graft_11 rfl (by decide) (fun h11 => by exfalso; revert h11; decide) (fun h11 => ?_)
  refine Ev.iload fX8_graft_14 rfl ?_
  refine Ev.cSi [(0, last)] [] fX8_graft_16 lkX8_graft_84 rfl (eX8_isLine_t ⟨by omega, by omega⟩) ?_
  refine Ev.if_ne fX8_graft_19 rfl (by decide) (fun h19 => ?_) (fun h19 => by exfalso; revert h19; decide)
  refine Ev.aload_n_1 fX8_graft_29 rfl ?_
  refine Ev.iload_n fX8_graft_30 rfl ?_
  refine Ev.cVi 24 [(0, v)] [] fX8_graft_31 lkX8_graft_104 8 TX8 22 rfl rfl rfl (eX8_isVersion_t H ⟨by omega, by omega⟩) ?_
  refine Ev.if_ne fX8_graft_34 rfl (by decide) (fun h34 => ?_) (fun h34 => by exfalso; revert h34; decide)
  refine Ev.iload fX8_graft_49 rfl ?_
  refine Ev.iload_n fX8_graft_51 rfl ?_
  refine Ev.icmp_ge fX8_graft_52 rfl ⟨by omega, by omega⟩ ⟨by omega, by omega⟩ (fun h52 => ?_) (fun h52 => by exfalso; omega)
  refine Ev.aload_n_1 fX8_graft_65 rfl ?_
  refine Ev.aload_n_1 fX8_graft_66 rfl ?_
  refine Ev.gR 24 0 25 fX8_graft_67 (flX8_7 rfl) rfl rfl rfl ?_
  refine Ev.iconst fX8_graft_70 ?_
  refine Ev.iload_n fX8_graft_71 rfl ?_
  refine Ev.iadd fX8_graft_72 ?_
  refine Ev.ld 25 1968 (v := (ja 8 h)) fX8_graft_73 rfl rfl ⟨by omega, by omega⟩ (H.2.2.2.2.2.1 h (by omega) (by omega)) ?_
  refine Ev.iload_n fX8_graft_74 rfl ?_
  refine Ev.iload_n fX8_graft_75 rfl ?_
  refine Ev.iload fX8_graft_76 rfl ?_
  refine Ev.cVi 24 [(0, (ja 8 h)), (0, v), (0, first), (0, last)] [] fX8_graft_78 lkX8_graft_107 8 TX8 22 rfl rfl rfl (eX8_areLike_t H hq hv ⟨by omega, by omega, by omega⟩ hx) ?_
  refine Ev.if_eq fX8_graft_81 rfl (by decide) (fun h81 => by exfalso; revert h81; decide) (fun h81 => ?_)
  refine Ev.aload_n_1 fX8_graft_84 rfl ?_
  refine Ev.iconst fX8_graft_85 ?_
  refine Ev.aload_n_1 fX8_graft_86 rfl ?_
  refine Ev.gR 24 0 25 fX8_graft_87 (flX8_7 rfl) rfl rfl rfl ?_
  refine Ev.iconst fX8_graft_90 ?_
  refine Ev.iload_n fX8_graft_91 rfl ?_
  refine Ev.iadd fX8_graft_92 ?_
  refine Ev.ld 25 1968 (v := (ja 8 h)) fX8_graft_93 rfl rfl ⟨by omega, by omega⟩ (H.2.2.2.2.2.1 h (by omega) (by omega)) ?_
  refine Ev.cVi 24 [(0, 3), (0, (ja 8 h))] [] fX8_graft_94 lkX8_graft_87 8 TX8 22 rfl rfl rfl (eX8_refuses hw) ?_
  exact Ev.zI fX8_graft_97 rfl rfl
theorem eX8_graft_2 {G : zG} {ia ja : Nat → Int → Int} {w : (Nat → Int → Int) × (Nat → Int → Int)} {h v first last : Int} (H : zRw ja (ia 25)) (hw : ia 24 6 = 0 ∨ ia 24 6 = 1) (hh : 0 ≤ h ∧ h < 4) (hf : 0 ≤ first ∧ first < 16) (hl : 0 ≤ last ∧ last < 16) (hv : 0 ≤ v ∧ v < ja 3 0) (hfl : first ≤ last) (hx : ¬ (∀ i : Int, first ≤ i → i ≤ last → zTo ja (ja 8 h) (15 + i) = zTo ja v (15 + i))) (hfu : ja 3 0 = 40) : Ev G mX8_graft 0 [(1, 24), (0, h), (0, v), (0, first), (0, last), (9, 0), (9, 0)] [] (zH ia w) (.inl (some (0, 0)), zH (zrf ia 2 0 (zwi ia)) w, 0, 0) := by
  have I := H.1
  have hn := I.1
  have hb8 := I.2.2.2.2.1
  have hq := hb8 h hh.1 hh.2
  refine Ev.iload_n fX8_graft_0 rfl ?_
  refine Ev.cSi [(0, h)] [] fX8_graft_1 lkX8_graft_80 rfl (eX8_isHouse_t ⟨by omega, by omega⟩) ?_
  refine Ev.if_eq fX8_graft_4 rfl (by decide) (fun h4 => by exfalso; revert h4; decide) (fun h4 => ?_)
  refine Ev.iload_n fX8_graft_7 rfl ?_
  refine Ev.cSi [(0, first)] [] fX8_graft_8 lkX8_graft_84 rfl (eX8_isLine_t ⟨by omega, by omega⟩) ?_
  refine Ev.if_eq fX8_graft_11 rfl (by decide) (fun h11 => by exfalso; revert h11; decide) (fun h11 => ?_)
  refine Ev.iload fX8_graft_14 rfl ?_
  refine Ev.cSi [(0, last)] [] fX8_graft_16 lkX8_graft_84 rfl (eX8_isLine_t ⟨by omega, by omega⟩) ?_
  refine Ev.if_ne fX8_graft_19 rfl (by decide) (fun h19 => ?_) (fun h19 => by exfalso; revert h19; decide)
  refine Ev.aload_n_1 fX8_graft_29 rfl ?_
  refine Ev.iload_n fX8_graft_30 rfl ?_
  refine Ev.cVi 24 [(0, v)] [] fX8_graft_31 lkX8_graft_104 8 TX8 22 rfl rfl rfl (eX8_isVersion_t H ⟨by omega, by omega⟩) ?_
  refine Ev.if_ne fX8_graft_34 rfl (by decide) (fun h34 => ?_) (fun h34 => by exfalso; revert h34; decide)
  refine Ev.iload fX8_graft_49 rfl ?_
  refine Ev.iload_n fX8_graft_51 rfl ?_
  refine Ev.icmp_ge fX8_graft_52 rfl ⟨by omega, by omega⟩ ⟨by omega, by omega⟩ (fun h52 => ?_) (fun h52 => by exfalso; omega)
  refine Ev.aload_n_1 fX8_graft_65 rfl ?_
  refine Ev.aload_n_1 fX8_graft_66 rfl ?_
  refine Ev.gR 24 0 25 fX8_graft_67 (flX8_7 rfl) rfl rfl rfl ?_
  refine Ev.iconst fX8_graft_70 ?_
  refine Ev.iload_n fX8_graft_71 rfl ?_
  refine Ev.iadd fX8_graft_72 ?_
  refine Ev.ld 25 1968 (v := (ja 8 h)) fX8_graft_73 rfl rfl ⟨by omega, by omega⟩ (H.2.2.2.2.2.1 h (by omega) (by omega)) ?_
  refine Ev.iload_n fX8_graft_74 rfl ?_
  refine Ev.iload_n fX8_graft_75 rfl ?_
  refine Ev.iload fX8_graft_76 rfl ?_
  refine Ev.cVi 24 [(0, (ja 8 h)), (0, v), (0, first), (0, last)] [] fX8_graft_78 lkX8_graft_107 8 TX8 22 rfl rfl rfl (eX8_areLike_f H hq hv ⟨by omega, by omega, by omega⟩ hx) ?_
  refine Ev.if_eq fX8_graft_81 rfl (by decide) (fun h81 => ?_) (fun h81 => by exfalso; revert h81; decide)
  refine Ev.aload_n_1 fX8_graft_98 rfl ?_
  refine Ev.gR 24 0 25 fX8_graft_99 (flX8_7 rfl) rfl rfl rfl ?_
  refine Ev.iconst fX8_graft_102 ?_
  refine Ev.ld 25 1968 (v := (ja 3 0)) fX8_graft_103 rfl rfl (by decide) H.2.1 ?_
  refine Ev.bipush fX8_graft_104 rfl ?_
  refine Ev.icmp_ne fX8_graft_106 rfl ⟨by omega, by omega⟩ (by decide) (fun h106 => by exfalso; omega) (fun h106 => ?_)
  refine Ev.aload_n_1 fX8_graft_109 rfl ?_
  refine Ev.iconst fX8_graft_110 ?_
  refine Ev.iconst fX8_graft_111 ?_
  refine Ev.cVi 24 [(0, 2), (0, 0)] [] fX8_graft_112 lkX8_graft_87 8 TX8 22 rfl rfl rfl (eX8_refuses hw) ?_
  exact Ev.zI fX8_graft_115 rfl rfl
def zg4 (g : Int → Int) (N p y h v first last : Int) : Int → Int := zrF (zcm g N p y h) (8 + 49 * N + (2 + first)) (last - first + 1) (fun j => zcm g N p y h (8 + 49 * v + (2 + (first + j))))
def zg5 (g : Int → Int) (N p y h v first last : Int) : Int → Int := zrF (zg4 g N p y h v first last) (8 + 49 * N + 18) 31 (fun s => if zlow s ≤ last ∧ first ≤ zhig s then (if first ≤ zlow s ∧ zhig s ≤ last then zg4 g N p y h v first last (8 + 49 * v + (18 + s)) else N) else zg4 g N p y h v first last (8 + 49 * N + 18 + s))
def zgg (g : Int → Int) (N p y h v first last : Int) : Int → Int := zru (zg5 g N p y h v first last) 3 (zg5 g N p y h v first last 3 + 1)
theorem eX8_graft_M {G : zG} {ia : Nat → Int → Int} {w : (Nat → Int → Int) × (Nat → Int → Int)} {g : Int → Int} {N p y h v first last : Int} (LH : zLH ia) (hN : 1 ≤ N ∧ N < 40) (hp : 0 ≤ p ∧ p < N) (hh : 0 ≤ h ∧ h < 4) (e2 : g 1 = y) (hf : 0 ≤ first ∧ first ≤ last ∧ last < 16) (hv : 0 ≤ v ∧ v < N) : ∀ (n : Nat) (k : Int), (31 - k < n) → (0 ≤ k) → (k ≤ 31) → Ev G mX8_graft 167 [(1, 24), (0, h), (0, v), (0, first), (0, last), (0, N), (0, k)] [] (zH (zgr ia (zrF (zg4 g N p y h v first last) (8 + 49 * N + 18) k (fun s => if zlow s ≤ last ∧ first ≤ zhig s then (if first ≤ zlow s ∧ zhig s ≤ last then (zg4 g N p y h v first last) (8 + 49 * v + (18 + s)) else N) else (zg4 g N p y h v first last) (8 + 49 * N + 18 + s)))) w) (.inl (some (0, N)), zH (zgr ia (zgg g N p y h v first last)) w, 0, 0) := by
  intro n
  induction n with
  | zero =>
    intro k hN9 hk0 hk1
    exact absurd hN9 (by omega)
  | succ n ih =>
    intro k hN9 hk0 hk1
    refine Ev.iload fX8_graft_167 rfl ?_
    refine Ev.bipush fX8_graft_169 rfl ?_
    refine Ev.icmp_ge fX8_graft_171 rfl ⟨by omega, by omega⟩ (by decide) (fun h171 => ?_) (fun h171 => ?_)
    · obtain rfl : k = 31 := by omega
      refine Ev.aload_n_1 fX8_graft_230 rfl ?_
      refine Ev.gR 24 0 25 fX8_graft_231 (flX8_7 rfl) rfl rfl rfl ?_
      refine Ev.iconst fX8_graft_234 ?_
      refine Ev.dup2 fX8_graft_235 rfl rfl ?_
      refine Ev.ld 25 1968 (v := (zg5 g N p y h v first last 3)) fX8_graft_236 rfl rfl (by decide) (zgr_at rfl) ?_
      refine Ev.iconst fX8_graft_237 ?_
      refine Ev.iadd fX8_graft_238 ?_
      refine Ev.stI 25 1968 fX8_graft_239 rfl rfl (by decide) ?_
      rw [zG_p]
      refine Ev.iload fX8_graft_240 rfl ?_
      exact Ev.zI fX8_graft_242 rfl rfl
    · refine Ev.aload_n_1 fX8_graft_174 rfl ?_
      refine Ev.iload fX8_graft_175 rfl ?_
      refine Ev.iload_n fX8_graft_177 rfl ?_
      refine Ev.iload fX8_graft_178 rfl ?_
      obtain ⟨b76, ga76, gb76, ge76⟩ := eX8_has_b (G := G) (ia := (zgr ia (zrF (zg4 g N p y h v first last) (8 + 49 * N + 18) k (fun s => if zlow s ≤ last ∧ first ≤ zhig s then (if first ≤ zlow s ∧ zhig s ≤ last then (zg4 g N p y h v first last) (8 + 49 * v + (18 + s)) else N) else (zg4 g N p y h v first last) (8 + 49 * N + 18 + s))))) (w := w) LH k first last ⟨by omega, by omega⟩ ⟨by omega, by omega⟩ ⟨by omega, by omega⟩
      refine Ev.cVi 24 [(0, k), (0, first), (0, last)] [] fX8_graft_180 lkX8_graft_101 8 TX8 22 rfl rfl rfl ge76 ?_
      refine Ev.if_eq fX8_graft_183 rfl ⟨by omega, by omega⟩ (fun h183 => ?_) (fun h183 => ?_)
      · refine Ev.siinc [(1, 24), (0, h), (0, v), (0, first), (0, last), (0, N), (0, (k + 1))] fX8_graft_224 rfl rfl rfl ?_
        refine Ev.goto fX8_graft_227 rfl ?_
        rw [zrF_e hk0 (by rw [if_neg (by omega)])]
        exact ih (k + 1) (by omega) (by omega) (by omega)
      · refine Ev.aload_n_1 fX8_graft_186 rfl ?_
        refine Ev.iload fX8_graft_187 rfl ?_
        refine Ev.bipush fX8_graft_189 rfl ?_
        refine Ev.iload fX8_graft_191 rfl ?_
        refine Ev.iadd fX8_graft_193 ?_
        refine Ev.aload_n_1 fX8_graft_194 rfl ?_
        refine Ev.iload fX8_graft_195 rfl ?_
        refine Ev.iload_n fX8_graft_197 rfl ?_
        refine Ev.iload fX8_graft_198 rfl ?_
        obtain ⟨b77, ga77, gb77, ge77⟩ := eX8_within_b (G := G) (ia := (zgr ia (zrF (zg4 g N p y h v first last) (8 + 49 * N + 18) k (fun s => if zlow s ≤ last ∧ first ≤ zhig s then (if first ≤ zlow s ∧ zhig s ≤ last then (zg4 g N p y h v first last) (8 + 49 * v + (18 + s)) else N) else (zg4 g N p y h v first last) (8 + 49 * N + 18 + s))))) (w := w) LH k first last ⟨by omega, by omega⟩ ⟨by omega, by omega⟩ ⟨by omega, by omega⟩
        refine Ev.cVi 24 [(0, k), (0, first), (0, last)] [(0, (18 + k)), (0, N), (1, 24)] fX8_graft_200 lkX8_graft_111 8 TX8 22 rfl rfl rfl ge77 ?_
        refine Ev.if_eq fX8_graft_203 rfl ⟨by omega, by omega⟩ (fun h203 => ?_) (fun h203 => ?_)
        · refine Ev.iload fX8_graft_219 rfl ?_
          refine Ev.cVv 24 [(0, N), (0, (18 + k)), (0, N)] [] fX8_graft_221 lkX8_graft_76 8 TX8 22 rfl rfl rfl (eX8_lays ⟨by omega, by omega⟩ ⟨by omega, by omega⟩) ?_
          refine Ev.siinc [(1, 24), (0, h), (0, v), (0, first), (0, last), (0, N), (0, (k + 1))] fX8_graft_224 rfl rfl rfl ?_
          refine Ev.goto fX8_graft_227 rfl ?_
          rw [zrF_s hk0 (by omega) (by rw [if_pos (by omega), if_neg (by omega)])]
          exact ih (k + 1) (by omega) (by omega) (by omega)
        · refine Ev.aload_n_1 fX8_graft_206 rfl ?_
          refine Ev.iload_n fX8_graft_207 rfl ?_
          refine Ev.bipush fX8_graft_208 rfl ?_
          refine Ev.iload fX8_graft_210 rfl ?_
          refine Ev.iadd fX8_graft_212 ?_
          refine Ev.cVi 24 [(0, v), (0, (18 + k))] [(0, (18 + k)), (0, N), (1, 24)] fX8_graft_213 lkX8_graft_72 8 TX8 22 rfl rfl rfl (eX8_of_r ⟨by omega, by omega⟩ ⟨by omega, by omega⟩ (zrF_out (by omega))) ?_
          refine Ev.goto fX8_graft_216 rfl ?_
          refine Ev.cVv 24 [(0, N), (0, (18 + k)), (0, ((zg4 g N p y h v first last) (8 + 49 * v + (18 + k))))] [] fX8_graft_221 lkX8_graft_76 8 TX8 22 rfl rfl rfl (eX8_lays ⟨by omega, by omega⟩ ⟨by omega, by omega⟩) ?_
          refine Ev.siinc [(1, 24), (0, h), (0, v), (0, first), (0, last), (0, N), (0, (k + 1))] fX8_graft_224 rfl rfl rfl ?_
          refine Ev.goto fX8_graft_227 rfl ?_
          rw [zrF_s hk0 (by omega) (by rw [if_pos (by omega), if_pos (by omega)])]
          exact ih (k + 1) (by omega) (by omega) (by omega)
theorem eX8_graft_L {G : zG} {ia : Nat → Int → Int} {w : (Nat → Int → Int) × (Nat → Int → Int)} {g : Int → Int} {N p y h v first last : Int} (LH : zLH ia) (hN : 1 ≤ N ∧ N < 40) (hp : 0 ≤ p ∧ p < N) (hh : 0 ≤ h ∧ h < 4) (e2 : g 1 = y) (hf : 0 ≤ first ∧ first ≤ last ∧ last < 16) (hv : 0 ≤ v ∧ v < N) : ∀ (n : Nat) (k : Int), (17 - k < n) → (first ≤ k) → (k ≤ last + 1) → Ev G mX8_graft 134 [(1, 24), (0, h), (0, v), (0, first), (0, last), (0, N), (0, k)] [] (zH (zgr ia (zrF (zcm g N p y h) (8 + 49 * N + (2 + first)) (k - first) (fun j => zcm g N p y h (8 + 49 * v + (2 + (first + j)))))) w) (.inl (some (0, N)), zH (zgr ia (zgg g N p y h v first last)) w, 0, 0) := by
  intro n
  induction n with
  | zero =>
    intro k hN9 hk0 hk1
    exact absurd hN9 (by omega)
  | succ n ih =>
    intro k hN9 hk0 hk1
    refine Ev.iload fX8_graft_134 rfl ?_
    refine Ev.iload fX8_graft_136 rfl ?_
    refine Ev.icmp_gt fX8_graft_138 rfl ⟨by omega, by omega⟩ ⟨by omega, by omega⟩ (fun h138 => ?_) (fun h138 => ?_)
    · refine Ev.iconst fX8_graft_164 ?_
      refine Ev.sistore [(1, 24), (0, h), (0, v), (0, first), (0, last), (0, N), (0, 0)] fX8_graft_165 rfl rfl ?_
      have h9 := eX8_graft_M (G := G) (ia := ia) (w := w) LH hN hp hh e2 hf hv 200 0 (by omega) (by omega) (by omega)
      rw [zrF_0] at h9
      rw [show k - first = last - first + 1 by omega]
      exact h9
    · refine Ev.aload_n_1 fX8_graft_141 rfl ?_
      refine Ev.iload fX8_graft_142 rfl ?_
      refine Ev.iconst fX8_graft_144 ?_
      refine Ev.iload fX8_graft_145 rfl ?_
      refine Ev.iadd fX8_graft_147 ?_
      refine Ev.aload_n_1 fX8_graft_148 rfl ?_
      refine Ev.iload_n fX8_graft_149 rfl ?_
      refine Ev.iload fX8_graft_150 rfl ?_
      refine Ev.cVi 24 [(0, v), (0, k)] [(0, (2 + k)), (0, N), (1, 24)] fX8_graft_152 lkX8_graft_90 8 TX8 22 rfl rfl rfl (eX8_amountOf_r ⟨by omega, by omega⟩ ⟨by omega, by omega⟩ (zrF_out (by omega))) ?_
      refine Ev.cVv 24 [(0, N), (0, (2 + k)), (0, (zcm g N p y h (8 + 49 * v + (2 + k))))] [] fX8_graft_155 lkX8_graft_76 8 TX8 22 rfl rfl rfl (eX8_lays ⟨by omega, by omega⟩ ⟨by omega, by omega⟩) ?_
      refine Ev.siinc [(1, 24), (0, h), (0, v), (0, first), (0, last), (0, N), (0, (k + 1))] fX8_graft_158 rfl rfl rfl ?_
      refine Ev.goto fX8_graft_161 rfl ?_
      rw [zrF_s (by omega) (by omega) (by rw [show first + (k - first) = k by omega]), show k - first + 1 = k + 1 - first by omega]
      exact ih (k + 1) (by omega) (by omega) (by omega)
theorem eX8_graft_t {G : zG} {ia : Nat → Int → Int} {w : (Nat → Int → Int) × (Nat → Int → Int)} {g : Int → Int} {N p y h v first last : Int} (LH : zLH ia) (hN : 1 ≤ N ∧ N < 40) (hp : 0 ≤ p ∧ p < N) (hh : 0 ≤ h ∧ h < 4) (e2 : g 1 = y) (hf : 0 ≤ first ∧ first ≤ last ∧ last < 16) (hv : 0 ≤ v ∧ v < N) (e0 : g 0 = N) (e1 : g (4 + h) = p) : Ev G mX8_graft 124 [(1, 24), (0, h), (0, v), (0, first), (0, last), (9, 0), (9, 0)] [] (zH (zgr ia g) w) (.inl (some (0, N)), zH (zgr ia (zgg g N p y h v first last)) w, 0, 0) := by
  refine Ev.aload_n_1 fX8_graft_124 rfl ?_
  refine Ev.iload_n fX8_graft_125 rfl ?_
  refine Ev.cVi 24 [(0, h)] [] fX8_graft_126 lkX8_graft_97 8 TX8 22 rfl rfl rfl (eX8_comes hN hp hh e2 e0 e1) ?_
  refine Ev.sistore [(1, 24), (0, h), (0, v), (0, first), (0, last), (0, N), (9, 0)] fX8_graft_129 rfl rfl ?_
  refine Ev.iload_n fX8_graft_131 rfl ?_
  refine Ev.sistore [(1, 24), (0, h), (0, v), (0, first), (0, last), (0, N), (0, first)] fX8_graft_132 rfl rfl ?_
  have h9 := eX8_graft_L (G := G) (ia := ia) (w := w) LH hN hp hh e2 hf hv 200 first (by omega) (by omega) (by omega)
  rw [show first - first = 0 by omega, zrF_0] at h9
  exact h9
theorem eX8_graft_0 {G : zG} {ia ja : Nat → Int → Int} {w : (Nat → Int → Int) × (Nat → Int → Int)} {h v first last : Int} (H : zRw ja (ia 25)) (hw : ia 24 6 = 0 ∨ ia 24 6 = 1) (hk : 0 ≤ ia 24 5 ∧ ia 24 5 ≤ 8) (LH : zLH ia) (hh : 0 ≤ h ∧ h < 4) (hf : 0 ≤ first ∧ first < 16) (hl : 0 ≤ last ∧ last < 16) (hv : 0 ≤ v ∧ v < ja 3 0) (hfl : first ≤ last) (hx : ¬ (∀ i : Int, first ≤ i → i ≤ last → zTo ja (ja 8 h) (15 + i) = zTo ja v (15 + i))) (hfu : ja 3 0 < 40) : Ev G mX8_graft 0 [(1, 24), (0, h), (0, v), (0, first), (0, last), (9, 0), (9, 0)] [] (zH ia w) (.inl (some (0, (ja 3 0))), zH (zgr (zKp ia 25) (zgg (ia 25) (ja 3 0) (ja 8 h) (ja 2 2) h v first last)) w, 0, 0) := by
  have I := H.1
  have hn := I.1
  have hb8 := I.2.2.2.2.1
  have hq := hb8 h hh.1 hh.2
  refine Ev.iload_n fX8_graft_0 rfl ?_
  refine Ev.cSi [(0, h)] [] fX8_graft_1 lkX8_graft_80 rfl (eX8_isHouse_t ⟨by omega, by omega⟩) ?_
  refine Ev.if_eq fX8_graft_4 rfl (by decide) (fun h4 => by exfalso; revert h4; decide) (fun h4 => ?_)
  refine Ev.iload_n fX8_graft_7 rfl ?_
  refine Ev.cSi [(0, first)] [] fX8_graft_8 lkX8_graft_84 rfl (eX8_isLine_t ⟨by omega, by omega⟩) ?_
  refine Ev.if_eq fX8_graft_11 rfl (by decide) (fun h11 => by exfalso; revert h11; decide) (fun h11 => ?_)
  refine Ev.iload fX8_graft_14 rfl ?_
  refine Ev.cSi [(0, last)] [] fX8_graft_16 lkX8_graft_84 rfl (eX8_isLine_t ⟨by omega, by omega⟩) ?_
  refine Ev.if_ne fX8_graft_19 rfl (by decide) (fun h19 => ?_) (fun h19 => by exfalso; revert h19; decide)
  refine Ev.aload_n_1 fX8_graft_29 rfl ?_
  refine Ev.iload_n fX8_graft_30 rfl ?_
  refine Ev.cVi 24 [(0, v)] [] fX8_graft_31 lkX8_graft_104 8 TX8 22 rfl rfl rfl (eX8_isVersion_t H ⟨by omega, by omega⟩) ?_
  refine Ev.if_ne fX8_graft_34 rfl (by decide) (fun h34 => ?_) (fun h34 => by exfalso; revert h34; decide)
  refine Ev.iload fX8_graft_49 rfl ?_
  refine Ev.iload_n fX8_graft_51 rfl ?_
  refine Ev.icmp_ge fX8_graft_52 rfl ⟨by omega, by omega⟩ ⟨by omega, by omega⟩ (fun h52 => ?_) (fun h52 => by exfalso; omega)
  refine Ev.aload_n_1 fX8_graft_65 rfl ?_
  refine Ev.aload_n_1 fX8_graft_66 rfl ?_
  refine Ev.gR 24 0 25 fX8_graft_67 (flX8_7 rfl) rfl rfl rfl ?_
  refine Ev.iconst fX8_graft_70 ?_
  refine Ev.iload_n fX8_graft_71 rfl ?_
  refine Ev.iadd fX8_graft_72 ?_
  refine Ev.ld 25 1968 (v := (ja 8 h)) fX8_graft_73 rfl rfl ⟨by omega, by omega⟩ (H.2.2.2.2.2.1 h (by omega) (by omega)) ?_
  refine Ev.iload_n fX8_graft_74 rfl ?_
  refine Ev.iload_n fX8_graft_75 rfl ?_
  refine Ev.iload fX8_graft_76 rfl ?_
  refine Ev.cVi 24 [(0, (ja 8 h)), (0, v), (0, first), (0, last)] [] fX8_graft_78 lkX8_graft_107 8 TX8 22 rfl rfl rfl (eX8_areLike_f H hq hv ⟨by omega, by omega, by omega⟩ hx) ?_
  refine Ev.if_eq fX8_graft_81 rfl (by decide) (fun h81 => ?_) (fun h81 => by exfalso; revert h81; decide)
  refine Ev.aload_n_1 fX8_graft_98 rfl ?_
  refine Ev.gR 24 0 25 fX8_graft_99 (flX8_7 rfl) rfl rfl rfl ?_
  refine Ev.iconst fX8_graft_102 ?_
  refine Ev.ld 25 1968 (v := (ja 3 0)) fX8_graft_103 rfl rfl (by decide) H.2.1 ?_
  refine Ev.bipush fX8_graft_104 rfl ?_
  refine Ev.icmp_ne fX8_graft_106 rfl ⟨by omega, by omega⟩ (by decide) (fun h106 => ?_) (fun h106 => by exfalso; omega)
  refine Ev.aload_n_1 fX8_graft_116 rfl ?_
  refine Ev.aload_n_1 fX8_graft_117 rfl ?_
  refine Ev.gR 24 0 25 fX8_graft_118 (flX8_7 rfl) rfl rfl rfl ?_
  refine Ev.cVv 24 [(1, 25)] [] fX8_graft_121 lkX8_graft_93 8 TX8 22 rfl rfl rfl (eX8_keeps_25 hw hk) ?_
  have h9 := eX8_graft_t (G := G) (ia := zKp ia 25) (w := w) (g := ia 25) (N := ja 3 0) (p := ja 8 h) (y := ja 2 2) (zLH_kp LH) ⟨by omega, hfu⟩ hq hh (H.2.2.1) ⟨hf.1, hfl, hl.2⟩ hv (H.2.1) (H.2.2.2.2.2.1 h hh.1 hh.2)
  rw [zKp_25] at h9
  exact h9
theorem eX8_fork_1 {G : zG} {ia : Nat → Int → Int} {w : (Nat → Int → Int) × (Nat → Int → Int)} {h f : Int} (hw : ia 24 6 = 0 ∨ ia 24 6 = 1) (hrh : -2147483648 ≤ h ∧ h ≤ 2147483647) (hrf : -2147483648 ≤ f ∧ f ≤ 2147483647) (hx : ¬ ((0 ≤ h ∧ h < 4) ∧ 0 ≤ f ∧ f < 4)) : Ev G mX8_fork 0 [(1, 24), (0, h), (0, f)] [] (zH ia w) (.inl (some (0, 0)), zH (zrf ia 1 0 (zwi ia)) w, 0, 0) := by
  refine Ev.iload_n fX8_fork_0 rfl ?_
  obtain ⟨b78, ga78, gb78, ge78⟩ := eX8_isHouse_b (G := G) (ia := ia) (w := w) h ⟨by omega, by omega⟩
  refine Ev.cSi [(0, h)] [] fX8_fork_1 lkX8_fork_80 rfl ge78 ?_
  refine Ev.if_eq fX8_fork_4 rfl ⟨by omega, by omega⟩ (fun h4 => ?_) (fun h4 => ?_)
  · refine Ev.aload_n_1 fX8_fork_14 rfl ?_
    refine Ev.iconst fX8_fork_15 ?_
    refine Ev.iconst fX8_fork_16 ?_
    refine Ev.cVi 24 [(0, 1), (0, 0)] [] fX8_fork_17 lkX8_fork_87 8 TX8 22 rfl rfl rfl (eX8_refuses hw) ?_
    exact Ev.zI fX8_fork_20 rfl rfl
  · refine Ev.iload_n fX8_fork_7 rfl ?_
    obtain ⟨b79, ga79, gb79, ge79⟩ := eX8_isHouse_b (G := G) (ia := ia) (w := w) f ⟨by omega, by omega⟩
    refine Ev.cSi [(0, f)] [] fX8_fork_8 lkX8_fork_80 rfl ge79 ?_
    refine Ev.if_ne fX8_fork_11 rfl ⟨by omega, by omega⟩ (fun h11 => by exfalso; omega) (fun h11 => ?_)
    refine Ev.aload_n_1 fX8_fork_14 rfl ?_
    refine Ev.iconst fX8_fork_15 ?_
    refine Ev.iconst fX8_fork_16 ?_
    refine Ev.cVi 24 [(0, 1), (0, 0)] [] fX8_fork_17 lkX8_fork_87 8 TX8 22 rfl rfl rfl (eX8_refuses hw) ?_
    exact Ev.zI fX8_fork_20 rfl rfl
theorem eX8_fork_6 {G : zG} {ia : Nat → Int → Int} {w : (Nat → Int → Int) × (Nat → Int → Int)} {h f : Int} (hw : ia 24 6 = 0 ∨ ia 24 6 = 1) (hh : 0 ≤ h ∧ h < 4) (hf : 0 ≤ f ∧ f < 4) (hx : h = f) : Ev G mX8_fork 0 [(1, 24), (0, h), (0, f)] [] (zH ia w) (.inl (some (0, 0)), zH (zrf ia 6 h (zwi ia)) w, 0, 0) := by
  refine Ev.iload_n fX8_fork_0 rfl ?_
  refine Ev.cSi [(0, h)] [] fX8_fork_1 lkX8_fork_80 rfl (eX8_isHouse_t ⟨by omega, by omega⟩) ?_
  refine Ev.if_eq fX8_fork_4 rfl (by decide) (fun h4 => by exfalso; revert h4; decide) (fun h4 => ?_)
  refine Ev.iload_n fX8_fork_7 rfl ?_
  refine Ev.cSi [(0, f)] [] fX8_fork_8 lkX8_fork_80 rfl (eX8_isHouse_t ⟨by omega, by omega⟩) ?_
  refine Ev.if_ne fX8_fork_11 rfl (by decide) (fun h11 => ?_) (fun h11 => by exfalso; revert h11; decide)
  refine Ev.iload_n fX8_fork_21 rfl ?_
  refine Ev.iload_n fX8_fork_22 rfl ?_
  refine Ev.icmp_ne fX8_fork_23 rfl ⟨by omega, by omega⟩ ⟨by omega, by omega⟩ (fun h23 => by exfalso; omega) (fun h23 => ?_)
  refine Ev.aload_n_1 fX8_fork_26 rfl ?_
  refine Ev.bipush fX8_fork_27 rfl ?_
  refine Ev.iload_n fX8_fork_29 rfl ?_
  refine Ev.cVi 24 [(0, 6), (0, h)] [] fX8_fork_30 lkX8_fork_87 8 TX8 22 rfl rfl rfl (eX8_refuses hw) ?_
  exact Ev.zI fX8_fork_33 rfl rfl
theorem eX8_fork_3 {G : zG} {ia ja : Nat → Int → Int} {w : (Nat → Int → Int) × (Nat → Int → Int)} {h f : Int} (H : zRw ja (ia 25)) (hw : ia 24 6 = 0 ∨ ia 24 6 = 1) (hh : 0 ≤ h ∧ h < 4) (hf : 0 ≤ f ∧ f < 4) (hne : h ≠ f) (hx : ja 8 h = ja 8 f) : Ev G mX8_fork 0 [(1, 24), (0, h), (0, f)] [] (zH ia w) (.inl (some (0, 0)), zH (zrf ia 3 (ja 8 h) (zwi ia)) w, 0, 0) := by
  have I := H.1
  have hn := I.1
  have hb8 := I.2.2.2.2.1
  have hq := hb8 h hh.1 hh.2
  have hq2 := hb8 f hf.1 hf.2
  refine Ev.iload_n fX8_fork_0 rfl ?_
  refine Ev.cSi [(0, h)] [] fX8_fork_1 lkX8_fork_80 rfl (eX8_isHouse_t ⟨by omega, by omega⟩) ?_
  refine Ev.if_eq fX8_fork_4 rfl (by decide) (fun h4 => by exfalso; revert h4; decide) (fun h4 => ?_)
  refine Ev.iload_n fX8_fork_7 rfl ?_
  refine Ev.cSi [(0, f)] [] fX8_fork_8 lkX8_fork_80 rfl (eX8_isHouse_t ⟨by omega, by omega⟩) ?_
  refine Ev.if_ne fX8_fork_11 rfl (by decide) (fun h11 => ?_) (fun h11 => by exfalso; revert h11; decide)
  refine Ev.iload_n fX8_fork_21 rfl ?_
  refine Ev.iload_n fX8_fork_22 rfl ?_
  refine Ev.icmp_ne fX8_fork_23 rfl ⟨by omega, by omega⟩ ⟨by omega, by omega⟩ (fun h23 => ?_) (fun h23 => by exfalso; omega)
  refine Ev.aload_n_1 fX8_fork_34 rfl ?_
  refine Ev.gR 24 0 25 fX8_fork_35 (flX8_7 rfl) rfl rfl rfl ?_
  refine Ev.iconst fX8_fork_38 ?_
  refine Ev.iload_n fX8_fork_39 rfl ?_
  refine Ev.iadd fX8_fork_40 ?_
  refine Ev.ld 25 1968 (v := (ja 8 h)) fX8_fork_41 rfl rfl ⟨by omega, by omega⟩ (H.2.2.2.2.2.1 h (by omega) (by omega)) ?_
  refine Ev.aload_n_1 fX8_fork_42 rfl ?_
  refine Ev.gR 24 0 25 fX8_fork_43 (flX8_7 rfl) rfl rfl rfl ?_
  refine Ev.iconst fX8_fork_46 ?_
  refine Ev.iload_n fX8_fork_47 rfl ?_
  refine Ev.iadd fX8_fork_48 ?_
  refine Ev.ld 25 1968 (v := (ja 8 f)) fX8_fork_49 rfl rfl ⟨by omega, by omega⟩ (H.2.2.2.2.2.1 f (by omega) (by omega)) ?_
  refine Ev.icmp_ne fX8_fork_50 rfl ⟨by omega, by omega⟩ ⟨by omega, by omega⟩ (fun h50 => by exfalso; omega) (fun h50 => ?_)
  refine Ev.aload_n_1 fX8_fork_53 rfl ?_
  refine Ev.iconst fX8_fork_54 ?_
  refine Ev.aload_n_1 fX8_fork_55 rfl ?_
  refine Ev.gR 24 0 25 fX8_fork_56 (flX8_7 rfl) rfl rfl rfl ?_
  refine Ev.iconst fX8_fork_59 ?_
  refine Ev.iload_n fX8_fork_60 rfl ?_
  refine Ev.iadd fX8_fork_61 ?_
  refine Ev.ld 25 1968 (v := (ja 8 h)) fX8_fork_62 rfl rfl ⟨by omega, by omega⟩ (H.2.2.2.2.2.1 h (by omega) (by omega)) ?_
  refine Ev.cVi 24 [(0, 3), (0, (ja 8 h))] [] fX8_fork_63 lkX8_fork_87 8 TX8 22 rfl rfl rfl (eX8_refuses hw) ?_
  exact Ev.zI fX8_fork_66 rfl rfl
def zgf (g : Int → Int) (h x : Int) : Int → Int := zru g (4 + h) x
theorem eX8_fork_t {G : zG} {ia : Nat → Int → Int} {w : (Nat → Int → Int) × (Nat → Int → Int)} {g : Int → Int} {h f x : Int} (hh : 0 ≤ h ∧ h < 4) (hf : 0 ≤ f ∧ f < 4) (e1 : g (4 + f) = x) : Ev G mX8_fork 75 [(1, 24), (0, h), (0, f)] [] (zH (zgr ia g) w) (.inl (some (0, x)), zH (zgr ia (zgf g h x)) w, 0, 0) := by
  refine Ev.aload_n_1 fX8_fork_75 rfl ?_
  refine Ev.gR 24 0 25 fX8_fork_76 (flX8_7 rfl) rfl rfl rfl ?_
  refine Ev.iconst fX8_fork_79 ?_
  refine Ev.iload_n fX8_fork_80 rfl ?_
  refine Ev.iadd fX8_fork_81 ?_
  refine Ev.aload_n_1 fX8_fork_82 rfl ?_
  refine Ev.gR 24 0 25 fX8_fork_83 (flX8_7 rfl) rfl rfl rfl ?_
  refine Ev.iconst fX8_fork_86 ?_
  refine Ev.iload_n fX8_fork_87 rfl ?_
  refine Ev.iadd fX8_fork_88 ?_
  refine Ev.ld 25 1968 (v := x) fX8_fork_89 rfl rfl ⟨by omega, by omega⟩ (zgr_at e1) ?_
  refine Ev.stI 25 1968 fX8_fork_90 rfl rfl ⟨by omega, by omega⟩ ?_
  rw [zG_p]
  refine Ev.aload_n_1 fX8_fork_91 rfl ?_
  refine Ev.gR 24 0 25 fX8_fork_92 (flX8_7 rfl) rfl rfl rfl ?_
  refine Ev.iconst fX8_fork_95 ?_
  refine Ev.iload_n fX8_fork_96 rfl ?_
  refine Ev.iadd fX8_fork_97 ?_
  refine Ev.ld 25 1968 (v := x) fX8_fork_98 rfl rfl ⟨by omega, by omega⟩ (zgr_at zru_eq) ?_
  exact Ev.zI fX8_fork_99 rfl rfl
theorem eX8_fork_0 {G : zG} {ia ja : Nat → Int → Int} {w : (Nat → Int → Int) × (Nat → Int → Int)} {h f : Int} (H : zRw ja (ia 25)) (hw : ia 24 6 = 0 ∨ ia 24 6 = 1) (hk : 0 ≤ ia 24 5 ∧ ia 24 5 ≤ 8) (hh : 0 ≤ h ∧ h < 4) (hf : 0 ≤ f ∧ f < 4) (hne : h ≠ f) (hx : ja 8 h ≠ ja 8 f) : Ev G mX8_fork 0 [(1, 24), (0, h), (0, f)] [] (zH ia w) (.inl (some (0, (ja 8 f))), zH (zgr (zKp ia 25) (zgf (ia 25) h (ja 8 f))) w, 0, 0) := by
  have I := H.1
  have hn := I.1
  have hb8 := I.2.2.2.2.1
  have hq := hb8 h hh.1 hh.2
  have hq2 := hb8 f hf.1 hf.2
  refine Ev.iload_n fX8_fork_0 rfl ?_
  refine Ev.cSi [(0, h)] [] fX8_fork_1 lkX8_fork_80 rfl (eX8_isHouse_t ⟨by omega, by omega⟩) ?_
  refine Ev.if_eq fX8_fork_4 rfl (by decide) (fun h4 => by exfalso; revert h4; decide) (fun h4 => ?_)
  refine Ev.iload_n fX8_fork_7 rfl ?_
  refine Ev.cSi [(0, f)] [] fX8_fork_8 lkX8_fork_80 rfl (eX8_isHouse_t ⟨by omega, by omega⟩) ?_
  refine Ev.if_ne fX8_fork_11 rfl (by decide) (fun h11 => ?_) (fun h11 => by exfalso; revert h11; decide)
  refine Ev.iload_n fX8_fork_21 rfl ?_
  refine Ev.iload_n fX8_fork_22 rfl ?_
  refine Ev.icmp_ne fX8_fork_23 rfl ⟨by omega, by omega⟩ ⟨by omega, by omega⟩ (fun h23 => ?_) (fun h23 => by exfalso; omega)
  refine Ev.aload_n_1 fX8_fork_34 rfl ?_
  refine Ev.gR 24 0 25 fX8_fork_35 (flX8_7 rfl) rfl rfl rfl ?_
  refine Ev.iconst fX8_fork_38 ?_
  refine Ev.iload_n fX8_fork_39 rfl ?_
  refine Ev.iadd fX8_fork_40 ?_
  refine Ev.ld 25 1968 (v := (ja 8 h)) fX8_fork_41 rfl rfl ⟨by omega, by omega⟩ (H.2.2.2.2.2.1 h (by omega) (by omega)) ?_
  refine Ev.aload_n_1 fX8_fork_42 rfl ?_
  refine Ev.gR 24 0 25 fX8_fork_43 (flX8_7 rfl) rfl rfl rfl ?_
  refine Ev.iconst fX8_fork_46 ?_
  refine Ev.iload_n fX8_fork_47 rfl ?_
  refine Ev.iadd fX8_fork_48 ?_
  refine Ev.ld 25 1968 (v := (ja 8 f)) fX8_fork_49 rfl rfl ⟨by omega, by omega⟩ (H.2.2.2.2.2.1 f (by omega) (by omega)) ?_
  refine Ev.icmp_ne fX8_fork_50 rfl ⟨by omega, by omega⟩ ⟨by omega, by omega⟩ (fun h50 => ?_) (fun h50 => by exfalso; omega)
  refine Ev.aload_n_1 fX8_fork_67 rfl ?_
  refine Ev.aload_n_1 fX8_fork_68 rfl ?_
  refine Ev.gR 24 0 25 fX8_fork_69 (flX8_7 rfl) rfl rfl rfl ?_
  refine Ev.cVv 24 [(1, 25)] [] fX8_fork_72 lkX8_fork_93 8 TX8 22 rfl rfl rfl (eX8_keeps_25 hw hk) ?_
  have h9 := eX8_fork_t (G := G) (ia := zKp ia 25) (w := w) (g := ia 25) (x := ja 8 f) hh hf (H.2.2.2.2.2.1 f hf.1 hf.2)
  rw [zKp_25] at h9
  exact h9
theorem eX8_back_1 {G : zG} {ia : Nat → Int → Int} {w : (Nat → Int → Int) × (Nat → Int → Int)} {h m : Int} (hw : ia 24 6 = 0 ∨ ia 24 6 = 1) (hrh : -2147483648 ≤ h ∧ h ≤ 2147483647) (hrm : -2147483648 ≤ m ∧ m ≤ 2147483647) (hx : ¬ ((0 ≤ h ∧ h < 4) ∧ 1 ≤ m ∧ m < 40)) : Ev G mX8_back 0 [(1, 24), (0, h), (0, m), (9, 0), (9, 0)] [] (zH ia w) (.inl (some (0, 0)), zH (zrf ia 1 0 (zwi ia)) w, 0, 0) := by
  refine Ev.iload_n fX8_back_0 rfl ?_
  obtain ⟨b80, ga80, gb80, ge80⟩ := eX8_isHouse_b (G := G) (ia := ia) (w := w) h ⟨by omega, by omega⟩
  refine Ev.cSi [(0, h)] [] fX8_back_1 lkX8_back_80 rfl ge80 ?_
  refine Ev.if_eq fX8_back_4 rfl ⟨by omega, by omega⟩ (fun h4 => ?_) (fun h4 => ?_)
  · refine Ev.aload_n_1 fX8_back_17 rfl ?_
    refine Ev.iconst fX8_back_18 ?_
    refine Ev.iconst fX8_back_19 ?_
    refine Ev.cVi 24 [(0, 1), (0, 0)] [] fX8_back_20 lkX8_back_87 8 TX8 22 rfl rfl rfl (eX8_refuses hw) ?_
    exact Ev.zI fX8_back_23 rfl rfl
  · refine Ev.iload_n fX8_back_7 rfl ?_
    refine Ev.iconst fX8_back_8 ?_
    refine Ev.bipush fX8_back_9 rfl ?_
    obtain ⟨b81, ga81, gb81, ge81⟩ := eX8_in_b (G := G) (ia := ia) (w := w) m 1 39 ⟨by omega, by omega⟩ ⟨by omega, by omega⟩ ⟨by omega, by omega⟩
    refine Ev.cSi [(0, m), (0, 1), (0, 39)] [] fX8_back_11 lkX8_back_68 rfl ge81 ?_
    refine Ev.if_ne fX8_back_14 rfl ⟨by omega, by omega⟩ (fun h14 => by exfalso; omega) (fun h14 => ?_)
    refine Ev.aload_n_1 fX8_back_17 rfl ?_
    refine Ev.iconst fX8_back_18 ?_
    refine Ev.iconst fX8_back_19 ?_
    refine Ev.cVi 24 [(0, 1), (0, 0)] [] fX8_back_20 lkX8_back_87 8 TX8 22 rfl rfl rfl (eX8_refuses hw) ?_
    exact Ev.zI fX8_back_23 rfl rfl
theorem eX8_back_7 {G : zG} {ia ja : Nat → Int → Int} {w : (Nat → Int → Int) × (Nat → Int → Int)} {h m : Int} (H : zRw ja (ia 25)) (hw : ia 24 6 = 0 ∨ ia 24 6 = 1) (hh : 0 ≤ h ∧ h < 4) (hm : 1 ≤ m ∧ m < 40) (hx : (zanc (ja 4) 40 (ja 4 (ja 8 h))) < m) : Ev G mX8_back 0 [(1, 24), (0, h), (0, m), (9, 0), (9, 0)] [] (zH ia w) (.inl (some (0, 0)), zH (zrf ia 7 (zanc (ja 4) 40 (ja 4 (ja 8 h))) (zwi ia)) w, 0, 0) := by
  have I := H.1
  have hn := I.1
  have hb8 := I.2.2.2.2.1
  have hq := hb8 h hh.1 hh.2
  have hpv := I.2.1 (ja 8 h) hq.1 hq.2
  have hza := zanc_le I.par 40 (ja 4 (ja 8 h)) (by omega) (by omega)
  refine Ev.iload_n fX8_back_0 rfl ?_
  refine Ev.cSi [(0, h)] [] fX8_back_1 lkX8_back_80 rfl (eX8_isHouse_t ⟨by omega, by omega⟩) ?_
  refine Ev.if_eq fX8_back_4 rfl (by decide) (fun h4 => by exfalso; revert h4; decide) (fun h4 => ?_)
  refine Ev.iload_n fX8_back_7 rfl ?_
  refine Ev.iconst fX8_back_8 ?_
  refine Ev.bipush fX8_back_9 rfl ?_
  refine Ev.cSi [(0, m), (0, 1), (0, 39)] [] fX8_back_11 lkX8_back_68 rfl (eX8_in_t ⟨by omega, by omega⟩ ⟨by omega, by omega⟩ ⟨by omega, by omega⟩ ⟨by omega, by omega⟩) ?_
  refine Ev.if_ne fX8_back_14 rfl (by decide) (fun h14 => ?_) (fun h14 => by exfalso; revert h14; decide)
  refine Ev.aload_n_1 fX8_back_24 rfl ?_
  refine Ev.aload_n_1 fX8_back_25 rfl ?_
  refine Ev.gR 24 0 25 fX8_back_26 (flX8_7 rfl) rfl rfl rfl ?_
  refine Ev.iconst fX8_back_29 ?_
  refine Ev.iload_n fX8_back_30 rfl ?_
  refine Ev.iadd fX8_back_31 ?_
  refine Ev.ld 25 1968 (v := (ja 8 h)) fX8_back_32 rfl rfl ⟨by omega, by omega⟩ (H.2.2.2.2.2.1 h (by omega) (by omega)) ?_
  refine Ev.cVi 24 [(0, (ja 8 h))] [] fX8_back_33 lkX8_back_114 8 TX8 22 rfl rfl rfl (eX8_ancestors H ⟨by omega, by omega⟩) ?_
  refine Ev.sistore_n [(1, 24), (0, h), (0, m), (0, (zanc (ja 4) 40 (ja 4 (ja 8 h)))), (9, 0)] fX8_back_36 rfl rfl ?_
  refine Ev.iload_n fX8_back_37 rfl ?_
  refine Ev.iload_n fX8_back_38 rfl ?_
  refine Ev.icmp_ge fX8_back_39 rfl ⟨by omega, by omega⟩ ⟨by omega, by omega⟩ (fun h39 => by exfalso; omega) (fun h39 => ?_)
  refine Ev.aload_n_1 fX8_back_42 rfl ?_
  refine Ev.bipush fX8_back_43 rfl ?_
  refine Ev.iload_n fX8_back_45 rfl ?_
  refine Ev.cVi 24 [(0, 7), (0, (zanc (ja 4) 40 (ja 4 (ja 8 h))))] [] fX8_back_46 lkX8_back_87 8 TX8 22 rfl rfl rfl (eX8_refuses hw) ?_
  exact Ev.zI fX8_back_49 rfl rfl
theorem zit_s {par : Int → Int} : ∀ (n : Nat) (v : Int), zit par (n + 1) v = par (zit par n v)
  | 0, v => rfl
  | n + 1, v => zit_s n (par v)
theorem zru_ru {g : Int → Int} {i x y : Int} : zru (zru g i x) i y = zru g i y := by
  funext j
  unfold zru
  by_cases h : j = i
  · rw [if_pos h, if_pos h]
  · rw [if_neg h, if_neg h, if_neg h]
theorem zru_id {g : Int → Int} {i x : Int} (h : g i = x) : zru g i x = g := by
  funext j
  unfold zru
  by_cases h2 : j = i
  · rw [if_pos h2, h2, h]
  · rw [if_neg h2]
theorem eX8_back_L {G : zG} {ia ja : Nat → Int → Int} {w : (Nat → Int → Int) × (Nat → Int → Int)} {g : Int → Int} {h m a9 : Int} (H : zRw ja (g)) (hh : 0 ≤ h ∧ h < 4) (hm : 1 ≤ m ∧ m < 40) (hz : ∀ k : Int, 0 ≤ k → k ≤ m → 0 ≤ zit (ja 4) k.toNat (ja 8 h) ∧ zit (ja 4) k.toNat (ja 8 h) < ja 3 0) : ∀ (n : Nat) (k : Int), (m - k < n) → (0 ≤ k) → (k ≤ m) → Ev G mX8_back 61 [(1, 24), (0, h), (0, m), (0, a9), (0, k)] [] (zH (zgr ia (zru g (4 + h) (zit (ja 4) k.toNat (ja 8 h)))) w) (.inl (some (0, zit (ja 4) m.toNat (ja 8 h))), zH (zgr ia (zgf g h (zit (ja 4) m.toNat (ja 8 h)))) w, 0, 0) := by
  intro n
  induction n with
  | zero =>
    intro k hN9 hk0 hk1
    exact absurd hN9 (by omega)
  | succ n ih =>
    intro k hN9 hk0 hk1
    have I := H.1
    have hn := I.1
    refine Ev.iload fX8_back_61 rfl ?_
    refine Ev.iload_n fX8_back_63 rfl ?_
    refine Ev.icmp_ge fX8_back_64 rfl ⟨by omega, by omega⟩ ⟨by omega, by omega⟩ (fun h64 => ?_) (fun h64 => ?_)
    · rw [show k = m by omega]
      refine Ev.aload_n_1 fX8_back_94 rfl ?_
      refine Ev.gR 24 0 25 fX8_back_95 (flX8_7 rfl) rfl rfl rfl ?_
      refine Ev.iconst fX8_back_98 ?_
      refine Ev.iload_n fX8_back_99 rfl ?_
      refine Ev.iadd fX8_back_100 ?_
      refine Ev.ld 25 1968 (v := (zit (ja 4) m.toNat (ja 8 h))) fX8_back_101 rfl rfl ⟨by omega, by omega⟩ (zgr_at zru_eq) ?_
      exact Ev.zI fX8_back_102 rfl rfl
    · have hzk := hz k hk0 hk1
      have hlt := (H.1.2.1 (zit (ja 4) k.toNat (ja 8 h)) hzk.1 hzk.2)
      refine Ev.aload_n_1 fX8_back_67 rfl ?_
      refine Ev.gR 24 0 25 fX8_back_68 (flX8_7 rfl) rfl rfl rfl ?_
      refine Ev.iconst fX8_back_71 ?_
      refine Ev.iload_n fX8_back_72 rfl ?_
      refine Ev.iadd fX8_back_73 ?_
      refine Ev.aload_n_1 fX8_back_74 rfl ?_
      refine Ev.aload_n_1 fX8_back_75 rfl ?_
      refine Ev.gR 24 0 25 fX8_back_76 (flX8_7 rfl) rfl rfl rfl ?_
      refine Ev.iconst fX8_back_79 ?_
      refine Ev.iload_n fX8_back_80 rfl ?_
      refine Ev.iadd fX8_back_81 ?_
      refine Ev.ld 25 1968 (v := (zit (ja 4) k.toNat (ja 8 h))) fX8_back_82 rfl rfl ⟨by omega, by omega⟩ (zgr_at zru_eq) ?_
      refine Ev.iconst fX8_back_83 ?_
      refine Ev.cVi 24 [(0, (zit (ja 4) k.toNat (ja 8 h))), (0, 0)] [(0, (4 + h)), (1, 25)] fX8_back_84 lkX8_back_72 8 TX8 22 rfl rfl rfl (eX8_of_r (r := ja 4 (zit (ja 4) k.toNat (ja 8 h))) ⟨by omega, by omega⟩ ⟨by omega, by omega⟩ (by rw [zru_ne (by omega)]; exact (H.2.2.2.2.2.2 _ hzk.1 hzk.2).1)) ?_
      refine Ev.stI 25 1968 fX8_back_87 rfl rfl ⟨by omega, by omega⟩ ?_
      rw [zG_p]
      refine Ev.siinc [(1, 24), (0, h), (0, m), (0, a9), (0, (k + 1))] fX8_back_88 rfl rfl rfl ?_
      refine Ev.goto fX8_back_91 rfl ?_
      have e9 : ja 4 (zit (ja 4) k.toNat (ja 8 h)) = zit (ja 4) (k + 1).toNat (ja 8 h) := by rw [show (k + 1).toNat = k.toNat + 1 by omega, zit_s]
      rw [zru_ru, e9]
      exact ih (k + 1) (by omega) (by omega) (by omega)
theorem eX8_back_0 {G : zG} {ia ja : Nat → Int → Int} {w : (Nat → Int → Int) × (Nat → Int → Int)} {h m : Int} (H : zRw ja (ia 25)) (hw : ia 24 6 = 0 ∨ ia 24 6 = 1) (hk : 0 ≤ ia 24 5 ∧ ia 24 5 ≤ 8) (hh : 0 ≤ h ∧ h < 4) (hm : 1 ≤ m ∧ m < 40) (hx : m ≤ (zanc (ja 4) 40 (ja 4 (ja 8 h)))) (hz : ∀ k : Int, 0 ≤ k → k ≤ m → 0 ≤ zit (ja 4) k.toNat (ja 8 h) ∧ zit (ja 4) k.toNat (ja 8 h) < ja 3 0) : Ev G mX8_back 0 [(1, 24), (0, h), (0, m), (9, 0), (9, 0)] [] (zH ia w) (.inl (some (0, (zit (ja 4) m.toNat (ja 8 h)))), zH (zgr (zKp ia 25) (zgf (ia 25) h (zit (ja 4) m.toNat (ja 8 h)))) w, 0, 0) := by
  have I := H.1
  have hn := I.1
  have hb8 := I.2.2.2.2.1
  have hq := hb8 h hh.1 hh.2
  have hpv := I.2.1 (ja 8 h) hq.1 hq.2
  have hza := zanc_le I.par 40 (ja 4 (ja 8 h)) (by omega) (by omega)
  refine Ev.iload_n fX8_back_0 rfl ?_
  refine Ev.cSi [(0, h)] [] fX8_back_1 lkX8_back_80 rfl (eX8_isHouse_t ⟨by omega, by omega⟩) ?_
  refine Ev.if_eq fX8_back_4 rfl (by decide) (fun h4 => by exfalso; revert h4; decide) (fun h4 => ?_)
  refine Ev.iload_n fX8_back_7 rfl ?_
  refine Ev.iconst fX8_back_8 ?_
  refine Ev.bipush fX8_back_9 rfl ?_
  refine Ev.cSi [(0, m), (0, 1), (0, 39)] [] fX8_back_11 lkX8_back_68 rfl (eX8_in_t ⟨by omega, by omega⟩ ⟨by omega, by omega⟩ ⟨by omega, by omega⟩ ⟨by omega, by omega⟩) ?_
  refine Ev.if_ne fX8_back_14 rfl (by decide) (fun h14 => ?_) (fun h14 => by exfalso; revert h14; decide)
  refine Ev.aload_n_1 fX8_back_24 rfl ?_
  refine Ev.aload_n_1 fX8_back_25 rfl ?_
  refine Ev.gR 24 0 25 fX8_back_26 (flX8_7 rfl) rfl rfl rfl ?_
  refine Ev.iconst fX8_back_29 ?_
  refine Ev.iload_n fX8_back_30 rfl ?_
  refine Ev.iadd fX8_back_31 ?_
  refine Ev.ld 25 1968 (v := (ja 8 h)) fX8_back_32 rfl rfl ⟨by omega, by omega⟩ (H.2.2.2.2.2.1 h (by omega) (by omega)) ?_
  refine Ev.cVi 24 [(0, (ja 8 h))] [] fX8_back_33 lkX8_back_114 8 TX8 22 rfl rfl rfl (eX8_ancestors H ⟨by omega, by omega⟩) ?_
  refine Ev.sistore_n [(1, 24), (0, h), (0, m), (0, (zanc (ja 4) 40 (ja 4 (ja 8 h)))), (9, 0)] fX8_back_36 rfl rfl ?_
  refine Ev.iload_n fX8_back_37 rfl ?_
  refine Ev.iload_n fX8_back_38 rfl ?_
  refine Ev.icmp_ge fX8_back_39 rfl ⟨by omega, by omega⟩ ⟨by omega, by omega⟩ (fun h39 => ?_) (fun h39 => by exfalso; omega)
  refine Ev.aload_n_1 fX8_back_50 rfl ?_
  refine Ev.aload_n_1 fX8_back_51 rfl ?_
  refine Ev.gR 24 0 25 fX8_back_52 (flX8_7 rfl) rfl rfl rfl ?_
  refine Ev.cVv 24 [(1, 25)] [] fX8_back_55 lkX8_back_93 8 TX8 22 rfl rfl rfl (eX8_keeps_25 hw hk) ?_
  refine Ev.iconst fX8_back_58 ?_
  refine Ev.sistore [(1, 24), (0, h), (0, m), (0, (zanc (ja 4) 40 (ja 4 (ja 8 h)))), (0, 0)] fX8_back_59 rfl rfl ?_
  have h9 := eX8_back_L (G := G) (ia := zKp ia 25) (ja := ja) (w := w) (g := ia 25) (a9 := (zanc (ja 4) 40 (ja 4 (ja 8 h)))) H hh hm hz 200 0 (by omega) (by omega) (by omega)
  rw [show (0 : Int).toNat = 0 from rfl, show zit (ja 4) 0 (ja 8 h) = ja 8 h from rfl, zru_id (H.2.2.2.2.2.1 h hh.1 hh.2), zKp_25] at h9
  exact h9
theorem eX8_pass_1 {G : zG} {ia : Nat → Int → Int} {w : (Nat → Int → Int) × (Nat → Int → Int)} {y : Int} (hw : ia 24 6 = 0 ∨ ia 24 6 = 1) (hry : -2147483648 ≤ y ∧ y ≤ 2147483647) (hx : ¬ (1 ≤ y ∧ y ≤ 99)) : Ev G mX8_pass 0 [(1, 24), (0, y)] [] (zH ia w) (.inl (some (0, 0)), zH (zrf ia 1 0 (zwi ia)) w, 0, 0) := by
  refine Ev.iload_n fX8_pass_0 rfl ?_
  refine Ev.iconst fX8_pass_1 ?_
  refine Ev.bipush fX8_pass_2 rfl ?_
  obtain ⟨b82, ga82, gb82, ge82⟩ := eX8_in_b (G := G) (ia := ia) (w := w) y 1 99 ⟨by omega, by omega⟩ ⟨by omega, by omega⟩ ⟨by omega, by omega⟩
  refine Ev.cSi [(0, y), (0, 1), (0, 99)] [] fX8_pass_4 lkX8_pass_68 rfl ge82 ?_
  refine Ev.if_ne fX8_pass_7 rfl ⟨by omega, by omega⟩ (fun h7 => by exfalso; omega) (fun h7 => ?_)
  refine Ev.aload_n_1 fX8_pass_10 rfl ?_
  refine Ev.iconst fX8_pass_11 ?_
  refine Ev.iconst fX8_pass_12 ?_
  refine Ev.cVi 24 [(0, 1), (0, 0)] [] fX8_pass_13 lkX8_pass_87 8 TX8 22 rfl rfl rfl (eX8_refuses hw) ?_
  exact Ev.zI fX8_pass_16 rfl rfl
theorem eX8_pass_8 {G : zG} {ia ja : Nat → Int → Int} {w : (Nat → Int → Int) × (Nat → Int → Int)} {y : Int} (H : zRw ja (ia 25)) (hw : ia 24 6 = 0 ∨ ia 24 6 = 1) (hy : 1 ≤ y ∧ y ≤ 99) (hx : 99 < ja 2 2 + y) : Ev G mX8_pass 0 [(1, 24), (0, y)] [] (zH ia w) (.inl (some (0, 0)), zH (zrf ia 8 ((ja 2 2 + y) - 99) (zwi ia)) w, 0, 0) := by
  have I := H.1
  have hn := I.1
  have hy2 := I.2.2.2.2.2.1
  refine Ev.iload_n fX8_pass_0 rfl ?_
  refine Ev.iconst fX8_pass_1 ?_
  refine Ev.bipush fX8_pass_2 rfl ?_
  refine Ev.cSi [(0, y), (0, 1), (0, 99)] [] fX8_pass_4 lkX8_pass_68 rfl (eX8_in_t ⟨by omega, by omega⟩ ⟨by omega, by omega⟩ ⟨by omega, by omega⟩ ⟨by omega, by omega⟩) ?_
  refine Ev.if_ne fX8_pass_7 rfl (by decide) (fun h7 => ?_) (fun h7 => by exfalso; revert h7; decide)
  refine Ev.aload_n_1 fX8_pass_17 rfl ?_
  refine Ev.gR 24 0 25 fX8_pass_18 (flX8_7 rfl) rfl rfl rfl ?_
  refine Ev.iconst fX8_pass_21 ?_
  refine Ev.ld 25 1968 (v := (ja 2 2)) fX8_pass_22 rfl rfl (by decide) H.2.2.1 ?_
  refine Ev.iload_n fX8_pass_23 rfl ?_
  refine Ev.iadd fX8_pass_24 ?_
  refine Ev.bipush fX8_pass_25 rfl ?_
  refine Ev.icmp_le fX8_pass_27 rfl ⟨by omega, by omega⟩ (by decide) (fun h27 => by exfalso; omega) (fun h27 => ?_)
  refine Ev.aload_n_1 fX8_pass_30 rfl ?_
  refine Ev.bipush fX8_pass_31 rfl ?_
  refine Ev.aload_n_1 fX8_pass_33 rfl ?_
  refine Ev.gR 24 0 25 fX8_pass_34 (flX8_7 rfl) rfl rfl rfl ?_
  refine Ev.iconst fX8_pass_37 ?_
  refine Ev.ld 25 1968 (v := (ja 2 2)) fX8_pass_38 rfl rfl (by decide) H.2.2.1 ?_
  refine Ev.iload_n fX8_pass_39 rfl ?_
  refine Ev.iadd fX8_pass_40 ?_
  refine Ev.bipush fX8_pass_41 rfl ?_
  refine Ev.isub fX8_pass_43 ?_
  refine Ev.cVi 24 [(0, 8), (0, (((ja 2 2) + y) - 99))] [] fX8_pass_44 lkX8_pass_87 8 TX8 22 rfl rfl rfl (eX8_refuses hw) ?_
  exact Ev.zI fX8_pass_47 rfl rfl
theorem eX8_pass_t {G : zG} {ia : Nat → Int → Int} {w : (Nat → Int → Int) × (Nat → Int → Int)} {g : Int → Int} {x y : Int} (e1 : g 1 = x) : Ev G mX8_pass 56 [(1, 24), (0, y)] [] (zH (zgr ia g) w) (.inl (some (0, x + y)), zH (zgr ia (zru g 1 (x + y))) w, 0, 0) := by
  refine Ev.aload_n_1 fX8_pass_56 rfl ?_
  refine Ev.gR 24 0 25 fX8_pass_57 (flX8_7 rfl) rfl rfl rfl ?_
  refine Ev.iconst fX8_pass_60 ?_
  refine Ev.dup2 fX8_pass_61 rfl rfl ?_
  refine Ev.ld 25 1968 (v := x) fX8_pass_62 rfl rfl (by decide) (zgr_at e1) ?_
  refine Ev.iload_n fX8_pass_63 rfl ?_
  refine Ev.iadd fX8_pass_64 ?_
  refine Ev.stI 25 1968 fX8_pass_65 rfl rfl (by decide) ?_
  rw [zG_p]
  refine Ev.aload_n_1 fX8_pass_66 rfl ?_
  refine Ev.gR 24 0 25 fX8_pass_67 (flX8_7 rfl) rfl rfl rfl ?_
  refine Ev.iconst fX8_pass_70 ?_
  refine Ev.ld 25 1968 (v := (x + y)) fX8_pass_71 rfl rfl (by decide) (zgr_at zru_eq) ?_
  exact Ev.zI fX8_pass_72 rfl rfl
theorem eX8_pass_0 {G : zG} {ia ja : Nat → Int → Int} {w : (Nat → Int → Int) × (Nat → Int → Int)} {y : Int} (H : zRw ja (ia 25)) (hw : ia 24 6 = 0 ∨ ia 24 6 = 1) (hk : 0 ≤ ia 24 5 ∧ ia 24 5 ≤ 8) (hy : 1 ≤ y ∧ y ≤ 99) (hx : ja 2 2 + y ≤ 99) : Ev G mX8_pass 0 [(1, 24), (0, y)] [] (zH ia w) (.inl (some (0, (ja 2 2 + y))), zH (zgr (zKp ia 25) (zru (ia 25) 1 (ja 2 2 + y))) w, 0, 0) := by
  have I := H.1
  have hn := I.1
  have hy2 := I.2.2.2.2.2.1
  refine Ev.iload_n fX8_pass_0 rfl ?_
  refine Ev.iconst fX8_pass_1 ?_
  refine Ev.bipush fX8_pass_2 rfl ?_
  refine Ev.cSi [(0, y), (0, 1), (0, 99)] [] fX8_pass_4 lkX8_pass_68 rfl (eX8_in_t ⟨by omega, by omega⟩ ⟨by omega, by omega⟩ ⟨by omega, by omega⟩ ⟨by omega, by omega⟩) ?_
  refine Ev.if_ne fX8_pass_7 rfl (by decide) (fun h7 => ?_) (fun h7 => by exfalso; revert h7; decide)
  refine Ev.aload_n_1 fX8_pass_17 rfl ?_
  refine Ev.gR 24 0 25 fX8_pass_18 (flX8_7 rfl) rfl rfl rfl ?_
  refine Ev.iconst fX8_pass_21 ?_
  refine Ev.ld 25 1968 (v := (ja 2 2)) fX8_pass_22 rfl rfl (by decide) H.2.2.1 ?_
  refine Ev.iload_n fX8_pass_23 rfl ?_
  refine Ev.iadd fX8_pass_24 ?_
  refine Ev.bipush fX8_pass_25 rfl ?_
  refine Ev.icmp_le fX8_pass_27 rfl ⟨by omega, by omega⟩ (by decide) (fun h27 => ?_) (fun h27 => by exfalso; omega)
  refine Ev.aload_n_1 fX8_pass_48 rfl ?_
  refine Ev.aload_n_1 fX8_pass_49 rfl ?_
  refine Ev.gR 24 0 25 fX8_pass_50 (flX8_7 rfl) rfl rfl rfl ?_
  refine Ev.cVv 24 [(1, 25)] [] fX8_pass_53 lkX8_pass_93 8 TX8 22 rfl rfl rfl (eX8_keeps_25 hw hk) ?_
  have h9 := eX8_pass_t (G := G) (ia := zKp ia 25) (w := w) (y := y) (g := ia 25) H.2.2.1
  rw [zKp_25] at h9
  exact h9
