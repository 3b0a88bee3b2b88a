/-! WHOLE CALLS, BOTH SIDES: THE MEAN, WHAT WAS SPARED -/
theorem zn64 {r : UInt64} (h : FP.Core.dIsNaN r = false) : vf_n64 r := by
  unfold vf_n64
  rw [UInt64.le_iff_toNat_le, UInt64.toNat_and, show (0x7fffffffffffffff : UInt64).toNat = 2 ^ 63 - 1 from rfl, Nat.and_two_pow_sub_one_eq_mod]
  have h2 : ¬ (9218868437227405312 < r.toNat % 2 ^ 63) := fun h3 => by
    rw [(FP.Core.isNaN_bits r).mpr h3] at h
    cases h
  show r.toNat % 2 ^ 63 ≤ 9218868437227405312
  omega
theorem zn32 {r : UInt32} (h : FP.Core.fIsNaN r = false) : vf_n32 r := by
  unfold vf_n32
  rw [UInt32.le_iff_toNat_le, UInt32.toNat_and, show (0x7fffffff : UInt32).toNat = 2 ^ 31 - 1 from rfl, Nat.and_two_pow_sub_one_eq_mod]
  have h2 : ¬ (2139095040 < r.toNat % 2 ^ 31) := fun h3 => by
    rw [(FP.Core.isNaN_bits32 r).mpr h3] at h
    cases h
  show r.toNat % 2 ^ 31 ≤ 2139095040
  omega
theorem zmean_ne (x : Int) : vf_n64 (FP.ddiv (FP.i2d (Int32.ofInt x)) (UInt64.ofNat 4625196817309499392)) := by
  refine zn64 (FP.Core.ddiv_out (FP.Core.i2d_fin _).notNaN ?_ ?_)
  · rw [FP.Core.fin_bits]
    decide +kernel
  · rw [FP.Core.zero_bits2]
    decide +kernel
theorem zspar_ne {a b : Int} (hb : 1 ≤ b ∧ b ≤ 2000) : FP.Core.fIsNaN (FP.fdiv (FP.i2f (Int32.ofInt a)) (FP.i2f (Int32.ofInt b))) = false := by
  refine FP.Core.fdiv_out (FP.Core.i2f_fin _).notNaN (FP.Core.i2f_fin _) ?_
  rw [FP.Core.zero_bits232]
  refine FP.Core.i2f_ne_zero (fun h => ?_)
  have h2 := congrArg Int32.toInt h
  rw [z_toInt ⟨by omega, by omega⟩] at h2
  have h3 : (0 : Int32).toInt = 0 := rfl
  omega
theorem zf2d_ne {a : UInt32} (h : FP.Core.fIsNaN a = false) : vf_n64 (FP.f2d a) := zn64 ((FP.f2d_nan a).trans h)
theorem j_mean {G : zG} {ia : Nat → Int → Int} {v : Int} (Q : zQq ia ia) (hrv : zI32 v) : ∃ (k : Int) (d : UInt64), (k = 0 ∨ k = 1) ∧ (k = 0 → ∀ w, Ev G mX7_mean 0 [(1, 0), (0, v)] [] (zH ia w) (.inl (some (5, zD d)), zH ia w, 0, 0)) ∧ (k = 1 → ∀ w, Ev G mX7_mean 0 [(1, 0), (0, v)] [] (zH ia w) (.inr "java/lang/IndexOutOfBoundsException", zH ia w, 1, 6)) ∧ (∀ w, Ev G mX8_mean 0 [(1, 24), (0, v)] [] (zH ia w) (.inl (some (5, zD d)), zH (zu ia 24 8 k) w, 0, 0)) ∧ zQq (zu ia 24 8 k) (zu ia 24 8 k) := by
  have H := Q.1.1
  have I := H.1
  have TS := zTS_of Q.1.2.1
  by_cases c0 : 0 ≤ v ∧ v < ia 3 0
  · exact ⟨0, _, Or.inl rfl, fun _ w => eX7_mean_0 I c0 (zmean_ne _), fun e => absurd e (by decide), fun w => eX8_mean_0 H TS c0 (zmean_ne _), zQq_code Q⟩
  · exact ⟨1, _, Or.inr rfl, fun e => absurd e (by decide), fun _ w => eX7_mean_x0 I hrv c0, fun w => eX8_mean_c1 H hrv c0, zQq_code Q⟩
theorem j_spared {G : zG} {ia : Nat → Int → Int} (Q : zQq ia ia) : ∃ d : UInt32, vf_n64 (FP.f2d d) ∧ (∀ w, Ev G mX7_spared 0 [(1, 0), (9, 0)] [] (zH ia w) (.inl (some (6, zS d)), zH ia w, 0, 0)) ∧ (∀ w, Ev G mX8_spared 0 [(1, 24)] [] (zH ia w) (.inl (some (6, zS d)), zH (zu ia 24 8 0) w, 0, 0)) ∧ zQq (zu ia 24 8 0) (zu ia 24 8 0) := by
  have H := Q.1.1
  have I := H.1
  have hn := I.1
  have hne := zspar_ne (a := 31 * ia 3 0 - zsum (fun v => zsum (fun s => if ia 6 (v * 31 + s) = v then 1 else 0) 31) (ia 3 0)) (b := 31 * ia 3 0) (by omega)
  refine ⟨_, zf2d_ne hne, fun w => ?_, fun w => eX8_spared H (zn32 hne), zQq_code Q⟩
  have h9 := eX7_spared (G := G) (w := w) I (by rw [show ia 3 0 * 31 = 31 * ia 3 0 by omega]; exact zn32 hne)
  rw [show ia 3 0 * 31 = 31 * ia 3 0 by omega] at h9
  exact h9
