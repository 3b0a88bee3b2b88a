/-! THE RELATION: ROWS OF A NEW VERSION, SUMS TOLD IN TWO WAYS (printed by wip/whole/gen/rel2.py) -/
theorem zcm_0 {g : Int → Int} {N p y h : Int} (hN : 0 ≤ N) (hh : 0 ≤ h ∧ h < 4) : zcm g N p y h 0 = N + 1 := by
  unfold zcm
  rw [zru_ne (by omega), zru_ne (by omega), zru_ne (by omega), zrF_out (by omega), zru_at rfl]
theorem zcm_1 {g : Int → Int} {N p y h i : Int} (hN : 0 ≤ N) (hh : 0 ≤ h ∧ h < 4) (hi : 1 ≤ i ∧ i ≤ 3) : zcm g N p y h i = g i := by
  unfold zcm
  rw [zru_ne (by omega), zru_ne (by omega), zru_ne (by omega), zrF_out (by omega), zru_ne (by omega)]
theorem zcm_h {g : Int → Int} {N p y h k : Int} (hN : 0 ≤ N) (hh : 0 ≤ h ∧ h < 4) (hk : 0 ≤ k ∧ k < 4) : zcm g N p y h (4 + k) = if k = h then N else g (4 + k) := by
  unfold zcm
  by_cases e : k = h
  · rw [zru_at (by omega), if_pos e]
  · rw [zru_ne (by omega), zru_ne (by omega), zru_ne (by omega), zrF_out (by omega), zru_ne (by omega), if_neg e]
theorem zcm_v {g : Int → Int} {N p y h v x : Int} (hN : 0 ≤ N) (hh : 0 ≤ h ∧ h < 4) (hv : 0 ≤ v ∧ v < N) (hx : 0 ≤ x ∧ x < 49) : zcm g N p y h (8 + 49 * v + x) = g (8 + 49 * v + x) := by
  unfold zcm
  rw [zru_ne (by omega), zru_ne (by omega), zru_ne (by omega), zrF_out (by omega), zru_ne (by omega)]
theorem zcm_n0 {g : Int → Int} {N p y h : Int} (hN : 0 ≤ N) (hh : 0 ≤ h ∧ h < 4) : zcm g N p y h (8 + 49 * N + 0) = p := by
  unfold zcm
  rw [zru_ne (by omega), zru_ne (by omega), zru_at rfl]
theorem zcm_n1 {g : Int → Int} {N p y h : Int} (hN : 0 ≤ N) (hh : 0 ≤ h ∧ h < 4) : zcm g N p y h (8 + 49 * N + 1) = y := by
  unfold zcm
  rw [zru_ne (by omega), zru_at rfl]
theorem zcm_nx {g : Int → Int} {N p y h x : Int} (hN : 0 ≤ N) (hp : 0 ≤ p) (hh : 0 ≤ h ∧ h < 4) (hx : 2 ≤ x ∧ x < 49) : zcm g N p y h (8 + 49 * N + x) = g (8 + 49 * p + x) := by
  unfold zcm
  rw [zru_ne (by omega), zru_ne (by omega), zru_ne (by omega), zrF_on (by omega)]
  show zru g 0 (N + 1) (8 + 49 * p + (8 + 49 * N + x - (8 + 49 * N))) = g (8 + 49 * p + x)
  rw [zru_ne (by omega), show 8 + 49 * p + (8 + 49 * N + x - (8 + 49 * N)) = 8 + 49 * p + x by omega]
theorem zgw_o {g : Int → Int} {N p y h line amount i : Int} (h1 : i ≠ 2) (h2 : ¬ (8 + 49 * N + 18 ≤ i ∧ i < 8 + 49 * N + 18 + 31)) (h3 : i ≠ 8 + 49 * N + (2 + line)) : zgw g N p y h line amount i = zcm g N p y h i := by
  unfold zgw zw5 zw4
  rw [zru_ne h1, zrF_out h2, zru_ne h3]
theorem zgw_2 {g : Int → Int} {N p y h line amount : Int} (hN : 0 ≤ N) (hh : 0 ≤ h ∧ h < 4) (hl : 0 ≤ line ∧ line < 16) : zgw g N p y h line amount 2 = g 2 + 1 := by
  unfold zgw
  rw [zru_at rfl]
  unfold zw5 zw4
  rw [zrF_out (by omega), zru_ne (by omega), zcm_1 hN hh (by omega)]
theorem zgw_l {g : Int → Int} {N p y h line amount : Int} (hN : 0 ≤ N) (hl : 0 ≤ line ∧ line < 16) : zgw g N p y h line amount (8 + 49 * N + (2 + line)) = amount := by
  unfold zgw zw5 zw4
  rw [zru_ne (by omega), zrF_out (by omega), zru_at rfl]
theorem zgw_s {g : Int → Int} {N p y h line amount s : Int} (hN : 0 ≤ N) (hp : 0 ≤ p) (hh : 0 ≤ h ∧ h < 4) (hl : 0 ≤ line ∧ line < 16) (hs : 0 ≤ s ∧ s < 31) : zgw g N p y h line amount (8 + 49 * N + (18 + s)) = if zlow s ≤ line ∧ line ≤ zhig s then N else g (8 + 49 * p + (18 + s)) := by
  unfold zgw zw5
  rw [zru_ne (by omega), zrF_on (by omega), show 8 + 49 * N + (18 + s) - (8 + 49 * N + 18) = s by omega]
  show (if zlow s ≤ line ∧ line ≤ zhig s then N else zw4 g N p y h line amount (8 + 49 * N + 18 + s)) = _
  unfold zw4
  rw [zru_ne (by omega), show 8 + 49 * N + 18 + s = 8 + 49 * N + (18 + s) by omega, zcm_nx hN hp hh (by omega)]
theorem zVw_write {ia ia1 : Nat → Int → Int} {g : Int → Int} {h line amount : Int} (V : zVw ia g) (hh : 0 ≤ h ∧ h < 4) (hl : 0 ≤ line ∧ line < 16) (h0 : ia 3 0 < 40)
    (J : zGI ia (fun s => if zlow s ≤ line ∧ line ≤ zhig s then ia 3 0 else ia 8 h) (fun l => if l = line then amount else zTo ia (ia 8 h) (15 + l)) (ia 8 h) (ia 2 2) (-1) ia1) : zVw (zNw9 ia1 h (ia 3 0) 3) (zgw g (ia 3 0) (ia 8 h) (ia 2 2) h line amount) := by
  have hn := V.1.1.1
  have hq := V.1.1.2.2.2.2.1 h hh.1 hh.2
  have hr := V.1.2.2.2.2.2.2 (ia 8 h) hq.1 hq.2
  refine zVw_new V J hh h0 (Or.inl rfl) ?_ ?_ ?_ ?_ (fun k h1 h2 => ?_) (fun v x h1 h2 h3 h4 => ?_) ?_ ?_ (fun l h1 h2 => ?_) (fun s h1 h2 => ?_)
  · rw [zgw_o (by omega) (by omega) (by omega), zcm_0 (by omega) hh]
  · rw [zgw_o (by omega) (by omega) (by omega), zcm_1 (by omega) hh (by omega)]
  · rw [zgw_2 (by omega) hh hl, if_pos rfl]
  · rw [zgw_o (by omega) (by omega) (by omega), zcm_1 (by omega) hh (by omega), if_neg (by decide)]
  · rw [zgw_o (by omega) (by omega) (by omega), zcm_h (by omega) hh ⟨h1, h2⟩]
  · rw [zgw_o (by omega) (by omega) (by omega), zcm_v (by omega) hh ⟨h1, h2⟩ ⟨h3, h4⟩]
  · rw [zgw_o (by omega) (by omega) (by omega), zcm_n0 (by omega) hh]
  · rw [zgw_o (by omega) (by omega) (by omega), zcm_n1 (by omega) hh]
  · show _ = if l = line then amount else zTo ia (ia 8 h) (15 + l)
    by_cases e : l = line
    · rw [if_pos e, e, zgw_l (by omega) hl]
    · rw [if_neg e, zgw_o (by omega) (by omega) (by omega), zcm_nx (by omega) hq.1 hh (by omega), hr.2.2.1 l h1 h2]
  · show _ = if (if zlow s ≤ line ∧ line ≤ zhig s then ia 3 0 else ia 8 h) = ia 3 0 then ia 3 0 else ia 6 ((if zlow s ≤ line ∧ line ≤ zhig s then ia 3 0 else ia 8 h) * 31 + s)
    rw [zgw_s (by omega) hq.1 hh hl ⟨h1, h2⟩]
    by_cases e : zlow s ≤ line ∧ line ≤ zhig s
    · rw [if_pos e, if_pos e, if_pos rfl]
    · rw [if_neg e, if_neg e, if_neg (by omega), hr.2.2.2 s h1 h2]
theorem zg4_o {g : Int → Int} {N p y h v first last i : Int} (h3 : ¬ (8 + 49 * N + (2 + first) ≤ i ∧ i < 8 + 49 * N + (2 + first) + (last - first + 1))) : zg4 g N p y h v first last i = zcm g N p y h i := by
  unfold zg4
  rw [zrF_out h3]
theorem zgg_o {g : Int → Int} {N p y h v first last i : Int} (h1 : i ≠ 3) (h2 : ¬ (8 + 49 * N + 18 ≤ i ∧ i < 8 + 49 * N + 18 + 31)) : zgg g N p y h v first last i = zg4 g N p y h v first last i := by
  unfold zgg zg5
  rw [zru_ne h1, zrF_out h2]
theorem zgg_s {g : Int → Int} {N p y h v first last s : Int} (hN : 0 ≤ N) (hp : 0 ≤ p) (hh : 0 ≤ h ∧ h < 4) (hf : 0 ≤ first ∧ first ≤ last ∧ last < 16) (hv : 0 ≤ v ∧ v < N) (hs : 0 ≤ s ∧ s < 31) : zgg g N p y h v first last (8 + 49 * N + (18 + s)) = if zlow s ≤ last ∧ first ≤ zhig s then (if first ≤ zlow s ∧ zhig s ≤ last then g (8 + 49 * v + (18 + s)) else N) else g (8 + 49 * p + (18 + s)) := by
  unfold zgg zg5
  rw [zru_ne (by omega), zrF_on (by omega), show 8 + 49 * N + (18 + s) - (8 + 49 * N + 18) = s by omega]
  show (if zlow s ≤ last ∧ first ≤ zhig s then (if first ≤ zlow s ∧ zhig s ≤ last then zg4 g N p y h v first last (8 + 49 * v + (18 + s)) else N) else zg4 g N p y h v first last (8 + 49 * N + 18 + s)) = _
  rw [zg4_o (by omega), zg4_o (by omega), show 8 + 49 * N + 18 + s = 8 + 49 * N + (18 + s) by omega, zcm_nx hN hp hh (by omega), zcm_v hN hh hv (by omega)]
theorem zVw_graft {ia ia1 : Nat → Int → Int} {g : Int → Int} {h v first last : Int} (V : zVw ia g) (hh : 0 ≤ h ∧ h < 4) (hf : 0 ≤ first ∧ first ≤ last ∧ last < 16) (hv : 0 ≤ v ∧ v < ia 3 0) (h0 : ia 3 0 < 40)
    (J : zGI ia (fun s => if first ≤ zlow s ∧ zhig s ≤ last then v else if zlow s ≤ last ∧ first ≤ zhig s then ia 3 0 else ia 8 h) (fun l => if first ≤ l ∧ l ≤ last then zTo ia v (15 + l) else zTo ia (ia 8 h) (15 + l)) (ia 8 h) (ia 2 2) (-1) ia1) : zVw (zNw9 ia1 h (ia 3 0) 4) (zgg g (ia 3 0) (ia 8 h) (ia 2 2) h v first last) := by
  have hn := V.1.1.1
  have hq := V.1.1.2.2.2.2.1 h hh.1 hh.2
  have hr := V.1.2.2.2.2.2.2 (ia 8 h) hq.1 hq.2
  have hr2 := V.1.2.2.2.2.2.2 v hv.1 hv.2
  refine zVw_new V J hh h0 (Or.inr rfl) ?_ ?_ ?_ ?_ (fun k h1 h2 => ?_) (fun u x h1 h2 h3 h4 => ?_) ?_ ?_ (fun l h1 h2 => ?_) (fun s h1 h2 => ?_)
  · rw [zgg_o (by omega) (by omega), zg4_o (by omega), zcm_0 (by omega) hh]
  · rw [zgg_o (by omega) (by omega), zg4_o (by omega), zcm_1 (by omega) hh (by omega)]
  · rw [zgg_o (by omega) (by omega), zg4_o (by omega), zcm_1 (by omega) hh (by omega), if_neg (by decide)]
  · rw [if_pos rfl]
    unfold zgg
    rw [zru_at rfl]
    unfold zg5
    rw [zrF_out (by omega), zg4_o (by omega), zcm_1 (by omega) hh (by omega)]
  · rw [zgg_o (by omega) (by omega), zg4_o (by omega), zcm_h (by omega) hh ⟨h1, h2⟩]
  · rw [zgg_o (by omega) (by omega), zg4_o (by omega), zcm_v (by omega) hh ⟨h1, h2⟩ ⟨h3, h4⟩]
  · rw [zgg_o (by omega) (by omega), zg4_o (by omega), zcm_n0 (by omega) hh]
  · rw [zgg_o (by omega) (by omega), zg4_o (by omega), zcm_n1 (by omega) hh]
  · show _ = if first ≤ l ∧ l ≤ last then zTo ia v (15 + l) else zTo ia (ia 8 h) (15 + l)
    rw [zgg_o (by omega) (by omega)]
    by_cases e : first ≤ l ∧ l ≤ last
    · rw [if_pos e]
      unfold zg4
      rw [zrF_on (by omega)]
      show zcm g (ia 3 0) (ia 8 h) (ia 2 2) h (8 + 49 * v + (2 + (first + (8 + 49 * ia 3 0 + (2 + l) - (8 + 49 * ia 3 0 + (2 + first)))))) = _
      rw [show first + (8 + 49 * ia 3 0 + (2 + l) - (8 + 49 * ia 3 0 + (2 + first))) = l by omega, zcm_v (by omega) hh hv (by omega), hr2.2.2.1 l h1 h2]
    · rw [if_neg e, zg4_o (by omega), zcm_nx (by omega) hq.1 hh (by omega), hr.2.2.1 l h1 h2]
  · show _ = if (if first ≤ zlow s ∧ zhig s ≤ last then v else if zlow s ≤ last ∧ first ≤ zhig s then ia 3 0 else ia 8 h) = ia 3 0 then ia 3 0 else ia 6 ((if first ≤ zlow s ∧ zhig s ≤ last then v else if zlow s ≤ last ∧ first ≤ zhig s then ia 3 0 else ia 8 h) * 31 + s)
    have hz := zspan ⟨h1, h2⟩
    rw [zgg_s (by omega) hq.1 hh hf hv ⟨h1, h2⟩]
    by_cases e : first ≤ zlow s ∧ zhig s ≤ last
    · rw [if_pos e, if_pos e, if_pos (by omega), if_neg (by omega), hr2.2.2.2 s h1 h2]
    · rw [if_neg e, if_neg e]
      by_cases e2 : zlow s ≤ last ∧ first ≤ zhig s
      · rw [if_pos e2, if_pos e2, if_pos rfl]
      · rw [if_neg e2, if_neg e2, if_neg (by omega), hr.2.2.2 s h1 h2]
theorem zsN_nn {F : Int → Int} (hF : ∀ j : Int, 0 ≤ F j) : ∀ n : Nat, 0 ≤ zsN F n
  | 0 => Int.le_refl 0
  | n + 1 => by
    have h1 := zsN_nn hF n
    have h2 := hF n
    show 0 ≤ zsN F n + F n
    omega
theorem zsN_z {F : Int → Int} (hF : ∀ j : Int, 0 ≤ F j) : ∀ n : Nat, zsN F n = 0 → ∀ j : Int, 0 ≤ j → j < n → F j = 0
  | 0, _, j, h1, h2 => absurd h2 (by omega)
  | n + 1, h, j, h1, h2 => by
    have h3 := zsN_nn hF n
    have h4 := hF n
    have h5 : zsN F n + F n = 0 := h
    by_cases e : j = n
    · rw [e]; omega
    · exact zsN_z hF n (by omega) j h1 (by omega)
theorem zsum_all0 {F : Int → Int} : ∀ n : Nat, (∀ j : Int, 0 ≤ j → j < n → F j = 0) → zsN F n = 0
  | 0, _ => rfl
  | n + 1, h => by
    have h1 := zsum_all0 n (fun j h1 h2 => h j h1 (by omega))
    show zsN F n + F n = 0
    rw [h1, h n (by omega) (by omega)]
    rfl
theorem zap_0 {A B : Int → Int} {a b : Int} (ha : 0 ≤ a) (hb : b < 16) : zsum (fun i => if a ≤ i ∧ i ≤ b ∧ A i ≠ B i then 1 else 0) 16 = 0 ↔ ∀ i : Int, a ≤ i → i ≤ b → A i = B i := by
  constructor
  · intro h i h1 h2
    have h3 := zsN_z (F := fun i => if a ≤ i ∧ i ≤ b ∧ A i ≠ B i then 1 else 0) (fun j => by show 0 ≤ (if _ then (1 : Int) else 0); split <;> decide) 16 h i (by omega) (by omega)
    by_cases e : A i = B i
    · exact e
    · have h4 : (if a ≤ i ∧ i ≤ b ∧ A i ≠ B i then (1 : Int) else 0) = 0 := h3
      rw [if_pos ⟨h1, h2, e⟩] at h4
      exact absurd h4 (by decide)
  · intro h
    refine zsum_all0 16 (fun j h1 h2 => ?_)
    show (if a ≤ j ∧ j ≤ b ∧ A j ≠ B j then (1 : Int) else 0) = 0
    rw [if_neg (fun e => e.2.2 (h j e.1 e.2.1))]
theorem zsum_16 {F : Int → Int} : zsum F 16 = F 0 + F 1 + F 2 + F 3 + F 4 + F 5 + F 6 + F 7 + F 8 + F 9 + F 10 + F 11 + F 12 + F 13 + F 14 + F 15 := by
  show 0 + F 0 + F 1 + F 2 + F 3 + F 4 + F 5 + F 6 + F 7 + F 8 + F 9 + F 10 + F 11 + F 12 + F 13 + F 14 + F 15 = _
  rw [Int.zero_add]
theorem zsum_31 {F : Int → Int} : zsum F 31 = F 0 + F 1 + F 2 + F 3 + F 4 + F 5 + F 6 + F 7 + F 8 + F 9 + F 10 + F 11 + F 12 + F 13 + F 14 + F 15 + F 16 + F 17 + F 18 + F 19 + F 20 + F 21 + F 22 + F 23 + F 24 + F 25 + F 26 + F 27 + F 28 + F 29 + F 30 := by
  show 0 + F 0 + F 1 + F 2 + F 3 + F 4 + F 5 + F 6 + F 7 + F 8 + F 9 + F 10 + F 11 + F 12 + F 13 + F 14 + F 15 + F 16 + F 17 + F 18 + F 19 + F 20 + F 21 + F 22 + F 23 + F 24 + F 25 + F 26 + F 27 + F 28 + F 29 + F 30 = _
  rw [Int.zero_add]
theorem zTS_of {ja : Nat → Int → Int} (CS : zCS ja) : zTS ja := by
  intro v h1 h2
  have e0 := CS v 0 h1 h2 (by decide) (by decide)
  have e1 := CS v 1 h1 h2 (by decide) (by decide)
  have e2 := CS v 2 h1 h2 (by decide) (by decide)
  have e3 := CS v 3 h1 h2 (by decide) (by decide)
  have e4 := CS v 4 h1 h2 (by decide) (by decide)
  have e5 := CS v 5 h1 h2 (by decide) (by decide)
  have e6 := CS v 6 h1 h2 (by decide) (by decide)
  have e7 := CS v 7 h1 h2 (by decide) (by decide)
  have e8 := CS v 8 h1 h2 (by decide) (by decide)
  have e9 := CS v 9 h1 h2 (by decide) (by decide)
  have e10 := CS v 10 h1 h2 (by decide) (by decide)
  have e11 := CS v 11 h1 h2 (by decide) (by decide)
  have e12 := CS v 12 h1 h2 (by decide) (by decide)
  have e13 := CS v 13 h1 h2 (by decide) (by decide)
  have e14 := CS v 14 h1 h2 (by decide) (by decide)
  rw [show (2 * (0 : Int) + 1) = 1 from rfl, show (2 * (0 : Int) + 2) = 2 from rfl] at e0
  rw [show (2 * (1 : Int) + 1) = 3 from rfl, show (2 * (1 : Int) + 2) = 4 from rfl] at e1
  rw [show (2 * (2 : Int) + 1) = 5 from rfl, show (2 * (2 : Int) + 2) = 6 from rfl] at e2
  rw [show (2 * (3 : Int) + 1) = 7 from rfl, show (2 * (3 : Int) + 2) = 8 from rfl] at e3
  rw [show (2 * (4 : Int) + 1) = 9 from rfl, show (2 * (4 : Int) + 2) = 10 from rfl] at e4
  rw [show (2 * (5 : Int) + 1) = 11 from rfl, show (2 * (5 : Int) + 2) = 12 from rfl] at e5
  rw [show (2 * (6 : Int) + 1) = 13 from rfl, show (2 * (6 : Int) + 2) = 14 from rfl] at e6
  rw [show (2 * (7 : Int) + 1) = 15 from rfl, show (2 * (7 : Int) + 2) = 16 from rfl] at e7
  rw [show (2 * (8 : Int) + 1) = 17 from rfl, show (2 * (8 : Int) + 2) = 18 from rfl] at e8
  rw [show (2 * (9 : Int) + 1) = 19 from rfl, show (2 * (9 : Int) + 2) = 20 from rfl] at e9
  rw [show (2 * (10 : Int) + 1) = 21 from rfl, show (2 * (10 : Int) + 2) = 22 from rfl] at e10
  rw [show (2 * (11 : Int) + 1) = 23 from rfl, show (2 * (11 : Int) + 2) = 24 from rfl] at e11
  rw [show (2 * (12 : Int) + 1) = 25 from rfl, show (2 * (12 : Int) + 2) = 26 from rfl] at e12
  rw [show (2 * (13 : Int) + 1) = 27 from rfl, show (2 * (13 : Int) + 2) = 28 from rfl] at e13
  rw [show (2 * (14 : Int) + 1) = 29 from rfl, show (2 * (14 : Int) + 2) = 30 from rfl] at e14
  rw [zsum_congr (g := fun j => zTo ja v (15 + j)) (fun j h3 h4 => if_pos ⟨h3, by omega⟩), zsum_16]
  show zTo ja v 15 + zTo ja v 16 + zTo ja v 17 + zTo ja v 18 + zTo ja v 19 + zTo ja v 20 + zTo ja v 21 + zTo ja v 22 + zTo ja v 23 + zTo ja v 24 + zTo ja v 25 + zTo ja v 26 + zTo ja v 27 + zTo ja v 28 + zTo ja v 29 + zTo ja v 30 = _
  omega
theorem zpg_leaf {first last l plo phi t : Int} (hp : plo ≤ l ∧ l ≤ phi) : (if ¬ (first ≤ plo ∧ phi ≤ last) ∧ first ≤ l ∧ l ≤ last then t else 0) = if first ≤ plo ∧ phi ≤ last then 0 else (if first ≤ l ∧ l ≤ last then t else 0) := by
  split <;> split <;> first | rfl | (split <;> first | rfl | (exfalso; omega)) | (exfalso; omega)
theorem zpg_node {first last lo hi plo phi t Gl Gr Bl Br : Int} (hp : plo ≤ lo ∧ hi ≤ phi) (hl : Gl = if first ≤ lo ∧ hi ≤ last then 0 else Bl) (hr : Gr = if first ≤ lo ∧ hi ≤ last then 0 else Br) (hB : first ≤ lo ∧ hi ≤ last → Bl + Br = t) : (if ¬ (first ≤ plo ∧ phi ≤ last) ∧ first ≤ lo ∧ hi ≤ last then t else 0) + Gl + Gr = if first ≤ plo ∧ phi ≤ last then 0 else Bl + Br := by
  subst hl hr
  by_cases h1 : first ≤ lo ∧ hi ≤ last
  · have := hB h1
    rw [if_pos h1, if_pos h1]
    by_cases h2 : first ≤ plo ∧ phi ≤ last
    · rw [if_pos h2, if_neg (fun e => e.1 h2)]; omega
    · rw [if_neg h2, if_pos ⟨h2, h1⟩]; omega
  · rw [if_neg h1, if_neg h1, if_neg (fun e => h1 e.2)]
    by_cases h2 : first ≤ plo ∧ phi ≤ last
    · exact absurd h2 (by omega)
    · rw [if_neg h2]; omega
theorem zpg_sum {ia : Nat → Int → Int} {v first last : Int} (CS : zCS ia) (h1 : 0 ≤ v) (h2 : v < ia 3 0) (hf : 0 ≤ first ∧ first ≤ last ∧ last < 16) : zsum (fun s => if ¬ (0 < s ∧ first ≤ zlow ((s - 1) / 2) ∧ zhig ((s - 1) / 2) ≤ last) ∧ first ≤ zlow s ∧ zhig s ≤ last then zTo ia v s else 0) 31 = zsum (fun j => if first ≤ j ∧ j ≤ last then zTo ia v (15 + j) else 0) 16 := by
  have e0 : zTo ia v 0 = zTo ia v 1 + zTo ia v 2 := CS v 0 h1 h2 (by decide) (by decide)
  have e1 : zTo ia v 1 = zTo ia v 3 + zTo ia v 4 := CS v 1 h1 h2 (by decide) (by decide)
  have e2 : zTo ia v 2 = zTo ia v 5 + zTo ia v 6 := CS v 2 h1 h2 (by decide) (by decide)
  have e3 : zTo ia v 3 = zTo ia v 7 + zTo ia v 8 := CS v 3 h1 h2 (by decide) (by decide)
  have e4 : zTo ia v 4 = zTo ia v 9 + zTo ia v 10 := CS v 4 h1 h2 (by decide) (by decide)
  have e5 : zTo ia v 5 = zTo ia v 11 + zTo ia v 12 := CS v 5 h1 h2 (by decide) (by decide)
  have e6 : zTo ia v 6 = zTo ia v 13 + zTo ia v 14 := CS v 6 h1 h2 (by decide) (by decide)
  have e7 : zTo ia v 7 = zTo ia v 15 + zTo ia v 16 := CS v 7 h1 h2 (by decide) (by decide)
  have e8 : zTo ia v 8 = zTo ia v 17 + zTo ia v 18 := CS v 8 h1 h2 (by decide) (by decide)
  have e9 : zTo ia v 9 = zTo ia v 19 + zTo ia v 20 := CS v 9 h1 h2 (by decide) (by decide)
  have e10 : zTo ia v 10 = zTo ia v 21 + zTo ia v 22 := CS v 10 h1 h2 (by decide) (by decide)
  have e11 : zTo ia v 11 = zTo ia v 23 + zTo ia v 24 := CS v 11 h1 h2 (by decide) (by decide)
  have e12 : zTo ia v 12 = zTo ia v 25 + zTo ia v 26 := CS v 12 h1 h2 (by decide) (by decide)
  have e13 : zTo ia v 13 = zTo ia v 27 + zTo ia v 28 := CS v 13 h1 h2 (by decide) (by decide)
  have e14 : zTo ia v 14 = zTo ia v 29 + zTo ia v 30 := CS v 14 h1 h2 (by decide) (by decide)
  generalize hF : (fun s => if ¬ (0 < s ∧ first ≤ zlow ((s - 1) / 2) ∧ zhig ((s - 1) / 2) ≤ last) ∧ first ≤ zlow s ∧ zhig s ≤ last then zTo ia v s else 0) = F
  rw [zsum_31, zsum_16]
  have f0 : F 0 = if first ≤ 0 ∧ 15 ≤ last then zTo ia v 0 else 0 := by
    rw [← hF]
    show (if ¬ ((0 : Int) < 0 ∧ _ ∧ _) ∧ first ≤ zlow 0 ∧ zhig 0 ≤ last then zTo ia v 0 else 0) = _
    by_cases e : first ≤ 0 ∧ 15 ≤ last
    · rw [if_pos e, if_pos ⟨fun e2 => absurd e2.1 (by decide), e⟩]
    · rw [if_neg e, if_neg (fun e2 => e e2.2)]
  have f1 : F 1 = (if ¬ (first ≤ 0 ∧ 15 ≤ last) ∧ first ≤ 0 ∧ 7 ≤ last then zTo ia v 1 else 0) := by
    rw [← hF]
    show (if ¬ ((0 : Int) < 1 ∧ first ≤ 0 ∧ 15 ≤ last) ∧ first ≤ 0 ∧ 7 ≤ last then zTo ia v 1 else 0) = _
    by_cases e : ¬ (first ≤ 0 ∧ 15 ≤ last) ∧ first ≤ 0 ∧ 7 ≤ last
    · rw [if_pos e, if_pos ⟨fun e2 => e.1 e2.2, e.2⟩]
    · rw [if_neg e, if_neg (fun e2 => e ⟨fun e3 => e2.1 ⟨by decide, e3⟩, e2.2⟩)]
  have f2 : F 2 = (if ¬ (first ≤ 0 ∧ 15 ≤ last) ∧ first ≤ 8 ∧ 15 ≤ last then zTo ia v 2 else 0) := by
    rw [← hF]
    show (if ¬ ((0 : Int) < 2 ∧ first ≤ 0 ∧ 15 ≤ last) ∧ first ≤ 8 ∧ 15 ≤ last then zTo ia v 2 else 0) = _
    by_cases e : ¬ (first ≤ 0 ∧ 15 ≤ last) ∧ first ≤ 8 ∧ 15 ≤ last
    · rw [if_pos e, if_pos ⟨fun e2 => e.1 e2.2, e.2⟩]
    · rw [if_neg e, if_neg (fun e2 => e ⟨fun e3 => e2.1 ⟨by decide, e3⟩, e2.2⟩)]
  have f3 : F 3 = (if ¬ (first ≤ 0 ∧ 7 ≤ last) ∧ first ≤ 0 ∧ 3 ≤ last then zTo ia v 3 else 0) := by
    rw [← hF]
    show (if ¬ ((0 : Int) < 3 ∧ first ≤ 0 ∧ 7 ≤ last) ∧ first ≤ 0 ∧ 3 ≤ last then zTo ia v 3 else 0) = _
    by_cases e : ¬ (first ≤ 0 ∧ 7 ≤ last) ∧ first ≤ 0 ∧ 3 ≤ last
    · rw [if_pos e, if_pos ⟨fun e2 => e.1 e2.2, e.2⟩]
    · rw [if_neg e, if_neg (fun e2 => e ⟨fun e3 => e2.1 ⟨by decide, e3⟩, e2.2⟩)]
  have f4 : F 4 = (if ¬ (first ≤ 0 ∧ 7 ≤ last) ∧ first ≤ 4 ∧ 7 ≤ last then zTo ia v 4 else 0) := by
    rw [← hF]
    show (if ¬ ((0 : Int) < 4 ∧ first ≤ 0 ∧ 7 ≤ last) ∧ first ≤ 4 ∧ 7 ≤ last then zTo ia v 4 else 0) = _
    by_cases e : ¬ (first ≤ 0 ∧ 7 ≤ last) ∧ first ≤ 4 ∧ 7 ≤ last
    · rw [if_pos e, if_pos ⟨fun e2 => e.1 e2.2, e.2⟩]
    · rw [if_neg e, if_neg (fun e2 => e ⟨fun e3 => e2.1 ⟨by decide, e3⟩, e2.2⟩)]
  have f5 : F 5 = (if ¬ (first ≤ 8 ∧ 15 ≤ last) ∧ first ≤ 8 ∧ 11 ≤ last then zTo ia v 5 else 0) := by
    rw [← hF]
    show (if ¬ ((0 : Int) < 5 ∧ first ≤ 8 ∧ 15 ≤ last) ∧ first ≤ 8 ∧ 11 ≤ last then zTo ia v 5 else 0) = _
    by_cases e : ¬ (first ≤ 8 ∧ 15 ≤ last) ∧ first ≤ 8 ∧ 11 ≤ last
    · rw [if_pos e, if_pos ⟨fun e2 => e.1 e2.2, e.2⟩]
    · rw [if_neg e, if_neg (fun e2 => e ⟨fun e3 => e2.1 ⟨by decide, e3⟩, e2.2⟩)]
  have f6 : F 6 = (if ¬ (first ≤ 8 ∧ 15 ≤ last) ∧ first ≤ 12 ∧ 15 ≤ last then zTo ia v 6 else 0) := by
    rw [← hF]
    show (if ¬ ((0 : Int) < 6 ∧ first ≤ 8 ∧ 15 ≤ last) ∧ first ≤ 12 ∧ 15 ≤ last then zTo ia v 6 else 0) = _
    by_cases e : ¬ (first ≤ 8 ∧ 15 ≤ last) ∧ first ≤ 12 ∧ 15 ≤ last
    · rw [if_pos e, if_pos ⟨fun e2 => e.1 e2.2, e.2⟩]
    · rw [if_neg e, if_neg (fun e2 => e ⟨fun e3 => e2.1 ⟨by decide, e3⟩, e2.2⟩)]
  have f7 : F 7 = (if ¬ (first ≤ 0 ∧ 3 ≤ last) ∧ first ≤ 0 ∧ 1 ≤ last then zTo ia v 7 else 0) := by
    rw [← hF]
    show (if ¬ ((0 : Int) < 7 ∧ first ≤ 0 ∧ 3 ≤ last) ∧ first ≤ 0 ∧ 1 ≤ last then zTo ia v 7 else 0) = _
    by_cases e : ¬ (first ≤ 0 ∧ 3 ≤ last) ∧ first ≤ 0 ∧ 1 ≤ last
    · rw [if_pos e, if_pos ⟨fun e2 => e.1 e2.2, e.2⟩]
    · rw [if_neg e, if_neg (fun e2 => e ⟨fun e3 => e2.1 ⟨by decide, e3⟩, e2.2⟩)]
  have f8 : F 8 = (if ¬ (first ≤ 0 ∧ 3 ≤ last) ∧ first ≤ 2 ∧ 3 ≤ last then zTo ia v 8 else 0) := by
    rw [← hF]
    show (if ¬ ((0 : Int) < 8 ∧ first ≤ 0 ∧ 3 ≤ last) ∧ first ≤ 2 ∧ 3 ≤ last then zTo ia v 8 else 0) = _
    by_cases e : ¬ (first ≤ 0 ∧ 3 ≤ last) ∧ first ≤ 2 ∧ 3 ≤ last
    · rw [if_pos e, if_pos ⟨fun e2 => e.1 e2.2, e.2⟩]
    · rw [if_neg e, if_neg (fun e2 => e ⟨fun e3 => e2.1 ⟨by decide, e3⟩, e2.2⟩)]
  have f9 : F 9 = (if ¬ (first ≤ 4 ∧ 7 ≤ last) ∧ first ≤ 4 ∧ 5 ≤ last then zTo ia v 9 else 0) := by
    rw [← hF]
    show (if ¬ ((0 : Int) < 9 ∧ first ≤ 4 ∧ 7 ≤ last) ∧ first ≤ 4 ∧ 5 ≤ last then zTo ia v 9 else 0) = _
    by_cases e : ¬ (first ≤ 4 ∧ 7 ≤ last) ∧ first ≤ 4 ∧ 5 ≤ last
    · rw [if_pos e, if_pos ⟨fun e2 => e.1 e2.2, e.2⟩]
    · rw [if_neg e, if_neg (fun e2 => e ⟨fun e3 => e2.1 ⟨by decide, e3⟩, e2.2⟩)]
  have f10 : F 10 = (if ¬ (first ≤ 4 ∧ 7 ≤ last) ∧ first ≤ 6 ∧ 7 ≤ last then zTo ia v 10 else 0) := by
    rw [← hF]
    show (if ¬ ((0 : Int) < 10 ∧ first ≤ 4 ∧ 7 ≤ last) ∧ first ≤ 6 ∧ 7 ≤ last then zTo ia v 10 else 0) = _
    by_cases e : ¬ (first ≤ 4 ∧ 7 ≤ last) ∧ first ≤ 6 ∧ 7 ≤ last
    · rw [if_pos e, if_pos ⟨fun e2 => e.1 e2.2, e.2⟩]
    · rw [if_neg e, if_neg (fun e2 => e ⟨fun e3 => e2.1 ⟨by decide, e3⟩, e2.2⟩)]
  have f11 : F 11 = (if ¬ (first ≤ 8 ∧ 11 ≤ last) ∧ first ≤ 8 ∧ 9 ≤ last then zTo ia v 11 else 0) := by
    rw [← hF]
    show (if ¬ ((0 : Int) < 11 ∧ first ≤ 8 ∧ 11 ≤ last) ∧ first ≤ 8 ∧ 9 ≤ last then zTo ia v 11 else 0) = _
    by_cases e : ¬ (first ≤ 8 ∧ 11 ≤ last) ∧ first ≤ 8 ∧ 9 ≤ last
    · rw [if_pos e, if_pos ⟨fun e2 => e.1 e2.2, e.2⟩]
    · rw [if_neg e, if_neg (fun e2 => e ⟨fun e3 => e2.1 ⟨by decide, e3⟩, e2.2⟩)]
  have f12 : F 12 = (if ¬ (first ≤ 8 ∧ 11 ≤ last) ∧ first ≤ 10 ∧ 11 ≤ last then zTo ia v 12 else 0) := by
    rw [← hF]
    show (if ¬ ((0 : Int) < 12 ∧ first ≤ 8 ∧ 11 ≤ last) ∧ first ≤ 10 ∧ 11 ≤ last then zTo ia v 12 else 0) = _
    by_cases e : ¬ (first ≤ 8 ∧ 11 ≤ last) ∧ first ≤ 10 ∧ 11 ≤ last
    · rw [if_pos e, if_pos ⟨fun e2 => e.1 e2.2, e.2⟩]
    · rw [if_neg e, if_neg (fun e2 => e ⟨fun e3 => e2.1 ⟨by decide, e3⟩, e2.2⟩)]
  have f13 : F 13 = (if ¬ (first ≤ 12 ∧ 15 ≤ last) ∧ first ≤ 12 ∧ 13 ≤ last then zTo ia v 13 else 0) := by
    rw [← hF]
    show (if ¬ ((0 : Int) < 13 ∧ first ≤ 12 ∧ 15 ≤ last) ∧ first ≤ 12 ∧ 13 ≤ last then zTo ia v 13 else 0) = _
    by_cases e : ¬ (first ≤ 12 ∧ 15 ≤ last) ∧ first ≤ 12 ∧ 13 ≤ last
    · rw [if_pos e, if_pos ⟨fun e2 => e.1 e2.2, e.2⟩]
    · rw [if_neg e, if_neg (fun e2 => e ⟨fun e3 => e2.1 ⟨by decide, e3⟩, e2.2⟩)]
  have f14 : F 14 = (if ¬ (first ≤ 12 ∧ 15 ≤ last) ∧ first ≤ 14 ∧ 15 ≤ last then zTo ia v 14 else 0) := by
    rw [← hF]
    show (if ¬ ((0 : Int) < 14 ∧ first ≤ 12 ∧ 15 ≤ last) ∧ first ≤ 14 ∧ 15 ≤ last then zTo ia v 14 else 0) = _
    by_cases e : ¬ (first ≤ 12 ∧ 15 ≤ last) ∧ first ≤ 14 ∧ 15 ≤ last
    · rw [if_pos e, if_pos ⟨fun e2 => e.1 e2.2, e.2⟩]
    · rw [if_neg e, if_neg (fun e2 => e ⟨fun e3 => e2.1 ⟨by decide, e3⟩, e2.2⟩)]
  have f15 : F 15 = (if ¬ (first ≤ 0 ∧ 1 ≤ last) ∧ first ≤ 0 ∧ 0 ≤ last then zTo ia v 15 else 0) := by
    rw [← hF]
    show (if ¬ ((0 : Int) < 15 ∧ first ≤ 0 ∧ 1 ≤ last) ∧ first ≤ 0 ∧ 0 ≤ last then zTo ia v 15 else 0) = _
    by_cases e : ¬ (first ≤ 0 ∧ 1 ≤ last) ∧ first ≤ 0 ∧ 0 ≤ last
    · rw [if_pos e, if_pos ⟨fun e2 => e.1 e2.2, e.2⟩]
    · rw [if_neg e, if_neg (fun e2 => e ⟨fun e3 => e2.1 ⟨by decide, e3⟩, e2.2⟩)]
  have f16 : F 16 = (if ¬ (first ≤ 0 ∧ 1 ≤ last) ∧ first ≤ 1 ∧ 1 ≤ last then zTo ia v 16 else 0) := by
    rw [← hF]
    show (if ¬ ((0 : Int) < 16 ∧ first ≤ 0 ∧ 1 ≤ last) ∧ first ≤ 1 ∧ 1 ≤ last then zTo ia v 16 else 0) = _
    by_cases e : ¬ (first ≤ 0 ∧ 1 ≤ last) ∧ first ≤ 1 ∧ 1 ≤ last
    · rw [if_pos e, if_pos ⟨fun e2 => e.1 e2.2, e.2⟩]
    · rw [if_neg e, if_neg (fun e2 => e ⟨fun e3 => e2.1 ⟨by decide, e3⟩, e2.2⟩)]
  have f17 : F 17 = (if ¬ (first ≤ 2 ∧ 3 ≤ last) ∧ first ≤ 2 ∧ 2 ≤ last then zTo ia v 17 else 0) := by
    rw [← hF]
    show (if ¬ ((0 : Int) < 17 ∧ first ≤ 2 ∧ 3 ≤ last) ∧ first ≤ 2 ∧ 2 ≤ last then zTo ia v 17 else 0) = _
    by_cases e : ¬ (first ≤ 2 ∧ 3 ≤ last) ∧ first ≤ 2 ∧ 2 ≤ last
    · rw [if_pos e, if_pos ⟨fun e2 => e.1 e2.2, e.2⟩]
    · rw [if_neg e, if_neg (fun e2 => e ⟨fun e3 => e2.1 ⟨by decide, e3⟩, e2.2⟩)]
  have f18 : F 18 = (if ¬ (first ≤ 2 ∧ 3 ≤ last) ∧ first ≤ 3 ∧ 3 ≤ last then zTo ia v 18 else 0) := by
    rw [← hF]
    show (if ¬ ((0 : Int) < 18 ∧ first ≤ 2 ∧ 3 ≤ last) ∧ first ≤ 3 ∧ 3 ≤ last then zTo ia v 18 else 0) = _
    by_cases e : ¬ (first ≤ 2 ∧ 3 ≤ last) ∧ first ≤ 3 ∧ 3 ≤ last
    · rw [if_pos e, if_pos ⟨fun e2 => e.1 e2.2, e.2⟩]
    · rw [if_neg e, if_neg (fun e2 => e ⟨fun e3 => e2.1 ⟨by decide, e3⟩, e2.2⟩)]
  have f19 : F 19 = (if ¬ (first ≤ 4 ∧ 5 ≤ last) ∧ first ≤ 4 ∧ 4 ≤ last then zTo ia v 19 else 0) := by
    rw [← hF]
    show (if ¬ ((0 : Int) < 19 ∧ first ≤ 4 ∧ 5 ≤ last) ∧ first ≤ 4 ∧ 4 ≤ last then zTo ia v 19 else 0) = _
    by_cases e : ¬ (first ≤ 4 ∧ 5 ≤ last) ∧ first ≤ 4 ∧ 4 ≤ last
    · rw [if_pos e, if_pos ⟨fun e2 => e.1 e2.2, e.2⟩]
    · rw [if_neg e, if_neg (fun e2 => e ⟨fun e3 => e2.1 ⟨by decide, e3⟩, e2.2⟩)]
  have f20 : F 20 = (if ¬ (first ≤ 4 ∧ 5 ≤ last) ∧ first ≤ 5 ∧ 5 ≤ last then zTo ia v 20 else 0) := by
    rw [← hF]
    show (if ¬ ((0 : Int) < 20 ∧ first ≤ 4 ∧ 5 ≤ last) ∧ first ≤ 5 ∧ 5 ≤ last then zTo ia v 20 else 0) = _
    by_cases e : ¬ (first ≤ 4 ∧ 5 ≤ last) ∧ first ≤ 5 ∧ 5 ≤ last
    · rw [if_pos e, if_pos ⟨fun e2 => e.1 e2.2, e.2⟩]
    · rw [if_neg e, if_neg (fun e2 => e ⟨fun e3 => e2.1 ⟨by decide, e3⟩, e2.2⟩)]
  have f21 : F 21 = (if ¬ (first ≤ 6 ∧ 7 ≤ last) ∧ first ≤ 6 ∧ 6 ≤ last then zTo ia v 21 else 0) := by
    rw [← hF]
    show (if ¬ ((0 : Int) < 21 ∧ first ≤ 6 ∧ 7 ≤ last) ∧ first ≤ 6 ∧ 6 ≤ last then zTo ia v 21 else 0) = _
    by_cases e : ¬ (first ≤ 6 ∧ 7 ≤ last) ∧ first ≤ 6 ∧ 6 ≤ last
    · rw [if_pos e, if_pos ⟨fun e2 => e.1 e2.2, e.2⟩]
    · rw [if_neg e, if_neg (fun e2 => e ⟨fun e3 => e2.1 ⟨by decide, e3⟩, e2.2⟩)]
  have f22 : F 22 = (if ¬ (first ≤ 6 ∧ 7 ≤ last) ∧ first ≤ 7 ∧ 7 ≤ last then zTo ia v 22 else 0) := by
    rw [← hF]
    show (if ¬ ((0 : Int) < 22 ∧ first ≤ 6 ∧ 7 ≤ last) ∧ first ≤ 7 ∧ 7 ≤ last then zTo ia v 22 else 0) = _
    by_cases e : ¬ (first ≤ 6 ∧ 7 ≤ last) ∧ first ≤ 7 ∧ 7 ≤ last
    · rw [if_pos e, if_pos ⟨fun e2 => e.1 e2.2, e.2⟩]
    · rw [if_neg e, if_neg (fun e2 => e ⟨fun e3 => e2.1 ⟨by decide, e3⟩, e2.2⟩)]
  have f23 : F 23 = (if ¬ (first ≤ 8 ∧ 9 ≤ last) ∧ first ≤ 8 ∧ 8 ≤ last then zTo ia v 23 else 0) := by
    rw [← hF]
    show (if ¬ ((0 : Int) < 23 ∧ first ≤ 8 ∧ 9 ≤ last) ∧ first ≤ 8 ∧ 8 ≤ last then zTo ia v 23 else 0) = _
    by_cases e : ¬ (first ≤ 8 ∧ 9 ≤ last) ∧ first ≤ 8 ∧ 8 ≤ last
    · rw [if_pos e, if_pos ⟨fun e2 => e.1 e2.2, e.2⟩]
    · rw [if_neg e, if_neg (fun e2 => e ⟨fun e3 => e2.1 ⟨by decide, e3⟩, e2.2⟩)]
  have f24 : F 24 = (if ¬ (first ≤ 8 ∧ 9 ≤ last) ∧ first ≤ 9 ∧ 9 ≤ last then zTo ia v 24 else 0) := by
    rw [← hF]
    show (if ¬ ((0 : Int) < 24 ∧ first ≤ 8 ∧ 9 ≤ last) ∧ first ≤ 9 ∧ 9 ≤ last then zTo ia v 24 else 0) = _
    by_cases e : ¬ (first ≤ 8 ∧ 9 ≤ last) ∧ first ≤ 9 ∧ 9 ≤ last
    · rw [if_pos e, if_pos ⟨fun e2 => e.1 e2.2, e.2⟩]
    · rw [if_neg e, if_neg (fun e2 => e ⟨fun e3 => e2.1 ⟨by decide, e3⟩, e2.2⟩)]
  have f25 : F 25 = (if ¬ (first ≤ 10 ∧ 11 ≤ last) ∧ first ≤ 10 ∧ 10 ≤ last then zTo ia v 25 else 0) := by
    rw [← hF]
    show (if ¬ ((0 : Int) < 25 ∧ first ≤ 10 ∧ 11 ≤ last) ∧ first ≤ 10 ∧ 10 ≤ last then zTo ia v 25 else 0) = _
    by_cases e : ¬ (first ≤ 10 ∧ 11 ≤ last) ∧ first ≤ 10 ∧ 10 ≤ last
    · rw [if_pos e, if_pos ⟨fun e2 => e.1 e2.2, e.2⟩]
    · rw [if_neg e, if_neg (fun e2 => e ⟨fun e3 => e2.1 ⟨by decide, e3⟩, e2.2⟩)]
  have f26 : F 26 = (if ¬ (first ≤ 10 ∧ 11 ≤ last) ∧ first ≤ 11 ∧ 11 ≤ last then zTo ia v 26 else 0) := by
    rw [← hF]
    show (if ¬ ((0 : Int) < 26 ∧ first ≤ 10 ∧ 11 ≤ last) ∧ first ≤ 11 ∧ 11 ≤ last then zTo ia v 26 else 0) = _
    by_cases e : ¬ (first ≤ 10 ∧ 11 ≤ last) ∧ first ≤ 11 ∧ 11 ≤ last
    · rw [if_pos e, if_pos ⟨fun e2 => e.1 e2.2, e.2⟩]
    · rw [if_neg e, if_neg (fun e2 => e ⟨fun e3 => e2.1 ⟨by decide, e3⟩, e2.2⟩)]
  have f27 : F 27 = (if ¬ (first ≤ 12 ∧ 13 ≤ last) ∧ first ≤ 12 ∧ 12 ≤ last then zTo ia v 27 else 0) := by
    rw [← hF]
    show (if ¬ ((0 : Int) < 27 ∧ first ≤ 12 ∧ 13 ≤ last) ∧ first ≤ 12 ∧ 12 ≤ last then zTo ia v 27 else 0) = _
    by_cases e : ¬ (first ≤ 12 ∧ 13 ≤ last) ∧ first ≤ 12 ∧ 12 ≤ last
    · rw [if_pos e, if_pos ⟨fun e2 => e.1 e2.2, e.2⟩]
    · rw [if_neg e, if_neg (fun e2 => e ⟨fun e3 => e2.1 ⟨by decide, e3⟩, e2.2⟩)]
  have f28 : F 28 = (if ¬ (first ≤ 12 ∧ 13 ≤ last) ∧ first ≤ 13 ∧ 13 ≤ last then zTo ia v 28 else 0) := by
    rw [← hF]
    show (if ¬ ((0 : Int) < 28 ∧ first ≤ 12 ∧ 13 ≤ last) ∧ first ≤ 13 ∧ 13 ≤ last then zTo ia v 28 else 0) = _
    by_cases e : ¬ (first ≤ 12 ∧ 13 ≤ last) ∧ first ≤ 13 ∧ 13 ≤ last
    · rw [if_pos e, if_pos ⟨fun e2 => e.1 e2.2, e.2⟩]
    · rw [if_neg e, if_neg (fun e2 => e ⟨fun e3 => e2.1 ⟨by decide, e3⟩, e2.2⟩)]
  have f29 : F 29 = (if ¬ (first ≤ 14 ∧ 15 ≤ last) ∧ first ≤ 14 ∧ 14 ≤ last then zTo ia v 29 else 0) := by
    rw [← hF]
    show (if ¬ ((0 : Int) < 29 ∧ first ≤ 14 ∧ 15 ≤ last) ∧ first ≤ 14 ∧ 14 ≤ last then zTo ia v 29 else 0) = _
    by_cases e : ¬ (first ≤ 14 ∧ 15 ≤ last) ∧ first ≤ 14 ∧ 14 ≤ last
    · rw [if_pos e, if_pos ⟨fun e2 => e.1 e2.2, e.2⟩]
    · rw [if_neg e, if_neg (fun e2 => e ⟨fun e3 => e2.1 ⟨by decide, e3⟩, e2.2⟩)]
  have f30 : F 30 = (if ¬ (first ≤ 14 ∧ 15 ≤ last) ∧ first ≤ 15 ∧ 15 ≤ last then zTo ia v 30 else 0) := by
    rw [← hF]
    show (if ¬ ((0 : Int) < 30 ∧ first ≤ 14 ∧ 15 ≤ last) ∧ first ≤ 15 ∧ 15 ≤ last then zTo ia v 30 else 0) = _
    by_cases e : ¬ (first ≤ 14 ∧ 15 ≤ last) ∧ first ≤ 15 ∧ 15 ≤ last
    · rw [if_pos e, if_pos ⟨fun e2 => e.1 e2.2, e.2⟩]
    · rw [if_neg e, if_neg (fun e2 => e ⟨fun e3 => e2.1 ⟨by decide, e3⟩, e2.2⟩)]
  rw [f0, f1, f2, f3, f4, f5, f6, f7, f8, f9, f10, f11, f12, f13, f14, f15, f16, f17, f18, f19, f20, f21, f22, f23, f24, f25, f26, f27, f28, f29, f30]
  clear f0 f1 f2 f3 f4 f5 f6 f7 f8 f9 f10 f11 f12 f13 f14 f15 f16 f17 f18 f19 f20 f21 f22 f23 f24 f25 f26 f27 f28 f29 f30
  have g30 : (if ¬ (first ≤ 14 ∧ 15 ≤ last) ∧ first ≤ 15 ∧ 15 ≤ last then zTo ia v 30 else 0) = if first ≤ 14 ∧ 15 ≤ last then 0 else (if first ≤ 15 ∧ 15 ≤ last then zTo ia v 30 else 0) := zpg_leaf (by decide)
  have k30 : first ≤ 15 ∧ 15 ≤ last → (if first ≤ 15 ∧ 15 ≤ last then zTo ia v 30 else 0) = zTo ia v 30 := fun e => if_pos e
  have g29 : (if ¬ (first ≤ 14 ∧ 15 ≤ last) ∧ first ≤ 14 ∧ 14 ≤ last then zTo ia v 29 else 0) = if first ≤ 14 ∧ 15 ≤ last then 0 else (if first ≤ 14 ∧ 14 ≤ last then zTo ia v 29 else 0) := zpg_leaf (by decide)
  have k29 : first ≤ 14 ∧ 14 ≤ last → (if first ≤ 14 ∧ 14 ≤ last then zTo ia v 29 else 0) = zTo ia v 29 := fun e => if_pos e
  have g28 : (if ¬ (first ≤ 12 ∧ 13 ≤ last) ∧ first ≤ 13 ∧ 13 ≤ last then zTo ia v 28 else 0) = if first ≤ 12 ∧ 13 ≤ last then 0 else (if first ≤ 13 ∧ 13 ≤ last then zTo ia v 28 else 0) := zpg_leaf (by decide)
  have k28 : first ≤ 13 ∧ 13 ≤ last → (if first ≤ 13 ∧ 13 ≤ last then zTo ia v 28 else 0) = zTo ia v 28 := fun e => if_pos e
  have g27 : (if ¬ (first ≤ 12 ∧ 13 ≤ last) ∧ first ≤ 12 ∧ 12 ≤ last then zTo ia v 27 else 0) = if first ≤ 12 ∧ 13 ≤ last then 0 else (if first ≤ 12 ∧ 12 ≤ last then zTo ia v 27 else 0) := zpg_leaf (by decide)
  have k27 : first ≤ 12 ∧ 12 ≤ last → (if first ≤ 12 ∧ 12 ≤ last then zTo ia v 27 else 0) = zTo ia v 27 := fun e => if_pos e
  have g26 : (if ¬ (first ≤ 10 ∧ 11 ≤ last) ∧ first ≤ 11 ∧ 11 ≤ last then zTo ia v 26 else 0) = if first ≤ 10 ∧ 11 ≤ last then 0 else (if first ≤ 11 ∧ 11 ≤ last then zTo ia v 26 else 0) := zpg_leaf (by decide)
  have k26 : first ≤ 11 ∧ 11 ≤ last → (if first ≤ 11 ∧ 11 ≤ last then zTo ia v 26 else 0) = zTo ia v 26 := fun e => if_pos e
  have g25 : (if ¬ (first ≤ 10 ∧ 11 ≤ last) ∧ first ≤ 10 ∧ 10 ≤ last then zTo ia v 25 else 0) = if first ≤ 10 ∧ 11 ≤ last then 0 else (if first ≤ 10 ∧ 10 ≤ last then zTo ia v 25 else 0) := zpg_leaf (by decide)
  have k25 : first ≤ 10 ∧ 10 ≤ last → (if first ≤ 10 ∧ 10 ≤ last then zTo ia v 25 else 0) = zTo ia v 25 := fun e => if_pos e
  have g24 : (if ¬ (first ≤ 8 ∧ 9 ≤ last) ∧ first ≤ 9 ∧ 9 ≤ last then zTo ia v 24 else 0) = if first ≤ 8 ∧ 9 ≤ last then 0 else (if first ≤ 9 ∧ 9 ≤ last then zTo ia v 24 else 0) := zpg_leaf (by decide)
  have k24 : first ≤ 9 ∧ 9 ≤ last → (if first ≤ 9 ∧ 9 ≤ last then zTo ia v 24 else 0) = zTo ia v 24 := fun e => if_pos e
  have g23 : (if ¬ (first ≤ 8 ∧ 9 ≤ last) ∧ first ≤ 8 ∧ 8 ≤ last then zTo ia v 23 else 0) = if first ≤ 8 ∧ 9 ≤ last then 0 else (if first ≤ 8 ∧ 8 ≤ last then zTo ia v 23 else 0) := zpg_leaf (by decide)
  have k23 : first ≤ 8 ∧ 8 ≤ last → (if first ≤ 8 ∧ 8 ≤ last then zTo ia v 23 else 0) = zTo ia v 23 := fun e => if_pos e
  have g22 : (if ¬ (first ≤ 6 ∧ 7 ≤ last) ∧ first ≤ 7 ∧ 7 ≤ last then zTo ia v 22 else 0) = if first ≤ 6 ∧ 7 ≤ last then 0 else (if first ≤ 7 ∧ 7 ≤ last then zTo ia v 22 else 0) := zpg_leaf (by decide)
  have k22 : first ≤ 7 ∧ 7 ≤ last → (if first ≤ 7 ∧ 7 ≤ last then zTo ia v 22 else 0) = zTo ia v 22 := fun e => if_pos e
  have g21 : (if ¬ (first ≤ 6 ∧ 7 ≤ last) ∧ first ≤ 6 ∧ 6 ≤ last then zTo ia v 21 else 0) = if first ≤ 6 ∧ 7 ≤ last then 0 else (if first ≤ 6 ∧ 6 ≤ last then zTo ia v 21 else 0) := zpg_leaf (by decide)
  have k21 : first ≤ 6 ∧ 6 ≤ last → (if first ≤ 6 ∧ 6 ≤ last then zTo ia v 21 else 0) = zTo ia v 21 := fun e => if_pos e
  have g20 : (if ¬ (first ≤ 4 ∧ 5 ≤ last) ∧ first ≤ 5 ∧ 5 ≤ last then zTo ia v 20 else 0) = if first ≤ 4 ∧ 5 ≤ last then 0 else (if first ≤ 5 ∧ 5 ≤ last then zTo ia v 20 else 0) := zpg_leaf (by decide)
  have k20 : first ≤ 5 ∧ 5 ≤ last → (if first ≤ 5 ∧ 5 ≤ last then zTo ia v 20 else 0) = zTo ia v 20 := fun e => if_pos e
  have g19 : (if ¬ (first ≤ 4 ∧ 5 ≤ last) ∧ first ≤ 4 ∧ 4 ≤ last then zTo ia v 19 else 0) = if first ≤ 4 ∧ 5 ≤ last then 0 else (if first ≤ 4 ∧ 4 ≤ last then zTo ia v 19 else 0) := zpg_leaf (by decide)
  have k19 : first ≤ 4 ∧ 4 ≤ last → (if first ≤ 4 ∧ 4 ≤ last then zTo ia v 19 else 0) = zTo ia v 19 := fun e => if_pos e
  have g18 : (if ¬ (first ≤ 2 ∧ 3 ≤ last) ∧ first ≤ 3 ∧ 3 ≤ last then zTo ia v 18 else 0) = if first ≤ 2 ∧ 3 ≤ last then 0 else (if first ≤ 3 ∧ 3 ≤ last then zTo ia v 18 else 0) := zpg_leaf (by decide)
  have k18 : first ≤ 3 ∧ 3 ≤ last → (if first ≤ 3 ∧ 3 ≤ last then zTo ia v 18 else 0) = zTo ia v 18 := fun e => if_pos e
  have g17 : (if ¬ (first ≤ 2 ∧ 3 ≤ last) ∧ first ≤ 2 ∧ 2 ≤ last then zTo ia v 17 else 0) = if first ≤ 2 ∧ 3 ≤ last then 0 else (if first ≤ 2 ∧ 2 ≤ last then zTo ia v 17 else 0) := zpg_leaf (by decide)
  have k17 : first ≤ 2 ∧ 2 ≤ last → (if first ≤ 2 ∧ 2 ≤ last then zTo ia v 17 else 0) = zTo ia v 17 := fun e => if_pos e
  have g16 : (if ¬ (first ≤ 0 ∧ 1 ≤ last) ∧ first ≤ 1 ∧ 1 ≤ last then zTo ia v 16 else 0) = if first ≤ 0 ∧ 1 ≤ last then 0 else (if first ≤ 1 ∧ 1 ≤ last then zTo ia v 16 else 0) := zpg_leaf (by decide)
  have k16 : first ≤ 1 ∧ 1 ≤ last → (if first ≤ 1 ∧ 1 ≤ last then zTo ia v 16 else 0) = zTo ia v 16 := fun e => if_pos e
  have g15 : (if ¬ (first ≤ 0 ∧ 1 ≤ last) ∧ first ≤ 0 ∧ 0 ≤ last then zTo ia v 15 else 0) = if first ≤ 0 ∧ 1 ≤ last then 0 else (if first ≤ 0 ∧ 0 ≤ last then zTo ia v 15 else 0) := zpg_leaf (by decide)
  have k15 : first ≤ 0 ∧ 0 ≤ last → (if first ≤ 0 ∧ 0 ≤ last then zTo ia v 15 else 0) = zTo ia v 15 := fun e => if_pos e
  have k14 : first ≤ 14 ∧ 15 ≤ last → ((if first ≤ 14 ∧ 14 ≤ last then zTo ia v 29 else 0) + (if first ≤ 15 ∧ 15 ≤ last then zTo ia v 30 else 0)) = zTo ia v 14 := fun e => by rw [k29 (by omega), k30 (by omega)]; omega
  have g14 : ((if ¬ (first ≤ 12 ∧ 15 ≤ last) ∧ first ≤ 14 ∧ 15 ≤ last then zTo ia v 14 else 0) + (if ¬ (first ≤ 14 ∧ 15 ≤ last) ∧ first ≤ 14 ∧ 14 ≤ last then zTo ia v 29 else 0) + (if ¬ (first ≤ 14 ∧ 15 ≤ last) ∧ first ≤ 15 ∧ 15 ≤ last then zTo ia v 30 else 0)) = if first ≤ 12 ∧ 15 ≤ last then 0 else ((if first ≤ 14 ∧ 14 ≤ last then zTo ia v 29 else 0) + (if first ≤ 15 ∧ 15 ≤ last then zTo ia v 30 else 0)) := zpg_node (by decide) g29 g30 k14
  have k13 : first ≤ 12 ∧ 13 ≤ last → ((if first ≤ 12 ∧ 12 ≤ last then zTo ia v 27 else 0) + (if first ≤ 13 ∧ 13 ≤ last then zTo ia v 28 else 0)) = zTo ia v 13 := fun e => by rw [k27 (by omega), k28 (by omega)]; omega
  have g13 : ((if ¬ (first ≤ 12 ∧ 15 ≤ last) ∧ first ≤ 12 ∧ 13 ≤ last then zTo ia v 13 else 0) + (if ¬ (first ≤ 12 ∧ 13 ≤ last) ∧ first ≤ 12 ∧ 12 ≤ last then zTo ia v 27 else 0) + (if ¬ (first ≤ 12 ∧ 13 ≤ last) ∧ first ≤ 13 ∧ 13 ≤ last then zTo ia v 28 else 0)) = if first ≤ 12 ∧ 15 ≤ last then 0 else ((if first ≤ 12 ∧ 12 ≤ last then zTo ia v 27 else 0) + (if first ≤ 13 ∧ 13 ≤ last then zTo ia v 28 else 0)) := zpg_node (by decide) g27 g28 k13
  have k12 : first ≤ 10 ∧ 11 ≤ last → ((if first ≤ 10 ∧ 10 ≤ last then zTo ia v 25 else 0) + (if first ≤ 11 ∧ 11 ≤ last then zTo ia v 26 else 0)) = zTo ia v 12 := fun e => by rw [k25 (by omega), k26 (by omega)]; omega
  have g12 : ((if ¬ (first ≤ 8 ∧ 11 ≤ last) ∧ first ≤ 10 ∧ 11 ≤ last then zTo ia v 12 else 0) + (if ¬ (first ≤ 10 ∧ 11 ≤ last) ∧ first ≤ 10 ∧ 10 ≤ last then zTo ia v 25 else 0) + (if ¬ (first ≤ 10 ∧ 11 ≤ last) ∧ first ≤ 11 ∧ 11 ≤ last then zTo ia v 26 else 0)) = if first ≤ 8 ∧ 11 ≤ last then 0 else ((if first ≤ 10 ∧ 10 ≤ last then zTo ia v 25 else 0) + (if first ≤ 11 ∧ 11 ≤ last then zTo ia v 26 else 0)) := zpg_node (by decide) g25 g26 k12
  have k11 : first ≤ 8 ∧ 9 ≤ last → ((if first ≤ 8 ∧ 8 ≤ last then zTo ia v 23 else 0) + (if first ≤ 9 ∧ 9 ≤ last then zTo ia v 24 else 0)) = zTo ia v 11 := fun e => by rw [k23 (by omega), k24 (by omega)]; omega
  have g11 : ((if ¬ (first ≤ 8 ∧ 11 ≤ last) ∧ first ≤ 8 ∧ 9 ≤ last then zTo ia v 11 else 0) + (if ¬ (first ≤ 8 ∧ 9 ≤ last) ∧ first ≤ 8 ∧ 8 ≤ last then zTo ia v 23 else 0) + (if ¬ (first ≤ 8 ∧ 9 ≤ last) ∧ first ≤ 9 ∧ 9 ≤ last then zTo ia v 24 else 0)) = if first ≤ 8 ∧ 11 ≤ last then 0 else ((if first ≤ 8 ∧ 8 ≤ last then zTo ia v 23 else 0) + (if first ≤ 9 ∧ 9 ≤ last then zTo ia v 24 else 0)) := zpg_node (by decide) g23 g24 k11
  have k10 : first ≤ 6 ∧ 7 ≤ last → ((if first ≤ 6 ∧ 6 ≤ last then zTo ia v 21 else 0) + (if first ≤ 7 ∧ 7 ≤ last then zTo ia v 22 else 0)) = zTo ia v 10 := fun e => by rw [k21 (by omega), k22 (by omega)]; omega
  have g10 : ((if ¬ (first ≤ 4 ∧ 7 ≤ last) ∧ first ≤ 6 ∧ 7 ≤ last then zTo ia v 10 else 0) + (if ¬ (first ≤ 6 ∧ 7 ≤ last) ∧ first ≤ 6 ∧ 6 ≤ last then zTo ia v 21 else 0) + (if ¬ (first ≤ 6 ∧ 7 ≤ last) ∧ first ≤ 7 ∧ 7 ≤ last then zTo ia v 22 else 0)) = if first ≤ 4 ∧ 7 ≤ last then 0 else ((if first ≤ 6 ∧ 6 ≤ last then zTo ia v 21 else 0) + (if first ≤ 7 ∧ 7 ≤ last then zTo ia v 22 else 0)) := zpg_node (by decide) g21 g22 k10
  have k9 : first ≤ 4 ∧ 5 ≤ last → ((if first ≤ 4 ∧ 4 ≤ last then zTo ia v 19 else 0) + (if first ≤ 5 ∧ 5 ≤ last then zTo ia v 20 else 0)) = zTo ia v 9 := fun e => by rw [k19 (by omega), k20 (by omega)]; omega
  have g9 : ((if ¬ (first ≤ 4 ∧ 7 ≤ last) ∧ first ≤ 4 ∧ 5 ≤ last then zTo ia v 9 else 0) + (if ¬ (first ≤ 4 ∧ 5 ≤ last) ∧ first ≤ 4 ∧ 4 ≤ last then zTo ia v 19 else 0) + (if ¬ (first ≤ 4 ∧ 5 ≤ last) ∧ first ≤ 5 ∧ 5 ≤ last then zTo ia v 20 else 0)) = if first ≤ 4 ∧ 7 ≤ last then 0 else ((if first ≤ 4 ∧ 4 ≤ last then zTo ia v 19 else 0) + (if first ≤ 5 ∧ 5 ≤ last then zTo ia v 20 else 0)) := zpg_node (by decide) g19 g20 k9
  have k8 : first ≤ 2 ∧ 3 ≤ last → ((if first ≤ 2 ∧ 2 ≤ last then zTo ia v 17 else 0) + (if first ≤ 3 ∧ 3 ≤ last then zTo ia v 18 else 0)) = zTo ia v 8 := fun e => by rw [k17 (by omega), k18 (by omega)]; omega
  have g8 : ((if ¬ (first ≤ 0 ∧ 3 ≤ last) ∧ first ≤ 2 ∧ 3 ≤ last then zTo ia v 8 else 0) + (if ¬ (first ≤ 2 ∧ 3 ≤ last) ∧ first ≤ 2 ∧ 2 ≤ last then zTo ia v 17 else 0) + (if ¬ (first ≤ 2 ∧ 3 ≤ last) ∧ first ≤ 3 ∧ 3 ≤ last then zTo ia v 18 else 0)) = if first ≤ 0 ∧ 3 ≤ last then 0 else ((if first ≤ 2 ∧ 2 ≤ last then zTo ia v 17 else 0) + (if first ≤ 3 ∧ 3 ≤ last then zTo ia v 18 else 0)) := zpg_node (by decide) g17 g18 k8
  have k7 : first ≤ 0 ∧ 1 ≤ last → ((if first ≤ 0 ∧ 0 ≤ last then zTo ia v 15 else 0) + (if first ≤ 1 ∧ 1 ≤ last then zTo ia v 16 else 0)) = zTo ia v 7 := fun e => by rw [k15 (by omega), k16 (by omega)]; omega
  have g7 : ((if ¬ (first ≤ 0 ∧ 3 ≤ last) ∧ first ≤ 0 ∧ 1 ≤ last then zTo ia v 7 else 0) + (if ¬ (first ≤ 0 ∧ 1 ≤ last) ∧ first ≤ 0 ∧ 0 ≤ last then zTo ia v 15 else 0) + (if ¬ (first ≤ 0 ∧ 1 ≤ last) ∧ first ≤ 1 ∧ 1 ≤ last then zTo ia v 16 else 0)) = if first ≤ 0 ∧ 3 ≤ last then 0 else ((if first ≤ 0 ∧ 0 ≤ last then zTo ia v 15 else 0) + (if first ≤ 1 ∧ 1 ≤ last then zTo ia v 16 else 0)) := zpg_node (by decide) g15 g16 k7
  have k6 : first ≤ 12 ∧ 15 ≤ last → (((if first ≤ 12 ∧ 12 ≤ last then zTo ia v 27 else 0) + (if first ≤ 13 ∧ 13 ≤ last then zTo ia v 28 else 0)) + ((if first ≤ 14 ∧ 14 ≤ last then zTo ia v 29 else 0) + (if first ≤ 15 ∧ 15 ≤ last then zTo ia v 30 else 0))) = zTo ia v 6 := fun e => by rw [k13 (by omega), k14 (by omega)]; omega
  have g6 : ((if ¬ (first ≤ 8 ∧ 15 ≤ last) ∧ first ≤ 12 ∧ 15 ≤ last then zTo ia v 6 else 0) + ((if ¬ (first ≤ 12 ∧ 15 ≤ last) ∧ first ≤ 12 ∧ 13 ≤ last then zTo ia v 13 else 0) + (if ¬ (first ≤ 12 ∧ 13 ≤ last) ∧ first ≤ 12 ∧ 12 ≤ last then zTo ia v 27 else 0) + (if ¬ (first ≤ 12 ∧ 13 ≤ last) ∧ first ≤ 13 ∧ 13 ≤ last then zTo ia v 28 else 0)) + ((if ¬ (first ≤ 12 ∧ 15 ≤ last) ∧ first ≤ 14 ∧ 15 ≤ last then zTo ia v 14 else 0) + (if ¬ (first ≤ 14 ∧ 15 ≤ last) ∧ first ≤ 14 ∧ 14 ≤ last then zTo ia v 29 else 0) + (if ¬ (first ≤ 14 ∧ 15 ≤ last) ∧ first ≤ 15 ∧ 15 ≤ last then zTo ia v 30 else 0))) = if first ≤ 8 ∧ 15 ≤ last then 0 else (((if first ≤ 12 ∧ 12 ≤ last then zTo ia v 27 else 0) + (if first ≤ 13 ∧ 13 ≤ last then zTo ia v 28 else 0)) + ((if first ≤ 14 ∧ 14 ≤ last then zTo ia v 29 else 0) + (if first ≤ 15 ∧ 15 ≤ last then zTo ia v 30 else 0))) := zpg_node (by decide) g13 g14 k6
  have k5 : first ≤ 8 ∧ 11 ≤ last → (((if first ≤ 8 ∧ 8 ≤ last then zTo ia v 23 else 0) + (if first ≤ 9 ∧ 9 ≤ last then zTo ia v 24 else 0)) + ((if first ≤ 10 ∧ 10 ≤ last then zTo ia v 25 else 0) + (if first ≤ 11 ∧ 11 ≤ last then zTo ia v 26 else 0))) = zTo ia v 5 := fun e => by rw [k11 (by omega), k12 (by omega)]; omega
  have g5 : ((if ¬ (first ≤ 8 ∧ 15 ≤ last) ∧ first ≤ 8 ∧ 11 ≤ last then zTo ia v 5 else 0) + ((if ¬ (first ≤ 8 ∧ 11 ≤ last) ∧ first ≤ 8 ∧ 9 ≤ last then zTo ia v 11 else 0) + (if ¬ (first ≤ 8 ∧ 9 ≤ last) ∧ first ≤ 8 ∧ 8 ≤ last then zTo ia v 23 else 0) + (if ¬ (first ≤ 8 ∧ 9 ≤ last) ∧ first ≤ 9 ∧ 9 ≤ last then zTo ia v 24 else 0)) + ((if ¬ (first ≤ 8 ∧ 11 ≤ last) ∧ first ≤ 10 ∧ 11 ≤ last then zTo ia v 12 else 0) + (if ¬ (first ≤ 10 ∧ 11 ≤ last) ∧ first ≤ 10 ∧ 10 ≤ last then zTo ia v 25 else 0) + (if ¬ (first ≤ 10 ∧ 11 ≤ last) ∧ first ≤ 11 ∧ 11 ≤ last then zTo ia v 26 else 0))) = if first ≤ 8 ∧ 15 ≤ last then 0 else (((if first ≤ 8 ∧ 8 ≤ last then zTo ia v 23 else 0) + (if first ≤ 9 ∧ 9 ≤ last then zTo ia v 24 else 0)) + ((if first ≤ 10 ∧ 10 ≤ last then zTo ia v 25 else 0) + (if first ≤ 11 ∧ 11 ≤ last then zTo ia v 26 else 0))) := zpg_node (by decide) g11 g12 k5
  have k4 : first ≤ 4 ∧ 7 ≤ last → (((if first ≤ 4 ∧ 4 ≤ last then zTo ia v 19 else 0) + (if first ≤ 5 ∧ 5 ≤ last then zTo ia v 20 else 0)) + ((if first ≤ 6 ∧ 6 ≤ last then zTo ia v 21 else 0) + (if first ≤ 7 ∧ 7 ≤ last then zTo ia v 22 else 0))) = zTo ia v 4 := fun e => by rw [k9 (by omega), k10 (by omega)]; omega
  have g4 : ((if ¬ (first ≤ 0 ∧ 7 ≤ last) ∧ first ≤ 4 ∧ 7 ≤ last then zTo ia v 4 else 0) + ((if ¬ (first ≤ 4 ∧ 7 ≤ last) ∧ first ≤ 4 ∧ 5 ≤ last then zTo ia v 9 else 0) + (if ¬ (first ≤ 4 ∧ 5 ≤ last) ∧ first ≤ 4 ∧ 4 ≤ last then zTo ia v 19 else 0) + (if ¬ (first ≤ 4 ∧ 5 ≤ last) ∧ first ≤ 5 ∧ 5 ≤ last then zTo ia v 20 else 0)) + ((if ¬ (first ≤ 4 ∧ 7 ≤ last) ∧ first ≤ 6 ∧ 7 ≤ last then zTo ia v 10 else 0) + (if ¬ (first ≤ 6 ∧ 7 ≤ last) ∧ first ≤ 6 ∧ 6 ≤ last then zTo ia v 21 else 0) + (if ¬ (first ≤ 6 ∧ 7 ≤ last) ∧ first ≤ 7 ∧ 7 ≤ last then zTo ia v 22 else 0))) = if first ≤ 0 ∧ 7 ≤ last then 0 else (((if first ≤ 4 ∧ 4 ≤ last then zTo ia v 19 else 0) + (if first ≤ 5 ∧ 5 ≤ last then zTo ia v 20 else 0)) + ((if first ≤ 6 ∧ 6 ≤ last then zTo ia v 21 else 0) + (if first ≤ 7 ∧ 7 ≤ last then zTo ia v 22 else 0))) := zpg_node (by decide) g9 g10 k4
  have k3 : first ≤ 0 ∧ 3 ≤ last → (((if first ≤ 0 ∧ 0 ≤ last then zTo ia v 15 else 0) + (if first ≤ 1 ∧ 1 ≤ last then zTo ia v 16 else 0)) + ((if first ≤ 2 ∧ 2 ≤ last then zTo ia v 17 else 0) + (if first ≤ 3 ∧ 3 ≤ last then zTo ia v 18 else 0))) = zTo ia v 3 := fun e => by rw [k7 (by omega), k8 (by omega)]; omega
  have g3 : ((if ¬ (first ≤ 0 ∧ 7 ≤ last) ∧ first ≤ 0 ∧ 3 ≤ last then zTo ia v 3 else 0) + ((if ¬ (first ≤ 0 ∧ 3 ≤ last) ∧ first ≤ 0 ∧ 1 ≤ last then zTo ia v 7 else 0) + (if ¬ (first ≤ 0 ∧ 1 ≤ last) ∧ first ≤ 0 ∧ 0 ≤ last then zTo ia v 15 else 0) + (if ¬ (first ≤ 0 ∧ 1 ≤ last) ∧ first ≤ 1 ∧ 1 ≤ last then zTo ia v 16 else 0)) + ((if ¬ (first ≤ 0 ∧ 3 ≤ last) ∧ first ≤ 2 ∧ 3 ≤ last then zTo ia v 8 else 0) + (if ¬ (first ≤ 2 ∧ 3 ≤ last) ∧ first ≤ 2 ∧ 2 ≤ last then zTo ia v 17 else 0) + (if ¬ (first ≤ 2 ∧ 3 ≤ last) ∧ first ≤ 3 ∧ 3 ≤ last then zTo ia v 18 else 0))) = if first ≤ 0 ∧ 7 ≤ last then 0 else (((if first ≤ 0 ∧ 0 ≤ last then zTo ia v 15 else 0) + (if first ≤ 1 ∧ 1 ≤ last then zTo ia v 16 else 0)) + ((if first ≤ 2 ∧ 2 ≤ last then zTo ia v 17 else 0) + (if first ≤ 3 ∧ 3 ≤ last then zTo ia v 18 else 0))) := zpg_node (by decide) g7 g8 k3
  have k2 : first ≤ 8 ∧ 15 ≤ last → ((((if first ≤ 8 ∧ 8 ≤ last then zTo ia v 23 else 0) + (if first ≤ 9 ∧ 9 ≤ last then zTo ia v 24 else 0)) + ((if first ≤ 10 ∧ 10 ≤ last then zTo ia v 25 else 0) + (if first ≤ 11 ∧ 11 ≤ last then zTo ia v 26 else 0))) + (((if first ≤ 12 ∧ 12 ≤ last then zTo ia v 27 else 0) + (if first ≤ 13 ∧ 13 ≤ last then zTo ia v 28 else 0)) + ((if first ≤ 14 ∧ 14 ≤ last then zTo ia v 29 else 0) + (if first ≤ 15 ∧ 15 ≤ last then zTo ia v 30 else 0)))) = zTo ia v 2 := fun e => by rw [k5 (by omega), k6 (by omega)]; omega
  have g2 : ((if ¬ (first ≤ 0 ∧ 15 ≤ last) ∧ first ≤ 8 ∧ 15 ≤ last then zTo ia v 2 else 0) + ((if ¬ (first ≤ 8 ∧ 15 ≤ last) ∧ first ≤ 8 ∧ 11 ≤ last then zTo ia v 5 else 0) + ((if ¬ (first ≤ 8 ∧ 11 ≤ last) ∧ first ≤ 8 ∧ 9 ≤ last then zTo ia v 11 else 0) + (if ¬ (first ≤ 8 ∧ 9 ≤ last) ∧ first ≤ 8 ∧ 8 ≤ last then zTo ia v 23 else 0) + (if ¬ (first ≤ 8 ∧ 9 ≤ last) ∧ first ≤ 9 ∧ 9 ≤ last then zTo ia v 24 else 0)) + ((if ¬ (first ≤ 8 ∧ 11 ≤ last) ∧ first ≤ 10 ∧ 11 ≤ last then zTo ia v 12 else 0) + (if ¬ (first ≤ 10 ∧ 11 ≤ last) ∧ first ≤ 10 ∧ 10 ≤ last then zTo ia v 25 else 0) + (if ¬ (first ≤ 10 ∧ 11 ≤ last) ∧ first ≤ 11 ∧ 11 ≤ last then zTo ia v 26 else 0))) + ((if ¬ (first ≤ 8 ∧ 15 ≤ last) ∧ first ≤ 12 ∧ 15 ≤ last then zTo ia v 6 else 0) + ((if ¬ (first ≤ 12 ∧ 15 ≤ last) ∧ first ≤ 12 ∧ 13 ≤ last then zTo ia v 13 else 0) + (if ¬ (first ≤ 12 ∧ 13 ≤ last) ∧ first ≤ 12 ∧ 12 ≤ last then zTo ia v 27 else 0) + (if ¬ (first ≤ 12 ∧ 13 ≤ last) ∧ first ≤ 13 ∧ 13 ≤ last then zTo ia v 28 else 0)) + ((if ¬ (first ≤ 12 ∧ 15 ≤ last) ∧ first ≤ 14 ∧ 15 ≤ last then zTo ia v 14 else 0) + (if ¬ (first ≤ 14 ∧ 15 ≤ last) ∧ first ≤ 14 ∧ 14 ≤ last then zTo ia v 29 else 0) + (if ¬ (first ≤ 14 ∧ 15 ≤ last) ∧ first ≤ 15 ∧ 15 ≤ last then zTo ia v 30 else 0)))) = if first ≤ 0 ∧ 15 ≤ last then 0 else ((((if first ≤ 8 ∧ 8 ≤ last then zTo ia v 23 else 0) + (if first ≤ 9 ∧ 9 ≤ last then zTo ia v 24 else 0)) + ((if first ≤ 10 ∧ 10 ≤ last then zTo ia v 25 else 0) + (if first ≤ 11 ∧ 11 ≤ last then zTo ia v 26 else 0))) + (((if first ≤ 12 ∧ 12 ≤ last then zTo ia v 27 else 0) + (if first ≤ 13 ∧ 13 ≤ last then zTo ia v 28 else 0)) + ((if first ≤ 14 ∧ 14 ≤ last then zTo ia v 29 else 0) + (if first ≤ 15 ∧ 15 ≤ last then zTo ia v 30 else 0)))) := zpg_node (by decide) g5 g6 k2
  have k1 : first ≤ 0 ∧ 7 ≤ last → ((((if first ≤ 0 ∧ 0 ≤ last then zTo ia v 15 else 0) + (if first ≤ 1 ∧ 1 ≤ last then zTo ia v 16 else 0)) + ((if first ≤ 2 ∧ 2 ≤ last then zTo ia v 17 else 0) + (if first ≤ 3 ∧ 3 ≤ last then zTo ia v 18 else 0))) + (((if first ≤ 4 ∧ 4 ≤ last then zTo ia v 19 else 0) + (if first ≤ 5 ∧ 5 ≤ last then zTo ia v 20 else 0)) + ((if first ≤ 6 ∧ 6 ≤ last then zTo ia v 21 else 0) + (if first ≤ 7 ∧ 7 ≤ last then zTo ia v 22 else 0)))) = zTo ia v 1 := fun e => by rw [k3 (by omega), k4 (by omega)]; omega
  have g1 : ((if ¬ (first ≤ 0 ∧ 15 ≤ last) ∧ first ≤ 0 ∧ 7 ≤ last then zTo ia v 1 else 0) + ((if ¬ (first ≤ 0 ∧ 7 ≤ last) ∧ first ≤ 0 ∧ 3 ≤ last then zTo ia v 3 else 0) + ((if ¬ (first ≤ 0 ∧ 3 ≤ last) ∧ first ≤ 0 ∧ 1 ≤ last then zTo ia v 7 else 0) + (if ¬ (first ≤ 0 ∧ 1 ≤ last) ∧ first ≤ 0 ∧ 0 ≤ last then zTo ia v 15 else 0) + (if ¬ (first ≤ 0 ∧ 1 ≤ last) ∧ first ≤ 1 ∧ 1 ≤ last then zTo ia v 16 else 0)) + ((if ¬ (first ≤ 0 ∧ 3 ≤ last) ∧ first ≤ 2 ∧ 3 ≤ last then zTo ia v 8 else 0) + (if ¬ (first ≤ 2 ∧ 3 ≤ last) ∧ first ≤ 2 ∧ 2 ≤ last then zTo ia v 17 else 0) + (if ¬ (first ≤ 2 ∧ 3 ≤ last) ∧ first ≤ 3 ∧ 3 ≤ last then zTo ia v 18 else 0))) + ((if ¬ (first ≤ 0 ∧ 7 ≤ last) ∧ first ≤ 4 ∧ 7 ≤ last then zTo ia v 4 else 0) + ((if ¬ (first ≤ 4 ∧ 7 ≤ last) ∧ first ≤ 4 ∧ 5 ≤ last then zTo ia v 9 else 0) + (if ¬ (first ≤ 4 ∧ 5 ≤ last) ∧ first ≤ 4 ∧ 4 ≤ last then zTo ia v 19 else 0) + (if ¬ (first ≤ 4 ∧ 5 ≤ last) ∧ first ≤ 5 ∧ 5 ≤ last then zTo ia v 20 else 0)) + ((if ¬ (first ≤ 4 ∧ 7 ≤ last) ∧ first ≤ 6 ∧ 7 ≤ last then zTo ia v 10 else 0) + (if ¬ (first ≤ 6 ∧ 7 ≤ last) ∧ first ≤ 6 ∧ 6 ≤ last then zTo ia v 21 else 0) + (if ¬ (first ≤ 6 ∧ 7 ≤ last) ∧ first ≤ 7 ∧ 7 ≤ last then zTo ia v 22 else 0)))) = if first ≤ 0 ∧ 15 ≤ last then 0 else ((((if first ≤ 0 ∧ 0 ≤ last then zTo ia v 15 else 0) + (if first ≤ 1 ∧ 1 ≤ last then zTo ia v 16 else 0)) + ((if first ≤ 2 ∧ 2 ≤ last then zTo ia v 17 else 0) + (if first ≤ 3 ∧ 3 ≤ last then zTo ia v 18 else 0))) + (((if first ≤ 4 ∧ 4 ≤ last then zTo ia v 19 else 0) + (if first ≤ 5 ∧ 5 ≤ last then zTo ia v 20 else 0)) + ((if first ≤ 6 ∧ 6 ≤ last then zTo ia v 21 else 0) + (if first ≤ 7 ∧ 7 ≤ last then zTo ia v 22 else 0)))) := zpg_node (by decide) g3 g4 k1
  have k0 : first ≤ 0 ∧ 15 ≤ last → (((((if first ≤ 0 ∧ 0 ≤ last then zTo ia v 15 else 0) + (if first ≤ 1 ∧ 1 ≤ last then zTo ia v 16 else 0)) + ((if first ≤ 2 ∧ 2 ≤ last then zTo ia v 17 else 0) + (if first ≤ 3 ∧ 3 ≤ last then zTo ia v 18 else 0))) + (((if first ≤ 4 ∧ 4 ≤ last then zTo ia v 19 else 0) + (if first ≤ 5 ∧ 5 ≤ last then zTo ia v 20 else 0)) + ((if first ≤ 6 ∧ 6 ≤ last then zTo ia v 21 else 0) + (if first ≤ 7 ∧ 7 ≤ last then zTo ia v 22 else 0)))) + ((((if first ≤ 8 ∧ 8 ≤ last then zTo ia v 23 else 0) + (if first ≤ 9 ∧ 9 ≤ last then zTo ia v 24 else 0)) + ((if first ≤ 10 ∧ 10 ≤ last then zTo ia v 25 else 0) + (if first ≤ 11 ∧ 11 ≤ last then zTo ia v 26 else 0))) + (((if first ≤ 12 ∧ 12 ≤ last then zTo ia v 27 else 0) + (if first ≤ 13 ∧ 13 ≤ last then zTo ia v 28 else 0)) + ((if first ≤ 14 ∧ 14 ≤ last then zTo ia v 29 else 0) + (if first ≤ 15 ∧ 15 ≤ last then zTo ia v 30 else 0))))) = zTo ia v 0 := fun e => by rw [k1 (by omega), k2 (by omega)]; omega
  have g0 : (if first ≤ 0 ∧ 15 ≤ last then zTo ia v 0 else 0) + ((if ¬ (first ≤ 0 ∧ 15 ≤ last) ∧ first ≤ 0 ∧ 7 ≤ last then zTo ia v 1 else 0) + ((if ¬ (first ≤ 0 ∧ 7 ≤ last) ∧ first ≤ 0 ∧ 3 ≤ last then zTo ia v 3 else 0) + ((if ¬ (first ≤ 0 ∧ 3 ≤ last) ∧ first ≤ 0 ∧ 1 ≤ last then zTo ia v 7 else 0) + (if ¬ (first ≤ 0 ∧ 1 ≤ last) ∧ first ≤ 0 ∧ 0 ≤ last then zTo ia v 15 else 0) + (if ¬ (first ≤ 0 ∧ 1 ≤ last) ∧ first ≤ 1 ∧ 1 ≤ last then zTo ia v 16 else 0)) + ((if ¬ (first ≤ 0 ∧ 3 ≤ last) ∧ first ≤ 2 ∧ 3 ≤ last then zTo ia v 8 else 0) + (if ¬ (first ≤ 2 ∧ 3 ≤ last) ∧ first ≤ 2 ∧ 2 ≤ last then zTo ia v 17 else 0) + (if ¬ (first ≤ 2 ∧ 3 ≤ last) ∧ first ≤ 3 ∧ 3 ≤ last then zTo ia v 18 else 0))) + ((if ¬ (first ≤ 0 ∧ 7 ≤ last) ∧ first ≤ 4 ∧ 7 ≤ last then zTo ia v 4 else 0) + ((if ¬ (first ≤ 4 ∧ 7 ≤ last) ∧ first ≤ 4 ∧ 5 ≤ last then zTo ia v 9 else 0) + (if ¬ (first ≤ 4 ∧ 5 ≤ last) ∧ first ≤ 4 ∧ 4 ≤ last then zTo ia v 19 else 0) + (if ¬ (first ≤ 4 ∧ 5 ≤ last) ∧ first ≤ 5 ∧ 5 ≤ last then zTo ia v 20 else 0)) + ((if ¬ (first ≤ 4 ∧ 7 ≤ last) ∧ first ≤ 6 ∧ 7 ≤ last then zTo ia v 10 else 0) + (if ¬ (first ≤ 6 ∧ 7 ≤ last) ∧ first ≤ 6 ∧ 6 ≤ last then zTo ia v 21 else 0) + (if ¬ (first ≤ 6 ∧ 7 ≤ last) ∧ first ≤ 7 ∧ 7 ≤ last then zTo ia v 22 else 0)))) + ((if ¬ (first ≤ 0 ∧ 15 ≤ last) ∧ first ≤ 8 ∧ 15 ≤ last then zTo ia v 2 else 0) + ((if ¬ (first ≤ 8 ∧ 15 ≤ last) ∧ first ≤ 8 ∧ 11 ≤ last then zTo ia v 5 else 0) + ((if ¬ (first ≤ 8 ∧ 11 ≤ last) ∧ first ≤ 8 ∧ 9 ≤ last then zTo ia v 11 else 0) + (if ¬ (first ≤ 8 ∧ 9 ≤ last) ∧ first ≤ 8 ∧ 8 ≤ last then zTo ia v 23 else 0) + (if ¬ (first ≤ 8 ∧ 9 ≤ last) ∧ first ≤ 9 ∧ 9 ≤ last then zTo ia v 24 else 0)) + ((if ¬ (first ≤ 8 ∧ 11 ≤ last) ∧ first ≤ 10 ∧ 11 ≤ last then zTo ia v 12 else 0) + (if ¬ (first ≤ 10 ∧ 11 ≤ last) ∧ first ≤ 10 ∧ 10 ≤ last then zTo ia v 25 else 0) + (if ¬ (first ≤ 10 ∧ 11 ≤ last) ∧ first ≤ 11 ∧ 11 ≤ last then zTo ia v 26 else 0))) + ((if ¬ (first ≤ 8 ∧ 15 ≤ last) ∧ first ≤ 12 ∧ 15 ≤ last then zTo ia v 6 else 0) + ((if ¬ (first ≤ 12 ∧ 15 ≤ last) ∧ first ≤ 12 ∧ 13 ≤ last then zTo ia v 13 else 0) + (if ¬ (first ≤ 12 ∧ 13 ≤ last) ∧ first ≤ 12 ∧ 12 ≤ last then zTo ia v 27 else 0) + (if ¬ (first ≤ 12 ∧ 13 ≤ last) ∧ first ≤ 13 ∧ 13 ≤ last then zTo ia v 28 else 0)) + ((if ¬ (first ≤ 12 ∧ 15 ≤ last) ∧ first ≤ 14 ∧ 15 ≤ last then zTo ia v 14 else 0) + (if ¬ (first ≤ 14 ∧ 15 ≤ last) ∧ first ≤ 14 ∧ 14 ≤ last then zTo ia v 29 else 0) + (if ¬ (first ≤ 14 ∧ 15 ≤ last) ∧ first ≤ 15 ∧ 15 ≤ last then zTo ia v 30 else 0)))) = (((((if first ≤ 0 ∧ 0 ≤ last then zTo ia v 15 else 0) + (if first ≤ 1 ∧ 1 ≤ last then zTo ia v 16 else 0)) + ((if first ≤ 2 ∧ 2 ≤ last then zTo ia v 17 else 0) + (if first ≤ 3 ∧ 3 ≤ last then zTo ia v 18 else 0))) + (((if first ≤ 4 ∧ 4 ≤ last then zTo ia v 19 else 0) + (if first ≤ 5 ∧ 5 ≤ last then zTo ia v 20 else 0)) + ((if first ≤ 6 ∧ 6 ≤ last then zTo ia v 21 else 0) + (if first ≤ 7 ∧ 7 ≤ last then zTo ia v 22 else 0)))) + ((((if first ≤ 8 ∧ 8 ≤ last then zTo ia v 23 else 0) + (if first ≤ 9 ∧ 9 ≤ last then zTo ia v 24 else 0)) + ((if first ≤ 10 ∧ 10 ≤ last then zTo ia v 25 else 0) + (if first ≤ 11 ∧ 11 ≤ last then zTo ia v 26 else 0))) + (((if first ≤ 12 ∧ 12 ≤ last then zTo ia v 27 else 0) + (if first ≤ 13 ∧ 13 ≤ last then zTo ia v 28 else 0)) + ((if first ≤ 14 ∧ 14 ≤ last then zTo ia v 29 else 0) + (if first ≤ 15 ∧ 15 ≤ last then zTo ia v 30 else 0))))) := by
    rw [g1, g2]
    by_cases e : first ≤ 0 ∧ 15 ≤ last
    · rw [if_pos e, if_pos e, if_pos e, k0 e]; omega
    · rw [if_neg e, if_neg e, if_neg e]; omega
  show _ = (if first ≤ 0 ∧ 0 ≤ last then zTo ia v 15 else 0) + (if first ≤ 1 ∧ 1 ≤ last then zTo ia v 16 else 0) + (if first ≤ 2 ∧ 2 ≤ last then zTo ia v 17 else 0) + (if first ≤ 3 ∧ 3 ≤ last then zTo ia v 18 else 0) + (if first ≤ 4 ∧ 4 ≤ last then zTo ia v 19 else 0) + (if first ≤ 5 ∧ 5 ≤ last then zTo ia v 20 else 0) + (if first ≤ 6 ∧ 6 ≤ last then zTo ia v 21 else 0) + (if first ≤ 7 ∧ 7 ≤ last then zTo ia v 22 else 0) + (if first ≤ 8 ∧ 8 ≤ last then zTo ia v 23 else 0) + (if first ≤ 9 ∧ 9 ≤ last then zTo ia v 24 else 0) + (if first ≤ 10 ∧ 10 ≤ last then zTo ia v 25 else 0) + (if first ≤ 11 ∧ 11 ≤ last then zTo ia v 26 else 0) + (if first ≤ 12 ∧ 12 ≤ last then zTo ia v 27 else 0) + (if first ≤ 13 ∧ 13 ≤ last then zTo ia v 28 else 0) + (if first ≤ 14 ∧ 14 ≤ last then zTo ia v 29 else 0) + (if first ≤ 15 ∧ 15 ≤ last then zTo ia v 30 else 0)
  clear k0 k1 k2 k3 k4 k5 k6 k7 k8 k9 k10 k11 k12 k13 k14 k15 k16 k17 k18 k19 k20 k21 k22 k23 k24 k25 k26 k27 k28 k29 k30
  clear g1 g2 g3 g4 g5 g6 g7 g8 g9 g10 g11 g12 g13 g14 g15 g16 g17 g18 g19 g20 g21 g22 g23 g24 g25 g26 g27 g28 g29 g30
  clear e0 e1 e2 e3 e4 e5 e6 e7 e8 e9 e10 e11 e12 e13 e14
  generalize e1 : (if ¬ (first ≤ 0 ∧ 15 ≤ last) ∧ first ≤ 0 ∧ 7 ≤ last then zTo ia v 1 else 0) = x1 at g0 ⊢
  generalize e2 : (if ¬ (first ≤ 0 ∧ 15 ≤ last) ∧ first ≤ 8 ∧ 15 ≤ last then zTo ia v 2 else 0) = x2 at g0 ⊢
  generalize e3 : (if ¬ (first ≤ 0 ∧ 7 ≤ last) ∧ first ≤ 0 ∧ 3 ≤ last then zTo ia v 3 else 0) = x3 at g0 ⊢
  generalize e4 : (if ¬ (first ≤ 0 ∧ 7 ≤ last) ∧ first ≤ 4 ∧ 7 ≤ last then zTo ia v 4 else 0) = x4 at g0 ⊢
  generalize e5 : (if ¬ (first ≤ 8 ∧ 15 ≤ last) ∧ first ≤ 8 ∧ 11 ≤ last then zTo ia v 5 else 0) = x5 at g0 ⊢
  generalize e6 : (if ¬ (first ≤ 8 ∧ 15 ≤ last) ∧ first ≤ 12 ∧ 15 ≤ last then zTo ia v 6 else 0) = x6 at g0 ⊢
  generalize e7 : (if ¬ (first ≤ 0 ∧ 3 ≤ last) ∧ first ≤ 0 ∧ 1 ≤ last then zTo ia v 7 else 0) = x7 at g0 ⊢
  generalize e8 : (if ¬ (first ≤ 0 ∧ 3 ≤ last) ∧ first ≤ 2 ∧ 3 ≤ last then zTo ia v 8 else 0) = x8 at g0 ⊢
  generalize e9 : (if ¬ (first ≤ 4 ∧ 7 ≤ last) ∧ first ≤ 4 ∧ 5 ≤ last then zTo ia v 9 else 0) = x9 at g0 ⊢
  generalize e10 : (if ¬ (first ≤ 4 ∧ 7 ≤ last) ∧ first ≤ 6 ∧ 7 ≤ last then zTo ia v 10 else 0) = x10 at g0 ⊢
  generalize e11 : (if ¬ (first ≤ 8 ∧ 11 ≤ last) ∧ first ≤ 8 ∧ 9 ≤ last then zTo ia v 11 else 0) = x11 at g0 ⊢
  generalize e12 : (if ¬ (first ≤ 8 ∧ 11 ≤ last) ∧ first ≤ 10 ∧ 11 ≤ last then zTo ia v 12 else 0) = x12 at g0 ⊢
  generalize e13 : (if ¬ (first ≤ 12 ∧ 15 ≤ last) ∧ first ≤ 12 ∧ 13 ≤ last then zTo ia v 13 else 0) = x13 at g0 ⊢
  generalize e14 : (if ¬ (first ≤ 12 ∧ 15 ≤ last) ∧ first ≤ 14 ∧ 15 ≤ last then zTo ia v 14 else 0) = x14 at g0 ⊢
  generalize e15 : (if ¬ (first ≤ 0 ∧ 1 ≤ last) ∧ first ≤ 0 ∧ 0 ≤ last then zTo ia v 15 else 0) = x15 at g0 ⊢
  generalize e16 : (if ¬ (first ≤ 0 ∧ 1 ≤ last) ∧ first ≤ 1 ∧ 1 ≤ last then zTo ia v 16 else 0) = x16 at g0 ⊢
  generalize e17 : (if ¬ (first ≤ 2 ∧ 3 ≤ last) ∧ first ≤ 2 ∧ 2 ≤ last then zTo ia v 17 else 0) = x17 at g0 ⊢
  generalize e18 : (if ¬ (first ≤ 2 ∧ 3 ≤ last) ∧ first ≤ 3 ∧ 3 ≤ last then zTo ia v 18 else 0) = x18 at g0 ⊢
  generalize e19 : (if ¬ (first ≤ 4 ∧ 5 ≤ last) ∧ first ≤ 4 ∧ 4 ≤ last then zTo ia v 19 else 0) = x19 at g0 ⊢
  generalize e20 : (if ¬ (first ≤ 4 ∧ 5 ≤ last) ∧ first ≤ 5 ∧ 5 ≤ last then zTo ia v 20 else 0) = x20 at g0 ⊢
  generalize e21 : (if ¬ (first ≤ 6 ∧ 7 ≤ last) ∧ first ≤ 6 ∧ 6 ≤ last then zTo ia v 21 else 0) = x21 at g0 ⊢
  generalize e22 : (if ¬ (first ≤ 6 ∧ 7 ≤ last) ∧ first ≤ 7 ∧ 7 ≤ last then zTo ia v 22 else 0) = x22 at g0 ⊢
  generalize e23 : (if ¬ (first ≤ 8 ∧ 9 ≤ last) ∧ first ≤ 8 ∧ 8 ≤ last then zTo ia v 23 else 0) = x23 at g0 ⊢
  generalize e24 : (if ¬ (first ≤ 8 ∧ 9 ≤ last) ∧ first ≤ 9 ∧ 9 ≤ last then zTo ia v 24 else 0) = x24 at g0 ⊢
  generalize e25 : (if ¬ (first ≤ 10 ∧ 11 ≤ last) ∧ first ≤ 10 ∧ 10 ≤ last then zTo ia v 25 else 0) = x25 at g0 ⊢
  generalize e26 : (if ¬ (first ≤ 10 ∧ 11 ≤ last) ∧ first ≤ 11 ∧ 11 ≤ last then zTo ia v 26 else 0) = x26 at g0 ⊢
  generalize e27 : (if ¬ (first ≤ 12 ∧ 13 ≤ last) ∧ first ≤ 12 ∧ 12 ≤ last then zTo ia v 27 else 0) = x27 at g0 ⊢
  generalize e28 : (if ¬ (first ≤ 12 ∧ 13 ≤ last) ∧ first ≤ 13 ∧ 13 ≤ last then zTo ia v 28 else 0) = x28 at g0 ⊢
  generalize e29 : (if ¬ (first ≤ 14 ∧ 15 ≤ last) ∧ first ≤ 14 ∧ 14 ≤ last then zTo ia v 29 else 0) = x29 at g0 ⊢
  generalize e30 : (if ¬ (first ≤ 14 ∧ 15 ≤ last) ∧ first ≤ 15 ∧ 15 ≤ last then zTo ia v 30 else 0) = x30 at g0 ⊢
  generalize e0 : (if first ≤ 0 ∧ 15 ≤ last then zTo ia v 0 else 0) = x0 at g0 ⊢
  generalize d0 : (if first ≤ 0 ∧ 0 ≤ last then zTo ia v 15 else 0) = y0 at g0 ⊢
  generalize d1 : (if first ≤ 1 ∧ 1 ≤ last then zTo ia v 16 else 0) = y1 at g0 ⊢
  generalize d2 : (if first ≤ 2 ∧ 2 ≤ last then zTo ia v 17 else 0) = y2 at g0 ⊢
  generalize d3 : (if first ≤ 3 ∧ 3 ≤ last then zTo ia v 18 else 0) = y3 at g0 ⊢
  generalize d4 : (if first ≤ 4 ∧ 4 ≤ last then zTo ia v 19 else 0) = y4 at g0 ⊢
  generalize d5 : (if first ≤ 5 ∧ 5 ≤ last then zTo ia v 20 else 0) = y5 at g0 ⊢
  generalize d6 : (if first ≤ 6 ∧ 6 ≤ last then zTo ia v 21 else 0) = y6 at g0 ⊢
  generalize d7 : (if first ≤ 7 ∧ 7 ≤ last then zTo ia v 22 else 0) = y7 at g0 ⊢
  generalize d8 : (if first ≤ 8 ∧ 8 ≤ last then zTo ia v 23 else 0) = y8 at g0 ⊢
  generalize d9 : (if first ≤ 9 ∧ 9 ≤ last then zTo ia v 24 else 0) = y9 at g0 ⊢
  generalize d10 : (if first ≤ 10 ∧ 10 ≤ last then zTo ia v 25 else 0) = y10 at g0 ⊢
  generalize d11 : (if first ≤ 11 ∧ 11 ≤ last then zTo ia v 26 else 0) = y11 at g0 ⊢
  generalize d12 : (if first ≤ 12 ∧ 12 ≤ last then zTo ia v 27 else 0) = y12 at g0 ⊢
  generalize d13 : (if first ≤ 13 ∧ 13 ≤ last then zTo ia v 28 else 0) = y13 at g0 ⊢
  generalize d14 : (if first ≤ 14 ∧ 14 ≤ last then zTo ia v 29 else 0) = y14 at g0 ⊢
  generalize d15 : (if first ≤ 15 ∧ 15 ≤ last then zTo ia v 30 else 0) = y15 at g0 ⊢
  clear e0 e1 e2 e3 e4 e5 e6 e7 e8 e9 e10 e11 e12 e13 e14 e15 e16 e17 e18 e19 e20 e21 e22 e23 e24 e25 e26 e27 e28 e29 e30 d0 d1 d2 d3 d4 d5 d6 d7 d8 d9 d10 d11 d12 d13 d14 d15
  omega
