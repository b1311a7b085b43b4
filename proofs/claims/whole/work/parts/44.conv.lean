/-! The cells in the order in which they are made, and the memory worlds; the memories at the start. -/
def cpos (i : Nat) : Nat := if i < 12 then i else if i < 16 then 12 + 20 * (i - 12) else if i < 20 then 13 + 20 * (i - 16) else if i < 26 then 92 + (i - 20) else if i < 50 then 14 + 20 * ((i - 26) / 6) + 3 * ((i - 26) % 6) else if i < 74 then 15 + 20 * ((i - 50) / 6) + 3 * ((i - 50) % 6) else 16 + 20 * ((i - 74) / 6) + 3 * ((i - 74) % 6)
def cAd (g : Nat → Nat) : Nat → Nat := fun i => g (cpos i)
def sg0 : Mem := fun i => if i = 1 then upd (upd (upd (upd (fun _ => 0) 4 (-1)) 5 (-1)) 6 (-1)) 7 (-1) else if i = 5 then (fun k => [0, -4, -4, 2, -4, -4].getD k 0) else if i < 20 then (fun _ => 0) else if i < 26 then upd (fun _ => 0) 0 (-1) else (fun _ => 0)
def tu0 : Mem := fun i => if i = 0 then upd (upd (upd (fun _ => 0) 12 (-1)) 13 (-1)) 16 (-1) else if i = 1 then upd (upd (upd (upd (fun _ => 0) 0 1) 1 1) 2 1) 3 1 else if i = 9 then upd (upd (upd (upd (upd (upd (fun _ => 0) 0 (-1)) 1 (-1)) 2 (-1)) 3 (-1)) 4 (-1)) 5 (-1) else (fun _ => 0)
theorem sg0_z {i : Nat} (h1 : i ≠ 1) (h5 : i ≠ 5) (h : i < 20 ∨ 26 ≤ i) : sg0 i = fun _ => 0 := by
  unfold sg0
  rw [if_neg h1, if_neg h5]
  by_cases h2 : i < 20
  · rw [if_pos h2]
  · rw [if_neg h2, if_neg (by omega)]
theorem sg0_t {t : Nat} (h : t < 6) : sg0 (20 + t) = upd (fun _ => 0) 0 (-1) := by
  unfold sg0
  rw [if_neg (by omega), if_neg (by omega), if_neg (by omega), if_pos (by omega)]
theorem tu0_z {i : Nat} (h0 : i ≠ 0) (h1 : i ≠ 1) (h9 : i ≠ 9) : tu0 i = fun _ => 0 := by
  unfold tu0
  rw [if_neg h0, if_neg h1, if_neg h9]
theorem cpos_bat {b : Nat} (h : b < 4) : cpos (12 + b) = 12 + 20 * b := by
  unfold cpos
  rw [if_neg (by omega), if_pos (by omega)]; omega
theorem cpos_row {b : Nat} (h : b < 4) : cpos (16 + b) = 13 + 20 * b := by
  unfold cpos
  rw [if_neg (by omega), if_neg (by omega), if_pos (by omega)]; omega
theorem cpos_tool {b : Nat} (h : b < 6) : cpos (20 + b) = 92 + b := by
  unfold cpos
  rw [if_neg (by omega), if_neg (by omega), if_neg (by omega), if_pos (by omega)]; omega
theorem cpos_rnd {b r : Nat} (h : b < 4) (hr : r < 6) : cpos (26 + (6 * b + r)) = 14 + 20 * b + 3 * r := by
  unfold cpos
  rw [if_neg (by omega), if_neg (by omega), if_neg (by omega), if_neg (by omega), if_pos (by omega)]; omega
theorem cpos_kin {b r : Nat} (h : b < 4) (hr : r < 6) : cpos (50 + (6 * b + r)) = 15 + 20 * b + 3 * r := by
  unfold cpos
  rw [if_neg (by omega), if_neg (by omega), if_neg (by omega), if_neg (by omega), if_neg (by omega), if_pos (by omega)]; omega
theorem cpos_num {b r : Nat} (h : b < 4) (hr : r < 6) : cpos (74 + (6 * b + r)) = 16 + 20 * b + 3 * r := by
  unfold cpos
  rw [if_neg (by omega), if_neg (by omega), if_neg (by omega), if_neg (by omega), if_neg (by omega), if_neg (by omega)]; omega
theorem cpos_lt : ∀ i, i < 98 → cpos i < 98 := by decide +kernel
theorem cpos_inj : ∀ i, i < 98 → ∀ j, j < 98 → cpos i = cpos j → i = j := by decide +kernel
theorem at_q {D : va_G} {a N : Nat} {cA : ClassId} {f f2 : Nat → Option Nat} {H : Heap} (hf : ∀ j, j < N → f j = f2 j) (h : va_at D vwCl (a, .inl (cA, N, .inr (.inr (.inr (.inr f))))) H) : va_at D vwCl (a, .inl (cA, N, .inr (.inr (.inr (.inr f2))))) H := by
  have e : vp_cell cA (N, .inr (.inr (.inr (.inr f)))) = vp_cell cA (N, .inr (.inr (.inr (.inr f2)))) := by
    rw [vp_cell_q, vp_cell_q]
    unfold arrV
    congr 1
    apply congrArg
    funext j
    show va_rf (f j.val) = va_rf (f2 j.val)
    rw [hf j.val j.isLt]
  have h : H[a]? = some (vp_cell cA (N, .inr (.inr (.inr (.inr f))))) := h
  rw [e] at h
  exact h
theorem va_P.left {D : va_G} {cl : List vw_C} {X Y : va_W} {H : Heap} (h : va_P D cl (X ++ Y) H) : va_P D cl X H := fun k q hk => h k q (by rw [List.getElem?_append_left (List.getElem?_eq_some_iff.mp hk).1]; exact hk)
theorem va_P.right {D : va_G} {cl : List vw_C} {X Y : va_W} {H : Heap} (h : va_P D cl (X ++ Y) H) : va_P D cl Y H := fun k q hk => h (X.length + k) q (by rw [List.getElem?_append_right (by omega), show X.length + k - X.length = k by omega]; exact hk)
def bcell (D : va_G) (cy : Nat → ClassId) (H : Heap) (gb : Nat → Nat) : Prop := va_at D vwCl (gb 0, .inr (0, [.ref (gb 1), .int 0, .int 0])) H ∧ va_at D vwCl (gb 1, .inl (cy 3, 6, .inr (.inr (.inr (.inr (fun q => some (gb (2 + 3 * q)))))))) H ∧ ∀ r, r < 6 → va_at D vwCl (gb (2 + 3 * r), .inr (2, [.ref (gb (3 + 3 * r)), .ref (gb (4 + 3 * r)), .int 0, .int 0])) H ∧ va_at D vwCl (gb (3 + 3 * r), .inl (cy 0, 8, .inl (fun _ => 0))) H ∧ va_at D vwCl (gb (4 + 3 * r), .inl (cy 0, 8, .inl (fun _ => 0))) H
theorem batch_cells {D : va_G} {cy : Nat → ClassId} {gb : Nat → Nat} {H : Heap} (hP : va_P D vwCl (batchL cy gb) H) : bcell D cy H gb := by
  refine ⟨hP 0 _ rfl, at_q (fun j hj => ?_) (hP 1 _ rfl), fun r hr => ?_⟩
  · match j, hj with
    | 0, _ => rfl
    | 1, _ => rfl
    | 2, _ => rfl
    | 3, _ => rfl
    | 4, _ => rfl
    | 5, _ => rfl
    | n + 6, h => exact absurd h (by omega)
  · match r, hr with
    | 0, _ => exact ⟨hP 2 _ rfl, hP 3 _ rfl, hP 4 _ rfl⟩
    | 1, _ => exact ⟨hP 5 _ rfl, hP 6 _ rfl, hP 7 _ rfl⟩
    | 2, _ => exact ⟨hP 8 _ rfl, hP 9 _ rfl, hP 10 _ rfl⟩
    | 3, _ => exact ⟨hP 11 _ rfl, hP 12 _ rfl, hP 13 _ rfl⟩
    | 4, _ => exact ⟨hP 14 _ rfl, hP 15 _ rfl, hP 16 _ rfl⟩
    | 5, _ => exact ⟨hP 17 _ rfl, hP 18 _ rfl, hP 19 _ rfl⟩
    | n + 6, h => exact absurd h (by omega)
def benchX (cy : Nat → ClassId) (g : Nat → Nat) : va_W := (([(g 0, .inr (5, [.ref (g 1), .ref (g 2), .ref (g 3), .ref (g 4), .ref (g 5), .ref (g 7), .int 0])), (g 1, .inl (cy 0, 8, .inl (upd (upd (upd (upd (fun _ => 0) 4 (-1)) 5 (-1)) 6 (-1)) 7 (-1)))), (g 2, .inl (cy 2, 4, .inr (.inr (.inr (.inr (va_up (va_up (va_up (va_up (fun _ => none) 0 (some (g 12))) 1 (some (g 32))) 2 (some (g 52))) 3 (some (g 72)))))))), (g 3, .inl (cy 4, 6, .inr (.inr (.inr (.inr (va_up (va_up (va_up (va_up (va_up (va_up (fun _ => none) 0 (some (g 92))) 1 (some (g 93))) 2 (some (g 94))) 3 (some (g 95))) 4 (some (g 96))) 5 (some (g 97)))))))), (g 4, .inl (cy 0, 4, .inl (fun _ => 0)))] ++ stockL cy (fun i => g (5 + i))) ++ logL cy (fun i => g (7 + i)))
theorem bench_parts {D : va_G} {cy : Nat → ClassId} {g : Nat → Nat} {H : Heap} (hP : va_P D vwCl (benchL cy g) H) : (∀ t, t < 6 → va_at D vwCl (g (92 + t), .inr (4, [.int (-1), .int 0, .int 0])) H) ∧ (∀ b, b < 4 → bcell D cy H (fun i => g (12 + 20 * b + i))) ∧ ∃ X, va_P D vwCl (benchX cy g) H ∧ X = benchX cy g := by
  have t5 : va_P D vwCl (toolL (fun i => g (97 + i))) H := va_P.right hP
  have hP := va_P.left hP
  have t4 : va_P D vwCl (toolL (fun i => g (96 + i))) H := va_P.right hP
  have hP := va_P.left hP
  have t3 : va_P D vwCl (toolL (fun i => g (95 + i))) H := va_P.right hP
  have hP := va_P.left hP
  have t2 : va_P D vwCl (toolL (fun i => g (94 + i))) H := va_P.right hP
  have hP := va_P.left hP
  have t1 : va_P D vwCl (toolL (fun i => g (93 + i))) H := va_P.right hP
  have hP := va_P.left hP
  have t0 : va_P D vwCl (toolL (fun i => g (92 + i))) H := va_P.right hP
  have hP := va_P.left hP
  have b3 : va_P D vwCl (batchL cy (fun i => g (72 + i))) H := va_P.right hP
  have hP := va_P.left hP
  have b2 : va_P D vwCl (batchL cy (fun i => g (52 + i))) H := va_P.right hP
  have hP := va_P.left hP
  have b1 : va_P D vwCl (batchL cy (fun i => g (32 + i))) H := va_P.right hP
  have hP := va_P.left hP
  have b0 : va_P D vwCl (batchL cy (fun i => g (12 + i))) H := va_P.right hP
  have hP := va_P.left hP
  refine ⟨fun t ht => ?_, fun b hb => ?_, _, hP, rfl⟩
  · match t, ht with
    | 0, _ => exact t0 0 _ rfl
    | 1, _ => exact t1 0 _ rfl
    | 2, _ => exact t2 0 _ rfl
    | 3, _ => exact t3 0 _ rfl
    | 4, _ => exact t4 0 _ rfl
    | 5, _ => exact t5 0 _ rfl
    | n + 6, h => exact absurd h (by omega)
  · match b, hb with
    | 0, _ => exact batch_cells b0
    | 1, _ => exact batch_cells b1
    | 2, _ => exact batch_cells b2
    | 3, _ => exact batch_cells b3
    | n + 4, h => exact absurd h (by omega)
set_option maxHeartbeats 4000000 in
set_option maxRecDepth 100000 in
theorem bench_map (cy : Nat → ClassId) (g : Nat → Nat) : (benchL cy g).map Prod.fst = (List.range 98).map g := rfl
set_option maxHeartbeats 4000000 in
theorem bench_first {D : va_G} {cy : Nat → ClassId} {g : Nat → Nat} {H : Heap} (hP : va_P D vwCl (benchX cy g) H) : ∀ k, k < 12 → va_at D vwCl (cAd g k, cF (cAd g) cy k (sg0 k)) H := by
  intro k hk
  match k, hk with
  | 0, _ => exact hP 0 _ rfl
  | 1, _ => exact hP 1 _ rfl
  | 2, _ => exact at_q (fun j hj => match j, hj with | 0, _ => rfl | 1, _ => rfl | 2, _ => rfl | 3, _ => rfl | n + 4, h => absurd h (by omega)) (hP 2 _ rfl)
  | 3, _ => exact at_q (fun j hj => match j, hj with | 0, _ => rfl | 1, _ => rfl | 2, _ => rfl | 3, _ => rfl | 4, _ => rfl | 5, _ => rfl | n + 6, h => absurd h (by omega)) (hP 3 _ rfl)
  | 4, _ => exact hP 4 _ rfl
  | 5, _ => exact hP 5 _ rfl
  | 6, _ => exact hP 6 _ rfl
  | 7, _ => exact hP 7 _ rfl
  | 8, _ => exact hP 8 _ rfl
  | 9, _ => exact hP 9 _ rfl
  | 10, _ => exact hP 10 _ rfl
  | 11, _ => exact hP 11 _ rfl
  | n + 12, h => exact absurd h (by omega)
set_option maxHeartbeats 4000000 in
theorem bench_cells {D : va_G} {cy : Nat → ClassId} {g : Nat → Nat} {H : Heap} (hP : va_P D vwCl (benchL cy g) H) : ∀ k, k < 98 → va_at D vwCl (cAd g k, cF (cAd g) cy k (sg0 k)) H := by
  obtain ⟨ht, hb, X, hX, -⟩ := bench_parts hP
  intro k hk
  by_cases h1 : k < 12
  · exact bench_first hX k h1
  by_cases h2 : k < 16
  · obtain ⟨b, hb4, rfl⟩ : ∃ b, b < 4 ∧ k = 12 + b := ⟨k - 12, by omega, by omega⟩
    have h := (hb b hb4).1
    rw [cF_bat hb4, sg0_z (by omega) (by omega) (by omega)]
    unfold cAd
    rw [cpos_bat hb4, cpos_row hb4]
    have e : 12 + 20 * b + 1 = 13 + 20 * b := by omega
    rw [← e]
    exact h
  by_cases h3 : k < 20
  · obtain ⟨b, hb4, rfl⟩ : ∃ b, b < 4 ∧ k = 16 + b := ⟨k - 16, by omega, by omega⟩
    have h := (hb b hb4).2.1
    rw [cF_row hb4]
    have e0 : cAd g (16 + b) = g (12 + 20 * b + 1) := by
      unfold cAd
      rw [cpos_row hb4]
      congr 1
      omega
    rw [e0]
    refine at_q (fun j hj => ?_) h
    show some (g (12 + 20 * b + (2 + 3 * j))) = some (g (cpos (26 + (6 * b + j))))
    rw [cpos_rnd hb4 hj]
    congr 2
    omega
  by_cases h4 : k < 26
  · obtain ⟨t, ht6, rfl⟩ : ∃ t, t < 6 ∧ k = 20 + t := ⟨k - 20, by omega, by omega⟩
    have h := ht t ht6
    rw [cF_tool ht6, sg0_t ht6]
    unfold cAd
    rw [cpos_tool ht6]
    exact h
  by_cases h5 : k < 50
  · obtain ⟨b, r, hb4, hr6, rfl⟩ : ∃ b r, b < 4 ∧ r < 6 ∧ k = 26 + (6 * b + r) := ⟨(k - 26) / 6, (k - 26) % 6, by omega, by omega, by omega⟩
    have h := ((hb b hb4).2.2 r hr6).1
    rw [cF_rnd (by omega), sg0_z (by omega) (by omega) (by omega)]
    unfold cAd
    rw [cpos_rnd hb4 hr6, cpos_kin hb4 hr6, cpos_num hb4 hr6]
    have e1 : 14 + 20 * b + 3 * r = 12 + 20 * b + (2 + 3 * r) := by omega
    have e2 : 15 + 20 * b + 3 * r = 12 + 20 * b + (3 + 3 * r) := by omega
    have e3 : 16 + 20 * b + 3 * r = 12 + 20 * b + (4 + 3 * r) := by omega
    rw [e1, e2, e3]
    exact h
  by_cases h6 : k < 74
  · obtain ⟨b, r, hb4, hr6, rfl⟩ : ∃ b r, b < 4 ∧ r < 6 ∧ k = 50 + (6 * b + r) := ⟨(k - 50) / 6, (k - 50) % 6, by omega, by omega, by omega⟩
    have h := ((hb b hb4).2.2 r hr6).2.1
    rw [cF_kin (by omega), sg0_z (by omega) (by omega) (by omega)]
    unfold cAd
    rw [cpos_kin hb4 hr6]
    have e2 : 15 + 20 * b + 3 * r = 12 + 20 * b + (3 + 3 * r) := by omega
    rw [e2]
    exact h
  · obtain ⟨b, r, hb4, hr6, rfl⟩ : ∃ b r, b < 4 ∧ r < 6 ∧ k = 74 + (6 * b + r) := ⟨(k - 74) / 6, (k - 74) % 6, by omega, by omega, by omega⟩
    have h := ((hb b hb4).2.2 r hr6).2.2
    rw [cF_num (by omega), sg0_z (by omega) (by omega) (by omega)]
    unfold cAd
    rw [cpos_num hb4 hr6]
    have e2 : 16 + 20 * b + 3 * r = 12 + 20 * b + (4 + 3 * r) := by omega
    rw [e2]
    exact h
theorem bench_at {cy : Nat → ClassId} {g : Nat → Nat} {i : Nat} (hi : i < 98) : ∃ e, (benchL cy g)[i]? = some (g i, e) := by
  have h := congrArg (fun l => l[i]?) (bench_map cy g)
  simp only [List.getElem?_map, List.getElem?_range hi, Option.map_some] at h
  cases hq : (benchL cy g)[i]? with
  | none => rw [hq] at h; cases h
  | some q =>
    rw [hq] at h
    have h : q.1 = g i := Option.some.inj h
    exact ⟨q.2, by rw [← h]⟩
theorem bench_world {D : va_G} {cy : Nat → ClassId} {g : Nat → Nat} {H : Heap} {A : Nat → Prop} (hP : va_P D vwCl (benchL cy g) H) (hD : va_D A (benchL cy g)) : va_P D vwCl (mW 98 (cAd g) (cF (cAd g) cy) sg0) H ∧ mJ 98 (cAd g) ∧ ∀ q, mA 98 (cAd g) q → A q := by
  refine ⟨fun k x hx => ?_, fun i j hi hj e => ?_, fun q hq => ?_⟩
  · obtain ⟨hk, rfl⟩ := mW_of hx
    exact bench_cells hP k hk
  · obtain ⟨e1, h1⟩ := bench_at (cy := cy) (g := g) (cpos_lt i hi)
    obtain ⟨e2, h2⟩ := bench_at (cy := cy) (g := g) (cpos_lt j hj)
    exact cpos_inj i hi j hj (hD.1 _ _ _ _ h1 h2 e)
  · obtain ⟨i, hi, rfl⟩ := hq
    obtain ⟨e1, h1⟩ := bench_at (cy := cy) (g := g) (cpos_lt i hi)
    exact hD.2 _ _ h1
set_option maxHeartbeats 4000000 in
set_option maxRecDepth 100000 in
theorem model_at (D : va_G) (cy : Nat → ClassId) (g : Nat → Nat) : ∀ i, i < 18 → ∃ e, (modelL cy g)[i]? = some (g i, e) ∧ ∀ H, va_at D vwCl (g i, e) H → va_at D vwCl (g i, mF g cy i (tu0 i)) H := fun i hi => match i, hi with
  | 0, _ => ⟨_, rfl, fun _ h => h⟩
  | 1, _ => ⟨_, rfl, fun _ h => h⟩
  | 2, _ => ⟨_, rfl, fun _ h => h⟩
  | 3, _ => ⟨_, rfl, fun _ h => h⟩
  | 4, _ => ⟨_, rfl, fun _ h => h⟩
  | 5, _ => ⟨_, rfl, fun _ h => h⟩
  | 6, _ => ⟨_, rfl, fun _ h => h⟩
  | 7, _ => ⟨_, rfl, fun _ h => h⟩
  | 8, _ => ⟨_, rfl, fun _ h => h⟩
  | 9, _ => ⟨_, rfl, fun _ h => h⟩
  | 10, _ => ⟨_, rfl, fun _ h => h⟩
  | 11, _ => ⟨_, rfl, fun _ h => h⟩
  | 12, _ => ⟨_, rfl, fun _ h => h⟩
  | 13, _ => ⟨_, rfl, fun _ h => h⟩
  | 14, _ => ⟨_, rfl, fun _ h => h⟩
  | 15, _ => ⟨_, rfl, fun _ h => h⟩
  | 16, _ => ⟨_, rfl, fun _ h => h⟩
  | 17, _ => ⟨_, rfl, fun _ h => h⟩
  | n + 18, h => absurd h (by omega)
theorem model_world {D : va_G} {cy : Nat → ClassId} {g : Nat → Nat} {H : Heap} {A : Nat → Prop} (hP : va_P D vwCl (modelL cy g) H) (hD : va_D A (modelL cy g)) : va_P D vwCl (mW 18 g (mF g cy) tu0) H ∧ mJ 18 g ∧ ∀ q, mA 18 g q → A q := by
  refine ⟨fun k x hx => ?_, fun i j hi hj e => ?_, fun q hq => ?_⟩
  · obtain ⟨hk, rfl⟩ := mW_of hx
    obtain ⟨e, h1, h2⟩ := model_at D cy g k hk
    exact h2 H (hP _ _ h1)
  · obtain ⟨e1, h1, -⟩ := model_at D cy g i hi
    obtain ⟨e2, h2, -⟩ := model_at D cy g j hj
    exact hD.1 _ _ _ _ h1 h2 e
  · obtain ⟨i, hi, rfl⟩ := hq
    obtain ⟨e1, h1, -⟩ := model_at D cy g i hi
    exact hD.2 _ _ h1
