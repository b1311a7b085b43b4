/-! The constructors, each by its bytecode; a part of the lists that they give back. -/
def roundL (cy : Nat → ClassId) (g : Nat → Nat) : va_W := [(g 0, .inr (2, [.ref (g 1), .ref (g 2), .int 0, .int 0])), (g 1, .inl (cy 0, 8, .inl (fun _ => 0))), (g 2, .inl (cy 0, 8, .inl (fun _ => 0)))]
def stockL (cy : Nat → ClassId) (g : Nat → Nat) : va_W := [(g 0, .inr (3, [.ref (g 1), .int (-4), .int (-4), .int 2, .int (-4), .int (-4)])), (g 1, .inl (cy 0, 18, .inl (fun _ => 0)))]
def logL (cy : Nat → ClassId) (g : Nat → Nat) : va_W := [(g 0, .inr (1, [.ref (g 1), .ref (g 2), .int 0, .ref (g 3), .int 0, .ref (g 4), .int 0])), (g 1, .inl (cy 0, 7, .inl (fun _ => 0))), (g 2, .inl (cy 0, 400, .inl (fun _ => 0))), (g 3, .inl (cy 0, 24, .inl (fun _ => 0))), (g 4, .inl (cy 0, 4, .inl (fun _ => 0)))]
def toolL (g : Nat → Nat) : va_W := [(g 0, .inr (4, [.int (-1), .int 0, .int 0]))]
def batchL (cy : Nat → ClassId) (g : Nat → Nat) : va_W := [(g 0, .inr (0, [.ref (g 1), .int 0, .int 0])), (g 1, .inl (cy 3, 6, .inr (.inr (.inr (.inr (va_up (va_up (va_up (va_up (va_up (va_up (fun _ => none) 0 (some (g 2))) 1 (some (g 5))) 2 (some (g 8))) 3 (some (g 11))) 4 (some (g 14))) 5 (some (g 17)))))))), (g 2, .inr (2, [.ref (g 3), .ref (g 4), .int 0, .int 0])), (g 3, .inl (cy 0, 8, .inl (fun _ => 0))), (g 4, .inl (cy 0, 8, .inl (fun _ => 0))), (g 5, .inr (2, [.ref (g 6), .ref (g 7), .int 0, .int 0])), (g 6, .inl (cy 0, 8, .inl (fun _ => 0))), (g 7, .inl (cy 0, 8, .inl (fun _ => 0))), (g 8, .inr (2, [.ref (g 9), .ref (g 10), .int 0, .int 0])), (g 9, .inl (cy 0, 8, .inl (fun _ => 0))), (g 10, .inl (cy 0, 8, .inl (fun _ => 0))), (g 11, .inr (2, [.ref (g 12), .ref (g 13), .int 0, .int 0])), (g 12, .inl (cy 0, 8, .inl (fun _ => 0))), (g 13, .inl (cy 0, 8, .inl (fun _ => 0))), (g 14, .inr (2, [.ref (g 15), .ref (g 16), .int 0, .int 0])), (g 15, .inl (cy 0, 8, .inl (fun _ => 0))), (g 16, .inl (cy 0, 8, .inl (fun _ => 0))), (g 17, .inr (2, [.ref (g 18), .ref (g 19), .int 0, .int 0])), (g 18, .inl (cy 0, 8, .inl (fun _ => 0))), (g 19, .inl (cy 0, 8, .inl (fun _ => 0)))]
def benchL (cy : Nat → ClassId) (g : Nat → Nat) : va_W := (((((((((((([(g 0, .inr (5, [.ref (g 1), .ref (g 2), .ref (g 3), .ref (g 4), .ref (g 5), .ref (g 7), .int 0])), (g 1, .inl (cy 0, 8, .inl (upd (upd (upd (upd (fun _ => 0) 4 (-1)) 5 (-1)) 6 (-1)) 7 (-1)))), (g 2, .inl (cy 2, 4, .inr (.inr (.inr (.inr (va_up (va_up (va_up (va_up (fun _ => none) 0 (some (g 12))) 1 (some (g 32))) 2 (some (g 52))) 3 (some (g 72)))))))), (g 3, .inl (cy 4, 6, .inr (.inr (.inr (.inr (va_up (va_up (va_up (va_up (va_up (va_up (fun _ => none) 0 (some (g 92))) 1 (some (g 93))) 2 (some (g 94))) 3 (some (g 95))) 4 (some (g 96))) 5 (some (g 97)))))))), (g 4, .inl (cy 0, 4, .inl (fun _ => 0)))] ++ stockL cy (fun i => g (5 + i))) ++ logL cy (fun i => g (7 + i))) ++ batchL cy (fun i => g (12 + i))) ++ batchL cy (fun i => g (32 + i))) ++ batchL cy (fun i => g (52 + i))) ++ batchL cy (fun i => g (72 + i))) ++ toolL (fun i => g (92 + i))) ++ toolL (fun i => g (93 + i))) ++ toolL (fun i => g (94 + i))) ++ toolL (fun i => g (95 + i))) ++ toolL (fun i => g (96 + i))) ++ toolL (fun i => g (97 + i)))
def modelL (cy : Nat → ClassId) (g : Nat → Nat) : va_W := [(g 0, .inr (6, [.int 0, .ref (g 1), .ref (g 2), .ref (g 3), .ref (g 4), .ref (g 5), .ref (g 6), .ref (g 7), .ref (g 8), .ref (g 9), .ref (g 10), .ref (g 11), .int (-1), .int (-1), .int 0, .ref (g 12), .int (-1), .int 0, .ref (g 13), .ref (g 14), .ref (g 15), .ref (g 16), .ref (g 17), .int 0, .int 0, .int 0, .int 0, .int 0])), (g 1, .inl (cy 1, 8, .inl (upd (upd (upd (upd (fun _ => 0) 0 1) 1 1) 2 1) 3 1))), (g 2, .inl (cy 0, 8, .inl (fun _ => 0))), (g 3, .inl (cy 0, 4, .inl (fun _ => 0))), (g 4, .inl (cy 0, 4, .inl (fun _ => 0))), (g 5, .inl (cy 0, 24, .inl (fun _ => 0))), (g 6, .inl (cy 0, 24, .inl (fun _ => 0))), (g 7, .inl (cy 0, 192, .inl (fun _ => 0))), (g 8, .inl (cy 0, 192, .inl (fun _ => 0))), (g 9, .inl (cy 0, 6, .inl (upd (upd (upd (upd (upd (upd (fun _ => 0) 0 (-1)) 1 (-1)) 2 (-1)) 3 (-1)) 4 (-1)) 5 (-1)))), (g 10, .inl (cy 0, 6, .inl (fun _ => 0))), (g 11, .inl (cy 0, 6, .inl (fun _ => 0))), (g 12, .inl (cy 0, 20, .inl (fun _ => 0))), (g 13, .inl (cy 0, 4, .inl (fun _ => 0))), (g 14, .inl (cy 0, 8, .inl (fun _ => 0))), (g 15, .inl (cy 0, 400, .inl (fun _ => 0))), (g 16, .inl (cy 0, 24, .inl (fun _ => 0))), (g 17, .inl (cy 0, 5, .inl (fun _ => 0)))]
theorem dfX0 : ∀ j, j < 3 → defaultValue (tyX0 j) = vp_V [.null, .int 0, .int 0] j := fun j hj => match j, hj with
  | 0, _ => rfl
  | 1, _ => rfl
  | 2, _ => rfl
  | n + 3, h => absurd h (by omega)
theorem dfX1 : ∀ j, j < 7 → defaultValue (tyX1 j) = vp_V [.null, .null, .int 0, .null, .int 0, .null, .int 0] j := fun j hj => match j, hj with
  | 0, _ => rfl
  | 1, _ => rfl
  | 2, _ => rfl
  | 3, _ => rfl
  | 4, _ => rfl
  | 5, _ => rfl
  | 6, _ => rfl
  | n + 7, h => absurd h (by omega)
theorem dfX2 : ∀ j, j < 4 → defaultValue (tyX2 j) = vp_V [.null, .null, .int 0, .int 0] j := fun j hj => match j, hj with
  | 0, _ => rfl
  | 1, _ => rfl
  | 2, _ => rfl
  | 3, _ => rfl
  | n + 4, h => absurd h (by omega)
theorem dfX3 : ∀ j, j < 6 → defaultValue (tyX3 j) = vp_V [.null, .int 0, .int 0, .int 0, .int 0, .int 0] j := fun j hj => match j, hj with
  | 0, _ => rfl
  | 1, _ => rfl
  | 2, _ => rfl
  | 3, _ => rfl
  | 4, _ => rfl
  | 5, _ => rfl
  | n + 6, h => absurd h (by omega)
theorem dfX4 : ∀ j, j < 3 → defaultValue (tyX4 j) = vp_V [.int 0, .int 0, .int 0] j := fun j hj => match j, hj with
  | 0, _ => rfl
  | 1, _ => rfl
  | 2, _ => rfl
  | n + 3, h => absurd h (by omega)
theorem dfX6 : ∀ j, j < 7 → defaultValue (tyX6 j) = vp_V [.null, .null, .null, .null, .null, .null, .int 0] j := fun j hj => match j, hj with
  | 0, _ => rfl
  | 1, _ => rfl
  | 2, _ => rfl
  | 3, _ => rfl
  | 4, _ => rfl
  | 5, _ => rfl
  | 6, _ => rfl
  | n + 7, h => absurd h (by omega)
theorem dfX7 : ∀ j, j < 28 → defaultValue (tyX7 j) = vp_V [.int 0, .null, .null, .null, .null, .null, .null, .null, .null, .null, .null, .null, .int 0, .int 0, .int 0, .null, .int 0, .int 0, .null, .null, .null, .null, .null, .int 0, .int 0, .int 0, .int 0, .int 0] j := fun j hj => match j, hj with
  | 0, _ => rfl
  | 1, _ => rfl
  | 2, _ => rfl
  | 3, _ => rfl
  | 4, _ => rfl
  | 5, _ => rfl
  | 6, _ => rfl
  | 7, _ => rfl
  | 8, _ => rfl
  | 9, _ => rfl
  | 10, _ => rfl
  | 11, _ => rfl
  | 12, _ => rfl
  | 13, _ => rfl
  | 14, _ => rfl
  | 15, _ => rfl
  | 16, _ => rfl
  | 17, _ => rfl
  | 18, _ => rfl
  | 19, _ => rfl
  | 20, _ => rfl
  | 21, _ => rfl
  | 22, _ => rfl
  | 23, _ => rfl
  | 24, _ => rfl
  | 25, _ => rfl
  | 26, _ => rfl
  | 27, _ => rfl
  | n + 28, h => absurd h (by omega)
set_option maxHeartbeats 4000000 in
set_option maxRecDepth 100000 in
theorem k_X2_init (l : Launch) (D : va_G) (cy : Nat → ClassId) (h0 sz : Nat) : Met l yX2_init wsX2_init ({ frames := 1, cells := 2, slots := 16, locals := 12 }) (va_Pc [.ref h0] (kPre D cy h0 (.inr (2, [.null, .null, .int 0, .int 0])) sz)) (kQ D h0 (.inr (2, [.null, .null, .int 0, .int 0])) sz (roundL cy)) 2 16 (va_A [(h0, .inr (2, [.null, .null, .int 0, .int 0]))] sz) := by
  refine k_met (cc := cX2_init) (maxL := 1) (by decide) rfl rfl (Nat.le_of_ble_eq_true rfl) ?_
  intro p e s m below meth c S hr hlocks hin hsz hP hK hX hD hA ls hl
  obtain ⟨hx, hb, hml, hown, hts⟩ := S
  have hS : va_S (va_A [(h0, .inr (2, [.null, .null, .int 0, .int 0]))] sz) s.heap s.heap [] := va_S.rf
  have kaint : (Cond.arrayClass .int).before #[Value.ref h0] s = true := hts _ (by decide +kernel)
  have kf9 : (Cond.fieldLink RX2 9 "BenchRuns$Round" "kinds" "[I").before #[Value.ref h0] s = true := hts _ (by decide +kernel)
  have hinX2 : ∀ w ∈ u_ws RX2 TX2 4, w ∈ wsX2_init := by decide +kernel
  have kf15 : (Cond.fieldLink RX2 15 "BenchRuns$Round" "numbers" "[I").before #[Value.ref h0] s = true := hts _ (by decide +kernel)
  have kf18 : (Cond.fieldLink RX2 18 "BenchRuns$Round" "stepCount" "I").before #[Value.ref h0] s = true := hts _ (by decide +kernel)
  have kf22 : (Cond.fieldLink RX2 22 "BenchRuns$Round" "vial" "I").before #[Value.ref h0] s = true := hts _ (by decide +kernel)
  refine lv_aload_n hx hb dX2_init_0 rfl (lv_at hl 0 rfl) ?_
  refine W.objInit hx hb hown (hts (.methodLink RX2 3 objectInit) (by decide +kernel)) (hts (.instanceMethod objectInit) (by decide +kernel)) (hts _ (List.mem_of_getElem? (i := 3) rfl)) rfl (by rw [hml]; exact hl.1) rfl dX2_init_1 (Nat.le_of_ble_eq_true rfl) (Nat.le_of_ble_eq_true rfl) ?_
  refine W.eq (g2 := F0 m 4 ls []) rfl ?_
  refine lv_aload_n hx hb dX2_init_4 rfl (lv_at hl 0 rfl) ?_
  refine lv_bipush (v := 8) hx hb dX2_init_5 (by decide) ?_
  refine k_newI hx hb kaint hK hP hD hS hA 0 rfl 8 (by decide) (by decide) (by decide) 1 8 rfl rfl (Nat.le_of_ble_eq_true rfl) (Nat.le_of_ble_eq_true rfl) dX2_init_7 (fun q1 H hP hD hS => ?_)
  have hP : va_P D vwCl ([(h0, .inr (2, [.null, .null, .int 0, .int 0])), (q1, .inl (cy 0, 8, .inl (fun _ => 0)))]) H := hP
  have hD : va_D (va_A [(h0, .inr (2, [.null, .null, .int 0, .int 0]))] sz) ([(h0, .inr (2, [.null, .null, .int 0, .int 0])), (q1, .inl (cy 0, 8, .inl (fun _ => 0)))]) := hD
  refine va_putF (D := D) (ci := 2) (v := .ref q1) (ty := tyX2 0) (C := RX2) (T := TX2) (N := 4) hx hb hts hinX2 tyX2 tyX2_ok nmX2 hown hK hP hD hS 0 rfl rfl 0 (by decide) kf9 (fun _ h9 => h9) rfl hin rfl (tyX2_ok 0 (by decide)) rfl rfl (Nat.le_of_ble_eq_true rfl) dX2_init_9 (fun H locs hP hD hS => ?_)
  have hP : va_P D vwCl ([(h0, .inr (2, [.ref q1, .null, .int 0, .int 0])), (q1, .inl (cy 0, 8, .inl (fun _ => 0)))]) H := hP
  have hD : va_D (va_A [(h0, .inr (2, [.null, .null, .int 0, .int 0]))] sz) ([(h0, .inr (2, [.ref q1, .null, .int 0, .int 0])), (q1, .inl (cy 0, 8, .inl (fun _ => 0)))]) := hD
  refine lv_aload_n hx hb dX2_init_12 rfl (lv_at hl 0 rfl) ?_
  refine lv_bipush (v := 8) hx hb dX2_init_13 (by decide) ?_
  refine k_newI hx hb kaint hK hP hD hS hA 0 rfl 8 (by decide) (by decide) (by decide) 2 16 rfl rfl (Nat.le_of_ble_eq_true rfl) (Nat.le_of_ble_eq_true rfl) dX2_init_15 (fun q2 H hP hD hS => ?_)
  have hP : va_P D vwCl ([(h0, .inr (2, [.ref q1, .null, .int 0, .int 0])), (q1, .inl (cy 0, 8, .inl (fun _ => 0))), (q2, .inl (cy 0, 8, .inl (fun _ => 0)))]) H := hP
  have hD : va_D (va_A [(h0, .inr (2, [.null, .null, .int 0, .int 0]))] sz) ([(h0, .inr (2, [.ref q1, .null, .int 0, .int 0])), (q1, .inl (cy 0, 8, .inl (fun _ => 0))), (q2, .inl (cy 0, 8, .inl (fun _ => 0)))]) := hD
  refine va_putF (D := D) (ci := 2) (v := .ref q2) (ty := tyX2 1) (C := RX2) (T := TX2) (N := 4) hx hb hts hinX2 tyX2 tyX2_ok nmX2 hown hK hP hD hS 0 rfl rfl 1 (by decide) kf15 (fun _ h9 => h9) rfl hin rfl (tyX2_ok 1 (by decide)) rfl rfl (Nat.le_of_ble_eq_true rfl) dX2_init_17 (fun H locs hP hD hS => ?_)
  have hP : va_P D vwCl ([(h0, .inr (2, [.ref q1, .ref q2, .int 0, .int 0])), (q1, .inl (cy 0, 8, .inl (fun _ => 0))), (q2, .inl (cy 0, 8, .inl (fun _ => 0)))]) H := hP
  have hD : va_D (va_A [(h0, .inr (2, [.null, .null, .int 0, .int 0]))] sz) ([(h0, .inr (2, [.ref q1, .ref q2, .int 0, .int 0])), (q1, .inl (cy 0, 8, .inl (fun _ => 0))), (q2, .inl (cy 0, 8, .inl (fun _ => 0)))]) := hD
  refine lv_aload_n hx hb dX2_init_20 rfl (lv_at hl 0 rfl) ?_
  refine lv_iconst (v := 0) hx hb dX2_init_21 (by decide) ?_
  refine va_put (D := D) (ci := 2) (v := .int 0) (ty := tyX2 2) (C := RX2) (T := TX2) (N := 4) hx hb hts hinX2 tyX2 tyX2_ok nmX2 hown hK hP hD hS 0 rfl rfl 2 (by decide) kf18 (fun _ h9 => h9) rfl (tyX2_ok 2 (by decide)) rfl rfl (Nat.le_of_ble_eq_true rfl) dX2_init_22 (fun H locs hP hD hS => ?_)
  have hP : va_P D vwCl ([(h0, .inr (2, [.ref q1, .ref q2, .int 0, .int 0])), (q1, .inl (cy 0, 8, .inl (fun _ => 0))), (q2, .inl (cy 0, 8, .inl (fun _ => 0)))]) H := hP
  have hD : va_D (va_A [(h0, .inr (2, [.null, .null, .int 0, .int 0]))] sz) ([(h0, .inr (2, [.ref q1, .ref q2, .int 0, .int 0])), (q1, .inl (cy 0, 8, .inl (fun _ => 0))), (q2, .inl (cy 0, 8, .inl (fun _ => 0)))]) := hD
  refine lv_aload_n hx hb dX2_init_25 rfl (lv_at hl 0 rfl) ?_
  refine lv_iconst (v := 0) hx hb dX2_init_26 (by decide) ?_
  refine va_put (D := D) (ci := 2) (v := .int 0) (ty := tyX2 3) (C := RX2) (T := TX2) (N := 4) hx hb hts hinX2 tyX2 tyX2_ok nmX2 hown hK hP hD hS 0 rfl rfl 3 (by decide) kf22 (fun _ h9 => h9) rfl (tyX2_ok 3 (by decide)) rfl rfl (Nat.le_of_ble_eq_true rfl) dX2_init_27 (fun H locs hP hD hS => ?_)
  have hP : va_P D vwCl ([(h0, .inr (2, [.ref q1, .ref q2, .int 0, .int 0])), (q1, .inl (cy 0, 8, .inl (fun _ => 0))), (q2, .inl (cy 0, 8, .inl (fun _ => 0)))]) H := hP
  have hD : va_D (va_A [(h0, .inr (2, [.null, .null, .int 0, .int 0]))] sz) ([(h0, .inr (2, [.ref q1, .ref q2, .int 0, .int 0])), (q1, .inl (cy 0, 8, .inl (fun _ => 0))), (q2, .inl (cy 0, 8, .inl (fun _ => 0)))]) := hD
  exact k_ret (L := roundL cy) (fun i => [h0, q1, q2].getD i 0) hx hb hr hlocks rfl hP hD hS dX2_init_30
set_option maxHeartbeats 4000000 in
set_option maxRecDepth 100000 in
theorem k_X4_init (l : Launch) (D : va_G) (cy : Nat → ClassId) (h0 sz : Nat) : Met l yX4_init wsX4_init ({ frames := 1, cells := 0, slots := 0, locals := 12 }) (va_Pc [.ref h0] (kPre D cy h0 (.inr (4, [.int 0, .int 0, .int 0])) sz)) (kQ D h0 (.inr (4, [.int 0, .int 0, .int 0])) sz (toolL)) 0 0 (va_A [(h0, .inr (4, [.int 0, .int 0, .int 0]))] sz) := by
  refine k_met (cc := cX4_init) (maxL := 1) (by decide) rfl rfl (Nat.le_of_ble_eq_true rfl) ?_
  intro p e s m below meth c S hr hlocks hin hsz hP hK hX hD hA ls hl
  obtain ⟨hx, hb, hml, hown, hts⟩ := S
  have hS : va_S (va_A [(h0, .inr (4, [.int 0, .int 0, .int 0]))] sz) s.heap s.heap [] := va_S.rf
  have kf9 : (Cond.fieldLink RX4 9 "BenchRuns$Tool" "sort" "I").before #[Value.ref h0] s = true := hts _ (by decide +kernel)
  have hinX4 : ∀ w ∈ u_ws RX4 TX4 3, w ∈ wsX4_init := by decide +kernel
  have kf15 : (Cond.fieldLink RX4 15 "BenchRuns$Tool" "uses" "I").before #[Value.ref h0] s = true := hts _ (by decide +kernel)
  have kf18 : (Cond.fieldLink RX4 18 "BenchRuns$Tool" "grip" "I").before #[Value.ref h0] s = true := hts _ (by decide +kernel)
  refine lv_aload_n hx hb dX4_init_0 rfl (lv_at hl 0 rfl) ?_
  refine W.objInit hx hb hown (hts (.methodLink RX4 3 objectInit) (by decide +kernel)) (hts (.instanceMethod objectInit) (by decide +kernel)) (hts _ (List.mem_of_getElem? (i := 3) rfl)) rfl (by rw [hml]; exact hl.1) rfl dX4_init_1 (Nat.le_of_ble_eq_true rfl) (Nat.le_of_ble_eq_true rfl) ?_
  refine W.eq (g2 := F0 m 4 ls []) rfl ?_
  refine lv_aload_n hx hb dX4_init_4 rfl (lv_at hl 0 rfl) ?_
  refine lv_iconst (v := (-1)) hx hb dX4_init_5 (by decide) ?_
  refine va_put (D := D) (ci := 4) (v := .int (-1)) (ty := tyX4 0) (C := RX4) (T := TX4) (N := 3) hx hb hts hinX4 tyX4 tyX4_ok nmX4 hown hK hP hD hS 0 rfl rfl 0 (by decide) kf9 (fun _ h9 => h9) rfl (tyX4_ok 0 (by decide)) rfl rfl (Nat.le_of_ble_eq_true rfl) dX4_init_6 (fun H locs hP hD hS => ?_)
  have hP : va_P D vwCl ([(h0, .inr (4, [.int (-1), .int 0, .int 0]))]) H := hP
  have hD : va_D (va_A [(h0, .inr (4, [.int 0, .int 0, .int 0]))] sz) ([(h0, .inr (4, [.int (-1), .int 0, .int 0]))]) := hD
  refine lv_aload_n hx hb dX4_init_9 rfl (lv_at hl 0 rfl) ?_
  refine lv_iconst (v := 0) hx hb dX4_init_10 (by decide) ?_
  refine va_put (D := D) (ci := 4) (v := .int 0) (ty := tyX4 1) (C := RX4) (T := TX4) (N := 3) hx hb hts hinX4 tyX4 tyX4_ok nmX4 hown hK hP hD hS 0 rfl rfl 1 (by decide) kf15 (fun _ h9 => h9) rfl (tyX4_ok 1 (by decide)) rfl rfl (Nat.le_of_ble_eq_true rfl) dX4_init_11 (fun H locs hP hD hS => ?_)
  have hP : va_P D vwCl ([(h0, .inr (4, [.int (-1), .int 0, .int 0]))]) H := hP
  have hD : va_D (va_A [(h0, .inr (4, [.int 0, .int 0, .int 0]))] sz) ([(h0, .inr (4, [.int (-1), .int 0, .int 0]))]) := hD
  refine lv_aload_n hx hb dX4_init_14 rfl (lv_at hl 0 rfl) ?_
  refine lv_iconst (v := 0) hx hb dX4_init_15 (by decide) ?_
  refine va_put (D := D) (ci := 4) (v := .int 0) (ty := tyX4 2) (C := RX4) (T := TX4) (N := 3) hx hb hts hinX4 tyX4 tyX4_ok nmX4 hown hK hP hD hS 0 rfl rfl 2 (by decide) kf18 (fun _ h9 => h9) rfl (tyX4_ok 2 (by decide)) rfl rfl (Nat.le_of_ble_eq_true rfl) dX4_init_16 (fun H locs hP hD hS => ?_)
  have hP : va_P D vwCl ([(h0, .inr (4, [.int (-1), .int 0, .int 0]))]) H := hP
  have hD : va_D (va_A [(h0, .inr (4, [.int 0, .int 0, .int 0]))] sz) ([(h0, .inr (4, [.int (-1), .int 0, .int 0]))]) := hD
  exact k_ret (L := toolL) (fun i => [h0].getD i 0) hx hb hr hlocks rfl hP hD hS dX4_init_19
set_option maxHeartbeats 4000000 in
set_option maxRecDepth 100000 in
theorem k_X3_init (l : Launch) (D : va_G) (cy : Nat → ClassId) (h0 sz : Nat) : Met l yX3_init wsX3_init ({ frames := 1, cells := 1, slots := 18, locals := 12 }) (va_Pc [.ref h0] (kPre D cy h0 (.inr (3, [.null, .int 0, .int 0, .int 0, .int 0, .int 0])) sz)) (kQ D h0 (.inr (3, [.null, .int 0, .int 0, .int 0, .int 0, .int 0])) sz (stockL cy)) 1 18 (va_A [(h0, .inr (3, [.null, .int 0, .int 0, .int 0, .int 0, .int 0]))] sz) := by
  refine k_met (cc := cX3_init) (maxL := 1) (by decide) rfl rfl (Nat.le_of_ble_eq_true rfl) ?_
  intro p e s m below meth c S hr hlocks hin hsz hP hK hX hD hA ls hl
  obtain ⟨hx, hb, hml, hown, hts⟩ := S
  have hS : va_S (va_A [(h0, .inr (3, [.null, .int 0, .int 0, .int 0, .int 0, .int 0]))] sz) s.heap s.heap [] := va_S.rf
  have kaint : (Cond.arrayClass .int).before #[Value.ref h0] s = true := hts _ (by decide +kernel)
  have kf9 : (Cond.fieldLink RX3 9 "BenchRuns$Stock" "boxTools" "[I").before #[Value.ref h0] s = true := hts _ (by decide +kernel)
  have hinX3 : ∀ w ∈ u_ws RX3 TX3 6, w ∈ wsX3_init := by decide +kernel
  have kf15 : (Cond.fieldLink RX3 15 "BenchRuns$Stock" "rackSize" "I").before #[Value.ref h0] s = true := hts _ (by decide +kernel)
  have kf19 : (Cond.fieldLink RX3 19 "BenchRuns$Stock" "boxSize" "I").before #[Value.ref h0] s = true := hts _ (by decide +kernel)
  have kf22 : (Cond.fieldLink RX3 22 "BenchRuns$Stock" "boxSort" "I").before #[Value.ref h0] s = true := hts _ (by decide +kernel)
  have kf25 : (Cond.fieldLink RX3 25 "BenchRuns$Stock" "gridRows" "I").before #[Value.ref h0] s = true := hts _ (by decide +kernel)
  have kf28 : (Cond.fieldLink RX3 28 "BenchRuns$Stock" "gridRowSize" "I").before #[Value.ref h0] s = true := hts _ (by decide +kernel)
  refine lv_aload_n hx hb dX3_init_0 rfl (lv_at hl 0 rfl) ?_
  refine W.objInit hx hb hown (hts (.methodLink RX3 3 objectInit) (by decide +kernel)) (hts (.instanceMethod objectInit) (by decide +kernel)) (hts _ (List.mem_of_getElem? (i := 3) rfl)) rfl (by rw [hml]; exact hl.1) rfl dX3_init_1 (Nat.le_of_ble_eq_true rfl) (Nat.le_of_ble_eq_true rfl) ?_
  refine W.eq (g2 := F0 m 4 ls []) rfl ?_
  refine lv_aload_n hx hb dX3_init_4 rfl (lv_at hl 0 rfl) ?_
  refine lv_bipush (v := 18) hx hb dX3_init_5 (by decide) ?_
  refine k_newI hx hb kaint hK hP hD hS hA 0 rfl 18 (by decide) (by decide) (by decide) 1 18 rfl rfl (Nat.le_of_ble_eq_true rfl) (Nat.le_of_ble_eq_true rfl) dX3_init_7 (fun q1 H hP hD hS => ?_)
  have hP : va_P D vwCl ([(h0, .inr (3, [.null, .int 0, .int 0, .int 0, .int 0, .int 0])), (q1, .inl (cy 0, 18, .inl (fun _ => 0)))]) H := hP
  have hD : va_D (va_A [(h0, .inr (3, [.null, .int 0, .int 0, .int 0, .int 0, .int 0]))] sz) ([(h0, .inr (3, [.null, .int 0, .int 0, .int 0, .int 0, .int 0])), (q1, .inl (cy 0, 18, .inl (fun _ => 0)))]) := hD
  refine va_putF (D := D) (ci := 3) (v := .ref q1) (ty := tyX3 0) (C := RX3) (T := TX3) (N := 6) hx hb hts hinX3 tyX3 tyX3_ok nmX3 hown hK hP hD hS 0 rfl rfl 0 (by decide) kf9 (fun _ h9 => h9) rfl hin rfl (tyX3_ok 0 (by decide)) rfl rfl (Nat.le_of_ble_eq_true rfl) dX3_init_9 (fun H locs hP hD hS => ?_)
  have hP : va_P D vwCl ([(h0, .inr (3, [.ref q1, .int 0, .int 0, .int 0, .int 0, .int 0])), (q1, .inl (cy 0, 18, .inl (fun _ => 0)))]) H := hP
  have hD : va_D (va_A [(h0, .inr (3, [.null, .int 0, .int 0, .int 0, .int 0, .int 0]))] sz) ([(h0, .inr (3, [.ref q1, .int 0, .int 0, .int 0, .int 0, .int 0])), (q1, .inl (cy 0, 18, .inl (fun _ => 0)))]) := hD
  refine lv_aload_n hx hb dX3_init_12 rfl (lv_at hl 0 rfl) ?_
  refine lv_bipush (v := (-4)) hx hb dX3_init_13 (by decide) ?_
  refine va_put (D := D) (ci := 3) (v := .int (-4)) (ty := tyX3 1) (C := RX3) (T := TX3) (N := 6) hx hb hts hinX3 tyX3 tyX3_ok nmX3 hown hK hP hD hS 0 rfl rfl 1 (by decide) kf15 (fun _ h9 => h9) rfl (tyX3_ok 1 (by decide)) rfl rfl (Nat.le_of_ble_eq_true rfl) dX3_init_15 (fun H locs hP hD hS => ?_)
  have hP : va_P D vwCl ([(h0, .inr (3, [.ref q1, .int (-4), .int 0, .int 0, .int 0, .int 0])), (q1, .inl (cy 0, 18, .inl (fun _ => 0)))]) H := hP
  have hD : va_D (va_A [(h0, .inr (3, [.null, .int 0, .int 0, .int 0, .int 0, .int 0]))] sz) ([(h0, .inr (3, [.ref q1, .int (-4), .int 0, .int 0, .int 0, .int 0])), (q1, .inl (cy 0, 18, .inl (fun _ => 0)))]) := hD
  refine lv_aload_n hx hb dX3_init_18 rfl (lv_at hl 0 rfl) ?_
  refine lv_bipush (v := (-4)) hx hb dX3_init_19 (by decide) ?_
  refine va_put (D := D) (ci := 3) (v := .int (-4)) (ty := tyX3 2) (C := RX3) (T := TX3) (N := 6) hx hb hts hinX3 tyX3 tyX3_ok nmX3 hown hK hP hD hS 0 rfl rfl 2 (by decide) kf19 (fun _ h9 => h9) rfl (tyX3_ok 2 (by decide)) rfl rfl (Nat.le_of_ble_eq_true rfl) dX3_init_21 (fun H locs hP hD hS => ?_)
  have hP : va_P D vwCl ([(h0, .inr (3, [.ref q1, .int (-4), .int (-4), .int 0, .int 0, .int 0])), (q1, .inl (cy 0, 18, .inl (fun _ => 0)))]) H := hP
  have hD : va_D (va_A [(h0, .inr (3, [.null, .int 0, .int 0, .int 0, .int 0, .int 0]))] sz) ([(h0, .inr (3, [.ref q1, .int (-4), .int (-4), .int 0, .int 0, .int 0])), (q1, .inl (cy 0, 18, .inl (fun _ => 0)))]) := hD
  refine lv_aload_n hx hb dX3_init_24 rfl (lv_at hl 0 rfl) ?_
  refine lv_iconst (v := 2) hx hb dX3_init_25 (by decide) ?_
  refine va_put (D := D) (ci := 3) (v := .int 2) (ty := tyX3 3) (C := RX3) (T := TX3) (N := 6) hx hb hts hinX3 tyX3 tyX3_ok nmX3 hown hK hP hD hS 0 rfl rfl 3 (by decide) kf22 (fun _ h9 => h9) rfl (tyX3_ok 3 (by decide)) rfl rfl (Nat.le_of_ble_eq_true rfl) dX3_init_26 (fun H locs hP hD hS => ?_)
  have hP : va_P D vwCl ([(h0, .inr (3, [.ref q1, .int (-4), .int (-4), .int 2, .int 0, .int 0])), (q1, .inl (cy 0, 18, .inl (fun _ => 0)))]) H := hP
  have hD : va_D (va_A [(h0, .inr (3, [.null, .int 0, .int 0, .int 0, .int 0, .int 0]))] sz) ([(h0, .inr (3, [.ref q1, .int (-4), .int (-4), .int 2, .int 0, .int 0])), (q1, .inl (cy 0, 18, .inl (fun _ => 0)))]) := hD
  refine lv_aload_n hx hb dX3_init_29 rfl (lv_at hl 0 rfl) ?_
  refine lv_bipush (v := (-4)) hx hb dX3_init_30 (by decide) ?_
  refine va_put (D := D) (ci := 3) (v := .int (-4)) (ty := tyX3 4) (C := RX3) (T := TX3) (N := 6) hx hb hts hinX3 tyX3 tyX3_ok nmX3 hown hK hP hD hS 0 rfl rfl 4 (by decide) kf25 (fun _ h9 => h9) rfl (tyX3_ok 4 (by decide)) rfl rfl (Nat.le_of_ble_eq_true rfl) dX3_init_32 (fun H locs hP hD hS => ?_)
  have hP : va_P D vwCl ([(h0, .inr (3, [.ref q1, .int (-4), .int (-4), .int 2, .int (-4), .int 0])), (q1, .inl (cy 0, 18, .inl (fun _ => 0)))]) H := hP
  have hD : va_D (va_A [(h0, .inr (3, [.null, .int 0, .int 0, .int 0, .int 0, .int 0]))] sz) ([(h0, .inr (3, [.ref q1, .int (-4), .int (-4), .int 2, .int (-4), .int 0])), (q1, .inl (cy 0, 18, .inl (fun _ => 0)))]) := hD
  refine lv_aload_n hx hb dX3_init_35 rfl (lv_at hl 0 rfl) ?_
  refine lv_bipush (v := (-4)) hx hb dX3_init_36 (by decide) ?_
  refine va_put (D := D) (ci := 3) (v := .int (-4)) (ty := tyX3 5) (C := RX3) (T := TX3) (N := 6) hx hb hts hinX3 tyX3 tyX3_ok nmX3 hown hK hP hD hS 0 rfl rfl 5 (by decide) kf28 (fun _ h9 => h9) rfl (tyX3_ok 5 (by decide)) rfl rfl (Nat.le_of_ble_eq_true rfl) dX3_init_38 (fun H locs hP hD hS => ?_)
  have hP : va_P D vwCl ([(h0, .inr (3, [.ref q1, .int (-4), .int (-4), .int 2, .int (-4), .int (-4)])), (q1, .inl (cy 0, 18, .inl (fun _ => 0)))]) H := hP
  have hD : va_D (va_A [(h0, .inr (3, [.null, .int 0, .int 0, .int 0, .int 0, .int 0]))] sz) ([(h0, .inr (3, [.ref q1, .int (-4), .int (-4), .int 2, .int (-4), .int (-4)])), (q1, .inl (cy 0, 18, .inl (fun _ => 0)))]) := hD
  exact k_ret (L := stockL cy) (fun i => [h0, q1].getD i 0) hx hb hr hlocks rfl hP hD hS dX3_init_41
set_option maxHeartbeats 4000000 in
set_option maxRecDepth 100000 in
theorem k_X1_init (l : Launch) (D : va_G) (cy : Nat → ClassId) (h0 sz : Nat) : Met l yX1_init wsX1_init ({ frames := 1, cells := 4, slots := 435, locals := 12 }) (va_Pc [.ref h0] (kPre D cy h0 (.inr (1, [.null, .null, .int 0, .null, .int 0, .null, .int 0])) sz)) (kQ D h0 (.inr (1, [.null, .null, .int 0, .null, .int 0, .null, .int 0])) sz (logL cy)) 4 435 (va_A [(h0, .inr (1, [.null, .null, .int 0, .null, .int 0, .null, .int 0]))] sz) := by
  refine k_met (cc := cX1_init) (maxL := 1) (by decide) rfl rfl (Nat.le_of_ble_eq_true rfl) ?_
  intro p e s m below meth c S hr hlocks hin hsz hP hK hX hD hA ls hl
  obtain ⟨hx, hb, hml, hown, hts⟩ := S
  have hS : va_S (va_A [(h0, .inr (1, [.null, .null, .int 0, .null, .int 0, .null, .int 0]))] sz) s.heap s.heap [] := va_S.rf
  have kaint : (Cond.arrayClass .int).before #[Value.ref h0] s = true := hts _ (by decide +kernel)
  have kf9 : (Cond.fieldLink RX1 9 "BenchRuns$Log" "countOf" "[I").before #[Value.ref h0] s = true := hts _ (by decide +kernel)
  have hinX1 : ∀ w ∈ u_ws RX1 TX1 7, w ∈ wsX1_init := by decide +kernel
  have kf15 : (Cond.fieldLink RX1 15 "BenchRuns$Log" "events" "[I").before #[Value.ref h0] s = true := hts _ (by decide +kernel)
  have kf18 : (Cond.fieldLink RX1 18 "BenchRuns$Log" "eventCount" "I").before #[Value.ref h0] s = true := hts _ (by decide +kernel)
  have kf22 : (Cond.fieldLink RX1 22 "BenchRuns$Log" "notedNumbers" "[I").before #[Value.ref h0] s = true := hts _ (by decide +kernel)
  have kf25 : (Cond.fieldLink RX1 25 "BenchRuns$Log" "notedCount" "I").before #[Value.ref h0] s = true := hts _ (by decide +kernel)
  have kf28 : (Cond.fieldLink RX1 28 "BenchRuns$Log" "chain" "[I").before #[Value.ref h0] s = true := hts _ (by decide +kernel)
  have kf31 : (Cond.fieldLink RX1 31 "BenchRuns$Log" "chainLength" "I").before #[Value.ref h0] s = true := hts _ (by decide +kernel)
  refine lv_aload_n hx hb dX1_init_0 rfl (lv_at hl 0 rfl) ?_
  refine W.objInit hx hb hown (hts (.methodLink RX1 3 objectInit) (by decide +kernel)) (hts (.instanceMethod objectInit) (by decide +kernel)) (hts _ (List.mem_of_getElem? (i := 3) rfl)) rfl (by rw [hml]; exact hl.1) rfl dX1_init_1 (Nat.le_of_ble_eq_true rfl) (Nat.le_of_ble_eq_true rfl) ?_
  refine W.eq (g2 := F0 m 4 ls []) rfl ?_
  refine lv_aload_n hx hb dX1_init_4 rfl (lv_at hl 0 rfl) ?_
  refine lv_bipush (v := 7) hx hb dX1_init_5 (by decide) ?_
  refine k_newI hx hb kaint hK hP hD hS hA 0 rfl 7 (by decide) (by decide) (by decide) 1 7 rfl rfl (Nat.le_of_ble_eq_true rfl) (Nat.le_of_ble_eq_true rfl) dX1_init_7 (fun q1 H hP hD hS => ?_)
  have hP : va_P D vwCl ([(h0, .inr (1, [.null, .null, .int 0, .null, .int 0, .null, .int 0])), (q1, .inl (cy 0, 7, .inl (fun _ => 0)))]) H := hP
  have hD : va_D (va_A [(h0, .inr (1, [.null, .null, .int 0, .null, .int 0, .null, .int 0]))] sz) ([(h0, .inr (1, [.null, .null, .int 0, .null, .int 0, .null, .int 0])), (q1, .inl (cy 0, 7, .inl (fun _ => 0)))]) := hD
  refine va_putF (D := D) (ci := 1) (v := .ref q1) (ty := tyX1 0) (C := RX1) (T := TX1) (N := 7) hx hb hts hinX1 tyX1 tyX1_ok nmX1 hown hK hP hD hS 0 rfl rfl 0 (by decide) kf9 (fun _ h9 => h9) rfl hin rfl (tyX1_ok 0 (by decide)) rfl rfl (Nat.le_of_ble_eq_true rfl) dX1_init_9 (fun H locs hP hD hS => ?_)
  have hP : va_P D vwCl ([(h0, .inr (1, [.ref q1, .null, .int 0, .null, .int 0, .null, .int 0])), (q1, .inl (cy 0, 7, .inl (fun _ => 0)))]) H := hP
  have hD : va_D (va_A [(h0, .inr (1, [.null, .null, .int 0, .null, .int 0, .null, .int 0]))] sz) ([(h0, .inr (1, [.ref q1, .null, .int 0, .null, .int 0, .null, .int 0])), (q1, .inl (cy 0, 7, .inl (fun _ => 0)))]) := hD
  refine lv_aload_n hx hb dX1_init_12 rfl (lv_at hl 0 rfl) ?_
  refine lv_sipush (v := 400) hx hb dX1_init_13 (by decide) ?_
  refine k_newI hx hb kaint hK hP hD hS hA 0 rfl 400 (by decide) (by decide) (by decide) 2 407 rfl rfl (Nat.le_of_ble_eq_true rfl) (Nat.le_of_ble_eq_true rfl) dX1_init_16 (fun q2 H hP hD hS => ?_)
  have hP : va_P D vwCl ([(h0, .inr (1, [.ref q1, .null, .int 0, .null, .int 0, .null, .int 0])), (q1, .inl (cy 0, 7, .inl (fun _ => 0))), (q2, .inl (cy 0, 400, .inl (fun _ => 0)))]) H := hP
  have hD : va_D (va_A [(h0, .inr (1, [.null, .null, .int 0, .null, .int 0, .null, .int 0]))] sz) ([(h0, .inr (1, [.ref q1, .null, .int 0, .null, .int 0, .null, .int 0])), (q1, .inl (cy 0, 7, .inl (fun _ => 0))), (q2, .inl (cy 0, 400, .inl (fun _ => 0)))]) := hD
  refine va_putF (D := D) (ci := 1) (v := .ref q2) (ty := tyX1 1) (C := RX1) (T := TX1) (N := 7) hx hb hts hinX1 tyX1 tyX1_ok nmX1 hown hK hP hD hS 0 rfl rfl 1 (by decide) kf15 (fun _ h9 => h9) rfl hin rfl (tyX1_ok 1 (by decide)) rfl rfl (Nat.le_of_ble_eq_true rfl) dX1_init_18 (fun H locs hP hD hS => ?_)
  have hP : va_P D vwCl ([(h0, .inr (1, [.ref q1, .ref q2, .int 0, .null, .int 0, .null, .int 0])), (q1, .inl (cy 0, 7, .inl (fun _ => 0))), (q2, .inl (cy 0, 400, .inl (fun _ => 0)))]) H := hP
  have hD : va_D (va_A [(h0, .inr (1, [.null, .null, .int 0, .null, .int 0, .null, .int 0]))] sz) ([(h0, .inr (1, [.ref q1, .ref q2, .int 0, .null, .int 0, .null, .int 0])), (q1, .inl (cy 0, 7, .inl (fun _ => 0))), (q2, .inl (cy 0, 400, .inl (fun _ => 0)))]) := hD
  refine lv_aload_n hx hb dX1_init_21 rfl (lv_at hl 0 rfl) ?_
  refine lv_iconst (v := 0) hx hb dX1_init_22 (by decide) ?_
  refine va_put (D := D) (ci := 1) (v := .int 0) (ty := tyX1 2) (C := RX1) (T := TX1) (N := 7) hx hb hts hinX1 tyX1 tyX1_ok nmX1 hown hK hP hD hS 0 rfl rfl 2 (by decide) kf18 (fun _ h9 => h9) rfl (tyX1_ok 2 (by decide)) rfl rfl (Nat.le_of_ble_eq_true rfl) dX1_init_23 (fun H locs hP hD hS => ?_)
  have hP : va_P D vwCl ([(h0, .inr (1, [.ref q1, .ref q2, .int 0, .null, .int 0, .null, .int 0])), (q1, .inl (cy 0, 7, .inl (fun _ => 0))), (q2, .inl (cy 0, 400, .inl (fun _ => 0)))]) H := hP
  have hD : va_D (va_A [(h0, .inr (1, [.null, .null, .int 0, .null, .int 0, .null, .int 0]))] sz) ([(h0, .inr (1, [.ref q1, .ref q2, .int 0, .null, .int 0, .null, .int 0])), (q1, .inl (cy 0, 7, .inl (fun _ => 0))), (q2, .inl (cy 0, 400, .inl (fun _ => 0)))]) := hD
  refine lv_aload_n hx hb dX1_init_26 rfl (lv_at hl 0 rfl) ?_
  refine lv_bipush (v := 24) hx hb dX1_init_27 (by decide) ?_
  refine k_newI hx hb kaint hK hP hD hS hA 0 rfl 24 (by decide) (by decide) (by decide) 3 431 rfl rfl (Nat.le_of_ble_eq_true rfl) (Nat.le_of_ble_eq_true rfl) dX1_init_29 (fun q3 H hP hD hS => ?_)
  have hP : va_P D vwCl ([(h0, .inr (1, [.ref q1, .ref q2, .int 0, .null, .int 0, .null, .int 0])), (q1, .inl (cy 0, 7, .inl (fun _ => 0))), (q2, .inl (cy 0, 400, .inl (fun _ => 0))), (q3, .inl (cy 0, 24, .inl (fun _ => 0)))]) H := hP
  have hD : va_D (va_A [(h0, .inr (1, [.null, .null, .int 0, .null, .int 0, .null, .int 0]))] sz) ([(h0, .inr (1, [.ref q1, .ref q2, .int 0, .null, .int 0, .null, .int 0])), (q1, .inl (cy 0, 7, .inl (fun _ => 0))), (q2, .inl (cy 0, 400, .inl (fun _ => 0))), (q3, .inl (cy 0, 24, .inl (fun _ => 0)))]) := hD
  refine va_putF (D := D) (ci := 1) (v := .ref q3) (ty := tyX1 3) (C := RX1) (T := TX1) (N := 7) hx hb hts hinX1 tyX1 tyX1_ok nmX1 hown hK hP hD hS 0 rfl rfl 3 (by decide) kf22 (fun _ h9 => h9) rfl hin rfl (tyX1_ok 3 (by decide)) rfl rfl (Nat.le_of_ble_eq_true rfl) dX1_init_31 (fun H locs hP hD hS => ?_)
  have hP : va_P D vwCl ([(h0, .inr (1, [.ref q1, .ref q2, .int 0, .ref q3, .int 0, .null, .int 0])), (q1, .inl (cy 0, 7, .inl (fun _ => 0))), (q2, .inl (cy 0, 400, .inl (fun _ => 0))), (q3, .inl (cy 0, 24, .inl (fun _ => 0)))]) H := hP
  have hD : va_D (va_A [(h0, .inr (1, [.null, .null, .int 0, .null, .int 0, .null, .int 0]))] sz) ([(h0, .inr (1, [.ref q1, .ref q2, .int 0, .ref q3, .int 0, .null, .int 0])), (q1, .inl (cy 0, 7, .inl (fun _ => 0))), (q2, .inl (cy 0, 400, .inl (fun _ => 0))), (q3, .inl (cy 0, 24, .inl (fun _ => 0)))]) := hD
  refine lv_aload_n hx hb dX1_init_34 rfl (lv_at hl 0 rfl) ?_
  refine lv_iconst (v := 0) hx hb dX1_init_35 (by decide) ?_
  refine va_put (D := D) (ci := 1) (v := .int 0) (ty := tyX1 4) (C := RX1) (T := TX1) (N := 7) hx hb hts hinX1 tyX1 tyX1_ok nmX1 hown hK hP hD hS 0 rfl rfl 4 (by decide) kf25 (fun _ h9 => h9) rfl (tyX1_ok 4 (by decide)) rfl rfl (Nat.le_of_ble_eq_true rfl) dX1_init_36 (fun H locs hP hD hS => ?_)
  have hP : va_P D vwCl ([(h0, .inr (1, [.ref q1, .ref q2, .int 0, .ref q3, .int 0, .null, .int 0])), (q1, .inl (cy 0, 7, .inl (fun _ => 0))), (q2, .inl (cy 0, 400, .inl (fun _ => 0))), (q3, .inl (cy 0, 24, .inl (fun _ => 0)))]) H := hP
  have hD : va_D (va_A [(h0, .inr (1, [.null, .null, .int 0, .null, .int 0, .null, .int 0]))] sz) ([(h0, .inr (1, [.ref q1, .ref q2, .int 0, .ref q3, .int 0, .null, .int 0])), (q1, .inl (cy 0, 7, .inl (fun _ => 0))), (q2, .inl (cy 0, 400, .inl (fun _ => 0))), (q3, .inl (cy 0, 24, .inl (fun _ => 0)))]) := hD
  refine lv_aload_n hx hb dX1_init_39 rfl (lv_at hl 0 rfl) ?_
  refine lv_iconst (v := 4) hx hb dX1_init_40 (by decide) ?_
  refine k_newI hx hb kaint hK hP hD hS hA 0 rfl 4 (by decide) (by decide) (by decide) 4 435 rfl rfl (Nat.le_of_ble_eq_true rfl) (Nat.le_of_ble_eq_true rfl) dX1_init_41 (fun q4 H hP hD hS => ?_)
  have hP : va_P D vwCl ([(h0, .inr (1, [.ref q1, .ref q2, .int 0, .ref q3, .int 0, .null, .int 0])), (q1, .inl (cy 0, 7, .inl (fun _ => 0))), (q2, .inl (cy 0, 400, .inl (fun _ => 0))), (q3, .inl (cy 0, 24, .inl (fun _ => 0))), (q4, .inl (cy 0, 4, .inl (fun _ => 0)))]) H := hP
  have hD : va_D (va_A [(h0, .inr (1, [.null, .null, .int 0, .null, .int 0, .null, .int 0]))] sz) ([(h0, .inr (1, [.ref q1, .ref q2, .int 0, .ref q3, .int 0, .null, .int 0])), (q1, .inl (cy 0, 7, .inl (fun _ => 0))), (q2, .inl (cy 0, 400, .inl (fun _ => 0))), (q3, .inl (cy 0, 24, .inl (fun _ => 0))), (q4, .inl (cy 0, 4, .inl (fun _ => 0)))]) := hD
  refine va_putF (D := D) (ci := 1) (v := .ref q4) (ty := tyX1 5) (C := RX1) (T := TX1) (N := 7) hx hb hts hinX1 tyX1 tyX1_ok nmX1 hown hK hP hD hS 0 rfl rfl 5 (by decide) kf28 (fun _ h9 => h9) rfl hin rfl (tyX1_ok 5 (by decide)) rfl rfl (Nat.le_of_ble_eq_true rfl) dX1_init_43 (fun H locs hP hD hS => ?_)
  have hP : va_P D vwCl ([(h0, .inr (1, [.ref q1, .ref q2, .int 0, .ref q3, .int 0, .ref q4, .int 0])), (q1, .inl (cy 0, 7, .inl (fun _ => 0))), (q2, .inl (cy 0, 400, .inl (fun _ => 0))), (q3, .inl (cy 0, 24, .inl (fun _ => 0))), (q4, .inl (cy 0, 4, .inl (fun _ => 0)))]) H := hP
  have hD : va_D (va_A [(h0, .inr (1, [.null, .null, .int 0, .null, .int 0, .null, .int 0]))] sz) ([(h0, .inr (1, [.ref q1, .ref q2, .int 0, .ref q3, .int 0, .ref q4, .int 0])), (q1, .inl (cy 0, 7, .inl (fun _ => 0))), (q2, .inl (cy 0, 400, .inl (fun _ => 0))), (q3, .inl (cy 0, 24, .inl (fun _ => 0))), (q4, .inl (cy 0, 4, .inl (fun _ => 0)))]) := hD
  refine lv_aload_n hx hb dX1_init_46 rfl (lv_at hl 0 rfl) ?_
  refine lv_iconst (v := 0) hx hb dX1_init_47 (by decide) ?_
  refine va_put (D := D) (ci := 1) (v := .int 0) (ty := tyX1 6) (C := RX1) (T := TX1) (N := 7) hx hb hts hinX1 tyX1 tyX1_ok nmX1 hown hK hP hD hS 0 rfl rfl 6 (by decide) kf31 (fun _ h9 => h9) rfl (tyX1_ok 6 (by decide)) rfl rfl (Nat.le_of_ble_eq_true rfl) dX1_init_48 (fun H locs hP hD hS => ?_)
  have hP : va_P D vwCl ([(h0, .inr (1, [.ref q1, .ref q2, .int 0, .ref q3, .int 0, .ref q4, .int 0])), (q1, .inl (cy 0, 7, .inl (fun _ => 0))), (q2, .inl (cy 0, 400, .inl (fun _ => 0))), (q3, .inl (cy 0, 24, .inl (fun _ => 0))), (q4, .inl (cy 0, 4, .inl (fun _ => 0)))]) H := hP
  have hD : va_D (va_A [(h0, .inr (1, [.null, .null, .int 0, .null, .int 0, .null, .int 0]))] sz) ([(h0, .inr (1, [.ref q1, .ref q2, .int 0, .ref q3, .int 0, .ref q4, .int 0])), (q1, .inl (cy 0, 7, .inl (fun _ => 0))), (q2, .inl (cy 0, 400, .inl (fun _ => 0))), (q3, .inl (cy 0, 24, .inl (fun _ => 0))), (q4, .inl (cy 0, 4, .inl (fun _ => 0)))]) := hD
  exact k_ret (L := logL cy) (fun i => [h0, q1, q2, q3, q4].getD i 0) hx hb hr hlocks rfl hP hD hS dX1_init_51
set_option maxHeartbeats 4000000 in
set_option maxRecDepth 100000 in
theorem k_X0_init (l : Launch) (D : va_G) (cy : Nat → ClassId) (h0 sz : Nat) : Met l yX0_init wsX0_init ({ frames := 2, cells := 19, slots := 126, locals := 32 }) (va_Pc [.ref h0] (kPre D cy h0 (.inr (0, [.null, .int 0, .int 0])) sz)) (kQ D h0 (.inr (0, [.null, .int 0, .int 0])) sz (batchL cy)) 19 126 (va_A [(h0, .inr (0, [.null, .int 0, .int 0]))] sz) := by
  refine k_met (cc := cX0_init) (maxL := 2) (by decide) rfl rfl (Nat.le_of_ble_eq_true rfl) ?_
  intro p e s m below meth c S hr hlocks hin hsz hP hK hX hD hA ls hl
  obtain ⟨hx, hb, hml, hown, hts⟩ := S
  have hS : va_S (va_A [(h0, .inr (0, [.null, .int 0, .int 0]))] sz) s.heap s.heap [] := va_S.rf
  have kl9 : (Cond.classLink RX0 9 RX2).before #[Value.ref h0] s = true := hts _ (by decide +kernel)
  have kf11 : (Cond.fieldLink RX0 11 "BenchRuns$Batch" "rounds" "[LBenchRuns$Round;").before #[Value.ref h0] s = true := hts _ (by decide +kernel)
  have hinX0 : ∀ w ∈ u_ws RX0 TX0 3, w ∈ wsX0_init := by decide +kernel
  have kf17 : (Cond.fieldLink RX0 17 "BenchRuns$Batch" "roundCount" "I").before #[Value.ref h0] s = true := hts _ (by decide +kernel)
  have kf21 : (Cond.fieldLink RX0 21 "BenchRuns$Batch" "mode" "I").before #[Value.ref h0] s = true := hts _ (by decide +kernel)
  have kiX2 : (Cond.instantiable RX2 4).before #[Value.ref h0] s = true := hts _ (by decide +kernel)
  have kjX2 : (Cond.initialized RX2).before #[Value.ref h0] s = true := hts _ (by decide +kernel)
  have hinX2 : ∀ w ∈ u_ws RX2 TX2 4, w ∈ wsX0_init := by decide +kernel
  have kmX2 : (Cond.instanceMethod yX2_init).before #[Value.ref h0] s = true := hts _ (by decide +kernel)
  refine lv_aload_n hx hb dX0_init_0 rfl (lv_at hl 0 rfl) ?_
  refine W.objInit hx hb hown (hts (.methodLink RX0 3 objectInit) (by decide +kernel)) (hts (.instanceMethod objectInit) (by decide +kernel)) (hts _ (List.mem_of_getElem? (i := 3) rfl)) rfl (by rw [hml]; exact hl.1) rfl dX0_init_1 (Nat.le_of_ble_eq_true rfl) (Nat.le_of_ble_eq_true rfl) ?_
  refine W.eq (g2 := F0 m 4 ls []) rfl ?_
  refine lv_aload_n hx hb dX0_init_4 rfl (lv_at hl 0 rfl) ?_
  refine lv_bipush (v := 6) hx hb dX0_init_5 (by decide) ?_
  refine k_newQ (C := RX2) hx hb hown kl9 hX.1.1 hK hP hD hS hA 3 rfl 6 (by decide) (by decide) (by decide) 1 6 rfl rfl (Nat.le_of_ble_eq_true rfl) (Nat.le_of_ble_eq_true rfl) dX0_init_7 (fun q1 H hP hD hS => ?_)
  have hP : va_P D vwCl ([(h0, .inr (0, [.null, .int 0, .int 0])), (q1, .inl (cy 3, 6, .inr (.inr (.inr (.inr (fun _ => none))))))]) H := hP
  have hD : va_D (va_A [(h0, .inr (0, [.null, .int 0, .int 0]))] sz) ([(h0, .inr (0, [.null, .int 0, .int 0])), (q1, .inl (cy 3, 6, .inr (.inr (.inr (.inr (fun _ => none))))))]) := hD
  refine va_putF (D := D) (ci := 0) (v := .ref q1) (ty := tyX0 0) (C := RX0) (T := TX0) (N := 3) hx hb hts hinX0 tyX0 tyX0_ok nmX0 hown hK hP hD hS 0 rfl rfl 0 (by decide) kf11 (fun _ h9 => h9) rfl hin rfl (tyX0_ok 0 (by decide)) rfl rfl (Nat.le_of_ble_eq_true rfl) dX0_init_10 (fun H locs hP hD hS => ?_)
  have hP : va_P D vwCl ([(h0, .inr (0, [.ref q1, .int 0, .int 0])), (q1, .inl (cy 3, 6, .inr (.inr (.inr (.inr (fun _ => none))))))]) H := hP
  have hD : va_D (va_A [(h0, .inr (0, [.null, .int 0, .int 0]))] sz) ([(h0, .inr (0, [.ref q1, .int 0, .int 0])), (q1, .inl (cy 3, 6, .inr (.inr (.inr (.inr (fun _ => none))))))]) := hD
  refine lv_aload_n hx hb dX0_init_13 rfl (lv_at hl 0 rfl) ?_
  refine lv_iconst (v := 0) hx hb dX0_init_14 (by decide) ?_
  refine va_put (D := D) (ci := 0) (v := .int 0) (ty := tyX0 1) (C := RX0) (T := TX0) (N := 3) hx hb hts hinX0 tyX0 tyX0_ok nmX0 hown hK hP hD hS 0 rfl rfl 1 (by decide) kf17 (fun _ h9 => h9) rfl (tyX0_ok 1 (by decide)) rfl rfl (Nat.le_of_ble_eq_true rfl) dX0_init_15 (fun H locs hP hD hS => ?_)
  have hP : va_P D vwCl ([(h0, .inr (0, [.ref q1, .int 0, .int 0])), (q1, .inl (cy 3, 6, .inr (.inr (.inr (.inr (fun _ => none))))))]) H := hP
  have hD : va_D (va_A [(h0, .inr (0, [.null, .int 0, .int 0]))] sz) ([(h0, .inr (0, [.ref q1, .int 0, .int 0])), (q1, .inl (cy 3, 6, .inr (.inr (.inr (.inr (fun _ => none))))))]) := hD
  refine lv_aload_n hx hb dX0_init_18 rfl (lv_at hl 0 rfl) ?_
  refine lv_iconst (v := 0) hx hb dX0_init_19 (by decide) ?_
  refine va_put (D := D) (ci := 0) (v := .int 0) (ty := tyX0 2) (C := RX0) (T := TX0) (N := 3) hx hb hts hinX0 tyX0 tyX0_ok nmX0 hown hK hP hD hS 0 rfl rfl 2 (by decide) kf21 (fun _ h9 => h9) rfl (tyX0_ok 2 (by decide)) rfl rfl (Nat.le_of_ble_eq_true rfl) dX0_init_20 (fun H locs hP hD hS => ?_)
  have hP : va_P D vwCl ([(h0, .inr (0, [.ref q1, .int 0, .int 0])), (q1, .inl (cy 3, 6, .inr (.inr (.inr (.inr (fun _ => none))))))]) H := hP
  have hD : va_D (va_A [(h0, .inr (0, [.null, .int 0, .int 0]))] sz) ([(h0, .inr (0, [.ref q1, .int 0, .int 0])), (q1, .inl (cy 3, 6, .inr (.inr (.inr (.inr (fun _ => none))))))]) := hD
  refine lv_iconst (v := 0) hx hb dX0_init_23 (by decide) ?_
  refine lv_istore_n (lv' := [(1, .int 0), (0, .ref h0)]) hx hb dX0_init_24 rfl hl (by decide) rfl (fun ls hl => ?_)
  refine lv_iload_n hx hb dX0_init_25 rfl (lv_at hl 0 rfl) ?_
  refine lv_bipush (v := 6) hx hb dX0_init_26 (by decide) ?_
  refine lv_icmp_ge (tgt := 50) hx hb dX0_init_28 (by decide) (fun c9 => absurd c9 (by decide)) (fun _ => ?_)
  refine lv_aload_n hx hb dX0_init_31 rfl (lv_at hl 1 rfl) ?_
  refine va_get (D := D) (ci := 0) (v := .ref q1) (C := RX0) (T := TX0) (N := 3) hx hb hts hinX0 hown hK hP 0 rfl rfl 0 (by decide) kf11 (fun _ h9 => h9) rfl dX0_init_32 ?_
  refine lv_iload_n hx hb dX0_init_35 rfl (lv_at hl 0 rfl) ?_
  refine va_new (ci := 2) (fs := [.null, .null, .int 0, .int 0]) (C := RX2) (T := TX2) (N := 4) hx hb hts hinX2 tyX2 tyX2_ok hown kl9 kiX2 kjX2 hK hP hD hS hA rfl dfX2 (Nat.le_of_ble_eq_true rfl) (Nat.le_of_ble_eq_true rfl) dX0_init_36 (fun q2 H hP hD hS => ?_)
  refine W.widen (k := 2) (n := 10) (Nat.le_of_ble_eq_true rfl) (Nat.le_of_ble_eq_true rfl) ?_
  refine lv_dup hx hb dX0_init_39 rfl ?_
  refine k_call (L := roundL cy) (k1 := 4) (s1 := 26) (va_runIN (As := []) (rest := [.ref q2, .int 0, .ref q1]) ⟨hx, hb, hml, hown, hts⟩ (k_X2_init l D cy q2 H.size) ⟨va_cnB 0 hts gX0_init_X2_init_n24 rfl rfl rfl hX.2.1 kjX2 (by decide +kernel) ⟨(Nat.le_of_ble_eq_true rfl), (Nat.le_of_ble_eq_true rfl)⟩, rfl, kmX2⟩ (k_pre hK hX hP) rfl rfl hl.1 rfl (lv_room (Nat.le_of_ble_eq_true rfl)) dX0_init_40 ⟨(Nat.le_of_ble_eq_true rfl), (Nat.le_of_ble_eq_true rfl)⟩) rfl hP hD hS hA rfl rfl (fun g3 H locs hg hP1 hD1 hS1 => ?_)
  clear hP hD hS
  subst hg
  have hP := hP1
  have hD := hD1
  have hS := hS1
  clear hP1 hD1 hS1
  refine k_astq hx hb hK hP hD hS 1 3 2 2 rfl rfl rfl rfl 0 (by decide) (by decide) (by decide) dX0_init_43 (fun H locs hP hD hS => ?_)
  have hP : va_P D vwCl ([(h0, .inr (0, [.ref q1, .int 0, .int 0])), (q1, .inl (cy 3, 6, .inr (.inr (.inr (.inr (va_up (fun _ => none) 0 (some (g3 0))))))))] ++ roundL cy g3) H := hP
  have hD : va_D (va_A [(h0, .inr (0, [.null, .int 0, .int 0]))] sz) ([(h0, .inr (0, [.ref q1, .int 0, .int 0])), (q1, .inl (cy 3, 6, .inr (.inr (.inr (.inr (va_up (fun _ => none) 0 (some (g3 0))))))))] ++ roundL cy g3) := hD
  refine lv_iinc (v := 1) (lv' := [(1, .int 1), (0, .ref h0)]) hx hb dX0_init_44 hl (k := 0) rfl (by decide) (by decide) rfl (fun ls hl => ?_)
  refine lv_goto (tgt := 25) hx hb dX0_init_47 (by decide) ?_
  refine lv_iload_n hx hb dX0_init_25 rfl (lv_at hl 0 rfl) ?_
  refine lv_bipush (v := 6) hx hb dX0_init_26 (by decide) ?_
  refine lv_icmp_ge (tgt := 50) hx hb dX0_init_28 (by decide) (fun c9 => absurd c9 (by decide)) (fun _ => ?_)
  refine lv_aload_n hx hb dX0_init_31 rfl (lv_at hl 1 rfl) ?_
  refine va_get (D := D) (ci := 0) (v := .ref q1) (C := RX0) (T := TX0) (N := 3) hx hb hts hinX0 hown hK hP 0 rfl rfl 0 (by decide) kf11 (fun _ h9 => h9) rfl dX0_init_32 ?_
  refine lv_iload_n hx hb dX0_init_35 rfl (lv_at hl 0 rfl) ?_
  refine va_new (ci := 2) (fs := [.null, .null, .int 0, .int 0]) (C := RX2) (T := TX2) (N := 4) hx hb hts hinX2 tyX2 tyX2_ok hown kl9 kiX2 kjX2 hK hP hD hS hA rfl dfX2 (Nat.le_of_ble_eq_true rfl) (Nat.le_of_ble_eq_true rfl) dX0_init_36 (fun q4 H hP hD hS => ?_)
  refine W.widen (k := 5) (n := 30) (Nat.le_of_ble_eq_true rfl) (Nat.le_of_ble_eq_true rfl) ?_
  refine lv_dup hx hb dX0_init_39 rfl ?_
  refine k_call (L := roundL cy) (k1 := 7) (s1 := 46) (va_runIN (As := []) (rest := [.ref q4, .int 1, .ref q1]) ⟨hx, hb, hml, hown, hts⟩ (k_X2_init l D cy q4 H.size) ⟨va_cnB 0 hts gX0_init_X2_init_n24 rfl rfl rfl hX.2.1 kjX2 (by decide +kernel) ⟨(Nat.le_of_ble_eq_true rfl), (Nat.le_of_ble_eq_true rfl)⟩, rfl, kmX2⟩ (k_pre hK hX hP) rfl rfl hl.1 rfl (lv_room (Nat.le_of_ble_eq_true rfl)) dX0_init_40 ⟨(Nat.le_of_ble_eq_true rfl), (Nat.le_of_ble_eq_true rfl)⟩) rfl hP hD hS hA rfl rfl (fun g5 H locs hg hP1 hD1 hS1 => ?_)
  clear hP hD hS
  subst hg
  have hP := hP1
  have hD := hD1
  have hS := hS1
  clear hP1 hD1 hS1
  refine k_astq hx hb hK hP hD hS 1 3 5 2 rfl rfl rfl rfl 1 (by decide) (by decide) (by decide) dX0_init_43 (fun H locs hP hD hS => ?_)
  have hP : va_P D vwCl (([(h0, .inr (0, [.ref q1, .int 0, .int 0])), (q1, .inl (cy 3, 6, .inr (.inr (.inr (.inr (va_up (va_up (fun _ => none) 0 (some (g3 0))) 1 (some (g5 0))))))))] ++ roundL cy g3) ++ roundL cy g5) H := hP
  have hD : va_D (va_A [(h0, .inr (0, [.null, .int 0, .int 0]))] sz) (([(h0, .inr (0, [.ref q1, .int 0, .int 0])), (q1, .inl (cy 3, 6, .inr (.inr (.inr (.inr (va_up (va_up (fun _ => none) 0 (some (g3 0))) 1 (some (g5 0))))))))] ++ roundL cy g3) ++ roundL cy g5) := hD
  refine lv_iinc (v := 2) (lv' := [(1, .int 2), (0, .ref h0)]) hx hb dX0_init_44 hl (k := 0) rfl (by decide) (by decide) rfl (fun ls hl => ?_)
  refine lv_goto (tgt := 25) hx hb dX0_init_47 (by decide) ?_
  refine lv_iload_n hx hb dX0_init_25 rfl (lv_at hl 0 rfl) ?_
  refine lv_bipush (v := 6) hx hb dX0_init_26 (by decide) ?_
  refine lv_icmp_ge (tgt := 50) hx hb dX0_init_28 (by decide) (fun c9 => absurd c9 (by decide)) (fun _ => ?_)
  refine lv_aload_n hx hb dX0_init_31 rfl (lv_at hl 1 rfl) ?_
  refine va_get (D := D) (ci := 0) (v := .ref q1) (C := RX0) (T := TX0) (N := 3) hx hb hts hinX0 hown hK hP 0 rfl rfl 0 (by decide) kf11 (fun _ h9 => h9) rfl dX0_init_32 ?_
  refine lv_iload_n hx hb dX0_init_35 rfl (lv_at hl 0 rfl) ?_
  refine va_new (ci := 2) (fs := [.null, .null, .int 0, .int 0]) (C := RX2) (T := TX2) (N := 4) hx hb hts hinX2 tyX2 tyX2_ok hown kl9 kiX2 kjX2 hK hP hD hS hA rfl dfX2 (Nat.le_of_ble_eq_true rfl) (Nat.le_of_ble_eq_true rfl) dX0_init_36 (fun q6 H hP hD hS => ?_)
  refine W.widen (k := 8) (n := 50) (Nat.le_of_ble_eq_true rfl) (Nat.le_of_ble_eq_true rfl) ?_
  refine lv_dup hx hb dX0_init_39 rfl ?_
  refine k_call (L := roundL cy) (k1 := 10) (s1 := 66) (va_runIN (As := []) (rest := [.ref q6, .int 2, .ref q1]) ⟨hx, hb, hml, hown, hts⟩ (k_X2_init l D cy q6 H.size) ⟨va_cnB 0 hts gX0_init_X2_init_n24 rfl rfl rfl hX.2.1 kjX2 (by decide +kernel) ⟨(Nat.le_of_ble_eq_true rfl), (Nat.le_of_ble_eq_true rfl)⟩, rfl, kmX2⟩ (k_pre hK hX hP) rfl rfl hl.1 rfl (lv_room (Nat.le_of_ble_eq_true rfl)) dX0_init_40 ⟨(Nat.le_of_ble_eq_true rfl), (Nat.le_of_ble_eq_true rfl)⟩) rfl hP hD hS hA rfl rfl (fun g7 H locs hg hP1 hD1 hS1 => ?_)
  clear hP hD hS
  subst hg
  have hP := hP1
  have hD := hD1
  have hS := hS1
  clear hP1 hD1 hS1
  refine k_astq hx hb hK hP hD hS 1 3 8 2 rfl rfl rfl rfl 2 (by decide) (by decide) (by decide) dX0_init_43 (fun H locs hP hD hS => ?_)
  have hP : va_P D vwCl ((([(h0, .inr (0, [.ref q1, .int 0, .int 0])), (q1, .inl (cy 3, 6, .inr (.inr (.inr (.inr (va_up (va_up (va_up (fun _ => none) 0 (some (g3 0))) 1 (some (g5 0))) 2 (some (g7 0))))))))] ++ roundL cy g3) ++ roundL cy g5) ++ roundL cy g7) H := hP
  have hD : va_D (va_A [(h0, .inr (0, [.null, .int 0, .int 0]))] sz) ((([(h0, .inr (0, [.ref q1, .int 0, .int 0])), (q1, .inl (cy 3, 6, .inr (.inr (.inr (.inr (va_up (va_up (va_up (fun _ => none) 0 (some (g3 0))) 1 (some (g5 0))) 2 (some (g7 0))))))))] ++ roundL cy g3) ++ roundL cy g5) ++ roundL cy g7) := hD
  refine lv_iinc (v := 3) (lv' := [(1, .int 3), (0, .ref h0)]) hx hb dX0_init_44 hl (k := 0) rfl (by decide) (by decide) rfl (fun ls hl => ?_)
  refine lv_goto (tgt := 25) hx hb dX0_init_47 (by decide) ?_
  refine lv_iload_n hx hb dX0_init_25 rfl (lv_at hl 0 rfl) ?_
  refine lv_bipush (v := 6) hx hb dX0_init_26 (by decide) ?_
  refine lv_icmp_ge (tgt := 50) hx hb dX0_init_28 (by decide) (fun c9 => absurd c9 (by decide)) (fun _ => ?_)
  refine lv_aload_n hx hb dX0_init_31 rfl (lv_at hl 1 rfl) ?_
  refine va_get (D := D) (ci := 0) (v := .ref q1) (C := RX0) (T := TX0) (N := 3) hx hb hts hinX0 hown hK hP 0 rfl rfl 0 (by decide) kf11 (fun _ h9 => h9) rfl dX0_init_32 ?_
  refine lv_iload_n hx hb dX0_init_35 rfl (lv_at hl 0 rfl) ?_
  refine va_new (ci := 2) (fs := [.null, .null, .int 0, .int 0]) (C := RX2) (T := TX2) (N := 4) hx hb hts hinX2 tyX2 tyX2_ok hown kl9 kiX2 kjX2 hK hP hD hS hA rfl dfX2 (Nat.le_of_ble_eq_true rfl) (Nat.le_of_ble_eq_true rfl) dX0_init_36 (fun q8 H hP hD hS => ?_)
  refine W.widen (k := 11) (n := 70) (Nat.le_of_ble_eq_true rfl) (Nat.le_of_ble_eq_true rfl) ?_
  refine lv_dup hx hb dX0_init_39 rfl ?_
  refine k_call (L := roundL cy) (k1 := 13) (s1 := 86) (va_runIN (As := []) (rest := [.ref q8, .int 3, .ref q1]) ⟨hx, hb, hml, hown, hts⟩ (k_X2_init l D cy q8 H.size) ⟨va_cnB 0 hts gX0_init_X2_init_n24 rfl rfl rfl hX.2.1 kjX2 (by decide +kernel) ⟨(Nat.le_of_ble_eq_true rfl), (Nat.le_of_ble_eq_true rfl)⟩, rfl, kmX2⟩ (k_pre hK hX hP) rfl rfl hl.1 rfl (lv_room (Nat.le_of_ble_eq_true rfl)) dX0_init_40 ⟨(Nat.le_of_ble_eq_true rfl), (Nat.le_of_ble_eq_true rfl)⟩) rfl hP hD hS hA rfl rfl (fun g9 H locs hg hP1 hD1 hS1 => ?_)
  clear hP hD hS
  subst hg
  have hP := hP1
  have hD := hD1
  have hS := hS1
  clear hP1 hD1 hS1
  refine k_astq hx hb hK hP hD hS 1 3 11 2 rfl rfl rfl rfl 3 (by decide) (by decide) (by decide) dX0_init_43 (fun H locs hP hD hS => ?_)
  have hP : va_P D vwCl (((([(h0, .inr (0, [.ref q1, .int 0, .int 0])), (q1, .inl (cy 3, 6, .inr (.inr (.inr (.inr (va_up (va_up (va_up (va_up (fun _ => none) 0 (some (g3 0))) 1 (some (g5 0))) 2 (some (g7 0))) 3 (some (g9 0))))))))] ++ roundL cy g3) ++ roundL cy g5) ++ roundL cy g7) ++ roundL cy g9) H := hP
  have hD : va_D (va_A [(h0, .inr (0, [.null, .int 0, .int 0]))] sz) (((([(h0, .inr (0, [.ref q1, .int 0, .int 0])), (q1, .inl (cy 3, 6, .inr (.inr (.inr (.inr (va_up (va_up (va_up (va_up (fun _ => none) 0 (some (g3 0))) 1 (some (g5 0))) 2 (some (g7 0))) 3 (some (g9 0))))))))] ++ roundL cy g3) ++ roundL cy g5) ++ roundL cy g7) ++ roundL cy g9) := hD
  refine lv_iinc (v := 4) (lv' := [(1, .int 4), (0, .ref h0)]) hx hb dX0_init_44 hl (k := 0) rfl (by decide) (by decide) rfl (fun ls hl => ?_)
  refine lv_goto (tgt := 25) hx hb dX0_init_47 (by decide) ?_
  refine lv_iload_n hx hb dX0_init_25 rfl (lv_at hl 0 rfl) ?_
  refine lv_bipush (v := 6) hx hb dX0_init_26 (by decide) ?_
  refine lv_icmp_ge (tgt := 50) hx hb dX0_init_28 (by decide) (fun c9 => absurd c9 (by decide)) (fun _ => ?_)
  refine lv_aload_n hx hb dX0_init_31 rfl (lv_at hl 1 rfl) ?_
  refine va_get (D := D) (ci := 0) (v := .ref q1) (C := RX0) (T := TX0) (N := 3) hx hb hts hinX0 hown hK hP 0 rfl rfl 0 (by decide) kf11 (fun _ h9 => h9) rfl dX0_init_32 ?_
  refine lv_iload_n hx hb dX0_init_35 rfl (lv_at hl 0 rfl) ?_
  refine va_new (ci := 2) (fs := [.null, .null, .int 0, .int 0]) (C := RX2) (T := TX2) (N := 4) hx hb hts hinX2 tyX2 tyX2_ok hown kl9 kiX2 kjX2 hK hP hD hS hA rfl dfX2 (Nat.le_of_ble_eq_true rfl) (Nat.le_of_ble_eq_true rfl) dX0_init_36 (fun q10 H hP hD hS => ?_)
  refine W.widen (k := 14) (n := 90) (Nat.le_of_ble_eq_true rfl) (Nat.le_of_ble_eq_true rfl) ?_
  refine lv_dup hx hb dX0_init_39 rfl ?_
  refine k_call (L := roundL cy) (k1 := 16) (s1 := 106) (va_runIN (As := []) (rest := [.ref q10, .int 4, .ref q1]) ⟨hx, hb, hml, hown, hts⟩ (k_X2_init l D cy q10 H.size) ⟨va_cnB 0 hts gX0_init_X2_init_n24 rfl rfl rfl hX.2.1 kjX2 (by decide +kernel) ⟨(Nat.le_of_ble_eq_true rfl), (Nat.le_of_ble_eq_true rfl)⟩, rfl, kmX2⟩ (k_pre hK hX hP) rfl rfl hl.1 rfl (lv_room (Nat.le_of_ble_eq_true rfl)) dX0_init_40 ⟨(Nat.le_of_ble_eq_true rfl), (Nat.le_of_ble_eq_true rfl)⟩) rfl hP hD hS hA rfl rfl (fun g11 H locs hg hP1 hD1 hS1 => ?_)
  clear hP hD hS
  subst hg
  have hP := hP1
  have hD := hD1
  have hS := hS1
  clear hP1 hD1 hS1
  refine k_astq hx hb hK hP hD hS 1 3 14 2 rfl rfl rfl rfl 4 (by decide) (by decide) (by decide) dX0_init_43 (fun H locs hP hD hS => ?_)
  have hP : va_P D vwCl ((((([(h0, .inr (0, [.ref q1, .int 0, .int 0])), (q1, .inl (cy 3, 6, .inr (.inr (.inr (.inr (va_up (va_up (va_up (va_up (va_up (fun _ => none) 0 (some (g3 0))) 1 (some (g5 0))) 2 (some (g7 0))) 3 (some (g9 0))) 4 (some (g11 0))))))))] ++ roundL cy g3) ++ roundL cy g5) ++ roundL cy g7) ++ roundL cy g9) ++ roundL cy g11) H := hP
  have hD : va_D (va_A [(h0, .inr (0, [.null, .int 0, .int 0]))] sz) ((((([(h0, .inr (0, [.ref q1, .int 0, .int 0])), (q1, .inl (cy 3, 6, .inr (.inr (.inr (.inr (va_up (va_up (va_up (va_up (va_up (fun _ => none) 0 (some (g3 0))) 1 (some (g5 0))) 2 (some (g7 0))) 3 (some (g9 0))) 4 (some (g11 0))))))))] ++ roundL cy g3) ++ roundL cy g5) ++ roundL cy g7) ++ roundL cy g9) ++ roundL cy g11) := hD
  refine lv_iinc (v := 5) (lv' := [(1, .int 5), (0, .ref h0)]) hx hb dX0_init_44 hl (k := 0) rfl (by decide) (by decide) rfl (fun ls hl => ?_)
  refine lv_goto (tgt := 25) hx hb dX0_init_47 (by decide) ?_
  refine lv_iload_n hx hb dX0_init_25 rfl (lv_at hl 0 rfl) ?_
  refine lv_bipush (v := 6) hx hb dX0_init_26 (by decide) ?_
  refine lv_icmp_ge (tgt := 50) hx hb dX0_init_28 (by decide) (fun c9 => absurd c9 (by decide)) (fun _ => ?_)
  refine lv_aload_n hx hb dX0_init_31 rfl (lv_at hl 1 rfl) ?_
  refine va_get (D := D) (ci := 0) (v := .ref q1) (C := RX0) (T := TX0) (N := 3) hx hb hts hinX0 hown hK hP 0 rfl rfl 0 (by decide) kf11 (fun _ h9 => h9) rfl dX0_init_32 ?_
  refine lv_iload_n hx hb dX0_init_35 rfl (lv_at hl 0 rfl) ?_
  refine va_new (ci := 2) (fs := [.null, .null, .int 0, .int 0]) (C := RX2) (T := TX2) (N := 4) hx hb hts hinX2 tyX2 tyX2_ok hown kl9 kiX2 kjX2 hK hP hD hS hA rfl dfX2 (Nat.le_of_ble_eq_true rfl) (Nat.le_of_ble_eq_true rfl) dX0_init_36 (fun q12 H hP hD hS => ?_)
  refine W.widen (k := 17) (n := 110) (Nat.le_of_ble_eq_true rfl) (Nat.le_of_ble_eq_true rfl) ?_
  refine lv_dup hx hb dX0_init_39 rfl ?_
  refine k_call (L := roundL cy) (k1 := 19) (s1 := 126) (va_runIN (As := []) (rest := [.ref q12, .int 5, .ref q1]) ⟨hx, hb, hml, hown, hts⟩ (k_X2_init l D cy q12 H.size) ⟨va_cnB 0 hts gX0_init_X2_init_n24 rfl rfl rfl hX.2.1 kjX2 (by decide +kernel) ⟨(Nat.le_of_ble_eq_true rfl), (Nat.le_of_ble_eq_true rfl)⟩, rfl, kmX2⟩ (k_pre hK hX hP) rfl rfl hl.1 rfl (lv_room (Nat.le_of_ble_eq_true rfl)) dX0_init_40 ⟨(Nat.le_of_ble_eq_true rfl), (Nat.le_of_ble_eq_true rfl)⟩) rfl hP hD hS hA rfl rfl (fun g13 H locs hg hP1 hD1 hS1 => ?_)
  clear hP hD hS
  subst hg
  have hP := hP1
  have hD := hD1
  have hS := hS1
  clear hP1 hD1 hS1
  refine k_astq hx hb hK hP hD hS 1 3 17 2 rfl rfl rfl rfl 5 (by decide) (by decide) (by decide) dX0_init_43 (fun H locs hP hD hS => ?_)
  have hP : va_P D vwCl (((((([(h0, .inr (0, [.ref q1, .int 0, .int 0])), (q1, .inl (cy 3, 6, .inr (.inr (.inr (.inr (va_up (va_up (va_up (va_up (va_up (va_up (fun _ => none) 0 (some (g3 0))) 1 (some (g5 0))) 2 (some (g7 0))) 3 (some (g9 0))) 4 (some (g11 0))) 5 (some (g13 0))))))))] ++ roundL cy g3) ++ roundL cy g5) ++ roundL cy g7) ++ roundL cy g9) ++ roundL cy g11) ++ roundL cy g13) H := hP
  have hD : va_D (va_A [(h0, .inr (0, [.null, .int 0, .int 0]))] sz) (((((([(h0, .inr (0, [.ref q1, .int 0, .int 0])), (q1, .inl (cy 3, 6, .inr (.inr (.inr (.inr (va_up (va_up (va_up (va_up (va_up (va_up (fun _ => none) 0 (some (g3 0))) 1 (some (g5 0))) 2 (some (g7 0))) 3 (some (g9 0))) 4 (some (g11 0))) 5 (some (g13 0))))))))] ++ roundL cy g3) ++ roundL cy g5) ++ roundL cy g7) ++ roundL cy g9) ++ roundL cy g11) ++ roundL cy g13) := hD
  refine lv_iinc (v := 6) (lv' := [(1, .int 6), (0, .ref h0)]) hx hb dX0_init_44 hl (k := 0) rfl (by decide) (by decide) rfl (fun ls hl => ?_)
  refine lv_goto (tgt := 25) hx hb dX0_init_47 (by decide) ?_
  refine lv_iload_n hx hb dX0_init_25 rfl (lv_at hl 0 rfl) ?_
  refine lv_bipush (v := 6) hx hb dX0_init_26 (by decide) ?_
  refine lv_icmp_ge (tgt := 50) hx hb dX0_init_28 (by decide) (fun _ => ?_) (fun c9 => absurd (by decide) c9)
  exact k_ret (L := batchL cy) (fun i => [h0, q1, g3 0, g3 1, g3 2, g5 0, g5 1, g5 2, g7 0, g7 1, g7 2, g9 0, g9 1, g9 2, g11 0, g11 1, g11 2, g13 0, g13 1, g13 2].getD i 0) hx hb hr hlocks rfl hP hD hS dX0_init_50
