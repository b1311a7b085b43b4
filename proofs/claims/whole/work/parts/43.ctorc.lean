/-! The class's constructor -/
set_option maxHeartbeats 4000000 in
set_option maxRecDepth 100000 in
theorem k_X6_init (l : Launch) (D : va_G) (cy : Nat → ClassId) (h0 sz : Nat) : Met l yX6_init wsX6_init ({ frames := 3, cells := 97, slots := 1022, locals := 53 }) (va_Pc [.ref h0] (kPre D cy h0 (.inr (5, [.null, .null, .null, .null, .null, .null, .int 0])) sz)) (kQ D h0 (.inr (5, [.null, .null, .null, .null, .null, .null, .int 0])) sz (benchL cy)) 97 1022 (va_A [(h0, .inr (5, [.null, .null, .null, .null, .null, .null, .int 0]))] sz) := by
  refine k_met (cc := cX6_init) (maxL := 2) (by decide) rfl rfl (Nat.le_of_ble_eq_true rfl) ?_
  intro p e s m below meth c S hr hlocks hin hsz hP hK hX hD hA ls hl
  obtain ⟨hx, hb, hml, hown, hts⟩ := S
  have hS : va_S (va_A [(h0, .inr (5, [.null, .null, .null, .null, .null, .null, .int 0]))] sz) s.heap s.heap [] := va_S.rf
  have kaint : (Cond.arrayClass .int).before #[Value.ref h0] s = true := hts _ (by decide +kernel)
  have kf9 : (Cond.fieldLink RX6 9 "BenchRuns" "vialDrops" "[I").before #[Value.ref h0] s = true := hts _ (by decide +kernel)
  have hinX6 : ∀ w ∈ u_ws RX6 TX6 7, w ∈ wsX6_init := by decide +kernel
  have kl13 : (Cond.classLink RX6 13 RX0).before #[Value.ref h0] s = true := hts _ (by decide +kernel)
  have kf15 : (Cond.fieldLink RX6 15 "BenchRuns" "batches" "[LBenchRuns$Batch;").before #[Value.ref h0] s = true := hts _ (by decide +kernel)
  have kl19 : (Cond.classLink RX6 19 RX4).before #[Value.ref h0] s = true := hts _ (by decide +kernel)
  have kf21 : (Cond.fieldLink RX6 21 "BenchRuns" "tools" "[LBenchRuns$Tool;").before #[Value.ref h0] s = true := hts _ (by decide +kernel)
  have kf25 : (Cond.fieldLink RX6 25 "BenchRuns" "laid" "[I").before #[Value.ref h0] s = true := hts _ (by decide +kernel)
  have kl28 : (Cond.classLink RX6 28 RX3).before #[Value.ref h0] s = true := hts _ (by decide +kernel)
  have kiX3 : (Cond.instantiable RX3 6).before #[Value.ref h0] s = true := hts _ (by decide +kernel)
  have kjX3 : (Cond.initialized RX3).before #[Value.ref h0] s = true := hts _ (by decide +kernel)
  have hinX3 : ∀ w ∈ u_ws RX3 TX3 6, w ∈ wsX6_init := by decide +kernel
  have kmX3 : (Cond.instanceMethod yX3_init).before #[Value.ref h0] s = true := hts _ (by decide +kernel)
  have kf31 : (Cond.fieldLink RX6 31 "BenchRuns" "stock" "LBenchRuns$Stock;").before #[Value.ref h0] s = true := hts _ (by decide +kernel)
  have kl35 : (Cond.classLink RX6 35 RX1).before #[Value.ref h0] s = true := hts _ (by decide +kernel)
  have kiX1 : (Cond.instantiable RX1 7).before #[Value.ref h0] s = true := hts _ (by decide +kernel)
  have kjX1 : (Cond.initialized RX1).before #[Value.ref h0] s = true := hts _ (by decide +kernel)
  have hinX1 : ∀ w ∈ u_ws RX1 TX1 7, w ∈ wsX6_init := by decide +kernel
  have kmX1 : (Cond.instanceMethod yX1_init).before #[Value.ref h0] s = true := hts _ (by decide +kernel)
  have kf38 : (Cond.fieldLink RX6 38 "BenchRuns" "log" "LBenchRuns$Log;").before #[Value.ref h0] s = true := hts _ (by decide +kernel)
  have kf42 : (Cond.fieldLink RX6 42 "BenchRuns" "stoppedBy" "I").before #[Value.ref h0] s = true := hts _ (by decide +kernel)
  have kiX0 : (Cond.instantiable RX0 3).before #[Value.ref h0] s = true := hts _ (by decide +kernel)
  have kjX0 : (Cond.initialized RX0).before #[Value.ref h0] s = true := hts _ (by decide +kernel)
  have hinX0 : ∀ w ∈ u_ws RX0 TX0 3, w ∈ wsX6_init := by decide +kernel
  have kmX0 : (Cond.instanceMethod yX0_init).before #[Value.ref h0] s = true := hts _ (by decide +kernel)
  have kk46 : (Cond.methodLink RX6 46 yX0_init).before #[Value.ref h0] s = true := hts _ (by decide +kernel)
  have kiX4 : (Cond.instantiable RX4 3).before #[Value.ref h0] s = true := hts _ (by decide +kernel)
  have kjX4 : (Cond.initialized RX4).before #[Value.ref h0] s = true := hts _ (by decide +kernel)
  have hinX4 : ∀ w ∈ u_ws RX4 TX4 3, w ∈ wsX6_init := by decide +kernel
  have kmX4 : (Cond.instanceMethod yX4_init).before #[Value.ref h0] s = true := hts _ (by decide +kernel)
  refine lv_aload_n hx hb dX6_init_0 rfl (lv_at hl 0 rfl) ?_
  refine W.objInit hx hb hown (hts (.methodLink RX6 1 objectInit) (by decide +kernel)) (hts (.instanceMethod objectInit) (by decide +kernel)) (hts _ (List.mem_of_getElem? (i := 3) rfl)) rfl (by rw [hml]; exact hl.1) rfl dX6_init_1 (Nat.le_of_ble_eq_true rfl) (Nat.le_of_ble_eq_true rfl) ?_
  refine W.eq (g2 := F0 m 4 ls []) rfl ?_
  refine lv_aload_n hx hb dX6_init_4 rfl (lv_at hl 0 rfl) ?_
  refine lv_bipush (v := 8) hx hb dX6_init_5 (by decide) ?_
  refine k_newI hx hb kaint hK hP hD hS hA 0 rfl 8 (by decide) (by decide) (by decide) 1 8 rfl rfl (Nat.le_of_ble_eq_true rfl) (Nat.le_of_ble_eq_true rfl) dX6_init_7 (fun q1 H hP hD hS => ?_)
  have hP : va_P D vwCl ([(h0, .inr (5, [.null, .null, .null, .null, .null, .null, .int 0])), (q1, .inl (cy 0, 8, .inl (fun _ => 0)))]) H := hP
  have hD : va_D (va_A [(h0, .inr (5, [.null, .null, .null, .null, .null, .null, .int 0]))] sz) ([(h0, .inr (5, [.null, .null, .null, .null, .null, .null, .int 0])), (q1, .inl (cy 0, 8, .inl (fun _ => 0)))]) := hD
  refine va_putF (D := D) (ci := 5) (v := .ref q1) (ty := tyX6 0) (C := RX6) (T := TX6) (N := 7) hx hb hts hinX6 tyX6 tyX6_ok nmX6 hown hK hP hD hS 0 rfl rfl 0 (by decide) kf9 (fun _ h9 => h9) rfl hin rfl (tyX6_ok 0 (by decide)) rfl rfl (Nat.le_of_ble_eq_true rfl) dX6_init_9 (fun H locs hP hD hS => ?_)
  have hP : va_P D vwCl ([(h0, .inr (5, [.ref q1, .null, .null, .null, .null, .null, .int 0])), (q1, .inl (cy 0, 8, .inl (fun _ => 0)))]) H := hP
  have hD : va_D (va_A [(h0, .inr (5, [.null, .null, .null, .null, .null, .null, .int 0]))] sz) ([(h0, .inr (5, [.ref q1, .null, .null, .null, .null, .null, .int 0])), (q1, .inl (cy 0, 8, .inl (fun _ => 0)))]) := hD
  refine lv_aload_n hx hb dX6_init_12 rfl (lv_at hl 0 rfl) ?_
  refine lv_iconst (v := 4) hx hb dX6_init_13 (by decide) ?_
  refine k_newQ (C := RX0) hx hb hown kl13 hX.1.2.1 hK hP hD hS hA 2 rfl 4 (by decide) (by decide) (by decide) 2 12 rfl rfl (Nat.le_of_ble_eq_true rfl) (Nat.le_of_ble_eq_true rfl) dX6_init_14 (fun q2 H hP hD hS => ?_)
  have hP : va_P D vwCl ([(h0, .inr (5, [.ref q1, .null, .null, .null, .null, .null, .int 0])), (q1, .inl (cy 0, 8, .inl (fun _ => 0))), (q2, .inl (cy 2, 4, .inr (.inr (.inr (.inr (fun _ => none))))))]) H := hP
  have hD : va_D (va_A [(h0, .inr (5, [.null, .null, .null, .null, .null, .null, .int 0]))] sz) ([(h0, .inr (5, [.ref q1, .null, .null, .null, .null, .null, .int 0])), (q1, .inl (cy 0, 8, .inl (fun _ => 0))), (q2, .inl (cy 2, 4, .inr (.inr (.inr (.inr (fun _ => none))))))]) := hD
  refine va_putF (D := D) (ci := 5) (v := .ref q2) (ty := tyX6 1) (C := RX6) (T := TX6) (N := 7) hx hb hts hinX6 tyX6 tyX6_ok nmX6 hown hK hP hD hS 0 rfl rfl 1 (by decide) kf15 (fun _ h9 => h9) rfl hin rfl (tyX6_ok 1 (by decide)) rfl rfl (Nat.le_of_ble_eq_true rfl) dX6_init_17 (fun H locs hP hD hS => ?_)
  have hP : va_P D vwCl ([(h0, .inr (5, [.ref q1, .ref q2, .null, .null, .null, .null, .int 0])), (q1, .inl (cy 0, 8, .inl (fun _ => 0))), (q2, .inl (cy 2, 4, .inr (.inr (.inr (.inr (fun _ => none))))))]) H := hP
  have hD : va_D (va_A [(h0, .inr (5, [.null, .null, .null, .null, .null, .null, .int 0]))] sz) ([(h0, .inr (5, [.ref q1, .ref q2, .null, .null, .null, .null, .int 0])), (q1, .inl (cy 0, 8, .inl (fun _ => 0))), (q2, .inl (cy 2, 4, .inr (.inr (.inr (.inr (fun _ => none))))))]) := hD
  refine lv_aload_n hx hb dX6_init_20 rfl (lv_at hl 0 rfl) ?_
  refine lv_bipush (v := 6) hx hb dX6_init_21 (by decide) ?_
  refine k_newQ (C := RX4) hx hb hown kl19 hX.1.2.2 hK hP hD hS hA 4 rfl 6 (by decide) (by decide) (by decide) 3 18 rfl rfl (Nat.le_of_ble_eq_true rfl) (Nat.le_of_ble_eq_true rfl) dX6_init_23 (fun q3 H hP hD hS => ?_)
  have hP : va_P D vwCl ([(h0, .inr (5, [.ref q1, .ref q2, .null, .null, .null, .null, .int 0])), (q1, .inl (cy 0, 8, .inl (fun _ => 0))), (q2, .inl (cy 2, 4, .inr (.inr (.inr (.inr (fun _ => none)))))), (q3, .inl (cy 4, 6, .inr (.inr (.inr (.inr (fun _ => none))))))]) H := hP
  have hD : va_D (va_A [(h0, .inr (5, [.null, .null, .null, .null, .null, .null, .int 0]))] sz) ([(h0, .inr (5, [.ref q1, .ref q2, .null, .null, .null, .null, .int 0])), (q1, .inl (cy 0, 8, .inl (fun _ => 0))), (q2, .inl (cy 2, 4, .inr (.inr (.inr (.inr (fun _ => none)))))), (q3, .inl (cy 4, 6, .inr (.inr (.inr (.inr (fun _ => none))))))]) := hD
  refine va_putF (D := D) (ci := 5) (v := .ref q3) (ty := tyX6 2) (C := RX6) (T := TX6) (N := 7) hx hb hts hinX6 tyX6 tyX6_ok nmX6 hown hK hP hD hS 0 rfl rfl 2 (by decide) kf21 (fun _ h9 => h9) rfl hin rfl (tyX6_ok 2 (by decide)) rfl rfl (Nat.le_of_ble_eq_true rfl) dX6_init_26 (fun H locs hP hD hS => ?_)
  have hP : va_P D vwCl ([(h0, .inr (5, [.ref q1, .ref q2, .ref q3, .null, .null, .null, .int 0])), (q1, .inl (cy 0, 8, .inl (fun _ => 0))), (q2, .inl (cy 2, 4, .inr (.inr (.inr (.inr (fun _ => none)))))), (q3, .inl (cy 4, 6, .inr (.inr (.inr (.inr (fun _ => none))))))]) H := hP
  have hD : va_D (va_A [(h0, .inr (5, [.null, .null, .null, .null, .null, .null, .int 0]))] sz) ([(h0, .inr (5, [.ref q1, .ref q2, .ref q3, .null, .null, .null, .int 0])), (q1, .inl (cy 0, 8, .inl (fun _ => 0))), (q2, .inl (cy 2, 4, .inr (.inr (.inr (.inr (fun _ => none)))))), (q3, .inl (cy 4, 6, .inr (.inr (.inr (.inr (fun _ => none))))))]) := hD
  refine lv_aload_n hx hb dX6_init_29 rfl (lv_at hl 0 rfl) ?_
  refine lv_iconst (v := 4) hx hb dX6_init_30 (by decide) ?_
  refine k_newI hx hb kaint hK hP hD hS hA 0 rfl 4 (by decide) (by decide) (by decide) 4 22 rfl rfl (Nat.le_of_ble_eq_true rfl) (Nat.le_of_ble_eq_true rfl) dX6_init_31 (fun q4 H hP hD hS => ?_)
  have hP : va_P D vwCl ([(h0, .inr (5, [.ref q1, .ref q2, .ref q3, .null, .null, .null, .int 0])), (q1, .inl (cy 0, 8, .inl (fun _ => 0))), (q2, .inl (cy 2, 4, .inr (.inr (.inr (.inr (fun _ => none)))))), (q3, .inl (cy 4, 6, .inr (.inr (.inr (.inr (fun _ => none)))))), (q4, .inl (cy 0, 4, .inl (fun _ => 0)))]) H := hP
  have hD : va_D (va_A [(h0, .inr (5, [.null, .null, .null, .null, .null, .null, .int 0]))] sz) ([(h0, .inr (5, [.ref q1, .ref q2, .ref q3, .null, .null, .null, .int 0])), (q1, .inl (cy 0, 8, .inl (fun _ => 0))), (q2, .inl (cy 2, 4, .inr (.inr (.inr (.inr (fun _ => none)))))), (q3, .inl (cy 4, 6, .inr (.inr (.inr (.inr (fun _ => none)))))), (q4, .inl (cy 0, 4, .inl (fun _ => 0)))]) := hD
  refine va_putF (D := D) (ci := 5) (v := .ref q4) (ty := tyX6 3) (C := RX6) (T := TX6) (N := 7) hx hb hts hinX6 tyX6 tyX6_ok nmX6 hown hK hP hD hS 0 rfl rfl 3 (by decide) kf25 (fun _ h9 => h9) rfl hin rfl (tyX6_ok 3 (by decide)) rfl rfl (Nat.le_of_ble_eq_true rfl) dX6_init_33 (fun H locs hP hD hS => ?_)
  have hP : va_P D vwCl ([(h0, .inr (5, [.ref q1, .ref q2, .ref q3, .ref q4, .null, .null, .int 0])), (q1, .inl (cy 0, 8, .inl (fun _ => 0))), (q2, .inl (cy 2, 4, .inr (.inr (.inr (.inr (fun _ => none)))))), (q3, .inl (cy 4, 6, .inr (.inr (.inr (.inr (fun _ => none)))))), (q4, .inl (cy 0, 4, .inl (fun _ => 0)))]) H := hP
  have hD : va_D (va_A [(h0, .inr (5, [.null, .null, .null, .null, .null, .null, .int 0]))] sz) ([(h0, .inr (5, [.ref q1, .ref q2, .ref q3, .ref q4, .null, .null, .int 0])), (q1, .inl (cy 0, 8, .inl (fun _ => 0))), (q2, .inl (cy 2, 4, .inr (.inr (.inr (.inr (fun _ => none)))))), (q3, .inl (cy 4, 6, .inr (.inr (.inr (.inr (fun _ => none)))))), (q4, .inl (cy 0, 4, .inl (fun _ => 0)))]) := hD
  refine lv_aload_n hx hb dX6_init_36 rfl (lv_at hl 0 rfl) ?_
  refine va_new (ci := 3) (fs := [.null, .int 0, .int 0, .int 0, .int 0, .int 0]) (C := RX3) (T := TX3) (N := 6) hx hb hts hinX3 tyX3 tyX3_ok hown kl28 kiX3 kjX3 hK hP hD hS hA rfl dfX3 (Nat.le_of_ble_eq_true rfl) (Nat.le_of_ble_eq_true rfl) dX6_init_37 (fun q5 H hP hD hS => ?_)
  refine W.widen (k := 5) (n := 28) (Nat.le_of_ble_eq_true rfl) (Nat.le_of_ble_eq_true rfl) ?_
  refine lv_dup hx hb dX6_init_40 rfl ?_
  refine k_call (L := stockL cy) (k1 := 6) (s1 := 46) (va_runIN (As := []) (rest := [.ref q5, .ref h0]) ⟨hx, hb, hml, hown, hts⟩ (k_X3_init l D cy q5 H.size) ⟨va_cnB 0 hts gX6_init_X3_init_n30 rfl rfl rfl hX.2.2.1 kjX3 (by decide +kernel) ⟨(Nat.le_of_ble_eq_true rfl), (Nat.le_of_ble_eq_true rfl)⟩, rfl, kmX3⟩ (k_pre hK hX hP) rfl rfl hl.1 rfl (lv_room (Nat.le_of_ble_eq_true rfl)) dX6_init_41 ⟨(Nat.le_of_ble_eq_true rfl), (Nat.le_of_ble_eq_true rfl)⟩) rfl hP hD hS hA rfl rfl (fun g6 H locs hg hP1 hD1 hS1 => ?_)
  clear hP hD hS
  subst hg
  have hP := hP1
  have hD := hD1
  have hS := hS1
  clear hP1 hD1 hS1
  refine va_putF (D := D) (ci := 5) (v := .ref (g6 0)) (ty := tyX6 4) (C := RX6) (T := TX6) (N := 7) hx hb hts hinX6 tyX6 tyX6_ok nmX6 hown hK hP hD hS 0 rfl rfl 4 (by decide) kf31 (fun _ h9 => h9) rfl hin rfl (tyX6_ok 4 (by decide)) rfl rfl (Nat.le_of_ble_eq_true rfl) dX6_init_44 (fun H locs hP hD hS => ?_)
  have hP : va_P D vwCl ([(h0, .inr (5, [.ref q1, .ref q2, .ref q3, .ref q4, .ref (g6 0), .null, .int 0])), (q1, .inl (cy 0, 8, .inl (fun _ => 0))), (q2, .inl (cy 2, 4, .inr (.inr (.inr (.inr (fun _ => none)))))), (q3, .inl (cy 4, 6, .inr (.inr (.inr (.inr (fun _ => none)))))), (q4, .inl (cy 0, 4, .inl (fun _ => 0)))] ++ stockL cy g6) H := hP
  have hD : va_D (va_A [(h0, .inr (5, [.null, .null, .null, .null, .null, .null, .int 0]))] sz) ([(h0, .inr (5, [.ref q1, .ref q2, .ref q3, .ref q4, .ref (g6 0), .null, .int 0])), (q1, .inl (cy 0, 8, .inl (fun _ => 0))), (q2, .inl (cy 2, 4, .inr (.inr (.inr (.inr (fun _ => none)))))), (q3, .inl (cy 4, 6, .inr (.inr (.inr (.inr (fun _ => none)))))), (q4, .inl (cy 0, 4, .inl (fun _ => 0)))] ++ stockL cy g6) := hD
  refine lv_aload_n hx hb dX6_init_47 rfl (lv_at hl 0 rfl) ?_
  refine va_new (ci := 1) (fs := [.null, .null, .int 0, .null, .int 0, .null, .int 0]) (C := RX1) (T := TX1) (N := 7) hx hb hts hinX1 tyX1 tyX1_ok hown kl35 kiX1 kjX1 hK hP hD hS hA rfl dfX1 (Nat.le_of_ble_eq_true rfl) (Nat.le_of_ble_eq_true rfl) dX6_init_48 (fun q7 H hP hD hS => ?_)
  refine W.widen (k := 7) (n := 53) (Nat.le_of_ble_eq_true rfl) (Nat.le_of_ble_eq_true rfl) ?_
  refine lv_dup hx hb dX6_init_51 rfl ?_
  refine k_call (L := logL cy) (k1 := 11) (s1 := 488) (va_runIN (As := []) (rest := [.ref q7, .ref h0]) ⟨hx, hb, hml, hown, hts⟩ (k_X1_init l D cy q7 H.size) ⟨va_cnB 0 hts gX6_init_X1_init_n37 rfl rfl rfl hX.2.2.2.1 kjX1 (by decide +kernel) ⟨(Nat.le_of_ble_eq_true rfl), (Nat.le_of_ble_eq_true rfl)⟩, rfl, kmX1⟩ (k_pre hK hX hP) rfl rfl hl.1 rfl (lv_room (Nat.le_of_ble_eq_true rfl)) dX6_init_52 ⟨(Nat.le_of_ble_eq_true rfl), (Nat.le_of_ble_eq_true rfl)⟩) rfl hP hD hS hA rfl rfl (fun g8 H locs hg hP1 hD1 hS1 => ?_)
  clear hP hD hS
  subst hg
  have hP := hP1
  have hD := hD1
  have hS := hS1
  clear hP1 hD1 hS1
  refine va_putF (D := D) (ci := 5) (v := .ref (g8 0)) (ty := tyX6 5) (C := RX6) (T := TX6) (N := 7) hx hb hts hinX6 tyX6 tyX6_ok nmX6 hown hK hP hD hS 0 rfl rfl 5 (by decide) kf38 (fun _ h9 => h9) rfl hin rfl (tyX6_ok 5 (by decide)) rfl rfl (Nat.le_of_ble_eq_true rfl) dX6_init_55 (fun H locs hP hD hS => ?_)
  have hP : va_P D vwCl (([(h0, .inr (5, [.ref q1, .ref q2, .ref q3, .ref q4, .ref (g6 0), .ref (g8 0), .int 0])), (q1, .inl (cy 0, 8, .inl (fun _ => 0))), (q2, .inl (cy 2, 4, .inr (.inr (.inr (.inr (fun _ => none)))))), (q3, .inl (cy 4, 6, .inr (.inr (.inr (.inr (fun _ => none)))))), (q4, .inl (cy 0, 4, .inl (fun _ => 0)))] ++ stockL cy g6) ++ logL cy g8) H := hP
  have hD : va_D (va_A [(h0, .inr (5, [.null, .null, .null, .null, .null, .null, .int 0]))] sz) (([(h0, .inr (5, [.ref q1, .ref q2, .ref q3, .ref q4, .ref (g6 0), .ref (g8 0), .int 0])), (q1, .inl (cy 0, 8, .inl (fun _ => 0))), (q2, .inl (cy 2, 4, .inr (.inr (.inr (.inr (fun _ => none)))))), (q3, .inl (cy 4, 6, .inr (.inr (.inr (.inr (fun _ => none)))))), (q4, .inl (cy 0, 4, .inl (fun _ => 0)))] ++ stockL cy g6) ++ logL cy g8) := hD
  refine lv_aload_n hx hb dX6_init_58 rfl (lv_at hl 0 rfl) ?_
  refine lv_iconst (v := 0) hx hb dX6_init_59 (by decide) ?_
  refine va_put (D := D) (ci := 5) (v := .int 0) (ty := tyX6 6) (C := RX6) (T := TX6) (N := 7) hx hb hts hinX6 tyX6 tyX6_ok nmX6 hown hK hP hD hS 0 rfl rfl 6 (by decide) kf42 (fun _ h9 => h9) rfl (tyX6_ok 6 (by decide)) rfl rfl (Nat.le_of_ble_eq_true rfl) dX6_init_60 (fun H locs hP hD hS => ?_)
  have hP : va_P D vwCl (([(h0, .inr (5, [.ref q1, .ref q2, .ref q3, .ref q4, .ref (g6 0), .ref (g8 0), .int 0])), (q1, .inl (cy 0, 8, .inl (fun _ => 0))), (q2, .inl (cy 2, 4, .inr (.inr (.inr (.inr (fun _ => none)))))), (q3, .inl (cy 4, 6, .inr (.inr (.inr (.inr (fun _ => none)))))), (q4, .inl (cy 0, 4, .inl (fun _ => 0)))] ++ stockL cy g6) ++ logL cy g8) H := hP
  have hD : va_D (va_A [(h0, .inr (5, [.null, .null, .null, .null, .null, .null, .int 0]))] sz) (([(h0, .inr (5, [.ref q1, .ref q2, .ref q3, .ref q4, .ref (g6 0), .ref (g8 0), .int 0])), (q1, .inl (cy 0, 8, .inl (fun _ => 0))), (q2, .inl (cy 2, 4, .inr (.inr (.inr (.inr (fun _ => none)))))), (q3, .inl (cy 4, 6, .inr (.inr (.inr (.inr (fun _ => none)))))), (q4, .inl (cy 0, 4, .inl (fun _ => 0)))] ++ stockL cy g6) ++ logL cy g8) := hD
  refine lv_iconst (v := 4) hx hb dX6_init_63 (by decide) ?_
  refine lv_istore_n (lv' := [(1, .int 4), (0, .ref h0)]) hx hb dX6_init_64 rfl hl (by decide) rfl (fun ls hl => ?_)
  refine lv_iload_n hx hb dX6_init_65 rfl (lv_at hl 0 rfl) ?_
  refine lv_bipush (v := 8) hx hb dX6_init_66 (by decide) ?_
  refine lv_icmp_ge (tgt := 84) hx hb dX6_init_68 (by decide) (fun c9 => absurd c9 (by decide)) (fun _ => ?_)
  refine lv_aload_n hx hb dX6_init_71 rfl (lv_at hl 1 rfl) ?_
  refine va_get (D := D) (ci := 5) (v := .ref q1) (C := RX6) (T := TX6) (N := 7) hx hb hts hinX6 hown hK hP 0 rfl rfl 0 (by decide) kf9 (fun _ h9 => h9) rfl dX6_init_72 ?_
  refine lv_iload_n hx hb dX6_init_75 rfl (lv_at hl 0 rfl) ?_
  refine lv_iconst (v := (-1)) hx hb dX6_init_76 (by decide) ?_
  refine k_iast hx hb hK hP hD hS 1 0 rfl rfl 4 (by decide) (by decide) (by decide) dX6_init_77 (fun H locs hP hD hS => ?_)
  have hP : va_P D vwCl (([(h0, .inr (5, [.ref q1, .ref q2, .ref q3, .ref q4, .ref (g6 0), .ref (g8 0), .int 0])), (q1, .inl (cy 0, 8, .inl (upd (fun _ => 0) 4 (-1)))), (q2, .inl (cy 2, 4, .inr (.inr (.inr (.inr (fun _ => none)))))), (q3, .inl (cy 4, 6, .inr (.inr (.inr (.inr (fun _ => none)))))), (q4, .inl (cy 0, 4, .inl (fun _ => 0)))] ++ stockL cy g6) ++ logL cy g8) H := hP
  have hD : va_D (va_A [(h0, .inr (5, [.null, .null, .null, .null, .null, .null, .int 0]))] sz) (([(h0, .inr (5, [.ref q1, .ref q2, .ref q3, .ref q4, .ref (g6 0), .ref (g8 0), .int 0])), (q1, .inl (cy 0, 8, .inl (upd (fun _ => 0) 4 (-1)))), (q2, .inl (cy 2, 4, .inr (.inr (.inr (.inr (fun _ => none)))))), (q3, .inl (cy 4, 6, .inr (.inr (.inr (.inr (fun _ => none)))))), (q4, .inl (cy 0, 4, .inl (fun _ => 0)))] ++ stockL cy g6) ++ logL cy g8) := hD
  refine lv_iinc (v := 5) (lv' := [(1, .int 5), (0, .ref h0)]) hx hb dX6_init_78 hl (k := 0) rfl (by decide) (by decide) rfl (fun ls hl => ?_)
  refine lv_goto (tgt := 65) hx hb dX6_init_81 (by decide) ?_
  refine lv_iload_n hx hb dX6_init_65 rfl (lv_at hl 0 rfl) ?_
  refine lv_bipush (v := 8) hx hb dX6_init_66 (by decide) ?_
  refine lv_icmp_ge (tgt := 84) hx hb dX6_init_68 (by decide) (fun c9 => absurd c9 (by decide)) (fun _ => ?_)
  refine lv_aload_n hx hb dX6_init_71 rfl (lv_at hl 1 rfl) ?_
  refine va_get (D := D) (ci := 5) (v := .ref q1) (C := RX6) (T := TX6) (N := 7) hx hb hts hinX6 hown hK hP 0 rfl rfl 0 (by decide) kf9 (fun _ h9 => h9) rfl dX6_init_72 ?_
  refine lv_iload_n hx hb dX6_init_75 rfl (lv_at hl 0 rfl) ?_
  refine lv_iconst (v := (-1)) hx hb dX6_init_76 (by decide) ?_
  refine k_iast hx hb hK hP hD hS 1 0 rfl rfl 5 (by decide) (by decide) (by decide) dX6_init_77 (fun H locs hP hD hS => ?_)
  have hP : va_P D vwCl (([(h0, .inr (5, [.ref q1, .ref q2, .ref q3, .ref q4, .ref (g6 0), .ref (g8 0), .int 0])), (q1, .inl (cy 0, 8, .inl (upd (upd (fun _ => 0) 4 (-1)) 5 (-1)))), (q2, .inl (cy 2, 4, .inr (.inr (.inr (.inr (fun _ => none)))))), (q3, .inl (cy 4, 6, .inr (.inr (.inr (.inr (fun _ => none)))))), (q4, .inl (cy 0, 4, .inl (fun _ => 0)))] ++ stockL cy g6) ++ logL cy g8) H := hP
  have hD : va_D (va_A [(h0, .inr (5, [.null, .null, .null, .null, .null, .null, .int 0]))] sz) (([(h0, .inr (5, [.ref q1, .ref q2, .ref q3, .ref q4, .ref (g6 0), .ref (g8 0), .int 0])), (q1, .inl (cy 0, 8, .inl (upd (upd (fun _ => 0) 4 (-1)) 5 (-1)))), (q2, .inl (cy 2, 4, .inr (.inr (.inr (.inr (fun _ => none)))))), (q3, .inl (cy 4, 6, .inr (.inr (.inr (.inr (fun _ => none)))))), (q4, .inl (cy 0, 4, .inl (fun _ => 0)))] ++ stockL cy g6) ++ logL cy g8) := hD
  refine lv_iinc (v := 6) (lv' := [(1, .int 6), (0, .ref h0)]) hx hb dX6_init_78 hl (k := 0) rfl (by decide) (by decide) rfl (fun ls hl => ?_)
  refine lv_goto (tgt := 65) hx hb dX6_init_81 (by decide) ?_
  refine lv_iload_n hx hb dX6_init_65 rfl (lv_at hl 0 rfl) ?_
  refine lv_bipush (v := 8) hx hb dX6_init_66 (by decide) ?_
  refine lv_icmp_ge (tgt := 84) hx hb dX6_init_68 (by decide) (fun c9 => absurd c9 (by decide)) (fun _ => ?_)
  refine lv_aload_n hx hb dX6_init_71 rfl (lv_at hl 1 rfl) ?_
  refine va_get (D := D) (ci := 5) (v := .ref q1) (C := RX6) (T := TX6) (N := 7) hx hb hts hinX6 hown hK hP 0 rfl rfl 0 (by decide) kf9 (fun _ h9 => h9) rfl dX6_init_72 ?_
  refine lv_iload_n hx hb dX6_init_75 rfl (lv_at hl 0 rfl) ?_
  refine lv_iconst (v := (-1)) hx hb dX6_init_76 (by decide) ?_
  refine k_iast hx hb hK hP hD hS 1 0 rfl rfl 6 (by decide) (by decide) (by decide) dX6_init_77 (fun H locs hP hD hS => ?_)
  have hP : va_P D vwCl (([(h0, .inr (5, [.ref q1, .ref q2, .ref q3, .ref q4, .ref (g6 0), .ref (g8 0), .int 0])), (q1, .inl (cy 0, 8, .inl (upd (upd (upd (fun _ => 0) 4 (-1)) 5 (-1)) 6 (-1)))), (q2, .inl (cy 2, 4, .inr (.inr (.inr (.inr (fun _ => none)))))), (q3, .inl (cy 4, 6, .inr (.inr (.inr (.inr (fun _ => none)))))), (q4, .inl (cy 0, 4, .inl (fun _ => 0)))] ++ stockL cy g6) ++ logL cy g8) H := hP
  have hD : va_D (va_A [(h0, .inr (5, [.null, .null, .null, .null, .null, .null, .int 0]))] sz) (([(h0, .inr (5, [.ref q1, .ref q2, .ref q3, .ref q4, .ref (g6 0), .ref (g8 0), .int 0])), (q1, .inl (cy 0, 8, .inl (upd (upd (upd (fun _ => 0) 4 (-1)) 5 (-1)) 6 (-1)))), (q2, .inl (cy 2, 4, .inr (.inr (.inr (.inr (fun _ => none)))))), (q3, .inl (cy 4, 6, .inr (.inr (.inr (.inr (fun _ => none)))))), (q4, .inl (cy 0, 4, .inl (fun _ => 0)))] ++ stockL cy g6) ++ logL cy g8) := hD
  refine lv_iinc (v := 7) (lv' := [(1, .int 7), (0, .ref h0)]) hx hb dX6_init_78 hl (k := 0) rfl (by decide) (by decide) rfl (fun ls hl => ?_)
  refine lv_goto (tgt := 65) hx hb dX6_init_81 (by decide) ?_
  refine lv_iload_n hx hb dX6_init_65 rfl (lv_at hl 0 rfl) ?_
  refine lv_bipush (v := 8) hx hb dX6_init_66 (by decide) ?_
  refine lv_icmp_ge (tgt := 84) hx hb dX6_init_68 (by decide) (fun c9 => absurd c9 (by decide)) (fun _ => ?_)
  refine lv_aload_n hx hb dX6_init_71 rfl (lv_at hl 1 rfl) ?_
  refine va_get (D := D) (ci := 5) (v := .ref q1) (C := RX6) (T := TX6) (N := 7) hx hb hts hinX6 hown hK hP 0 rfl rfl 0 (by decide) kf9 (fun _ h9 => h9) rfl dX6_init_72 ?_
  refine lv_iload_n hx hb dX6_init_75 rfl (lv_at hl 0 rfl) ?_
  refine lv_iconst (v := (-1)) hx hb dX6_init_76 (by decide) ?_
  refine k_iast hx hb hK hP hD hS 1 0 rfl rfl 7 (by decide) (by decide) (by decide) dX6_init_77 (fun H locs hP hD hS => ?_)
  have hP : va_P D vwCl (([(h0, .inr (5, [.ref q1, .ref q2, .ref q3, .ref q4, .ref (g6 0), .ref (g8 0), .int 0])), (q1, .inl (cy 0, 8, .inl (upd (upd (upd (upd (fun _ => 0) 4 (-1)) 5 (-1)) 6 (-1)) 7 (-1)))), (q2, .inl (cy 2, 4, .inr (.inr (.inr (.inr (fun _ => none)))))), (q3, .inl (cy 4, 6, .inr (.inr (.inr (.inr (fun _ => none)))))), (q4, .inl (cy 0, 4, .inl (fun _ => 0)))] ++ stockL cy g6) ++ logL cy g8) H := hP
  have hD : va_D (va_A [(h0, .inr (5, [.null, .null, .null, .null, .null, .null, .int 0]))] sz) (([(h0, .inr (5, [.ref q1, .ref q2, .ref q3, .ref q4, .ref (g6 0), .ref (g8 0), .int 0])), (q1, .inl (cy 0, 8, .inl (upd (upd (upd (upd (fun _ => 0) 4 (-1)) 5 (-1)) 6 (-1)) 7 (-1)))), (q2, .inl (cy 2, 4, .inr (.inr (.inr (.inr (fun _ => none)))))), (q3, .inl (cy 4, 6, .inr (.inr (.inr (.inr (fun _ => none)))))), (q4, .inl (cy 0, 4, .inl (fun _ => 0)))] ++ stockL cy g6) ++ logL cy g8) := hD
  refine lv_iinc (v := 8) (lv' := [(1, .int 8), (0, .ref h0)]) hx hb dX6_init_78 hl (k := 0) rfl (by decide) (by decide) rfl (fun ls hl => ?_)
  refine lv_goto (tgt := 65) hx hb dX6_init_81 (by decide) ?_
  refine lv_iload_n hx hb dX6_init_65 rfl (lv_at hl 0 rfl) ?_
  refine lv_bipush (v := 8) hx hb dX6_init_66 (by decide) ?_
  refine lv_icmp_ge (tgt := 84) hx hb dX6_init_68 (by decide) (fun _ => ?_) (fun c9 => absurd (by decide) c9)
  refine lv_iconst (v := 0) hx hb dX6_init_84 (by decide) ?_
  refine lv_istore_n (lv' := [(1, .int 0), (0, .ref h0)]) hx hb dX6_init_85 rfl hl (by decide) rfl (fun ls hl => ?_)
  refine lv_iload_n hx hb dX6_init_86 rfl (lv_at hl 0 rfl) ?_
  refine lv_iconst (v := 4) hx hb dX6_init_87 (by decide) ?_
  refine lv_icmp_ge (tgt := 110) hx hb dX6_init_88 (by decide) (fun c9 => absurd c9 (by decide)) (fun _ => ?_)
  refine lv_aload_n hx hb dX6_init_91 rfl (lv_at hl 1 rfl) ?_
  refine va_get (D := D) (ci := 5) (v := .ref q2) (C := RX6) (T := TX6) (N := 7) hx hb hts hinX6 hown hK hP 0 rfl rfl 1 (by decide) kf15 (fun _ h9 => h9) rfl dX6_init_92 ?_
  refine lv_iload_n hx hb dX6_init_95 rfl (lv_at hl 0 rfl) ?_
  refine va_new (ci := 0) (fs := [.null, .int 0, .int 0]) (C := RX0) (T := TX0) (N := 3) hx hb hts hinX0 tyX0 tyX0_ok hown kl13 kiX0 kjX0 hK hP hD hS hA rfl dfX0 (Nat.le_of_ble_eq_true rfl) (Nat.le_of_ble_eq_true rfl) dX6_init_96 (fun q9 H hP hD hS => ?_)
  refine W.widen (k := 12) (n := 491) (Nat.le_of_ble_eq_true rfl) (Nat.le_of_ble_eq_true rfl) ?_
  refine lv_dup hx hb dX6_init_99 rfl ?_
  refine k_call (L := batchL cy) (k1 := 31) (s1 := 617) (va_runI (As := []) (rest := [.ref q9, .int 0, .ref q2]) ⟨hx, hb, hml, hown, hts⟩ (k_X0_init l D cy q9 H.size) (cwI 0 hts gX6_init_X0_init rfl rfl rfl kjX0 kk46 kmX0 rfl (by decide +kernel) ⟨(Nat.le_of_ble_eq_true rfl), (Nat.le_of_ble_eq_true rfl)⟩) (k_pre hK hX hP) rfl rfl hl.1 rfl (lv_room (Nat.le_of_ble_eq_true rfl)) dX6_init_100 ⟨(Nat.le_of_ble_eq_true rfl), (Nat.le_of_ble_eq_true rfl)⟩) rfl hP hD hS hA rfl rfl (fun g10 H locs hg hP1 hD1 hS1 => ?_)
  clear hP hD hS
  subst hg
  have hP := hP1
  have hD := hD1
  have hS := hS1
  clear hP1 hD1 hS1
  refine k_astq hx hb hK hP hD hS 2 2 12 0 rfl rfl rfl rfl 0 (by decide) (by decide) (by decide) dX6_init_103 (fun H locs hP hD hS => ?_)
  have hP : va_P D vwCl ((([(h0, .inr (5, [.ref q1, .ref q2, .ref q3, .ref q4, .ref (g6 0), .ref (g8 0), .int 0])), (q1, .inl (cy 0, 8, .inl (upd (upd (upd (upd (fun _ => 0) 4 (-1)) 5 (-1)) 6 (-1)) 7 (-1)))), (q2, .inl (cy 2, 4, .inr (.inr (.inr (.inr (va_up (fun _ => none) 0 (some (g10 0)))))))), (q3, .inl (cy 4, 6, .inr (.inr (.inr (.inr (fun _ => none)))))), (q4, .inl (cy 0, 4, .inl (fun _ => 0)))] ++ stockL cy g6) ++ logL cy g8) ++ batchL cy g10) H := hP
  have hD : va_D (va_A [(h0, .inr (5, [.null, .null, .null, .null, .null, .null, .int 0]))] sz) ((([(h0, .inr (5, [.ref q1, .ref q2, .ref q3, .ref q4, .ref (g6 0), .ref (g8 0), .int 0])), (q1, .inl (cy 0, 8, .inl (upd (upd (upd (upd (fun _ => 0) 4 (-1)) 5 (-1)) 6 (-1)) 7 (-1)))), (q2, .inl (cy 2, 4, .inr (.inr (.inr (.inr (va_up (fun _ => none) 0 (some (g10 0)))))))), (q3, .inl (cy 4, 6, .inr (.inr (.inr (.inr (fun _ => none)))))), (q4, .inl (cy 0, 4, .inl (fun _ => 0)))] ++ stockL cy g6) ++ logL cy g8) ++ batchL cy g10) := hD
  refine lv_iinc (v := 1) (lv' := [(1, .int 1), (0, .ref h0)]) hx hb dX6_init_104 hl (k := 0) rfl (by decide) (by decide) rfl (fun ls hl => ?_)
  refine lv_goto (tgt := 86) hx hb dX6_init_107 (by decide) ?_
  refine lv_iload_n hx hb dX6_init_86 rfl (lv_at hl 0 rfl) ?_
  refine lv_iconst (v := 4) hx hb dX6_init_87 (by decide) ?_
  refine lv_icmp_ge (tgt := 110) hx hb dX6_init_88 (by decide) (fun c9 => absurd c9 (by decide)) (fun _ => ?_)
  refine lv_aload_n hx hb dX6_init_91 rfl (lv_at hl 1 rfl) ?_
  refine va_get (D := D) (ci := 5) (v := .ref q2) (C := RX6) (T := TX6) (N := 7) hx hb hts hinX6 hown hK hP 0 rfl rfl 1 (by decide) kf15 (fun _ h9 => h9) rfl dX6_init_92 ?_
  refine lv_iload_n hx hb dX6_init_95 rfl (lv_at hl 0 rfl) ?_
  refine va_new (ci := 0) (fs := [.null, .int 0, .int 0]) (C := RX0) (T := TX0) (N := 3) hx hb hts hinX0 tyX0 tyX0_ok hown kl13 kiX0 kjX0 hK hP hD hS hA rfl dfX0 (Nat.le_of_ble_eq_true rfl) (Nat.le_of_ble_eq_true rfl) dX6_init_96 (fun q11 H hP hD hS => ?_)
  refine W.widen (k := 32) (n := 620) (Nat.le_of_ble_eq_true rfl) (Nat.le_of_ble_eq_true rfl) ?_
  refine lv_dup hx hb dX6_init_99 rfl ?_
  refine k_call (L := batchL cy) (k1 := 51) (s1 := 746) (va_runI (As := []) (rest := [.ref q11, .int 1, .ref q2]) ⟨hx, hb, hml, hown, hts⟩ (k_X0_init l D cy q11 H.size) (cwI 0 hts gX6_init_X0_init rfl rfl rfl kjX0 kk46 kmX0 rfl (by decide +kernel) ⟨(Nat.le_of_ble_eq_true rfl), (Nat.le_of_ble_eq_true rfl)⟩) (k_pre hK hX hP) rfl rfl hl.1 rfl (lv_room (Nat.le_of_ble_eq_true rfl)) dX6_init_100 ⟨(Nat.le_of_ble_eq_true rfl), (Nat.le_of_ble_eq_true rfl)⟩) rfl hP hD hS hA rfl rfl (fun g12 H locs hg hP1 hD1 hS1 => ?_)
  clear hP hD hS
  subst hg
  have hP := hP1
  have hD := hD1
  have hS := hS1
  clear hP1 hD1 hS1
  refine k_astq hx hb hK hP hD hS 2 2 32 0 rfl rfl rfl rfl 1 (by decide) (by decide) (by decide) dX6_init_103 (fun H locs hP hD hS => ?_)
  have hP : va_P D vwCl (((([(h0, .inr (5, [.ref q1, .ref q2, .ref q3, .ref q4, .ref (g6 0), .ref (g8 0), .int 0])), (q1, .inl (cy 0, 8, .inl (upd (upd (upd (upd (fun _ => 0) 4 (-1)) 5 (-1)) 6 (-1)) 7 (-1)))), (q2, .inl (cy 2, 4, .inr (.inr (.inr (.inr (va_up (va_up (fun _ => none) 0 (some (g10 0))) 1 (some (g12 0)))))))), (q3, .inl (cy 4, 6, .inr (.inr (.inr (.inr (fun _ => none)))))), (q4, .inl (cy 0, 4, .inl (fun _ => 0)))] ++ stockL cy g6) ++ logL cy g8) ++ batchL cy g10) ++ batchL cy g12) H := hP
  have hD : va_D (va_A [(h0, .inr (5, [.null, .null, .null, .null, .null, .null, .int 0]))] sz) (((([(h0, .inr (5, [.ref q1, .ref q2, .ref q3, .ref q4, .ref (g6 0), .ref (g8 0), .int 0])), (q1, .inl (cy 0, 8, .inl (upd (upd (upd (upd (fun _ => 0) 4 (-1)) 5 (-1)) 6 (-1)) 7 (-1)))), (q2, .inl (cy 2, 4, .inr (.inr (.inr (.inr (va_up (va_up (fun _ => none) 0 (some (g10 0))) 1 (some (g12 0)))))))), (q3, .inl (cy 4, 6, .inr (.inr (.inr (.inr (fun _ => none)))))), (q4, .inl (cy 0, 4, .inl (fun _ => 0)))] ++ stockL cy g6) ++ logL cy g8) ++ batchL cy g10) ++ batchL cy g12) := hD
  refine lv_iinc (v := 2) (lv' := [(1, .int 2), (0, .ref h0)]) hx hb dX6_init_104 hl (k := 0) rfl (by decide) (by decide) rfl (fun ls hl => ?_)
  refine lv_goto (tgt := 86) hx hb dX6_init_107 (by decide) ?_
  refine lv_iload_n hx hb dX6_init_86 rfl (lv_at hl 0 rfl) ?_
  refine lv_iconst (v := 4) hx hb dX6_init_87 (by decide) ?_
  refine lv_icmp_ge (tgt := 110) hx hb dX6_init_88 (by decide) (fun c9 => absurd c9 (by decide)) (fun _ => ?_)
  refine lv_aload_n hx hb dX6_init_91 rfl (lv_at hl 1 rfl) ?_
  refine va_get (D := D) (ci := 5) (v := .ref q2) (C := RX6) (T := TX6) (N := 7) hx hb hts hinX6 hown hK hP 0 rfl rfl 1 (by decide) kf15 (fun _ h9 => h9) rfl dX6_init_92 ?_
  refine lv_iload_n hx hb dX6_init_95 rfl (lv_at hl 0 rfl) ?_
  refine va_new (ci := 0) (fs := [.null, .int 0, .int 0]) (C := RX0) (T := TX0) (N := 3) hx hb hts hinX0 tyX0 tyX0_ok hown kl13 kiX0 kjX0 hK hP hD hS hA rfl dfX0 (Nat.le_of_ble_eq_true rfl) (Nat.le_of_ble_eq_true rfl) dX6_init_96 (fun q13 H hP hD hS => ?_)
  refine W.widen (k := 52) (n := 749) (Nat.le_of_ble_eq_true rfl) (Nat.le_of_ble_eq_true rfl) ?_
  refine lv_dup hx hb dX6_init_99 rfl ?_
  refine k_call (L := batchL cy) (k1 := 71) (s1 := 875) (va_runI (As := []) (rest := [.ref q13, .int 2, .ref q2]) ⟨hx, hb, hml, hown, hts⟩ (k_X0_init l D cy q13 H.size) (cwI 0 hts gX6_init_X0_init rfl rfl rfl kjX0 kk46 kmX0 rfl (by decide +kernel) ⟨(Nat.le_of_ble_eq_true rfl), (Nat.le_of_ble_eq_true rfl)⟩) (k_pre hK hX hP) rfl rfl hl.1 rfl (lv_room (Nat.le_of_ble_eq_true rfl)) dX6_init_100 ⟨(Nat.le_of_ble_eq_true rfl), (Nat.le_of_ble_eq_true rfl)⟩) rfl hP hD hS hA rfl rfl (fun g14 H locs hg hP1 hD1 hS1 => ?_)
  clear hP hD hS
  subst hg
  have hP := hP1
  have hD := hD1
  have hS := hS1
  clear hP1 hD1 hS1
  refine k_astq hx hb hK hP hD hS 2 2 52 0 rfl rfl rfl rfl 2 (by decide) (by decide) (by decide) dX6_init_103 (fun H locs hP hD hS => ?_)
  have hP : va_P D vwCl ((((([(h0, .inr (5, [.ref q1, .ref q2, .ref q3, .ref q4, .ref (g6 0), .ref (g8 0), .int 0])), (q1, .inl (cy 0, 8, .inl (upd (upd (upd (upd (fun _ => 0) 4 (-1)) 5 (-1)) 6 (-1)) 7 (-1)))), (q2, .inl (cy 2, 4, .inr (.inr (.inr (.inr (va_up (va_up (va_up (fun _ => none) 0 (some (g10 0))) 1 (some (g12 0))) 2 (some (g14 0)))))))), (q3, .inl (cy 4, 6, .inr (.inr (.inr (.inr (fun _ => none)))))), (q4, .inl (cy 0, 4, .inl (fun _ => 0)))] ++ stockL cy g6) ++ logL cy g8) ++ batchL cy g10) ++ batchL cy g12) ++ batchL cy g14) H := hP
  have hD : va_D (va_A [(h0, .inr (5, [.null, .null, .null, .null, .null, .null, .int 0]))] sz) ((((([(h0, .inr (5, [.ref q1, .ref q2, .ref q3, .ref q4, .ref (g6 0), .ref (g8 0), .int 0])), (q1, .inl (cy 0, 8, .inl (upd (upd (upd (upd (fun _ => 0) 4 (-1)) 5 (-1)) 6 (-1)) 7 (-1)))), (q2, .inl (cy 2, 4, .inr (.inr (.inr (.inr (va_up (va_up (va_up (fun _ => none) 0 (some (g10 0))) 1 (some (g12 0))) 2 (some (g14 0)))))))), (q3, .inl (cy 4, 6, .inr (.inr (.inr (.inr (fun _ => none)))))), (q4, .inl (cy 0, 4, .inl (fun _ => 0)))] ++ stockL cy g6) ++ logL cy g8) ++ batchL cy g10) ++ batchL cy g12) ++ batchL cy g14) := hD
  refine lv_iinc (v := 3) (lv' := [(1, .int 3), (0, .ref h0)]) hx hb dX6_init_104 hl (k := 0) rfl (by decide) (by decide) rfl (fun ls hl => ?_)
  refine lv_goto (tgt := 86) hx hb dX6_init_107 (by decide) ?_
  refine lv_iload_n hx hb dX6_init_86 rfl (lv_at hl 0 rfl) ?_
  refine lv_iconst (v := 4) hx hb dX6_init_87 (by decide) ?_
  refine lv_icmp_ge (tgt := 110) hx hb dX6_init_88 (by decide) (fun c9 => absurd c9 (by decide)) (fun _ => ?_)
  refine lv_aload_n hx hb dX6_init_91 rfl (lv_at hl 1 rfl) ?_
  refine va_get (D := D) (ci := 5) (v := .ref q2) (C := RX6) (T := TX6) (N := 7) hx hb hts hinX6 hown hK hP 0 rfl rfl 1 (by decide) kf15 (fun _ h9 => h9) rfl dX6_init_92 ?_
  refine lv_iload_n hx hb dX6_init_95 rfl (lv_at hl 0 rfl) ?_
  refine va_new (ci := 0) (fs := [.null, .int 0, .int 0]) (C := RX0) (T := TX0) (N := 3) hx hb hts hinX0 tyX0 tyX0_ok hown kl13 kiX0 kjX0 hK hP hD hS hA rfl dfX0 (Nat.le_of_ble_eq_true rfl) (Nat.le_of_ble_eq_true rfl) dX6_init_96 (fun q15 H hP hD hS => ?_)
  refine W.widen (k := 72) (n := 878) (Nat.le_of_ble_eq_true rfl) (Nat.le_of_ble_eq_true rfl) ?_
  refine lv_dup hx hb dX6_init_99 rfl ?_
  refine k_call (L := batchL cy) (k1 := 91) (s1 := 1004) (va_runI (As := []) (rest := [.ref q15, .int 3, .ref q2]) ⟨hx, hb, hml, hown, hts⟩ (k_X0_init l D cy q15 H.size) (cwI 0 hts gX6_init_X0_init rfl rfl rfl kjX0 kk46 kmX0 rfl (by decide +kernel) ⟨(Nat.le_of_ble_eq_true rfl), (Nat.le_of_ble_eq_true rfl)⟩) (k_pre hK hX hP) rfl rfl hl.1 rfl (lv_room (Nat.le_of_ble_eq_true rfl)) dX6_init_100 ⟨(Nat.le_of_ble_eq_true rfl), (Nat.le_of_ble_eq_true rfl)⟩) rfl hP hD hS hA rfl rfl (fun g16 H locs hg hP1 hD1 hS1 => ?_)
  clear hP hD hS
  subst hg
  have hP := hP1
  have hD := hD1
  have hS := hS1
  clear hP1 hD1 hS1
  refine k_astq hx hb hK hP hD hS 2 2 72 0 rfl rfl rfl rfl 3 (by decide) (by decide) (by decide) dX6_init_103 (fun H locs hP hD hS => ?_)
  have hP : va_P D vwCl (((((([(h0, .inr (5, [.ref q1, .ref q2, .ref q3, .ref q4, .ref (g6 0), .ref (g8 0), .int 0])), (q1, .inl (cy 0, 8, .inl (upd (upd (upd (upd (fun _ => 0) 4 (-1)) 5 (-1)) 6 (-1)) 7 (-1)))), (q2, .inl (cy 2, 4, .inr (.inr (.inr (.inr (va_up (va_up (va_up (va_up (fun _ => none) 0 (some (g10 0))) 1 (some (g12 0))) 2 (some (g14 0))) 3 (some (g16 0)))))))), (q3, .inl (cy 4, 6, .inr (.inr (.inr (.inr (fun _ => none)))))), (q4, .inl (cy 0, 4, .inl (fun _ => 0)))] ++ stockL cy g6) ++ logL cy g8) ++ batchL cy g10) ++ batchL cy g12) ++ batchL cy g14) ++ batchL cy g16) H := hP
  have hD : va_D (va_A [(h0, .inr (5, [.null, .null, .null, .null, .null, .null, .int 0]))] sz) (((((([(h0, .inr (5, [.ref q1, .ref q2, .ref q3, .ref q4, .ref (g6 0), .ref (g8 0), .int 0])), (q1, .inl (cy 0, 8, .inl (upd (upd (upd (upd (fun _ => 0) 4 (-1)) 5 (-1)) 6 (-1)) 7 (-1)))), (q2, .inl (cy 2, 4, .inr (.inr (.inr (.inr (va_up (va_up (va_up (va_up (fun _ => none) 0 (some (g10 0))) 1 (some (g12 0))) 2 (some (g14 0))) 3 (some (g16 0)))))))), (q3, .inl (cy 4, 6, .inr (.inr (.inr (.inr (fun _ => none)))))), (q4, .inl (cy 0, 4, .inl (fun _ => 0)))] ++ stockL cy g6) ++ logL cy g8) ++ batchL cy g10) ++ batchL cy g12) ++ batchL cy g14) ++ batchL cy g16) := hD
  refine lv_iinc (v := 4) (lv' := [(1, .int 4), (0, .ref h0)]) hx hb dX6_init_104 hl (k := 0) rfl (by decide) (by decide) rfl (fun ls hl => ?_)
  refine lv_goto (tgt := 86) hx hb dX6_init_107 (by decide) ?_
  refine lv_iload_n hx hb dX6_init_86 rfl (lv_at hl 0 rfl) ?_
  refine lv_iconst (v := 4) hx hb dX6_init_87 (by decide) ?_
  refine lv_icmp_ge (tgt := 110) hx hb dX6_init_88 (by decide) (fun _ => ?_) (fun c9 => absurd (by decide) c9)
  refine lv_iconst (v := 0) hx hb dX6_init_110 (by decide) ?_
  refine lv_istore_n (lv' := [(1, .int 0), (0, .ref h0)]) hx hb dX6_init_111 rfl hl (by decide) rfl (fun ls hl => ?_)
  refine lv_iload_n hx hb dX6_init_112 rfl (lv_at hl 0 rfl) ?_
  refine lv_bipush (v := 6) hx hb dX6_init_113 (by decide) ?_
  refine lv_icmp_ge (tgt := 137) hx hb dX6_init_115 (by decide) (fun c9 => absurd c9 (by decide)) (fun _ => ?_)
  refine lv_aload_n hx hb dX6_init_118 rfl (lv_at hl 1 rfl) ?_
  refine va_get (D := D) (ci := 5) (v := .ref q3) (C := RX6) (T := TX6) (N := 7) hx hb hts hinX6 hown hK hP 0 rfl rfl 2 (by decide) kf21 (fun _ h9 => h9) rfl dX6_init_119 ?_
  refine lv_iload_n hx hb dX6_init_122 rfl (lv_at hl 0 rfl) ?_
  refine va_new (ci := 4) (fs := [.int 0, .int 0, .int 0]) (C := RX4) (T := TX4) (N := 3) hx hb hts hinX4 tyX4 tyX4_ok hown kl19 kiX4 kjX4 hK hP hD hS hA rfl dfX4 (Nat.le_of_ble_eq_true rfl) (Nat.le_of_ble_eq_true rfl) dX6_init_123 (fun q17 H hP hD hS => ?_)
  refine W.widen (k := 92) (n := 1007) (Nat.le_of_ble_eq_true rfl) (Nat.le_of_ble_eq_true rfl) ?_
  refine lv_dup hx hb dX6_init_126 rfl ?_
  refine k_call (L := toolL) (k1 := 92) (s1 := 1007) (va_runIN (As := []) (rest := [.ref q17, .int 0, .ref q3]) ⟨hx, hb, hml, hown, hts⟩ (k_X4_init l D cy q17 H.size) ⟨va_cnB 0 hts gX6_init_X4_init_n47 rfl rfl rfl hX.2.2.2.2 kjX4 (by decide +kernel) ⟨(Nat.le_of_ble_eq_true rfl), (Nat.le_of_ble_eq_true rfl)⟩, rfl, kmX4⟩ (k_pre hK hX hP) rfl rfl hl.1 rfl (lv_room (Nat.le_of_ble_eq_true rfl)) dX6_init_127 ⟨(Nat.le_of_ble_eq_true rfl), (Nat.le_of_ble_eq_true rfl)⟩) rfl hP hD hS hA rfl rfl (fun g18 H locs hg hP1 hD1 hS1 => ?_)
  clear hP hD hS
  subst hg
  have hP := hP1
  have hD := hD1
  have hS := hS1
  clear hP1 hD1 hS1
  refine k_astq hx hb hK hP hD hS 3 4 92 4 rfl rfl rfl rfl 0 (by decide) (by decide) (by decide) dX6_init_130 (fun H locs hP hD hS => ?_)
  have hP : va_P D vwCl ((((((([(h0, .inr (5, [.ref q1, .ref q2, .ref q3, .ref q4, .ref (g6 0), .ref (g8 0), .int 0])), (q1, .inl (cy 0, 8, .inl (upd (upd (upd (upd (fun _ => 0) 4 (-1)) 5 (-1)) 6 (-1)) 7 (-1)))), (q2, .inl (cy 2, 4, .inr (.inr (.inr (.inr (va_up (va_up (va_up (va_up (fun _ => none) 0 (some (g10 0))) 1 (some (g12 0))) 2 (some (g14 0))) 3 (some (g16 0)))))))), (q3, .inl (cy 4, 6, .inr (.inr (.inr (.inr (va_up (fun _ => none) 0 (some (g18 0)))))))), (q4, .inl (cy 0, 4, .inl (fun _ => 0)))] ++ stockL cy g6) ++ logL cy g8) ++ batchL cy g10) ++ batchL cy g12) ++ batchL cy g14) ++ batchL cy g16) ++ toolL g18) H := hP
  have hD : va_D (va_A [(h0, .inr (5, [.null, .null, .null, .null, .null, .null, .int 0]))] sz) ((((((([(h0, .inr (5, [.ref q1, .ref q2, .ref q3, .ref q4, .ref (g6 0), .ref (g8 0), .int 0])), (q1, .inl (cy 0, 8, .inl (upd (upd (upd (upd (fun _ => 0) 4 (-1)) 5 (-1)) 6 (-1)) 7 (-1)))), (q2, .inl (cy 2, 4, .inr (.inr (.inr (.inr (va_up (va_up (va_up (va_up (fun _ => none) 0 (some (g10 0))) 1 (some (g12 0))) 2 (some (g14 0))) 3 (some (g16 0)))))))), (q3, .inl (cy 4, 6, .inr (.inr (.inr (.inr (va_up (fun _ => none) 0 (some (g18 0)))))))), (q4, .inl (cy 0, 4, .inl (fun _ => 0)))] ++ stockL cy g6) ++ logL cy g8) ++ batchL cy g10) ++ batchL cy g12) ++ batchL cy g14) ++ batchL cy g16) ++ toolL g18) := hD
  refine lv_iinc (v := 1) (lv' := [(1, .int 1), (0, .ref h0)]) hx hb dX6_init_131 hl (k := 0) rfl (by decide) (by decide) rfl (fun ls hl => ?_)
  refine lv_goto (tgt := 112) hx hb dX6_init_134 (by decide) ?_
  refine lv_iload_n hx hb dX6_init_112 rfl (lv_at hl 0 rfl) ?_
  refine lv_bipush (v := 6) hx hb dX6_init_113 (by decide) ?_
  refine lv_icmp_ge (tgt := 137) hx hb dX6_init_115 (by decide) (fun c9 => absurd c9 (by decide)) (fun _ => ?_)
  refine lv_aload_n hx hb dX6_init_118 rfl (lv_at hl 1 rfl) ?_
  refine va_get (D := D) (ci := 5) (v := .ref q3) (C := RX6) (T := TX6) (N := 7) hx hb hts hinX6 hown hK hP 0 rfl rfl 2 (by decide) kf21 (fun _ h9 => h9) rfl dX6_init_119 ?_
  refine lv_iload_n hx hb dX6_init_122 rfl (lv_at hl 0 rfl) ?_
  refine va_new (ci := 4) (fs := [.int 0, .int 0, .int 0]) (C := RX4) (T := TX4) (N := 3) hx hb hts hinX4 tyX4 tyX4_ok hown kl19 kiX4 kjX4 hK hP hD hS hA rfl dfX4 (Nat.le_of_ble_eq_true rfl) (Nat.le_of_ble_eq_true rfl) dX6_init_123 (fun q19 H hP hD hS => ?_)
  refine W.widen (k := 93) (n := 1010) (Nat.le_of_ble_eq_true rfl) (Nat.le_of_ble_eq_true rfl) ?_
  refine lv_dup hx hb dX6_init_126 rfl ?_
  refine k_call (L := toolL) (k1 := 93) (s1 := 1010) (va_runIN (As := []) (rest := [.ref q19, .int 1, .ref q3]) ⟨hx, hb, hml, hown, hts⟩ (k_X4_init l D cy q19 H.size) ⟨va_cnB 0 hts gX6_init_X4_init_n47 rfl rfl rfl hX.2.2.2.2 kjX4 (by decide +kernel) ⟨(Nat.le_of_ble_eq_true rfl), (Nat.le_of_ble_eq_true rfl)⟩, rfl, kmX4⟩ (k_pre hK hX hP) rfl rfl hl.1 rfl (lv_room (Nat.le_of_ble_eq_true rfl)) dX6_init_127 ⟨(Nat.le_of_ble_eq_true rfl), (Nat.le_of_ble_eq_true rfl)⟩) rfl hP hD hS hA rfl rfl (fun g20 H locs hg hP1 hD1 hS1 => ?_)
  clear hP hD hS
  subst hg
  have hP := hP1
  have hD := hD1
  have hS := hS1
  clear hP1 hD1 hS1
  refine k_astq hx hb hK hP hD hS 3 4 93 4 rfl rfl rfl rfl 1 (by decide) (by decide) (by decide) dX6_init_130 (fun H locs hP hD hS => ?_)
  have hP : va_P D vwCl (((((((([(h0, .inr (5, [.ref q1, .ref q2, .ref q3, .ref q4, .ref (g6 0), .ref (g8 0), .int 0])), (q1, .inl (cy 0, 8, .inl (upd (upd (upd (upd (fun _ => 0) 4 (-1)) 5 (-1)) 6 (-1)) 7 (-1)))), (q2, .inl (cy 2, 4, .inr (.inr (.inr (.inr (va_up (va_up (va_up (va_up (fun _ => none) 0 (some (g10 0))) 1 (some (g12 0))) 2 (some (g14 0))) 3 (some (g16 0)))))))), (q3, .inl (cy 4, 6, .inr (.inr (.inr (.inr (va_up (va_up (fun _ => none) 0 (some (g18 0))) 1 (some (g20 0)))))))), (q4, .inl (cy 0, 4, .inl (fun _ => 0)))] ++ stockL cy g6) ++ logL cy g8) ++ batchL cy g10) ++ batchL cy g12) ++ batchL cy g14) ++ batchL cy g16) ++ toolL g18) ++ toolL g20) H := hP
  have hD : va_D (va_A [(h0, .inr (5, [.null, .null, .null, .null, .null, .null, .int 0]))] sz) (((((((([(h0, .inr (5, [.ref q1, .ref q2, .ref q3, .ref q4, .ref (g6 0), .ref (g8 0), .int 0])), (q1, .inl (cy 0, 8, .inl (upd (upd (upd (upd (fun _ => 0) 4 (-1)) 5 (-1)) 6 (-1)) 7 (-1)))), (q2, .inl (cy 2, 4, .inr (.inr (.inr (.inr (va_up (va_up (va_up (va_up (fun _ => none) 0 (some (g10 0))) 1 (some (g12 0))) 2 (some (g14 0))) 3 (some (g16 0)))))))), (q3, .inl (cy 4, 6, .inr (.inr (.inr (.inr (va_up (va_up (fun _ => none) 0 (some (g18 0))) 1 (some (g20 0)))))))), (q4, .inl (cy 0, 4, .inl (fun _ => 0)))] ++ stockL cy g6) ++ logL cy g8) ++ batchL cy g10) ++ batchL cy g12) ++ batchL cy g14) ++ batchL cy g16) ++ toolL g18) ++ toolL g20) := hD
  refine lv_iinc (v := 2) (lv' := [(1, .int 2), (0, .ref h0)]) hx hb dX6_init_131 hl (k := 0) rfl (by decide) (by decide) rfl (fun ls hl => ?_)
  refine lv_goto (tgt := 112) hx hb dX6_init_134 (by decide) ?_
  refine lv_iload_n hx hb dX6_init_112 rfl (lv_at hl 0 rfl) ?_
  refine lv_bipush (v := 6) hx hb dX6_init_113 (by decide) ?_
  refine lv_icmp_ge (tgt := 137) hx hb dX6_init_115 (by decide) (fun c9 => absurd c9 (by decide)) (fun _ => ?_)
  refine lv_aload_n hx hb dX6_init_118 rfl (lv_at hl 1 rfl) ?_
  refine va_get (D := D) (ci := 5) (v := .ref q3) (C := RX6) (T := TX6) (N := 7) hx hb hts hinX6 hown hK hP 0 rfl rfl 2 (by decide) kf21 (fun _ h9 => h9) rfl dX6_init_119 ?_
  refine lv_iload_n hx hb dX6_init_122 rfl (lv_at hl 0 rfl) ?_
  refine va_new (ci := 4) (fs := [.int 0, .int 0, .int 0]) (C := RX4) (T := TX4) (N := 3) hx hb hts hinX4 tyX4 tyX4_ok hown kl19 kiX4 kjX4 hK hP hD hS hA rfl dfX4 (Nat.le_of_ble_eq_true rfl) (Nat.le_of_ble_eq_true rfl) dX6_init_123 (fun q21 H hP hD hS => ?_)
  refine W.widen (k := 94) (n := 1013) (Nat.le_of_ble_eq_true rfl) (Nat.le_of_ble_eq_true rfl) ?_
  refine lv_dup hx hb dX6_init_126 rfl ?_
  refine k_call (L := toolL) (k1 := 94) (s1 := 1013) (va_runIN (As := []) (rest := [.ref q21, .int 2, .ref q3]) ⟨hx, hb, hml, hown, hts⟩ (k_X4_init l D cy q21 H.size) ⟨va_cnB 0 hts gX6_init_X4_init_n47 rfl rfl rfl hX.2.2.2.2 kjX4 (by decide +kernel) ⟨(Nat.le_of_ble_eq_true rfl), (Nat.le_of_ble_eq_true rfl)⟩, rfl, kmX4⟩ (k_pre hK hX hP) rfl rfl hl.1 rfl (lv_room (Nat.le_of_ble_eq_true rfl)) dX6_init_127 ⟨(Nat.le_of_ble_eq_true rfl), (Nat.le_of_ble_eq_true rfl)⟩) rfl hP hD hS hA rfl rfl (fun g22 H locs hg hP1 hD1 hS1 => ?_)
  clear hP hD hS
  subst hg
  have hP := hP1
  have hD := hD1
  have hS := hS1
  clear hP1 hD1 hS1
  refine k_astq hx hb hK hP hD hS 3 4 94 4 rfl rfl rfl rfl 2 (by decide) (by decide) (by decide) dX6_init_130 (fun H locs hP hD hS => ?_)
  have hP : va_P D vwCl ((((((((([(h0, .inr (5, [.ref q1, .ref q2, .ref q3, .ref q4, .ref (g6 0), .ref (g8 0), .int 0])), (q1, .inl (cy 0, 8, .inl (upd (upd (upd (upd (fun _ => 0) 4 (-1)) 5 (-1)) 6 (-1)) 7 (-1)))), (q2, .inl (cy 2, 4, .inr (.inr (.inr (.inr (va_up (va_up (va_up (va_up (fun _ => none) 0 (some (g10 0))) 1 (some (g12 0))) 2 (some (g14 0))) 3 (some (g16 0)))))))), (q3, .inl (cy 4, 6, .inr (.inr (.inr (.inr (va_up (va_up (va_up (fun _ => none) 0 (some (g18 0))) 1 (some (g20 0))) 2 (some (g22 0)))))))), (q4, .inl (cy 0, 4, .inl (fun _ => 0)))] ++ stockL cy g6) ++ logL cy g8) ++ batchL cy g10) ++ batchL cy g12) ++ batchL cy g14) ++ batchL cy g16) ++ toolL g18) ++ toolL g20) ++ toolL g22) H := hP
  have hD : va_D (va_A [(h0, .inr (5, [.null, .null, .null, .null, .null, .null, .int 0]))] sz) ((((((((([(h0, .inr (5, [.ref q1, .ref q2, .ref q3, .ref q4, .ref (g6 0), .ref (g8 0), .int 0])), (q1, .inl (cy 0, 8, .inl (upd (upd (upd (upd (fun _ => 0) 4 (-1)) 5 (-1)) 6 (-1)) 7 (-1)))), (q2, .inl (cy 2, 4, .inr (.inr (.inr (.inr (va_up (va_up (va_up (va_up (fun _ => none) 0 (some (g10 0))) 1 (some (g12 0))) 2 (some (g14 0))) 3 (some (g16 0)))))))), (q3, .inl (cy 4, 6, .inr (.inr (.inr (.inr (va_up (va_up (va_up (fun _ => none) 0 (some (g18 0))) 1 (some (g20 0))) 2 (some (g22 0)))))))), (q4, .inl (cy 0, 4, .inl (fun _ => 0)))] ++ stockL cy g6) ++ logL cy g8) ++ batchL cy g10) ++ batchL cy g12) ++ batchL cy g14) ++ batchL cy g16) ++ toolL g18) ++ toolL g20) ++ toolL g22) := hD
  refine lv_iinc (v := 3) (lv' := [(1, .int 3), (0, .ref h0)]) hx hb dX6_init_131 hl (k := 0) rfl (by decide) (by decide) rfl (fun ls hl => ?_)
  refine lv_goto (tgt := 112) hx hb dX6_init_134 (by decide) ?_
  refine lv_iload_n hx hb dX6_init_112 rfl (lv_at hl 0 rfl) ?_
  refine lv_bipush (v := 6) hx hb dX6_init_113 (by decide) ?_
  refine lv_icmp_ge (tgt := 137) hx hb dX6_init_115 (by decide) (fun c9 => absurd c9 (by decide)) (fun _ => ?_)
  refine lv_aload_n hx hb dX6_init_118 rfl (lv_at hl 1 rfl) ?_
  refine va_get (D := D) (ci := 5) (v := .ref q3) (C := RX6) (T := TX6) (N := 7) hx hb hts hinX6 hown hK hP 0 rfl rfl 2 (by decide) kf21 (fun _ h9 => h9) rfl dX6_init_119 ?_
  refine lv_iload_n hx hb dX6_init_122 rfl (lv_at hl 0 rfl) ?_
  refine va_new (ci := 4) (fs := [.int 0, .int 0, .int 0]) (C := RX4) (T := TX4) (N := 3) hx hb hts hinX4 tyX4 tyX4_ok hown kl19 kiX4 kjX4 hK hP hD hS hA rfl dfX4 (Nat.le_of_ble_eq_true rfl) (Nat.le_of_ble_eq_true rfl) dX6_init_123 (fun q23 H hP hD hS => ?_)
  refine W.widen (k := 95) (n := 1016) (Nat.le_of_ble_eq_true rfl) (Nat.le_of_ble_eq_true rfl) ?_
  refine lv_dup hx hb dX6_init_126 rfl ?_
  refine k_call (L := toolL) (k1 := 95) (s1 := 1016) (va_runIN (As := []) (rest := [.ref q23, .int 3, .ref q3]) ⟨hx, hb, hml, hown, hts⟩ (k_X4_init l D cy q23 H.size) ⟨va_cnB 0 hts gX6_init_X4_init_n47 rfl rfl rfl hX.2.2.2.2 kjX4 (by decide +kernel) ⟨(Nat.le_of_ble_eq_true rfl), (Nat.le_of_ble_eq_true rfl)⟩, rfl, kmX4⟩ (k_pre hK hX hP) rfl rfl hl.1 rfl (lv_room (Nat.le_of_ble_eq_true rfl)) dX6_init_127 ⟨(Nat.le_of_ble_eq_true rfl), (Nat.le_of_ble_eq_true rfl)⟩) rfl hP hD hS hA rfl rfl (fun g24 H locs hg hP1 hD1 hS1 => ?_)
  clear hP hD hS
  subst hg
  have hP := hP1
  have hD := hD1
  have hS := hS1
  clear hP1 hD1 hS1
  refine k_astq hx hb hK hP hD hS 3 4 95 4 rfl rfl rfl rfl 3 (by decide) (by decide) (by decide) dX6_init_130 (fun H locs hP hD hS => ?_)
  have hP : va_P D vwCl (((((((((([(h0, .inr (5, [.ref q1, .ref q2, .ref q3, .ref q4, .ref (g6 0), .ref (g8 0), .int 0])), (q1, .inl (cy 0, 8, .inl (upd (upd (upd (upd (fun _ => 0) 4 (-1)) 5 (-1)) 6 (-1)) 7 (-1)))), (q2, .inl (cy 2, 4, .inr (.inr (.inr (.inr (va_up (va_up (va_up (va_up (fun _ => none) 0 (some (g10 0))) 1 (some (g12 0))) 2 (some (g14 0))) 3 (some (g16 0)))))))), (q3, .inl (cy 4, 6, .inr (.inr (.inr (.inr (va_up (va_up (va_up (va_up (fun _ => none) 0 (some (g18 0))) 1 (some (g20 0))) 2 (some (g22 0))) 3 (some (g24 0)))))))), (q4, .inl (cy 0, 4, .inl (fun _ => 0)))] ++ stockL cy g6) ++ logL cy g8) ++ batchL cy g10) ++ batchL cy g12) ++ batchL cy g14) ++ batchL cy g16) ++ toolL g18) ++ toolL g20) ++ toolL g22) ++ toolL g24) H := hP
  have hD : va_D (va_A [(h0, .inr (5, [.null, .null, .null, .null, .null, .null, .int 0]))] sz) (((((((((([(h0, .inr (5, [.ref q1, .ref q2, .ref q3, .ref q4, .ref (g6 0), .ref (g8 0), .int 0])), (q1, .inl (cy 0, 8, .inl (upd (upd (upd (upd (fun _ => 0) 4 (-1)) 5 (-1)) 6 (-1)) 7 (-1)))), (q2, .inl (cy 2, 4, .inr (.inr (.inr (.inr (va_up (va_up (va_up (va_up (fun _ => none) 0 (some (g10 0))) 1 (some (g12 0))) 2 (some (g14 0))) 3 (some (g16 0)))))))), (q3, .inl (cy 4, 6, .inr (.inr (.inr (.inr (va_up (va_up (va_up (va_up (fun _ => none) 0 (some (g18 0))) 1 (some (g20 0))) 2 (some (g22 0))) 3 (some (g24 0)))))))), (q4, .inl (cy 0, 4, .inl (fun _ => 0)))] ++ stockL cy g6) ++ logL cy g8) ++ batchL cy g10) ++ batchL cy g12) ++ batchL cy g14) ++ batchL cy g16) ++ toolL g18) ++ toolL g20) ++ toolL g22) ++ toolL g24) := hD
  refine lv_iinc (v := 4) (lv' := [(1, .int 4), (0, .ref h0)]) hx hb dX6_init_131 hl (k := 0) rfl (by decide) (by decide) rfl (fun ls hl => ?_)
  refine lv_goto (tgt := 112) hx hb dX6_init_134 (by decide) ?_
  refine lv_iload_n hx hb dX6_init_112 rfl (lv_at hl 0 rfl) ?_
  refine lv_bipush (v := 6) hx hb dX6_init_113 (by decide) ?_
  refine lv_icmp_ge (tgt := 137) hx hb dX6_init_115 (by decide) (fun c9 => absurd c9 (by decide)) (fun _ => ?_)
  refine lv_aload_n hx hb dX6_init_118 rfl (lv_at hl 1 rfl) ?_
  refine va_get (D := D) (ci := 5) (v := .ref q3) (C := RX6) (T := TX6) (N := 7) hx hb hts hinX6 hown hK hP 0 rfl rfl 2 (by decide) kf21 (fun _ h9 => h9) rfl dX6_init_119 ?_
  refine lv_iload_n hx hb dX6_init_122 rfl (lv_at hl 0 rfl) ?_
  refine va_new (ci := 4) (fs := [.int 0, .int 0, .int 0]) (C := RX4) (T := TX4) (N := 3) hx hb hts hinX4 tyX4 tyX4_ok hown kl19 kiX4 kjX4 hK hP hD hS hA rfl dfX4 (Nat.le_of_ble_eq_true rfl) (Nat.le_of_ble_eq_true rfl) dX6_init_123 (fun q25 H hP hD hS => ?_)
  refine W.widen (k := 96) (n := 1019) (Nat.le_of_ble_eq_true rfl) (Nat.le_of_ble_eq_true rfl) ?_
  refine lv_dup hx hb dX6_init_126 rfl ?_
  refine k_call (L := toolL) (k1 := 96) (s1 := 1019) (va_runIN (As := []) (rest := [.ref q25, .int 4, .ref q3]) ⟨hx, hb, hml, hown, hts⟩ (k_X4_init l D cy q25 H.size) ⟨va_cnB 0 hts gX6_init_X4_init_n47 rfl rfl rfl hX.2.2.2.2 kjX4 (by decide +kernel) ⟨(Nat.le_of_ble_eq_true rfl), (Nat.le_of_ble_eq_true rfl)⟩, rfl, kmX4⟩ (k_pre hK hX hP) rfl rfl hl.1 rfl (lv_room (Nat.le_of_ble_eq_true rfl)) dX6_init_127 ⟨(Nat.le_of_ble_eq_true rfl), (Nat.le_of_ble_eq_true rfl)⟩) rfl hP hD hS hA rfl rfl (fun g26 H locs hg hP1 hD1 hS1 => ?_)
  clear hP hD hS
  subst hg
  have hP := hP1
  have hD := hD1
  have hS := hS1
  clear hP1 hD1 hS1
  refine k_astq hx hb hK hP hD hS 3 4 96 4 rfl rfl rfl rfl 4 (by decide) (by decide) (by decide) dX6_init_130 (fun H locs hP hD hS => ?_)
  have hP : va_P D vwCl ((((((((((([(h0, .inr (5, [.ref q1, .ref q2, .ref q3, .ref q4, .ref (g6 0), .ref (g8 0), .int 0])), (q1, .inl (cy 0, 8, .inl (upd (upd (upd (upd (fun _ => 0) 4 (-1)) 5 (-1)) 6 (-1)) 7 (-1)))), (q2, .inl (cy 2, 4, .inr (.inr (.inr (.inr (va_up (va_up (va_up (va_up (fun _ => none) 0 (some (g10 0))) 1 (some (g12 0))) 2 (some (g14 0))) 3 (some (g16 0)))))))), (q3, .inl (cy 4, 6, .inr (.inr (.inr (.inr (va_up (va_up (va_up (va_up (va_up (fun _ => none) 0 (some (g18 0))) 1 (some (g20 0))) 2 (some (g22 0))) 3 (some (g24 0))) 4 (some (g26 0)))))))), (q4, .inl (cy 0, 4, .inl (fun _ => 0)))] ++ stockL cy g6) ++ logL cy g8) ++ batchL cy g10) ++ batchL cy g12) ++ batchL cy g14) ++ batchL cy g16) ++ toolL g18) ++ toolL g20) ++ toolL g22) ++ toolL g24) ++ toolL g26) H := hP
  have hD : va_D (va_A [(h0, .inr (5, [.null, .null, .null, .null, .null, .null, .int 0]))] sz) ((((((((((([(h0, .inr (5, [.ref q1, .ref q2, .ref q3, .ref q4, .ref (g6 0), .ref (g8 0), .int 0])), (q1, .inl (cy 0, 8, .inl (upd (upd (upd (upd (fun _ => 0) 4 (-1)) 5 (-1)) 6 (-1)) 7 (-1)))), (q2, .inl (cy 2, 4, .inr (.inr (.inr (.inr (va_up (va_up (va_up (va_up (fun _ => none) 0 (some (g10 0))) 1 (some (g12 0))) 2 (some (g14 0))) 3 (some (g16 0)))))))), (q3, .inl (cy 4, 6, .inr (.inr (.inr (.inr (va_up (va_up (va_up (va_up (va_up (fun _ => none) 0 (some (g18 0))) 1 (some (g20 0))) 2 (some (g22 0))) 3 (some (g24 0))) 4 (some (g26 0)))))))), (q4, .inl (cy 0, 4, .inl (fun _ => 0)))] ++ stockL cy g6) ++ logL cy g8) ++ batchL cy g10) ++ batchL cy g12) ++ batchL cy g14) ++ batchL cy g16) ++ toolL g18) ++ toolL g20) ++ toolL g22) ++ toolL g24) ++ toolL g26) := hD
  refine lv_iinc (v := 5) (lv' := [(1, .int 5), (0, .ref h0)]) hx hb dX6_init_131 hl (k := 0) rfl (by decide) (by decide) rfl (fun ls hl => ?_)
  refine lv_goto (tgt := 112) hx hb dX6_init_134 (by decide) ?_
  refine lv_iload_n hx hb dX6_init_112 rfl (lv_at hl 0 rfl) ?_
  refine lv_bipush (v := 6) hx hb dX6_init_113 (by decide) ?_
  refine lv_icmp_ge (tgt := 137) hx hb dX6_init_115 (by decide) (fun c9 => absurd c9 (by decide)) (fun _ => ?_)
  refine lv_aload_n hx hb dX6_init_118 rfl (lv_at hl 1 rfl) ?_
  refine va_get (D := D) (ci := 5) (v := .ref q3) (C := RX6) (T := TX6) (N := 7) hx hb hts hinX6 hown hK hP 0 rfl rfl 2 (by decide) kf21 (fun _ h9 => h9) rfl dX6_init_119 ?_
  refine lv_iload_n hx hb dX6_init_122 rfl (lv_at hl 0 rfl) ?_
  refine va_new (ci := 4) (fs := [.int 0, .int 0, .int 0]) (C := RX4) (T := TX4) (N := 3) hx hb hts hinX4 tyX4 tyX4_ok hown kl19 kiX4 kjX4 hK hP hD hS hA rfl dfX4 (Nat.le_of_ble_eq_true rfl) (Nat.le_of_ble_eq_true rfl) dX6_init_123 (fun q27 H hP hD hS => ?_)
  refine W.widen (k := 97) (n := 1022) (Nat.le_of_ble_eq_true rfl) (Nat.le_of_ble_eq_true rfl) ?_
  refine lv_dup hx hb dX6_init_126 rfl ?_
  refine k_call (L := toolL) (k1 := 97) (s1 := 1022) (va_runIN (As := []) (rest := [.ref q27, .int 5, .ref q3]) ⟨hx, hb, hml, hown, hts⟩ (k_X4_init l D cy q27 H.size) ⟨va_cnB 0 hts gX6_init_X4_init_n47 rfl rfl rfl hX.2.2.2.2 kjX4 (by decide +kernel) ⟨(Nat.le_of_ble_eq_true rfl), (Nat.le_of_ble_eq_true rfl)⟩, rfl, kmX4⟩ (k_pre hK hX hP) rfl rfl hl.1 rfl (lv_room (Nat.le_of_ble_eq_true rfl)) dX6_init_127 ⟨(Nat.le_of_ble_eq_true rfl), (Nat.le_of_ble_eq_true rfl)⟩) rfl hP hD hS hA rfl rfl (fun g28 H locs hg hP1 hD1 hS1 => ?_)
  clear hP hD hS
  subst hg
  have hP := hP1
  have hD := hD1
  have hS := hS1
  clear hP1 hD1 hS1
  refine k_astq hx hb hK hP hD hS 3 4 97 4 rfl rfl rfl rfl 5 (by decide) (by decide) (by decide) dX6_init_130 (fun H locs hP hD hS => ?_)
  have hP : va_P D vwCl (((((((((((([(h0, .inr (5, [.ref q1, .ref q2, .ref q3, .ref q4, .ref (g6 0), .ref (g8 0), .int 0])), (q1, .inl (cy 0, 8, .inl (upd (upd (upd (upd (fun _ => 0) 4 (-1)) 5 (-1)) 6 (-1)) 7 (-1)))), (q2, .inl (cy 2, 4, .inr (.inr (.inr (.inr (va_up (va_up (va_up (va_up (fun _ => none) 0 (some (g10 0))) 1 (some (g12 0))) 2 (some (g14 0))) 3 (some (g16 0)))))))), (q3, .inl (cy 4, 6, .inr (.inr (.inr (.inr (va_up (va_up (va_up (va_up (va_up (va_up (fun _ => none) 0 (some (g18 0))) 1 (some (g20 0))) 2 (some (g22 0))) 3 (some (g24 0))) 4 (some (g26 0))) 5 (some (g28 0)))))))), (q4, .inl (cy 0, 4, .inl (fun _ => 0)))] ++ stockL cy g6) ++ logL cy g8) ++ batchL cy g10) ++ batchL cy g12) ++ batchL cy g14) ++ batchL cy g16) ++ toolL g18) ++ toolL g20) ++ toolL g22) ++ toolL g24) ++ toolL g26) ++ toolL g28) H := hP
  have hD : va_D (va_A [(h0, .inr (5, [.null, .null, .null, .null, .null, .null, .int 0]))] sz) (((((((((((([(h0, .inr (5, [.ref q1, .ref q2, .ref q3, .ref q4, .ref (g6 0), .ref (g8 0), .int 0])), (q1, .inl (cy 0, 8, .inl (upd (upd (upd (upd (fun _ => 0) 4 (-1)) 5 (-1)) 6 (-1)) 7 (-1)))), (q2, .inl (cy 2, 4, .inr (.inr (.inr (.inr (va_up (va_up (va_up (va_up (fun _ => none) 0 (some (g10 0))) 1 (some (g12 0))) 2 (some (g14 0))) 3 (some (g16 0)))))))), (q3, .inl (cy 4, 6, .inr (.inr (.inr (.inr (va_up (va_up (va_up (va_up (va_up (va_up (fun _ => none) 0 (some (g18 0))) 1 (some (g20 0))) 2 (some (g22 0))) 3 (some (g24 0))) 4 (some (g26 0))) 5 (some (g28 0)))))))), (q4, .inl (cy 0, 4, .inl (fun _ => 0)))] ++ stockL cy g6) ++ logL cy g8) ++ batchL cy g10) ++ batchL cy g12) ++ batchL cy g14) ++ batchL cy g16) ++ toolL g18) ++ toolL g20) ++ toolL g22) ++ toolL g24) ++ toolL g26) ++ toolL g28) := hD
  refine lv_iinc (v := 6) (lv' := [(1, .int 6), (0, .ref h0)]) hx hb dX6_init_131 hl (k := 0) rfl (by decide) (by decide) rfl (fun ls hl => ?_)
  refine lv_goto (tgt := 112) hx hb dX6_init_134 (by decide) ?_
  refine lv_iload_n hx hb dX6_init_112 rfl (lv_at hl 0 rfl) ?_
  refine lv_bipush (v := 6) hx hb dX6_init_113 (by decide) ?_
  refine lv_icmp_ge (tgt := 137) hx hb dX6_init_115 (by decide) (fun _ => ?_) (fun c9 => absurd (by decide) c9)
  exact k_ret (L := benchL cy) (fun i => if i < 5 then [h0, q1, q2, q3, q4].getD i 0 else if i < 7 then g6 (i - 5) else if i < 12 then g8 (i - 7) else if i < 32 then g10 (i - 12) else if i < 52 then g12 (i - 32) else if i < 72 then g14 (i - 52) else if i < 92 then g16 (i - 72) else if i < 93 then g18 (i - 92) else if i < 94 then g20 (i - 93) else if i < 95 then g22 (i - 94) else if i < 96 then g24 (i - 95) else if i < 97 then g26 (i - 96) else g28 (i - 97)) hx hb hr hlocks rfl hP hD hS dX6_init_137
