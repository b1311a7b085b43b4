def cVial (σ : Mem) (kd j v : Nat) (ag : Int32) : Nat × Mem :=
  if kd = 0 then cAdd σ v (nI j)
  else if kd = 1 then cDraw σ v (nI j)
  else if kd = 2 then cShare σ v (nI j)
  else if kd = 3 then cPour σ v j
  else if kd = 4 then (1, σ)
  else if kd = 5 then (3, σ)
  else if kd = 6 then (4, mset σ 0 6 (nI j))
  else if kd = 7 then cFail σ (10 + (nI j))
  else if kd = 8 then (if nI j ≤ σ 1 v then (0, σ)
    else (1, σ))
  else if nI j ≤ ag then (0, σ)
  else (2, σ)
set_option maxHeartbeats 4000000 in
set_option maxRecDepth 100000 in
theorem c_doVialStep (l : Launch) (D : va_G) (cy : Nat → ClassId) (ad wy : Nat → Nat) (mt : Nat) (hj : mJ 98 ad) (σ : Mem) (kd j v : Nat) (ag : Int32) (hkd : kd < 10) (hj200 : j ≤ 200) (hv : v < 8)  : Met l yX6_doVialStep wsX6_doVialStep ({ frames := 2, cells := 0, slots := 0, locals := 44 }) (va_Pc [.ref (ad 0), .int (nI kd), .int (nI j), .int (nI v), .int ag] (gPre 98 ad (cF ad cy) D cy wy mt σ)) (gQ 98 ad (cF ad cy) D (some (.ref (wy (cVial σ kd j v ag).1))) (cVial σ kd j v ag).2) 0 0 (mA 98 ad) := by
  refine g_met (cc := cX6_doVialStep) (maxL := 5) (ret := (some (.object "BenchRuns$Way"))) (by decide) rfl (Nat.le_of_ble_eq_true rfl) ?_
  intro p e s m below meth c S hr hlocks h0 ls hl
  obtain ⟨hx, hb, hml, hown, hts⟩ := S
  have hP := h0.1
  have hK := h0.2.1
  have hS : va_S (mA 98 ad) s.heap s.heap [] := va_S.rf
  have hl : lv_has ls 5 [(0, .ref (ad 0)), (1, .int (nI kd)), (2, .int (nI j)), (3, .int (nI v)), (4, .int ag)] := hl
  have kf155 : (Cond.fieldLink RX6 155 "BenchRuns$Way" "SKIP" "LBenchRuns$Way;").before (#[.ref (ad 0), .int (nI kd), .int (nI j), .int (nI v), .int ag] : Array Value) s = true := hts _ (by decide +kernel)
  have kf165 : (Cond.fieldLink RX6 165 "BenchRuns$Way" "BREAK" "LBenchRuns$Way;").before (#[.ref (ad 0), .int (nI kd), .int (nI j), .int (nI v), .int ag] : Array Value) s = true := hts _ (by decide +kernel)
  have kf42 : (Cond.fieldLink RX6 42 "BenchRuns" "stoppedBy" "I").before (#[.ref (ad 0), .int (nI kd), .int (nI j), .int (nI v), .int ag] : Array Value) s = true := hts _ (by decide +kernel)
  have hinX6 : ∀ w ∈ u_ws RX6 TX6 7, w ∈ wsX6_doVialStep := by decide +kernel
  have kf113 : (Cond.fieldLink RX6 113 "BenchRuns$Way" "STOP" "LBenchRuns$Way;").before (#[.ref (ad 0), .int (nI kd), .int (nI j), .int (nI v), .int ag] : Array Value) s = true := hts _ (by decide +kernel)
  have kf38 : (Cond.fieldLink RX6 38 "BenchRuns" "log" "LBenchRuns$Log;").before (#[.ref (ad 0), .int (nI kd), .int (nI j), .int (nI v), .int ag] : Array Value) s = true := hts _ (by decide +kernel)
  have kf9 : (Cond.fieldLink RX6 9 "BenchRuns" "vialDrops" "[I").before (#[.ref (ad 0), .int (nI kd), .int (nI j), .int (nI v), .int ag] : Array Value) s = true := hts _ (by decide +kernel)
  have kf145 : (Cond.fieldLink RX6 145 "BenchRuns$Way" "ONWARD" "LBenchRuns$Way;").before (#[.ref (ad 0), .int (nI kd), .int (nI j), .int (nI v), .int ag] : Array Value) s = true := hts _ (by decide +kernel)
  have kf198 : (Cond.fieldLink RX6 198 "BenchRuns$Way" "ANEW" "LBenchRuns$Way;").before (#[.ref (ad 0), .int (nI kd), .int (nI j), .int (nI v), .int ag] : Array Value) s = true := hts _ (by decide +kernel)
  refine lv_iload_n hx hb dX6_doVialStep_0 rfl (lv_at hl 1 rfl) ?_
  rcases (show kd = 0 ∨ kd = 1 ∨ kd = 2 ∨ kd = 3 ∨ kd = 4 ∨ kd = 5 ∨ kd = 6 ∨ kd = 7 ∨ kd = 8 ∨ kd = 9 by omega) with rfl | rfl | rfl | rfl | rfl | rfl | rfl | rfl | rfl | rfl
  · skip
    refine lv_tableIn (off := 55) (tgt := 56) hx hb dX6_doVialStep_1 (by decide) (by decide) (by decide) (by decide) ?_
    refine lv_aload_n hx hb dX6_doVialStep_56 rfl (lv_at hl 0 rfl) ?_
    refine lv_iload_n hx hb dX6_doVialStep_57 rfl (lv_at hl 3 rfl) ?_
    refine lv_iload_n hx hb dX6_doVialStep_58 rfl (lv_at hl 2 rfl) ?_
    refine g_callV (As := [.int (nI v), .int (nI j)]) (rest := []) (N := 7) (T := TX6) (ci := 5) ⟨hx, hb, hml, hown, hts⟩ 0 (c_addDrops l D cy ad wy mt hj σ v (by omega) (nI j)) (cwV 2 hts gX6_doVialStep_X6_addDrops rfl rfl rfl (by decide +kernel) ⟨by decide, by decide⟩) h0 hP hS (by decide) cF_0 rfl rfl rfl hl.1 (Nat.le_of_ble_eq_true rfl) dX6_doVialStep_59 ⟨Nat.zero_le _, Nat.zero_le _⟩ (fun H locs hP hS => ?_)
    exact g_aret hx hb hr hlocks hP hS dX6_doVialStep_62 (by unfold cVial; rw [if_pos (rfl : (0 : Nat) = 0)] <;> rfl)
  · skip
    refine lv_tableIn (off := 62) (tgt := 63) hx hb dX6_doVialStep_1 (by decide) (by decide) (by decide) (by decide) ?_
    refine lv_aload_n hx hb dX6_doVialStep_63 rfl (lv_at hl 0 rfl) ?_
    refine lv_iload_n hx hb dX6_doVialStep_64 rfl (lv_at hl 3 rfl) ?_
    refine lv_iload_n hx hb dX6_doVialStep_65 rfl (lv_at hl 2 rfl) ?_
    refine g_callV (As := [.int (nI v), .int (nI j)]) (rest := []) (N := 7) (T := TX6) (ci := 5) ⟨hx, hb, hml, hown, hts⟩ 0 (c_drawDrops l D cy ad wy mt hj σ v (by omega) (nI j)) (cwV 2 hts gX6_doVialStep_X6_drawDrops rfl rfl rfl (by decide +kernel) ⟨by decide, by decide⟩) h0 hP hS (by decide) cF_0 rfl rfl rfl hl.1 (Nat.le_of_ble_eq_true rfl) dX6_doVialStep_66 ⟨Nat.zero_le _, Nat.zero_le _⟩ (fun H locs hP hS => ?_)
    exact g_aret hx hb hr hlocks hP hS dX6_doVialStep_69 (by unfold cVial; rw [if_neg (show ¬ (1 : Nat) = 0 by decide), if_pos (rfl : (1 : Nat) = 1)] <;> rfl)
  · skip
    refine lv_tableIn (off := 69) (tgt := 70) hx hb dX6_doVialStep_1 (by decide) (by decide) (by decide) (by decide) ?_
    refine lv_aload_n hx hb dX6_doVialStep_70 rfl (lv_at hl 0 rfl) ?_
    refine lv_iload_n hx hb dX6_doVialStep_71 rfl (lv_at hl 3 rfl) ?_
    refine lv_iload_n hx hb dX6_doVialStep_72 rfl (lv_at hl 2 rfl) ?_
    refine g_callV (As := [.int (nI v), .int (nI j)]) (rest := []) (N := 7) (T := TX6) (ci := 5) ⟨hx, hb, hml, hown, hts⟩ 0 (c_shareDrops l D cy ad wy mt hj σ v (by omega) (nI j)) (cwV 2 hts gX6_doVialStep_X6_shareDrops rfl rfl rfl (by decide +kernel) ⟨by decide, by decide⟩) h0 hP hS (by decide) cF_0 rfl rfl rfl hl.1 (Nat.le_of_ble_eq_true rfl) dX6_doVialStep_73 ⟨Nat.zero_le _, Nat.zero_le _⟩ (fun H locs hP hS => ?_)
    exact g_aret hx hb hr hlocks hP hS dX6_doVialStep_76 (by unfold cVial; rw [if_neg (show ¬ (2 : Nat) = 0 by decide), if_neg (show ¬ (2 : Nat) = 1 by decide), if_pos (rfl : (2 : Nat) = 2)] <;> rfl)
  · skip
    refine lv_tableIn (off := 76) (tgt := 77) hx hb dX6_doVialStep_1 (by decide) (by decide) (by decide) (by decide) ?_
    refine lv_aload_n hx hb dX6_doVialStep_77 rfl (lv_at hl 0 rfl) ?_
    refine lv_iload_n hx hb dX6_doVialStep_78 rfl (lv_at hl 3 rfl) ?_
    refine lv_iload_n hx hb dX6_doVialStep_79 rfl (lv_at hl 2 rfl) ?_
    refine g_callV (As := [.int (nI v), .int (nI j)]) (rest := []) (N := 7) (T := TX6) (ci := 5) ⟨hx, hb, hml, hown, hts⟩ 0 (c_pourDrops l D cy ad wy mt hj σ v j (by omega) (by omega)) (cwV 2 hts gX6_doVialStep_X6_pourDrops rfl rfl rfl (by decide +kernel) ⟨by decide, by decide⟩) h0 hP hS (by decide) cF_0 rfl rfl rfl hl.1 (Nat.le_of_ble_eq_true rfl) dX6_doVialStep_80 ⟨Nat.zero_le _, Nat.zero_le _⟩ (fun H locs hP hS => ?_)
    exact g_aret hx hb hr hlocks hP hS dX6_doVialStep_83 (by unfold cVial; rw [if_neg (show ¬ (3 : Nat) = 0 by decide), if_neg (show ¬ (3 : Nat) = 1 by decide), if_neg (show ¬ (3 : Nat) = 2 by decide), if_pos (rfl : (3 : Nat) = 3)] <;> rfl)
  · skip
    refine lv_tableIn (off := 83) (tgt := 84) hx hb dX6_doVialStep_1 (by decide) (by decide) (by decide) (by decide) ?_
    refine g_way hx hb h0 hS hown 1 (by decide) rfl kf155 dX6_doVialStep_84 ?_
    exact g_aret hx hb hr hlocks hP hS dX6_doVialStep_87 (by unfold cVial; rw [if_neg (show ¬ (4 : Nat) = 0 by decide), if_neg (show ¬ (4 : Nat) = 1 by decide), if_neg (show ¬ (4 : Nat) = 2 by decide), if_neg (show ¬ (4 : Nat) = 3 by decide), if_pos (rfl : (4 : Nat) = 4)] <;> rfl)
  · skip
    refine lv_tableIn (off := 87) (tgt := 88) hx hb dX6_doVialStep_1 (by decide) (by decide) (by decide) (by decide) ?_
    refine g_way hx hb h0 hS hown 3 (by decide) rfl kf165 dX6_doVialStep_88 ?_
    exact g_aret hx hb hr hlocks hP hS dX6_doVialStep_91 (by unfold cVial; rw [if_neg (show ¬ (5 : Nat) = 0 by decide), if_neg (show ¬ (5 : Nat) = 1 by decide), if_neg (show ¬ (5 : Nat) = 2 by decide), if_neg (show ¬ (5 : Nat) = 3 by decide), if_neg (show ¬ (5 : Nat) = 4 by decide), if_pos (rfl : (5 : Nat) = 5)] <;> rfl)
  · skip
    refine lv_tableIn (off := 91) (tgt := 92) hx hb dX6_doVialStep_1 (by decide) (by decide) (by decide) (by decide) ?_
    refine lv_aload_n hx hb dX6_doVialStep_92 rfl (lv_at hl 0 rfl) ?_
    refine lv_iload_n hx hb dX6_doVialStep_93 rfl (lv_at hl 2 rfl) ?_
    refine mw_put (ci := 5) (C := RX6) (T := TX6) (N := 7) (v := nI j) (ty := .int) hx hb hts hinX6 tyX6 tyX6_ok nmX6 hown hK hj hP hS 0 (by decide) cF_0 rfl 6 (by decide) kf42 (fun _ h9 => h9) rfl (by decide +kernel) rfl rfl (Nat.le_of_ble_eq_true rfl) rfl dX6_doVialStep_94 (fun H locs hP hS => ?_)
    refine g_way hx hb h0 hS hown 4 (by decide) rfl kf113 dX6_doVialStep_97 ?_
    exact g_aret hx hb hr hlocks hP hS dX6_doVialStep_100 (by unfold cVial; rw [if_neg (show ¬ (6 : Nat) = 0 by decide), if_neg (show ¬ (6 : Nat) = 1 by decide), if_neg (show ¬ (6 : Nat) = 2 by decide), if_neg (show ¬ (6 : Nat) = 3 by decide), if_neg (show ¬ (6 : Nat) = 4 by decide), if_neg (show ¬ (6 : Nat) = 5 by decide), if_pos (rfl : (6 : Nat) = 6)] <;> rfl)
  · skip
    refine lv_tableIn (off := 100) (tgt := 101) hx hb dX6_doVialStep_1 (by decide) (by decide) (by decide) (by decide) ?_
    refine lv_aload_n hx hb dX6_doVialStep_101 rfl (lv_at hl 0 rfl) ?_
    refine mw_get (ci := 5) (C := RX6) (T := TX6) (N := 7) (v := .ref (ad 7)) hx hb hts hinX6 hown hK hP 0 (by decide) cF_0 rfl 5 (by decide) kf38 (fun _ h9 => h9) rfl dX6_doVialStep_102 ?_
    refine lv_bipush (v := 10) hx hb dX6_doVialStep_105 (by decide) ?_
    refine lv_iload_n hx hb dX6_doVialStep_107 rfl (lv_at hl 2 rfl) ?_
    refine lv_iadd hx hb dX6_doVialStep_108 ?_
    refine g_callV (As := [.int (10 + (nI j))]) (rest := []) (N := 7) (T := TX1) (ci := 1) ⟨hx, hb, hml, hown, hts⟩ 7 (c_fail l D cy ad wy mt hj σ (10 + (nI j))) (cwV 1 hts gX6_doVialStep_X1_fail rfl rfl rfl (by decide +kernel) ⟨by decide, by decide⟩) h0 hP hS (by decide) cF_7 rfl rfl rfl hl.1 (Nat.le_of_ble_eq_true rfl) dX6_doVialStep_109 ⟨Nat.zero_le _, Nat.zero_le _⟩ (fun H locs hP hS => ?_)
    exact g_aret hx hb hr hlocks hP hS dX6_doVialStep_112 (by unfold cVial; rw [if_neg (show ¬ (7 : Nat) = 0 by decide), if_neg (show ¬ (7 : Nat) = 1 by decide), if_neg (show ¬ (7 : Nat) = 2 by decide), if_neg (show ¬ (7 : Nat) = 3 by decide), if_neg (show ¬ (7 : Nat) = 4 by decide), if_neg (show ¬ (7 : Nat) = 5 by decide), if_neg (show ¬ (7 : Nat) = 6 by decide), if_pos (rfl : (7 : Nat) = 7)] <;> rfl)
  · skip
    refine lv_tableIn (off := 112) (tgt := 113) hx hb dX6_doVialStep_1 (by decide) (by decide) (by decide) (by decide) ?_
    refine lv_aload_n hx hb dX6_doVialStep_113 rfl (lv_at hl 0 rfl) ?_
    refine mw_get (ci := 5) (C := RX6) (T := TX6) (N := 7) (v := .ref (ad 1)) hx hb hts hinX6 hown hK hP 0 (by decide) cF_0 rfl 0 (by decide) kf9 (fun _ h9 => h9) rfl dX6_doVialStep_114 ?_
    refine lv_iload_n hx hb dX6_doVialStep_117 rfl (lv_at hl 3 rfl) ?_
    refine mw_ild hx hb hK hP 1 (by decide) 0 cF_1 rfl v (by omega) (by decide) rfl dX6_doVialStep_118 ?_
    refine lv_iload_n hx hb dX6_doVialStep_119 rfl (lv_at hl 2 rfl) ?_
    refine lv_icmp_ge (tgt := 129) hx hb dX6_doVialStep_120 (by decide) (fun c_1 => ?_) (fun c_1 => ?_)
    · skip
      refine g_way hx hb h0 hS hown 0 (by decide) rfl kf145 dX6_doVialStep_129 ?_
      exact g_aret hx hb hr hlocks hP hS dX6_doVialStep_132 (by unfold cVial; rw [if_neg (show ¬ (8 : Nat) = 0 by decide), if_neg (show ¬ (8 : Nat) = 1 by decide), if_neg (show ¬ (8 : Nat) = 2 by decide), if_neg (show ¬ (8 : Nat) = 3 by decide), if_neg (show ¬ (8 : Nat) = 4 by decide), if_neg (show ¬ (8 : Nat) = 5 by decide), if_neg (show ¬ (8 : Nat) = 6 by decide), if_neg (show ¬ (8 : Nat) = 7 by decide), if_pos (rfl : (8 : Nat) = 8), if_pos c_1] <;> rfl)
    · skip
      refine g_way hx hb h0 hS hown 1 (by decide) rfl kf155 dX6_doVialStep_123 ?_
      refine lv_goto (tgt := 132) hx hb dX6_doVialStep_126 (by decide) ?_
      exact g_aret hx hb hr hlocks hP hS dX6_doVialStep_132 (by unfold cVial; rw [if_neg (show ¬ (8 : Nat) = 0 by decide), if_neg (show ¬ (8 : Nat) = 1 by decide), if_neg (show ¬ (8 : Nat) = 2 by decide), if_neg (show ¬ (8 : Nat) = 3 by decide), if_neg (show ¬ (8 : Nat) = 4 by decide), if_neg (show ¬ (8 : Nat) = 5 by decide), if_neg (show ¬ (8 : Nat) = 6 by decide), if_neg (show ¬ (8 : Nat) = 7 by decide), if_pos (rfl : (8 : Nat) = 8), if_neg c_1] <;> rfl)
  · skip
    refine lv_tableIn (off := 132) (tgt := 133) hx hb dX6_doVialStep_1 (by decide) (by decide) (by decide) (by decide) ?_
    refine lv_iload hx hb dX6_doVialStep_133 (lv_at hl 4 rfl) ?_
    refine lv_iload_n hx hb dX6_doVialStep_135 rfl (lv_at hl 2 rfl) ?_
    refine lv_icmp_ge (tgt := 145) hx hb dX6_doVialStep_136 (by decide) (fun c_2 => ?_) (fun c_2 => ?_)
    · skip
      refine g_way hx hb h0 hS hown 0 (by decide) rfl kf145 dX6_doVialStep_145 ?_
      exact g_aret hx hb hr hlocks hP hS dX6_doVialStep_148 (by unfold cVial; rw [if_neg (show ¬ (9 : Nat) = 0 by decide), if_neg (show ¬ (9 : Nat) = 1 by decide), if_neg (show ¬ (9 : Nat) = 2 by decide), if_neg (show ¬ (9 : Nat) = 3 by decide), if_neg (show ¬ (9 : Nat) = 4 by decide), if_neg (show ¬ (9 : Nat) = 5 by decide), if_neg (show ¬ (9 : Nat) = 6 by decide), if_neg (show ¬ (9 : Nat) = 7 by decide), if_neg (show ¬ (9 : Nat) = 8 by decide), if_pos c_2] <;> rfl)
    · skip
      refine g_way hx hb h0 hS hown 2 (by decide) rfl kf198 dX6_doVialStep_139 ?_
      refine lv_goto (tgt := 148) hx hb dX6_doVialStep_142 (by decide) ?_
      exact g_aret hx hb hr hlocks hP hS dX6_doVialStep_148 (by unfold cVial; rw [if_neg (show ¬ (9 : Nat) = 0 by decide), if_neg (show ¬ (9 : Nat) = 1 by decide), if_neg (show ¬ (9 : Nat) = 2 by decide), if_neg (show ¬ (9 : Nat) = 3 by decide), if_neg (show ¬ (9 : Nat) = 4 by decide), if_neg (show ¬ (9 : Nat) = 5 by decide), if_neg (show ¬ (9 : Nat) = 6 by decide), if_neg (show ¬ (9 : Nat) = 7 by decide), if_neg (show ¬ (9 : Nat) = 8 by decide), if_neg c_2] <;> rfl)
theorem cVial_0 (σ : Mem) (j v : Nat) (ag : Int32) : cVial σ 0 j v ag = cAdd σ v (nI j) := by
  unfold cVial; rw [if_pos (rfl : (0 : Nat) = 0)]
theorem cVial_1 (σ : Mem) (j v : Nat) (ag : Int32) : cVial σ 1 j v ag = cDraw σ v (nI j) := by
  unfold cVial; rw [if_neg (show ¬ (1 : Nat) = 0 by decide), if_pos (rfl : (1 : Nat) = 1)]
theorem cVial_2 (σ : Mem) (j v : Nat) (ag : Int32) : cVial σ 2 j v ag = cShare σ v (nI j) := by
  unfold cVial; rw [if_neg (show ¬ (2 : Nat) = 0 by decide), if_neg (show ¬ (2 : Nat) = 1 by decide), if_pos (rfl : (2 : Nat) = 2)]
theorem cVial_3 (σ : Mem) (j v : Nat) (ag : Int32) : cVial σ 3 j v ag = cPour σ v j := by
  unfold cVial; rw [if_neg (show ¬ (3 : Nat) = 0 by decide), if_neg (show ¬ (3 : Nat) = 1 by decide), if_neg (show ¬ (3 : Nat) = 2 by decide), if_pos (rfl : (3 : Nat) = 3)]
theorem cVial_4 (σ : Mem) (j v : Nat) (ag : Int32) : cVial σ 4 j v ag = (1, σ) := by
  unfold cVial; rw [if_neg (show ¬ (4 : Nat) = 0 by decide), if_neg (show ¬ (4 : Nat) = 1 by decide), if_neg (show ¬ (4 : Nat) = 2 by decide), if_neg (show ¬ (4 : Nat) = 3 by decide), if_pos (rfl : (4 : Nat) = 4)]
theorem cVial_5 (σ : Mem) (j v : Nat) (ag : Int32) : cVial σ 5 j v ag = (3, σ) := by
  unfold cVial; rw [if_neg (show ¬ (5 : Nat) = 0 by decide), if_neg (show ¬ (5 : Nat) = 1 by decide), if_neg (show ¬ (5 : Nat) = 2 by decide), if_neg (show ¬ (5 : Nat) = 3 by decide), if_neg (show ¬ (5 : Nat) = 4 by decide), if_pos (rfl : (5 : Nat) = 5)]
theorem cVial_6 (σ : Mem) (j v : Nat) (ag : Int32) : cVial σ 6 j v ag = (4, mset σ 0 6 (nI j)) := by
  unfold cVial; rw [if_neg (show ¬ (6 : Nat) = 0 by decide), if_neg (show ¬ (6 : Nat) = 1 by decide), if_neg (show ¬ (6 : Nat) = 2 by decide), if_neg (show ¬ (6 : Nat) = 3 by decide), if_neg (show ¬ (6 : Nat) = 4 by decide), if_neg (show ¬ (6 : Nat) = 5 by decide), if_pos (rfl : (6 : Nat) = 6)]
theorem cVial_7 (σ : Mem) (j v : Nat) (ag : Int32) : cVial σ 7 j v ag = cFail σ (10 + (nI j)) := by
  unfold cVial; rw [if_neg (show ¬ (7 : Nat) = 0 by decide), if_neg (show ¬ (7 : Nat) = 1 by decide), if_neg (show ¬ (7 : Nat) = 2 by decide), if_neg (show ¬ (7 : Nat) = 3 by decide), if_neg (show ¬ (7 : Nat) = 4 by decide), if_neg (show ¬ (7 : Nat) = 5 by decide), if_neg (show ¬ (7 : Nat) = 6 by decide), if_pos (rfl : (7 : Nat) = 7)]
theorem cVial_8 (σ : Mem) (j v : Nat) (ag : Int32) : cVial σ 8 j v ag = (if nI j ≤ σ 1 v then (0, σ)
    else (1, σ)) := by
  unfold cVial; rw [if_neg (show ¬ (8 : Nat) = 0 by decide), if_neg (show ¬ (8 : Nat) = 1 by decide), if_neg (show ¬ (8 : Nat) = 2 by decide), if_neg (show ¬ (8 : Nat) = 3 by decide), if_neg (show ¬ (8 : Nat) = 4 by decide), if_neg (show ¬ (8 : Nat) = 5 by decide), if_neg (show ¬ (8 : Nat) = 6 by decide), if_neg (show ¬ (8 : Nat) = 7 by decide), if_pos (rfl : (8 : Nat) = 8)]
theorem cVial_9 (σ : Mem) (j v : Nat) (ag : Int32) : cVial σ 9 j v ag = (if nI j ≤ ag then (0, σ)
    else (2, σ)) := by
  unfold cVial; rw [if_neg (show ¬ (9 : Nat) = 0 by decide), if_neg (show ¬ (9 : Nat) = 1 by decide), if_neg (show ¬ (9 : Nat) = 2 by decide), if_neg (show ¬ (9 : Nat) = 3 by decide), if_neg (show ¬ (9 : Nat) = 4 by decide), if_neg (show ¬ (9 : Nat) = 5 by decide), if_neg (show ¬ (9 : Nat) = 6 by decide), if_neg (show ¬ (9 : Nat) = 7 by decide), if_neg (show ¬ (9 : Nat) = 8 by decide)]

def cBench (σ : Mem) (kd j v : Nat) : Nat × Mem :=
  if kd = 10 then cUse σ j
  else if kd = 11 then cGrip σ j (σ 1 v)
  else if kd = 12 then (if (cNewRack σ ((nI j) - 10)).1 = 0 then cFail ((cNewRack σ ((nI j) - 10)).2) 6
    else (0, (cNewRack σ ((nI j) - 10)).2))
  else if kd = 13 then (if (cNewBox σ (((nI j) / 3) - 2) ((nI j) - (nI j) / 3 * 3)).1 = 0 then cFail ((cNewBox σ (((nI j) / 3) - 2) ((nI j) - (nI j) / 3 * 3)).2) 6
    else (0, (cNewBox σ (((nI j) / 3) - 2) ((nI j) - (nI j) / 3 * 3)).2))
  else if kd = 14 then (if (cNewGrid σ (((nI j) / 6) - 1) (((nI j) - (nI j) / 6 * 6) - 1)).1 = 0 then cFail ((cNewGrid σ (((nI j) / 6) - 1) (((nI j) - (nI j) / 6 * 6) - 1)).2) 6
    else (0, (cNewGrid σ (((nI j) / 6) - 1) (((nI j) - (nI j) / 6 * 6) - 1)).2))
  else if kd = 15 then cPut σ (j % 10) (j / 10)
  else if kd = 16 then (if cSizeOf σ j = (-4) then cFail σ 5
    else cAdd σ v (cSizeOf σ j))
  else if σ 4 j = 0 then cFail σ 5
  else cFailLaid σ (σ 4 j)
set_option maxHeartbeats 4000000 in
set_option maxRecDepth 100000 in
theorem c_doBenchStep (l : Launch) (D : va_G) (cy : Nat → ClassId) (ad wy : Nat → Nat) (mt : Nat) (hj : mJ 98 ad) (σ : Mem) (kd j v : Nat) (hk1 : 10 ≤ kd) (hkd : kd < 18) (hj200 : j ≤ 200) (hv : v < 8) (hj4 : 16 ≤ kd → j < 4) (hbx : ∀ pl : Nat, pl ≤ 200 → nI pl < σ 5 2 → pl < 18) : Met l yX6_doBenchStep wsX6_doBenchStep ({ frames := 2, cells := 0, slots := 0, locals := 45 }) (va_Pc [.ref (ad 0), .int (nI kd), .int (nI j), .int (nI v)] (gPre 98 ad (cF ad cy) D cy wy mt σ)) (gQ 98 ad (cF ad cy) D (some (.ref (wy (cBench σ kd j v).1))) (cBench σ kd j v).2) 0 0 (mA 98 ad) := by
  refine g_met (cc := cX6_doBenchStep) (maxL := 4) (ret := (some (.object "BenchRuns$Way"))) (by decide) rfl (Nat.le_of_ble_eq_true rfl) ?_
  intro p e s m below meth c S hr hlocks h0 ls hl
  obtain ⟨hx, hb, hml, hown, hts⟩ := S
  have hP := h0.1
  have hK := h0.2.1
  have hS : va_S (mA 98 ad) s.heap s.heap [] := va_S.rf
  have hl : lv_has ls 4 [(0, .ref (ad 0)), (1, .int (nI kd)), (2, .int (nI j)), (3, .int (nI v))] := hl
  have kf9 : (Cond.fieldLink RX6 9 "BenchRuns" "vialDrops" "[I").before (#[.ref (ad 0), .int (nI kd), .int (nI j), .int (nI v)] : Array Value) s = true := hts _ (by decide +kernel)
  have hinX6 : ∀ w ∈ u_ws RX6 TX6 7, w ∈ wsX6_doBenchStep := by decide +kernel
  have kf31 : (Cond.fieldLink RX6 31 "BenchRuns" "stock" "LBenchRuns$Stock;").before (#[.ref (ad 0), .int (nI kd), .int (nI j), .int (nI v)] : Array Value) s = true := hts _ (by decide +kernel)
  have kf38 : (Cond.fieldLink RX6 38 "BenchRuns" "log" "LBenchRuns$Log;").before (#[.ref (ad 0), .int (nI kd), .int (nI j), .int (nI v)] : Array Value) s = true := hts _ (by decide +kernel)
  have kf145 : (Cond.fieldLink RX6 145 "BenchRuns$Way" "ONWARD" "LBenchRuns$Way;").before (#[.ref (ad 0), .int (nI kd), .int (nI j), .int (nI v)] : Array Value) s = true := hts _ (by decide +kernel)
  have kf25 : (Cond.fieldLink RX6 25 "BenchRuns" "laid" "[I").before (#[.ref (ad 0), .int (nI kd), .int (nI j), .int (nI v)] : Array Value) s = true := hts _ (by decide +kernel)
  refine lv_iload_n hx hb dX6_doBenchStep_0 rfl (lv_at hl 1 rfl) ?_
  rcases (show kd = 10 ∨ kd = 11 ∨ kd = 12 ∨ kd = 13 ∨ kd = 14 ∨ kd = 15 ∨ kd = 16 ∨ kd = 17 by omega) with rfl | rfl | rfl | rfl | rfl | rfl | rfl | rfl
  · skip
    refine lv_tableIn (off := 47) (tgt := 48) hx hb dX6_doBenchStep_1 (by decide) (by decide) (by decide) (by decide) ?_
    refine lv_aload_n hx hb dX6_doBenchStep_48 rfl (lv_at hl 0 rfl) ?_
    refine lv_iload_n hx hb dX6_doBenchStep_49 rfl (lv_at hl 2 rfl) ?_
    refine g_callV (As := [.int (nI j)]) (rest := []) (N := 7) (T := TX6) (ci := 5) ⟨hx, hb, hml, hown, hts⟩ 0 (c_useTool l D cy ad wy mt hj σ j (by omega)) (cwV 1 hts gX6_doBenchStep_X6_useTool rfl rfl rfl (by decide +kernel) ⟨by decide, by decide⟩) h0 hP hS (by decide) cF_0 rfl rfl rfl hl.1 (Nat.le_of_ble_eq_true rfl) dX6_doBenchStep_50 ⟨Nat.zero_le _, Nat.zero_le _⟩ (fun H locs hP hS => ?_)
    exact g_aret hx hb hr hlocks hP hS dX6_doBenchStep_53 (by unfold cBench; rw [if_pos (rfl : (10 : Nat) = 10)] <;> rfl)
  · skip
    refine lv_tableIn (off := 53) (tgt := 54) hx hb dX6_doBenchStep_1 (by decide) (by decide) (by decide) (by decide) ?_
    refine lv_aload_n hx hb dX6_doBenchStep_54 rfl (lv_at hl 0 rfl) ?_
    refine lv_iload_n hx hb dX6_doBenchStep_55 rfl (lv_at hl 2 rfl) ?_
    refine lv_aload_n hx hb dX6_doBenchStep_56 rfl (lv_at hl 0 rfl) ?_
    refine mw_get (ci := 5) (C := RX6) (T := TX6) (N := 7) (v := .ref (ad 1)) hx hb hts hinX6 hown hK hP 0 (by decide) cF_0 rfl 0 (by decide) kf9 (fun _ h9 => h9) rfl dX6_doBenchStep_57 ?_
    refine lv_iload_n hx hb dX6_doBenchStep_60 rfl (lv_at hl 3 rfl) ?_
    refine mw_ild hx hb hK hP 1 (by decide) 0 cF_1 rfl v (by omega) (by decide) rfl dX6_doBenchStep_61 ?_
    refine g_callV (As := [.int (nI j), .int (σ 1 v)]) (rest := []) (N := 7) (T := TX6) (ci := 5) ⟨hx, hb, hml, hown, hts⟩ 0 (c_gripTool l D cy ad wy mt hj σ j (by omega) (σ 1 v)) (cwV 2 hts gX6_doBenchStep_X6_gripTool rfl rfl rfl (by decide +kernel) ⟨by decide, by decide⟩) h0 hP hS (by decide) cF_0 rfl rfl rfl hl.1 (Nat.le_of_ble_eq_true rfl) dX6_doBenchStep_62 ⟨Nat.zero_le _, Nat.zero_le _⟩ (fun H locs hP hS => ?_)
    exact g_aret hx hb hr hlocks hP hS dX6_doBenchStep_65 (by unfold cBench; rw [if_neg (show ¬ (11 : Nat) = 10 by decide), if_pos (rfl : (11 : Nat) = 11)] <;> rfl)
  · skip
    refine lv_tableIn (off := 65) (tgt := 66) hx hb dX6_doBenchStep_1 (by decide) (by decide) (by decide) (by decide) ?_
    refine lv_aload_n hx hb dX6_doBenchStep_66 rfl (lv_at hl 0 rfl) ?_
    refine mw_get (ci := 5) (C := RX6) (T := TX6) (N := 7) (v := .ref (ad 5)) hx hb hts hinX6 hown hK hP 0 (by decide) cF_0 rfl 4 (by decide) kf31 (fun _ h9 => h9) rfl dX6_doBenchStep_67 ?_
    refine lv_iload_n hx hb dX6_doBenchStep_70 rfl (lv_at hl 2 rfl) ?_
    refine lv_bipush (v := 10) hx hb dX6_doBenchStep_71 (by decide) ?_
    refine lv_isub hx hb dX6_doBenchStep_73 ?_
    refine g_callV (As := [.int ((nI j) - 10)]) (rest := []) (N := 6) (T := TX3) (ci := 3) ⟨hx, hb, hml, hown, hts⟩ 5 (c_newRack l D cy ad wy mt hj σ ((nI j) - 10)) (cwV 1 hts gX6_doBenchStep_X3_newRack rfl rfl rfl (by decide +kernel) ⟨by decide, by decide⟩) h0 hP hS (by decide) cF_5 rfl rfl rfl hl.1 (Nat.le_of_ble_eq_true rfl) dX6_doBenchStep_74 ⟨Nat.zero_le _, Nat.zero_le _⟩ (fun H locs hP hS => ?_)
    refine lv_if_eq (tgt := 86) hx hb dX6_doBenchStep_77 (by decide) (fun c_1 => ?_) (fun c_1 => ?_)
    · skip
      refine lv_aload_n hx hb dX6_doBenchStep_86 rfl (lv_at hl 0 rfl) ?_
      refine mw_get (ci := 5) (C := RX6) (T := TX6) (N := 7) (v := .ref (ad 7)) hx hb hts hinX6 hown hK hP 0 (by decide) cF_0 rfl 5 (by decide) kf38 (fun _ h9 => h9) rfl dX6_doBenchStep_87 ?_
      refine lv_bipush (v := 6) hx hb dX6_doBenchStep_90 (by decide) ?_
      refine g_callV (As := [.int 6]) (rest := []) (N := 7) (T := TX1) (ci := 1) ⟨hx, hb, hml, hown, hts⟩ 7 (c_fail l D cy ad wy mt hj ((cNewRack σ ((nI j) - 10)).2) 6) (cwV 1 hts gX6_doBenchStep_X1_fail rfl rfl rfl (by decide +kernel) ⟨by decide, by decide⟩) h0 hP hS (by decide) cF_7 rfl rfl rfl hl.1 (Nat.le_of_ble_eq_true rfl) dX6_doBenchStep_92 ⟨Nat.zero_le _, Nat.zero_le _⟩ (fun H locs hP hS => ?_)
      exact g_aret hx hb hr hlocks hP hS dX6_doBenchStep_95 (by unfold cBench; rw [if_neg (show ¬ (12 : Nat) = 10 by decide), if_neg (show ¬ (12 : Nat) = 11 by decide), if_pos (rfl : (12 : Nat) = 12), if_pos c_1] <;> rfl)
    · skip
      refine g_way hx hb h0 hS hown 0 (by decide) rfl kf145 dX6_doBenchStep_80 ?_
      refine lv_goto (tgt := 95) hx hb dX6_doBenchStep_83 (by decide) ?_
      exact g_aret hx hb hr hlocks hP hS dX6_doBenchStep_95 (by unfold cBench; rw [if_neg (show ¬ (12 : Nat) = 10 by decide), if_neg (show ¬ (12 : Nat) = 11 by decide), if_pos (rfl : (12 : Nat) = 12), if_neg c_1] <;> rfl)
  · skip
    refine lv_tableIn (off := 95) (tgt := 96) hx hb dX6_doBenchStep_1 (by decide) (by decide) (by decide) (by decide) ?_
    refine lv_aload_n hx hb dX6_doBenchStep_96 rfl (lv_at hl 0 rfl) ?_
    refine mw_get (ci := 5) (C := RX6) (T := TX6) (N := 7) (v := .ref (ad 5)) hx hb hts hinX6 hown hK hP 0 (by decide) cF_0 rfl 4 (by decide) kf31 (fun _ h9 => h9) rfl dX6_doBenchStep_97 ?_
    refine lv_iload_n hx hb dX6_doBenchStep_100 rfl (lv_at hl 2 rfl) ?_
    refine lv_iconst (v := 3) hx hb dX6_doBenchStep_101 (by decide) ?_
    refine lv_idiv hx hb dX6_doBenchStep_102 (by decide) ?_
    refine lv_iconst (v := 2) hx hb dX6_doBenchStep_103 (by decide) ?_
    refine lv_isub hx hb dX6_doBenchStep_104 ?_
    refine lv_iload_n hx hb dX6_doBenchStep_105 rfl (lv_at hl 2 rfl) ?_
    refine lv_iconst (v := 3) hx hb dX6_doBenchStep_106 (by decide) ?_
    refine lv_irem hx hb dX6_doBenchStep_107 (by decide) ?_
    refine g_callV (As := [.int (((nI j) / 3) - 2), .int ((nI j) - (nI j) / 3 * 3)]) (rest := []) (N := 6) (T := TX3) (ci := 3) ⟨hx, hb, hml, hown, hts⟩ 5 (c_newBox l D cy ad wy mt hj σ (((nI j) / 3) - 2) ((nI j) - (nI j) / 3 * 3)) (cwV 2 hts gX6_doBenchStep_X3_newBox rfl rfl rfl (by decide +kernel) ⟨by decide, by decide⟩) h0 hP hS (by decide) cF_5 rfl rfl rfl hl.1 (Nat.le_of_ble_eq_true rfl) dX6_doBenchStep_108 ⟨Nat.zero_le _, Nat.zero_le _⟩ (fun H locs hP hS => ?_)
    refine lv_if_eq (tgt := 120) hx hb dX6_doBenchStep_111 (by decide) (fun c_2 => ?_) (fun c_2 => ?_)
    · skip
      refine lv_aload_n hx hb dX6_doBenchStep_120 rfl (lv_at hl 0 rfl) ?_
      refine mw_get (ci := 5) (C := RX6) (T := TX6) (N := 7) (v := .ref (ad 7)) hx hb hts hinX6 hown hK hP 0 (by decide) cF_0 rfl 5 (by decide) kf38 (fun _ h9 => h9) rfl dX6_doBenchStep_121 ?_
      refine lv_bipush (v := 6) hx hb dX6_doBenchStep_124 (by decide) ?_
      refine g_callV (As := [.int 6]) (rest := []) (N := 7) (T := TX1) (ci := 1) ⟨hx, hb, hml, hown, hts⟩ 7 (c_fail l D cy ad wy mt hj ((cNewBox σ (((nI j) / 3) - 2) ((nI j) - (nI j) / 3 * 3)).2) 6) (cwV 1 hts gX6_doBenchStep_X1_fail rfl rfl rfl (by decide +kernel) ⟨by decide, by decide⟩) h0 hP hS (by decide) cF_7 rfl rfl rfl hl.1 (Nat.le_of_ble_eq_true rfl) dX6_doBenchStep_126 ⟨Nat.zero_le _, Nat.zero_le _⟩ (fun H locs hP hS => ?_)
      exact g_aret hx hb hr hlocks hP hS dX6_doBenchStep_129 (by unfold cBench; rw [if_neg (show ¬ (13 : Nat) = 10 by decide), if_neg (show ¬ (13 : Nat) = 11 by decide), if_neg (show ¬ (13 : Nat) = 12 by decide), if_pos (rfl : (13 : Nat) = 13), if_pos c_2] <;> rfl)
    · skip
      refine g_way hx hb h0 hS hown 0 (by decide) rfl kf145 dX6_doBenchStep_114 ?_
      refine lv_goto (tgt := 129) hx hb dX6_doBenchStep_117 (by decide) ?_
      exact g_aret hx hb hr hlocks hP hS dX6_doBenchStep_129 (by unfold cBench; rw [if_neg (show ¬ (13 : Nat) = 10 by decide), if_neg (show ¬ (13 : Nat) = 11 by decide), if_neg (show ¬ (13 : Nat) = 12 by decide), if_pos (rfl : (13 : Nat) = 13), if_neg c_2] <;> rfl)
  · skip
    refine lv_tableIn (off := 129) (tgt := 130) hx hb dX6_doBenchStep_1 (by decide) (by decide) (by decide) (by decide) ?_
    refine lv_aload_n hx hb dX6_doBenchStep_130 rfl (lv_at hl 0 rfl) ?_
    refine mw_get (ci := 5) (C := RX6) (T := TX6) (N := 7) (v := .ref (ad 5)) hx hb hts hinX6 hown hK hP 0 (by decide) cF_0 rfl 4 (by decide) kf31 (fun _ h9 => h9) rfl dX6_doBenchStep_131 ?_
    refine lv_iload_n hx hb dX6_doBenchStep_134 rfl (lv_at hl 2 rfl) ?_
    refine lv_bipush (v := 6) hx hb dX6_doBenchStep_135 (by decide) ?_
    refine lv_idiv hx hb dX6_doBenchStep_137 (by decide) ?_
    refine lv_iconst (v := 1) hx hb dX6_doBenchStep_138 (by decide) ?_
    refine lv_isub hx hb dX6_doBenchStep_139 ?_
    refine lv_iload_n hx hb dX6_doBenchStep_140 rfl (lv_at hl 2 rfl) ?_
    refine lv_bipush (v := 6) hx hb dX6_doBenchStep_141 (by decide) ?_
    refine lv_irem hx hb dX6_doBenchStep_143 (by decide) ?_
    refine lv_iconst (v := 1) hx hb dX6_doBenchStep_144 (by decide) ?_
    refine lv_isub hx hb dX6_doBenchStep_145 ?_
    refine g_callV (As := [.int (((nI j) / 6) - 1), .int (((nI j) - (nI j) / 6 * 6) - 1)]) (rest := []) (N := 6) (T := TX3) (ci := 3) ⟨hx, hb, hml, hown, hts⟩ 5 (c_newGrid l D cy ad wy mt hj σ (((nI j) / 6) - 1) (((nI j) - (nI j) / 6 * 6) - 1)) (cwV 2 hts gX6_doBenchStep_X3_newGrid rfl rfl rfl (by decide +kernel) ⟨by decide, by decide⟩) h0 hP hS (by decide) cF_5 rfl rfl rfl hl.1 (Nat.le_of_ble_eq_true rfl) dX6_doBenchStep_146 ⟨Nat.zero_le _, Nat.zero_le _⟩ (fun H locs hP hS => ?_)
    refine lv_if_eq (tgt := 158) hx hb dX6_doBenchStep_149 (by decide) (fun c_3 => ?_) (fun c_3 => ?_)
    · skip
      refine lv_aload_n hx hb dX6_doBenchStep_158 rfl (lv_at hl 0 rfl) ?_
      refine mw_get (ci := 5) (C := RX6) (T := TX6) (N := 7) (v := .ref (ad 7)) hx hb hts hinX6 hown hK hP 0 (by decide) cF_0 rfl 5 (by decide) kf38 (fun _ h9 => h9) rfl dX6_doBenchStep_159 ?_
      refine lv_bipush (v := 6) hx hb dX6_doBenchStep_162 (by decide) ?_
      refine g_callV (As := [.int 6]) (rest := []) (N := 7) (T := TX1) (ci := 1) ⟨hx, hb, hml, hown, hts⟩ 7 (c_fail l D cy ad wy mt hj ((cNewGrid σ (((nI j) / 6) - 1) (((nI j) - (nI j) / 6 * 6) - 1)).2) 6) (cwV 1 hts gX6_doBenchStep_X1_fail rfl rfl rfl (by decide +kernel) ⟨by decide, by decide⟩) h0 hP hS (by decide) cF_7 rfl rfl rfl hl.1 (Nat.le_of_ble_eq_true rfl) dX6_doBenchStep_164 ⟨Nat.zero_le _, Nat.zero_le _⟩ (fun H locs hP hS => ?_)
      exact g_aret hx hb hr hlocks hP hS dX6_doBenchStep_167 (by unfold cBench; rw [if_neg (show ¬ (14 : Nat) = 10 by decide), if_neg (show ¬ (14 : Nat) = 11 by decide), if_neg (show ¬ (14 : Nat) = 12 by decide), if_neg (show ¬ (14 : Nat) = 13 by decide), if_pos (rfl : (14 : Nat) = 14), if_pos c_3] <;> rfl)
    · skip
      refine g_way hx hb h0 hS hown 0 (by decide) rfl kf145 dX6_doBenchStep_152 ?_
      refine lv_goto (tgt := 167) hx hb dX6_doBenchStep_155 (by decide) ?_
      exact g_aret hx hb hr hlocks hP hS dX6_doBenchStep_167 (by unfold cBench; rw [if_neg (show ¬ (14 : Nat) = 10 by decide), if_neg (show ¬ (14 : Nat) = 11 by decide), if_neg (show ¬ (14 : Nat) = 12 by decide), if_neg (show ¬ (14 : Nat) = 13 by decide), if_pos (rfl : (14 : Nat) = 14), if_neg c_3] <;> rfl)
  · skip
    refine lv_tableIn (off := 167) (tgt := 168) hx hb dX6_doBenchStep_1 (by decide) (by decide) (by decide) (by decide) ?_
    refine lv_aload_n hx hb dX6_doBenchStep_168 rfl (lv_at hl 0 rfl) ?_
    refine lv_iload_n hx hb dX6_doBenchStep_169 rfl (lv_at hl 2 rfl) ?_
    refine lv_bipush (v := 10) hx hb dX6_doBenchStep_170 (by decide) ?_
    refine lv_irem hx hb dX6_doBenchStep_172 (by decide) ?_
    refine g_top (y := nI (j % 10)) (pk_rem (d := 10) (by omega) (by decide) (by decide)) ?_
    refine lv_iload_n hx hb dX6_doBenchStep_173 rfl (lv_at hl 2 rfl) ?_
    refine lv_bipush (v := 10) hx hb dX6_doBenchStep_174 (by decide) ?_
    refine lv_idiv hx hb dX6_doBenchStep_176 (by decide) ?_
    have hbx := hbx (j / 10) (by omega)
    refine g_top (y := nI (j / 10)) (pk_div (d := 10) (by omega) (by decide) (by decide)) ?_
    refine g_callV (As := [.int (nI (j % 10)), .int (nI (j / 10))]) (rest := []) (N := 7) (T := TX6) (ci := 5) ⟨hx, hb, hml, hown, hts⟩ 0 (c_putTool l D cy ad wy mt hj σ (j % 10) (j / 10) (by omega) (by omega) hbx) (cwV 2 hts gX6_doBenchStep_X6_putTool rfl rfl rfl (by decide +kernel) ⟨by decide, by decide⟩) h0 hP hS (by decide) cF_0 rfl rfl rfl hl.1 (Nat.le_of_ble_eq_true rfl) dX6_doBenchStep_177 ⟨Nat.zero_le _, Nat.zero_le _⟩ (fun H locs hP hS => ?_)
    exact g_aret hx hb hr hlocks hP hS dX6_doBenchStep_180 (by unfold cBench; rw [if_neg (show ¬ (15 : Nat) = 10 by decide), if_neg (show ¬ (15 : Nat) = 11 by decide), if_neg (show ¬ (15 : Nat) = 12 by decide), if_neg (show ¬ (15 : Nat) = 13 by decide), if_neg (show ¬ (15 : Nat) = 14 by decide), if_pos (rfl : (15 : Nat) = 15)] <;> rfl)
  · skip
    refine lv_tableIn (off := 180) (tgt := 181) hx hb dX6_doBenchStep_1 (by decide) (by decide) (by decide) (by decide) ?_
    have hj4 := hj4 (by decide)
    refine lv_aload_n hx hb dX6_doBenchStep_181 rfl (lv_at hl 0 rfl) ?_
    refine mw_get (ci := 5) (C := RX6) (T := TX6) (N := 7) (v := .ref (ad 5)) hx hb hts hinX6 hown hK hP 0 (by decide) cF_0 rfl 4 (by decide) kf31 (fun _ h9 => h9) rfl dX6_doBenchStep_182 ?_
    refine lv_iload_n hx hb dX6_doBenchStep_185 rfl (lv_at hl 2 rfl) ?_
    refine g_callV (As := [.int (nI j)]) (rest := []) (N := 6) (T := TX3) (ci := 3) ⟨hx, hb, hml, hown, hts⟩ 5 (c_sizeOf l D cy ad wy mt hj σ j (by omega)) (cwV 1 hts gX6_doBenchStep_X3_sizeOf rfl rfl rfl (by decide +kernel) ⟨by decide, by decide⟩) h0 hP hS (by decide) cF_5 rfl rfl rfl hl.1 (Nat.le_of_ble_eq_true rfl) dX6_doBenchStep_186 ⟨Nat.zero_le _, Nat.zero_le _⟩ (fun H locs hP hS => ?_)
    refine lv_bipush (v := (-4)) hx hb dX6_doBenchStep_189 (by decide) ?_
    refine lv_icmp_ne (tgt := 205) hx hb dX6_doBenchStep_191 (by decide) (fun c_4 => ?_) (fun c_4 => ?_)
    · skip
      refine lv_aload_n hx hb dX6_doBenchStep_205 rfl (lv_at hl 0 rfl) ?_
      refine lv_iload_n hx hb dX6_doBenchStep_206 rfl (lv_at hl 3 rfl) ?_
      refine lv_aload_n hx hb dX6_doBenchStep_207 rfl (lv_at hl 0 rfl) ?_
      refine mw_get (ci := 5) (C := RX6) (T := TX6) (N := 7) (v := .ref (ad 5)) hx hb hts hinX6 hown hK hP 0 (by decide) cF_0 rfl 4 (by decide) kf31 (fun _ h9 => h9) rfl dX6_doBenchStep_208 ?_
      refine lv_iload_n hx hb dX6_doBenchStep_211 rfl (lv_at hl 2 rfl) ?_
      refine g_callV (As := [.int (nI j)]) (rest := [.int (nI v), .ref (ad 0)]) (N := 6) (T := TX3) (ci := 3) ⟨hx, hb, hml, hown, hts⟩ 5 (c_sizeOf l D cy ad wy mt hj σ j (by omega)) (cwV 1 hts gX6_doBenchStep_X3_sizeOf rfl rfl rfl (by decide +kernel) ⟨by decide, by decide⟩) h0 hP hS (by decide) cF_5 rfl rfl rfl hl.1 (Nat.le_of_ble_eq_true rfl) dX6_doBenchStep_212 ⟨Nat.zero_le _, Nat.zero_le _⟩ (fun H locs hP hS => ?_)
      refine g_callV (As := [.int (nI v), .int (cSizeOf σ j)]) (rest := []) (N := 7) (T := TX6) (ci := 5) ⟨hx, hb, hml, hown, hts⟩ 0 (c_addDrops l D cy ad wy mt hj σ v (by omega) (cSizeOf σ j)) (cwV 2 hts gX6_doBenchStep_X6_addDrops rfl rfl rfl (by decide +kernel) ⟨by decide, by decide⟩) h0 hP hS (by decide) cF_0 rfl rfl rfl hl.1 (Nat.le_of_ble_eq_true rfl) dX6_doBenchStep_215 ⟨Nat.zero_le _, Nat.zero_le _⟩ (fun H locs hP hS => ?_)
      exact g_aret hx hb hr hlocks hP hS dX6_doBenchStep_218 (by unfold cBench; rw [if_neg (show ¬ (16 : Nat) = 10 by decide), if_neg (show ¬ (16 : Nat) = 11 by decide), if_neg (show ¬ (16 : Nat) = 12 by decide), if_neg (show ¬ (16 : Nat) = 13 by decide), if_neg (show ¬ (16 : Nat) = 14 by decide), if_neg (show ¬ (16 : Nat) = 15 by decide), if_pos (rfl : (16 : Nat) = 16), if_neg c_4] <;> rfl)
    · skip
      refine lv_aload_n hx hb dX6_doBenchStep_194 rfl (lv_at hl 0 rfl) ?_
      refine mw_get (ci := 5) (C := RX6) (T := TX6) (N := 7) (v := .ref (ad 7)) hx hb hts hinX6 hown hK hP 0 (by decide) cF_0 rfl 5 (by decide) kf38 (fun _ h9 => h9) rfl dX6_doBenchStep_195 ?_
      refine lv_iconst (v := 5) hx hb dX6_doBenchStep_198 (by decide) ?_
      refine g_callV (As := [.int 5]) (rest := []) (N := 7) (T := TX1) (ci := 1) ⟨hx, hb, hml, hown, hts⟩ 7 (c_fail l D cy ad wy mt hj σ 5) (cwV 1 hts gX6_doBenchStep_X1_fail rfl rfl rfl (by decide +kernel) ⟨by decide, by decide⟩) h0 hP hS (by decide) cF_7 rfl rfl rfl hl.1 (Nat.le_of_ble_eq_true rfl) dX6_doBenchStep_199 ⟨Nat.zero_le _, Nat.zero_le _⟩ (fun H locs hP hS => ?_)
      refine lv_goto (tgt := 218) hx hb dX6_doBenchStep_202 (by decide) ?_
      exact g_aret hx hb hr hlocks hP hS dX6_doBenchStep_218 (by unfold cBench; rw [if_neg (show ¬ (16 : Nat) = 10 by decide), if_neg (show ¬ (16 : Nat) = 11 by decide), if_neg (show ¬ (16 : Nat) = 12 by decide), if_neg (show ¬ (16 : Nat) = 13 by decide), if_neg (show ¬ (16 : Nat) = 14 by decide), if_neg (show ¬ (16 : Nat) = 15 by decide), if_pos (rfl : (16 : Nat) = 16), if_pos c_4] <;> rfl)
  · skip
    refine lv_tableIn (off := 218) (tgt := 219) hx hb dX6_doBenchStep_1 (by decide) (by decide) (by decide) (by decide) ?_
    have hj4 := hj4 (by decide)
    refine lv_aload_n hx hb dX6_doBenchStep_219 rfl (lv_at hl 0 rfl) ?_
    refine mw_get (ci := 5) (C := RX6) (T := TX6) (N := 7) (v := .ref (ad 4)) hx hb hts hinX6 hown hK hP 0 (by decide) cF_0 rfl 3 (by decide) kf25 (fun _ h9 => h9) rfl dX6_doBenchStep_220 ?_
    refine lv_iload_n hx hb dX6_doBenchStep_223 rfl (lv_at hl 2 rfl) ?_
    refine mw_ild hx hb hK hP 4 (by decide) 0 cF_4 rfl j (by omega) (by decide) rfl dX6_doBenchStep_224 ?_
    refine lv_if_ne (tgt := 239) hx hb dX6_doBenchStep_225 (by decide) (fun c_5 => ?_) (fun c_5 => ?_)
    · skip
      refine lv_aload_n hx hb dX6_doBenchStep_239 rfl (lv_at hl 0 rfl) ?_
      refine mw_get (ci := 5) (C := RX6) (T := TX6) (N := 7) (v := .ref (ad 7)) hx hb hts hinX6 hown hK hP 0 (by decide) cF_0 rfl 5 (by decide) kf38 (fun _ h9 => h9) rfl dX6_doBenchStep_240 ?_
      refine lv_aload_n hx hb dX6_doBenchStep_243 rfl (lv_at hl 0 rfl) ?_
      refine mw_get (ci := 5) (C := RX6) (T := TX6) (N := 7) (v := .ref (ad 4)) hx hb hts hinX6 hown hK hP 0 (by decide) cF_0 rfl 3 (by decide) kf25 (fun _ h9 => h9) rfl dX6_doBenchStep_244 ?_
      refine lv_iload_n hx hb dX6_doBenchStep_247 rfl (lv_at hl 2 rfl) ?_
      refine mw_ild hx hb hK hP 4 (by decide) 0 cF_4 rfl j (by omega) (by decide) rfl dX6_doBenchStep_248 ?_
      refine g_callV (As := [.int (σ 4 j)]) (rest := []) (N := 7) (T := TX1) (ci := 1) ⟨hx, hb, hml, hown, hts⟩ 7 (c_failAsLaid l D cy ad wy mt hj σ (σ 4 j)) (cwV 1 hts gX6_doBenchStep_X1_failAsLaid rfl rfl rfl (by decide +kernel) ⟨by decide, by decide⟩) h0 hP hS (by decide) cF_7 rfl rfl rfl hl.1 (Nat.le_of_ble_eq_true rfl) dX6_doBenchStep_249 ⟨Nat.zero_le _, Nat.zero_le _⟩ (fun H locs hP hS => ?_)
      exact g_aret hx hb hr hlocks hP hS dX6_doBenchStep_252 (by unfold cBench; rw [if_neg (show ¬ (17 : Nat) = 10 by decide), if_neg (show ¬ (17 : Nat) = 11 by decide), if_neg (show ¬ (17 : Nat) = 12 by decide), if_neg (show ¬ (17 : Nat) = 13 by decide), if_neg (show ¬ (17 : Nat) = 14 by decide), if_neg (show ¬ (17 : Nat) = 15 by decide), if_neg (show ¬ (17 : Nat) = 16 by decide), if_neg c_5] <;> rfl)
    · skip
      refine lv_aload_n hx hb dX6_doBenchStep_228 rfl (lv_at hl 0 rfl) ?_
      refine mw_get (ci := 5) (C := RX6) (T := TX6) (N := 7) (v := .ref (ad 7)) hx hb hts hinX6 hown hK hP 0 (by decide) cF_0 rfl 5 (by decide) kf38 (fun _ h9 => h9) rfl dX6_doBenchStep_229 ?_
      refine lv_iconst (v := 5) hx hb dX6_doBenchStep_232 (by decide) ?_
      refine g_callV (As := [.int 5]) (rest := []) (N := 7) (T := TX1) (ci := 1) ⟨hx, hb, hml, hown, hts⟩ 7 (c_fail l D cy ad wy mt hj σ 5) (cwV 1 hts gX6_doBenchStep_X1_fail rfl rfl rfl (by decide +kernel) ⟨by decide, by decide⟩) h0 hP hS (by decide) cF_7 rfl rfl rfl hl.1 (Nat.le_of_ble_eq_true rfl) dX6_doBenchStep_233 ⟨Nat.zero_le _, Nat.zero_le _⟩ (fun H locs hP hS => ?_)
      refine lv_goto (tgt := 252) hx hb dX6_doBenchStep_236 (by decide) ?_
      exact g_aret hx hb hr hlocks hP hS dX6_doBenchStep_252 (by unfold cBench; rw [if_neg (show ¬ (17 : Nat) = 10 by decide), if_neg (show ¬ (17 : Nat) = 11 by decide), if_neg (show ¬ (17 : Nat) = 12 by decide), if_neg (show ¬ (17 : Nat) = 13 by decide), if_neg (show ¬ (17 : Nat) = 14 by decide), if_neg (show ¬ (17 : Nat) = 15 by decide), if_neg (show ¬ (17 : Nat) = 16 by decide), if_pos c_5] <;> rfl)
theorem cBench_10 (σ : Mem) (j v : Nat) : cBench σ 10 j v = cUse σ j := by
  unfold cBench; rw [if_pos (rfl : (10 : Nat) = 10)]
theorem cBench_11 (σ : Mem) (j v : Nat) : cBench σ 11 j v = cGrip σ j (σ 1 v) := by
  unfold cBench; rw [if_neg (show ¬ (11 : Nat) = 10 by decide), if_pos (rfl : (11 : Nat) = 11)]
theorem cBench_12 (σ : Mem) (j v : Nat) : cBench σ 12 j v = (if (cNewRack σ ((nI j) - 10)).1 = 0 then cFail ((cNewRack σ ((nI j) - 10)).2) 6
    else (0, (cNewRack σ ((nI j) - 10)).2)) := by
  unfold cBench; rw [if_neg (show ¬ (12 : Nat) = 10 by decide), if_neg (show ¬ (12 : Nat) = 11 by decide), if_pos (rfl : (12 : Nat) = 12)]
theorem cBench_13 (σ : Mem) (j v : Nat) : cBench σ 13 j v = (if (cNewBox σ (((nI j) / 3) - 2) ((nI j) - (nI j) / 3 * 3)).1 = 0 then cFail ((cNewBox σ (((nI j) / 3) - 2) ((nI j) - (nI j) / 3 * 3)).2) 6
    else (0, (cNewBox σ (((nI j) / 3) - 2) ((nI j) - (nI j) / 3 * 3)).2)) := by
  unfold cBench; rw [if_neg (show ¬ (13 : Nat) = 10 by decide), if_neg (show ¬ (13 : Nat) = 11 by decide), if_neg (show ¬ (13 : Nat) = 12 by decide), if_pos (rfl : (13 : Nat) = 13)]
theorem cBench_14 (σ : Mem) (j v : Nat) : cBench σ 14 j v = (if (cNewGrid σ (((nI j) / 6) - 1) (((nI j) - (nI j) / 6 * 6) - 1)).1 = 0 then cFail ((cNewGrid σ (((nI j) / 6) - 1) (((nI j) - (nI j) / 6 * 6) - 1)).2) 6
    else (0, (cNewGrid σ (((nI j) / 6) - 1) (((nI j) - (nI j) / 6 * 6) - 1)).2)) := by
  unfold cBench; rw [if_neg (show ¬ (14 : Nat) = 10 by decide), if_neg (show ¬ (14 : Nat) = 11 by decide), if_neg (show ¬ (14 : Nat) = 12 by decide), if_neg (show ¬ (14 : Nat) = 13 by decide), if_pos (rfl : (14 : Nat) = 14)]
theorem cBench_15 (σ : Mem) (j v : Nat) : cBench σ 15 j v = cPut σ (j % 10) (j / 10) := by
  unfold cBench; rw [if_neg (show ¬ (15 : Nat) = 10 by decide), if_neg (show ¬ (15 : Nat) = 11 by decide), if_neg (show ¬ (15 : Nat) = 12 by decide), if_neg (show ¬ (15 : Nat) = 13 by decide), if_neg (show ¬ (15 : Nat) = 14 by decide), if_pos (rfl : (15 : Nat) = 15)]
theorem cBench_16 (σ : Mem) (j v : Nat) : cBench σ 16 j v = (if cSizeOf σ j = (-4) then cFail σ 5
    else cAdd σ v (cSizeOf σ j)) := by
  unfold cBench; rw [if_neg (show ¬ (16 : Nat) = 10 by decide), if_neg (show ¬ (16 : Nat) = 11 by decide), if_neg (show ¬ (16 : Nat) = 12 by decide), if_neg (show ¬ (16 : Nat) = 13 by decide), if_neg (show ¬ (16 : Nat) = 14 by decide), if_neg (show ¬ (16 : Nat) = 15 by decide), if_pos (rfl : (16 : Nat) = 16)]
theorem cBench_17 (σ : Mem) (j v : Nat) : cBench σ 17 j v = (if σ 4 j = 0 then cFail σ 5
    else cFailLaid σ (σ 4 j)) := by
  unfold cBench; rw [if_neg (show ¬ (17 : Nat) = 10 by decide), if_neg (show ¬ (17 : Nat) = 11 by decide), if_neg (show ¬ (17 : Nat) = 12 by decide), if_neg (show ¬ (17 : Nat) = 13 by decide), if_neg (show ¬ (17 : Nat) = 14 by decide), if_neg (show ¬ (17 : Nat) = 15 by decide), if_neg (show ¬ (17 : Nat) = 16 by decide)]
