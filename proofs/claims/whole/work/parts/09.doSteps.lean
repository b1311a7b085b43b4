theorem cSteps_succ (q v fu : Nat) (σ : Mem) (nx : Nat) (ag : Int32) : cSteps q v (fu + 1) σ nx ag = if σ (26 + q) 2 ≤ nI nx then (0, σ)
    else if σ 8 5 < 200 then
      (if (cStepAt q v σ nx ag).1 = 2 then cSteps q v fu (cStepAt q v σ nx ag).2 0 (ag + 1)
      else if (cStepAt q v σ nx ag).1 = 0 then cSteps q v fu (cStepAt q v σ nx ag).2 (nx + 1) ag
      else cStepAt q v σ nx ag)
    else (6, σ) := rfl
def cTake (σ : Mem) (md n : Int32) : Nat × Mem :=
  if md = 1 then (0, cNote σ)
  else if md = 2 then (5, cInStead σ (20 + n))
  else (5, σ)
set_option maxHeartbeats 4000000 in
set_option maxRecDepth 100000 in
theorem c_takeFailure (l : Launch) (D : va_G) (cy : Nat → ClassId) (ad wy : Nat → Nat) (mt : Nat) (hj : mJ 98 ad) (σ : Mem) (md n : Int32) (x : Nat) (hO : rOK x σ) : Met l yX6_takeFailure wsX6_takeFailure ({ frames := 1, cells := 0, slots := 0, locals := 21 }) (va_Pc [.ref (ad 0), .int md, .int n] (gPre 98 ad (cF ad cy) D cy wy mt σ)) (gQ 98 ad (cF ad cy) D (some (.ref (wy (cTake σ md n).1))) (cTake σ md n).2) 0 0 (mA 98 ad) := by
  refine g_met (cc := cX6_takeFailure) (maxL := 3) (ret := (some (.object "BenchRuns$Way"))) (by decide) rfl (Nat.le_of_ble_eq_true rfl) ?_
  intro p e s m below meth c S hr hlocks h0 ls hl
  obtain ⟨hx, hb, hml, hown, hts⟩ := S
  have hP := h0.1
  have hK := h0.2.1
  have hS : va_S (mA 98 ad) s.heap s.heap [] := va_S.rf
  have hl : lv_has ls 3 [(0, .ref (ad 0)), (1, .int md), (2, .int n)] := hl
  have kf104 : (Cond.fieldLink RX6 104 "BenchRuns$Way" "FAILURE" "LBenchRuns$Way;").before (#[.ref (ad 0), .int md, .int n] : Array Value) s = true := hts _ (by decide +kernel)
  have kf38 : (Cond.fieldLink RX6 38 "BenchRuns" "log" "LBenchRuns$Log;").before (#[.ref (ad 0), .int md, .int n] : Array Value) s = true := hts _ (by decide +kernel)
  have hinX6 : ∀ w ∈ u_ws RX6 TX6 7, w ∈ wsX6_takeFailure := by decide +kernel
  have kf145 : (Cond.fieldLink RX6 145 "BenchRuns$Way" "ONWARD" "LBenchRuns$Way;").before (#[.ref (ad 0), .int md, .int n] : Array Value) s = true := hts _ (by decide +kernel)
  refine lv_iload_n hx hb dX6_takeFailure_0 rfl (lv_at hl 1 rfl) ?_
  refine lv_iconst (v := 1) hx hb dX6_takeFailure_1 (by decide) ?_
  refine lv_icmp_ne (tgt := 16) hx hb dX6_takeFailure_2 (by decide) (fun c_1 => ?_) (fun c_1 => ?_)
  · skip
    refine lv_iload_n hx hb dX6_takeFailure_16 rfl (lv_at hl 1 rfl) ?_
    refine lv_iconst (v := 2) hx hb dX6_takeFailure_17 (by decide) ?_
    refine lv_icmp_ne (tgt := 32) hx hb dX6_takeFailure_18 (by decide) (fun c_2 => ?_) (fun c_2 => ?_)
    · skip
      refine g_way hx hb h0 hS hown 5 (by decide) rfl kf104 dX6_takeFailure_32 ?_
      exact g_aret hx hb hr hlocks hP hS dX6_takeFailure_35 (by unfold cTake; rw [if_neg c_1, if_neg c_2] <;> rfl)
    · skip
      refine lv_aload_n hx hb dX6_takeFailure_21 rfl (lv_at hl 0 rfl) ?_
      refine mw_get (ci := 5) (C := RX6) (T := TX6) (N := 7) (v := .ref (ad 7)) hx hb hts hinX6 hown hK hP 0 (by decide) cF_0 rfl 5 (by decide) kf38 (fun _ h9 => h9) rfl dX6_takeFailure_22 ?_
      refine lv_bipush (v := 20) hx hb dX6_takeFailure_25 (by decide) ?_
      refine lv_iload_n hx hb dX6_takeFailure_27 rfl (lv_at hl 2 rfl) ?_
      refine lv_iadd hx hb dX6_takeFailure_28 ?_
      refine g_callV (As := [.int (20 + n)]) (rest := []) (N := 7) (T := TX1) (ci := 1) ⟨hx, hb, hml, hown, hts⟩ 7 (c_failInStead l D cy ad wy mt hj σ (20 + n) (rOK.cl hO)) (cwV 1 hts gX6_takeFailure_X1_failInStead rfl rfl rfl (by decide +kernel) ⟨by decide, by decide⟩) h0 hP hS (by decide) cF_7 rfl rfl rfl hl.1 (Nat.le_of_ble_eq_true rfl) dX6_takeFailure_29 ⟨Nat.zero_le _, Nat.zero_le _⟩ (fun H locs hP hS => ?_)
      refine g_way hx hb h0 hS hown 5 (by decide) rfl kf104 dX6_takeFailure_32 ?_
      exact g_aret hx hb hr hlocks hP hS dX6_takeFailure_35 (by unfold cTake; rw [if_neg c_1, if_pos c_2] <;> rfl)
  · skip
    refine lv_aload_n hx hb dX6_takeFailure_5 rfl (lv_at hl 0 rfl) ?_
    refine mw_get (ci := 5) (C := RX6) (T := TX6) (N := 7) (v := .ref (ad 7)) hx hb hts hinX6 hown hK hP 0 (by decide) cF_0 rfl 5 (by decide) kf38 (fun _ h9 => h9) rfl dX6_takeFailure_6 ?_
    refine g_callV (As := []) (rest := []) (N := 7) (T := TX1) (ci := 1) ⟨hx, hb, hml, hown, hts⟩ 7 (c_noteFailure l D cy ad wy mt hj σ (rOK.cl1 hO) (rOK.nc hO)) (cwV 0 hts gX6_takeFailure_X1_noteFailure rfl rfl rfl (by decide +kernel) ⟨by decide, by decide⟩) h0 hP hS (by decide) cF_7 rfl rfl rfl hl.1 (Nat.le_of_ble_eq_true rfl) dX6_takeFailure_9 ⟨Nat.zero_le _, Nat.zero_le _⟩ (fun H locs hP hS => ?_)
    refine g_way hx hb h0 hS hown 0 (by decide) rfl kf145 dX6_takeFailure_12 ?_
    exact g_aret hx hb hr hlocks hP hS dX6_takeFailure_15 (by unfold cTake; rw [if_pos c_1] <;> rfl)
theorem cTake_lt (σ : Mem) (md n : Int32) : (cTake σ md n).1 < 7 := by
  unfold cTake
  split
  · show (0 : Nat) < 7; decide
  split
  · show (5 : Nat) < 7; decide
  · show (5 : Nat) < 7; decide
theorem sOK_take (σ : Mem) (md n : Int32) : sOK σ (cTake σ md n) := by
  refine ⟨cTake_lt σ md n, ?_⟩
  unfold cTake
  split
  · exact sB_note σ
  split
  · exact sB_inStead σ _
  · exact ⟨kR.rf σ, fun _ h => h⟩
set_option maxHeartbeats 4000000 in
set_option maxRecDepth 100000 in
theorem c_doSteps (l : Launch) (D : va_G) (cy : Nat → ClassId) (ad wy : Nat → Nat) (mt : Nat) (hj : mJ 98 ad) (σ : Mem) (q v : Nat) (hq : q < 24) (hv : v < 8) (x : Nat) (hx9 : x ≤ 900) (hR : cR σ) (hO : rOK (x + 1) σ) (hv3 : σ (26 + q) 3 = nI v) : Met l yX6_doSteps wsX6_doSteps ({ frames := 3, cells := 0, slots := 0, locals := 68 }) (va_Pc [.ref (ad 0), .ref (ad (26 + q))] (gPre 98 ad (cF ad cy) D cy wy mt σ)) (gQ 98 ad (cF ad cy) D (some (.ref (wy (cSteps q v 201 σ 0 0).1))) (cSteps q v 201 σ 0 0).2) 0 0 (mA 98 ad) := by
  refine g_met (cc := cX6_doSteps) (maxL := 8) (ret := (some (.object "BenchRuns$Way"))) (by decide) rfl (Nat.le_of_ble_eq_true rfl) ?_
  intro p e s m below meth c S hr hlocks h0 ls hl
  obtain ⟨hx, hb, hml, hown, hts⟩ := S
  have hP := h0.1
  have hK := h0.2.1
  have hS : va_S (mA 98 ad) s.heap s.heap [] := va_S.rf
  have hl : lv_has ls 8 [(0, .ref (ad 0)), (1, .ref (ad (26 + q)))] := hl
  have kf145 : (Cond.fieldLink RX6 145 "BenchRuns$Way" "ONWARD" "LBenchRuns$Way;").before (#[.ref (ad 0), .ref (ad (26 + q))] : Array Value) s = true := hts _ (by decide +kernel)
  have kf181 : (Cond.fieldLink RX6 181 "BenchRuns$Round" "stepCount" "I").before (#[.ref (ad 0), .ref (ad (26 + q))] : Array Value) s = true := hts _ (by decide +kernel)
  have hinX2 : ∀ w ∈ u_ws RX2 TX2 4, w ∈ wsX6_doSteps := by decide +kernel
  have kf38 : (Cond.fieldLink RX6 38 "BenchRuns" "log" "LBenchRuns$Log;").before (#[.ref (ad 0), .ref (ad (26 + q))] : Array Value) s = true := hts _ (by decide +kernel)
  have hinX6 : ∀ w ∈ u_ws RX6 TX6 7, w ∈ wsX6_doSteps := by decide +kernel
  have kf131 : (Cond.fieldLink RX6 131 "BenchRuns$Log" "countOf" "[I").before (#[.ref (ad 0), .ref (ad (26 + q))] : Array Value) s = true := hts _ (by decide +kernel)
  have hinX1 : ∀ w ∈ u_ws RX1 TX1 7, w ∈ wsX6_doSteps := by decide +kernel
  have kf184 : (Cond.fieldLink RX6 184 "BenchRuns$Round" "kinds" "[I").before (#[.ref (ad 0), .ref (ad (26 + q))] : Array Value) s = true := hts _ (by decide +kernel)
  have kf187 : (Cond.fieldLink RX6 187 "BenchRuns$Round" "numbers" "[I").before (#[.ref (ad 0), .ref (ad (26 + q))] : Array Value) s = true := hts _ (by decide +kernel)
  have kf171 : (Cond.fieldLink RX6 171 "BenchRuns$Round" "vial" "I").before (#[.ref (ad 0), .ref (ad (26 + q))] : Array Value) s = true := hts _ (by decide +kernel)
  have kf198 : (Cond.fieldLink RX6 198 "BenchRuns$Way" "ANEW" "LBenchRuns$Way;").before (#[.ref (ad 0), .ref (ad (26 + q))] : Array Value) s = true := hts _ (by decide +kernel)
  have kf116 : (Cond.fieldLink RX6 116 "BenchRuns$Way" "TIRED" "LBenchRuns$Way;").before (#[.ref (ad 0), .ref (ad (26 + q))] : Array Value) s = true := hts _ (by decide +kernel)
  refine lv_iconst (v := 0) hx hb dX6_doSteps_0 (by decide) ?_
  refine lv_istore_n (lv' := [(2, .int 0), (0, .ref (ad 0)), (1, .ref (ad (26 + q)))]) hx hb dX6_doSteps_1 rfl hl (by decide) rfl (fun ls hl => ?_)
  refine lv_iconst (v := 0) hx hb dX6_doSteps_2 (by decide) ?_
  refine lv_istore_n (lv' := [(3, .int 0), (2, .int 0), (0, .ref (ad 0)), (1, .ref (ad (26 + q)))]) hx hb dX6_doSteps_3 rfl hl (by decide) rfl (fun ls hl => ?_)
  refine lv_iconst (v := 0) hx hb dX6_doSteps_4 (by decide) ?_
  refine lv_istore (lv' := [(4, .int 0), (3, .int 0), (2, .int 0), (0, .ref (ad 0)), (1, .ref (ad (26 + q)))]) hx hb dX6_doSteps_5 hl (by decide) rfl (fun ls hl => ?_)
  have loop : ∀ (fu tn nx : Nat) (ag : Int32) (τ : Mem) (H : Heap) (locs : List Loc) (ls : Array Slot), tn + fu = 201 → nx ≤ 8 → cR τ → rOK (x + 1) τ → τ (26 + q) 3 = nI v → cSteps q v fu τ nx ag = cSteps q v 201 σ 0 0 → va_P D vwCl (mW 98 ad (cF ad cy) τ) H → va_S (mA 98 ad) s.heap H locs → lv_has ls 8 [(4, .int (nI tn)), (3, .int ag), (2, .int (nI nx)), (0, .ref (ad 0)), (1, .ref (ad (26 + q)))] → W p l e ({ frames := 3, cells := 0, slots := 0, locals := 68 }) s m ([.ref (ad 0), .ref (ad (26 + q))] : List Value).toArray below meth c H locs 0 0 (MQ below (gQ 98 ad (cF ad cy) D (some (.ref (wy (cSteps q v 201 σ 0 0).1))) (cSteps q v 201 σ 0 0).2) ([.ref (ad 0), .ref (ad (26 + q))] : List Value).toArray s 0 0 (mA 98 ad)) (F0 m 7 ls []) := by
    intro fu
    induction fu with
    | zero =>
      intro tn nx ag τ H locs ls htn hnx hR hO hv3 hf hP hS hl
      have htn1 : tn = 201 := by omega
      subst htn1
      refine lv_iload hx hb dX6_doSteps_7 (lv_at hl 0 rfl) ?_
      refine lv_sipush (v := 200) hx hb dX6_doSteps_9 (by decide) ?_
      refine lv_icmp_gt (tgt := 151) hx hb dX6_doSteps_12 (by decide) (fun _ => ?_) (fun c9 => absurd (show (200 : Int32) < nI 201 by decide) c9)
      refine g_way hx hb h0 hS hown 0 (by decide) rfl kf145 dX6_doSteps_151 ?_
      exact g_aret hx hb hr hlocks hP hS dX6_doSteps_154 hf.symm
    | succ fu ih =>
      intro tn nx ag τ H locs ls htn hnx hR hO hv3 hf hP hS hl
      refine lv_iload hx hb dX6_doSteps_7 (lv_at hl 0 rfl) ?_
      refine lv_sipush (v := 200) hx hb dX6_doSteps_9 (by decide) ?_
      refine lv_icmp_gt (tgt := 151) hx hb dX6_doSteps_12 (by decide) (fun c9 => absurd c9 (nI_nlt (a := 200) (by omega) (by decide))) (fun _ => ?_)
      refine lv_iload_n hx hb dX6_doSteps_15 rfl (lv_at hl 2 rfl) ?_
      refine lv_aload_n hx hb dX6_doSteps_16 rfl (lv_at hl 4 rfl) ?_
      refine mw_get (ci := 2) (C := RX2) (T := TX2) (N := 4) (v := .int (τ (26 + q) 2)) hx hb hts hinX2 hown hK hP (26 + q) (cB_rnd hq) (cF_rnd hq) rfl 2 (by decide) kf181 (fun _ h9 => h9) rfl dX6_doSteps_17 ?_
      refine lv_icmp_ge (tgt := 151) hx hb dX6_doSteps_20 (by decide) (fun c_1 => ?_) (fun c_1 => ?_)
      · skip
        refine g_way hx hb h0 hS hown 0 (by decide) rfl kf145 dX6_doSteps_151 ?_
        exact g_aret hx hb hr hlocks hP hS dX6_doSteps_154 (hf.symm.trans (by rw [cSteps_succ, if_pos c_1]))
      · skip
        refine lv_aload_n hx hb dX6_doSteps_23 rfl (lv_at hl 3 rfl) ?_
        refine mw_get (ci := 5) (C := RX6) (T := TX6) (N := 7) (v := .ref (ad 7)) hx hb hts hinX6 hown hK hP 0 (by decide) cF_0 rfl 5 (by decide) kf38 (fun _ h9 => h9) rfl dX6_doSteps_24 ?_
        refine mw_get (ci := 1) (C := RX1) (T := TX1) (N := 7) (v := .ref (ad 8)) hx hb hts hinX1 hown hK hP 7 (by decide) cF_7 rfl 0 (by decide) kf131 (fun _ h9 => h9) rfl dX6_doSteps_27 ?_
        refine lv_iconst (v := 5) hx hb dX6_doSteps_30 (by decide) ?_
        refine mw_ild hx hb hK hP 8 (by decide) 0 cF_8 rfl 5 (by decide) (by decide) rfl dX6_doSteps_31 ?_
        refine lv_sipush (v := 200) hx hb dX6_doSteps_32 (by decide) ?_
        refine lv_icmp_lt (tgt := 42) hx hb dX6_doSteps_35 (by decide) (fun c_2 => ?_) (fun c_2 => ?_)
        · skip
          have hnx8 := cR_nx hR hq hnx c_1
          obtain ⟨kd, j, hkd, hj200, ekd, ej, h164⟩ := (hR.1 q hq).2.2 nx hnx8
          refine lv_aload_n hx hb dX6_doSteps_42 rfl (lv_at hl 4 rfl) ?_
          refine mw_get (ci := 2) (C := RX2) (T := TX2) (N := 4) (v := .ref (ad (50 + q))) hx hb hts hinX2 hown hK hP (26 + q) (cB_rnd hq) (cF_rnd hq) rfl 0 (by decide) kf184 (fun _ h9 => h9) rfl dX6_doSteps_43 ?_
          refine lv_iload_n hx hb dX6_doSteps_46 rfl (lv_at hl 2 rfl) ?_
          refine mw_ild hx hb hK hP (50 + q) (cB_kin hq) 0 (cF_kin hq) rfl nx (by omega) (by decide) rfl dX6_doSteps_47 ?_
          refine g_top (y := nI kd) ekd ?_
          refine lv_istore (lv' := [(5, .int (nI kd)), (4, .int (nI tn)), (3, .int ag), (2, .int (nI nx)), (0, .ref (ad 0)), (1, .ref (ad (26 + q)))]) hx hb dX6_doSteps_48 hl (by decide) rfl (fun ls hl => ?_)
          refine lv_aload_n hx hb dX6_doSteps_50 rfl (lv_at hl 5 rfl) ?_
          refine mw_get (ci := 2) (C := RX2) (T := TX2) (N := 4) (v := .ref (ad (74 + q))) hx hb hts hinX2 hown hK hP (26 + q) (cB_rnd hq) (cF_rnd hq) rfl 1 (by decide) kf187 (fun _ h9 => h9) rfl dX6_doSteps_51 ?_
          refine lv_iload_n hx hb dX6_doSteps_54 rfl (lv_at hl 3 rfl) ?_
          refine mw_ild hx hb hK hP (74 + q) (cB_num hq) 0 (cF_num hq) rfl nx (by omega) (by decide) rfl dX6_doSteps_55 ?_
          refine g_top (y := nI j) ej ?_
          refine lv_istore (lv' := [(6, .int (nI j)), (5, .int (nI kd)), (4, .int (nI tn)), (3, .int ag), (2, .int (nI nx)), (0, .ref (ad 0)), (1, .ref (ad (26 + q)))]) hx hb dX6_doSteps_56 hl (by decide) rfl (fun ls hl => ?_)
          refine lv_aload_n hx hb dX6_doSteps_58 rfl (lv_at hl 5 rfl) ?_
          refine mw_get (ci := 5) (C := RX6) (T := TX6) (N := 7) (v := .ref (ad 7)) hx hb hts hinX6 hown hK hP 0 (by decide) cF_0 rfl 5 (by decide) kf38 (fun _ h9 => h9) rfl dX6_doSteps_59 ?_
          refine lv_iconst (v := 5) hx hb dX6_doSteps_62 (by decide) ?_
          refine g_callV (As := [.int 5]) (rest := []) (N := 7) (T := TX1) (ci := 1) ⟨hx, hb, hml, hown, hts⟩ 7 (c_mark l D cy ad wy mt hj τ 5 (by decide) (rOK.ec hO (by omega))) (cwV 1 hts gX6_doSteps_X1_mark rfl rfl rfl (by decide +kernel) ⟨by decide, by decide⟩) h0 hP hS (by decide) cF_7 rfl rfl rfl hl.1 (Nat.le_of_ble_eq_true rfl) dX6_doSteps_63 ⟨Nat.zero_le _, Nat.zero_le _⟩ (fun H locs hP hS => ?_)
          have hO1 := rOK_lit hO hx9 c_2
          refine lv_iload hx hb dX6_doSteps_66 (lv_at hl 1 rfl) ?_
          refine lv_bipush (v := 10) hx hb dX6_doSteps_68 (by decide) ?_
          refine lv_icmp_ge (tgt := 89) hx hb dX6_doSteps_70 (by decide) (fun c_3 => ?_) (fun c_3 => ?_)
          · skip
            have hk10 : 10 ≤ kd := (nI_leI (a := 10) (by decide) (by omega)).mp c_3
            refine lv_aload_n hx hb dX6_doSteps_89 rfl (lv_at hl 5 rfl) ?_
            refine lv_iload hx hb dX6_doSteps_90 (lv_at hl 1 rfl) ?_
            refine lv_iload hx hb dX6_doSteps_92 (lv_at hl 0 rfl) ?_
            refine lv_aload_n hx hb dX6_doSteps_94 rfl (lv_at hl 6 rfl) ?_
            refine mw_get (ci := 2) (C := RX2) (T := TX2) (N := 4) (v := .int ((cMark τ 5) (26 + q) 3)) hx hb hts hinX2 hown hK hP (26 + q) (cB_rnd hq) (cF_rnd hq) rfl 3 (by decide) kf171 (fun _ h9 => h9) rfl dX6_doSteps_95 ?_
            refine g_top (y := nI v) (by rw [kR_mark τ 5 (26 + q) (by omega)]; exact hv3) ?_
            refine g_callV (As := [.int (nI kd), .int (nI j), .int (nI v)]) (rest := []) (N := 7) (T := TX6) (ci := 5) ⟨hx, hb, hml, hown, hts⟩ 0 (c_doBenchStep l D cy ad wy mt hj (cMark τ 5) kd j v (by omega) (by omega) (by omega) (by omega) h164 (rOK.bx hO1)) (cwV 3 hts gX6_doSteps_X6_doBenchStep rfl rfl rfl (by decide +kernel) ⟨by decide, by decide⟩) h0 hP hS (by decide) cF_0 rfl rfl rfl hl.1 (Nat.le_of_ble_eq_true rfl) dX6_doSteps_98 ⟨Nat.zero_le _, Nat.zero_le _⟩ (fun H locs hP hS => ?_)
            have eS : cStepAt q v τ nx ag = ((cBench (cMark τ 5) kd j v).1, cMark ((cBench (cMark τ 5) kd j v).2) 6) := by unfold cStepAt cStep ci; rw [ekd, ej, nI_clamp (by omega), nI_clamp (by omega), if_neg (by omega)]
            have hS2 := sOK_stepAt (q := q) (v := v) (nx := nx) (σ := τ) ag (cR_num hR hq hnx8) c_2
            rw [eS] at hS2
            dsimp only at hS2
            refine lv_astore (lv' := [(7, .ref (wy ((cBench (cMark τ 5) kd j v).1))), (6, .int (nI j)), (5, .int (nI kd)), (4, .int (nI tn)), (3, .int ag), (2, .int (nI nx)), (0, .ref (ad 0)), (1, .ref (ad (26 + q)))]) hx hb dX6_doSteps_101 hl (by decide) rfl (fun ls hl => ?_)
            refine lv_aload_n hx hb dX6_doSteps_103 rfl (lv_at hl 6 rfl) ?_
            refine mw_get (ci := 5) (C := RX6) (T := TX6) (N := 7) (v := .ref (ad 7)) hx hb hts hinX6 hown hK hP 0 (by decide) cF_0 rfl 5 (by decide) kf38 (fun _ h9 => h9) rfl dX6_doSteps_104 ?_
            refine lv_bipush (v := 6) hx hb dX6_doSteps_107 (by decide) ?_
            refine g_callV (As := [.int 6]) (rest := []) (N := 7) (T := TX1) (ci := 1) ⟨hx, hb, hml, hown, hts⟩ 7 (c_mark l D cy ad wy mt hj ((cBench (cMark τ 5) kd j v).2) 6 (by decide) (rOK.ec ((sOK_bench (cMark τ 5) (kd := kd) (j := j) v hj200).2.2 x hO1) (by omega))) (cwV 1 hts gX6_doSteps_X1_mark rfl rfl rfl (by decide +kernel) ⟨by decide, by decide⟩) h0 hP hS (by decide) cF_7 rfl rfl rfl hl.1 (Nat.le_of_ble_eq_true rfl) dX6_doSteps_109 ⟨Nat.zero_le _, Nat.zero_le _⟩ (fun H locs hP hS => ?_)
            refine lv_aload hx hb dX6_doSteps_112 (lv_at hl 0 rfl) ?_
            refine g_way hx hb h0 hS hown 2 (by decide) rfl kf198 dX6_doSteps_114 ?_
            refine g_wne (a := (cBench (cMark τ 5) kd j v).1) (b := 2) (tgt := 128) hx hb h0 hS2.1 (by decide) dX6_doSteps_117 (by decide) (fun c_4 => ?_) (fun c_4 => ?_)
            · skip
              refine lv_aload hx hb dX6_doSteps_128 (lv_at hl 0 rfl) ?_
              refine g_way hx hb h0 hS hown 0 (by decide) rfl kf145 dX6_doSteps_130 ?_
              refine g_wne (a := (cBench (cMark τ 5) kd j v).1) (b := 0) (tgt := 142) hx hb h0 hS2.1 (by decide) dX6_doSteps_133 (by decide) (fun c_5 => ?_) (fun c_5 => ?_)
              · skip
                refine lv_aload hx hb dX6_doSteps_142 (lv_at hl 0 rfl) ?_
                exact g_aret hx hb hr hlocks hP hS dX6_doSteps_144 (hf.symm.trans (by rw [cSteps_succ, if_neg c_1, if_pos c_2, eS]; exact (if_neg c_4).trans (if_neg c_5)))
              · skip
                refine lv_iinc (v := nI (nx + 1)) (lv' := [(2, .int (nI (nx + 1))), (7, .ref (wy ((cBench (cMark τ 5) kd j v).1))), (6, .int (nI j)), (5, .int (nI kd)), (4, .int (nI tn)), (3, .int ag), (0, .ref (ad 0)), (1, .ref (ad (26 + q)))]) hx hb dX6_doSteps_136 hl (k := 5) rfl (nI_1 nx) (by decide) rfl (fun ls hl => ?_)
                refine lv_goto (tgt := 145) hx hb dX6_doSteps_139 (by decide) ?_
                refine lv_iinc (v := nI (tn + 1)) (lv' := [(4, .int (nI (tn + 1))), (2, .int (nI (nx + 1))), (7, .ref (wy ((cBench (cMark τ 5) kd j v).1))), (6, .int (nI j)), (5, .int (nI kd)), (3, .int ag), (0, .ref (ad 0)), (1, .ref (ad (26 + q)))]) hx hb dX6_doSteps_145 hl (k := 4) rfl (nI_1 tn) (by decide) rfl (fun ls hl => ?_)
                refine lv_goto (tgt := 7) hx hb dX6_doSteps_148 (by decide) ?_
                exact ih (tn + 1) (nx + 1) ag (cMark ((cBench (cMark τ 5) kd j v).2) 6) H locs ls (by omega) (by omega) (hS2.2.1.cR hR) (hS2.2.2 x hx9 hO) (by rw [hS2.2.1 (26 + q) (by omega)]; exact hv3) (Eq.trans (by rw [cSteps_succ, if_neg c_1, if_pos c_2, eS]; exact ((if_neg c_4).trans (if_pos c_5)).symm) hf) hP hS (lv_sub hl [0, 5, 1, 6, 7] rfl)
            · skip
              refine lv_iinc (v := ag + 1) (lv' := [(3, .int (ag + 1)), (7, .ref (wy ((cBench (cMark τ 5) kd j v).1))), (6, .int (nI j)), (5, .int (nI kd)), (4, .int (nI tn)), (2, .int (nI nx)), (0, .ref (ad 0)), (1, .ref (ad (26 + q)))]) hx hb dX6_doSteps_120 hl (k := 4) rfl rfl (by decide) rfl (fun ls hl => ?_)
              refine lv_iconst (v := 0) hx hb dX6_doSteps_123 (by decide) ?_
              refine lv_istore_n (lv' := [(2, .int 0), (3, .int (ag + 1)), (7, .ref (wy ((cBench (cMark τ 5) kd j v).1))), (6, .int (nI j)), (5, .int (nI kd)), (4, .int (nI tn)), (0, .ref (ad 0)), (1, .ref (ad (26 + q)))]) hx hb dX6_doSteps_124 rfl hl (by decide) rfl (fun ls hl => ?_)
              refine lv_goto (tgt := 145) hx hb dX6_doSteps_125 (by decide) ?_
              refine lv_iinc (v := nI (tn + 1)) (lv' := [(4, .int (nI (tn + 1))), (2, .int 0), (3, .int (ag + 1)), (7, .ref (wy ((cBench (cMark τ 5) kd j v).1))), (6, .int (nI j)), (5, .int (nI kd)), (0, .ref (ad 0)), (1, .ref (ad (26 + q)))]) hx hb dX6_doSteps_145 hl (k := 5) rfl (nI_1 tn) (by decide) rfl (fun ls hl => ?_)
              refine lv_goto (tgt := 7) hx hb dX6_doSteps_148 (by decide) ?_
              exact ih (tn + 1) 0 (ag + 1) (cMark ((cBench (cMark τ 5) kd j v).2) 6) H locs ls (by omega) (by omega) (hS2.2.1.cR hR) (hS2.2.2 x hx9 hO) (by rw [hS2.2.1 (26 + q) (by omega)]; exact hv3) (Eq.trans (by rw [cSteps_succ, if_neg c_1, if_pos c_2, eS]; exact (if_pos c_4).symm) hf) hP hS (lv_sub hl [0, 2, 1, 6, 7] rfl)
          · skip
            have hk10 : kd < 10 := Nat.not_le.mp fun h9 => c_3 ((nI_leI (a := 10) (by decide) (by omega)).mpr h9)
            refine lv_aload_n hx hb dX6_doSteps_73 rfl (lv_at hl 5 rfl) ?_
            refine lv_iload hx hb dX6_doSteps_74 (lv_at hl 1 rfl) ?_
            refine lv_iload hx hb dX6_doSteps_76 (lv_at hl 0 rfl) ?_
            refine lv_aload_n hx hb dX6_doSteps_78 rfl (lv_at hl 6 rfl) ?_
            refine mw_get (ci := 2) (C := RX2) (T := TX2) (N := 4) (v := .int ((cMark τ 5) (26 + q) 3)) hx hb hts hinX2 hown hK hP (26 + q) (cB_rnd hq) (cF_rnd hq) rfl 3 (by decide) kf171 (fun _ h9 => h9) rfl dX6_doSteps_79 ?_
            refine g_top (y := nI v) (by rw [kR_mark τ 5 (26 + q) (by omega)]; exact hv3) ?_
            refine lv_iload_n hx hb dX6_doSteps_82 rfl (lv_at hl 3 rfl) ?_
            refine g_callV (As := [.int (nI kd), .int (nI j), .int (nI v), .int ag]) (rest := []) (N := 7) (T := TX6) (ci := 5) ⟨hx, hb, hml, hown, hts⟩ 0 (c_doVialStep l D cy ad wy mt hj (cMark τ 5) kd j v ag (by omega) (by omega) (by omega)) (cwV 4 hts gX6_doSteps_X6_doVialStep rfl rfl rfl (by decide +kernel) ⟨by decide, by decide⟩) h0 hP hS (by decide) cF_0 rfl rfl rfl hl.1 (Nat.le_of_ble_eq_true rfl) dX6_doSteps_83 ⟨Nat.zero_le _, Nat.zero_le _⟩ (fun H locs hP hS => ?_)
            refine lv_goto (tgt := 101) hx hb dX6_doSteps_86 (by decide) ?_
            have eS : cStepAt q v τ nx ag = ((cVial (cMark τ 5) kd j v ag).1, cMark ((cVial (cMark τ 5) kd j v ag).2) 6) := by unfold cStepAt cStep ci; rw [ekd, ej, nI_clamp (by omega), nI_clamp (by omega), if_pos hk10]
            have hS2 := sOK_stepAt (q := q) (v := v) (nx := nx) (σ := τ) ag (cR_num hR hq hnx8) c_2
            rw [eS] at hS2
            dsimp only at hS2
            refine lv_astore (lv' := [(7, .ref (wy ((cVial (cMark τ 5) kd j v ag).1))), (6, .int (nI j)), (5, .int (nI kd)), (4, .int (nI tn)), (3, .int ag), (2, .int (nI nx)), (0, .ref (ad 0)), (1, .ref (ad (26 + q)))]) hx hb dX6_doSteps_101 hl (by decide) rfl (fun ls hl => ?_)
            refine lv_aload_n hx hb dX6_doSteps_103 rfl (lv_at hl 6 rfl) ?_
            refine mw_get (ci := 5) (C := RX6) (T := TX6) (N := 7) (v := .ref (ad 7)) hx hb hts hinX6 hown hK hP 0 (by decide) cF_0 rfl 5 (by decide) kf38 (fun _ h9 => h9) rfl dX6_doSteps_104 ?_
            refine lv_bipush (v := 6) hx hb dX6_doSteps_107 (by decide) ?_
            refine g_callV (As := [.int 6]) (rest := []) (N := 7) (T := TX1) (ci := 1) ⟨hx, hb, hml, hown, hts⟩ 7 (c_mark l D cy ad wy mt hj ((cVial (cMark τ 5) kd j v ag).2) 6 (by decide) (rOK.ec ((sOK_vial (cMark τ 5) kd j v ag).2.2 x hO1) (by omega))) (cwV 1 hts gX6_doSteps_X1_mark rfl rfl rfl (by decide +kernel) ⟨by decide, by decide⟩) h0 hP hS (by decide) cF_7 rfl rfl rfl hl.1 (Nat.le_of_ble_eq_true rfl) dX6_doSteps_109 ⟨Nat.zero_le _, Nat.zero_le _⟩ (fun H locs hP hS => ?_)
            refine lv_aload hx hb dX6_doSteps_112 (lv_at hl 0 rfl) ?_
            refine g_way hx hb h0 hS hown 2 (by decide) rfl kf198 dX6_doSteps_114 ?_
            refine g_wne (a := (cVial (cMark τ 5) kd j v ag).1) (b := 2) (tgt := 128) hx hb h0 hS2.1 (by decide) dX6_doSteps_117 (by decide) (fun c_6 => ?_) (fun c_6 => ?_)
            · skip
              refine lv_aload hx hb dX6_doSteps_128 (lv_at hl 0 rfl) ?_
              refine g_way hx hb h0 hS hown 0 (by decide) rfl kf145 dX6_doSteps_130 ?_
              refine g_wne (a := (cVial (cMark τ 5) kd j v ag).1) (b := 0) (tgt := 142) hx hb h0 hS2.1 (by decide) dX6_doSteps_133 (by decide) (fun c_7 => ?_) (fun c_7 => ?_)
              · skip
                refine lv_aload hx hb dX6_doSteps_142 (lv_at hl 0 rfl) ?_
                exact g_aret hx hb hr hlocks hP hS dX6_doSteps_144 (hf.symm.trans (by rw [cSteps_succ, if_neg c_1, if_pos c_2, eS]; exact (if_neg c_6).trans (if_neg c_7)))
              · skip
                refine lv_iinc (v := nI (nx + 1)) (lv' := [(2, .int (nI (nx + 1))), (7, .ref (wy ((cVial (cMark τ 5) kd j v ag).1))), (6, .int (nI j)), (5, .int (nI kd)), (4, .int (nI tn)), (3, .int ag), (0, .ref (ad 0)), (1, .ref (ad (26 + q)))]) hx hb dX6_doSteps_136 hl (k := 5) rfl (nI_1 nx) (by decide) rfl (fun ls hl => ?_)
                refine lv_goto (tgt := 145) hx hb dX6_doSteps_139 (by decide) ?_
                refine lv_iinc (v := nI (tn + 1)) (lv' := [(4, .int (nI (tn + 1))), (2, .int (nI (nx + 1))), (7, .ref (wy ((cVial (cMark τ 5) kd j v ag).1))), (6, .int (nI j)), (5, .int (nI kd)), (3, .int ag), (0, .ref (ad 0)), (1, .ref (ad (26 + q)))]) hx hb dX6_doSteps_145 hl (k := 4) rfl (nI_1 tn) (by decide) rfl (fun ls hl => ?_)
                refine lv_goto (tgt := 7) hx hb dX6_doSteps_148 (by decide) ?_
                exact ih (tn + 1) (nx + 1) ag (cMark ((cVial (cMark τ 5) kd j v ag).2) 6) H locs ls (by omega) (by omega) (hS2.2.1.cR hR) (hS2.2.2 x hx9 hO) (by rw [hS2.2.1 (26 + q) (by omega)]; exact hv3) (Eq.trans (by rw [cSteps_succ, if_neg c_1, if_pos c_2, eS]; exact ((if_neg c_6).trans (if_pos c_7)).symm) hf) hP hS (lv_sub hl [0, 5, 1, 6, 7] rfl)
            · skip
              refine lv_iinc (v := ag + 1) (lv' := [(3, .int (ag + 1)), (7, .ref (wy ((cVial (cMark τ 5) kd j v ag).1))), (6, .int (nI j)), (5, .int (nI kd)), (4, .int (nI tn)), (2, .int (nI nx)), (0, .ref (ad 0)), (1, .ref (ad (26 + q)))]) hx hb dX6_doSteps_120 hl (k := 4) rfl rfl (by decide) rfl (fun ls hl => ?_)
              refine lv_iconst (v := 0) hx hb dX6_doSteps_123 (by decide) ?_
              refine lv_istore_n (lv' := [(2, .int 0), (3, .int (ag + 1)), (7, .ref (wy ((cVial (cMark τ 5) kd j v ag).1))), (6, .int (nI j)), (5, .int (nI kd)), (4, .int (nI tn)), (0, .ref (ad 0)), (1, .ref (ad (26 + q)))]) hx hb dX6_doSteps_124 rfl hl (by decide) rfl (fun ls hl => ?_)
              refine lv_goto (tgt := 145) hx hb dX6_doSteps_125 (by decide) ?_
              refine lv_iinc (v := nI (tn + 1)) (lv' := [(4, .int (nI (tn + 1))), (2, .int 0), (3, .int (ag + 1)), (7, .ref (wy ((cVial (cMark τ 5) kd j v ag).1))), (6, .int (nI j)), (5, .int (nI kd)), (0, .ref (ad 0)), (1, .ref (ad (26 + q)))]) hx hb dX6_doSteps_145 hl (k := 5) rfl (nI_1 tn) (by decide) rfl (fun ls hl => ?_)
              refine lv_goto (tgt := 7) hx hb dX6_doSteps_148 (by decide) ?_
              exact ih (tn + 1) 0 (ag + 1) (cMark ((cVial (cMark τ 5) kd j v ag).2) 6) H locs ls (by omega) (by omega) (hS2.2.1.cR hR) (hS2.2.2 x hx9 hO) (by rw [hS2.2.1 (26 + q) (by omega)]; exact hv3) (Eq.trans (by rw [cSteps_succ, if_neg c_1, if_pos c_2, eS]; exact (if_pos c_6).symm) hf) hP hS (lv_sub hl [0, 2, 1, 6, 7] rfl)
        · skip
          refine g_way hx hb h0 hS hown 6 (by decide) rfl kf116 dX6_doSteps_38 ?_
          exact g_aret hx hb hr hlocks hP hS dX6_doSteps_41 (hf.symm.trans (by rw [cSteps_succ, if_neg c_1, if_neg c_2]))
  exact loop 201 0 0 0 σ _ _ ls (by omega) (by omega) hR hO hv3 rfl hP hS (lv_sub hl [0, 1, 2, 3, 4] rfl)
