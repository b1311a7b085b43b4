/-- the first k places of the box emptied -/
def cClr (σ : Mem) : Nat → Mem
  | 0 => σ
  | k + 1 => mset (cClr σ k) 6 k (-4)
def cRndBegin (σ : Mem) (q : Nat) (v : Int32) : Mem :=
  mset (mset σ (26 + q) 3 v) (26 + q) 2 0
set_option maxHeartbeats 4000000 in
set_option maxRecDepth 100000 in
theorem c_rndBegin (l : Launch) (D : va_G) (cy : Nat → ClassId) (ad wy : Nat → Nat) (mt : Nat) (hj : mJ 98 ad) (σ : Mem) (q : Nat) (hq : q < 24) (v : Int32)  : Met l yX2_beginAnew wsX2_beginAnew ({ frames := 0, cells := 0, slots := 0, locals := 0 }) (va_Pc [.ref (ad (26 + q)), .int v] (gPre 98 ad (cF ad cy) D cy wy mt σ)) (gQ 98 ad (cF ad cy) D none (cRndBegin σ q v)) 0 0 (mA 98 ad) := by
  refine g_met (cc := cX2_beginAnew) (maxL := 2) (ret := none) (by decide) rfl (Nat.le_of_ble_eq_true rfl) ?_
  intro p e s m below meth c S hr hlocks h0 ls hl
  obtain ⟨hx, hb, hml, hown, hts⟩ := S
  have hP := h0.1
  have hK := h0.2.1
  have hS : va_S (mA 98 ad) s.heap s.heap [] := va_S.rf
  have hl : lv_has ls 2 [(0, .ref (ad (26 + q))), (1, .int v)] := hl
  have kf22 : (Cond.fieldLink RX2 22 "BenchRuns$Round" "vial" "I").before (#[.ref (ad (26 + q)), .int v] : Array Value) s = true := hts _ (by decide +kernel)
  have hinX2 : ∀ w ∈ u_ws RX2 TX2 4, w ∈ wsX2_beginAnew := by decide +kernel
  have kf18 : (Cond.fieldLink RX2 18 "BenchRuns$Round" "stepCount" "I").before (#[.ref (ad (26 + q)), .int v] : Array Value) s = true := hts _ (by decide +kernel)
  refine lv_aload_n hx hb dX2_beginAnew_0 rfl (lv_at hl 0 rfl) ?_
  refine lv_iload_n hx hb dX2_beginAnew_1 rfl (lv_at hl 1 rfl) ?_
  refine mw_put (ci := 2) (C := RX2) (T := TX2) (N := 4) (v := v) (ty := .int) hx hb hts hinX2 tyX2 tyX2_ok nmX2 hown hK hj hP hS (26 + q) (cB_rnd hq) (cF_rnd hq) rfl 3 (by decide) kf22 (fun _ h9 => h9) rfl (by decide +kernel) rfl rfl (Nat.le_of_ble_eq_true rfl) rfl dX2_beginAnew_2 (fun H locs hP hS => ?_)
  refine lv_aload_n hx hb dX2_beginAnew_5 rfl (lv_at hl 0 rfl) ?_
  refine lv_iconst (v := 0) hx hb dX2_beginAnew_6 (by decide) ?_
  refine mw_put (ci := 2) (C := RX2) (T := TX2) (N := 4) (v := 0) (ty := .int) hx hb hts hinX2 tyX2 tyX2_ok nmX2 hown hK hj hP hS (26 + q) (cB_rnd hq) (cF_rnd hq) rfl 2 (by decide) kf18 (fun _ h9 => h9) rfl (by decide +kernel) rfl rfl (Nat.le_of_ble_eq_true rfl) rfl dX2_beginAnew_7 (fun H locs hP hS => ?_)
  exact g_vret hx hb hr hlocks hP hS dX2_beginAnew_10 (by unfold cRndBegin; rfl)

def cAddStep (σ : Mem) (q : Nat) (kd n : Int32) : Int32 × Mem :=
  if σ (26 + q) 2 < 8 then (σ (26 + q) 2, mset (mset (mset σ (50 + q) (ci (σ (26 + q) 2)) kd) (74 + q) (ci (σ (26 + q) 2)) n) (26 + q) 2 ((σ (26 + q) 2) + 1))
  else ((-2), σ)
set_option maxHeartbeats 4000000 in
set_option maxRecDepth 100000 in
theorem c_addStep (l : Launch) (D : va_G) (cy : Nat → ClassId) (ad wy : Nat → Nat) (mt : Nat) (hj : mJ 98 ad) (σ : Mem) (q : Nat) (hq : q < 24) (kd n : Int32) (hsc : σ (26 + q) 2 < 8 → vp_in (σ (26 + q) 2) 8) : Met l yX2_addStep wsX2_addStep ({ frames := 0, cells := 0, slots := 0, locals := 0 }) (va_Pc [.ref (ad (26 + q)), .int kd, .int n] (gPre 98 ad (cF ad cy) D cy wy mt σ)) (gQ 98 ad (cF ad cy) D (some (.int (cAddStep σ q kd n).1)) (cAddStep σ q kd n).2) 0 0 (mA 98 ad) := by
  refine g_met (cc := cX2_addStep) (maxL := 3) (ret := (some .int)) (by decide) rfl (Nat.le_of_ble_eq_true rfl) ?_
  intro p e s m below meth c S hr hlocks h0 ls hl
  obtain ⟨hx, hb, hml, hown, hts⟩ := S
  have hP := h0.1
  have hK := h0.2.1
  have hS : va_S (mA 98 ad) s.heap s.heap [] := va_S.rf
  have hl : lv_has ls 3 [(0, .ref (ad (26 + q))), (1, .int kd), (2, .int n)] := hl
  have kf18 : (Cond.fieldLink RX2 18 "BenchRuns$Round" "stepCount" "I").before (#[.ref (ad (26 + q)), .int kd, .int n] : Array Value) s = true := hts _ (by decide +kernel)
  have hinX2 : ∀ w ∈ u_ws RX2 TX2 4, w ∈ wsX2_addStep := by decide +kernel
  have kf9 : (Cond.fieldLink RX2 9 "BenchRuns$Round" "kinds" "[I").before (#[.ref (ad (26 + q)), .int kd, .int n] : Array Value) s = true := hts _ (by decide +kernel)
  have kf15 : (Cond.fieldLink RX2 15 "BenchRuns$Round" "numbers" "[I").before (#[.ref (ad (26 + q)), .int kd, .int n] : Array Value) s = true := hts _ (by decide +kernel)
  refine lv_aload_n hx hb dX2_addStep_0 rfl (lv_at hl 0 rfl) ?_
  refine mw_get (ci := 2) (C := RX2) (T := TX2) (N := 4) (v := .int (σ (26 + q) 2)) hx hb hts hinX2 hown hK hP (26 + q) (cB_rnd hq) (cF_rnd hq) rfl 2 (by decide) kf18 (fun _ h9 => h9) rfl dX2_addStep_1 ?_
  refine lv_bipush (v := 8) hx hb dX2_addStep_4 (by decide) ?_
  refine lv_icmp_lt (tgt := 12) hx hb dX2_addStep_6 (by decide) (fun c_1 => ?_) (fun c_1 => ?_)
  · skip
    have ix : vp_in (σ (26 + q) 2) 8 := hsc c_1
    refine lv_aload_n hx hb dX2_addStep_12 rfl (lv_at hl 0 rfl) ?_
    refine mw_get (ci := 2) (C := RX2) (T := TX2) (N := 4) (v := .ref (ad (50 + q))) hx hb hts hinX2 hown hK hP (26 + q) (cB_rnd hq) (cF_rnd hq) rfl 0 (by decide) kf9 (fun _ h9 => h9) rfl dX2_addStep_13 ?_
    refine lv_aload_n hx hb dX2_addStep_16 rfl (lv_at hl 0 rfl) ?_
    refine mw_get (ci := 2) (C := RX2) (T := TX2) (N := 4) (v := .int (σ (26 + q) 2)) hx hb hts hinX2 hown hK hP (26 + q) (cB_rnd hq) (cF_rnd hq) rfl 2 (by decide) kf18 (fun _ h9 => h9) rfl dX2_addStep_17 ?_
    refine lv_iload_n hx hb dX2_addStep_20 rfl (lv_at hl 1 rfl) ?_
    refine mw_ist hx hb hK hj hP hS (50 + q) (cB_kin hq) 0 (cF_kin hq) rfl (ci (σ (26 + q) 2)) (ci_lt ix) (by decide) (ci_eq ix (by decide)) dX2_addStep_21 (fun H locs hP hS => ?_)
    refine lv_aload_n hx hb dX2_addStep_22 rfl (lv_at hl 0 rfl) ?_
    refine mw_get (ci := 2) (C := RX2) (T := TX2) (N := 4) (v := .ref (ad (74 + q))) hx hb hts hinX2 hown hK hP (26 + q) (cB_rnd hq) (cF_rnd hq) rfl 1 (by decide) kf15 (fun _ h9 => h9) rfl dX2_addStep_23 ?_
    refine lv_aload_n hx hb dX2_addStep_26 rfl (lv_at hl 0 rfl) ?_
    refine mw_get (ci := 2) (C := RX2) (T := TX2) (N := 4) (v := .int ((mset σ (50 + q) (ci (σ (26 + q) 2)) kd) (26 + q) 2)) hx hb hts hinX2 hown hK hP (26 + q) (cB_rnd hq) (cF_rnd hq) rfl 2 (by decide) kf18 (fun _ h9 => h9) rfl dX2_addStep_27 ?_
    refine g_top (y := σ (26 + q) 2) (by rw [mset_nc (by omega)]) ?_
    refine lv_iload_n hx hb dX2_addStep_30 rfl (lv_at hl 2 rfl) ?_
    refine mw_ist hx hb hK hj hP hS (74 + q) (cB_num hq) 0 (cF_num hq) rfl (ci (σ (26 + q) 2)) (ci_lt ix) (by decide) (ci_eq ix (by decide)) dX2_addStep_31 (fun H locs hP hS => ?_)
    refine lv_aload_n hx hb dX2_addStep_32 rfl (lv_at hl 0 rfl) ?_
    refine lv_dup hx hb dX2_addStep_33 rfl ?_
    refine mw_get (ci := 2) (C := RX2) (T := TX2) (N := 4) (v := .int ((mset (mset σ (50 + q) (ci (σ (26 + q) 2)) kd) (74 + q) (ci (σ (26 + q) 2)) n) (26 + q) 2)) hx hb hts hinX2 hown hK hP (26 + q) (cB_rnd hq) (cF_rnd hq) rfl 2 (by decide) kf18 (fun _ h9 => h9) rfl dX2_addStep_34 ?_
    refine g_top (y := σ (26 + q) 2) (by rw [mset_nc (by omega), mset_nc (by omega)]) ?_
    refine lv_dup_x1 hx hb dX2_addStep_37 rfl rfl ?_
    refine lv_iconst (v := 1) hx hb dX2_addStep_38 (by decide) ?_
    refine lv_iadd hx hb dX2_addStep_39 ?_
    refine mw_put (ci := 2) (C := RX2) (T := TX2) (N := 4) (v := (σ (26 + q) 2) + 1) (ty := .int) hx hb hts hinX2 tyX2 tyX2_ok nmX2 hown hK hj hP hS (26 + q) (cB_rnd hq) (cF_rnd hq) rfl 2 (by decide) kf18 (fun _ h9 => h9) rfl (by decide +kernel) rfl rfl (Nat.le_of_ble_eq_true rfl) rfl dX2_addStep_40 (fun H locs hP hS => ?_)
    exact g_iret hx hb hr hlocks hP hS dX2_addStep_43 (by unfold cAddStep; rw [if_pos c_1])
  · skip
    refine lv_bipush (v := (-2)) hx hb dX2_addStep_9 (by decide) ?_
    exact g_iret hx hb hr hlocks hP hS dX2_addStep_11 (by unfold cAddStep; rw [if_neg c_1])

def cBatBegin (σ : Mem) (b : Nat) (v : Int32) : Mem :=
  mset (mset σ (12 + b) 2 v) (12 + b) 1 0
set_option maxHeartbeats 4000000 in
set_option maxRecDepth 100000 in
theorem c_batBegin (l : Launch) (D : va_G) (cy : Nat → ClassId) (ad wy : Nat → Nat) (mt : Nat) (hj : mJ 98 ad) (σ : Mem) (b : Nat) (hb4 : b < 4) (v : Int32)  : Met l yX0_beginAnew wsX0_beginAnew ({ frames := 0, cells := 0, slots := 0, locals := 0 }) (va_Pc [.ref (ad (12 + b)), .int v] (gPre 98 ad (cF ad cy) D cy wy mt σ)) (gQ 98 ad (cF ad cy) D none (cBatBegin σ b v)) 0 0 (mA 98 ad) := by
  refine g_met (cc := cX0_beginAnew) (maxL := 2) (ret := none) (by decide) rfl (Nat.le_of_ble_eq_true rfl) ?_
  intro p e s m below meth c S hr hlocks h0 ls hl
  obtain ⟨hx, hb, hml, hown, hts⟩ := S
  have hP := h0.1
  have hK := h0.2.1
  have hS : va_S (mA 98 ad) s.heap s.heap [] := va_S.rf
  have hl : lv_has ls 2 [(0, .ref (ad (12 + b))), (1, .int v)] := hl
  have kf21 : (Cond.fieldLink RX0 21 "BenchRuns$Batch" "mode" "I").before (#[.ref (ad (12 + b)), .int v] : Array Value) s = true := hts _ (by decide +kernel)
  have hinX0 : ∀ w ∈ u_ws RX0 TX0 3, w ∈ wsX0_beginAnew := by decide +kernel
  have kf17 : (Cond.fieldLink RX0 17 "BenchRuns$Batch" "roundCount" "I").before (#[.ref (ad (12 + b)), .int v] : Array Value) s = true := hts _ (by decide +kernel)
  refine lv_aload_n hx hb dX0_beginAnew_0 rfl (lv_at hl 0 rfl) ?_
  refine lv_iload_n hx hb dX0_beginAnew_1 rfl (lv_at hl 1 rfl) ?_
  refine mw_put (ci := 0) (C := RX0) (T := TX0) (N := 3) (v := v) (ty := .int) hx hb hts hinX0 tyX0 tyX0_ok nmX0 hown hK hj hP hS (12 + b) (cB_bat hb4) (cF_bat hb4) rfl 2 (by decide) kf21 (fun _ h9 => h9) rfl (by decide +kernel) rfl rfl (Nat.le_of_ble_eq_true rfl) rfl dX0_beginAnew_2 (fun H locs hP hS => ?_)
  refine lv_aload_n hx hb dX0_beginAnew_5 rfl (lv_at hl 0 rfl) ?_
  refine lv_iconst (v := 0) hx hb dX0_beginAnew_6 (by decide) ?_
  refine mw_put (ci := 0) (C := RX0) (T := TX0) (N := 3) (v := 0) (ty := .int) hx hb hts hinX0 tyX0 tyX0_ok nmX0 hown hK hj hP hS (12 + b) (cB_bat hb4) (cF_bat hb4) rfl 1 (by decide) kf17 (fun _ h9 => h9) rfl (by decide +kernel) rfl rfl (Nat.le_of_ble_eq_true rfl) rfl dX0_beginAnew_7 (fun H locs hP hS => ?_)
  exact g_vret hx hb hr hlocks hP hS dX0_beginAnew_10 (by unfold cBatBegin; rfl)

def cAddRound (σ : Mem) (b : Nat) (v : Int32) : Int32 × Mem :=
  if σ (12 + b) 1 < 6 then (σ (12 + b) 1, mset (cRndBegin σ (6 * b + (ci (σ (12 + b) 1))) v) (12 + b) 1 ((σ (12 + b) 1) + 1))
  else ((-2), σ)
set_option maxHeartbeats 4000000 in
set_option maxRecDepth 100000 in
theorem c_addRound (l : Launch) (D : va_G) (cy : Nat → ClassId) (ad wy : Nat → Nat) (mt : Nat) (hj : mJ 98 ad) (σ : Mem) (b : Nat) (hb4 : b < 4) (v : Int32) (hrc : σ (12 + b) 1 < 6 → vp_in (σ (12 + b) 1) 6) : Met l yX0_addRound wsX0_addRound ({ frames := 1, cells := 0, slots := 0, locals := 21 }) (va_Pc [.ref (ad (12 + b)), .int v] (gPre 98 ad (cF ad cy) D cy wy mt σ)) (gQ 98 ad (cF ad cy) D (some (.int (cAddRound σ b v).1)) (cAddRound σ b v).2) 0 0 (mA 98 ad) := by
  refine g_met (cc := cX0_addRound) (maxL := 2) (ret := (some .int)) (by decide) rfl (Nat.le_of_ble_eq_true rfl) ?_
  intro p e s m below meth c S hr hlocks h0 ls hl
  obtain ⟨hx, hb, hml, hown, hts⟩ := S
  have hP := h0.1
  have hK := h0.2.1
  have hS : va_S (mA 98 ad) s.heap s.heap [] := va_S.rf
  have hl : lv_has ls 2 [(0, .ref (ad (12 + b))), (1, .int v)] := hl
  have kf17 : (Cond.fieldLink RX0 17 "BenchRuns$Batch" "roundCount" "I").before (#[.ref (ad (12 + b)), .int v] : Array Value) s = true := hts _ (by decide +kernel)
  have hinX0 : ∀ w ∈ u_ws RX0 TX0 3, w ∈ wsX0_addRound := by decide +kernel
  have kf11 : (Cond.fieldLink RX0 11 "BenchRuns$Batch" "rounds" "[LBenchRuns$Round;").before (#[.ref (ad (12 + b)), .int v] : Array Value) s = true := hts _ (by decide +kernel)
  refine lv_aload_n hx hb dX0_addRound_0 rfl (lv_at hl 0 rfl) ?_
  refine mw_get (ci := 0) (C := RX0) (T := TX0) (N := 3) (v := .int (σ (12 + b) 1)) hx hb hts hinX0 hown hK hP (12 + b) (cB_bat hb4) (cF_bat hb4) rfl 1 (by decide) kf17 (fun _ h9 => h9) rfl dX0_addRound_1 ?_
  refine lv_bipush (v := 6) hx hb dX0_addRound_4 (by decide) ?_
  refine lv_icmp_lt (tgt := 12) hx hb dX0_addRound_6 (by decide) (fun c_1 => ?_) (fun c_1 => ?_)
  · skip
    have ix : vp_in (σ (12 + b) 1) 6 := hrc c_1
    refine lv_aload_n hx hb dX0_addRound_12 rfl (lv_at hl 0 rfl) ?_
    refine mw_get (ci := 0) (C := RX0) (T := TX0) (N := 3) (v := .ref (ad (16 + b))) hx hb hts hinX0 hown hK hP (12 + b) (cB_bat hb4) (cF_bat hb4) rfl 0 (by decide) kf11 (fun _ h9 => h9) rfl dX0_addRound_13 ?_
    refine lv_aload_n hx hb dX0_addRound_16 rfl (lv_at hl 0 rfl) ?_
    refine mw_get (ci := 0) (C := RX0) (T := TX0) (N := 3) (v := .int (σ (12 + b) 1)) hx hb hts hinX0 hown hK hP (12 + b) (cB_bat hb4) (cF_bat hb4) rfl 1 (by decide) kf17 (fun _ h9 => h9) rfl dX0_addRound_17 ?_
    have ha_2 : (ci (σ (12 + b) 1)) < 6 := (ci_lt ix)
    refine mw_ald (f := fun q => ad (26 + (6 * b + q))) hx hb hK hP (16 + b) (cB_row hb4) 3 (cF_row hb4) rfl (ci (σ (12 + b) 1)) ha_2 (by decide) (ci_eq ix (by decide)) dX0_addRound_20 ?_
    refine lv_iload_n hx hb dX0_addRound_21 rfl (lv_at hl 1 rfl) ?_
    refine g_callV (As := [.int v]) (rest := []) (N := 4) (T := TX2) (ci := 2) ⟨hx, hb, hml, hown, hts⟩ (26 + (6 * b + (ci (σ (12 + b) 1)))) (c_rndBegin l D cy ad wy mt hj σ (6 * b + (ci (σ (12 + b) 1))) (cB_q hb4 ha_2) v) (cwV 1 hts gX0_addRound_X2_beginAnew rfl rfl rfl (by decide +kernel) ⟨by decide, by decide⟩) h0 hP hS (cB_rnd (cB_q hb4 ha_2)) (cF_rnd (cB_q hb4 ha_2)) rfl rfl rfl hl.1 (Nat.le_of_ble_eq_true rfl) dX0_addRound_22 ⟨Nat.zero_le _, Nat.zero_le _⟩ (fun H locs hP hS => ?_)
    refine lv_aload_n hx hb dX0_addRound_25 rfl (lv_at hl 0 rfl) ?_
    refine lv_dup hx hb dX0_addRound_26 rfl ?_
    refine mw_get (ci := 0) (C := RX0) (T := TX0) (N := 3) (v := .int ((cRndBegin σ (6 * b + (ci (σ (12 + b) 1))) v) (12 + b) 1)) hx hb hts hinX0 hown hK hP (12 + b) (cB_bat hb4) (cF_bat hb4) rfl 1 (by decide) kf17 (fun _ h9 => h9) rfl dX0_addRound_27 ?_
    refine g_top (y := σ (12 + b) 1) (by unfold cRndBegin; rw [mset_nc (by omega), mset_nc (by omega)]) ?_
    refine lv_dup_x1 hx hb dX0_addRound_30 rfl rfl ?_
    refine lv_iconst (v := 1) hx hb dX0_addRound_31 (by decide) ?_
    refine lv_iadd hx hb dX0_addRound_32 ?_
    refine mw_put (ci := 0) (C := RX0) (T := TX0) (N := 3) (v := (σ (12 + b) 1) + 1) (ty := .int) hx hb hts hinX0 tyX0 tyX0_ok nmX0 hown hK hj hP hS (12 + b) (cB_bat hb4) (cF_bat hb4) rfl 1 (by decide) kf17 (fun _ h9 => h9) rfl (by decide +kernel) rfl rfl (Nat.le_of_ble_eq_true rfl) rfl dX0_addRound_33 (fun H locs hP hS => ?_)
    exact g_iret hx hb hr hlocks hP hS dX0_addRound_36 (by unfold cAddRound; rw [if_pos c_1])
  · skip
    refine lv_bipush (v := (-2)) hx hb dX0_addRound_9 (by decide) ?_
    exact g_iret hx hb hr hlocks hP hS dX0_addRound_11 (by unfold cAddRound; rw [if_neg c_1])

def cToolBegin (σ : Mem) (t : Nat) (v : Int32) : Mem :=
  mset (mset (mset σ (20 + t) 0 v) (20 + t) 1 0) (20 + t) 2 0
set_option maxHeartbeats 4000000 in
set_option maxRecDepth 100000 in
theorem c_toolBegin (l : Launch) (D : va_G) (cy : Nat → ClassId) (ad wy : Nat → Nat) (mt : Nat) (hj : mJ 98 ad) (σ : Mem) (t : Nat) (ht : t < 6) (v : Int32)  : Met l yX4_beginAnew wsX4_beginAnew ({ frames := 0, cells := 0, slots := 0, locals := 0 }) (va_Pc [.ref (ad (20 + t)), .int v] (gPre 98 ad (cF ad cy) D cy wy mt σ)) (gQ 98 ad (cF ad cy) D none (cToolBegin σ t v)) 0 0 (mA 98 ad) := by
  refine g_met (cc := cX4_beginAnew) (maxL := 2) (ret := none) (by decide) rfl (Nat.le_of_ble_eq_true rfl) ?_
  intro p e s m below meth c S hr hlocks h0 ls hl
  obtain ⟨hx, hb, hml, hown, hts⟩ := S
  have hP := h0.1
  have hK := h0.2.1
  have hS : va_S (mA 98 ad) s.heap s.heap [] := va_S.rf
  have hl : lv_has ls 2 [(0, .ref (ad (20 + t))), (1, .int v)] := hl
  have kf9 : (Cond.fieldLink RX4 9 "BenchRuns$Tool" "sort" "I").before (#[.ref (ad (20 + t)), .int v] : Array Value) s = true := hts _ (by decide +kernel)
  have hinX4 : ∀ w ∈ u_ws RX4 TX4 3, w ∈ wsX4_beginAnew := by decide +kernel
  have kf15 : (Cond.fieldLink RX4 15 "BenchRuns$Tool" "uses" "I").before (#[.ref (ad (20 + t)), .int v] : Array Value) s = true := hts _ (by decide +kernel)
  have kf18 : (Cond.fieldLink RX4 18 "BenchRuns$Tool" "grip" "I").before (#[.ref (ad (20 + t)), .int v] : Array Value) s = true := hts _ (by decide +kernel)
  refine lv_aload_n hx hb dX4_beginAnew_0 rfl (lv_at hl 0 rfl) ?_
  refine lv_iload_n hx hb dX4_beginAnew_1 rfl (lv_at hl 1 rfl) ?_
  refine mw_put (ci := 4) (C := RX4) (T := TX4) (N := 3) (v := v) (ty := .int) hx hb hts hinX4 tyX4 tyX4_ok nmX4 hown hK hj hP hS (20 + t) (cB_tool ht) (cF_tool ht) rfl 0 (by decide) kf9 (fun _ h9 => h9) rfl (by decide +kernel) rfl rfl (Nat.le_of_ble_eq_true rfl) rfl dX4_beginAnew_2 (fun H locs hP hS => ?_)
  refine lv_aload_n hx hb dX4_beginAnew_5 rfl (lv_at hl 0 rfl) ?_
  refine lv_iconst (v := 0) hx hb dX4_beginAnew_6 (by decide) ?_
  refine mw_put (ci := 4) (C := RX4) (T := TX4) (N := 3) (v := 0) (ty := .int) hx hb hts hinX4 tyX4 tyX4_ok nmX4 hown hK hj hP hS (20 + t) (cB_tool ht) (cF_tool ht) rfl 1 (by decide) kf15 (fun _ h9 => h9) rfl (by decide +kernel) rfl rfl (Nat.le_of_ble_eq_true rfl) rfl dX4_beginAnew_7 (fun H locs hP hS => ?_)
  refine lv_aload_n hx hb dX4_beginAnew_10 rfl (lv_at hl 0 rfl) ?_
  refine lv_iconst (v := 0) hx hb dX4_beginAnew_11 (by decide) ?_
  refine mw_put (ci := 4) (C := RX4) (T := TX4) (N := 3) (v := 0) (ty := .int) hx hb hts hinX4 tyX4 tyX4_ok nmX4 hown hK hj hP hS (20 + t) (cB_tool ht) (cF_tool ht) rfl 2 (by decide) kf18 (fun _ h9 => h9) rfl (by decide +kernel) rfl rfl (Nat.le_of_ble_eq_true rfl) rfl dX4_beginAnew_12 (fun H locs hP hS => ?_)
  exact g_vret hx hb hr hlocks hP hS dX4_beginAnew_15 (by unfold cToolBegin; rfl)

def cLogBegin (σ : Mem)  : Mem :=
  mset (mset (mset (mset (mset (mset (mset (mset (mset σ 8 1 0) 8 2 0) 8 3 0) 8 4 0) 8 5 0) 8 6 0) 7 2 0) 7 4 0) 7 6 0
set_option maxHeartbeats 4000000 in
set_option maxRecDepth 100000 in
theorem c_logBegin (l : Launch) (D : va_G) (cy : Nat → ClassId) (ad wy : Nat → Nat) (mt : Nat) (hj : mJ 98 ad) (σ : Mem)   : Met l yX1_beginAnew wsX1_beginAnew ({ frames := 0, cells := 0, slots := 0, locals := 0 }) (va_Pc [.ref (ad 7)] (gPre 98 ad (cF ad cy) D cy wy mt σ)) (gQ 98 ad (cF ad cy) D none (cLogBegin σ)) 0 0 (mA 98 ad) := by
  refine g_met (cc := cX1_beginAnew) (maxL := 2) (ret := none) (by decide) rfl (Nat.le_of_ble_eq_true rfl) ?_
  intro p e s m below meth c S hr hlocks h0 ls hl
  obtain ⟨hx, hb, hml, hown, hts⟩ := S
  have hP := h0.1
  have hK := h0.2.1
  have hS : va_S (mA 98 ad) s.heap s.heap [] := va_S.rf
  have hl : lv_has ls 2 [(0, .ref (ad 7))] := hl
  have kf9 : (Cond.fieldLink RX1 9 "BenchRuns$Log" "countOf" "[I").before (#[.ref (ad 7)] : Array Value) s = true := hts _ (by decide +kernel)
  have hinX1 : ∀ w ∈ u_ws RX1 TX1 7, w ∈ wsX1_beginAnew := by decide +kernel
  have kf18 : (Cond.fieldLink RX1 18 "BenchRuns$Log" "eventCount" "I").before (#[.ref (ad 7)] : Array Value) s = true := hts _ (by decide +kernel)
  have kf25 : (Cond.fieldLink RX1 25 "BenchRuns$Log" "notedCount" "I").before (#[.ref (ad 7)] : Array Value) s = true := hts _ (by decide +kernel)
  have kf31 : (Cond.fieldLink RX1 31 "BenchRuns$Log" "chainLength" "I").before (#[.ref (ad 7)] : Array Value) s = true := hts _ (by decide +kernel)
  refine lv_iconst (v := 1) hx hb dX1_beginAnew_0 (by decide) ?_
  refine lv_istore_n (lv' := [(1, .int 1), (0, .ref (ad 7))]) hx hb dX1_beginAnew_1 rfl hl (by decide) rfl (fun ls hl => ?_)
  refine lv_iload_n hx hb dX1_beginAnew_2 rfl (lv_at hl 0 rfl) ?_
  refine lv_bipush (v := 6) hx hb dX1_beginAnew_3 (by decide) ?_
  refine lv_icmp_gt (tgt := 21) hx hb dX1_beginAnew_5 (by decide) (fun c9 => absurd c9 (by decide)) (fun _ => ?_)
  refine lv_aload_n hx hb dX1_beginAnew_8 rfl (lv_at hl 1 rfl) ?_
  refine mw_get (ci := 1) (C := RX1) (T := TX1) (N := 7) (v := .ref (ad 8)) hx hb hts hinX1 hown hK hP 7 (by decide) cF_7 rfl 0 (by decide) kf9 (fun _ h9 => h9) rfl dX1_beginAnew_9 ?_
  refine lv_iload_n hx hb dX1_beginAnew_12 rfl (lv_at hl 0 rfl) ?_
  refine lv_iconst (v := 0) hx hb dX1_beginAnew_13 (by decide) ?_
  refine mw_ist hx hb hK hj hP hS 8 (by decide) 0 cF_8 rfl 1 (by decide) (by decide) rfl dX1_beginAnew_14 (fun H locs hP hS => ?_)
  refine lv_iinc (v := 2) (lv' := [(1, .int 2), (0, .ref (ad 7))]) hx hb dX1_beginAnew_15 hl (k := 0) rfl (by decide) (by decide) rfl (fun ls hl => ?_)
  refine lv_goto (tgt := 2) hx hb dX1_beginAnew_18 (by decide) ?_
  refine lv_iload_n hx hb dX1_beginAnew_2 rfl (lv_at hl 0 rfl) ?_
  refine lv_bipush (v := 6) hx hb dX1_beginAnew_3 (by decide) ?_
  refine lv_icmp_gt (tgt := 21) hx hb dX1_beginAnew_5 (by decide) (fun c9 => absurd c9 (by decide)) (fun _ => ?_)
  refine lv_aload_n hx hb dX1_beginAnew_8 rfl (lv_at hl 1 rfl) ?_
  refine mw_get (ci := 1) (C := RX1) (T := TX1) (N := 7) (v := .ref (ad 8)) hx hb hts hinX1 hown hK hP 7 (by decide) cF_7 rfl 0 (by decide) kf9 (fun _ h9 => h9) rfl dX1_beginAnew_9 ?_
  refine lv_iload_n hx hb dX1_beginAnew_12 rfl (lv_at hl 0 rfl) ?_
  refine lv_iconst (v := 0) hx hb dX1_beginAnew_13 (by decide) ?_
  refine mw_ist hx hb hK hj hP hS 8 (by decide) 0 cF_8 rfl 2 (by decide) (by decide) rfl dX1_beginAnew_14 (fun H locs hP hS => ?_)
  refine lv_iinc (v := 3) (lv' := [(1, .int 3), (0, .ref (ad 7))]) hx hb dX1_beginAnew_15 hl (k := 0) rfl (by decide) (by decide) rfl (fun ls hl => ?_)
  refine lv_goto (tgt := 2) hx hb dX1_beginAnew_18 (by decide) ?_
  refine lv_iload_n hx hb dX1_beginAnew_2 rfl (lv_at hl 0 rfl) ?_
  refine lv_bipush (v := 6) hx hb dX1_beginAnew_3 (by decide) ?_
  refine lv_icmp_gt (tgt := 21) hx hb dX1_beginAnew_5 (by decide) (fun c9 => absurd c9 (by decide)) (fun _ => ?_)
  refine lv_aload_n hx hb dX1_beginAnew_8 rfl (lv_at hl 1 rfl) ?_
  refine mw_get (ci := 1) (C := RX1) (T := TX1) (N := 7) (v := .ref (ad 8)) hx hb hts hinX1 hown hK hP 7 (by decide) cF_7 rfl 0 (by decide) kf9 (fun _ h9 => h9) rfl dX1_beginAnew_9 ?_
  refine lv_iload_n hx hb dX1_beginAnew_12 rfl (lv_at hl 0 rfl) ?_
  refine lv_iconst (v := 0) hx hb dX1_beginAnew_13 (by decide) ?_
  refine mw_ist hx hb hK hj hP hS 8 (by decide) 0 cF_8 rfl 3 (by decide) (by decide) rfl dX1_beginAnew_14 (fun H locs hP hS => ?_)
  refine lv_iinc (v := 4) (lv' := [(1, .int 4), (0, .ref (ad 7))]) hx hb dX1_beginAnew_15 hl (k := 0) rfl (by decide) (by decide) rfl (fun ls hl => ?_)
  refine lv_goto (tgt := 2) hx hb dX1_beginAnew_18 (by decide) ?_
  refine lv_iload_n hx hb dX1_beginAnew_2 rfl (lv_at hl 0 rfl) ?_
  refine lv_bipush (v := 6) hx hb dX1_beginAnew_3 (by decide) ?_
  refine lv_icmp_gt (tgt := 21) hx hb dX1_beginAnew_5 (by decide) (fun c9 => absurd c9 (by decide)) (fun _ => ?_)
  refine lv_aload_n hx hb dX1_beginAnew_8 rfl (lv_at hl 1 rfl) ?_
  refine mw_get (ci := 1) (C := RX1) (T := TX1) (N := 7) (v := .ref (ad 8)) hx hb hts hinX1 hown hK hP 7 (by decide) cF_7 rfl 0 (by decide) kf9 (fun _ h9 => h9) rfl dX1_beginAnew_9 ?_
  refine lv_iload_n hx hb dX1_beginAnew_12 rfl (lv_at hl 0 rfl) ?_
  refine lv_iconst (v := 0) hx hb dX1_beginAnew_13 (by decide) ?_
  refine mw_ist hx hb hK hj hP hS 8 (by decide) 0 cF_8 rfl 4 (by decide) (by decide) rfl dX1_beginAnew_14 (fun H locs hP hS => ?_)
  refine lv_iinc (v := 5) (lv' := [(1, .int 5), (0, .ref (ad 7))]) hx hb dX1_beginAnew_15 hl (k := 0) rfl (by decide) (by decide) rfl (fun ls hl => ?_)
  refine lv_goto (tgt := 2) hx hb dX1_beginAnew_18 (by decide) ?_
  refine lv_iload_n hx hb dX1_beginAnew_2 rfl (lv_at hl 0 rfl) ?_
  refine lv_bipush (v := 6) hx hb dX1_beginAnew_3 (by decide) ?_
  refine lv_icmp_gt (tgt := 21) hx hb dX1_beginAnew_5 (by decide) (fun c9 => absurd c9 (by decide)) (fun _ => ?_)
  refine lv_aload_n hx hb dX1_beginAnew_8 rfl (lv_at hl 1 rfl) ?_
  refine mw_get (ci := 1) (C := RX1) (T := TX1) (N := 7) (v := .ref (ad 8)) hx hb hts hinX1 hown hK hP 7 (by decide) cF_7 rfl 0 (by decide) kf9 (fun _ h9 => h9) rfl dX1_beginAnew_9 ?_
  refine lv_iload_n hx hb dX1_beginAnew_12 rfl (lv_at hl 0 rfl) ?_
  refine lv_iconst (v := 0) hx hb dX1_beginAnew_13 (by decide) ?_
  refine mw_ist hx hb hK hj hP hS 8 (by decide) 0 cF_8 rfl 5 (by decide) (by decide) rfl dX1_beginAnew_14 (fun H locs hP hS => ?_)
  refine lv_iinc (v := 6) (lv' := [(1, .int 6), (0, .ref (ad 7))]) hx hb dX1_beginAnew_15 hl (k := 0) rfl (by decide) (by decide) rfl (fun ls hl => ?_)
  refine lv_goto (tgt := 2) hx hb dX1_beginAnew_18 (by decide) ?_
  refine lv_iload_n hx hb dX1_beginAnew_2 rfl (lv_at hl 0 rfl) ?_
  refine lv_bipush (v := 6) hx hb dX1_beginAnew_3 (by decide) ?_
  refine lv_icmp_gt (tgt := 21) hx hb dX1_beginAnew_5 (by decide) (fun c9 => absurd c9 (by decide)) (fun _ => ?_)
  refine lv_aload_n hx hb dX1_beginAnew_8 rfl (lv_at hl 1 rfl) ?_
  refine mw_get (ci := 1) (C := RX1) (T := TX1) (N := 7) (v := .ref (ad 8)) hx hb hts hinX1 hown hK hP 7 (by decide) cF_7 rfl 0 (by decide) kf9 (fun _ h9 => h9) rfl dX1_beginAnew_9 ?_
  refine lv_iload_n hx hb dX1_beginAnew_12 rfl (lv_at hl 0 rfl) ?_
  refine lv_iconst (v := 0) hx hb dX1_beginAnew_13 (by decide) ?_
  refine mw_ist hx hb hK hj hP hS 8 (by decide) 0 cF_8 rfl 6 (by decide) (by decide) rfl dX1_beginAnew_14 (fun H locs hP hS => ?_)
  refine lv_iinc (v := 7) (lv' := [(1, .int 7), (0, .ref (ad 7))]) hx hb dX1_beginAnew_15 hl (k := 0) rfl (by decide) (by decide) rfl (fun ls hl => ?_)
  refine lv_goto (tgt := 2) hx hb dX1_beginAnew_18 (by decide) ?_
  refine lv_iload_n hx hb dX1_beginAnew_2 rfl (lv_at hl 0 rfl) ?_
  refine lv_bipush (v := 6) hx hb dX1_beginAnew_3 (by decide) ?_
  refine lv_icmp_gt (tgt := 21) hx hb dX1_beginAnew_5 (by decide) (fun _ => ?_) (fun c9 => absurd c9 (by decide))
  refine lv_aload_n hx hb dX1_beginAnew_21 rfl (lv_at hl 1 rfl) ?_
  refine lv_iconst (v := 0) hx hb dX1_beginAnew_22 (by decide) ?_
  refine mw_put (ci := 1) (C := RX1) (T := TX1) (N := 7) (v := 0) (ty := .int) hx hb hts hinX1 tyX1 tyX1_ok nmX1 hown hK hj hP hS 7 (by decide) cF_7 rfl 2 (by decide) kf18 (fun _ h9 => h9) rfl (by decide +kernel) rfl rfl (Nat.le_of_ble_eq_true rfl) rfl dX1_beginAnew_23 (fun H locs hP hS => ?_)
  refine lv_aload_n hx hb dX1_beginAnew_26 rfl (lv_at hl 1 rfl) ?_
  refine lv_iconst (v := 0) hx hb dX1_beginAnew_27 (by decide) ?_
  refine mw_put (ci := 1) (C := RX1) (T := TX1) (N := 7) (v := 0) (ty := .int) hx hb hts hinX1 tyX1 tyX1_ok nmX1 hown hK hj hP hS 7 (by decide) cF_7 rfl 4 (by decide) kf25 (fun _ h9 => h9) rfl (by decide +kernel) rfl rfl (Nat.le_of_ble_eq_true rfl) rfl dX1_beginAnew_28 (fun H locs hP hS => ?_)
  refine lv_aload_n hx hb dX1_beginAnew_31 rfl (lv_at hl 1 rfl) ?_
  refine lv_iconst (v := 0) hx hb dX1_beginAnew_32 (by decide) ?_
  refine mw_put (ci := 1) (C := RX1) (T := TX1) (N := 7) (v := 0) (ty := .int) hx hb hts hinX1 tyX1 tyX1_ok nmX1 hown hK hj hP hS 7 (by decide) cF_7 rfl 6 (by decide) kf31 (fun _ h9 => h9) rfl (by decide +kernel) rfl rfl (Nat.le_of_ble_eq_true rfl) rfl dX1_beginAnew_33 (fun H locs hP hS => ?_)
  exact g_vret hx hb hr hlocks hP hS dX1_beginAnew_36 (by unfold cLogBegin; rfl)

def cNewRack (σ : Mem) (z : Int32) : Int32 × Mem :=
  if 0 ≤ z then (1, mset σ 5 1 z)
  else (0, σ)
set_option maxHeartbeats 4000000 in
set_option maxRecDepth 100000 in
theorem c_newRack (l : Launch) (D : va_G) (cy : Nat → ClassId) (ad wy : Nat → Nat) (mt : Nat) (hj : mJ 98 ad) (σ : Mem) (z : Int32)  : Met l yX3_newRack wsX3_newRack ({ frames := 0, cells := 0, slots := 0, locals := 0 }) (va_Pc [.ref (ad 5), .int z] (gPre 98 ad (cF ad cy) D cy wy mt σ)) (gQ 98 ad (cF ad cy) D (some (.int (cNewRack σ z).1)) (cNewRack σ z).2) 0 0 (mA 98 ad) := by
  refine g_met (cc := cX3_newRack) (maxL := 2) (ret := (some .boolean)) (by decide) rfl (Nat.le_of_ble_eq_true rfl) ?_
  intro p e s m below meth c S hr hlocks h0 ls hl
  obtain ⟨hx, hb, hml, hown, hts⟩ := S
  have hP := h0.1
  have hK := h0.2.1
  have hS : va_S (mA 98 ad) s.heap s.heap [] := va_S.rf
  have hl : lv_has ls 2 [(0, .ref (ad 5)), (1, .int z)] := hl
  have kf15 : (Cond.fieldLink RX3 15 "BenchRuns$Stock" "rackSize" "I").before (#[.ref (ad 5), .int z] : Array Value) s = true := hts _ (by decide +kernel)
  have hinX3 : ∀ w ∈ u_ws RX3 TX3 6, w ∈ wsX3_newRack := by decide +kernel
  refine lv_iload_n hx hb dX3_newRack_0 rfl (lv_at hl 1 rfl) ?_
  refine lv_if_ge (tgt := 6) hx hb dX3_newRack_1 (by decide) (fun c_1 => ?_) (fun c_1 => ?_)
  · skip
    refine lv_aload_n hx hb dX3_newRack_6 rfl (lv_at hl 0 rfl) ?_
    refine lv_iload_n hx hb dX3_newRack_7 rfl (lv_at hl 1 rfl) ?_
    refine mw_put (ci := 3) (C := RX3) (T := TX3) (N := 6) (v := z) (ty := .int) hx hb hts hinX3 tyX3 tyX3_ok nmX3 hown hK hj hP hS 5 (by decide) cF_5 rfl 1 (by decide) kf15 (fun _ h9 => h9) rfl (by decide +kernel) rfl rfl (Nat.le_of_ble_eq_true rfl) rfl dX3_newRack_8 (fun H locs hP hS => ?_)
    refine lv_iconst (v := 1) hx hb dX3_newRack_11 (by decide) ?_
    exact g_zret hx hb hr hlocks hP hS dX3_newRack_12 (by decide) (by unfold cNewRack; rw [if_pos c_1])
  · skip
    refine lv_iconst (v := 0) hx hb dX3_newRack_4 (by decide) ?_
    exact g_zret hx hb hr hlocks hP hS dX3_newRack_5 (by decide) (by unfold cNewRack; rw [if_neg c_1])

def cNewGrid (σ : Mem) (z w : Int32) : Int32 × Mem :=
  if z < 0 then (0, σ)
  else if 0 ≤ w then (1, mset (mset σ 5 4 z) 5 5 w)
  else (0, σ)
set_option maxHeartbeats 4000000 in
set_option maxRecDepth 100000 in
theorem c_newGrid (l : Launch) (D : va_G) (cy : Nat → ClassId) (ad wy : Nat → Nat) (mt : Nat) (hj : mJ 98 ad) (σ : Mem) (z w : Int32)  : Met l yX3_newGrid wsX3_newGrid ({ frames := 0, cells := 0, slots := 0, locals := 0 }) (va_Pc [.ref (ad 5), .int z, .int w] (gPre 98 ad (cF ad cy) D cy wy mt σ)) (gQ 98 ad (cF ad cy) D (some (.int (cNewGrid σ z w).1)) (cNewGrid σ z w).2) 0 0 (mA 98 ad) := by
  refine g_met (cc := cX3_newGrid) (maxL := 3) (ret := (some .boolean)) (by decide) rfl (Nat.le_of_ble_eq_true rfl) ?_
  intro p e s m below meth c S hr hlocks h0 ls hl
  obtain ⟨hx, hb, hml, hown, hts⟩ := S
  have hP := h0.1
  have hK := h0.2.1
  have hS : va_S (mA 98 ad) s.heap s.heap [] := va_S.rf
  have hl : lv_has ls 3 [(0, .ref (ad 5)), (1, .int z), (2, .int w)] := hl
  have kf25 : (Cond.fieldLink RX3 25 "BenchRuns$Stock" "gridRows" "I").before (#[.ref (ad 5), .int z, .int w] : Array Value) s = true := hts _ (by decide +kernel)
  have hinX3 : ∀ w ∈ u_ws RX3 TX3 6, w ∈ wsX3_newGrid := by decide +kernel
  have kf28 : (Cond.fieldLink RX3 28 "BenchRuns$Stock" "gridRowSize" "I").before (#[.ref (ad 5), .int z, .int w] : Array Value) s = true := hts _ (by decide +kernel)
  refine lv_iload_n hx hb dX3_newGrid_0 rfl (lv_at hl 1 rfl) ?_
  refine lv_if_lt (tgt := 8) hx hb dX3_newGrid_1 (by decide) (fun c_1 => ?_) (fun c_1 => ?_)
  · skip
    refine lv_iconst (v := 0) hx hb dX3_newGrid_8 (by decide) ?_
    exact g_zret hx hb hr hlocks hP hS dX3_newGrid_9 (by decide) (by unfold cNewGrid; rw [if_pos c_1])
  · skip
    refine lv_iload_n hx hb dX3_newGrid_4 rfl (lv_at hl 2 rfl) ?_
    refine lv_if_ge (tgt := 10) hx hb dX3_newGrid_5 (by decide) (fun c_2 => ?_) (fun c_2 => ?_)
    · skip
      refine lv_aload_n hx hb dX3_newGrid_10 rfl (lv_at hl 0 rfl) ?_
      refine lv_iload_n hx hb dX3_newGrid_11 rfl (lv_at hl 1 rfl) ?_
      refine mw_put (ci := 3) (C := RX3) (T := TX3) (N := 6) (v := z) (ty := .int) hx hb hts hinX3 tyX3 tyX3_ok nmX3 hown hK hj hP hS 5 (by decide) cF_5 rfl 4 (by decide) kf25 (fun _ h9 => h9) rfl (by decide +kernel) rfl rfl (Nat.le_of_ble_eq_true rfl) rfl dX3_newGrid_12 (fun H locs hP hS => ?_)
      refine lv_aload_n hx hb dX3_newGrid_15 rfl (lv_at hl 0 rfl) ?_
      refine lv_iload_n hx hb dX3_newGrid_16 rfl (lv_at hl 2 rfl) ?_
      refine mw_put (ci := 3) (C := RX3) (T := TX3) (N := 6) (v := w) (ty := .int) hx hb hts hinX3 tyX3 tyX3_ok nmX3 hown hK hj hP hS 5 (by decide) cF_5 rfl 5 (by decide) kf28 (fun _ h9 => h9) rfl (by decide +kernel) rfl rfl (Nat.le_of_ble_eq_true rfl) rfl dX3_newGrid_17 (fun H locs hP hS => ?_)
      refine lv_iconst (v := 1) hx hb dX3_newGrid_20 (by decide) ?_
      exact g_zret hx hb hr hlocks hP hS dX3_newGrid_21 (by decide) (by unfold cNewGrid; rw [if_neg c_1, if_pos c_2])
    · skip
      refine lv_iconst (v := 0) hx hb dX3_newGrid_8 (by decide) ?_
      exact g_zret hx hb hr hlocks hP hS dX3_newGrid_9 (by decide) (by unfold cNewGrid; rw [if_neg c_1, if_neg c_2])

def cBoxTakes (σ : Mem) (z : Int32) : Int32 :=
  if z = (-1) then 1
  else if σ 5 3 = 2 then 1
  else if z = σ 5 3 then 1
  else 0
set_option maxHeartbeats 4000000 in
set_option maxRecDepth 100000 in
theorem c_boxTakes (l : Launch) (D : va_G) (cy : Nat → ClassId) (ad wy : Nat → Nat) (mt : Nat) (hj : mJ 98 ad) (σ : Mem) (z : Int32)  : Met l yX3_boxTakes wsX3_boxTakes ({ frames := 0, cells := 0, slots := 0, locals := 0 }) (va_Pc [.ref (ad 5), .int z] (gPre 98 ad (cF ad cy) D cy wy mt σ)) (gQ 98 ad (cF ad cy) D (some (.int (cBoxTakes σ z))) σ) 0 0 (mA 98 ad) := by
  refine g_met (cc := cX3_boxTakes) (maxL := 2) (ret := (some .boolean)) (by decide) rfl (Nat.le_of_ble_eq_true rfl) ?_
  intro p e s m below meth c S hr hlocks h0 ls hl
  obtain ⟨hx, hb, hml, hown, hts⟩ := S
  have hP := h0.1
  have hK := h0.2.1
  have hS : va_S (mA 98 ad) s.heap s.heap [] := va_S.rf
  have hl : lv_has ls 2 [(0, .ref (ad 5)), (1, .int z)] := hl
  have kf22 : (Cond.fieldLink RX3 22 "BenchRuns$Stock" "boxSort" "I").before (#[.ref (ad 5), .int z] : Array Value) s = true := hts _ (by decide +kernel)
  have hinX3 : ∀ w ∈ u_ws RX3 TX3 6, w ∈ wsX3_boxTakes := by decide +kernel
  refine lv_iload_n hx hb dX3_boxTakes_0 rfl (lv_at hl 1 rfl) ?_
  refine lv_iconst (v := (-1)) hx hb dX3_boxTakes_1 (by decide) ?_
  refine lv_icmp_eq (tgt := 21) hx hb dX3_boxTakes_2 (by decide) (fun c_1 => ?_) (fun c_1 => ?_)
  · skip
    refine lv_iconst (v := 1) hx hb dX3_boxTakes_21 (by decide) ?_
    refine lv_goto (tgt := 26) hx hb dX3_boxTakes_22 (by decide) ?_
    exact g_rzret hx hb hr hlocks hP hS dX3_boxTakes_26 (by decide) (by unfold cBoxTakes; rw [if_pos c_1])
  · skip
    refine lv_aload_n hx hb dX3_boxTakes_5 rfl (lv_at hl 0 rfl) ?_
    refine mw_get (ci := 3) (C := RX3) (T := TX3) (N := 6) (v := .int (σ 5 3)) hx hb hts hinX3 hown hK hP 5 (by decide) cF_5 rfl 3 (by decide) kf22 (fun _ h9 => h9) rfl dX3_boxTakes_6 ?_
    refine lv_iconst (v := 2) hx hb dX3_boxTakes_9 (by decide) ?_
    refine lv_icmp_eq (tgt := 21) hx hb dX3_boxTakes_10 (by decide) (fun c_2 => ?_) (fun c_2 => ?_)
    · skip
      refine lv_iconst (v := 1) hx hb dX3_boxTakes_21 (by decide) ?_
      refine lv_goto (tgt := 26) hx hb dX3_boxTakes_22 (by decide) ?_
      exact g_rzret hx hb hr hlocks hP hS dX3_boxTakes_26 (by decide) (by unfold cBoxTakes; rw [if_neg c_1, if_pos c_2])
    · skip
      refine lv_iload_n hx hb dX3_boxTakes_13 rfl (lv_at hl 1 rfl) ?_
      refine lv_aload_n hx hb dX3_boxTakes_14 rfl (lv_at hl 0 rfl) ?_
      refine mw_get (ci := 3) (C := RX3) (T := TX3) (N := 6) (v := .int (σ 5 3)) hx hb hts hinX3 hown hK hP 5 (by decide) cF_5 rfl 3 (by decide) kf22 (fun _ h9 => h9) rfl dX3_boxTakes_15 ?_
      refine lv_icmp_ne (tgt := 25) hx hb dX3_boxTakes_18 (by decide) (fun c_3 => ?_) (fun c_3 => ?_)
      · skip
        refine lv_iconst (v := 0) hx hb dX3_boxTakes_25 (by decide) ?_
        exact g_rzret hx hb hr hlocks hP hS dX3_boxTakes_26 (by decide) (by unfold cBoxTakes; rw [if_neg c_1, if_neg c_2, if_neg c_3])
      · skip
        refine lv_iconst (v := 1) hx hb dX3_boxTakes_21 (by decide) ?_
        refine lv_goto (tgt := 26) hx hb dX3_boxTakes_22 (by decide) ?_
        exact g_rzret hx hb hr hlocks hP hS dX3_boxTakes_26 (by decide) (by unfold cBoxTakes; rw [if_neg c_1, if_neg c_2, if_pos c_3])

def cSizeOf (σ : Mem) (w : Nat) : Int32 :=
  if w = 0 then σ 5 1
  else if w = 1 then σ 5 2
  else if w = 2 then σ 5 4
  else if σ 5 4 ≤ 0 then (-4)
  else σ 5 5
set_option maxHeartbeats 4000000 in
set_option maxRecDepth 100000 in
theorem c_sizeOf (l : Launch) (D : va_G) (cy : Nat → ClassId) (ad wy : Nat → Nat) (mt : Nat) (hj : mJ 98 ad) (σ : Mem) (w : Nat) (hw : w < 4)  : Met l yX3_sizeOf wsX3_sizeOf ({ frames := 0, cells := 0, slots := 0, locals := 0 }) (va_Pc [.ref (ad 5), .int (nI w)] (gPre 98 ad (cF ad cy) D cy wy mt σ)) (gQ 98 ad (cF ad cy) D (some (.int (cSizeOf σ w))) σ) 0 0 (mA 98 ad) := by
  refine g_met (cc := cX3_sizeOf) (maxL := 2) (ret := (some .int)) (by decide) rfl (Nat.le_of_ble_eq_true rfl) ?_
  intro p e s m below meth c S hr hlocks h0 ls hl
  obtain ⟨hx, hb, hml, hown, hts⟩ := S
  have hP := h0.1
  have hK := h0.2.1
  have hS : va_S (mA 98 ad) s.heap s.heap [] := va_S.rf
  have hl : lv_has ls 2 [(0, .ref (ad 5)), (1, .int (nI w))] := hl
  have kf15 : (Cond.fieldLink RX3 15 "BenchRuns$Stock" "rackSize" "I").before (#[.ref (ad 5), .int (nI w)] : Array Value) s = true := hts _ (by decide +kernel)
  have hinX3 : ∀ w ∈ u_ws RX3 TX3 6, w ∈ wsX3_sizeOf := by decide +kernel
  have kf19 : (Cond.fieldLink RX3 19 "BenchRuns$Stock" "boxSize" "I").before (#[.ref (ad 5), .int (nI w)] : Array Value) s = true := hts _ (by decide +kernel)
  have kf25 : (Cond.fieldLink RX3 25 "BenchRuns$Stock" "gridRows" "I").before (#[.ref (ad 5), .int (nI w)] : Array Value) s = true := hts _ (by decide +kernel)
  have kf28 : (Cond.fieldLink RX3 28 "BenchRuns$Stock" "gridRowSize" "I").before (#[.ref (ad 5), .int (nI w)] : Array Value) s = true := hts _ (by decide +kernel)
  refine lv_iload_n hx hb dX3_sizeOf_0 rfl (lv_at hl 1 rfl) ?_
  rcases (show w = 0 ∨ w = 1 ∨ w = 2 ∨ w = 3 by omega) with rfl | rfl | rfl | rfl
  · skip
    refine lv_tableIn (off := 31) (tgt := 32) hx hb dX3_sizeOf_1 (by decide) (by decide) (by decide) (by decide) ?_
    refine lv_aload_n hx hb dX3_sizeOf_32 rfl (lv_at hl 0 rfl) ?_
    refine mw_get (ci := 3) (C := RX3) (T := TX3) (N := 6) (v := .int (σ 5 1)) hx hb hts hinX3 hown hK hP 5 (by decide) cF_5 rfl 1 (by decide) kf15 (fun _ h9 => h9) rfl dX3_sizeOf_33 ?_
    exact g_riret hx hb hr hlocks hP hS dX3_sizeOf_36 (by unfold cSizeOf; rw [if_pos (rfl : (0 : Nat) = 0)])
  · skip
    refine lv_tableIn (off := 36) (tgt := 37) hx hb dX3_sizeOf_1 (by decide) (by decide) (by decide) (by decide) ?_
    refine lv_aload_n hx hb dX3_sizeOf_37 rfl (lv_at hl 0 rfl) ?_
    refine mw_get (ci := 3) (C := RX3) (T := TX3) (N := 6) (v := .int (σ 5 2)) hx hb hts hinX3 hown hK hP 5 (by decide) cF_5 rfl 2 (by decide) kf19 (fun _ h9 => h9) rfl dX3_sizeOf_38 ?_
    exact g_riret hx hb hr hlocks hP hS dX3_sizeOf_41 (by unfold cSizeOf; rw [if_neg (show ¬ (1 : Nat) = 0 by decide), if_pos (rfl : (1 : Nat) = 1)])
  · skip
    refine lv_tableIn (off := 41) (tgt := 42) hx hb dX3_sizeOf_1 (by decide) (by decide) (by decide) (by decide) ?_
    refine lv_aload_n hx hb dX3_sizeOf_42 rfl (lv_at hl 0 rfl) ?_
    refine mw_get (ci := 3) (C := RX3) (T := TX3) (N := 6) (v := .int (σ 5 4)) hx hb hts hinX3 hown hK hP 5 (by decide) cF_5 rfl 4 (by decide) kf25 (fun _ h9 => h9) rfl dX3_sizeOf_43 ?_
    exact g_riret hx hb hr hlocks hP hS dX3_sizeOf_46 (by unfold cSizeOf; rw [if_neg (show ¬ (2 : Nat) = 0 by decide), if_neg (show ¬ (2 : Nat) = 1 by decide), if_pos (rfl : (2 : Nat) = 2)])
  · skip
    refine lv_tableIn (off := 46) (tgt := 47) hx hb dX3_sizeOf_1 (by decide) (by decide) (by decide) (by decide) ?_
    refine lv_aload_n hx hb dX3_sizeOf_47 rfl (lv_at hl 0 rfl) ?_
    refine mw_get (ci := 3) (C := RX3) (T := TX3) (N := 6) (v := .int (σ 5 4)) hx hb hts hinX3 hown hK hP 5 (by decide) cF_5 rfl 4 (by decide) kf25 (fun _ h9 => h9) rfl dX3_sizeOf_48 ?_
    refine lv_if_le (tgt := 61) hx hb dX3_sizeOf_51 (by decide) (fun c_1 => ?_) (fun c_1 => ?_)
    · skip
      refine lv_bipush (v := (-4)) hx hb dX3_sizeOf_61 (by decide) ?_
      exact g_riret hx hb hr hlocks hP hS dX3_sizeOf_63 (by unfold cSizeOf; rw [if_neg (show ¬ (3 : Nat) = 0 by decide), if_neg (show ¬ (3 : Nat) = 1 by decide), if_neg (show ¬ (3 : Nat) = 2 by decide), if_pos c_1])
    · skip
      refine lv_aload_n hx hb dX3_sizeOf_54 rfl (lv_at hl 0 rfl) ?_
      refine mw_get (ci := 3) (C := RX3) (T := TX3) (N := 6) (v := .int (σ 5 5)) hx hb hts hinX3 hown hK hP 5 (by decide) cF_5 rfl 5 (by decide) kf28 (fun _ h9 => h9) rfl dX3_sizeOf_55 ?_
      refine lv_goto (tgt := 63) hx hb dX3_sizeOf_58 (by decide) ?_
      exact g_riret hx hb hr hlocks hP hS dX3_sizeOf_63 (by unfold cSizeOf; rw [if_neg (show ¬ (3 : Nat) = 0 by decide), if_neg (show ¬ (3 : Nat) = 1 by decide), if_neg (show ¬ (3 : Nat) = 2 by decide), if_neg c_1])

def cNewBox (σ : Mem) (z w : Int32) : Int32 × Mem :=
  if z < 0 then (0, σ)
  else if z ≤ 18 then (1, mset (mset (cClr σ (ci z)) 5 2 z) 5 3 w)
  else (0, σ)
set_option maxHeartbeats 4000000 in
set_option maxRecDepth 100000 in
theorem c_newBox (l : Launch) (D : va_G) (cy : Nat → ClassId) (ad wy : Nat → Nat) (mt : Nat) (hj : mJ 98 ad) (σ : Mem) (z w : Int32)  : Met l yX3_newBox wsX3_newBox ({ frames := 0, cells := 0, slots := 0, locals := 0 }) (va_Pc [.ref (ad 5), .int z, .int w] (gPre 98 ad (cF ad cy) D cy wy mt σ)) (gQ 98 ad (cF ad cy) D (some (.int (cNewBox σ z w).1)) (cNewBox σ z w).2) 0 0 (mA 98 ad) := by
  refine g_met (cc := cX3_newBox) (maxL := 4) (ret := (some .boolean)) (by decide) rfl (Nat.le_of_ble_eq_true rfl) ?_
  intro p e s m below meth c S hr hlocks h0 ls hl
  obtain ⟨hx, hb, hml, hown, hts⟩ := S
  have hP := h0.1
  have hK := h0.2.1
  have hS : va_S (mA 98 ad) s.heap s.heap [] := va_S.rf
  have hl : lv_has ls 4 [(0, .ref (ad 5)), (1, .int z), (2, .int w)] := hl
  have kf19 : (Cond.fieldLink RX3 19 "BenchRuns$Stock" "boxSize" "I").before (#[.ref (ad 5), .int z, .int w] : Array Value) s = true := hts _ (by decide +kernel)
  have hinX3 : ∀ w ∈ u_ws RX3 TX3 6, w ∈ wsX3_newBox := by decide +kernel
  have kf22 : (Cond.fieldLink RX3 22 "BenchRuns$Stock" "boxSort" "I").before (#[.ref (ad 5), .int z, .int w] : Array Value) s = true := hts _ (by decide +kernel)
  have kf9 : (Cond.fieldLink RX3 9 "BenchRuns$Stock" "boxTools" "[I").before (#[.ref (ad 5), .int z, .int w] : Array Value) s = true := hts _ (by decide +kernel)
  refine lv_iload_n hx hb dX3_newBox_0 rfl (lv_at hl 1 rfl) ?_
  refine lv_if_lt (tgt := 10) hx hb dX3_newBox_1 (by decide) (fun c_1 => ?_) (fun c_1 => ?_)
  · skip
    refine lv_iconst (v := 0) hx hb dX3_newBox_10 (by decide) ?_
    exact g_zret hx hb hr hlocks hP hS dX3_newBox_11 (by decide) (by unfold cNewBox; rw [if_pos c_1])
  · skip
    refine lv_iload_n hx hb dX3_newBox_4 rfl (lv_at hl 1 rfl) ?_
    refine lv_bipush (v := 18) hx hb dX3_newBox_5 (by decide) ?_
    refine lv_icmp_le (tgt := 12) hx hb dX3_newBox_7 (by decide) (fun c_2 => ?_) (fun c_2 => ?_)
    · skip
      refine lv_iconst (v := 0) hx hb dX3_newBox_12 (by decide) ?_
      refine lv_istore_n (lv' := [(3, .int 0), (0, .ref (ad 5)), (1, .int z), (2, .int w)]) hx hb dX3_newBox_13 rfl hl (by decide) rfl (fun ls hl => ?_)
      obtain ⟨z9, hz9, rfl⟩ : ∃ j : Nat, j ≤ 18 ∧ z = nI j := nI_of2 (M := 18) (by decide) c_1 c_2
      have loop : ∀ (n k : Nat) (H : Heap) (locs : List Loc) (ls : Array Slot), k + n = z9 → va_P D vwCl (mW 98 ad (cF ad cy) (cClr σ k)) H → va_S (mA 98 ad) s.heap H locs → lv_has ls 4 [(3, .int (nI k)), (0, .ref (ad 5)), (1, .int (nI z9)), (2, .int w)] → W p l e ({ frames := 0, cells := 0, slots := 0, locals := 0 }) s m ([.ref (ad 5), .int (nI z9), .int w] : List Value).toArray below meth c H locs 0 0 (MQ below (gQ 98 ad (cF ad cy) D (some (.int (cNewBox σ (nI z9) w).1)) (cNewBox σ (nI z9) w).2) ([.ref (ad 5), .int (nI z9), .int w] : List Value).toArray s 0 0 (mA 98 ad)) (F0 m 14 ls []) := by
        intro n
        induction n with
        | zero =>
          intro k H locs ls hkn hP hS hl
          have hkz : k = z9 := by omega
          subst hkz
          refine lv_iload_n hx hb dX3_newBox_14 rfl (lv_at hl 0 rfl) ?_
          refine lv_iload_n hx hb dX3_newBox_15 rfl (lv_at hl 2 rfl) ?_
          refine lv_icmp_ge (tgt := 33) hx hb dX3_newBox_16 (by decide) (fun _ => ?_) (fun c9 => absurd (Int32.le_refl _) c9)
          refine lv_aload_n hx hb dX3_newBox_33 rfl (lv_at hl 1 rfl) ?_
          refine lv_iload_n hx hb dX3_newBox_34 rfl (lv_at hl 2 rfl) ?_
          refine mw_put (ci := 3) (C := RX3) (T := TX3) (N := 6) (v := nI k) (ty := .int) hx hb hts hinX3 tyX3 tyX3_ok nmX3 hown hK hj hP hS 5 (by decide) cF_5 rfl 2 (by decide) kf19 (fun _ h9 => h9) rfl (by decide +kernel) rfl rfl (Nat.le_of_ble_eq_true rfl) rfl dX3_newBox_35 (fun H locs hP hS => ?_)
          refine lv_aload_n hx hb dX3_newBox_38 rfl (lv_at hl 1 rfl) ?_
          refine lv_iload_n hx hb dX3_newBox_39 rfl (lv_at hl 3 rfl) ?_
          refine mw_put (ci := 3) (C := RX3) (T := TX3) (N := 6) (v := w) (ty := .int) hx hb hts hinX3 tyX3 tyX3_ok nmX3 hown hK hj hP hS 5 (by decide) cF_5 rfl 3 (by decide) kf22 (fun _ h9 => h9) rfl (by decide +kernel) rfl rfl (Nat.le_of_ble_eq_true rfl) rfl dX3_newBox_40 (fun H locs hP hS => ?_)
          refine lv_iconst (v := 1) hx hb dX3_newBox_43 (by decide) ?_
          exact g_zret hx hb hr hlocks hP hS dX3_newBox_44 (by decide) (by unfold cNewBox; rw [if_neg c_1, if_pos c_2]; unfold ci; rw [nI_clamp (by omega)])
        | succ n ih =>
          intro k H locs ls hkn hP hS hl
          refine lv_iload_n hx hb dX3_newBox_14 rfl (lv_at hl 0 rfl) ?_
          refine lv_iload_n hx hb dX3_newBox_15 rfl (lv_at hl 2 rfl) ?_
          refine lv_icmp_ge (tgt := 33) hx hb dX3_newBox_16 (by decide) (fun c9 => absurd c9 (nI_ge (by omega) (by omega))) (fun _ => ?_)
          refine lv_aload_n hx hb dX3_newBox_19 rfl (lv_at hl 1 rfl) ?_
          refine mw_get (ci := 3) (C := RX3) (T := TX3) (N := 6) (v := .ref (ad 6)) hx hb hts hinX3 hown hK hP 5 (by decide) cF_5 rfl 0 (by decide) kf9 (fun _ h9 => h9) rfl dX3_newBox_20 ?_
          refine lv_iload_n hx hb dX3_newBox_23 rfl (lv_at hl 0 rfl) ?_
          refine lv_bipush (v := (-4)) hx hb dX3_newBox_24 (by decide) ?_
          refine mw_ist hx hb hK hj hP hS 6 (by decide) 0 cF_6 rfl k (by omega) (by decide) rfl dX3_newBox_26 (fun H locs hP hS => ?_)
          refine lv_iinc (v := nI (k + 1)) (lv' := [(3, .int (nI (k + 1))), (0, .ref (ad 5)), (1, .int (nI z9)), (2, .int w)]) hx hb dX3_newBox_27 hl (k := 0) rfl (nI_1 k) (by decide) rfl (fun ls hl => ?_)
          refine lv_goto (tgt := 14) hx hb dX3_newBox_30 (by decide) ?_
          exact ih (k + 1) H locs ls (by omega) hP hS hl
      exact loop z9 0 _ _ ls (by omega) hP hS hl
    · skip
      refine lv_iconst (v := 0) hx hb dX3_newBox_10 (by decide) ?_
      exact g_zret hx hb hr hlocks hP hS dX3_newBox_11 (by decide) (by unfold cNewBox; rw [if_neg c_1, if_neg c_2])
