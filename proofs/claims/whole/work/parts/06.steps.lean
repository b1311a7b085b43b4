def cAdd (σ : Mem) (v : Nat) (n : Int32) : Nat × Mem :=
  if (σ 1 v) + n ≤ 1000 then (0, mset σ 1 v ((σ 1 v) + n))
  else cFail σ 1
set_option maxHeartbeats 4000000 in
set_option maxRecDepth 100000 in
theorem c_addDrops (l : Launch) (D : va_G) (cy : Nat → ClassId) (ad wy : Nat → Nat) (mt : Nat) (hj : mJ 98 ad) (σ : Mem) (v : Nat) (hv : v < 8) (n : Int32)  : Met l yX6_addDrops wsX6_addDrops ({ frames := 1, cells := 0, slots := 0, locals := 22 }) (va_Pc [.ref (ad 0), .int (nI v), .int n] (gPre 98 ad (cF ad cy) D cy wy mt σ)) (gQ 98 ad (cF ad cy) D (some (.ref (wy (cAdd σ v n).1))) (cAdd σ v n).2) 0 0 (mA 98 ad) := by
  refine g_met (cc := cX6_addDrops) (maxL := 3) (ret := (some (.object "BenchRuns$Way"))) (by decide) rfl (Nat.le_of_ble_eq_true rfl) ?_
  intro p e s m below meth c S hr hlocks h0 ls hl
  obtain ⟨hx, hb, hml, hown, hts⟩ := S
  have hP := h0.1
  have hK := h0.2.1
  have hS : va_S (mA 98 ad) s.heap s.heap [] := va_S.rf
  have hl : lv_has ls 3 [(0, .ref (ad 0)), (1, .int (nI v)), (2, .int n)] := hl
  have kf9 : (Cond.fieldLink RX6 9 "BenchRuns" "vialDrops" "[I").before (#[.ref (ad 0), .int (nI v), .int n] : Array Value) s = true := hts _ (by decide +kernel)
  have hinX6 : ∀ w ∈ u_ws RX6 TX6 7, w ∈ wsX6_addDrops := by decide +kernel
  have kf145 : (Cond.fieldLink RX6 145 "BenchRuns$Way" "ONWARD" "LBenchRuns$Way;").before (#[.ref (ad 0), .int (nI v), .int n] : Array Value) s = true := hts _ (by decide +kernel)
  have kf38 : (Cond.fieldLink RX6 38 "BenchRuns" "log" "LBenchRuns$Log;").before (#[.ref (ad 0), .int (nI v), .int n] : Array Value) s = true := hts _ (by decide +kernel)
  refine lv_aload_n hx hb dX6_addDrops_0 rfl (lv_at hl 0 rfl) ?_
  refine mw_get (ci := 5) (C := RX6) (T := TX6) (N := 7) (v := .ref (ad 1)) hx hb hts hinX6 hown hK hP 0 (by decide) cF_0 rfl 0 (by decide) kf9 (fun _ h9 => h9) rfl dX6_addDrops_1 ?_
  refine lv_iload_n hx hb dX6_addDrops_4 rfl (lv_at hl 1 rfl) ?_
  refine mw_ild hx hb hK hP 1 (by decide) 0 cF_1 rfl v (by omega) (by decide) rfl dX6_addDrops_5 ?_
  refine lv_iload_n hx hb dX6_addDrops_6 rfl (lv_at hl 2 rfl) ?_
  refine lv_iadd hx hb dX6_addDrops_7 ?_
  refine lv_sipush (v := 1000) hx hb dX6_addDrops_8 (by decide) ?_
  refine lv_icmp_le (tgt := 23) hx hb dX6_addDrops_11 (by decide) (fun c_1 => ?_) (fun c_1 => ?_)
  · skip
    refine lv_aload_n hx hb dX6_addDrops_23 rfl (lv_at hl 0 rfl) ?_
    refine mw_get (ci := 5) (C := RX6) (T := TX6) (N := 7) (v := .ref (ad 1)) hx hb hts hinX6 hown hK hP 0 (by decide) cF_0 rfl 0 (by decide) kf9 (fun _ h9 => h9) rfl dX6_addDrops_24 ?_
    refine lv_iload_n hx hb dX6_addDrops_27 rfl (lv_at hl 1 rfl) ?_
    refine lv_dup2_11 hx hb dX6_addDrops_28 rfl rfl ?_
    refine mw_ild hx hb hK hP 1 (by decide) 0 cF_1 rfl v (by omega) (by decide) rfl dX6_addDrops_29 ?_
    refine lv_iload_n hx hb dX6_addDrops_30 rfl (lv_at hl 2 rfl) ?_
    refine lv_iadd hx hb dX6_addDrops_31 ?_
    refine mw_ist hx hb hK hj hP hS 1 (by decide) 0 cF_1 rfl v (by omega) (by decide) rfl dX6_addDrops_32 (fun H locs hP hS => ?_)
    refine g_way hx hb h0 hS hown 0 (by decide) rfl kf145 dX6_addDrops_33 ?_
    exact g_aret hx hb hr hlocks hP hS dX6_addDrops_36 (by unfold cAdd; rw [if_pos c_1] <;> rfl)
  · skip
    refine lv_aload_n hx hb dX6_addDrops_14 rfl (lv_at hl 0 rfl) ?_
    refine mw_get (ci := 5) (C := RX6) (T := TX6) (N := 7) (v := .ref (ad 7)) hx hb hts hinX6 hown hK hP 0 (by decide) cF_0 rfl 5 (by decide) kf38 (fun _ h9 => h9) rfl dX6_addDrops_15 ?_
    refine lv_iconst (v := 1) hx hb dX6_addDrops_18 (by decide) ?_
    refine g_callV (As := [.int 1]) (rest := []) (N := 7) (T := TX1) (ci := 1) ⟨hx, hb, hml, hown, hts⟩ 7 (c_fail l D cy ad wy mt hj σ 1) (cwV 1 hts gX6_addDrops_X1_fail rfl rfl rfl (by decide +kernel) ⟨by decide, by decide⟩) h0 hP hS (by decide) cF_7 rfl rfl rfl hl.1 (Nat.le_of_ble_eq_true rfl) dX6_addDrops_19 ⟨Nat.zero_le _, Nat.zero_le _⟩ (fun H locs hP hS => ?_)
    exact g_aret hx hb hr hlocks hP hS dX6_addDrops_22 (by unfold cAdd; rw [if_neg c_1] <;> rfl)

def cDraw (σ : Mem) (v : Nat) (n : Int32) : Nat × Mem :=
  if n ≤ σ 1 v then (0, mset σ 1 v ((σ 1 v) - n))
  else cFail σ 2
set_option maxHeartbeats 4000000 in
set_option maxRecDepth 100000 in
theorem c_drawDrops (l : Launch) (D : va_G) (cy : Nat → ClassId) (ad wy : Nat → Nat) (mt : Nat) (hj : mJ 98 ad) (σ : Mem) (v : Nat) (hv : v < 8) (n : Int32)  : Met l yX6_drawDrops wsX6_drawDrops ({ frames := 1, cells := 0, slots := 0, locals := 22 }) (va_Pc [.ref (ad 0), .int (nI v), .int n] (gPre 98 ad (cF ad cy) D cy wy mt σ)) (gQ 98 ad (cF ad cy) D (some (.ref (wy (cDraw σ v n).1))) (cDraw σ v n).2) 0 0 (mA 98 ad) := by
  refine g_met (cc := cX6_drawDrops) (maxL := 3) (ret := (some (.object "BenchRuns$Way"))) (by decide) rfl (Nat.le_of_ble_eq_true rfl) ?_
  intro p e s m below meth c S hr hlocks h0 ls hl
  obtain ⟨hx, hb, hml, hown, hts⟩ := S
  have hP := h0.1
  have hK := h0.2.1
  have hS : va_S (mA 98 ad) s.heap s.heap [] := va_S.rf
  have hl : lv_has ls 3 [(0, .ref (ad 0)), (1, .int (nI v)), (2, .int n)] := hl
  have kf9 : (Cond.fieldLink RX6 9 "BenchRuns" "vialDrops" "[I").before (#[.ref (ad 0), .int (nI v), .int n] : Array Value) s = true := hts _ (by decide +kernel)
  have hinX6 : ∀ w ∈ u_ws RX6 TX6 7, w ∈ wsX6_drawDrops := by decide +kernel
  have kf145 : (Cond.fieldLink RX6 145 "BenchRuns$Way" "ONWARD" "LBenchRuns$Way;").before (#[.ref (ad 0), .int (nI v), .int n] : Array Value) s = true := hts _ (by decide +kernel)
  have kf38 : (Cond.fieldLink RX6 38 "BenchRuns" "log" "LBenchRuns$Log;").before (#[.ref (ad 0), .int (nI v), .int n] : Array Value) s = true := hts _ (by decide +kernel)
  refine lv_aload_n hx hb dX6_drawDrops_0 rfl (lv_at hl 0 rfl) ?_
  refine mw_get (ci := 5) (C := RX6) (T := TX6) (N := 7) (v := .ref (ad 1)) hx hb hts hinX6 hown hK hP 0 (by decide) cF_0 rfl 0 (by decide) kf9 (fun _ h9 => h9) rfl dX6_drawDrops_1 ?_
  refine lv_iload_n hx hb dX6_drawDrops_4 rfl (lv_at hl 1 rfl) ?_
  refine mw_ild hx hb hK hP 1 (by decide) 0 cF_1 rfl v (by omega) (by decide) rfl dX6_drawDrops_5 ?_
  refine lv_iload_n hx hb dX6_drawDrops_6 rfl (lv_at hl 2 rfl) ?_
  refine lv_icmp_ge (tgt := 19) hx hb dX6_drawDrops_7 (by decide) (fun c_1 => ?_) (fun c_1 => ?_)
  · skip
    refine lv_aload_n hx hb dX6_drawDrops_19 rfl (lv_at hl 0 rfl) ?_
    refine mw_get (ci := 5) (C := RX6) (T := TX6) (N := 7) (v := .ref (ad 1)) hx hb hts hinX6 hown hK hP 0 (by decide) cF_0 rfl 0 (by decide) kf9 (fun _ h9 => h9) rfl dX6_drawDrops_20 ?_
    refine lv_iload_n hx hb dX6_drawDrops_23 rfl (lv_at hl 1 rfl) ?_
    refine lv_dup2_11 hx hb dX6_drawDrops_24 rfl rfl ?_
    refine mw_ild hx hb hK hP 1 (by decide) 0 cF_1 rfl v (by omega) (by decide) rfl dX6_drawDrops_25 ?_
    refine lv_iload_n hx hb dX6_drawDrops_26 rfl (lv_at hl 2 rfl) ?_
    refine lv_isub hx hb dX6_drawDrops_27 ?_
    refine mw_ist hx hb hK hj hP hS 1 (by decide) 0 cF_1 rfl v (by omega) (by decide) rfl dX6_drawDrops_28 (fun H locs hP hS => ?_)
    refine g_way hx hb h0 hS hown 0 (by decide) rfl kf145 dX6_drawDrops_29 ?_
    exact g_aret hx hb hr hlocks hP hS dX6_drawDrops_32 (by unfold cDraw; rw [if_pos c_1] <;> rfl)
  · skip
    refine lv_aload_n hx hb dX6_drawDrops_10 rfl (lv_at hl 0 rfl) ?_
    refine mw_get (ci := 5) (C := RX6) (T := TX6) (N := 7) (v := .ref (ad 7)) hx hb hts hinX6 hown hK hP 0 (by decide) cF_0 rfl 5 (by decide) kf38 (fun _ h9 => h9) rfl dX6_drawDrops_11 ?_
    refine lv_iconst (v := 2) hx hb dX6_drawDrops_14 (by decide) ?_
    refine g_callV (As := [.int 2]) (rest := []) (N := 7) (T := TX1) (ci := 1) ⟨hx, hb, hml, hown, hts⟩ 7 (c_fail l D cy ad wy mt hj σ 2) (cwV 1 hts gX6_drawDrops_X1_fail rfl rfl rfl (by decide +kernel) ⟨by decide, by decide⟩) h0 hP hS (by decide) cF_7 rfl rfl rfl hl.1 (Nat.le_of_ble_eq_true rfl) dX6_drawDrops_15 ⟨Nat.zero_le _, Nat.zero_le _⟩ (fun H locs hP hS => ?_)
    exact g_aret hx hb hr hlocks hP hS dX6_drawDrops_18 (by unfold cDraw; rw [if_neg c_1] <;> rfl)

def cShare (σ : Mem) (v : Nat) (n : Int32) : Nat × Mem :=
  if n = 0 then cFail σ 3
  else (0, mset σ 1 v ((σ 1 v) / n))
set_option maxHeartbeats 4000000 in
set_option maxRecDepth 100000 in
theorem c_shareDrops (l : Launch) (D : va_G) (cy : Nat → ClassId) (ad wy : Nat → Nat) (mt : Nat) (hj : mJ 98 ad) (σ : Mem) (v : Nat) (hv : v < 8) (n : Int32)  : Met l yX6_shareDrops wsX6_shareDrops ({ frames := 1, cells := 0, slots := 0, locals := 22 }) (va_Pc [.ref (ad 0), .int (nI v), .int n] (gPre 98 ad (cF ad cy) D cy wy mt σ)) (gQ 98 ad (cF ad cy) D (some (.ref (wy (cShare σ v n).1))) (cShare σ v n).2) 0 0 (mA 98 ad) := by
  refine g_met (cc := cX6_shareDrops) (maxL := 3) (ret := (some (.object "BenchRuns$Way"))) (by decide) rfl (Nat.le_of_ble_eq_true rfl) ?_
  intro p e s m below meth c S hr hlocks h0 ls hl
  obtain ⟨hx, hb, hml, hown, hts⟩ := S
  have hP := h0.1
  have hK := h0.2.1
  have hS : va_S (mA 98 ad) s.heap s.heap [] := va_S.rf
  have hl : lv_has ls 3 [(0, .ref (ad 0)), (1, .int (nI v)), (2, .int n)] := hl
  have kf9 : (Cond.fieldLink RX6 9 "BenchRuns" "vialDrops" "[I").before (#[.ref (ad 0), .int (nI v), .int n] : Array Value) s = true := hts _ (by decide +kernel)
  have hinX6 : ∀ w ∈ u_ws RX6 TX6 7, w ∈ wsX6_shareDrops := by decide +kernel
  have kf145 : (Cond.fieldLink RX6 145 "BenchRuns$Way" "ONWARD" "LBenchRuns$Way;").before (#[.ref (ad 0), .int (nI v), .int n] : Array Value) s = true := hts _ (by decide +kernel)
  have kf38 : (Cond.fieldLink RX6 38 "BenchRuns" "log" "LBenchRuns$Log;").before (#[.ref (ad 0), .int (nI v), .int n] : Array Value) s = true := hts _ (by decide +kernel)
  refine lv_iload_n hx hb dX6_shareDrops_0 rfl (lv_at hl 2 rfl) ?_
  refine lv_if_ne (tgt := 13) hx hb dX6_shareDrops_1 (by decide) (fun c_1 => ?_) (fun c_1 => ?_)
  · skip
    refine lv_aload_n hx hb dX6_shareDrops_13 rfl (lv_at hl 0 rfl) ?_
    refine mw_get (ci := 5) (C := RX6) (T := TX6) (N := 7) (v := .ref (ad 1)) hx hb hts hinX6 hown hK hP 0 (by decide) cF_0 rfl 0 (by decide) kf9 (fun _ h9 => h9) rfl dX6_shareDrops_14 ?_
    refine lv_iload_n hx hb dX6_shareDrops_17 rfl (lv_at hl 1 rfl) ?_
    refine lv_dup2_11 hx hb dX6_shareDrops_18 rfl rfl ?_
    refine mw_ild hx hb hK hP 1 (by decide) 0 cF_1 rfl v (by omega) (by decide) rfl dX6_shareDrops_19 ?_
    refine lv_iload_n hx hb dX6_shareDrops_20 rfl (lv_at hl 2 rfl) ?_
    refine lv_idiv hx hb dX6_shareDrops_21 c_1 ?_
    refine mw_ist hx hb hK hj hP hS 1 (by decide) 0 cF_1 rfl v (by omega) (by decide) rfl dX6_shareDrops_22 (fun H locs hP hS => ?_)
    refine g_way hx hb h0 hS hown 0 (by decide) rfl kf145 dX6_shareDrops_23 ?_
    exact g_aret hx hb hr hlocks hP hS dX6_shareDrops_26 (by unfold cShare; rw [if_neg c_1] <;> rfl)
  · skip
    refine lv_aload_n hx hb dX6_shareDrops_4 rfl (lv_at hl 0 rfl) ?_
    refine mw_get (ci := 5) (C := RX6) (T := TX6) (N := 7) (v := .ref (ad 7)) hx hb hts hinX6 hown hK hP 0 (by decide) cF_0 rfl 5 (by decide) kf38 (fun _ h9 => h9) rfl dX6_shareDrops_5 ?_
    refine lv_iconst (v := 3) hx hb dX6_shareDrops_8 (by decide) ?_
    refine g_callV (As := [.int 3]) (rest := []) (N := 7) (T := TX1) (ci := 1) ⟨hx, hb, hml, hown, hts⟩ 7 (c_fail l D cy ad wy mt hj σ 3) (cwV 1 hts gX6_shareDrops_X1_fail rfl rfl rfl (by decide +kernel) ⟨by decide, by decide⟩) h0 hP hS (by decide) cF_7 rfl rfl rfl hl.1 (Nat.le_of_ble_eq_true rfl) dX6_shareDrops_9 ⟨Nat.zero_le _, Nat.zero_le _⟩ (fun H locs hP hS => ?_)
    exact g_aret hx hb hr hlocks hP hS dX6_shareDrops_12 (by unfold cShare; rw [if_pos c_1] <;> rfl)

def cPour (σ : Mem) (v t : Nat) : Nat × Mem :=
  if nI t < 8 then (if σ 1 t = (-1) then cFail σ 5
    else if nI t = nI v then (0, σ)
    else if (σ 1 t) + (σ 1 v) ≤ 1000 then (0, mset (mset σ 1 t ((σ 1 t) + (σ 1 v))) 1 v 0)
    else cFail σ 1)
  else cFail σ 4
set_option maxHeartbeats 4000000 in
set_option maxRecDepth 100000 in
theorem c_pourDrops (l : Launch) (D : va_G) (cy : Nat → ClassId) (ad wy : Nat → Nat) (mt : Nat) (hj : mJ 98 ad) (σ : Mem) (v t : Nat) (hv : v < 8) (ht : t ≤ 200)  : Met l yX6_pourDrops wsX6_pourDrops ({ frames := 1, cells := 0, slots := 0, locals := 22 }) (va_Pc [.ref (ad 0), .int (nI v), .int (nI t)] (gPre 98 ad (cF ad cy) D cy wy mt σ)) (gQ 98 ad (cF ad cy) D (some (.ref (wy (cPour σ v t).1))) (cPour σ v t).2) 0 0 (mA 98 ad) := by
  refine g_met (cc := cX6_pourDrops) (maxL := 3) (ret := (some (.object "BenchRuns$Way"))) (by decide) rfl (Nat.le_of_ble_eq_true rfl) ?_
  intro p e s m below meth c S hr hlocks h0 ls hl
  obtain ⟨hx, hb, hml, hown, hts⟩ := S
  have hP := h0.1
  have hK := h0.2.1
  have hS : va_S (mA 98 ad) s.heap s.heap [] := va_S.rf
  have hl : lv_has ls 3 [(0, .ref (ad 0)), (1, .int (nI v)), (2, .int (nI t))] := hl
  have kf9 : (Cond.fieldLink RX6 9 "BenchRuns" "vialDrops" "[I").before (#[.ref (ad 0), .int (nI v), .int (nI t)] : Array Value) s = true := hts _ (by decide +kernel)
  have hinX6 : ∀ w ∈ u_ws RX6 TX6 7, w ∈ wsX6_pourDrops := by decide +kernel
  have kf145 : (Cond.fieldLink RX6 145 "BenchRuns$Way" "ONWARD" "LBenchRuns$Way;").before (#[.ref (ad 0), .int (nI v), .int (nI t)] : Array Value) s = true := hts _ (by decide +kernel)
  have kf38 : (Cond.fieldLink RX6 38 "BenchRuns" "log" "LBenchRuns$Log;").before (#[.ref (ad 0), .int (nI v), .int (nI t)] : Array Value) s = true := hts _ (by decide +kernel)
  refine lv_iload_n hx hb dX6_pourDrops_0 rfl (lv_at hl 2 rfl) ?_
  refine lv_bipush (v := 8) hx hb dX6_pourDrops_1 (by decide) ?_
  refine lv_icmp_lt (tgt := 15) hx hb dX6_pourDrops_3 (by decide) (fun c_1 => ?_) (fun c_1 => ?_)
  · skip
    have ht8 : t < 8 := (nI_ltI (by omega) (by decide)).mp c_1
    refine lv_aload_n hx hb dX6_pourDrops_15 rfl (lv_at hl 0 rfl) ?_
    refine mw_get (ci := 5) (C := RX6) (T := TX6) (N := 7) (v := .ref (ad 1)) hx hb hts hinX6 hown hK hP 0 (by decide) cF_0 rfl 0 (by decide) kf9 (fun _ h9 => h9) rfl dX6_pourDrops_16 ?_
    refine lv_iload_n hx hb dX6_pourDrops_19 rfl (lv_at hl 2 rfl) ?_
    refine mw_ild hx hb hK hP 1 (by decide) 0 cF_1 rfl t (by omega) (by decide) rfl dX6_pourDrops_20 ?_
    refine lv_iconst (v := (-1)) hx hb dX6_pourDrops_21 (by decide) ?_
    refine lv_icmp_ne (tgt := 34) hx hb dX6_pourDrops_22 (by decide) (fun c_2 => ?_) (fun c_2 => ?_)
    · skip
      refine lv_iload_n hx hb dX6_pourDrops_34 rfl (lv_at hl 2 rfl) ?_
      refine lv_iload_n hx hb dX6_pourDrops_35 rfl (lv_at hl 1 rfl) ?_
      refine lv_icmp_ne (tgt := 43) hx hb dX6_pourDrops_36 (by decide) (fun c_3 => ?_) (fun c_3 => ?_)
      · skip
        refine lv_aload_n hx hb dX6_pourDrops_43 rfl (lv_at hl 0 rfl) ?_
        refine mw_get (ci := 5) (C := RX6) (T := TX6) (N := 7) (v := .ref (ad 1)) hx hb hts hinX6 hown hK hP 0 (by decide) cF_0 rfl 0 (by decide) kf9 (fun _ h9 => h9) rfl dX6_pourDrops_44 ?_
        refine lv_iload_n hx hb dX6_pourDrops_47 rfl (lv_at hl 2 rfl) ?_
        refine mw_ild hx hb hK hP 1 (by decide) 0 cF_1 rfl t (by omega) (by decide) rfl dX6_pourDrops_48 ?_
        refine lv_aload_n hx hb dX6_pourDrops_49 rfl (lv_at hl 0 rfl) ?_
        refine mw_get (ci := 5) (C := RX6) (T := TX6) (N := 7) (v := .ref (ad 1)) hx hb hts hinX6 hown hK hP 0 (by decide) cF_0 rfl 0 (by decide) kf9 (fun _ h9 => h9) rfl dX6_pourDrops_50 ?_
        refine lv_iload_n hx hb dX6_pourDrops_53 rfl (lv_at hl 1 rfl) ?_
        refine mw_ild hx hb hK hP 1 (by decide) 0 cF_1 rfl v (by omega) (by decide) rfl dX6_pourDrops_54 ?_
        refine lv_iadd hx hb dX6_pourDrops_55 ?_
        refine lv_sipush (v := 1000) hx hb dX6_pourDrops_56 (by decide) ?_
        refine lv_icmp_le (tgt := 71) hx hb dX6_pourDrops_59 (by decide) (fun c_4 => ?_) (fun c_4 => ?_)
        · skip
          refine lv_aload_n hx hb dX6_pourDrops_71 rfl (lv_at hl 0 rfl) ?_
          refine mw_get (ci := 5) (C := RX6) (T := TX6) (N := 7) (v := .ref (ad 1)) hx hb hts hinX6 hown hK hP 0 (by decide) cF_0 rfl 0 (by decide) kf9 (fun _ h9 => h9) rfl dX6_pourDrops_72 ?_
          refine lv_iload_n hx hb dX6_pourDrops_75 rfl (lv_at hl 2 rfl) ?_
          refine lv_dup2_11 hx hb dX6_pourDrops_76 rfl rfl ?_
          refine mw_ild hx hb hK hP 1 (by decide) 0 cF_1 rfl t (by omega) (by decide) rfl dX6_pourDrops_77 ?_
          refine lv_aload_n hx hb dX6_pourDrops_78 rfl (lv_at hl 0 rfl) ?_
          refine mw_get (ci := 5) (C := RX6) (T := TX6) (N := 7) (v := .ref (ad 1)) hx hb hts hinX6 hown hK hP 0 (by decide) cF_0 rfl 0 (by decide) kf9 (fun _ h9 => h9) rfl dX6_pourDrops_79 ?_
          refine lv_iload_n hx hb dX6_pourDrops_82 rfl (lv_at hl 1 rfl) ?_
          refine mw_ild hx hb hK hP 1 (by decide) 0 cF_1 rfl v (by omega) (by decide) rfl dX6_pourDrops_83 ?_
          refine lv_iadd hx hb dX6_pourDrops_84 ?_
          refine mw_ist hx hb hK hj hP hS 1 (by decide) 0 cF_1 rfl t (by omega) (by decide) rfl dX6_pourDrops_85 (fun H locs hP hS => ?_)
          refine lv_aload_n hx hb dX6_pourDrops_86 rfl (lv_at hl 0 rfl) ?_
          refine mw_get (ci := 5) (C := RX6) (T := TX6) (N := 7) (v := .ref (ad 1)) hx hb hts hinX6 hown hK hP 0 (by decide) cF_0 rfl 0 (by decide) kf9 (fun _ h9 => h9) rfl dX6_pourDrops_87 ?_
          refine lv_iload_n hx hb dX6_pourDrops_90 rfl (lv_at hl 1 rfl) ?_
          refine lv_iconst (v := 0) hx hb dX6_pourDrops_91 (by decide) ?_
          refine mw_ist hx hb hK hj hP hS 1 (by decide) 0 cF_1 rfl v (by omega) (by decide) rfl dX6_pourDrops_92 (fun H locs hP hS => ?_)
          refine g_way hx hb h0 hS hown 0 (by decide) rfl kf145 dX6_pourDrops_93 ?_
          exact g_aret hx hb hr hlocks hP hS dX6_pourDrops_96 (by unfold cPour; rw [if_pos c_1, if_neg c_2, if_neg c_3, if_pos c_4] <;> rfl)
        · skip
          refine lv_aload_n hx hb dX6_pourDrops_62 rfl (lv_at hl 0 rfl) ?_
          refine mw_get (ci := 5) (C := RX6) (T := TX6) (N := 7) (v := .ref (ad 7)) hx hb hts hinX6 hown hK hP 0 (by decide) cF_0 rfl 5 (by decide) kf38 (fun _ h9 => h9) rfl dX6_pourDrops_63 ?_
          refine lv_iconst (v := 1) hx hb dX6_pourDrops_66 (by decide) ?_
          refine g_callV (As := [.int 1]) (rest := []) (N := 7) (T := TX1) (ci := 1) ⟨hx, hb, hml, hown, hts⟩ 7 (c_fail l D cy ad wy mt hj σ 1) (cwV 1 hts gX6_pourDrops_X1_fail rfl rfl rfl (by decide +kernel) ⟨by decide, by decide⟩) h0 hP hS (by decide) cF_7 rfl rfl rfl hl.1 (Nat.le_of_ble_eq_true rfl) dX6_pourDrops_67 ⟨Nat.zero_le _, Nat.zero_le _⟩ (fun H locs hP hS => ?_)
          exact g_aret hx hb hr hlocks hP hS dX6_pourDrops_70 (by unfold cPour; rw [if_pos c_1, if_neg c_2, if_neg c_3, if_neg c_4] <;> rfl)
      · skip
        refine g_way hx hb h0 hS hown 0 (by decide) rfl kf145 dX6_pourDrops_39 ?_
        exact g_aret hx hb hr hlocks hP hS dX6_pourDrops_42 (by unfold cPour; rw [if_pos c_1, if_neg c_2, if_pos c_3] <;> rfl)
    · skip
      refine lv_aload_n hx hb dX6_pourDrops_25 rfl (lv_at hl 0 rfl) ?_
      refine mw_get (ci := 5) (C := RX6) (T := TX6) (N := 7) (v := .ref (ad 7)) hx hb hts hinX6 hown hK hP 0 (by decide) cF_0 rfl 5 (by decide) kf38 (fun _ h9 => h9) rfl dX6_pourDrops_26 ?_
      refine lv_iconst (v := 5) hx hb dX6_pourDrops_29 (by decide) ?_
      refine g_callV (As := [.int 5]) (rest := []) (N := 7) (T := TX1) (ci := 1) ⟨hx, hb, hml, hown, hts⟩ 7 (c_fail l D cy ad wy mt hj σ 5) (cwV 1 hts gX6_pourDrops_X1_fail rfl rfl rfl (by decide +kernel) ⟨by decide, by decide⟩) h0 hP hS (by decide) cF_7 rfl rfl rfl hl.1 (Nat.le_of_ble_eq_true rfl) dX6_pourDrops_30 ⟨Nat.zero_le _, Nat.zero_le _⟩ (fun H locs hP hS => ?_)
      exact g_aret hx hb hr hlocks hP hS dX6_pourDrops_33 (by unfold cPour; rw [if_pos c_1, if_pos c_2] <;> rfl)
  · skip
    refine lv_aload_n hx hb dX6_pourDrops_6 rfl (lv_at hl 0 rfl) ?_
    refine mw_get (ci := 5) (C := RX6) (T := TX6) (N := 7) (v := .ref (ad 7)) hx hb hts hinX6 hown hK hP 0 (by decide) cF_0 rfl 5 (by decide) kf38 (fun _ h9 => h9) rfl dX6_pourDrops_7 ?_
    refine lv_iconst (v := 4) hx hb dX6_pourDrops_10 (by decide) ?_
    refine g_callV (As := [.int 4]) (rest := []) (N := 7) (T := TX1) (ci := 1) ⟨hx, hb, hml, hown, hts⟩ 7 (c_fail l D cy ad wy mt hj σ 4) (cwV 1 hts gX6_pourDrops_X1_fail rfl rfl rfl (by decide +kernel) ⟨by decide, by decide⟩) h0 hP hS (by decide) cF_7 rfl rfl rfl hl.1 (Nat.le_of_ble_eq_true rfl) dX6_pourDrops_11 ⟨Nat.zero_le _, Nat.zero_le _⟩ (fun H locs hP hS => ?_)
    exact g_aret hx hb hr hlocks hP hS dX6_pourDrops_14 (by unfold cPour; rw [if_neg c_1] <;> rfl)

def cUse (σ : Mem) (t : Nat) : Nat × Mem :=
  if nI t < 6 then (if σ (20 + t) 0 = (-1) then cFail σ 5
    else (0, mset σ (20 + t) 1 ((σ (20 + t) 1) + 1)))
  else cFail σ 4
set_option maxHeartbeats 4000000 in
set_option maxRecDepth 100000 in
theorem c_useTool (l : Launch) (D : va_G) (cy : Nat → ClassId) (ad wy : Nat → Nat) (mt : Nat) (hj : mJ 98 ad) (σ : Mem) (t : Nat) (ht : t ≤ 200)  : Met l yX6_useTool wsX6_useTool ({ frames := 1, cells := 0, slots := 0, locals := 22 }) (va_Pc [.ref (ad 0), .int (nI t)] (gPre 98 ad (cF ad cy) D cy wy mt σ)) (gQ 98 ad (cF ad cy) D (some (.ref (wy (cUse σ t).1))) (cUse σ t).2) 0 0 (mA 98 ad) := by
  refine g_met (cc := cX6_useTool) (maxL := 2) (ret := (some (.object "BenchRuns$Way"))) (by decide) rfl (Nat.le_of_ble_eq_true rfl) ?_
  intro p e s m below meth c S hr hlocks h0 ls hl
  obtain ⟨hx, hb, hml, hown, hts⟩ := S
  have hP := h0.1
  have hK := h0.2.1
  have hS : va_S (mA 98 ad) s.heap s.heap [] := va_S.rf
  have hl : lv_has ls 2 [(0, .ref (ad 0)), (1, .int (nI t))] := hl
  have kf21 : (Cond.fieldLink RX6 21 "BenchRuns" "tools" "[LBenchRuns$Tool;").before (#[.ref (ad 0), .int (nI t)] : Array Value) s = true := hts _ (by decide +kernel)
  have hinX6 : ∀ w ∈ u_ws RX6 TX6 7, w ∈ wsX6_useTool := by decide +kernel
  have kf79 : (Cond.fieldLink RX6 79 "BenchRuns$Tool" "sort" "I").before (#[.ref (ad 0), .int (nI t)] : Array Value) s = true := hts _ (by decide +kernel)
  have hinX4 : ∀ w ∈ u_ws RX4 TX4 3, w ∈ wsX6_useTool := by decide +kernel
  have kf86 : (Cond.fieldLink RX6 86 "BenchRuns$Tool" "uses" "I").before (#[.ref (ad 0), .int (nI t)] : Array Value) s = true := hts _ (by decide +kernel)
  have kf145 : (Cond.fieldLink RX6 145 "BenchRuns$Way" "ONWARD" "LBenchRuns$Way;").before (#[.ref (ad 0), .int (nI t)] : Array Value) s = true := hts _ (by decide +kernel)
  have kf38 : (Cond.fieldLink RX6 38 "BenchRuns" "log" "LBenchRuns$Log;").before (#[.ref (ad 0), .int (nI t)] : Array Value) s = true := hts _ (by decide +kernel)
  refine lv_iload_n hx hb dX6_useTool_0 rfl (lv_at hl 1 rfl) ?_
  refine lv_bipush (v := 6) hx hb dX6_useTool_1 (by decide) ?_
  refine lv_icmp_lt (tgt := 15) hx hb dX6_useTool_3 (by decide) (fun c_1 => ?_) (fun c_1 => ?_)
  · skip
    have ht6 : t < 6 := (nI_ltI (by omega) (by decide)).mp c_1
    refine lv_aload_n hx hb dX6_useTool_15 rfl (lv_at hl 0 rfl) ?_
    refine mw_get (ci := 5) (C := RX6) (T := TX6) (N := 7) (v := .ref (ad 3)) hx hb hts hinX6 hown hK hP 0 (by decide) cF_0 rfl 2 (by decide) kf21 (fun _ h9 => h9) rfl dX6_useTool_16 ?_
    refine lv_iload_n hx hb dX6_useTool_19 rfl (lv_at hl 1 rfl) ?_
    have ha_2 : t < 6 := (by omega)
    refine mw_ald (f := fun q => ad (20 + q)) hx hb hK hP 3 (by decide) 4 cF_3 rfl t ha_2 (by decide) rfl dX6_useTool_20 ?_
    refine mw_get (ci := 4) (C := RX4) (T := TX4) (N := 3) (v := .int (σ (20 + t) 0)) hx hb hts hinX4 hown hK hP (20 + t) (cB_tool ha_2) (cF_tool ha_2) rfl 0 (by decide) kf79 (fun _ h9 => h9) rfl dX6_useTool_21 ?_
    refine lv_iconst (v := (-1)) hx hb dX6_useTool_24 (by decide) ?_
    refine lv_icmp_ne (tgt := 37) hx hb dX6_useTool_25 (by decide) (fun c_3 => ?_) (fun c_3 => ?_)
    · skip
      refine lv_aload_n hx hb dX6_useTool_37 rfl (lv_at hl 0 rfl) ?_
      refine mw_get (ci := 5) (C := RX6) (T := TX6) (N := 7) (v := .ref (ad 3)) hx hb hts hinX6 hown hK hP 0 (by decide) cF_0 rfl 2 (by decide) kf21 (fun _ h9 => h9) rfl dX6_useTool_38 ?_
      refine lv_iload_n hx hb dX6_useTool_41 rfl (lv_at hl 1 rfl) ?_
      have ha_4 : t < 6 := (by omega)
      refine mw_ald (f := fun q => ad (20 + q)) hx hb hK hP 3 (by decide) 4 cF_3 rfl t ha_4 (by decide) rfl dX6_useTool_42 ?_
      refine lv_dup hx hb dX6_useTool_43 rfl ?_
      refine mw_get (ci := 4) (C := RX4) (T := TX4) (N := 3) (v := .int (σ (20 + t) 1)) hx hb hts hinX4 hown hK hP (20 + t) (cB_tool ha_4) (cF_tool ha_4) rfl 1 (by decide) kf86 (fun _ h9 => h9) rfl dX6_useTool_44 ?_
      refine lv_iconst (v := 1) hx hb dX6_useTool_47 (by decide) ?_
      refine lv_iadd hx hb dX6_useTool_48 ?_
      refine mw_put (ci := 4) (C := RX4) (T := TX4) (N := 3) (v := (σ (20 + t) 1) + 1) (ty := .int) hx hb hts hinX4 tyX4 tyX4_ok nmX4 hown hK hj hP hS (20 + t) (cB_tool ha_4) (cF_tool ha_4) rfl 1 (by decide) kf86 (fun _ h9 => h9) rfl (by decide +kernel) rfl rfl (Nat.le_of_ble_eq_true rfl) rfl dX6_useTool_49 (fun H locs hP hS => ?_)
      refine g_way hx hb h0 hS hown 0 (by decide) rfl kf145 dX6_useTool_52 ?_
      exact g_aret hx hb hr hlocks hP hS dX6_useTool_55 (by unfold cUse; rw [if_pos c_1, if_neg c_3] <;> rfl)
    · skip
      refine lv_aload_n hx hb dX6_useTool_28 rfl (lv_at hl 0 rfl) ?_
      refine mw_get (ci := 5) (C := RX6) (T := TX6) (N := 7) (v := .ref (ad 7)) hx hb hts hinX6 hown hK hP 0 (by decide) cF_0 rfl 5 (by decide) kf38 (fun _ h9 => h9) rfl dX6_useTool_29 ?_
      refine lv_iconst (v := 5) hx hb dX6_useTool_32 (by decide) ?_
      refine g_callV (As := [.int 5]) (rest := []) (N := 7) (T := TX1) (ci := 1) ⟨hx, hb, hml, hown, hts⟩ 7 (c_fail l D cy ad wy mt hj σ 5) (cwV 1 hts gX6_useTool_X1_fail rfl rfl rfl (by decide +kernel) ⟨by decide, by decide⟩) h0 hP hS (by decide) cF_7 rfl rfl rfl hl.1 (Nat.le_of_ble_eq_true rfl) dX6_useTool_33 ⟨Nat.zero_le _, Nat.zero_le _⟩ (fun H locs hP hS => ?_)
      exact g_aret hx hb hr hlocks hP hS dX6_useTool_36 (by unfold cUse; rw [if_pos c_1, if_pos c_3] <;> rfl)
  · skip
    refine lv_aload_n hx hb dX6_useTool_6 rfl (lv_at hl 0 rfl) ?_
    refine mw_get (ci := 5) (C := RX6) (T := TX6) (N := 7) (v := .ref (ad 7)) hx hb hts hinX6 hown hK hP 0 (by decide) cF_0 rfl 5 (by decide) kf38 (fun _ h9 => h9) rfl dX6_useTool_7 ?_
    refine lv_iconst (v := 4) hx hb dX6_useTool_10 (by decide) ?_
    refine g_callV (As := [.int 4]) (rest := []) (N := 7) (T := TX1) (ci := 1) ⟨hx, hb, hml, hown, hts⟩ 7 (c_fail l D cy ad wy mt hj σ 4) (cwV 1 hts gX6_useTool_X1_fail rfl rfl rfl (by decide +kernel) ⟨by decide, by decide⟩) h0 hP hS (by decide) cF_7 rfl rfl rfl hl.1 (Nat.le_of_ble_eq_true rfl) dX6_useTool_11 ⟨Nat.zero_le _, Nat.zero_le _⟩ (fun H locs hP hS => ?_)
    exact g_aret hx hb hr hlocks hP hS dX6_useTool_14 (by unfold cUse; rw [if_neg c_1] <;> rfl)

def cGrip (σ : Mem) (t : Nat) (n : Int32) : Nat × Mem :=
  if nI t < 6 then (if σ (20 + t) 0 = 1 then cFail σ 7
    else if σ (20 + t) 0 = (-1) then cFail σ 5
    else (0, mset σ (20 + t) 2 ((σ (20 + t) 2) + n)))
  else cFail σ 4
set_option maxHeartbeats 4000000 in
set_option maxRecDepth 100000 in
theorem c_gripTool (l : Launch) (D : va_G) (cy : Nat → ClassId) (ad wy : Nat → Nat) (mt : Nat) (hj : mJ 98 ad) (σ : Mem) (t : Nat) (ht : t ≤ 200) (n : Int32)  : Met l yX6_gripTool wsX6_gripTool ({ frames := 1, cells := 0, slots := 0, locals := 22 }) (va_Pc [.ref (ad 0), .int (nI t), .int n] (gPre 98 ad (cF ad cy) D cy wy mt σ)) (gQ 98 ad (cF ad cy) D (some (.ref (wy (cGrip σ t n).1))) (cGrip σ t n).2) 0 0 (mA 98 ad) := by
  refine g_met (cc := cX6_gripTool) (maxL := 3) (ret := (some (.object "BenchRuns$Way"))) (by decide) rfl (Nat.le_of_ble_eq_true rfl) ?_
  intro p e s m below meth c S hr hlocks h0 ls hl
  obtain ⟨hx, hb, hml, hown, hts⟩ := S
  have hP := h0.1
  have hK := h0.2.1
  have hS : va_S (mA 98 ad) s.heap s.heap [] := va_S.rf
  have hl : lv_has ls 3 [(0, .ref (ad 0)), (1, .int (nI t)), (2, .int n)] := hl
  have kf21 : (Cond.fieldLink RX6 21 "BenchRuns" "tools" "[LBenchRuns$Tool;").before (#[.ref (ad 0), .int (nI t), .int n] : Array Value) s = true := hts _ (by decide +kernel)
  have hinX6 : ∀ w ∈ u_ws RX6 TX6 7, w ∈ wsX6_gripTool := by decide +kernel
  have kf79 : (Cond.fieldLink RX6 79 "BenchRuns$Tool" "sort" "I").before (#[.ref (ad 0), .int (nI t), .int n] : Array Value) s = true := hts _ (by decide +kernel)
  have hinX4 : ∀ w ∈ u_ws RX4 TX4 3, w ∈ wsX6_gripTool := by decide +kernel
  have kf83 : (Cond.fieldLink RX6 83 "BenchRuns$Tool" "grip" "I").before (#[.ref (ad 0), .int (nI t), .int n] : Array Value) s = true := hts _ (by decide +kernel)
  have kf145 : (Cond.fieldLink RX6 145 "BenchRuns$Way" "ONWARD" "LBenchRuns$Way;").before (#[.ref (ad 0), .int (nI t), .int n] : Array Value) s = true := hts _ (by decide +kernel)
  have kf38 : (Cond.fieldLink RX6 38 "BenchRuns" "log" "LBenchRuns$Log;").before (#[.ref (ad 0), .int (nI t), .int n] : Array Value) s = true := hts _ (by decide +kernel)
  refine lv_iload_n hx hb dX6_gripTool_0 rfl (lv_at hl 1 rfl) ?_
  refine lv_bipush (v := 6) hx hb dX6_gripTool_1 (by decide) ?_
  refine lv_icmp_lt (tgt := 15) hx hb dX6_gripTool_3 (by decide) (fun c_1 => ?_) (fun c_1 => ?_)
  · skip
    have ht6 : t < 6 := (nI_ltI (by omega) (by decide)).mp c_1
    refine lv_aload_n hx hb dX6_gripTool_15 rfl (lv_at hl 0 rfl) ?_
    refine mw_get (ci := 5) (C := RX6) (T := TX6) (N := 7) (v := .ref (ad 3)) hx hb hts hinX6 hown hK hP 0 (by decide) cF_0 rfl 2 (by decide) kf21 (fun _ h9 => h9) rfl dX6_gripTool_16 ?_
    refine lv_iload_n hx hb dX6_gripTool_19 rfl (lv_at hl 1 rfl) ?_
    have ha_2 : t < 6 := (by omega)
    refine mw_ald (f := fun q => ad (20 + q)) hx hb hK hP 3 (by decide) 4 cF_3 rfl t ha_2 (by decide) rfl dX6_gripTool_20 ?_
    refine mw_get (ci := 4) (C := RX4) (T := TX4) (N := 3) (v := .int (σ (20 + t) 0)) hx hb hts hinX4 hown hK hP (20 + t) (cB_tool ha_2) (cF_tool ha_2) rfl 0 (by decide) kf79 (fun _ h9 => h9) rfl dX6_gripTool_21 ?_
    refine lv_iconst (v := 1) hx hb dX6_gripTool_24 (by decide) ?_
    refine lv_icmp_ne (tgt := 38) hx hb dX6_gripTool_25 (by decide) (fun c_3 => ?_) (fun c_3 => ?_)
    · skip
      refine lv_aload_n hx hb dX6_gripTool_38 rfl (lv_at hl 0 rfl) ?_
      refine mw_get (ci := 5) (C := RX6) (T := TX6) (N := 7) (v := .ref (ad 3)) hx hb hts hinX6 hown hK hP 0 (by decide) cF_0 rfl 2 (by decide) kf21 (fun _ h9 => h9) rfl dX6_gripTool_39 ?_
      refine lv_iload_n hx hb dX6_gripTool_42 rfl (lv_at hl 1 rfl) ?_
      have ha_4 : t < 6 := (by omega)
      refine mw_ald (f := fun q => ad (20 + q)) hx hb hK hP 3 (by decide) 4 cF_3 rfl t ha_4 (by decide) rfl dX6_gripTool_43 ?_
      refine mw_get (ci := 4) (C := RX4) (T := TX4) (N := 3) (v := .int (σ (20 + t) 0)) hx hb hts hinX4 hown hK hP (20 + t) (cB_tool ha_4) (cF_tool ha_4) rfl 0 (by decide) kf79 (fun _ h9 => h9) rfl dX6_gripTool_44 ?_
      refine lv_iconst (v := (-1)) hx hb dX6_gripTool_47 (by decide) ?_
      refine lv_icmp_ne (tgt := 60) hx hb dX6_gripTool_48 (by decide) (fun c_5 => ?_) (fun c_5 => ?_)
      · skip
        refine lv_aload_n hx hb dX6_gripTool_60 rfl (lv_at hl 0 rfl) ?_
        refine mw_get (ci := 5) (C := RX6) (T := TX6) (N := 7) (v := .ref (ad 3)) hx hb hts hinX6 hown hK hP 0 (by decide) cF_0 rfl 2 (by decide) kf21 (fun _ h9 => h9) rfl dX6_gripTool_61 ?_
        refine lv_iload_n hx hb dX6_gripTool_64 rfl (lv_at hl 1 rfl) ?_
        have ha_6 : t < 6 := (by omega)
        refine mw_ald (f := fun q => ad (20 + q)) hx hb hK hP 3 (by decide) 4 cF_3 rfl t ha_6 (by decide) rfl dX6_gripTool_65 ?_
        refine lv_dup hx hb dX6_gripTool_66 rfl ?_
        refine mw_get (ci := 4) (C := RX4) (T := TX4) (N := 3) (v := .int (σ (20 + t) 2)) hx hb hts hinX4 hown hK hP (20 + t) (cB_tool ha_6) (cF_tool ha_6) rfl 2 (by decide) kf83 (fun _ h9 => h9) rfl dX6_gripTool_67 ?_
        refine lv_iload_n hx hb dX6_gripTool_70 rfl (lv_at hl 2 rfl) ?_
        refine lv_iadd hx hb dX6_gripTool_71 ?_
        refine mw_put (ci := 4) (C := RX4) (T := TX4) (N := 3) (v := (σ (20 + t) 2) + n) (ty := .int) hx hb hts hinX4 tyX4 tyX4_ok nmX4 hown hK hj hP hS (20 + t) (cB_tool ha_6) (cF_tool ha_6) rfl 2 (by decide) kf83 (fun _ h9 => h9) rfl (by decide +kernel) rfl rfl (Nat.le_of_ble_eq_true rfl) rfl dX6_gripTool_72 (fun H locs hP hS => ?_)
        refine g_way hx hb h0 hS hown 0 (by decide) rfl kf145 dX6_gripTool_75 ?_
        exact g_aret hx hb hr hlocks hP hS dX6_gripTool_78 (by unfold cGrip; rw [if_pos c_1, if_neg c_3, if_neg c_5] <;> rfl)
      · skip
        refine lv_aload_n hx hb dX6_gripTool_51 rfl (lv_at hl 0 rfl) ?_
        refine mw_get (ci := 5) (C := RX6) (T := TX6) (N := 7) (v := .ref (ad 7)) hx hb hts hinX6 hown hK hP 0 (by decide) cF_0 rfl 5 (by decide) kf38 (fun _ h9 => h9) rfl dX6_gripTool_52 ?_
        refine lv_iconst (v := 5) hx hb dX6_gripTool_55 (by decide) ?_
        refine g_callV (As := [.int 5]) (rest := []) (N := 7) (T := TX1) (ci := 1) ⟨hx, hb, hml, hown, hts⟩ 7 (c_fail l D cy ad wy mt hj σ 5) (cwV 1 hts gX6_gripTool_X1_fail rfl rfl rfl (by decide +kernel) ⟨by decide, by decide⟩) h0 hP hS (by decide) cF_7 rfl rfl rfl hl.1 (Nat.le_of_ble_eq_true rfl) dX6_gripTool_56 ⟨Nat.zero_le _, Nat.zero_le _⟩ (fun H locs hP hS => ?_)
        exact g_aret hx hb hr hlocks hP hS dX6_gripTool_59 (by unfold cGrip; rw [if_pos c_1, if_neg c_3, if_pos c_5] <;> rfl)
    · skip
      refine lv_aload_n hx hb dX6_gripTool_28 rfl (lv_at hl 0 rfl) ?_
      refine mw_get (ci := 5) (C := RX6) (T := TX6) (N := 7) (v := .ref (ad 7)) hx hb hts hinX6 hown hK hP 0 (by decide) cF_0 rfl 5 (by decide) kf38 (fun _ h9 => h9) rfl dX6_gripTool_29 ?_
      refine lv_bipush (v := 7) hx hb dX6_gripTool_32 (by decide) ?_
      refine g_callV (As := [.int 7]) (rest := []) (N := 7) (T := TX1) (ci := 1) ⟨hx, hb, hml, hown, hts⟩ 7 (c_fail l D cy ad wy mt hj σ 7) (cwV 1 hts gX6_gripTool_X1_fail rfl rfl rfl (by decide +kernel) ⟨by decide, by decide⟩) h0 hP hS (by decide) cF_7 rfl rfl rfl hl.1 (Nat.le_of_ble_eq_true rfl) dX6_gripTool_34 ⟨Nat.zero_le _, Nat.zero_le _⟩ (fun H locs hP hS => ?_)
      exact g_aret hx hb hr hlocks hP hS dX6_gripTool_37 (by unfold cGrip; rw [if_pos c_1, if_pos c_3] <;> rfl)
  · skip
    refine lv_aload_n hx hb dX6_gripTool_6 rfl (lv_at hl 0 rfl) ?_
    refine mw_get (ci := 5) (C := RX6) (T := TX6) (N := 7) (v := .ref (ad 7)) hx hb hts hinX6 hown hK hP 0 (by decide) cF_0 rfl 5 (by decide) kf38 (fun _ h9 => h9) rfl dX6_gripTool_7 ?_
    refine lv_iconst (v := 4) hx hb dX6_gripTool_10 (by decide) ?_
    refine g_callV (As := [.int 4]) (rest := []) (N := 7) (T := TX1) (ci := 1) ⟨hx, hb, hml, hown, hts⟩ 7 (c_fail l D cy ad wy mt hj σ 4) (cwV 1 hts gX6_gripTool_X1_fail rfl rfl rfl (by decide +kernel) ⟨by decide, by decide⟩) h0 hP hS (by decide) cF_7 rfl rfl rfl hl.1 (Nat.le_of_ble_eq_true rfl) dX6_gripTool_11 ⟨Nat.zero_le _, Nat.zero_le _⟩ (fun H locs hP hS => ?_)
    exact g_aret hx hb hr hlocks hP hS dX6_gripTool_14 (by unfold cGrip; rw [if_neg c_1] <;> rfl)

def cPut (σ : Mem) (t pl : Nat) : Nat × Mem :=
  if nI t < 6 then (if σ 5 2 = (-4) then cFail σ 5
    else if nI pl < σ 5 2 then (if cBoxTakes σ (σ (20 + t) 0) = 0 then cFail σ 8
      else if σ (20 + t) 0 = (-1) then (0, mset σ 6 pl (-4))
      else (0, mset σ 6 pl (nI t)))
    else cFail σ 4)
  else cFail σ 4
set_option maxHeartbeats 4000000 in
set_option maxRecDepth 100000 in
theorem c_putTool (l : Launch) (D : va_G) (cy : Nat → ClassId) (ad wy : Nat → Nat) (mt : Nat) (hj : mJ 98 ad) (σ : Mem) (t pl : Nat) (ht : t ≤ 200) (hpl : pl ≤ 200) (hbx : nI pl < σ 5 2 → pl < 18) : Met l yX6_putTool wsX6_putTool ({ frames := 1, cells := 0, slots := 0, locals := 22 }) (va_Pc [.ref (ad 0), .int (nI t), .int (nI pl)] (gPre 98 ad (cF ad cy) D cy wy mt σ)) (gQ 98 ad (cF ad cy) D (some (.ref (wy (cPut σ t pl).1))) (cPut σ t pl).2) 0 0 (mA 98 ad) := by
  refine g_met (cc := cX6_putTool) (maxL := 4) (ret := (some (.object "BenchRuns$Way"))) (by decide) rfl (Nat.le_of_ble_eq_true rfl) ?_
  intro p e s m below meth c S hr hlocks h0 ls hl
  obtain ⟨hx, hb, hml, hown, hts⟩ := S
  have hP := h0.1
  have hK := h0.2.1
  have hS : va_S (mA 98 ad) s.heap s.heap [] := va_S.rf
  have hl : lv_has ls 4 [(0, .ref (ad 0)), (1, .int (nI t)), (2, .int (nI pl))] := hl
  have kf31 : (Cond.fieldLink RX6 31 "BenchRuns" "stock" "LBenchRuns$Stock;").before (#[.ref (ad 0), .int (nI t), .int (nI pl)] : Array Value) s = true := hts _ (by decide +kernel)
  have hinX6 : ∀ w ∈ u_ws RX6 TX6 7, w ∈ wsX6_putTool := by decide +kernel
  have kf92 : (Cond.fieldLink RX6 92 "BenchRuns$Stock" "boxSize" "I").before (#[.ref (ad 0), .int (nI t), .int (nI pl)] : Array Value) s = true := hts _ (by decide +kernel)
  have hinX3 : ∀ w ∈ u_ws RX3 TX3 6, w ∈ wsX6_putTool := by decide +kernel
  have kf21 : (Cond.fieldLink RX6 21 "BenchRuns" "tools" "[LBenchRuns$Tool;").before (#[.ref (ad 0), .int (nI t), .int (nI pl)] : Array Value) s = true := hts _ (by decide +kernel)
  have kf79 : (Cond.fieldLink RX6 79 "BenchRuns$Tool" "sort" "I").before (#[.ref (ad 0), .int (nI t), .int (nI pl)] : Array Value) s = true := hts _ (by decide +kernel)
  have hinX4 : ∀ w ∈ u_ws RX4 TX4 3, w ∈ wsX6_putTool := by decide +kernel
  have kf95 : (Cond.fieldLink RX6 95 "BenchRuns$Stock" "boxTools" "[I").before (#[.ref (ad 0), .int (nI t), .int (nI pl)] : Array Value) s = true := hts _ (by decide +kernel)
  have kf145 : (Cond.fieldLink RX6 145 "BenchRuns$Way" "ONWARD" "LBenchRuns$Way;").before (#[.ref (ad 0), .int (nI t), .int (nI pl)] : Array Value) s = true := hts _ (by decide +kernel)
  have kf38 : (Cond.fieldLink RX6 38 "BenchRuns" "log" "LBenchRuns$Log;").before (#[.ref (ad 0), .int (nI t), .int (nI pl)] : Array Value) s = true := hts _ (by decide +kernel)
  refine lv_iload_n hx hb dX6_putTool_0 rfl (lv_at hl 1 rfl) ?_
  refine lv_bipush (v := 6) hx hb dX6_putTool_1 (by decide) ?_
  refine lv_icmp_lt (tgt := 15) hx hb dX6_putTool_3 (by decide) (fun c_1 => ?_) (fun c_1 => ?_)
  · skip
    have ht6 : t < 6 := (nI_ltI (by omega) (by decide)).mp c_1
    refine lv_aload_n hx hb dX6_putTool_15 rfl (lv_at hl 0 rfl) ?_
    refine mw_get (ci := 5) (C := RX6) (T := TX6) (N := 7) (v := .ref (ad 5)) hx hb hts hinX6 hown hK hP 0 (by decide) cF_0 rfl 4 (by decide) kf31 (fun _ h9 => h9) rfl dX6_putTool_16 ?_
    refine mw_get (ci := 3) (C := RX3) (T := TX3) (N := 6) (v := .int (σ 5 2)) hx hb hts hinX3 hown hK hP 5 (by decide) cF_5 rfl 2 (by decide) kf92 (fun _ h9 => h9) rfl dX6_putTool_19 ?_
    refine lv_bipush (v := (-4)) hx hb dX6_putTool_22 (by decide) ?_
    refine lv_icmp_ne (tgt := 36) hx hb dX6_putTool_24 (by decide) (fun c_2 => ?_) (fun c_2 => ?_)
    · skip
      refine lv_iload_n hx hb dX6_putTool_36 rfl (lv_at hl 2 rfl) ?_
      refine lv_aload_n hx hb dX6_putTool_37 rfl (lv_at hl 0 rfl) ?_
      refine mw_get (ci := 5) (C := RX6) (T := TX6) (N := 7) (v := .ref (ad 5)) hx hb hts hinX6 hown hK hP 0 (by decide) cF_0 rfl 4 (by decide) kf31 (fun _ h9 => h9) rfl dX6_putTool_38 ?_
      refine mw_get (ci := 3) (C := RX3) (T := TX3) (N := 6) (v := .int (σ 5 2)) hx hb hts hinX3 hown hK hP 5 (by decide) cF_5 rfl 2 (by decide) kf92 (fun _ h9 => h9) rfl dX6_putTool_41 ?_
      refine lv_icmp_lt (tgt := 56) hx hb dX6_putTool_44 (by decide) (fun c_3 => ?_) (fun c_3 => ?_)
      · skip
        have hp18 : pl < 18 := hbx c_3
        refine lv_aload_n hx hb dX6_putTool_56 rfl (lv_at hl 0 rfl) ?_
        refine mw_get (ci := 5) (C := RX6) (T := TX6) (N := 7) (v := .ref (ad 3)) hx hb hts hinX6 hown hK hP 0 (by decide) cF_0 rfl 2 (by decide) kf21 (fun _ h9 => h9) rfl dX6_putTool_57 ?_
        refine lv_iload_n hx hb dX6_putTool_60 rfl (lv_at hl 1 rfl) ?_
        have ha_4 : t < 6 := (by omega)
        refine mw_ald (f := fun q => ad (20 + q)) hx hb hK hP 3 (by decide) 4 cF_3 rfl t ha_4 (by decide) rfl dX6_putTool_61 ?_
        refine mw_get (ci := 4) (C := RX4) (T := TX4) (N := 3) (v := .int (σ (20 + t) 0)) hx hb hts hinX4 hown hK hP (20 + t) (cB_tool ha_4) (cF_tool ha_4) rfl 0 (by decide) kf79 (fun _ h9 => h9) rfl dX6_putTool_62 ?_
        refine lv_istore_n (lv' := [(3, .int (σ (20 + t) 0)), (0, .ref (ad 0)), (1, .int (nI t)), (2, .int (nI pl))]) hx hb dX6_putTool_65 rfl hl (by decide) rfl (fun ls hl => ?_)
        refine lv_aload_n hx hb dX6_putTool_66 rfl (lv_at hl 1 rfl) ?_
        refine mw_get (ci := 5) (C := RX6) (T := TX6) (N := 7) (v := .ref (ad 5)) hx hb hts hinX6 hown hK hP 0 (by decide) cF_0 rfl 4 (by decide) kf31 (fun _ h9 => h9) rfl dX6_putTool_67 ?_
        refine lv_iload_n hx hb dX6_putTool_70 rfl (lv_at hl 0 rfl) ?_
        refine g_callV (As := [.int (σ (20 + t) 0)]) (rest := []) (N := 6) (T := TX3) (ci := 3) ⟨hx, hb, hml, hown, hts⟩ 5 (c_boxTakes l D cy ad wy mt hj σ (σ (20 + t) 0)) (cwV 1 hts gX6_putTool_X3_boxTakes rfl rfl rfl (by decide +kernel) ⟨by decide, by decide⟩) h0 hP hS (by decide) cF_5 rfl rfl rfl hl.1 (Nat.le_of_ble_eq_true rfl) dX6_putTool_71 ⟨Nat.zero_le _, Nat.zero_le _⟩ (fun H locs hP hS => ?_)
        refine lv_if_ne (tgt := 87) hx hb dX6_putTool_74 (by decide) (fun c_5 => ?_) (fun c_5 => ?_)
        · skip
          refine lv_aload_n hx hb dX6_putTool_87 rfl (lv_at hl 1 rfl) ?_
          refine mw_get (ci := 5) (C := RX6) (T := TX6) (N := 7) (v := .ref (ad 5)) hx hb hts hinX6 hown hK hP 0 (by decide) cF_0 rfl 4 (by decide) kf31 (fun _ h9 => h9) rfl dX6_putTool_88 ?_
          refine mw_get (ci := 3) (C := RX3) (T := TX3) (N := 6) (v := .ref (ad 6)) hx hb hts hinX3 hown hK hP 5 (by decide) cF_5 rfl 0 (by decide) kf95 (fun _ h9 => h9) rfl dX6_putTool_91 ?_
          refine lv_iload_n hx hb dX6_putTool_94 rfl (lv_at hl 3 rfl) ?_
          refine lv_iload_n hx hb dX6_putTool_95 rfl (lv_at hl 0 rfl) ?_
          refine lv_iconst (v := (-1)) hx hb dX6_putTool_96 (by decide) ?_
          refine lv_icmp_ne (tgt := 105) hx hb dX6_putTool_97 (by decide) (fun c_6 => ?_) (fun c_6 => ?_)
          · skip
            refine lv_iload_n hx hb dX6_putTool_105 rfl (lv_at hl 2 rfl) ?_
            refine mw_ist hx hb hK hj hP hS 6 (by decide) 0 cF_6 rfl pl (by omega) (by decide) rfl dX6_putTool_106 (fun H locs hP hS => ?_)
            refine g_way hx hb h0 hS hown 0 (by decide) rfl kf145 dX6_putTool_107 ?_
            exact g_aret hx hb hr hlocks hP hS dX6_putTool_110 (by unfold cPut; rw [if_pos c_1, if_neg c_2, if_pos c_3, if_neg c_5, if_neg c_6] <;> rfl)
          · skip
            refine lv_bipush (v := (-4)) hx hb dX6_putTool_100 (by decide) ?_
            refine lv_goto (tgt := 106) hx hb dX6_putTool_102 (by decide) ?_
            refine mw_ist hx hb hK hj hP hS 6 (by decide) 0 cF_6 rfl pl (by omega) (by decide) rfl dX6_putTool_106 (fun H locs hP hS => ?_)
            refine g_way hx hb h0 hS hown 0 (by decide) rfl kf145 dX6_putTool_107 ?_
            exact g_aret hx hb hr hlocks hP hS dX6_putTool_110 (by unfold cPut; rw [if_pos c_1, if_neg c_2, if_pos c_3, if_neg c_5, if_pos c_6] <;> rfl)
        · skip
          refine lv_aload_n hx hb dX6_putTool_77 rfl (lv_at hl 1 rfl) ?_
          refine mw_get (ci := 5) (C := RX6) (T := TX6) (N := 7) (v := .ref (ad 7)) hx hb hts hinX6 hown hK hP 0 (by decide) cF_0 rfl 5 (by decide) kf38 (fun _ h9 => h9) rfl dX6_putTool_78 ?_
          refine lv_bipush (v := 8) hx hb dX6_putTool_81 (by decide) ?_
          refine g_callV (As := [.int 8]) (rest := []) (N := 7) (T := TX1) (ci := 1) ⟨hx, hb, hml, hown, hts⟩ 7 (c_fail l D cy ad wy mt hj σ 8) (cwV 1 hts gX6_putTool_X1_fail rfl rfl rfl (by decide +kernel) ⟨by decide, by decide⟩) h0 hP hS (by decide) cF_7 rfl rfl rfl hl.1 (Nat.le_of_ble_eq_true rfl) dX6_putTool_83 ⟨Nat.zero_le _, Nat.zero_le _⟩ (fun H locs hP hS => ?_)
          exact g_aret hx hb hr hlocks hP hS dX6_putTool_86 (by unfold cPut; rw [if_pos c_1, if_neg c_2, if_pos c_3, if_pos c_5] <;> rfl)
      · skip
        refine lv_aload_n hx hb dX6_putTool_47 rfl (lv_at hl 0 rfl) ?_
        refine mw_get (ci := 5) (C := RX6) (T := TX6) (N := 7) (v := .ref (ad 7)) hx hb hts hinX6 hown hK hP 0 (by decide) cF_0 rfl 5 (by decide) kf38 (fun _ h9 => h9) rfl dX6_putTool_48 ?_
        refine lv_iconst (v := 4) hx hb dX6_putTool_51 (by decide) ?_
        refine g_callV (As := [.int 4]) (rest := []) (N := 7) (T := TX1) (ci := 1) ⟨hx, hb, hml, hown, hts⟩ 7 (c_fail l D cy ad wy mt hj σ 4) (cwV 1 hts gX6_putTool_X1_fail rfl rfl rfl (by decide +kernel) ⟨by decide, by decide⟩) h0 hP hS (by decide) cF_7 rfl rfl rfl hl.1 (Nat.le_of_ble_eq_true rfl) dX6_putTool_52 ⟨Nat.zero_le _, Nat.zero_le _⟩ (fun H locs hP hS => ?_)
        exact g_aret hx hb hr hlocks hP hS dX6_putTool_55 (by unfold cPut; rw [if_pos c_1, if_neg c_2, if_neg c_3] <;> rfl)
    · skip
      refine lv_aload_n hx hb dX6_putTool_27 rfl (lv_at hl 0 rfl) ?_
      refine mw_get (ci := 5) (C := RX6) (T := TX6) (N := 7) (v := .ref (ad 7)) hx hb hts hinX6 hown hK hP 0 (by decide) cF_0 rfl 5 (by decide) kf38 (fun _ h9 => h9) rfl dX6_putTool_28 ?_
      refine lv_iconst (v := 5) hx hb dX6_putTool_31 (by decide) ?_
      refine g_callV (As := [.int 5]) (rest := []) (N := 7) (T := TX1) (ci := 1) ⟨hx, hb, hml, hown, hts⟩ 7 (c_fail l D cy ad wy mt hj σ 5) (cwV 1 hts gX6_putTool_X1_fail rfl rfl rfl (by decide +kernel) ⟨by decide, by decide⟩) h0 hP hS (by decide) cF_7 rfl rfl rfl hl.1 (Nat.le_of_ble_eq_true rfl) dX6_putTool_32 ⟨Nat.zero_le _, Nat.zero_le _⟩ (fun H locs hP hS => ?_)
      exact g_aret hx hb hr hlocks hP hS dX6_putTool_35 (by unfold cPut; rw [if_pos c_1, if_pos c_2] <;> rfl)
  · skip
    refine lv_aload_n hx hb dX6_putTool_6 rfl (lv_at hl 0 rfl) ?_
    refine mw_get (ci := 5) (C := RX6) (T := TX6) (N := 7) (v := .ref (ad 7)) hx hb hts hinX6 hown hK hP 0 (by decide) cF_0 rfl 5 (by decide) kf38 (fun _ h9 => h9) rfl dX6_putTool_7 ?_
    refine lv_iconst (v := 4) hx hb dX6_putTool_10 (by decide) ?_
    refine g_callV (As := [.int 4]) (rest := []) (N := 7) (T := TX1) (ci := 1) ⟨hx, hb, hml, hown, hts⟩ 7 (c_fail l D cy ad wy mt hj σ 4) (cwV 1 hts gX6_putTool_X1_fail rfl rfl rfl (by decide +kernel) ⟨by decide, by decide⟩) h0 hP hS (by decide) cF_7 rfl rfl rfl hl.1 (Nat.le_of_ble_eq_true rfl) dX6_putTool_11 ⟨Nat.zero_le _, Nat.zero_le _⟩ (fun H locs hP hS => ?_)
    exact g_aret hx hb hr hlocks hP hS dX6_putTool_14 (by unfold cPut; rw [if_neg c_1] <;> rfl)
