def cRound (σ : Mem) (q v : Nat) : Nat × Mem :=
  if nI v < 8 then (if σ 1 v = (-1) then cFail σ 5
    else ((cSteps q v 201 (cMark σ 3) 0 0).1, cMark ((cSteps q v 201 (cMark σ 3) 0 0).2) 4))
  else cFail σ 4
set_option maxHeartbeats 4000000 in
set_option maxRecDepth 100000 in
theorem c_doRound (l : Launch) (D : va_G) (cy : Nat → ClassId) (ad wy : Nat → Nat) (mt : Nat) (hj : mJ 98 ad) (σ : Mem) (q v : Nat) (hq : q < 24) (hv9 : v ≤ 9) (x : Nat) (hx9 : x ≤ 880) (hR : cR σ) (hO : rOK x σ) (hv3 : σ (26 + q) 3 = nI v) : Met l yX6_doRound wsX6_doRound ({ frames := 4, cells := 0, slots := 0, locals := 95 }) (va_Pc [.ref (ad 0), .ref (ad (26 + q))] (gPre 98 ad (cF ad cy) D cy wy mt σ)) (gQ 98 ad (cF ad cy) D (some (.ref (wy (cRound σ q v).1))) (cRound σ q v).2) 0 0 (mA 98 ad) := by
  refine g_met (cc := cX6_doRound) (maxL := 3) (ret := (some (.object "BenchRuns$Way"))) (by decide) rfl (Nat.le_of_ble_eq_true rfl) ?_
  intro p e s m below meth c S hr hlocks h0 ls hl
  obtain ⟨hx, hb, hml, hown, hts⟩ := S
  have hP := h0.1
  have hK := h0.2.1
  have hS : va_S (mA 98 ad) s.heap s.heap [] := va_S.rf
  have hl : lv_has ls 3 [(0, .ref (ad 0)), (1, .ref (ad (26 + q)))] := hl
  have kf171 : (Cond.fieldLink RX6 171 "BenchRuns$Round" "vial" "I").before (#[.ref (ad 0), .ref (ad (26 + q))] : Array Value) s = true := hts _ (by decide +kernel)
  have hinX2 : ∀ w ∈ u_ws RX2 TX2 4, w ∈ wsX6_doRound := by decide +kernel
  have kf9 : (Cond.fieldLink RX6 9 "BenchRuns" "vialDrops" "[I").before (#[.ref (ad 0), .ref (ad (26 + q))] : Array Value) s = true := hts _ (by decide +kernel)
  have hinX6 : ∀ w ∈ u_ws RX6 TX6 7, w ∈ wsX6_doRound := by decide +kernel
  have kf38 : (Cond.fieldLink RX6 38 "BenchRuns" "log" "LBenchRuns$Log;").before (#[.ref (ad 0), .ref (ad (26 + q))] : Array Value) s = true := hts _ (by decide +kernel)
  refine lv_aload_n hx hb dX6_doRound_0 rfl (lv_at hl 1 rfl) ?_
  refine mw_get (ci := 2) (C := RX2) (T := TX2) (N := 4) (v := .int (σ (26 + q) 3)) hx hb hts hinX2 hown hK hP (26 + q) (cB_rnd hq) (cF_rnd hq) rfl 3 (by decide) kf171 (fun _ h9 => h9) rfl dX6_doRound_1 ?_
  refine g_top (y := nI v) hv3 ?_
  refine lv_bipush (v := 8) hx hb dX6_doRound_4 (by decide) ?_
  refine lv_icmp_lt (tgt := 18) hx hb dX6_doRound_6 (by decide) (fun c_1 => ?_) (fun c_1 => ?_)
  · skip
    have hv8 : v < 8 := (nI_ltI (b := 8) (by omega) (by decide)).mp c_1
    refine lv_aload_n hx hb dX6_doRound_18 rfl (lv_at hl 0 rfl) ?_
    refine mw_get (ci := 5) (C := RX6) (T := TX6) (N := 7) (v := .ref (ad 1)) hx hb hts hinX6 hown hK hP 0 (by decide) cF_0 rfl 0 (by decide) kf9 (fun _ h9 => h9) rfl dX6_doRound_19 ?_
    refine lv_aload_n hx hb dX6_doRound_22 rfl (lv_at hl 1 rfl) ?_
    refine mw_get (ci := 2) (C := RX2) (T := TX2) (N := 4) (v := .int (σ (26 + q) 3)) hx hb hts hinX2 hown hK hP (26 + q) (cB_rnd hq) (cF_rnd hq) rfl 3 (by decide) kf171 (fun _ h9 => h9) rfl dX6_doRound_23 ?_
    refine g_top (y := nI v) hv3 ?_
    refine mw_ild hx hb hK hP 1 (by decide) 0 cF_1 rfl v (by omega) (by decide) rfl dX6_doRound_26 ?_
    refine lv_iconst (v := (-1)) hx hb dX6_doRound_27 (by decide) ?_
    refine lv_icmp_ne (tgt := 40) hx hb dX6_doRound_28 (by decide) (fun c_2 => ?_) (fun c_2 => ?_)
    · skip
      refine lv_aload_n hx hb dX6_doRound_40 rfl (lv_at hl 0 rfl) ?_
      refine mw_get (ci := 5) (C := RX6) (T := TX6) (N := 7) (v := .ref (ad 7)) hx hb hts hinX6 hown hK hP 0 (by decide) cF_0 rfl 5 (by decide) kf38 (fun _ h9 => h9) rfl dX6_doRound_41 ?_
      refine lv_iconst (v := 3) hx hb dX6_doRound_44 (by decide) ?_
      refine g_callV (As := [.int 3]) (rest := []) (N := 7) (T := TX1) (ci := 1) ⟨hx, hb, hml, hown, hts⟩ 7 (c_mark l D cy ad wy mt hj σ 3 (by decide) (rOK.ec hO (by omega))) (cwV 1 hts gX6_doRound_X1_mark rfl rfl rfl (by decide +kernel) ⟨by decide, by decide⟩) h0 hP hS (by decide) cF_7 rfl rfl rfl hl.1 (Nat.le_of_ble_eq_true rfl) dX6_doRound_45 ⟨Nat.zero_le _, Nat.zero_le _⟩ (fun H locs hP hS => ?_)
      refine lv_aload_n hx hb dX6_doRound_48 rfl (lv_at hl 0 rfl) ?_
      refine lv_aload_n hx hb dX6_doRound_49 rfl (lv_at hl 1 rfl) ?_
      refine g_callV (As := [.ref (ad (26 + q))]) (rest := []) (N := 7) (T := TX6) (ci := 5) ⟨hx, hb, hml, hown, hts⟩ 0 (c_doSteps l D cy ad wy mt hj (cMark σ 3) q v hq (by omega) x (by omega) ((kR_mark σ 3).cR hR) (rOK_mark hO (by omega) (by decide)) (by rw [kR_mark σ 3 (26 + q) (by omega)]; exact hv3)) (cwV 1 hts gX6_doRound_X6_doSteps rfl rfl rfl (by decide +kernel) ⟨by decide, by decide⟩) h0 hP hS (by decide) cF_0 rfl rfl rfl hl.1 (Nat.le_of_ble_eq_true rfl) dX6_doRound_50 ⟨Nat.zero_le _, Nat.zero_le _⟩ (fun H locs hP hS => ?_)
      refine lv_astore_n (lv' := [(2, .ref (wy ((cSteps q v 201 (cMark σ 3) 0 0).1))), (0, .ref (ad 0)), (1, .ref (ad (26 + q)))]) hx hb dX6_doRound_53 rfl hl (by decide) rfl (fun ls hl => ?_)
      refine lv_aload_n hx hb dX6_doRound_54 rfl (lv_at hl 1 rfl) ?_
      refine mw_get (ci := 5) (C := RX6) (T := TX6) (N := 7) (v := .ref (ad 7)) hx hb hts hinX6 hown hK hP 0 (by decide) cF_0 rfl 5 (by decide) kf38 (fun _ h9 => h9) rfl dX6_doRound_55 ?_
      refine lv_iconst (v := 4) hx hb dX6_doRound_58 (by decide) ?_
      refine g_callV (As := [.int 4]) (rest := []) (N := 7) (T := TX1) (ci := 1) ⟨hx, hb, hml, hown, hts⟩ 7 (c_mark l D cy ad wy mt hj ((cSteps q v 201 (cMark σ 3) 0 0).2) 4 (by decide) (rOK.ec ((sOK_steps (v := v) hq 201 (cMark σ 3) 0 0 ((kR_mark σ 3).cR hR) (by omega)).2.2 x (by omega) (rOK_mark hO (by omega) (by decide))) (by omega))) (cwV 1 hts gX6_doRound_X1_mark rfl rfl rfl (by decide +kernel) ⟨by decide, by decide⟩) h0 hP hS (by decide) cF_7 rfl rfl rfl hl.1 (Nat.le_of_ble_eq_true rfl) dX6_doRound_59 ⟨Nat.zero_le _, Nat.zero_le _⟩ (fun H locs hP hS => ?_)
      refine lv_aload_n hx hb dX6_doRound_62 rfl (lv_at hl 0 rfl) ?_
      exact g_aret hx hb hr hlocks hP hS dX6_doRound_63 (by unfold cRound; rw [if_pos c_1, if_neg c_2])
    · skip
      refine lv_aload_n hx hb dX6_doRound_31 rfl (lv_at hl 0 rfl) ?_
      refine mw_get (ci := 5) (C := RX6) (T := TX6) (N := 7) (v := .ref (ad 7)) hx hb hts hinX6 hown hK hP 0 (by decide) cF_0 rfl 5 (by decide) kf38 (fun _ h9 => h9) rfl dX6_doRound_32 ?_
      refine lv_iconst (v := 5) hx hb dX6_doRound_35 (by decide) ?_
      refine g_callV (As := [.int 5]) (rest := []) (N := 7) (T := TX1) (ci := 1) ⟨hx, hb, hml, hown, hts⟩ 7 (c_fail l D cy ad wy mt hj σ 5) (cwV 1 hts gX6_doRound_X1_fail rfl rfl rfl (by decide +kernel) ⟨by decide, by decide⟩) h0 hP hS (by decide) cF_7 rfl rfl rfl hl.1 (Nat.le_of_ble_eq_true rfl) dX6_doRound_36 ⟨Nat.zero_le _, Nat.zero_le _⟩ (fun H locs hP hS => ?_)
      exact g_aret hx hb hr hlocks hP hS dX6_doRound_39 (by unfold cRound; rw [if_pos c_1, if_pos c_2])
  · skip
    refine lv_aload_n hx hb dX6_doRound_9 rfl (lv_at hl 0 rfl) ?_
    refine mw_get (ci := 5) (C := RX6) (T := TX6) (N := 7) (v := .ref (ad 7)) hx hb hts hinX6 hown hK hP 0 (by decide) cF_0 rfl 5 (by decide) kf38 (fun _ h9 => h9) rfl dX6_doRound_10 ?_
    refine lv_iconst (v := 4) hx hb dX6_doRound_13 (by decide) ?_
    refine g_callV (As := [.int 4]) (rest := []) (N := 7) (T := TX1) (ci := 1) ⟨hx, hb, hml, hown, hts⟩ 7 (c_fail l D cy ad wy mt hj σ 4) (cwV 1 hts gX6_doRound_X1_fail rfl rfl rfl (by decide +kernel) ⟨by decide, by decide⟩) h0 hP hS (by decide) cF_7 rfl rfl rfl hl.1 (Nat.le_of_ble_eq_true rfl) dX6_doRound_14 ⟨Nat.zero_le _, Nat.zero_le _⟩ (fun H locs hP hS => ?_)
    exact g_aret hx hb hr hlocks hP hS dX6_doRound_17 (by unfold cRound; rw [if_neg c_1])
theorem cR_v {σ : Mem} {q : Nat} (hR : cR σ) (hq : q < 24) : ci (σ (26 + q) 3) ≤ 9 ∧ σ (26 + q) 3 = nI (ci (σ (26 + q) 3)) := by
  obtain ⟨v, hv, e⟩ := (hR.1 q hq).2.1
  unfold ci
  rw [e, nI_clamp (by omega)]
  exact ⟨hv, rfl⟩
theorem sOK_round {q : Nat} (v : Nat) {σ : Mem} (hq : q < 24) (hR : cR σ) : (cRound σ q v).1 < 7 ∧ kR σ (cRound σ q v).2 ∧ ∀ x : Nat, x ≤ 880 → rOK x σ → rOK (x + 2) (cRound σ q v).2 := by
  have hf : ∀ n : Int32, (cFail σ n).1 < 7 ∧ kR σ (cFail σ n).2 ∧ ∀ x : Nat, x ≤ 880 → rOK x σ → rOK (x + 2) (cFail σ n).2 := fun n =>
    ⟨(sOK_fail σ n).1, (sOK_fail σ n).2.1, fun x _ h => ((sOK_fail σ n).2.2 x h).le (by omega)⟩
  unfold cRound
  split
  · split
    · exact hf 5
    · obtain ⟨h1, h2, h3⟩ := sOK_steps (v := v) hq 201 (cMark σ 3) 0 0 ((kR_mark σ 3).cR hR) (by omega)
      refine ⟨h1, ((kR_mark σ 3).tr h2).tr (kR_mark _ 4), fun x hx h => ?_⟩
      exact rOK_mark (h3 x (by omega) (rOK_mark h (by omega) (by decide))) (by omega) (by decide)
  · exact hf 4
/-- what the batch makes of how a round was left -/
def cAfter (b rr : Nat) (r : Nat × Mem) : Nat × Mem := if r.1 = 1 then (0, r.2) else if r.1 = 5 then cTake r.2 (r.2 (12 + b) 2) (nI rr) else r
def cRoundAt (b : Nat) (σ : Mem) (rr : Nat) : Nat × Mem := cAfter b rr (cRound σ (6 * b + rr) (ci (σ (26 + (6 * b + rr)) 3)))
theorem sOK_roundAt {b rr : Nat} {σ : Mem} (hq : 6 * b + rr < 24) (hR : cR σ) : (cRoundAt b σ rr).1 < 7 ∧ kR σ (cRoundAt b σ rr).2 ∧ ∀ x : Nat, x ≤ 880 → rOK x σ → rOK (x + 2) (cRoundAt b σ rr).2 := by
  obtain ⟨h1, h2, h3⟩ := sOK_round (ci (σ (26 + (6 * b + rr)) 3)) hq hR
  unfold cRoundAt cAfter
  split
  · exact ⟨by show (0 : Nat) < 7; decide, h2, h3⟩
  split
  · obtain ⟨g1, g2, g3⟩ := sOK_take (cRound σ (6 * b + rr) (ci (σ (26 + (6 * b + rr)) 3))).2 ((cRound σ (6 * b + rr) (ci (σ (26 + (6 * b + rr)) 3))).2 (12 + b) 2) (nI rr)
    exact ⟨g1, h2.tr g2, fun x hx h => g3 _ (h3 x hx h)⟩
  · exact ⟨h1, h2, h3⟩
def cRounds (b : Nat) : Nat → Mem → Nat → Nat → Nat × Mem
  | 0, σ, _, w => (w, σ)
  | fu + 1, σ, rr, w =>
    if σ (12 + b) 1 ≤ nI rr then (w, σ)
    else if w = 0 then cRounds b fu (cRoundAt b σ rr).2 (rr + 1) (cRoundAt b σ rr).1
    else (w, σ)
theorem cRounds_succ (b fu : Nat) (σ : Mem) (rr w : Nat) : cRounds b (fu + 1) σ rr w = if σ (12 + b) 1 ≤ nI rr then (w, σ)
    else if w = 0 then cRounds b fu (cRoundAt b σ rr).2 (rr + 1) (cRoundAt b σ rr).1
    else (w, σ) := rfl
theorem cR_rr {σ : Mem} {b rr : Nat} (hR : cR σ) (hb : b < 4) (hrr : rr ≤ 6) (hc : ¬ σ (12 + b) 1 ≤ nI rr) : rr < 6 := by
  obtain ⟨k, hk, e⟩ := hR.2 b hb
  rw [e] at hc
  have h1 : ¬ k ≤ rr := fun h => hc ((nI_leI (by omega) (by omega)).mpr h)
  omega
theorem cR_r6 {σ : Mem} {b : Nat} (hR : cR σ) (hb : b < 4) : σ (12 + b) 1 ≤ nI 6 := by
  obtain ⟨k, hk, e⟩ := hR.2 b hb
  rw [e]
  exact nI_le hk (by decide)
theorem sOK_rounds {b : Nat} (hb : b < 4) : ∀ (fu : Nat) (σ : Mem) (rr w : Nat), cR σ → rr ≤ 6 → w < 7 → (cRounds b fu σ rr w).1 < 7 ∧ kR σ (cRounds b fu σ rr w).2 ∧ ∀ x : Nat, x + 12 ≤ 880 → rOK (x + 2 * rr) σ → rOK (x + 12) (cRounds b fu σ rr w).2
  | 0, σ, rr, w, _, hrr, hw => ⟨hw, kR.rf σ, fun x _ h => h.le (by omega)⟩
  | fu + 1, σ, rr, w, hR, hrr, hw => by
    unfold cRounds
    split
    · exact ⟨hw, kR.rf σ, fun x _ h => h.le (by omega)⟩
    split
    · rename_i hc hw0
      have h6 := cR_rr hR hb hrr hc
      obtain ⟨h1, h2, h3⟩ := sOK_roundAt (b := b) (rr := rr) (by omega) hR
      obtain ⟨g1, g2, g3⟩ := sOK_rounds hb fu (cRoundAt b σ rr).2 (rr + 1) (cRoundAt b σ rr).1 (h2.cR hR) (by omega) h1
      exact ⟨g1, h2.tr g2, fun x hx h => g3 x hx ((h3 _ (by omega) h).le (by omega))⟩
    · exact ⟨hw, kR.rf σ, fun x _ h => h.le (by omega)⟩
def cBatch (σ : Mem) (b : Nat) : Nat × Mem := (if (cRounds b 7 (cMark σ 1) 0 0).1 = 3 then 0 else (cRounds b 7 (cMark σ 1) 0 0).1, cMark (cRounds b 7 (cMark σ 1) 0 0).2 2)
theorem sOK_batch {b : Nat} {σ : Mem} (hb : b < 4) (hR : cR σ) : (cBatch σ b).1 < 7 ∧ kR σ (cBatch σ b).2 ∧ ∀ x : Nat, x ≤ 800 → rOK x σ → rOK (x + 14) (cBatch σ b).2 := by
  obtain ⟨h1, h2, h3⟩ := sOK_rounds hb 7 (cMark σ 1) 0 0 ((kR_mark σ 1).cR hR) (by omega) (by decide)
  refine ⟨?_, ((kR_mark σ 1).tr h2).tr (kR_mark _ 2), fun x hx h => ?_⟩
  · show (if _ = 3 then 0 else _) < 7
    split
    · decide
    · exact h1
  · exact rOK_mark (h3 (x + 1) (by omega) (rOK_mark h (by omega) (by decide))) (by omega) (by decide)
set_option maxHeartbeats 4000000 in
set_option maxRecDepth 100000 in
theorem c_doBatch (l : Launch) (D : va_G) (cy : Nat → ClassId) (ad wy : Nat → Nat) (mt : Nat) (hj : mJ 98 ad) (σ : Mem) (b : Nat) (hb4 : b < 4) (x : Nat) (hx9 : x ≤ 800) (hR : cR σ) (hO : rOK x σ) : Met l yX6_doBatch wsX6_doBatch ({ frames := 5, cells := 0, slots := 0, locals := 117 }) (va_Pc [.ref (ad 0), .ref (ad (12 + b))] (gPre 98 ad (cF ad cy) D cy wy mt σ)) (gQ 98 ad (cF ad cy) D (some (.ref (wy (cBatch σ b).1))) (cBatch σ b).2) 0 0 (mA 98 ad) := by
  refine g_met (cc := cX6_doBatch) (maxL := 4) (ret := (some (.object "BenchRuns$Way"))) (by decide) rfl (Nat.le_of_ble_eq_true rfl) ?_
  intro p e s m below meth c S hr hlocks h0 ls hl
  obtain ⟨hx, hb, hml, hown, hts⟩ := S
  have hP := h0.1
  have hK := h0.2.1
  have hS : va_S (mA 98 ad) s.heap s.heap [] := va_S.rf
  have hl : lv_has ls 4 [(0, .ref (ad 0)), (1, .ref (ad (12 + b)))] := hl
  have kf145 : (Cond.fieldLink RX6 145 "BenchRuns$Way" "ONWARD" "LBenchRuns$Way;").before (#[.ref (ad 0), .ref (ad (12 + b))] : Array Value) s = true := hts _ (by decide +kernel)
  have kf38 : (Cond.fieldLink RX6 38 "BenchRuns" "log" "LBenchRuns$Log;").before (#[.ref (ad 0), .ref (ad (12 + b))] : Array Value) s = true := hts _ (by decide +kernel)
  have hinX6 : ∀ w ∈ u_ws RX6 TX6 7, w ∈ wsX6_doBatch := by decide +kernel
  have kf56 : (Cond.fieldLink RX6 56 "BenchRuns$Batch" "roundCount" "I").before (#[.ref (ad 0), .ref (ad (12 + b))] : Array Value) s = true := hts _ (by decide +kernel)
  have hinX0 : ∀ w ∈ u_ws RX0 TX0 3, w ∈ wsX6_doBatch := by decide +kernel
  have kf165 : (Cond.fieldLink RX6 165 "BenchRuns$Way" "BREAK" "LBenchRuns$Way;").before (#[.ref (ad 0), .ref (ad (12 + b))] : Array Value) s = true := hts _ (by decide +kernel)
  have kf69 : (Cond.fieldLink RX6 69 "BenchRuns$Batch" "rounds" "[LBenchRuns$Round;").before (#[.ref (ad 0), .ref (ad (12 + b))] : Array Value) s = true := hts _ (by decide +kernel)
  have kf155 : (Cond.fieldLink RX6 155 "BenchRuns$Way" "SKIP" "LBenchRuns$Way;").before (#[.ref (ad 0), .ref (ad (12 + b))] : Array Value) s = true := hts _ (by decide +kernel)
  have kf104 : (Cond.fieldLink RX6 104 "BenchRuns$Way" "FAILURE" "LBenchRuns$Way;").before (#[.ref (ad 0), .ref (ad (12 + b))] : Array Value) s = true := hts _ (by decide +kernel)
  have kf158 : (Cond.fieldLink RX6 158 "BenchRuns$Batch" "mode" "I").before (#[.ref (ad 0), .ref (ad (12 + b))] : Array Value) s = true := hts _ (by decide +kernel)
  refine g_way hx hb h0 hS hown 0 (by decide) rfl kf145 dX6_doBatch_0 ?_
  refine lv_astore_n (lv' := [(2, .ref (wy 0)), (0, .ref (ad 0)), (1, .ref (ad (12 + b)))]) hx hb dX6_doBatch_3 rfl hl (by decide) rfl (fun ls hl => ?_)
  refine lv_aload_n hx hb dX6_doBatch_4 rfl (lv_at hl 1 rfl) ?_
  refine mw_get (ci := 5) (C := RX6) (T := TX6) (N := 7) (v := .ref (ad 7)) hx hb hts hinX6 hown hK hP 0 (by decide) cF_0 rfl 5 (by decide) kf38 (fun _ h9 => h9) rfl dX6_doBatch_5 ?_
  refine lv_iconst (v := 1) hx hb dX6_doBatch_8 (by decide) ?_
  refine g_callV (As := [.int 1]) (rest := []) (N := 7) (T := TX1) (ci := 1) ⟨hx, hb, hml, hown, hts⟩ 7 (c_mark l D cy ad wy mt hj σ 1 (by decide) (rOK.ec hO (by omega))) (cwV 1 hts gX6_doBatch_X1_mark rfl rfl rfl (by decide +kernel) ⟨by decide, by decide⟩) h0 hP hS (by decide) cF_7 rfl rfl rfl hl.1 (Nat.le_of_ble_eq_true rfl) dX6_doBatch_9 ⟨Nat.zero_le _, Nat.zero_le _⟩ (fun H locs hP hS => ?_)
  refine lv_iconst (v := 0) hx hb dX6_doBatch_12 (by decide) ?_
  refine lv_istore_n (lv' := [(3, .int 0), (2, .ref (wy 0)), (0, .ref (ad 0)), (1, .ref (ad (12 + b)))]) hx hb dX6_doBatch_13 rfl hl (by decide) rfl (fun ls hl => ?_)
  have loop : ∀ (fu rr w : Nat) (τ : Mem) (H : Heap) (locs : List Loc) (ls : Array Slot), rr + fu = 7 → rr ≤ 6 → w < 7 → cR τ → rOK (x + 1 + 2 * rr) τ → cRounds b fu τ rr w = cRounds b 7 (cMark σ 1) 0 0 → va_P D vwCl (mW 98 ad (cF ad cy) τ) H → va_S (mA 98 ad) s.heap H locs → lv_has ls 4 [(3, .int (nI rr)), (2, .ref (wy w)), (0, .ref (ad 0)), (1, .ref (ad (12 + b)))] → W p l e ({ frames := 5, cells := 0, slots := 0, locals := 117 }) s m ([.ref (ad 0), .ref (ad (12 + b))] : List Value).toArray below meth c H locs 0 0 (MQ below (gQ 98 ad (cF ad cy) D (some (.ref (wy (cBatch σ b).1))) (cBatch σ b).2) ([.ref (ad 0), .ref (ad (12 + b))] : List Value).toArray s 0 0 (mA 98 ad)) (F0 m 14 ls []) := by
    intro fu
    induction fu with
    | zero =>
      intro rr w τ H locs ls htn hrr
      exact absurd htn (by omega)
    | succ fu ih =>
      intro rr w τ H locs ls htn hrr hw hR hO hf hP hS hl
      refine lv_iload_n hx hb dX6_doBatch_14 rfl (lv_at hl 0 rfl) ?_
      refine lv_aload_n hx hb dX6_doBatch_15 rfl (lv_at hl 3 rfl) ?_
      refine mw_get (ci := 0) (C := RX0) (T := TX0) (N := 3) (v := .int (τ (12 + b) 1)) hx hb hts hinX0 hown hK hP (12 + b) (cB_bat hb4) (cF_bat hb4) rfl 1 (by decide) kf56 (fun _ h9 => h9) rfl dX6_doBatch_16 ?_
      refine lv_icmp_ge (tgt := 77) hx hb dX6_doBatch_19 (by decide) (fun c_1 => ?_) (fun c_1 => ?_)
      · skip
        have hE : cRounds b 7 (cMark σ 1) 0 0 = (w, τ) := hf.symm.trans (by rw [cRounds_succ, if_pos c_1])
        refine lv_aload_n hx hb dX6_doBatch_77 rfl (lv_at hl 2 rfl) ?_
        refine mw_get (ci := 5) (C := RX6) (T := TX6) (N := 7) (v := .ref (ad 7)) hx hb hts hinX6 hown hK hP 0 (by decide) cF_0 rfl 5 (by decide) kf38 (fun _ h9 => h9) rfl dX6_doBatch_78 ?_
        refine lv_iconst (v := 2) hx hb dX6_doBatch_81 (by decide) ?_
        refine g_callV (As := [.int 2]) (rest := []) (N := 7) (T := TX1) (ci := 1) ⟨hx, hb, hml, hown, hts⟩ 7 (c_mark l D cy ad wy mt hj τ 2 (by decide) (rOK.ec hO (by omega))) (cwV 1 hts gX6_doBatch_X1_mark rfl rfl rfl (by decide +kernel) ⟨by decide, by decide⟩) h0 hP hS (by decide) cF_7 rfl rfl rfl hl.1 (Nat.le_of_ble_eq_true rfl) dX6_doBatch_82 ⟨Nat.zero_le _, Nat.zero_le _⟩ (fun H locs hP hS => ?_)
        refine lv_aload_n hx hb dX6_doBatch_85 rfl (lv_at hl 1 rfl) ?_
        refine g_way hx hb h0 hS hown 3 (by decide) rfl kf165 dX6_doBatch_86 ?_
        refine g_wne (a := w) (b := 3) (tgt := 98) hx hb h0 hw (by decide) dX6_doBatch_89 (by decide) (fun c_2 => ?_) (fun c_2 => ?_)
        · skip
          refine lv_aload_n hx hb dX6_doBatch_98 rfl (lv_at hl 1 rfl) ?_
          exact g_aret hx hb hr hlocks hP hS dX6_doBatch_99 (by unfold cBatch; rw [hE]; dsimp only; rw [if_neg c_2])
        · skip
          refine g_way hx hb h0 hS hown 0 (by decide) rfl kf145 dX6_doBatch_92 ?_
          refine lv_goto (tgt := 99) hx hb dX6_doBatch_95 (by decide) ?_
          exact g_aret hx hb hr hlocks hP hS dX6_doBatch_99 (by unfold cBatch; rw [hE]; dsimp only; rw [if_pos c_2])
      · skip
        refine lv_aload_n hx hb dX6_doBatch_22 rfl (lv_at hl 1 rfl) ?_
        refine g_way hx hb h0 hS hown 0 (by decide) rfl kf145 dX6_doBatch_23 ?_
        refine g_wne (a := w) (b := 0) (tgt := 77) hx hb h0 hw (by decide) dX6_doBatch_26 (by decide) (fun c_3 => ?_) (fun c_3 => ?_)
        · skip
          have hE : cRounds b 7 (cMark σ 1) 0 0 = (w, τ) := hf.symm.trans (by rw [cRounds_succ, if_neg c_1, if_neg c_3])
          refine lv_aload_n hx hb dX6_doBatch_77 rfl (lv_at hl 2 rfl) ?_
          refine mw_get (ci := 5) (C := RX6) (T := TX6) (N := 7) (v := .ref (ad 7)) hx hb hts hinX6 hown hK hP 0 (by decide) cF_0 rfl 5 (by decide) kf38 (fun _ h9 => h9) rfl dX6_doBatch_78 ?_
          refine lv_iconst (v := 2) hx hb dX6_doBatch_81 (by decide) ?_
          refine g_callV (As := [.int 2]) (rest := []) (N := 7) (T := TX1) (ci := 1) ⟨hx, hb, hml, hown, hts⟩ 7 (c_mark l D cy ad wy mt hj τ 2 (by decide) (rOK.ec hO (by omega))) (cwV 1 hts gX6_doBatch_X1_mark rfl rfl rfl (by decide +kernel) ⟨by decide, by decide⟩) h0 hP hS (by decide) cF_7 rfl rfl rfl hl.1 (Nat.le_of_ble_eq_true rfl) dX6_doBatch_82 ⟨Nat.zero_le _, Nat.zero_le _⟩ (fun H locs hP hS => ?_)
          refine lv_aload_n hx hb dX6_doBatch_85 rfl (lv_at hl 1 rfl) ?_
          refine g_way hx hb h0 hS hown 3 (by decide) rfl kf165 dX6_doBatch_86 ?_
          refine g_wne (a := w) (b := 3) (tgt := 98) hx hb h0 hw (by decide) dX6_doBatch_89 (by decide) (fun c_4 => ?_) (fun c_4 => ?_)
          · skip
            refine lv_aload_n hx hb dX6_doBatch_98 rfl (lv_at hl 1 rfl) ?_
            exact g_aret hx hb hr hlocks hP hS dX6_doBatch_99 (by unfold cBatch; rw [hE]; dsimp only; rw [if_neg c_4])
          · skip
            refine g_way hx hb h0 hS hown 0 (by decide) rfl kf145 dX6_doBatch_92 ?_
            refine lv_goto (tgt := 99) hx hb dX6_doBatch_95 (by decide) ?_
            exact g_aret hx hb hr hlocks hP hS dX6_doBatch_99 (by unfold cBatch; rw [hE]; dsimp only; rw [if_pos c_4])
        · skip
          have hr6 := cR_rr hR hb4 hrr c_1
          have hq : 6 * b + rr < 24 := by omega
          have hv0 := cR_v hR hq
          have hS1 := sOK_round (ci (τ (26 + (6 * b + rr)) 3)) hq hR
          refine lv_aload_n hx hb dX6_doBatch_29 rfl (lv_at hl 2 rfl) ?_
          refine lv_aload_n hx hb dX6_doBatch_30 rfl (lv_at hl 3 rfl) ?_
          refine mw_get (ci := 0) (C := RX0) (T := TX0) (N := 3) (v := .ref (ad (16 + b))) hx hb hts hinX0 hown hK hP (12 + b) (cB_bat hb4) (cF_bat hb4) rfl 0 (by decide) kf69 (fun _ h9 => h9) rfl dX6_doBatch_31 ?_
          refine lv_iload_n hx hb dX6_doBatch_34 rfl (lv_at hl 0 rfl) ?_
          have ha_5 : rr < 6 := (by omega)
          refine mw_ald (f := fun q => ad (26 + (6 * b + q))) hx hb hK hP (16 + b) (cB_row hb4) 3 (cF_row hb4) rfl rr ha_5 (by decide) rfl dX6_doBatch_35 ?_
          refine g_callV (As := [.ref (ad (26 + (6 * b + rr)))]) (rest := []) (N := 7) (T := TX6) (ci := 5) ⟨hx, hb, hml, hown, hts⟩ 0 (c_doRound l D cy ad wy mt hj τ (6 * b + rr) (ci (τ (26 + (6 * b + rr)) 3)) (cB_q hb4 ha_5) hv0.1 (x + 1 + 2 * rr) (by omega) hR hO hv0.2) (cwV 1 hts gX6_doBatch_X6_doRound rfl rfl rfl (by decide +kernel) ⟨by decide, by decide⟩) h0 hP hS (by decide) cF_0 rfl rfl rfl hl.1 (Nat.le_of_ble_eq_true rfl) dX6_doBatch_36 ⟨Nat.zero_le _, Nat.zero_le _⟩ (fun H locs hP hS => ?_)
          refine lv_astore_n (lv' := [(2, .ref (wy ((cRound τ (6 * b + rr) (ci (τ (26 + (6 * b + rr)) 3))).1))), (3, .int (nI rr)), (0, .ref (ad 0)), (1, .ref (ad (12 + b)))]) hx hb dX6_doBatch_39 rfl hl (by decide) rfl (fun ls hl => ?_)
          refine lv_aload_n hx hb dX6_doBatch_40 rfl (lv_at hl 0 rfl) ?_
          refine g_way hx hb h0 hS hown 1 (by decide) rfl kf155 dX6_doBatch_41 ?_
          refine g_wne (a := (cRound τ (6 * b + rr) (ci (τ (26 + (6 * b + rr)) 3))).1) (b := 1) (tgt := 54) hx hb h0 hS1.1 (by decide) dX6_doBatch_44 (by decide) (fun c_6 => ?_) (fun c_6 => ?_)
          · skip
            refine lv_aload_n hx hb dX6_doBatch_54 rfl (lv_at hl 0 rfl) ?_
            refine g_way hx hb h0 hS hown 5 (by decide) rfl kf104 dX6_doBatch_55 ?_
            refine g_wne (a := (cRound τ (6 * b + rr) (ci (τ (26 + (6 * b + rr)) 3))).1) (b := 5) (tgt := 71) hx hb h0 hS1.1 (by decide) dX6_doBatch_58 (by decide) (fun c_7 => ?_) (fun c_7 => ?_)
            · skip
              have eR : cRoundAt b τ rr = cRound τ (6 * b + rr) (ci (τ (26 + (6 * b + rr)) 3)) := by unfold cRoundAt cAfter; rw [if_neg c_6, if_neg c_7]
              have hS2 := sOK_roundAt (b := b) (rr := rr) hq hR
              rw [eR] at hS2
              refine lv_iinc (v := nI (rr + 1)) (lv' := [(3, .int (nI (rr + 1))), (2, .ref (wy ((cRound τ (6 * b + rr) (ci (τ (26 + (6 * b + rr)) 3))).1))), (0, .ref (ad 0)), (1, .ref (ad (12 + b)))]) hx hb dX6_doBatch_71 hl (k := 1) rfl (nI_1 rr) (by decide) rfl (fun ls hl => ?_)
              refine lv_goto (tgt := 14) hx hb dX6_doBatch_74 (by decide) ?_
              exact ih (rr + 1) ((cRound τ (6 * b + rr) (ci (τ (26 + (6 * b + rr)) 3))).1) ((cRound τ (6 * b + rr) (ci (τ (26 + (6 * b + rr)) 3))).2) H locs ls (by omega) (by omega) hS2.1 (hS2.2.1.cR hR) ((hS2.2.2 _ (by omega) hO).le (by omega)) (Eq.trans (by rw [cRounds_succ, if_neg c_1, if_pos c_3, eR]) hf) hP hS (lv_sub hl [0, 1, 2, 3] rfl)
            · skip
              refine lv_aload_n hx hb dX6_doBatch_61 rfl (lv_at hl 2 rfl) ?_
              refine lv_aload_n hx hb dX6_doBatch_62 rfl (lv_at hl 3 rfl) ?_
              refine mw_get (ci := 0) (C := RX0) (T := TX0) (N := 3) (v := .int (((cRound τ (6 * b + rr) (ci (τ (26 + (6 * b + rr)) 3))).2) (12 + b) 2)) hx hb hts hinX0 hown hK hP (12 + b) (cB_bat hb4) (cF_bat hb4) rfl 2 (by decide) kf158 (fun _ h9 => h9) rfl dX6_doBatch_63 ?_
              refine lv_iload_n hx hb dX6_doBatch_66 rfl (lv_at hl 1 rfl) ?_
              refine g_callV (As := [.int (((cRound τ (6 * b + rr) (ci (τ (26 + (6 * b + rr)) 3))).2) (12 + b) 2), .int (nI rr)]) (rest := []) (N := 7) (T := TX6) (ci := 5) ⟨hx, hb, hml, hown, hts⟩ 0 (c_takeFailure l D cy ad wy mt hj ((cRound τ (6 * b + rr) (ci (τ (26 + (6 * b + rr)) 3))).2) (((cRound τ (6 * b + rr) (ci (τ (26 + (6 * b + rr)) 3))).2) (12 + b) 2) (nI rr) _ (hS1.2.2 (x + 1 + 2 * rr) (by omega) hO)) (cwV 2 hts gX6_doBatch_X6_takeFailure rfl rfl rfl (by decide +kernel) ⟨by decide, by decide⟩) h0 hP hS (by decide) cF_0 rfl rfl rfl hl.1 (Nat.le_of_ble_eq_true rfl) dX6_doBatch_67 ⟨Nat.zero_le _, Nat.zero_le _⟩ (fun H locs hP hS => ?_)
              refine lv_astore_n (lv' := [(2, .ref (wy ((cTake ((cRound τ (6 * b + rr) (ci (τ (26 + (6 * b + rr)) 3))).2) (((cRound τ (6 * b + rr) (ci (τ (26 + (6 * b + rr)) 3))).2) (12 + b) 2) (nI rr)).1))), (3, .int (nI rr)), (0, .ref (ad 0)), (1, .ref (ad (12 + b)))]) hx hb dX6_doBatch_70 rfl hl (by decide) rfl (fun ls hl => ?_)
              have eR : cRoundAt b τ rr = cTake ((cRound τ (6 * b + rr) (ci (τ (26 + (6 * b + rr)) 3))).2) (((cRound τ (6 * b + rr) (ci (τ (26 + (6 * b + rr)) 3))).2) (12 + b) 2) (nI rr) := by unfold cRoundAt cAfter; rw [if_neg c_6, if_pos c_7]
              have hS2 := sOK_roundAt (b := b) (rr := rr) hq hR
              rw [eR] at hS2
              refine lv_iinc (v := nI (rr + 1)) (lv' := [(3, .int (nI (rr + 1))), (2, .ref (wy ((cTake ((cRound τ (6 * b + rr) (ci (τ (26 + (6 * b + rr)) 3))).2) (((cRound τ (6 * b + rr) (ci (τ (26 + (6 * b + rr)) 3))).2) (12 + b) 2) (nI rr)).1))), (0, .ref (ad 0)), (1, .ref (ad (12 + b)))]) hx hb dX6_doBatch_71 hl (k := 1) rfl (nI_1 rr) (by decide) rfl (fun ls hl => ?_)
              refine lv_goto (tgt := 14) hx hb dX6_doBatch_74 (by decide) ?_
              exact ih (rr + 1) ((cTake ((cRound τ (6 * b + rr) (ci (τ (26 + (6 * b + rr)) 3))).2) (((cRound τ (6 * b + rr) (ci (τ (26 + (6 * b + rr)) 3))).2) (12 + b) 2) (nI rr)).1) ((cTake ((cRound τ (6 * b + rr) (ci (τ (26 + (6 * b + rr)) 3))).2) (((cRound τ (6 * b + rr) (ci (τ (26 + (6 * b + rr)) 3))).2) (12 + b) 2) (nI rr)).2) H locs ls (by omega) (by omega) hS2.1 (hS2.2.1.cR hR) ((hS2.2.2 _ (by omega) hO).le (by omega)) (Eq.trans (by rw [cRounds_succ, if_neg c_1, if_pos c_3, eR]) hf) hP hS (lv_sub hl [0, 1, 2, 3] rfl)
          · skip
            refine g_way hx hb h0 hS hown 0 (by decide) rfl kf145 dX6_doBatch_47 ?_
            refine lv_astore_n (lv' := [(2, .ref (wy 0)), (3, .int (nI rr)), (0, .ref (ad 0)), (1, .ref (ad (12 + b)))]) hx hb dX6_doBatch_50 rfl hl (by decide) rfl (fun ls hl => ?_)
            refine lv_goto (tgt := 71) hx hb dX6_doBatch_51 (by decide) ?_
            have eR : cRoundAt b τ rr = (0, (cRound τ (6 * b + rr) (ci (τ (26 + (6 * b + rr)) 3))).2) := by unfold cRoundAt cAfter; rw [if_pos c_6]
            have hS2 := sOK_roundAt (b := b) (rr := rr) hq hR
            rw [eR] at hS2
            dsimp only at hS2
            refine lv_iinc (v := nI (rr + 1)) (lv' := [(3, .int (nI (rr + 1))), (2, .ref (wy 0)), (0, .ref (ad 0)), (1, .ref (ad (12 + b)))]) hx hb dX6_doBatch_71 hl (k := 1) rfl (nI_1 rr) (by decide) rfl (fun ls hl => ?_)
            refine lv_goto (tgt := 14) hx hb dX6_doBatch_74 (by decide) ?_
            exact ih (rr + 1) 0 ((cRound τ (6 * b + rr) (ci (τ (26 + (6 * b + rr)) 3))).2) H locs ls (by omega) (by omega) hS2.1 (hS2.2.1.cR hR) ((hS2.2.2 _ (by omega) hO).le (by omega)) (Eq.trans (by rw [cRounds_succ, if_neg c_1, if_pos c_3, eR]) hf) hP hS (lv_sub hl [0, 1, 2, 3] rfl)
  exact loop 7 0 0 (cMark σ 1) _ _ ls (by omega) (by omega) (by decide) ((kR_mark σ 1).cR hR) (rOK_mark hO (by omega) (by decide)) rfl hP hS (lv_sub hl [0, 1, 2, 3] rfl)
