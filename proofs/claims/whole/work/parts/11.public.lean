theorem inR_0 {v lo hi : Int32} (h : ¬ inR v lo hi = 0) : ¬ v < lo ∧ ¬ hi < v := by
  unfold inR at h
  by_cases h1 : v < lo
  · rw [if_pos h1] at h; exact absurd rfl h
  · rw [if_neg h1] at h
    by_cases h2 : hi < v
    · rw [if_pos h2] at h; exact absurd rfl h
    · exact ⟨h1, h2⟩
theorem inR_T {v lo hi : Int32} (h : ¬ inR v lo hi = 0) : lo.toInt ≤ v.toInt ∧ v.toInt ≤ hi.toInt := by
  obtain ⟨h1, h2⟩ := inR_0 h
  rw [Int32.lt_iff_toInt_lt] at h1 h2
  omega
theorem inR_in {v M : Int32} {N : Nat} (hM : M.toInt + 1 = N) (h : ¬ inR v 0 M = 0) : vp_in v N := by
  obtain ⟨h1, h2⟩ := inR_T h
  have h0 : (0 : Int32).toInt = 0 := by decide
  exact vp_in_iff.mpr ⟨by omega, by omega⟩
theorem nI_m1T {k : Nat} (hk : k < 2 ^ 31) : (nI k - 1).toInt = (k : Int) - 1 := by
  cases k with
  | zero => decide
  | succ k => rw [nI_pred, nI_toInt (by omega)]; omega
theorem inR_k {v : Int32} {k N : Nat} (hk : k ≤ N) (hN : N < 2 ^ 31) (h : ¬ inR v 0 (nI k - 1) = 0) : vp_in v N ∧ v.toInt < k := by
  obtain ⟨h1, h2⟩ := inR_T h
  rw [nI_m1T (by omega)] at h2
  have h0 : (0 : Int32).toInt = 0 := by decide
  exact ⟨vp_in_iff.mpr ⟨by omega, by omega⟩, by omega⟩
theorem inR_box {σ : Mem} {v : Int32} (hb : bxK σ) (h : ¬ inR v 0 (σ 5 2 - 1) = 0) : vp_in v 18 := by
  rcases hb with e | ⟨k, hk, e⟩
  · rw [e] at h
    obtain ⟨h1, h2⟩ := inR_T h
    have h0 : (0 : Int32).toInt = 0 := by decide
    have h3 : ((-4 : Int32) - 1).toInt = -5 := by decide
    omega
  · rw [e] at h
    exact (inR_k hk (by decide) h).1
theorem inR_nc {σ : Mem} {v : Int32} (hb : lgK σ) (h : ¬ inR v 0 (σ 7 4 - 1) = 0) : vp_in v 24 := by
  obtain ⟨⟨k, hk, e⟩, -⟩ := hb
  rw [e] at h
  exact (inR_k hk (by decide) h).1
theorem inR_why {σ : Mem} {v : Int32} (hb : lgK σ) (h : ¬ inR v 0 (σ 7 6 - 1) = 0) : vp_in (σ 7 6 - 1 - v) 4 := by
  obtain ⟨-, k, hk, e⟩ := hb
  rw [e] at h ⊢
  obtain ⟨h1, h2⟩ := inR_k hk (by decide) h
  obtain ⟨j, hj, rfl⟩ := vp_in_of h1 (by decide)
  rw [nI_toInt (by omega)] at h2
  cases k with
  | zero => omega
  | succ k =>
    rw [nI_pred, pk_sub (by omega)]
    exact vp_in_nI (by omega) (by decide)
theorem inR_tr {x : Nat} {σ : Mem} {v : Int32} (hO : rOK x σ) (hx : x ≤ 1000) (h : ¬ inR v 0 ((if (400 : Int32) < σ 7 2 then 400 else σ 7 2) - 1) = 0) : vp_in v 400 := by
  obtain ⟨⟨k, li, e, -, h3, h4⟩, -⟩ := hO
  rw [e] at h
  by_cases hc : (400 : Int32) < nI k
  · rw [if_pos hc] at h
    exact inR_in (by decide) h
  · rw [if_neg hc] at h
    have hk : k ≤ 400 := Nat.not_lt.mp fun q => hc ((nI_ltI (a := 400) (by decide) (by omega)).mpr q)
    exact (inR_k hk (by decide) h).1
theorem inR_told {v : Int32} (h : ¬ inR v 0 7 = 0) (h7 : ¬ v = 7) (h6 : ¬ v = 6) : vp_in (v + 1) 7 := by
  obtain ⟨j, hj, rfl⟩ := vp_in_of (inR_in (N := 8) (by decide) h) (by decide)
  rw [nI_1]
  have a7 : ¬ j = 7 := fun q => h7 (by rw [q]; rfl)
  have a6 : ¬ j = 6 := fun q => h6 (by rw [q]; rfl)
  exact vp_in_nI (by omega) (by decide)
theorem rc_in {σ : Mem} {b : Nat} (hR : cR σ) (hb : b < 4) (h : ¬ σ (12 + b) 1 = 0) : vp_in (σ (12 + b) 1 - 1) 6 := by
  obtain ⟨k, hk, e⟩ := hR.2 b hb
  rw [e] at h ⊢
  cases k with
  | zero => exact absurd nI_0 h
  | succ k => rw [nI_pred]; exact vp_in_nI (by omega) (by decide)
theorem rc_lt {σ : Mem} {b : Nat} (hR : cR σ) (hb : b < 4) : σ (12 + b) 1 < 6 → vp_in (σ (12 + b) 1) 6 := by
  obtain ⟨k, hk, e⟩ := hR.2 b hb
  rw [e]
  intro h
  exact vp_in_nI ((nI_ltI (b := 6) (by omega) (by decide)).mp h) (by decide)
theorem sc_lt {σ : Mem} {q : Nat} (hR : cR σ) (hq : q < 24) : σ (26 + q) 2 < 8 → vp_in (σ (26 + q) 2) 8 := by
  obtain ⟨k, hk, e⟩ := (hR.1 q hq).1
  rw [e]
  intro h
  exact vp_in_nI ((nI_ltI (b := 8) (by omega) (by decide)).mp h) (by decide)
def cpVial (σ : Mem) (v d : Int32) : Int32 × Mem :=
  if inR v 0 7 = 0 then ((-1), σ)
  else if inR d (-1) 1000 = 0 then ((-1), σ)
  else (orN (σ 1 (ci v)), mset σ 1 (ci v) d)
set_option maxHeartbeats 4000000 in
set_option maxRecDepth 100000 in
theorem c_vial (l : Launch) (D : va_G) (cy : Nat → ClassId) (ad wy : Nat → Nat) (mt : Nat) (hj : mJ 98 ad) (σ : Mem) (v d : Int32)  : Met l yX6_vial wsX6_vial ({ frames := 1, cells := 0, slots := 0, locals := 22 }) (va_Pc [.ref (ad 0), .int v, .int d] (gPre 98 ad (cF ad cy) D cy wy mt σ)) (gQ 98 ad (cF ad cy) D (some (.int (cpVial σ v d).1)) (cpVial σ v d).2) 0 0 (mA 98 ad) := by
  refine g_met (cc := cX6_vial) (maxL := 4) (ret := (some .int)) (by decide) rfl (Nat.le_of_ble_eq_true rfl) ?_
  intro p e s m below meth c S hr hlocks h0 ls hl
  obtain ⟨hx, hb, hml, hown, hts⟩ := S
  have hP := h0.1
  have hK := h0.2.1
  have hS : va_S (mA 98 ad) s.heap s.heap [] := va_S.rf
  have hl : lv_has ls 4 [(0, .ref (ad 0)), (1, .int v), (2, .int d)] := hl
  have kf9 : (Cond.fieldLink RX6 9 "BenchRuns" "vialDrops" "[I").before (#[.ref (ad 0), .int v, .int d] : Array Value) s = true := hts _ (by decide +kernel)
  have hinX6 : ∀ w ∈ u_ws RX6 TX6 7, w ∈ wsX6_vial := by decide +kernel
  refine lv_iload_n hx hb dX6_vial_0 rfl (lv_at hl 1 rfl) ?_
  refine lv_iconst (v := 0) hx hb dX6_vial_1 (by decide) ?_
  refine lv_bipush (v := 7) hx hb dX6_vial_2 (by decide) ?_
  refine g_callS (As := [.int v, .int 0, .int 7]) (rest := []) ⟨hx, hb, hml, hown, hts⟩ (c_within l v 0 7) (va_cwS 3 hts gX6_vial_X6_within rfl rfl rfl (by decide +kernel) ⟨by decide, by decide⟩) rfl rfl hl.1 (Nat.le_of_ble_eq_true rfl) dX6_vial_4 ⟨Nat.zero_le _, Nat.zero_le _⟩ ?_
  refine lv_if_eq (tgt := 21) hx hb dX6_vial_7 (by decide) (fun c_1 => ?_) (fun c_1 => ?_)
  · skip
    refine lv_iconst (v := (-1)) hx hb dX6_vial_21 (by decide) ?_
    exact g_iret hx hb hr hlocks hP hS dX6_vial_22 (by unfold cpVial; rw [if_pos c_1])
  · skip
    have ix_v : vp_in v 8 := (inR_in (by decide) c_1)
    refine lv_iload_n hx hb dX6_vial_10 rfl (lv_at hl 2 rfl) ?_
    refine lv_iconst (v := (-1)) hx hb dX6_vial_11 (by decide) ?_
    refine lv_sipush (v := 1000) hx hb dX6_vial_12 (by decide) ?_
    refine g_callS (As := [.int d, .int (-1), .int 1000]) (rest := []) ⟨hx, hb, hml, hown, hts⟩ (c_within l d (-1) 1000) (va_cwS 3 hts gX6_vial_X6_within rfl rfl rfl (by decide +kernel) ⟨by decide, by decide⟩) rfl rfl hl.1 (Nat.le_of_ble_eq_true rfl) dX6_vial_15 ⟨Nat.zero_le _, Nat.zero_le _⟩ ?_
    refine lv_if_ne (tgt := 23) hx hb dX6_vial_18 (by decide) (fun c_2 => ?_) (fun c_2 => ?_)
    · skip
      refine lv_aload_n hx hb dX6_vial_23 rfl (lv_at hl 0 rfl) ?_
      refine mw_get (ci := 5) (C := RX6) (T := TX6) (N := 7) (v := .ref (ad 1)) hx hb hts hinX6 hown hK hP 0 (by decide) cF_0 rfl 0 (by decide) kf9 (fun _ h9 => h9) rfl dX6_vial_24 ?_
      refine lv_iload_n hx hb dX6_vial_27 rfl (lv_at hl 1 rfl) ?_
      refine mw_ild hx hb hK hP 1 (by decide) 0 cF_1 rfl (ci v) (ci_lt ix_v) (by decide) (ci_eq ix_v (by decide)) dX6_vial_28 ?_
      refine g_callS (As := [.int (σ 1 (ci v))]) (rest := []) ⟨hx, hb, hml, hown, hts⟩ (c_orNone l (σ 1 (ci v))) (va_cwS 1 hts gX6_vial_X6_orNone rfl rfl rfl (by decide +kernel) ⟨by decide, by decide⟩) rfl rfl hl.1 (Nat.le_of_ble_eq_true rfl) dX6_vial_29 ⟨Nat.zero_le _, Nat.zero_le _⟩ ?_
      refine lv_istore_n (lv' := [(3, .int (orN (σ 1 (ci v)))), (0, .ref (ad 0)), (1, .int v), (2, .int d)]) hx hb dX6_vial_32 rfl hl (by decide) rfl (fun ls hl => ?_)
      refine lv_aload_n hx hb dX6_vial_33 rfl (lv_at hl 1 rfl) ?_
      refine mw_get (ci := 5) (C := RX6) (T := TX6) (N := 7) (v := .ref (ad 1)) hx hb hts hinX6 hown hK hP 0 (by decide) cF_0 rfl 0 (by decide) kf9 (fun _ h9 => h9) rfl dX6_vial_34 ?_
      refine lv_iload_n hx hb dX6_vial_37 rfl (lv_at hl 2 rfl) ?_
      refine lv_iload_n hx hb dX6_vial_38 rfl (lv_at hl 3 rfl) ?_
      refine mw_ist hx hb hK hj hP hS 1 (by decide) 0 cF_1 rfl (ci v) (ci_lt ix_v) (by decide) (ci_eq ix_v (by decide)) dX6_vial_39 (fun H locs hP hS => ?_)
      refine lv_iload_n hx hb dX6_vial_40 rfl (lv_at hl 0 rfl) ?_
      exact g_iret hx hb hr hlocks hP hS dX6_vial_41 (by unfold cpVial; rw [if_neg c_1, if_neg c_2])
    · skip
      refine lv_iconst (v := (-1)) hx hb dX6_vial_21 (by decide) ?_
      exact g_iret hx hb hr hlocks hP hS dX6_vial_22 (by unfold cpVial; rw [if_neg c_1, if_pos c_2])

def cpBatch (σ : Mem) (b d : Int32) : Int32 × Mem :=
  if inR b 0 3 = 0 then ((-1), σ)
  else if inR d 0 2 = 0 then ((-1), σ)
  else (σ (12 + (ci b)) 1, cBatBegin σ (ci b) d)
set_option maxHeartbeats 4000000 in
set_option maxRecDepth 100000 in
theorem c_batch (l : Launch) (D : va_G) (cy : Nat → ClassId) (ad wy : Nat → Nat) (mt : Nat) (hj : mJ 98 ad) (σ : Mem) (b d : Int32)  : Met l yX6_batch wsX6_batch ({ frames := 1, cells := 0, slots := 0, locals := 22 }) (va_Pc [.ref (ad 0), .int b, .int d] (gPre 98 ad (cF ad cy) D cy wy mt σ)) (gQ 98 ad (cF ad cy) D (some (.int (cpBatch σ b d).1)) (cpBatch σ b d).2) 0 0 (mA 98 ad) := by
  refine g_met (cc := cX6_batch) (maxL := 4) (ret := (some .int)) (by decide) rfl (Nat.le_of_ble_eq_true rfl) ?_
  intro p e s m below meth c S hr hlocks h0 ls hl
  obtain ⟨hx, hb, hml, hown, hts⟩ := S
  have hP := h0.1
  have hK := h0.2.1
  have hS : va_S (mA 98 ad) s.heap s.heap [] := va_S.rf
  have hl : lv_has ls 4 [(0, .ref (ad 0)), (1, .int b), (2, .int d)] := hl
  have kf15 : (Cond.fieldLink RX6 15 "BenchRuns" "batches" "[LBenchRuns$Batch;").before (#[.ref (ad 0), .int b, .int d] : Array Value) s = true := hts _ (by decide +kernel)
  have hinX6 : ∀ w ∈ u_ws RX6 TX6 7, w ∈ wsX6_batch := by decide +kernel
  have kf56 : (Cond.fieldLink RX6 56 "BenchRuns$Batch" "roundCount" "I").before (#[.ref (ad 0), .int b, .int d] : Array Value) s = true := hts _ (by decide +kernel)
  have hinX0 : ∀ w ∈ u_ws RX0 TX0 3, w ∈ wsX6_batch := by decide +kernel
  refine lv_iload_n hx hb dX6_batch_0 rfl (lv_at hl 1 rfl) ?_
  refine lv_iconst (v := 0) hx hb dX6_batch_1 (by decide) ?_
  refine lv_iconst (v := 3) hx hb dX6_batch_2 (by decide) ?_
  refine g_callS (As := [.int b, .int 0, .int 3]) (rest := []) ⟨hx, hb, hml, hown, hts⟩ (c_within l b 0 3) (va_cwS 3 hts gX6_batch_X6_within rfl rfl rfl (by decide +kernel) ⟨by decide, by decide⟩) rfl rfl hl.1 (Nat.le_of_ble_eq_true rfl) dX6_batch_3 ⟨Nat.zero_le _, Nat.zero_le _⟩ ?_
  refine lv_if_eq (tgt := 18) hx hb dX6_batch_6 (by decide) (fun c_1 => ?_) (fun c_1 => ?_)
  · skip
    refine lv_iconst (v := (-1)) hx hb dX6_batch_18 (by decide) ?_
    exact g_iret hx hb hr hlocks hP hS dX6_batch_19 (by unfold cpBatch; rw [if_pos c_1])
  · skip
    have ix_b : vp_in b 4 := (inR_in (by decide) c_1)
    refine lv_iload_n hx hb dX6_batch_9 rfl (lv_at hl 2 rfl) ?_
    refine lv_iconst (v := 0) hx hb dX6_batch_10 (by decide) ?_
    refine lv_iconst (v := 2) hx hb dX6_batch_11 (by decide) ?_
    refine g_callS (As := [.int d, .int 0, .int 2]) (rest := []) ⟨hx, hb, hml, hown, hts⟩ (c_within l d 0 2) (va_cwS 3 hts gX6_batch_X6_within rfl rfl rfl (by decide +kernel) ⟨by decide, by decide⟩) rfl rfl hl.1 (Nat.le_of_ble_eq_true rfl) dX6_batch_12 ⟨Nat.zero_le _, Nat.zero_le _⟩ ?_
    refine lv_if_ne (tgt := 20) hx hb dX6_batch_15 (by decide) (fun c_2 => ?_) (fun c_2 => ?_)
    · skip
      refine lv_aload_n hx hb dX6_batch_20 rfl (lv_at hl 0 rfl) ?_
      refine mw_get (ci := 5) (C := RX6) (T := TX6) (N := 7) (v := .ref (ad 2)) hx hb hts hinX6 hown hK hP 0 (by decide) cF_0 rfl 1 (by decide) kf15 (fun _ h9 => h9) rfl dX6_batch_21 ?_
      refine lv_iload_n hx hb dX6_batch_24 rfl (lv_at hl 1 rfl) ?_
      have ha_3 : (ci b) < 4 := (ci_lt ix_b)
      refine mw_ald (f := fun q => ad (12 + q)) hx hb hK hP 2 (by decide) 2 cF_2 rfl (ci b) ha_3 (by decide) (ci_eq ix_b (by decide)) dX6_batch_25 ?_
      refine mw_get (ci := 0) (C := RX0) (T := TX0) (N := 3) (v := .int (σ (12 + (ci b)) 1)) hx hb hts hinX0 hown hK hP (12 + (ci b)) (cB_bat ha_3) (cF_bat ha_3) rfl 1 (by decide) kf56 (fun _ h9 => h9) rfl dX6_batch_26 ?_
      refine lv_istore_n (lv' := [(3, .int (σ (12 + (ci b)) 1)), (0, .ref (ad 0)), (1, .int b), (2, .int d)]) hx hb dX6_batch_29 rfl hl (by decide) rfl (fun ls hl => ?_)
      refine lv_aload_n hx hb dX6_batch_30 rfl (lv_at hl 1 rfl) ?_
      refine mw_get (ci := 5) (C := RX6) (T := TX6) (N := 7) (v := .ref (ad 2)) hx hb hts hinX6 hown hK hP 0 (by decide) cF_0 rfl 1 (by decide) kf15 (fun _ h9 => h9) rfl dX6_batch_31 ?_
      refine lv_iload_n hx hb dX6_batch_34 rfl (lv_at hl 2 rfl) ?_
      have ha_4 : (ci b) < 4 := (ci_lt ix_b)
      refine mw_ald (f := fun q => ad (12 + q)) hx hb hK hP 2 (by decide) 2 cF_2 rfl (ci b) ha_4 (by decide) (ci_eq ix_b (by decide)) dX6_batch_35 ?_
      refine lv_iload_n hx hb dX6_batch_36 rfl (lv_at hl 3 rfl) ?_
      refine g_callV (As := [.int d]) (rest := []) (N := 3) (T := TX0) (ci := 0) ⟨hx, hb, hml, hown, hts⟩ (12 + (ci b)) (c_batBegin l D cy ad wy mt hj σ (ci b) ha_4 d) (cwV 1 hts gX6_batch_X0_beginAnew rfl rfl rfl (by decide +kernel) ⟨by decide, by decide⟩) h0 hP hS (cB_bat ha_4) (cF_bat ha_4) rfl rfl rfl hl.1 (Nat.le_of_ble_eq_true rfl) dX6_batch_37 ⟨Nat.zero_le _, Nat.zero_le _⟩ (fun H locs hP hS => ?_)
      refine lv_iload_n hx hb dX6_batch_40 rfl (lv_at hl 0 rfl) ?_
      exact g_iret hx hb hr hlocks hP hS dX6_batch_41 (by unfold cpBatch; rw [if_neg c_1, if_neg c_2])
    · skip
      refine lv_iconst (v := (-1)) hx hb dX6_batch_18 (by decide) ?_
      exact g_iret hx hb hr hlocks hP hS dX6_batch_19 (by unfold cpBatch; rw [if_neg c_1, if_pos c_2])

def cpRound (σ : Mem) (b d : Int32) : Int32 × Mem :=
  if inR b 0 3 = 0 then ((-1), σ)
  else if inR d 0 9 = 0 then ((-1), σ)
  else ((cAddRound σ (ci b) d).1, (cAddRound σ (ci b) d).2)
set_option maxHeartbeats 4000000 in
set_option maxRecDepth 100000 in
theorem c_round (l : Launch) (D : va_G) (cy : Nat → ClassId) (ad wy : Nat → Nat) (mt : Nat) (hj : mJ 98 ad) (σ : Mem) (b d : Int32) (hR : cR σ) : Met l yX6_round wsX6_round ({ frames := 2, cells := 0, slots := 0, locals := 42 }) (va_Pc [.ref (ad 0), .int b, .int d] (gPre 98 ad (cF ad cy) D cy wy mt σ)) (gQ 98 ad (cF ad cy) D (some (.int (cpRound σ b d).1)) (cpRound σ b d).2) 0 0 (mA 98 ad) := by
  refine g_met (cc := cX6_round) (maxL := 3) (ret := (some .int)) (by decide) rfl (Nat.le_of_ble_eq_true rfl) ?_
  intro p e s m below meth c S hr hlocks h0 ls hl
  obtain ⟨hx, hb, hml, hown, hts⟩ := S
  have hP := h0.1
  have hK := h0.2.1
  have hS : va_S (mA 98 ad) s.heap s.heap [] := va_S.rf
  have hl : lv_has ls 3 [(0, .ref (ad 0)), (1, .int b), (2, .int d)] := hl
  have kf15 : (Cond.fieldLink RX6 15 "BenchRuns" "batches" "[LBenchRuns$Batch;").before (#[.ref (ad 0), .int b, .int d] : Array Value) s = true := hts _ (by decide +kernel)
  have hinX6 : ∀ w ∈ u_ws RX6 TX6 7, w ∈ wsX6_round := by decide +kernel
  refine lv_iload_n hx hb dX6_round_0 rfl (lv_at hl 1 rfl) ?_
  refine lv_iconst (v := 0) hx hb dX6_round_1 (by decide) ?_
  refine lv_iconst (v := 3) hx hb dX6_round_2 (by decide) ?_
  refine g_callS (As := [.int b, .int 0, .int 3]) (rest := []) ⟨hx, hb, hml, hown, hts⟩ (c_within l b 0 3) (va_cwS 3 hts gX6_round_X6_within rfl rfl rfl (by decide +kernel) ⟨by decide, by decide⟩) rfl rfl hl.1 (Nat.le_of_ble_eq_true rfl) dX6_round_3 ⟨Nat.zero_le _, Nat.zero_le _⟩ ?_
  refine lv_if_eq (tgt := 19) hx hb dX6_round_6 (by decide) (fun c_1 => ?_) (fun c_1 => ?_)
  · skip
    refine lv_iconst (v := (-1)) hx hb dX6_round_19 (by decide) ?_
    exact g_iret hx hb hr hlocks hP hS dX6_round_20 (by unfold cpRound; rw [if_pos c_1])
  · skip
    have ix_b : vp_in b 4 := (inR_in (by decide) c_1)
    refine lv_iload_n hx hb dX6_round_9 rfl (lv_at hl 2 rfl) ?_
    refine lv_iconst (v := 0) hx hb dX6_round_10 (by decide) ?_
    refine lv_bipush (v := 9) hx hb dX6_round_11 (by decide) ?_
    refine g_callS (As := [.int d, .int 0, .int 9]) (rest := []) ⟨hx, hb, hml, hown, hts⟩ (c_within l d 0 9) (va_cwS 3 hts gX6_round_X6_within rfl rfl rfl (by decide +kernel) ⟨by decide, by decide⟩) rfl rfl hl.1 (Nat.le_of_ble_eq_true rfl) dX6_round_13 ⟨Nat.zero_le _, Nat.zero_le _⟩ ?_
    refine lv_if_ne (tgt := 21) hx hb dX6_round_16 (by decide) (fun c_2 => ?_) (fun c_2 => ?_)
    · skip
      refine lv_aload_n hx hb dX6_round_21 rfl (lv_at hl 0 rfl) ?_
      refine mw_get (ci := 5) (C := RX6) (T := TX6) (N := 7) (v := .ref (ad 2)) hx hb hts hinX6 hown hK hP 0 (by decide) cF_0 rfl 1 (by decide) kf15 (fun _ h9 => h9) rfl dX6_round_22 ?_
      refine lv_iload_n hx hb dX6_round_25 rfl (lv_at hl 1 rfl) ?_
      have ha_3 : (ci b) < 4 := (ci_lt ix_b)
      refine mw_ald (f := fun q => ad (12 + q)) hx hb hK hP 2 (by decide) 2 cF_2 rfl (ci b) ha_3 (by decide) (ci_eq ix_b (by decide)) dX6_round_26 ?_
      refine lv_iload_n hx hb dX6_round_27 rfl (lv_at hl 2 rfl) ?_
      refine g_callV (As := [.int d]) (rest := []) (N := 3) (T := TX0) (ci := 0) ⟨hx, hb, hml, hown, hts⟩ (12 + (ci b)) (c_addRound l D cy ad wy mt hj σ (ci b) ha_3 d (rc_lt hR (ci_lt ix_b))) (cwV 1 hts gX6_round_X0_addRound rfl rfl rfl (by decide +kernel) ⟨by decide, by decide⟩) h0 hP hS (cB_bat ha_3) (cF_bat ha_3) rfl rfl rfl hl.1 (Nat.le_of_ble_eq_true rfl) dX6_round_28 ⟨Nat.zero_le _, Nat.zero_le _⟩ (fun H locs hP hS => ?_)
      exact g_iret hx hb hr hlocks hP hS dX6_round_31 (by unfold cpRound; rw [if_neg c_1, if_neg c_2])
    · skip
      refine lv_iconst (v := (-1)) hx hb dX6_round_19 (by decide) ?_
      exact g_iret hx hb hr hlocks hP hS dX6_round_20 (by unfold cpRound; rw [if_neg c_1, if_pos c_2])

def cpStep (σ : Mem) (b kd n : Int32) : Int32 × Mem :=
  if inR b 0 3 = 0 then ((-1), σ)
  else if inR kd 0 17 = 0 then ((-1), σ)
  else if inR n 0 (mostL.getD (ci kd) 0) = 0 then ((-1), σ)
  else if σ (12 + (ci b)) 1 = 0 then ((-3), σ)
  else ((cAddStep σ (6 * (ci b) + (ci ((σ (12 + (ci b)) 1) - 1))) kd n).1, (cAddStep σ (6 * (ci b) + (ci ((σ (12 + (ci b)) 1) - 1))) kd n).2)
set_option maxHeartbeats 4000000 in
set_option maxRecDepth 100000 in
theorem c_step (l : Launch) (D : va_G) (cy : Nat → ClassId) (ad wy : Nat → Nat) (mt : Nat) (hj : mJ 98 ad) (σ : Mem) (b kd n : Int32) (hR : cR σ) : Met l yX6_step wsX6_step ({ frames := 1, cells := 0, slots := 0, locals := 22 }) (va_Pc [.ref (ad 0), .int b, .int kd, .int n] (gPre 98 ad (cF ad cy) D cy wy mt σ)) (gQ 98 ad (cF ad cy) D (some (.int (cpStep σ b kd n).1)) (cpStep σ b kd n).2) 0 0 (mA 98 ad) := by
  refine g_met (cc := cX6_step) (maxL := 5) (ret := (some .int)) (by decide) rfl (Nat.le_of_ble_eq_true rfl) ?_
  intro p e s m below meth c S hr hlocks h0 ls hl
  obtain ⟨hx, hb, hml, hown, hts⟩ := S
  have hP := h0.1
  have hK := h0.2.1
  have hS : va_S (mA 98 ad) s.heap s.heap [] := va_S.rf
  have hl : lv_has ls 5 [(0, .ref (ad 0)), (1, .int b), (2, .int kd), (3, .int n)] := hl
  have kf66 : (Cond.fieldLink RX6 66 "BenchRuns" "MOST_N" "[I").before (#[.ref (ad 0), .int b, .int kd, .int n] : Array Value) s = true := hts _ (by decide +kernel)
  have kf15 : (Cond.fieldLink RX6 15 "BenchRuns" "batches" "[LBenchRuns$Batch;").before (#[.ref (ad 0), .int b, .int kd, .int n] : Array Value) s = true := hts _ (by decide +kernel)
  have hinX6 : ∀ w ∈ u_ws RX6 TX6 7, w ∈ wsX6_step := by decide +kernel
  have kf56 : (Cond.fieldLink RX6 56 "BenchRuns$Batch" "roundCount" "I").before (#[.ref (ad 0), .int b, .int kd, .int n] : Array Value) s = true := hts _ (by decide +kernel)
  have hinX0 : ∀ w ∈ u_ws RX0 TX0 3, w ∈ wsX6_step := by decide +kernel
  have kf69 : (Cond.fieldLink RX6 69 "BenchRuns$Batch" "rounds" "[LBenchRuns$Round;").before (#[.ref (ad 0), .int b, .int kd, .int n] : Array Value) s = true := hts _ (by decide +kernel)
  refine lv_iload_n hx hb dX6_step_0 rfl (lv_at hl 1 rfl) ?_
  refine lv_iconst (v := 0) hx hb dX6_step_1 (by decide) ?_
  refine lv_iconst (v := 3) hx hb dX6_step_2 (by decide) ?_
  refine g_callS (As := [.int b, .int 0, .int 3]) (rest := []) ⟨hx, hb, hml, hown, hts⟩ (c_within l b 0 3) (va_cwS 3 hts gX6_step_X6_within rfl rfl rfl (by decide +kernel) ⟨by decide, by decide⟩) rfl rfl hl.1 (Nat.le_of_ble_eq_true rfl) dX6_step_3 ⟨Nat.zero_le _, Nat.zero_le _⟩ ?_
  refine lv_if_eq (tgt := 32) hx hb dX6_step_6 (by decide) (fun c_1 => ?_) (fun c_1 => ?_)
  · skip
    refine lv_iconst (v := (-1)) hx hb dX6_step_32 (by decide) ?_
    exact g_iret hx hb hr hlocks hP hS dX6_step_33 (by unfold cpStep; rw [if_pos c_1])
  · skip
    have ix_b : vp_in b 4 := (inR_in (by decide) c_1)
    refine lv_iload_n hx hb dX6_step_9 rfl (lv_at hl 2 rfl) ?_
    refine lv_iconst (v := 0) hx hb dX6_step_10 (by decide) ?_
    refine lv_bipush (v := 17) hx hb dX6_step_11 (by decide) ?_
    refine g_callS (As := [.int kd, .int 0, .int 17]) (rest := []) ⟨hx, hb, hml, hown, hts⟩ (c_within l kd 0 17) (va_cwS 3 hts gX6_step_X6_within rfl rfl rfl (by decide +kernel) ⟨by decide, by decide⟩) rfl rfl hl.1 (Nat.le_of_ble_eq_true rfl) dX6_step_13 ⟨Nat.zero_le _, Nat.zero_le _⟩ ?_
    refine lv_if_eq (tgt := 32) hx hb dX6_step_16 (by decide) (fun c_2 => ?_) (fun c_2 => ?_)
    · skip
      refine lv_iconst (v := (-1)) hx hb dX6_step_32 (by decide) ?_
      exact g_iret hx hb hr hlocks hP hS dX6_step_33 (by unfold cpStep; rw [if_neg c_1, if_pos c_2])
    · skip
      have ix_kd : vp_in kd 18 := (inR_in (by decide) c_2)
      refine lv_iload_n hx hb dX6_step_19 rfl (lv_at hl 3 rfl) ?_
      refine lv_iconst (v := 0) hx hb dX6_step_20 (by decide) ?_
      refine g_most hx hb h0 hS hown kf66 dX6_step_21 ?_
      refine lv_iload_n hx hb dX6_step_24 rfl (lv_at hl 2 rfl) ?_
      refine g_mostAt hx hb h0 hS (ci kd) (ci_lt ix_kd) (ci_eq ix_kd (by decide)) dX6_step_25 ?_
      refine g_callS (As := [.int n, .int 0, .int (mostL.getD (ci kd) 0)]) (rest := []) ⟨hx, hb, hml, hown, hts⟩ (c_within l n 0 (mostL.getD (ci kd) 0)) (va_cwS 3 hts gX6_step_X6_within rfl rfl rfl (by decide +kernel) ⟨by decide, by decide⟩) rfl rfl hl.1 (Nat.le_of_ble_eq_true rfl) dX6_step_26 ⟨Nat.zero_le _, Nat.zero_le _⟩ ?_
      refine lv_if_ne (tgt := 34) hx hb dX6_step_29 (by decide) (fun c_3 => ?_) (fun c_3 => ?_)
      · skip
        refine lv_aload_n hx hb dX6_step_34 rfl (lv_at hl 0 rfl) ?_
        refine mw_get (ci := 5) (C := RX6) (T := TX6) (N := 7) (v := .ref (ad 2)) hx hb hts hinX6 hown hK hP 0 (by decide) cF_0 rfl 1 (by decide) kf15 (fun _ h9 => h9) rfl dX6_step_35 ?_
        refine lv_iload_n hx hb dX6_step_38 rfl (lv_at hl 1 rfl) ?_
        have ha_4 : (ci b) < 4 := (ci_lt ix_b)
        refine mw_ald (f := fun q => ad (12 + q)) hx hb hK hP 2 (by decide) 2 cF_2 rfl (ci b) ha_4 (by decide) (ci_eq ix_b (by decide)) dX6_step_39 ?_
        refine mw_get (ci := 0) (C := RX0) (T := TX0) (N := 3) (v := .int (σ (12 + (ci b)) 1)) hx hb hts hinX0 hown hK hP (12 + (ci b)) (cB_bat ha_4) (cF_bat ha_4) rfl 1 (by decide) kf56 (fun _ h9 => h9) rfl dX6_step_40 ?_
        refine lv_istore (lv' := [(4, .int (σ (12 + (ci b)) 1)), (0, .ref (ad 0)), (1, .int b), (2, .int kd), (3, .int n)]) hx hb dX6_step_43 hl (by decide) rfl (fun ls hl => ?_)
        refine lv_iload hx hb dX6_step_45 (lv_at hl 0 rfl) ?_
        refine lv_if_ne (tgt := 53) hx hb dX6_step_47 (by decide) (fun c_5 => ?_) (fun c_5 => ?_)
        · skip
          have ix_r : vp_in (σ (12 + (ci b)) 1 - 1) 6 := rc_in hR (ci_lt ix_b) c_5
          refine lv_aload_n hx hb dX6_step_53 rfl (lv_at hl 1 rfl) ?_
          refine mw_get (ci := 5) (C := RX6) (T := TX6) (N := 7) (v := .ref (ad 2)) hx hb hts hinX6 hown hK hP 0 (by decide) cF_0 rfl 1 (by decide) kf15 (fun _ h9 => h9) rfl dX6_step_54 ?_
          refine lv_iload_n hx hb dX6_step_57 rfl (lv_at hl 2 rfl) ?_
          have ha_6 : (ci b) < 4 := (ci_lt ix_b)
          refine mw_ald (f := fun q => ad (12 + q)) hx hb hK hP 2 (by decide) 2 cF_2 rfl (ci b) ha_6 (by decide) (ci_eq ix_b (by decide)) dX6_step_58 ?_
          refine mw_get (ci := 0) (C := RX0) (T := TX0) (N := 3) (v := .ref (ad (16 + (ci b)))) hx hb hts hinX0 hown hK hP (12 + (ci b)) (cB_bat ha_6) (cF_bat ha_6) rfl 0 (by decide) kf69 (fun _ h9 => h9) rfl dX6_step_59 ?_
          refine lv_iload hx hb dX6_step_62 (lv_at hl 0 rfl) ?_
          refine lv_iconst (v := 1) hx hb dX6_step_64 (by decide) ?_
          refine lv_isub hx hb dX6_step_65 ?_
          have ha_7 : (ci ((σ (12 + (ci b)) 1) - 1)) < 6 := (ci_lt ix_r)
          refine mw_ald (f := fun q => ad (26 + (6 * (ci b) + q))) hx hb hK hP (16 + (ci b)) (cB_row ha_6) 3 (cF_row ha_6) rfl (ci ((σ (12 + (ci b)) 1) - 1)) ha_7 (by decide) (ci_eq ix_r (by decide)) dX6_step_66 ?_
          refine lv_iload_n hx hb dX6_step_67 rfl (lv_at hl 3 rfl) ?_
          refine lv_iload_n hx hb dX6_step_68 rfl (lv_at hl 4 rfl) ?_
          refine g_callV (As := [.int kd, .int n]) (rest := []) (N := 4) (T := TX2) (ci := 2) ⟨hx, hb, hml, hown, hts⟩ (26 + (6 * (ci b) + (ci ((σ (12 + (ci b)) 1) - 1)))) (c_addStep l D cy ad wy mt hj σ (6 * (ci b) + (ci ((σ (12 + (ci b)) 1) - 1))) (cB_q ha_6 ha_7) kd n (sc_lt hR (cB_q (ci_lt ix_b) (ci_lt ix_r)))) (cwV 2 hts gX6_step_X2_addStep rfl rfl rfl (by decide +kernel) ⟨by decide, by decide⟩) h0 hP hS (cB_rnd (cB_q ha_6 ha_7)) (cF_rnd (cB_q ha_6 ha_7)) rfl rfl rfl hl.1 (Nat.le_of_ble_eq_true rfl) dX6_step_69 ⟨Nat.zero_le _, Nat.zero_le _⟩ (fun H locs hP hS => ?_)
          exact g_iret hx hb hr hlocks hP hS dX6_step_72 (by unfold cpStep; rw [if_neg c_1, if_neg c_2, if_neg c_3, if_neg c_5])
        · skip
          refine lv_bipush (v := (-3)) hx hb dX6_step_50 (by decide) ?_
          exact g_iret hx hb hr hlocks hP hS dX6_step_52 (by unfold cpStep; rw [if_neg c_1, if_neg c_2, if_neg c_3, if_pos c_5])
      · skip
        refine lv_iconst (v := (-1)) hx hb dX6_step_32 (by decide) ?_
        exact g_iret hx hb hr hlocks hP hS dX6_step_33 (by unfold cpStep; rw [if_neg c_1, if_neg c_2, if_pos c_3])

def cpTool (σ : Mem) (t d : Int32) : Int32 × Mem :=
  if inR t 0 5 = 0 then ((-1), σ)
  else if inR d (-1) 1 = 0 then ((-1), σ)
  else (orN (σ (20 + (ci t)) 0), cToolBegin σ (ci t) d)
set_option maxHeartbeats 4000000 in
set_option maxRecDepth 100000 in
theorem c_tool (l : Launch) (D : va_G) (cy : Nat → ClassId) (ad wy : Nat → Nat) (mt : Nat) (hj : mJ 98 ad) (σ : Mem) (t d : Int32)  : Met l yX6_tool wsX6_tool ({ frames := 1, cells := 0, slots := 0, locals := 22 }) (va_Pc [.ref (ad 0), .int t, .int d] (gPre 98 ad (cF ad cy) D cy wy mt σ)) (gQ 98 ad (cF ad cy) D (some (.int (cpTool σ t d).1)) (cpTool σ t d).2) 0 0 (mA 98 ad) := by
  refine g_met (cc := cX6_tool) (maxL := 4) (ret := (some .int)) (by decide) rfl (Nat.le_of_ble_eq_true rfl) ?_
  intro p e s m below meth c S hr hlocks h0 ls hl
  obtain ⟨hx, hb, hml, hown, hts⟩ := S
  have hP := h0.1
  have hK := h0.2.1
  have hS : va_S (mA 98 ad) s.heap s.heap [] := va_S.rf
  have hl : lv_has ls 4 [(0, .ref (ad 0)), (1, .int t), (2, .int d)] := hl
  have kf21 : (Cond.fieldLink RX6 21 "BenchRuns" "tools" "[LBenchRuns$Tool;").before (#[.ref (ad 0), .int t, .int d] : Array Value) s = true := hts _ (by decide +kernel)
  have hinX6 : ∀ w ∈ u_ws RX6 TX6 7, w ∈ wsX6_tool := by decide +kernel
  have kf79 : (Cond.fieldLink RX6 79 "BenchRuns$Tool" "sort" "I").before (#[.ref (ad 0), .int t, .int d] : Array Value) s = true := hts _ (by decide +kernel)
  have hinX4 : ∀ w ∈ u_ws RX4 TX4 3, w ∈ wsX6_tool := by decide +kernel
  refine lv_iload_n hx hb dX6_tool_0 rfl (lv_at hl 1 rfl) ?_
  refine lv_iconst (v := 0) hx hb dX6_tool_1 (by decide) ?_
  refine lv_iconst (v := 5) hx hb dX6_tool_2 (by decide) ?_
  refine g_callS (As := [.int t, .int 0, .int 5]) (rest := []) ⟨hx, hb, hml, hown, hts⟩ (c_within l t 0 5) (va_cwS 3 hts gX6_tool_X6_within rfl rfl rfl (by decide +kernel) ⟨by decide, by decide⟩) rfl rfl hl.1 (Nat.le_of_ble_eq_true rfl) dX6_tool_3 ⟨Nat.zero_le _, Nat.zero_le _⟩ ?_
  refine lv_if_eq (tgt := 18) hx hb dX6_tool_6 (by decide) (fun c_1 => ?_) (fun c_1 => ?_)
  · skip
    refine lv_iconst (v := (-1)) hx hb dX6_tool_18 (by decide) ?_
    exact g_iret hx hb hr hlocks hP hS dX6_tool_19 (by unfold cpTool; rw [if_pos c_1])
  · skip
    have ix_t : vp_in t 6 := (inR_in (by decide) c_1)
    refine lv_iload_n hx hb dX6_tool_9 rfl (lv_at hl 2 rfl) ?_
    refine lv_iconst (v := (-1)) hx hb dX6_tool_10 (by decide) ?_
    refine lv_iconst (v := 1) hx hb dX6_tool_11 (by decide) ?_
    refine g_callS (As := [.int d, .int (-1), .int 1]) (rest := []) ⟨hx, hb, hml, hown, hts⟩ (c_within l d (-1) 1) (va_cwS 3 hts gX6_tool_X6_within rfl rfl rfl (by decide +kernel) ⟨by decide, by decide⟩) rfl rfl hl.1 (Nat.le_of_ble_eq_true rfl) dX6_tool_12 ⟨Nat.zero_le _, Nat.zero_le _⟩ ?_
    refine lv_if_ne (tgt := 20) hx hb dX6_tool_15 (by decide) (fun c_2 => ?_) (fun c_2 => ?_)
    · skip
      refine lv_aload_n hx hb dX6_tool_20 rfl (lv_at hl 0 rfl) ?_
      refine mw_get (ci := 5) (C := RX6) (T := TX6) (N := 7) (v := .ref (ad 3)) hx hb hts hinX6 hown hK hP 0 (by decide) cF_0 rfl 2 (by decide) kf21 (fun _ h9 => h9) rfl dX6_tool_21 ?_
      refine lv_iload_n hx hb dX6_tool_24 rfl (lv_at hl 1 rfl) ?_
      have ha_3 : (ci t) < 6 := (ci_lt ix_t)
      refine mw_ald (f := fun q => ad (20 + q)) hx hb hK hP 3 (by decide) 4 cF_3 rfl (ci t) ha_3 (by decide) (ci_eq ix_t (by decide)) dX6_tool_25 ?_
      refine mw_get (ci := 4) (C := RX4) (T := TX4) (N := 3) (v := .int (σ (20 + (ci t)) 0)) hx hb hts hinX4 hown hK hP (20 + (ci t)) (cB_tool ha_3) (cF_tool ha_3) rfl 0 (by decide) kf79 (fun _ h9 => h9) rfl dX6_tool_26 ?_
      refine g_callS (As := [.int (σ (20 + (ci t)) 0)]) (rest := []) ⟨hx, hb, hml, hown, hts⟩ (c_orNone l (σ (20 + (ci t)) 0)) (va_cwS 1 hts gX6_tool_X6_orNone rfl rfl rfl (by decide +kernel) ⟨by decide, by decide⟩) rfl rfl hl.1 (Nat.le_of_ble_eq_true rfl) dX6_tool_29 ⟨Nat.zero_le _, Nat.zero_le _⟩ ?_
      refine lv_istore_n (lv' := [(3, .int (orN (σ (20 + (ci t)) 0))), (0, .ref (ad 0)), (1, .int t), (2, .int d)]) hx hb dX6_tool_32 rfl hl (by decide) rfl (fun ls hl => ?_)
      refine lv_aload_n hx hb dX6_tool_33 rfl (lv_at hl 1 rfl) ?_
      refine mw_get (ci := 5) (C := RX6) (T := TX6) (N := 7) (v := .ref (ad 3)) hx hb hts hinX6 hown hK hP 0 (by decide) cF_0 rfl 2 (by decide) kf21 (fun _ h9 => h9) rfl dX6_tool_34 ?_
      refine lv_iload_n hx hb dX6_tool_37 rfl (lv_at hl 2 rfl) ?_
      have ha_4 : (ci t) < 6 := (ci_lt ix_t)
      refine mw_ald (f := fun q => ad (20 + q)) hx hb hK hP 3 (by decide) 4 cF_3 rfl (ci t) ha_4 (by decide) (ci_eq ix_t (by decide)) dX6_tool_38 ?_
      refine lv_iload_n hx hb dX6_tool_39 rfl (lv_at hl 3 rfl) ?_
      refine g_callV (As := [.int d]) (rest := []) (N := 3) (T := TX4) (ci := 4) ⟨hx, hb, hml, hown, hts⟩ (20 + (ci t)) (c_toolBegin l D cy ad wy mt hj σ (ci t) ha_4 d) (cwV 1 hts gX6_tool_X4_beginAnew rfl rfl rfl (by decide +kernel) ⟨by decide, by decide⟩) h0 hP hS (cB_tool ha_4) (cF_tool ha_4) rfl rfl rfl hl.1 (Nat.le_of_ble_eq_true rfl) dX6_tool_40 ⟨Nat.zero_le _, Nat.zero_le _⟩ (fun H locs hP hS => ?_)
      refine lv_iload_n hx hb dX6_tool_43 rfl (lv_at hl 0 rfl) ?_
      exact g_iret hx hb hr hlocks hP hS dX6_tool_44 (by unfold cpTool; rw [if_neg c_1, if_neg c_2])
    · skip
      refine lv_iconst (v := (-1)) hx hb dX6_tool_18 (by decide) ?_
      exact g_iret hx hb hr hlocks hP hS dX6_tool_19 (by unfold cpTool; rw [if_neg c_1, if_pos c_2])

def cpLay (σ : Mem) (k d : Int32) : Int32 × Mem :=
  if inR k 0 3 = 0 then ((-1), σ)
  else if inR d 0 99 = 0 then ((-1), σ)
  else (σ 4 (ci k), mset σ 4 (ci k) d)
set_option maxHeartbeats 4000000 in
set_option maxRecDepth 100000 in
theorem c_lay (l : Launch) (D : va_G) (cy : Nat → ClassId) (ad wy : Nat → Nat) (mt : Nat) (hj : mJ 98 ad) (σ : Mem) (k d : Int32)  : Met l yX6_lay wsX6_lay ({ frames := 1, cells := 0, slots := 0, locals := 22 }) (va_Pc [.ref (ad 0), .int k, .int d] (gPre 98 ad (cF ad cy) D cy wy mt σ)) (gQ 98 ad (cF ad cy) D (some (.int (cpLay σ k d).1)) (cpLay σ k d).2) 0 0 (mA 98 ad) := by
  refine g_met (cc := cX6_lay) (maxL := 4) (ret := (some .int)) (by decide) rfl (Nat.le_of_ble_eq_true rfl) ?_
  intro p e s m below meth c S hr hlocks h0 ls hl
  obtain ⟨hx, hb, hml, hown, hts⟩ := S
  have hP := h0.1
  have hK := h0.2.1
  have hS : va_S (mA 98 ad) s.heap s.heap [] := va_S.rf
  have hl : lv_has ls 4 [(0, .ref (ad 0)), (1, .int k), (2, .int d)] := hl
  have kf25 : (Cond.fieldLink RX6 25 "BenchRuns" "laid" "[I").before (#[.ref (ad 0), .int k, .int d] : Array Value) s = true := hts _ (by decide +kernel)
  have hinX6 : ∀ w ∈ u_ws RX6 TX6 7, w ∈ wsX6_lay := by decide +kernel
  refine lv_iload_n hx hb dX6_lay_0 rfl (lv_at hl 1 rfl) ?_
  refine lv_iconst (v := 0) hx hb dX6_lay_1 (by decide) ?_
  refine lv_iconst (v := 3) hx hb dX6_lay_2 (by decide) ?_
  refine g_callS (As := [.int k, .int 0, .int 3]) (rest := []) ⟨hx, hb, hml, hown, hts⟩ (c_within l k 0 3) (va_cwS 3 hts gX6_lay_X6_within rfl rfl rfl (by decide +kernel) ⟨by decide, by decide⟩) rfl rfl hl.1 (Nat.le_of_ble_eq_true rfl) dX6_lay_3 ⟨Nat.zero_le _, Nat.zero_le _⟩ ?_
  refine lv_if_eq (tgt := 19) hx hb dX6_lay_6 (by decide) (fun c_1 => ?_) (fun c_1 => ?_)
  · skip
    refine lv_iconst (v := (-1)) hx hb dX6_lay_19 (by decide) ?_
    exact g_iret hx hb hr hlocks hP hS dX6_lay_20 (by unfold cpLay; rw [if_pos c_1])
  · skip
    have ix_k : vp_in k 4 := (inR_in (by decide) c_1)
    refine lv_iload_n hx hb dX6_lay_9 rfl (lv_at hl 2 rfl) ?_
    refine lv_iconst (v := 0) hx hb dX6_lay_10 (by decide) ?_
    refine lv_bipush (v := 99) hx hb dX6_lay_11 (by decide) ?_
    refine g_callS (As := [.int d, .int 0, .int 99]) (rest := []) ⟨hx, hb, hml, hown, hts⟩ (c_within l d 0 99) (va_cwS 3 hts gX6_lay_X6_within rfl rfl rfl (by decide +kernel) ⟨by decide, by decide⟩) rfl rfl hl.1 (Nat.le_of_ble_eq_true rfl) dX6_lay_13 ⟨Nat.zero_le _, Nat.zero_le _⟩ ?_
    refine lv_if_ne (tgt := 21) hx hb dX6_lay_16 (by decide) (fun c_2 => ?_) (fun c_2 => ?_)
    · skip
      refine lv_aload_n hx hb dX6_lay_21 rfl (lv_at hl 0 rfl) ?_
      refine mw_get (ci := 5) (C := RX6) (T := TX6) (N := 7) (v := .ref (ad 4)) hx hb hts hinX6 hown hK hP 0 (by decide) cF_0 rfl 3 (by decide) kf25 (fun _ h9 => h9) rfl dX6_lay_22 ?_
      refine lv_iload_n hx hb dX6_lay_25 rfl (lv_at hl 1 rfl) ?_
      refine mw_ild hx hb hK hP 4 (by decide) 0 cF_4 rfl (ci k) (ci_lt ix_k) (by decide) (ci_eq ix_k (by decide)) dX6_lay_26 ?_
      refine lv_istore_n (lv' := [(3, .int (σ 4 (ci k))), (0, .ref (ad 0)), (1, .int k), (2, .int d)]) hx hb dX6_lay_27 rfl hl (by decide) rfl (fun ls hl => ?_)
      refine lv_aload_n hx hb dX6_lay_28 rfl (lv_at hl 1 rfl) ?_
      refine mw_get (ci := 5) (C := RX6) (T := TX6) (N := 7) (v := .ref (ad 4)) hx hb hts hinX6 hown hK hP 0 (by decide) cF_0 rfl 3 (by decide) kf25 (fun _ h9 => h9) rfl dX6_lay_29 ?_
      refine lv_iload_n hx hb dX6_lay_32 rfl (lv_at hl 2 rfl) ?_
      refine lv_iload_n hx hb dX6_lay_33 rfl (lv_at hl 3 rfl) ?_
      refine mw_ist hx hb hK hj hP hS 4 (by decide) 0 cF_4 rfl (ci k) (ci_lt ix_k) (by decide) (ci_eq ix_k (by decide)) dX6_lay_34 (fun H locs hP hS => ?_)
      refine lv_iload_n hx hb dX6_lay_35 rfl (lv_at hl 0 rfl) ?_
      exact g_iret hx hb hr hlocks hP hS dX6_lay_36 (by unfold cpLay; rw [if_neg c_1, if_neg c_2])
    · skip
      refine lv_iconst (v := (-1)) hx hb dX6_lay_19 (by decide) ?_
      exact g_iret hx hb hr hlocks hP hS dX6_lay_20 (by unfold cpLay; rw [if_neg c_1, if_pos c_2])

def cpAbout (σ : Mem) (t d : Int32) : Int32 :=
  if inR t 0 5 = 0 then (-1)
  else if inR d 0 2 = 0 then (-1)
  else if σ (20 + (ci t)) 0 = (-1) then (-3)
  else if d = 2 then σ (20 + (ci t)) 0
  else if d = 1 then σ (20 + (ci t)) 2
  else σ (20 + (ci t)) 1
set_option maxHeartbeats 4000000 in
set_option maxRecDepth 100000 in
theorem c_about (l : Launch) (D : va_G) (cy : Nat → ClassId) (ad wy : Nat → Nat) (mt : Nat) (hj : mJ 98 ad) (σ : Mem) (t d : Int32)  : Met l yX6_about wsX6_about ({ frames := 1, cells := 0, slots := 0, locals := 22 }) (va_Pc [.ref (ad 0), .int t, .int d] (gPre 98 ad (cF ad cy) D cy wy mt σ)) (gQ 98 ad (cF ad cy) D (some (.int (cpAbout σ t d))) σ) 0 0 (mA 98 ad) := by
  refine g_met (cc := cX6_about) (maxL := 4) (ret := (some .int)) (by decide) rfl (Nat.le_of_ble_eq_true rfl) ?_
  intro p e s m below meth c S hr hlocks h0 ls hl
  obtain ⟨hx, hb, hml, hown, hts⟩ := S
  have hP := h0.1
  have hK := h0.2.1
  have hS : va_S (mA 98 ad) s.heap s.heap [] := va_S.rf
  have hl : lv_has ls 4 [(0, .ref (ad 0)), (1, .int t), (2, .int d)] := hl
  have kf21 : (Cond.fieldLink RX6 21 "BenchRuns" "tools" "[LBenchRuns$Tool;").before (#[.ref (ad 0), .int t, .int d] : Array Value) s = true := hts _ (by decide +kernel)
  have hinX6 : ∀ w ∈ u_ws RX6 TX6 7, w ∈ wsX6_about := by decide +kernel
  have kf79 : (Cond.fieldLink RX6 79 "BenchRuns$Tool" "sort" "I").before (#[.ref (ad 0), .int t, .int d] : Array Value) s = true := hts _ (by decide +kernel)
  have hinX4 : ∀ w ∈ u_ws RX4 TX4 3, w ∈ wsX6_about := by decide +kernel
  have kf86 : (Cond.fieldLink RX6 86 "BenchRuns$Tool" "uses" "I").before (#[.ref (ad 0), .int t, .int d] : Array Value) s = true := hts _ (by decide +kernel)
  have kf83 : (Cond.fieldLink RX6 83 "BenchRuns$Tool" "grip" "I").before (#[.ref (ad 0), .int t, .int d] : Array Value) s = true := hts _ (by decide +kernel)
  refine lv_iload_n hx hb dX6_about_0 rfl (lv_at hl 1 rfl) ?_
  refine lv_iconst (v := 0) hx hb dX6_about_1 (by decide) ?_
  refine lv_iconst (v := 5) hx hb dX6_about_2 (by decide) ?_
  refine g_callS (As := [.int t, .int 0, .int 5]) (rest := []) ⟨hx, hb, hml, hown, hts⟩ (c_within l t 0 5) (va_cwS 3 hts gX6_about_X6_within rfl rfl rfl (by decide +kernel) ⟨by decide, by decide⟩) rfl rfl hl.1 (Nat.le_of_ble_eq_true rfl) dX6_about_3 ⟨Nat.zero_le _, Nat.zero_le _⟩ ?_
  refine lv_if_eq (tgt := 18) hx hb dX6_about_6 (by decide) (fun c_1 => ?_) (fun c_1 => ?_)
  · skip
    refine lv_iconst (v := (-1)) hx hb dX6_about_18 (by decide) ?_
    exact g_riret hx hb hr hlocks hP hS dX6_about_19 (by unfold cpAbout; rw [if_pos c_1])
  · skip
    have ix_t : vp_in t 6 := (inR_in (by decide) c_1)
    refine lv_iload_n hx hb dX6_about_9 rfl (lv_at hl 2 rfl) ?_
    refine lv_iconst (v := 0) hx hb dX6_about_10 (by decide) ?_
    refine lv_iconst (v := 2) hx hb dX6_about_11 (by decide) ?_
    refine g_callS (As := [.int d, .int 0, .int 2]) (rest := []) ⟨hx, hb, hml, hown, hts⟩ (c_within l d 0 2) (va_cwS 3 hts gX6_about_X6_within rfl rfl rfl (by decide +kernel) ⟨by decide, by decide⟩) rfl rfl hl.1 (Nat.le_of_ble_eq_true rfl) dX6_about_12 ⟨Nat.zero_le _, Nat.zero_le _⟩ ?_
    refine lv_if_ne (tgt := 20) hx hb dX6_about_15 (by decide) (fun c_2 => ?_) (fun c_2 => ?_)
    · skip
      refine lv_aload_n hx hb dX6_about_20 rfl (lv_at hl 0 rfl) ?_
      refine mw_get (ci := 5) (C := RX6) (T := TX6) (N := 7) (v := .ref (ad 3)) hx hb hts hinX6 hown hK hP 0 (by decide) cF_0 rfl 2 (by decide) kf21 (fun _ h9 => h9) rfl dX6_about_21 ?_
      refine lv_iload_n hx hb dX6_about_24 rfl (lv_at hl 1 rfl) ?_
      have ha_3 : (ci t) < 6 := (ci_lt ix_t)
      refine mw_ald (f := fun q => ad (20 + q)) hx hb hK hP 3 (by decide) 4 cF_3 rfl (ci t) ha_3 (by decide) (ci_eq ix_t (by decide)) dX6_about_25 ?_
      refine lv_astore_n (lv' := [(3, .ref (ad (20 + (ci t)))), (0, .ref (ad 0)), (1, .int t), (2, .int d)]) hx hb dX6_about_26 rfl hl (by decide) rfl (fun ls hl => ?_)
      refine lv_aload_n hx hb dX6_about_27 rfl (lv_at hl 0 rfl) ?_
      refine mw_get (ci := 4) (C := RX4) (T := TX4) (N := 3) (v := .int (σ (20 + (ci t)) 0)) hx hb hts hinX4 hown hK hP (20 + (ci t)) (cB_tool ha_3) (cF_tool ha_3) rfl 0 (by decide) kf79 (fun _ h9 => h9) rfl dX6_about_28 ?_
      refine lv_iconst (v := (-1)) hx hb dX6_about_31 (by decide) ?_
      refine lv_icmp_ne (tgt := 38) hx hb dX6_about_32 (by decide) (fun c_4 => ?_) (fun c_4 => ?_)
      · skip
        refine lv_iload_n hx hb dX6_about_38 rfl (lv_at hl 3 rfl) ?_
        refine lv_iconst (v := 2) hx hb dX6_about_39 (by decide) ?_
        refine lv_icmp_ne (tgt := 48) hx hb dX6_about_40 (by decide) (fun c_5 => ?_) (fun c_5 => ?_)
        · skip
          refine lv_iload_n hx hb dX6_about_48 rfl (lv_at hl 3 rfl) ?_
          refine lv_iconst (v := 1) hx hb dX6_about_49 (by decide) ?_
          refine lv_icmp_ne (tgt := 60) hx hb dX6_about_50 (by decide) (fun c_6 => ?_) (fun c_6 => ?_)
          · skip
            refine lv_aload_n hx hb dX6_about_60 rfl (lv_at hl 0 rfl) ?_
            refine mw_get (ci := 4) (C := RX4) (T := TX4) (N := 3) (v := .int (σ (20 + (ci t)) 1)) hx hb hts hinX4 hown hK hP (20 + (ci t)) (cB_tool ha_3) (cF_tool ha_3) rfl 1 (by decide) kf86 (fun _ h9 => h9) rfl dX6_about_61 ?_
            exact g_riret hx hb hr hlocks hP hS dX6_about_64 (by unfold cpAbout; rw [if_neg c_1, if_neg c_2, if_neg c_4, if_neg c_5, if_neg c_6])
          · skip
            refine lv_aload_n hx hb dX6_about_53 rfl (lv_at hl 0 rfl) ?_
            refine mw_get (ci := 4) (C := RX4) (T := TX4) (N := 3) (v := .int (σ (20 + (ci t)) 2)) hx hb hts hinX4 hown hK hP (20 + (ci t)) (cB_tool ha_3) (cF_tool ha_3) rfl 2 (by decide) kf83 (fun _ h9 => h9) rfl dX6_about_54 ?_
            refine lv_goto (tgt := 64) hx hb dX6_about_57 (by decide) ?_
            exact g_riret hx hb hr hlocks hP hS dX6_about_64 (by unfold cpAbout; rw [if_neg c_1, if_neg c_2, if_neg c_4, if_neg c_5, if_pos c_6])
        · skip
          refine lv_aload_n hx hb dX6_about_43 rfl (lv_at hl 0 rfl) ?_
          refine mw_get (ci := 4) (C := RX4) (T := TX4) (N := 3) (v := .int (σ (20 + (ci t)) 0)) hx hb hts hinX4 hown hK hP (20 + (ci t)) (cB_tool ha_3) (cF_tool ha_3) rfl 0 (by decide) kf79 (fun _ h9 => h9) rfl dX6_about_44 ?_
          exact g_riret hx hb hr hlocks hP hS dX6_about_47 (by unfold cpAbout; rw [if_neg c_1, if_neg c_2, if_neg c_4, if_pos c_5])
      · skip
        refine lv_bipush (v := (-3)) hx hb dX6_about_35 (by decide) ?_
        exact g_riret hx hb hr hlocks hP hS dX6_about_37 (by unfold cpAbout; rw [if_neg c_1, if_neg c_2, if_pos c_4])
    · skip
      refine lv_iconst (v := (-1)) hx hb dX6_about_18 (by decide) ?_
      exact g_riret hx hb hr hlocks hP hS dX6_about_19 (by unfold cpAbout; rw [if_neg c_1, if_pos c_2])

def cpPlaces (σ : Mem) (w : Int32) : Int32 :=
  if inR w 0 3 = 0 then (-1)
  else cSizeOf σ (ci w)
set_option maxHeartbeats 4000000 in
set_option maxRecDepth 100000 in
theorem c_places (l : Launch) (D : va_G) (cy : Nat → ClassId) (ad wy : Nat → Nat) (mt : Nat) (hj : mJ 98 ad) (σ : Mem) (w : Int32)  : Met l yX6_places wsX6_places ({ frames := 1, cells := 0, slots := 0, locals := 22 }) (va_Pc [.ref (ad 0), .int w] (gPre 98 ad (cF ad cy) D cy wy mt σ)) (gQ 98 ad (cF ad cy) D (some (.int (cpPlaces σ w))) σ) 0 0 (mA 98 ad) := by
  refine g_met (cc := cX6_places) (maxL := 2) (ret := (some .int)) (by decide) rfl (Nat.le_of_ble_eq_true rfl) ?_
  intro p e s m below meth c S hr hlocks h0 ls hl
  obtain ⟨hx, hb, hml, hown, hts⟩ := S
  have hP := h0.1
  have hK := h0.2.1
  have hS : va_S (mA 98 ad) s.heap s.heap [] := va_S.rf
  have hl : lv_has ls 2 [(0, .ref (ad 0)), (1, .int w)] := hl
  have kf31 : (Cond.fieldLink RX6 31 "BenchRuns" "stock" "LBenchRuns$Stock;").before (#[.ref (ad 0), .int w] : Array Value) s = true := hts _ (by decide +kernel)
  have hinX6 : ∀ w ∈ u_ws RX6 TX6 7, w ∈ wsX6_places := by decide +kernel
  refine lv_iload_n hx hb dX6_places_0 rfl (lv_at hl 1 rfl) ?_
  refine lv_iconst (v := 0) hx hb dX6_places_1 (by decide) ?_
  refine lv_iconst (v := 3) hx hb dX6_places_2 (by decide) ?_
  refine g_callS (As := [.int w, .int 0, .int 3]) (rest := []) ⟨hx, hb, hml, hown, hts⟩ (c_within l w 0 3) (va_cwS 3 hts gX6_places_X6_within rfl rfl rfl (by decide +kernel) ⟨by decide, by decide⟩) rfl rfl hl.1 (Nat.le_of_ble_eq_true rfl) dX6_places_3 ⟨Nat.zero_le _, Nat.zero_le _⟩ ?_
  refine lv_if_eq (tgt := 20) hx hb dX6_places_6 (by decide) (fun c_1 => ?_) (fun c_1 => ?_)
  · skip
    refine lv_iconst (v := (-1)) hx hb dX6_places_20 (by decide) ?_
    exact g_riret hx hb hr hlocks hP hS dX6_places_21 (by unfold cpPlaces; rw [if_pos c_1])
  · skip
    have ix_w : vp_in w 4 := (inR_in (by decide) c_1)
    refine lv_aload_n hx hb dX6_places_9 rfl (lv_at hl 0 rfl) ?_
    refine mw_get (ci := 5) (C := RX6) (T := TX6) (N := 7) (v := .ref (ad 5)) hx hb hts hinX6 hown hK hP 0 (by decide) cF_0 rfl 4 (by decide) kf31 (fun _ h9 => h9) rfl dX6_places_10 ?_
    refine lv_iload_n hx hb dX6_places_13 rfl (lv_at hl 1 rfl) ?_
    refine g_top (y := nI (ci w)) (ci_eq ix_w (by decide)) ?_
    refine g_callV (As := [.int (nI (ci w))]) (rest := []) (N := 6) (T := TX3) (ci := 3) ⟨hx, hb, hml, hown, hts⟩ 5 (c_sizeOf l D cy ad wy mt hj σ (ci w) (ci_lt ix_w)) (cwV 1 hts gX6_places_X3_sizeOf rfl rfl rfl (by decide +kernel) ⟨by decide, by decide⟩) h0 hP hS (by decide) cF_5 rfl rfl rfl hl.1 (Nat.le_of_ble_eq_true rfl) dX6_places_14 ⟨Nat.zero_le _, Nat.zero_le _⟩ (fun H locs hP hS => ?_)
    refine lv_goto (tgt := 21) hx hb dX6_places_17 (by decide) ?_
    exact g_riret hx hb hr hlocks hP hS dX6_places_21 (by unfold cpPlaces; rw [if_neg c_1])

def cpBox (σ : Mem) (k : Int32) : Int32 :=
  if inR k 0 ((σ 5 2) - 1) = 0 then (-4)
  else σ 6 (ci k)
set_option maxHeartbeats 4000000 in
set_option maxRecDepth 100000 in
theorem c_box (l : Launch) (D : va_G) (cy : Nat → ClassId) (ad wy : Nat → Nat) (mt : Nat) (hj : mJ 98 ad) (σ : Mem) (k : Int32) (hB : bxK σ) : Met l yX6_box wsX6_box ({ frames := 1, cells := 0, slots := 0, locals := 22 }) (va_Pc [.ref (ad 0), .int k] (gPre 98 ad (cF ad cy) D cy wy mt σ)) (gQ 98 ad (cF ad cy) D (some (.int (cpBox σ k))) σ) 0 0 (mA 98 ad) := by
  refine g_met (cc := cX6_box) (maxL := 2) (ret := (some .int)) (by decide) rfl (Nat.le_of_ble_eq_true rfl) ?_
  intro p e s m below meth c S hr hlocks h0 ls hl
  obtain ⟨hx, hb, hml, hown, hts⟩ := S
  have hP := h0.1
  have hK := h0.2.1
  have hS : va_S (mA 98 ad) s.heap s.heap [] := va_S.rf
  have hl : lv_has ls 2 [(0, .ref (ad 0)), (1, .int k)] := hl
  have kf31 : (Cond.fieldLink RX6 31 "BenchRuns" "stock" "LBenchRuns$Stock;").before (#[.ref (ad 0), .int k] : Array Value) s = true := hts _ (by decide +kernel)
  have hinX6 : ∀ w ∈ u_ws RX6 TX6 7, w ∈ wsX6_box := by decide +kernel
  have kf92 : (Cond.fieldLink RX6 92 "BenchRuns$Stock" "boxSize" "I").before (#[.ref (ad 0), .int k] : Array Value) s = true := hts _ (by decide +kernel)
  have hinX3 : ∀ w ∈ u_ws RX3 TX3 6, w ∈ wsX6_box := by decide +kernel
  have kf95 : (Cond.fieldLink RX6 95 "BenchRuns$Stock" "boxTools" "[I").before (#[.ref (ad 0), .int k] : Array Value) s = true := hts _ (by decide +kernel)
  refine lv_iload_n hx hb dX6_box_0 rfl (lv_at hl 1 rfl) ?_
  refine lv_iconst (v := 0) hx hb dX6_box_1 (by decide) ?_
  refine lv_aload_n hx hb dX6_box_2 rfl (lv_at hl 0 rfl) ?_
  refine mw_get (ci := 5) (C := RX6) (T := TX6) (N := 7) (v := .ref (ad 5)) hx hb hts hinX6 hown hK hP 0 (by decide) cF_0 rfl 4 (by decide) kf31 (fun _ h9 => h9) rfl dX6_box_3 ?_
  refine mw_get (ci := 3) (C := RX3) (T := TX3) (N := 6) (v := .int (σ 5 2)) hx hb hts hinX3 hown hK hP 5 (by decide) cF_5 rfl 2 (by decide) kf92 (fun _ h9 => h9) rfl dX6_box_6 ?_
  refine lv_iconst (v := 1) hx hb dX6_box_9 (by decide) ?_
  refine lv_isub hx hb dX6_box_10 ?_
  refine g_callS (As := [.int k, .int 0, .int ((σ 5 2) - 1)]) (rest := []) ⟨hx, hb, hml, hown, hts⟩ (c_within l k 0 ((σ 5 2) - 1)) (va_cwS 3 hts gX6_box_X6_within rfl rfl rfl (by decide +kernel) ⟨by decide, by decide⟩) rfl rfl hl.1 (Nat.le_of_ble_eq_true rfl) dX6_box_11 ⟨Nat.zero_le _, Nat.zero_le _⟩ ?_
  refine lv_if_eq (tgt := 29) hx hb dX6_box_14 (by decide) (fun c_1 => ?_) (fun c_1 => ?_)
  · skip
    refine lv_bipush (v := (-4)) hx hb dX6_box_29 (by decide) ?_
    exact g_riret hx hb hr hlocks hP hS dX6_box_31 (by unfold cpBox; rw [if_pos c_1])
  · skip
    have ix_k : vp_in k 18 := (inR_box hB c_1)
    refine lv_aload_n hx hb dX6_box_17 rfl (lv_at hl 0 rfl) ?_
    refine mw_get (ci := 5) (C := RX6) (T := TX6) (N := 7) (v := .ref (ad 5)) hx hb hts hinX6 hown hK hP 0 (by decide) cF_0 rfl 4 (by decide) kf31 (fun _ h9 => h9) rfl dX6_box_18 ?_
    refine mw_get (ci := 3) (C := RX3) (T := TX3) (N := 6) (v := .ref (ad 6)) hx hb hts hinX3 hown hK hP 5 (by decide) cF_5 rfl 0 (by decide) kf95 (fun _ h9 => h9) rfl dX6_box_21 ?_
    refine lv_iload_n hx hb dX6_box_24 rfl (lv_at hl 1 rfl) ?_
    refine mw_ild hx hb hK hP 6 (by decide) 0 cF_6 rfl (ci k) (ci_lt ix_k) (by decide) (ci_eq ix_k (by decide)) dX6_box_25 ?_
    refine lv_goto (tgt := 31) hx hb dX6_box_26 (by decide) ?_
    exact g_riret hx hb hr hlocks hP hS dX6_box_31 (by unfold cpBox; rw [if_neg c_1])

def cpWhy (σ : Mem) (k : Int32) : Int32 :=
  if inR k 0 ((σ 7 6) - 1) = 0 then (-4)
  else σ 11 (ci (((σ 7 6) - 1) - k))
set_option maxHeartbeats 4000000 in
set_option maxRecDepth 100000 in
theorem c_why (l : Launch) (D : va_G) (cy : Nat → ClassId) (ad wy : Nat → Nat) (mt : Nat) (hj : mJ 98 ad) (σ : Mem) (k : Int32) (hL : lgK σ) : Met l yX6_why wsX6_why ({ frames := 1, cells := 0, slots := 0, locals := 22 }) (va_Pc [.ref (ad 0), .int k] (gPre 98 ad (cF ad cy) D cy wy mt σ)) (gQ 98 ad (cF ad cy) D (some (.int (cpWhy σ k))) σ) 0 0 (mA 98 ad) := by
  refine g_met (cc := cX6_why) (maxL := 2) (ret := (some .int)) (by decide) rfl (Nat.le_of_ble_eq_true rfl) ?_
  intro p e s m below meth c S hr hlocks h0 ls hl
  obtain ⟨hx, hb, hml, hown, hts⟩ := S
  have hP := h0.1
  have hK := h0.2.1
  have hS : va_S (mA 98 ad) s.heap s.heap [] := va_S.rf
  have hl : lv_has ls 2 [(0, .ref (ad 0)), (1, .int k)] := hl
  have kf38 : (Cond.fieldLink RX6 38 "BenchRuns" "log" "LBenchRuns$Log;").before (#[.ref (ad 0), .int k] : Array Value) s = true := hts _ (by decide +kernel)
  have hinX6 : ∀ w ∈ u_ws RX6 TX6 7, w ∈ wsX6_why := by decide +kernel
  have kf119 : (Cond.fieldLink RX6 119 "BenchRuns$Log" "chainLength" "I").before (#[.ref (ad 0), .int k] : Array Value) s = true := hts _ (by decide +kernel)
  have hinX1 : ∀ w ∈ u_ws RX1 TX1 7, w ∈ wsX6_why := by decide +kernel
  have kf122 : (Cond.fieldLink RX6 122 "BenchRuns$Log" "chain" "[I").before (#[.ref (ad 0), .int k] : Array Value) s = true := hts _ (by decide +kernel)
  refine lv_iload_n hx hb dX6_why_0 rfl (lv_at hl 1 rfl) ?_
  refine lv_iconst (v := 0) hx hb dX6_why_1 (by decide) ?_
  refine lv_aload_n hx hb dX6_why_2 rfl (lv_at hl 0 rfl) ?_
  refine mw_get (ci := 5) (C := RX6) (T := TX6) (N := 7) (v := .ref (ad 7)) hx hb hts hinX6 hown hK hP 0 (by decide) cF_0 rfl 5 (by decide) kf38 (fun _ h9 => h9) rfl dX6_why_3 ?_
  refine mw_get (ci := 1) (C := RX1) (T := TX1) (N := 7) (v := .int (σ 7 6)) hx hb hts hinX1 hown hK hP 7 (by decide) cF_7 rfl 6 (by decide) kf119 (fun _ h9 => h9) rfl dX6_why_6 ?_
  refine lv_iconst (v := 1) hx hb dX6_why_9 (by decide) ?_
  refine lv_isub hx hb dX6_why_10 ?_
  refine g_callS (As := [.int k, .int 0, .int ((σ 7 6) - 1)]) (rest := []) ⟨hx, hb, hml, hown, hts⟩ (c_within l k 0 ((σ 7 6) - 1)) (va_cwS 3 hts gX6_why_X6_within rfl rfl rfl (by decide +kernel) ⟨by decide, by decide⟩) rfl rfl hl.1 (Nat.le_of_ble_eq_true rfl) dX6_why_11 ⟨Nat.zero_le _, Nat.zero_le _⟩ ?_
  refine lv_if_eq (tgt := 39) hx hb dX6_why_14 (by decide) (fun c_1 => ?_) (fun c_1 => ?_)
  · skip
    refine lv_bipush (v := (-4)) hx hb dX6_why_39 (by decide) ?_
    exact g_riret hx hb hr hlocks hP hS dX6_why_41 (by unfold cpWhy; rw [if_pos c_1])
  · skip
    have ix_w : vp_in (σ 7 6 - 1 - k) 4 := inR_why hL c_1
    refine lv_aload_n hx hb dX6_why_17 rfl (lv_at hl 0 rfl) ?_
    refine mw_get (ci := 5) (C := RX6) (T := TX6) (N := 7) (v := .ref (ad 7)) hx hb hts hinX6 hown hK hP 0 (by decide) cF_0 rfl 5 (by decide) kf38 (fun _ h9 => h9) rfl dX6_why_18 ?_
    refine mw_get (ci := 1) (C := RX1) (T := TX1) (N := 7) (v := .ref (ad 11)) hx hb hts hinX1 hown hK hP 7 (by decide) cF_7 rfl 5 (by decide) kf122 (fun _ h9 => h9) rfl dX6_why_21 ?_
    refine lv_aload_n hx hb dX6_why_24 rfl (lv_at hl 0 rfl) ?_
    refine mw_get (ci := 5) (C := RX6) (T := TX6) (N := 7) (v := .ref (ad 7)) hx hb hts hinX6 hown hK hP 0 (by decide) cF_0 rfl 5 (by decide) kf38 (fun _ h9 => h9) rfl dX6_why_25 ?_
    refine mw_get (ci := 1) (C := RX1) (T := TX1) (N := 7) (v := .int (σ 7 6)) hx hb hts hinX1 hown hK hP 7 (by decide) cF_7 rfl 6 (by decide) kf119 (fun _ h9 => h9) rfl dX6_why_28 ?_
    refine lv_iconst (v := 1) hx hb dX6_why_31 (by decide) ?_
    refine lv_isub hx hb dX6_why_32 ?_
    refine lv_iload_n hx hb dX6_why_33 rfl (lv_at hl 1 rfl) ?_
    refine lv_isub hx hb dX6_why_34 ?_
    refine mw_ild hx hb hK hP 11 (by decide) 0 cF_11 rfl (ci (((σ 7 6) - 1) - k)) (ci_lt ix_w) (by decide) (ci_eq ix_w (by decide)) dX6_why_35 ?_
    refine lv_goto (tgt := 41) hx hb dX6_why_36 (by decide) ?_
    exact g_riret hx hb hr hlocks hP hS dX6_why_41 (by unfold cpWhy; rw [if_neg c_1])

def cpTold (σ : Mem) (k : Int32) : Int32 :=
  if inR k 0 7 = 0 then (-1)
  else if k = 7 then σ 7 2
  else if k = 6 then σ 7 4
  else σ 8 (ci (k + 1))
set_option maxHeartbeats 4000000 in
set_option maxRecDepth 100000 in
theorem c_told (l : Launch) (D : va_G) (cy : Nat → ClassId) (ad wy : Nat → Nat) (mt : Nat) (hj : mJ 98 ad) (σ : Mem) (k : Int32)  : Met l yX6_told wsX6_told ({ frames := 1, cells := 0, slots := 0, locals := 22 }) (va_Pc [.ref (ad 0), .int k] (gPre 98 ad (cF ad cy) D cy wy mt σ)) (gQ 98 ad (cF ad cy) D (some (.int (cpTold σ k))) σ) 0 0 (mA 98 ad) := by
  refine g_met (cc := cX6_told) (maxL := 2) (ret := (some .int)) (by decide) rfl (Nat.le_of_ble_eq_true rfl) ?_
  intro p e s m below meth c S hr hlocks h0 ls hl
  obtain ⟨hx, hb, hml, hown, hts⟩ := S
  have hP := h0.1
  have hK := h0.2.1
  have hS : va_S (mA 98 ad) s.heap s.heap [] := va_S.rf
  have hl : lv_has ls 2 [(0, .ref (ad 0)), (1, .int k)] := hl
  have kf38 : (Cond.fieldLink RX6 38 "BenchRuns" "log" "LBenchRuns$Log;").before (#[.ref (ad 0), .int k] : Array Value) s = true := hts _ (by decide +kernel)
  have hinX6 : ∀ w ∈ u_ws RX6 TX6 7, w ∈ wsX6_told := by decide +kernel
  have kf131 : (Cond.fieldLink RX6 131 "BenchRuns$Log" "countOf" "[I").before (#[.ref (ad 0), .int k] : Array Value) s = true := hts _ (by decide +kernel)
  have hinX1 : ∀ w ∈ u_ws RX1 TX1 7, w ∈ wsX6_told := by decide +kernel
  have kf128 : (Cond.fieldLink RX6 128 "BenchRuns$Log" "notedCount" "I").before (#[.ref (ad 0), .int k] : Array Value) s = true := hts _ (by decide +kernel)
  have kf125 : (Cond.fieldLink RX6 125 "BenchRuns$Log" "eventCount" "I").before (#[.ref (ad 0), .int k] : Array Value) s = true := hts _ (by decide +kernel)
  refine lv_iload_n hx hb dX6_told_0 rfl (lv_at hl 1 rfl) ?_
  refine lv_iconst (v := 0) hx hb dX6_told_1 (by decide) ?_
  refine lv_bipush (v := 7) hx hb dX6_told_2 (by decide) ?_
  refine g_callS (As := [.int k, .int 0, .int 7]) (rest := []) ⟨hx, hb, hml, hown, hts⟩ (c_within l k 0 7) (va_cwS 3 hts gX6_told_X6_within rfl rfl rfl (by decide +kernel) ⟨by decide, by decide⟩) rfl rfl hl.1 (Nat.le_of_ble_eq_true rfl) dX6_told_4 ⟨Nat.zero_le _, Nat.zero_le _⟩ ?_
  refine lv_if_ne (tgt := 12) hx hb dX6_told_7 (by decide) (fun c_1 => ?_) (fun c_1 => ?_)
  · skip
    refine lv_iload_n hx hb dX6_told_12 rfl (lv_at hl 1 rfl) ?_
    refine lv_bipush (v := 7) hx hb dX6_told_13 (by decide) ?_
    refine lv_icmp_ne (tgt := 26) hx hb dX6_told_15 (by decide) (fun c_2 => ?_) (fun c_2 => ?_)
    · skip
      refine lv_iload_n hx hb dX6_told_26 rfl (lv_at hl 1 rfl) ?_
      refine lv_bipush (v := 6) hx hb dX6_told_27 (by decide) ?_
      refine lv_icmp_ne (tgt := 42) hx hb dX6_told_29 (by decide) (fun c_3 => ?_) (fun c_3 => ?_)
      · skip
        have ix_t : vp_in (k + 1) 7 := inR_told c_1 c_2 c_3
        refine lv_aload_n hx hb dX6_told_42 rfl (lv_at hl 0 rfl) ?_
        refine mw_get (ci := 5) (C := RX6) (T := TX6) (N := 7) (v := .ref (ad 7)) hx hb hts hinX6 hown hK hP 0 (by decide) cF_0 rfl 5 (by decide) kf38 (fun _ h9 => h9) rfl dX6_told_43 ?_
        refine mw_get (ci := 1) (C := RX1) (T := TX1) (N := 7) (v := .ref (ad 8)) hx hb hts hinX1 hown hK hP 7 (by decide) cF_7 rfl 0 (by decide) kf131 (fun _ h9 => h9) rfl dX6_told_46 ?_
        refine lv_iload_n hx hb dX6_told_49 rfl (lv_at hl 1 rfl) ?_
        refine lv_iconst (v := 1) hx hb dX6_told_50 (by decide) ?_
        refine lv_iadd hx hb dX6_told_51 ?_
        refine mw_ild hx hb hK hP 8 (by decide) 0 cF_8 rfl (ci (k + 1)) (ci_lt ix_t) (by decide) (ci_eq ix_t (by decide)) dX6_told_52 ?_
        exact g_riret hx hb hr hlocks hP hS dX6_told_53 (by unfold cpTold; rw [if_neg c_1, if_neg c_2, if_neg c_3])
      · skip
        refine lv_aload_n hx hb dX6_told_32 rfl (lv_at hl 0 rfl) ?_
        refine mw_get (ci := 5) (C := RX6) (T := TX6) (N := 7) (v := .ref (ad 7)) hx hb hts hinX6 hown hK hP 0 (by decide) cF_0 rfl 5 (by decide) kf38 (fun _ h9 => h9) rfl dX6_told_33 ?_
        refine mw_get (ci := 1) (C := RX1) (T := TX1) (N := 7) (v := .int (σ 7 4)) hx hb hts hinX1 hown hK hP 7 (by decide) cF_7 rfl 4 (by decide) kf128 (fun _ h9 => h9) rfl dX6_told_36 ?_
        refine lv_goto (tgt := 53) hx hb dX6_told_39 (by decide) ?_
        exact g_riret hx hb hr hlocks hP hS dX6_told_53 (by unfold cpTold; rw [if_neg c_1, if_neg c_2, if_pos c_3])
    · skip
      refine lv_aload_n hx hb dX6_told_18 rfl (lv_at hl 0 rfl) ?_
      refine mw_get (ci := 5) (C := RX6) (T := TX6) (N := 7) (v := .ref (ad 7)) hx hb hts hinX6 hown hK hP 0 (by decide) cF_0 rfl 5 (by decide) kf38 (fun _ h9 => h9) rfl dX6_told_19 ?_
      refine mw_get (ci := 1) (C := RX1) (T := TX1) (N := 7) (v := .int (σ 7 2)) hx hb hts hinX1 hown hK hP 7 (by decide) cF_7 rfl 2 (by decide) kf125 (fun _ h9 => h9) rfl dX6_told_22 ?_
      exact g_riret hx hb hr hlocks hP hS dX6_told_25 (by unfold cpTold; rw [if_neg c_1, if_pos c_2])
  · skip
    refine lv_iconst (v := (-1)) hx hb dX6_told_10 (by decide) ?_
    exact g_riret hx hb hr hlocks hP hS dX6_told_11 (by unfold cpTold; rw [if_pos c_1])

def cpTrace (σ : Mem) (k : Int32) : Int32 :=
  if inR k 0 ((if 400 < σ 7 2 then 400 else σ 7 2) - 1) = 0 then (-4)
  else σ 9 (ci k)
set_option maxHeartbeats 4000000 in
set_option maxRecDepth 100000 in
theorem c_trace (l : Launch) (D : va_G) (cy : Nat → ClassId) (ad wy : Nat → Nat) (mt : Nat) (hj : mJ 98 ad) (σ : Mem) (k : Int32) (x : Nat) (hx9 : x ≤ 1000) (hO : rOK x σ) : Met l yX6_trace wsX6_trace ({ frames := 1, cells := 0, slots := 0, locals := 22 }) (va_Pc [.ref (ad 0), .int k] (gPre 98 ad (cF ad cy) D cy wy mt σ)) (gQ 98 ad (cF ad cy) D (some (.int (cpTrace σ k))) σ) 0 0 (mA 98 ad) := by
  refine g_met (cc := cX6_trace) (maxL := 2) (ret := (some .int)) (by decide) rfl (Nat.le_of_ble_eq_true rfl) ?_
  intro p e s m below meth c S hr hlocks h0 ls hl
  obtain ⟨hx, hb, hml, hown, hts⟩ := S
  have hP := h0.1
  have hK := h0.2.1
  have hS : va_S (mA 98 ad) s.heap s.heap [] := va_S.rf
  have hl : lv_has ls 2 [(0, .ref (ad 0)), (1, .int k)] := hl
  have kf38 : (Cond.fieldLink RX6 38 "BenchRuns" "log" "LBenchRuns$Log;").before (#[.ref (ad 0), .int k] : Array Value) s = true := hts _ (by decide +kernel)
  have hinX6 : ∀ w ∈ u_ws RX6 TX6 7, w ∈ wsX6_trace := by decide +kernel
  have kf125 : (Cond.fieldLink RX6 125 "BenchRuns$Log" "eventCount" "I").before (#[.ref (ad 0), .int k] : Array Value) s = true := hts _ (by decide +kernel)
  have hinX1 : ∀ w ∈ u_ws RX1 TX1 7, w ∈ wsX6_trace := by decide +kernel
  have kml : (Cond.methodLink RX6 134 Lib.Math.min.name).before (#[.ref (ad 0), .int k] : Array Value) s = true := hts _ (by decide +kernel)
  have kms : (Cond.static Lib.Math.min.name).before (#[.ref (ad 0), .int k] : Array Value) s = true := hts _ (by decide +kernel)
  have kmi : (Cond.initialized "java/lang/Math").before (#[.ref (ad 0), .int k] : Array Value) s = true := hts _ (by decide +kernel)
  have kmc : (Cond.code Lib.Math.min.name Lib.Math.min.code 2 (some .int)).before (#[.ref (ad 0), .int k] : Array Value) s = true := hts _ (by decide +kernel)
  have kf139 : (Cond.fieldLink RX6 139 "BenchRuns$Log" "events" "[I").before (#[.ref (ad 0), .int k] : Array Value) s = true := hts _ (by decide +kernel)
  refine lv_iload_n hx hb dX6_trace_0 rfl (lv_at hl 1 rfl) ?_
  refine lv_iconst (v := 0) hx hb dX6_trace_1 (by decide) ?_
  refine lv_aload_n hx hb dX6_trace_2 rfl (lv_at hl 0 rfl) ?_
  refine mw_get (ci := 5) (C := RX6) (T := TX6) (N := 7) (v := .ref (ad 7)) hx hb hts hinX6 hown hK hP 0 (by decide) cF_0 rfl 5 (by decide) kf38 (fun _ h9 => h9) rfl dX6_trace_3 ?_
  refine mw_get (ci := 1) (C := RX1) (T := TX1) (N := 7) (v := .int (σ 7 2)) hx hb hts hinX1 hown hK hP 7 (by decide) cF_7 rfl 2 (by decide) kf125 (fun _ h9 => h9) rfl dX6_trace_6 ?_
  refine lv_sipush (v := 400) hx hb dX6_trace_9 (by decide) ?_
  refine va_mmin hx hb (hml.trans hl.1.symm) hown kml kms kmi kmc (by decide) (Nat.le_of_ble_eq_true rfl) (Nat.zero_le _) (Nat.zero_le _) dX6_trace_12 ?_
  refine lv_iconst (v := 1) hx hb dX6_trace_15 (by decide) ?_
  refine lv_isub hx hb dX6_trace_16 ?_
  refine g_callS (As := [.int k, .int 0, .int ((if 400 < σ 7 2 then 400 else σ 7 2) - 1)]) (rest := []) ⟨hx, hb, hml, hown, hts⟩ (c_within l k 0 ((if 400 < σ 7 2 then 400 else σ 7 2) - 1)) (va_cwS 3 hts gX6_trace_X6_within rfl rfl rfl (by decide +kernel) ⟨by decide, by decide⟩) rfl rfl hl.1 (Nat.le_of_ble_eq_true rfl) dX6_trace_17 ⟨Nat.zero_le _, Nat.zero_le _⟩ ?_
  refine lv_if_eq (tgt := 35) hx hb dX6_trace_20 (by decide) (fun c_1 => ?_) (fun c_1 => ?_)
  · skip
    refine lv_bipush (v := (-4)) hx hb dX6_trace_35 (by decide) ?_
    exact g_riret hx hb hr hlocks hP hS dX6_trace_37 (by unfold cpTrace; rw [if_pos c_1])
  · skip
    have ix_k : vp_in k 400 := (inR_tr hO hx9 c_1)
    refine lv_aload_n hx hb dX6_trace_23 rfl (lv_at hl 0 rfl) ?_
    refine mw_get (ci := 5) (C := RX6) (T := TX6) (N := 7) (v := .ref (ad 7)) hx hb hts hinX6 hown hK hP 0 (by decide) cF_0 rfl 5 (by decide) kf38 (fun _ h9 => h9) rfl dX6_trace_24 ?_
    refine mw_get (ci := 1) (C := RX1) (T := TX1) (N := 7) (v := .ref (ad 9)) hx hb hts hinX1 hown hK hP 7 (by decide) cF_7 rfl 1 (by decide) kf139 (fun _ h9 => h9) rfl dX6_trace_27 ?_
    refine lv_iload_n hx hb dX6_trace_30 rfl (lv_at hl 1 rfl) ?_
    refine mw_ild hx hb hK hP 9 (by decide) 0 cF_9 rfl (ci k) (ci_lt ix_k) (by decide) (ci_eq ix_k (by decide)) dX6_trace_31 ?_
    refine lv_goto (tgt := 37) hx hb dX6_trace_32 (by decide) ?_
    exact g_riret hx hb hr hlocks hP hS dX6_trace_37 (by unfold cpTrace; rw [if_neg c_1])

def cpNoted (σ : Mem) (k : Int32) : Int32 :=
  if inR k 0 ((σ 7 4) - 1) = 0 then (-4)
  else σ 10 (ci k)
set_option maxHeartbeats 4000000 in
set_option maxRecDepth 100000 in
theorem c_noted (l : Launch) (D : va_G) (cy : Nat → ClassId) (ad wy : Nat → Nat) (mt : Nat) (hj : mJ 98 ad) (σ : Mem) (k : Int32) (hL : lgK σ) : Met l yX6_noted wsX6_noted ({ frames := 1, cells := 0, slots := 0, locals := 22 }) (va_Pc [.ref (ad 0), .int k] (gPre 98 ad (cF ad cy) D cy wy mt σ)) (gQ 98 ad (cF ad cy) D (some (.int (cpNoted σ k))) σ) 0 0 (mA 98 ad) := by
  refine g_met (cc := cX6_noted) (maxL := 2) (ret := (some .int)) (by decide) rfl (Nat.le_of_ble_eq_true rfl) ?_
  intro p e s m below meth c S hr hlocks h0 ls hl
  obtain ⟨hx, hb, hml, hown, hts⟩ := S
  have hP := h0.1
  have hK := h0.2.1
  have hS : va_S (mA 98 ad) s.heap s.heap [] := va_S.rf
  have hl : lv_has ls 2 [(0, .ref (ad 0)), (1, .int k)] := hl
  have kf38 : (Cond.fieldLink RX6 38 "BenchRuns" "log" "LBenchRuns$Log;").before (#[.ref (ad 0), .int k] : Array Value) s = true := hts _ (by decide +kernel)
  have hinX6 : ∀ w ∈ u_ws RX6 TX6 7, w ∈ wsX6_noted := by decide +kernel
  have kf128 : (Cond.fieldLink RX6 128 "BenchRuns$Log" "notedCount" "I").before (#[.ref (ad 0), .int k] : Array Value) s = true := hts _ (by decide +kernel)
  have hinX1 : ∀ w ∈ u_ws RX1 TX1 7, w ∈ wsX6_noted := by decide +kernel
  have kf142 : (Cond.fieldLink RX6 142 "BenchRuns$Log" "notedNumbers" "[I").before (#[.ref (ad 0), .int k] : Array Value) s = true := hts _ (by decide +kernel)
  refine lv_iload_n hx hb dX6_noted_0 rfl (lv_at hl 1 rfl) ?_
  refine lv_iconst (v := 0) hx hb dX6_noted_1 (by decide) ?_
  refine lv_aload_n hx hb dX6_noted_2 rfl (lv_at hl 0 rfl) ?_
  refine mw_get (ci := 5) (C := RX6) (T := TX6) (N := 7) (v := .ref (ad 7)) hx hb hts hinX6 hown hK hP 0 (by decide) cF_0 rfl 5 (by decide) kf38 (fun _ h9 => h9) rfl dX6_noted_3 ?_
  refine mw_get (ci := 1) (C := RX1) (T := TX1) (N := 7) (v := .int (σ 7 4)) hx hb hts hinX1 hown hK hP 7 (by decide) cF_7 rfl 4 (by decide) kf128 (fun _ h9 => h9) rfl dX6_noted_6 ?_
  refine lv_iconst (v := 1) hx hb dX6_noted_9 (by decide) ?_
  refine lv_isub hx hb dX6_noted_10 ?_
  refine g_callS (As := [.int k, .int 0, .int ((σ 7 4) - 1)]) (rest := []) ⟨hx, hb, hml, hown, hts⟩ (c_within l k 0 ((σ 7 4) - 1)) (va_cwS 3 hts gX6_noted_X6_within rfl rfl rfl (by decide +kernel) ⟨by decide, by decide⟩) rfl rfl hl.1 (Nat.le_of_ble_eq_true rfl) dX6_noted_11 ⟨Nat.zero_le _, Nat.zero_le _⟩ ?_
  refine lv_if_eq (tgt := 29) hx hb dX6_noted_14 (by decide) (fun c_1 => ?_) (fun c_1 => ?_)
  · skip
    refine lv_bipush (v := (-4)) hx hb dX6_noted_29 (by decide) ?_
    exact g_riret hx hb hr hlocks hP hS dX6_noted_31 (by unfold cpNoted; rw [if_pos c_1])
  · skip
    have ix_k : vp_in k 24 := (inR_nc hL c_1)
    refine lv_aload_n hx hb dX6_noted_17 rfl (lv_at hl 0 rfl) ?_
    refine mw_get (ci := 5) (C := RX6) (T := TX6) (N := 7) (v := .ref (ad 7)) hx hb hts hinX6 hown hK hP 0 (by decide) cF_0 rfl 5 (by decide) kf38 (fun _ h9 => h9) rfl dX6_noted_18 ?_
    refine mw_get (ci := 1) (C := RX1) (T := TX1) (N := 7) (v := .ref (ad 10)) hx hb hts hinX1 hown hK hP 7 (by decide) cF_7 rfl 3 (by decide) kf142 (fun _ h9 => h9) rfl dX6_noted_21 ?_
    refine lv_iload_n hx hb dX6_noted_24 rfl (lv_at hl 1 rfl) ?_
    refine mw_ild hx hb hK hP 10 (by decide) 0 cF_10 rfl (ci k) (ci_lt ix_k) (by decide) (ci_eq ix_k (by decide)) dX6_noted_25 ?_
    refine lv_goto (tgt := 31) hx hb dX6_noted_26 (by decide) ?_
    exact g_riret hx hb hr hlocks hP hS dX6_noted_31 (by unfold cpNoted; rw [if_neg c_1])

def cpDrops (σ : Mem) (v : Int32) : Int32 :=
  if inR v 0 7 = 0 then (-1)
  else orN (σ 1 (ci v))
set_option maxHeartbeats 4000000 in
set_option maxRecDepth 100000 in
theorem c_drops (l : Launch) (D : va_G) (cy : Nat → ClassId) (ad wy : Nat → Nat) (mt : Nat) (hj : mJ 98 ad) (σ : Mem) (v : Int32)  : Met l yX6_drops wsX6_drops ({ frames := 1, cells := 0, slots := 0, locals := 22 }) (va_Pc [.ref (ad 0), .int v] (gPre 98 ad (cF ad cy) D cy wy mt σ)) (gQ 98 ad (cF ad cy) D (some (.int (cpDrops σ v))) σ) 0 0 (mA 98 ad) := by
  refine g_met (cc := cX6_drops) (maxL := 2) (ret := (some .int)) (by decide) rfl (Nat.le_of_ble_eq_true rfl) ?_
  intro p e s m below meth c S hr hlocks h0 ls hl
  obtain ⟨hx, hb, hml, hown, hts⟩ := S
  have hP := h0.1
  have hK := h0.2.1
  have hS : va_S (mA 98 ad) s.heap s.heap [] := va_S.rf
  have hl : lv_has ls 2 [(0, .ref (ad 0)), (1, .int v)] := hl
  have kf9 : (Cond.fieldLink RX6 9 "BenchRuns" "vialDrops" "[I").before (#[.ref (ad 0), .int v] : Array Value) s = true := hts _ (by decide +kernel)
  have hinX6 : ∀ w ∈ u_ws RX6 TX6 7, w ∈ wsX6_drops := by decide +kernel
  refine lv_iload_n hx hb dX6_drops_0 rfl (lv_at hl 1 rfl) ?_
  refine lv_iconst (v := 0) hx hb dX6_drops_1 (by decide) ?_
  refine lv_bipush (v := 7) hx hb dX6_drops_2 (by decide) ?_
  refine g_callS (As := [.int v, .int 0, .int 7]) (rest := []) ⟨hx, hb, hml, hown, hts⟩ (c_within l v 0 7) (va_cwS 3 hts gX6_drops_X6_within rfl rfl rfl (by decide +kernel) ⟨by decide, by decide⟩) rfl rfl hl.1 (Nat.le_of_ble_eq_true rfl) dX6_drops_4 ⟨Nat.zero_le _, Nat.zero_le _⟩ ?_
  refine lv_if_eq (tgt := 22) hx hb dX6_drops_7 (by decide) (fun c_1 => ?_) (fun c_1 => ?_)
  · skip
    refine lv_iconst (v := (-1)) hx hb dX6_drops_22 (by decide) ?_
    exact g_riret hx hb hr hlocks hP hS dX6_drops_23 (by unfold cpDrops; rw [if_pos c_1])
  · skip
    have ix_v : vp_in v 8 := (inR_in (by decide) c_1)
    refine lv_aload_n hx hb dX6_drops_10 rfl (lv_at hl 0 rfl) ?_
    refine mw_get (ci := 5) (C := RX6) (T := TX6) (N := 7) (v := .ref (ad 1)) hx hb hts hinX6 hown hK hP 0 (by decide) cF_0 rfl 0 (by decide) kf9 (fun _ h9 => h9) rfl dX6_drops_11 ?_
    refine lv_iload_n hx hb dX6_drops_14 rfl (lv_at hl 1 rfl) ?_
    refine mw_ild hx hb hK hP 1 (by decide) 0 cF_1 rfl (ci v) (ci_lt ix_v) (by decide) (ci_eq ix_v (by decide)) dX6_drops_15 ?_
    refine g_callS (As := [.int (σ 1 (ci v))]) (rest := []) ⟨hx, hb, hml, hown, hts⟩ (c_orNone l (σ 1 (ci v))) (va_cwS 1 hts gX6_drops_X6_orNone rfl rfl rfl (by decide +kernel) ⟨by decide, by decide⟩) rfl rfl hl.1 (Nat.le_of_ble_eq_true rfl) dX6_drops_16 ⟨Nat.zero_le _, Nat.zero_le _⟩ ?_
    refine lv_goto (tgt := 23) hx hb dX6_drops_19 (by decide) ?_
    exact g_riret hx hb hr hlocks hP hS dX6_drops_23 (by unfold cpDrops; rw [if_neg c_1])

def cSumF (σ : Mem) : Nat → Nat → Int32 → Int32
  | 0, _, a => a
  | n + 1, k, a => cSumF σ n (k + 1) (if σ 1 k = (-1) then a else a + σ 1 k)
theorem cSumF_succ (σ : Mem) (n k : Nat) (a : Int32) : cSumF σ (n + 1) k a = cSumF σ n (k + 1) (if σ 1 k = (-1) then a else a + σ 1 k) := rfl
set_option maxHeartbeats 4000000 in
set_option maxRecDepth 100000 in
theorem c_sum (l : Launch) (D : va_G) (cy : Nat → ClassId) (ad wy : Nat → Nat) (mt : Nat) (hj : mJ 98 ad) (σ : Mem)   : Met l yX6_sum wsX6_sum ({ frames := 0, cells := 0, slots := 0, locals := 0 }) (va_Pc [.ref (ad 0)] (gPre 98 ad (cF ad cy) D cy wy mt σ)) (gQ 98 ad (cF ad cy) D (some (.int (cSumF σ 8 0 0))) σ) 0 0 (mA 98 ad) := by
  refine g_met (cc := cX6_sum) (maxL := 6) (ret := (some .int)) (by decide) rfl (Nat.le_of_ble_eq_true rfl) ?_
  intro p e s m below meth c S hr hlocks h0 ls hl
  obtain ⟨hx, hb, hml, hown, hts⟩ := S
  have hP := h0.1
  have hK := h0.2.1
  have hS : va_S (mA 98 ad) s.heap s.heap [] := va_S.rf
  have hl : lv_has ls 6 [(0, .ref (ad 0))] := hl
  have kf9 : (Cond.fieldLink RX6 9 "BenchRuns" "vialDrops" "[I").before (#[.ref (ad 0)] : Array Value) s = true := hts _ (by decide +kernel)
  have hinX6 : ∀ w ∈ u_ws RX6 TX6 7, w ∈ wsX6_sum := by decide +kernel
  refine lv_iconst (v := 0) hx hb dX6_sum_0 (by decide) ?_
  refine lv_istore_n (lv' := [(1, .int 0), (0, .ref (ad 0))]) hx hb dX6_sum_1 rfl hl (by decide) rfl (fun ls hl => ?_)
  refine lv_aload_n hx hb dX6_sum_2 rfl (lv_at hl 1 rfl) ?_
  refine mw_get (ci := 5) (C := RX6) (T := TX6) (N := 7) (v := .ref (ad 1)) hx hb hts hinX6 hown hK hP 0 (by decide) cF_0 rfl 0 (by decide) kf9 (fun _ h9 => h9) rfl dX6_sum_3 ?_
  refine lv_astore_n (lv' := [(2, .ref (ad 1)), (1, .int 0), (0, .ref (ad 0))]) hx hb dX6_sum_6 rfl hl (by decide) rfl (fun ls hl => ?_)
  refine lv_aload_n hx hb dX6_sum_7 rfl (lv_at hl 0 rfl) ?_
  refine mw_len hx hb hK hP 1 (by decide) 0 cF_1 rfl dX6_sum_8 ?_
  refine lv_istore_n (lv' := [(3, .int (nI 8)), (2, .ref (ad 1)), (1, .int 0), (0, .ref (ad 0))]) hx hb dX6_sum_9 rfl hl (by decide) rfl (fun ls hl => ?_)
  refine lv_iconst (v := 0) hx hb dX6_sum_10 (by decide) ?_
  refine lv_istore (lv' := [(4, .int 0), (3, .int (nI 8)), (2, .ref (ad 1)), (1, .int 0), (0, .ref (ad 0))]) hx hb dX6_sum_11 hl (by decide) rfl (fun ls hl => ?_)
  have loop : ∀ (fu k : Nat) (a : Int32) (ls : Array Slot), k + fu = 8 → cSumF σ fu k a = cSumF σ 8 0 0 → lv_has ls 6 [(4, .int (nI k)), (3, .int 8), (2, .ref (ad 1)), (1, .int a), (0, .ref (ad 0))] → W p l e ({ frames := 0, cells := 0, slots := 0, locals := 0 }) s m ([.ref (ad 0)] : List Value).toArray below meth c s.heap [] 0 0 (MQ below (gQ 98 ad (cF ad cy) D (some (.int (cSumF σ 8 0 0))) σ) ([.ref (ad 0)] : List Value).toArray s 0 0 (mA 98 ad)) (F0 m 13 ls []) := by
    intro fu
    induction fu with
    | zero =>
      intro k a ls hk hf hl
      have hk8 : k = 8 := by omega
      subst hk8
      refine lv_iload hx hb dX6_sum_13 (lv_at hl 0 rfl) ?_
      refine lv_iload_n hx hb dX6_sum_15 rfl (lv_at hl 1 rfl) ?_
      refine lv_icmp_ge (tgt := 42) hx hb dX6_sum_16 (by decide) (fun _ => ?_) (fun c9 => absurd (show (8 : Int32) ≤ nI 8 by decide) c9)
      refine lv_iload_n hx hb dX6_sum_42 rfl (lv_at hl 3 rfl) ?_
      exact g_riret hx hb hr hlocks hP hS dX6_sum_43 hf.symm
    | succ fu ih =>
      intro k a ls hk hf hl
      refine lv_iload hx hb dX6_sum_13 (lv_at hl 0 rfl) ?_
      refine lv_iload_n hx hb dX6_sum_15 rfl (lv_at hl 1 rfl) ?_
      refine lv_icmp_ge (tgt := 42) hx hb dX6_sum_16 (by decide) (fun c9 => absurd c9 (nI_ge (b := 8) (by omega) (by decide))) (fun _ => ?_)
      refine lv_aload_n hx hb dX6_sum_19 rfl (lv_at hl 2 rfl) ?_
      refine lv_iload hx hb dX6_sum_20 (lv_at hl 0 rfl) ?_
      refine mw_ild hx hb hK hP 1 (by decide) 0 cF_1 rfl k (by omega) (by decide) rfl dX6_sum_22 ?_
      refine lv_istore (lv' := [(5, .int (σ 1 k)), (4, .int (nI k)), (3, .int 8), (2, .ref (ad 1)), (1, .int a), (0, .ref (ad 0))]) hx hb dX6_sum_23 hl (by decide) rfl (fun ls hl => ?_)
      refine lv_iload hx hb dX6_sum_25 (lv_at hl 0 rfl) ?_
      refine lv_iconst (v := (-1)) hx hb dX6_sum_27 (by decide) ?_
      refine lv_icmp_eq (tgt := 36) hx hb dX6_sum_28 (by decide) (fun c_1 => ?_) (fun c_1 => ?_)
      · skip
        refine lv_iinc (v := nI (k + 1)) (lv' := [(4, .int (nI (k + 1))), (5, .int (σ 1 k)), (3, .int 8), (2, .ref (ad 1)), (1, .int a), (0, .ref (ad 0))]) hx hb dX6_sum_36 hl (k := 1) rfl (nI_1 k) (by decide) rfl (fun ls hl => ?_)
        refine lv_goto (tgt := 13) hx hb dX6_sum_39 (by decide) ?_
        exact ih (k + 1) a ls (by omega) (Eq.trans (by rw [cSumF_succ, if_pos c_1]) hf) (lv_sub hl [0, 2, 3, 4, 5] rfl)
      · skip
        refine lv_iload_n hx hb dX6_sum_31 rfl (lv_at hl 4 rfl) ?_
        refine lv_iload hx hb dX6_sum_32 (lv_at hl 0 rfl) ?_
        refine lv_iadd hx hb dX6_sum_34 ?_
        refine lv_istore_n (lv' := [(1, .int (a + (σ 1 k))), (5, .int (σ 1 k)), (4, .int (nI k)), (3, .int 8), (2, .ref (ad 1)), (0, .ref (ad 0))]) hx hb dX6_sum_35 rfl hl (by decide) rfl (fun ls hl => ?_)
        refine lv_iinc (v := nI (k + 1)) (lv' := [(4, .int (nI (k + 1))), (1, .int (a + (σ 1 k))), (5, .int (σ 1 k)), (3, .int 8), (2, .ref (ad 1)), (0, .ref (ad 0))]) hx hb dX6_sum_36 hl (k := 2) rfl (nI_1 k) (by decide) rfl (fun ls hl => ?_)
        refine lv_goto (tgt := 13) hx hb dX6_sum_39 (by decide) ?_
        exact ih (k + 1) (a + (σ 1 k)) ls (by omega) (Eq.trans (by rw [cSumF_succ, if_neg c_1]) hf) (lv_sub hl [0, 3, 4, 1, 5] rfl)
  exact loop 8 0 0 ls (by omega) rfl (lv_sub hl [0, 1, 2, 3, 4] rfl)

theorem inR_la {fi la : Int32} (h1 : ¬ inR fi 0 3 = 0) (h2 : ¬ inR la fi 3 = 0) : vp_in la 4 := by
  obtain ⟨a1, a2⟩ := inR_T h1
  obtain ⟨b1, b2⟩ := inR_T h2
  have h0 : (0 : Int32).toInt = 0 := by decide
  have h3 : (3 : Int32).toInt = 3 := by decide
  exact vp_in_iff.mpr ⟨by omega, by omega⟩
theorem bb_lt {la : Int32} {bb : Nat} (hla : vp_in la 4) (hc : ¬ la < nI bb) (h4 : bb ≤ 4) : bb < 4 := by
  obtain ⟨j, hj, rfl⟩ := vp_in_of hla (by decide)
  have : ¬ j < bb := fun q => hc ((nI_ltI (by omega) (by omega)).mpr q)
  omega
theorem kR_logBegin (σ : Mem) : kR σ (cLogBegin σ) := by
  unfold cLogBegin
  exact (((((((((kR.rf σ).set (by omega)).set (by omega)).set (by omega)).set (by omega)).set (by omega)).set (by omega)).set (by omega)).set (by omega)).set (by omega)
theorem rOK_logBegin {σ : Mem} (hB : bxK σ) : rOK 0 (cLogBegin σ) := by
  refine ⟨⟨0, 0, ?_, ?_, by decide, by decide⟩, ⟨⟨0, by decide, ?_⟩, 0, by decide, ?_⟩, ?_⟩
  · rfl
  · rfl
  · rfl
  · rfl
  · exact hB
def cBats (fi la wr : Int32) : Nat → Mem → Nat → Int32 × Mem
  | 0, σ, _ => (0, σ)
  | fu + 1, σ, bb =>
    if la < nI bb then ((la - fi) + 1, σ)
    else if (cBatch σ bb).1 = 5 then (if wr = 0 then ((-10), (cBatch σ bb).2) else ((-10), cInStead (cBatch σ bb).2 (30 + (nI bb))))
    else if (cBatch σ bb).1 = 4 then (100 + ((cBatch σ bb).2 0 6), (cBatch σ bb).2)
    else if (cBatch σ bb).1 = 6 then ((-11), (cBatch σ bb).2)
    else cBats fi la wr fu (cBatch σ bb).2 (bb + 1)
theorem cBats_succ (fi la wr : Int32) (fu : Nat) (σ : Mem) (bb : Nat) : cBats fi la wr (fu + 1) σ bb = if la < nI bb then ((la - fi) + 1, σ)
    else if (cBatch σ bb).1 = 5 then (if wr = 0 then ((-10), (cBatch σ bb).2) else ((-10), cInStead (cBatch σ bb).2 (30 + (nI bb))))
    else if (cBatch σ bb).1 = 4 then (100 + ((cBatch σ bb).2 0 6), (cBatch σ bb).2)
    else if (cBatch σ bb).1 = 6 then ((-11), (cBatch σ bb).2)
    else cBats fi la wr fu (cBatch σ bb).2 (bb + 1) := rfl
def cpRun (σ : Mem) (fi la wr : Int32) : Int32 × Mem := if inR fi 0 3 = 0 then ((-1), σ) else if inR la fi 3 = 0 then ((-1), σ) else cBats fi la wr 5 (cLogBegin σ) (ci fi)
set_option maxHeartbeats 4000000 in
set_option maxRecDepth 100000 in
theorem c_run (l : Launch) (D : va_G) (cy : Nat → ClassId) (ad wy : Nat → Nat) (mt : Nat) (hj : mJ 98 ad) (σ : Mem) (fi la wr : Int32) (hR : cR σ) (hB : bxK σ) : Met l yX6_run wsX6_run ({ frames := 6, cells := 0, slots := 0, locals := 140 }) (va_Pc [.ref (ad 0), .int fi, .int la, .int wr] (gPre 98 ad (cF ad cy) D cy wy mt σ)) (gQ 98 ad (cF ad cy) D (some (.int (cpRun σ fi la wr).1)) (cpRun σ fi la wr).2) 0 0 (mA 98 ad) := by
  refine g_met (cc := cX6_run) (maxL := 6) (ret := (some .int)) (by decide) rfl (Nat.le_of_ble_eq_true rfl) ?_
  intro p e s m below meth c S hr hlocks h0 ls hl
  obtain ⟨hx, hb, hml, hown, hts⟩ := S
  have hP := h0.1
  have hK := h0.2.1
  have hS : va_S (mA 98 ad) s.heap s.heap [] := va_S.rf
  have hl : lv_has ls 6 [(0, .ref (ad 0)), (1, .int fi), (2, .int la), (3, .int wr)] := hl
  have kf38 : (Cond.fieldLink RX6 38 "BenchRuns" "log" "LBenchRuns$Log;").before (#[.ref (ad 0), .int fi, .int la, .int wr] : Array Value) s = true := hts _ (by decide +kernel)
  have hinX6 : ∀ w ∈ u_ws RX6 TX6 7, w ∈ wsX6_run := by decide +kernel
  have kf15 : (Cond.fieldLink RX6 15 "BenchRuns" "batches" "[LBenchRuns$Batch;").before (#[.ref (ad 0), .int fi, .int la, .int wr] : Array Value) s = true := hts _ (by decide +kernel)
  have kf104 : (Cond.fieldLink RX6 104 "BenchRuns$Way" "FAILURE" "LBenchRuns$Way;").before (#[.ref (ad 0), .int fi, .int la, .int wr] : Array Value) s = true := hts _ (by decide +kernel)
  have kf113 : (Cond.fieldLink RX6 113 "BenchRuns$Way" "STOP" "LBenchRuns$Way;").before (#[.ref (ad 0), .int fi, .int la, .int wr] : Array Value) s = true := hts _ (by decide +kernel)
  have kf116 : (Cond.fieldLink RX6 116 "BenchRuns$Way" "TIRED" "LBenchRuns$Way;").before (#[.ref (ad 0), .int fi, .int la, .int wr] : Array Value) s = true := hts _ (by decide +kernel)
  have kf42 : (Cond.fieldLink RX6 42 "BenchRuns" "stoppedBy" "I").before (#[.ref (ad 0), .int fi, .int la, .int wr] : Array Value) s = true := hts _ (by decide +kernel)
  refine lv_iload_n hx hb dX6_run_0 rfl (lv_at hl 1 rfl) ?_
  refine lv_iconst (v := 0) hx hb dX6_run_1 (by decide) ?_
  refine lv_iconst (v := 3) hx hb dX6_run_2 (by decide) ?_
  refine g_callS (As := [.int fi, .int 0, .int 3]) (rest := []) ⟨hx, hb, hml, hown, hts⟩ (c_within l fi 0 3) (va_cwS 3 hts gX6_run_X6_within rfl rfl rfl (by decide +kernel) ⟨by decide, by decide⟩) rfl rfl hl.1 (Nat.le_of_ble_eq_true rfl) dX6_run_3 ⟨Nat.zero_le _, Nat.zero_le _⟩ ?_
  refine lv_if_eq (tgt := 18) hx hb dX6_run_6 (by decide) (fun c_1 => ?_) (fun c_1 => ?_)
  · skip
    refine lv_iconst (v := (-1)) hx hb dX6_run_18 (by decide) ?_
    exact g_iret hx hb hr hlocks hP hS dX6_run_19 (by unfold cpRun; rw [if_pos c_1])
  · skip
    have ix_fi : vp_in fi 4 := (inR_in (by decide) c_1)
    refine lv_iload_n hx hb dX6_run_9 rfl (lv_at hl 2 rfl) ?_
    refine lv_iload_n hx hb dX6_run_10 rfl (lv_at hl 1 rfl) ?_
    refine lv_iconst (v := 3) hx hb dX6_run_11 (by decide) ?_
    refine g_callS (As := [.int la, .int fi, .int 3]) (rest := []) ⟨hx, hb, hml, hown, hts⟩ (c_within l la fi 3) (va_cwS 3 hts gX6_run_X6_within rfl rfl rfl (by decide +kernel) ⟨by decide, by decide⟩) rfl rfl hl.1 (Nat.le_of_ble_eq_true rfl) dX6_run_12 ⟨Nat.zero_le _, Nat.zero_le _⟩ ?_
    refine lv_if_ne (tgt := 20) hx hb dX6_run_15 (by decide) (fun c_2 => ?_) (fun c_2 => ?_)
    · skip
      refine lv_aload_n hx hb dX6_run_20 rfl (lv_at hl 0 rfl) ?_
      refine mw_get (ci := 5) (C := RX6) (T := TX6) (N := 7) (v := .ref (ad 7)) hx hb hts hinX6 hown hK hP 0 (by decide) cF_0 rfl 5 (by decide) kf38 (fun _ h9 => h9) rfl dX6_run_21 ?_
      refine g_callV (As := []) (rest := []) (N := 7) (T := TX1) (ci := 1) ⟨hx, hb, hml, hown, hts⟩ 7 (c_logBegin l D cy ad wy mt hj σ) (cwV 0 hts gX6_run_X1_beginAnew rfl rfl rfl (by decide +kernel) ⟨by decide, by decide⟩) h0 hP hS (by decide) cF_7 rfl rfl rfl hl.1 (Nat.le_of_ble_eq_true rfl) dX6_run_24 ⟨Nat.zero_le _, Nat.zero_le _⟩ (fun H locs hP hS => ?_)
      refine lv_iload_n hx hb dX6_run_27 rfl (lv_at hl 1 rfl) ?_
      refine lv_istore (lv' := [(4, .int fi), (0, .ref (ad 0)), (1, .int fi), (2, .int la), (3, .int wr)]) hx hb dX6_run_28 hl (by decide) rfl (fun ls hl => ?_)
      have hla : vp_in la 4 := inR_la c_1 c_2
      have loop : ∀ (fu bb : Nat) (τ : Mem) (H : Heap) (locs : List Loc) (ls : Array Slot), 5 ≤ bb + fu → bb ≤ 4 → cR τ → rOK (14 * bb) τ → cBats fi la wr fu τ bb = cBats fi la wr 5 (cLogBegin σ) (ci fi) → va_P D vwCl (mW 98 ad (cF ad cy) τ) H → va_S (mA 98 ad) s.heap H locs → lv_has ls 6 [(4, .int (nI bb)), (0, .ref (ad 0)), (1, .int fi), (2, .int la), (3, .int wr)] → W p l e ({ frames := 6, cells := 0, slots := 0, locals := 140 }) s m ([.ref (ad 0), .int fi, .int la, .int wr] : List Value).toArray below meth c H locs 0 0 (MQ below (gQ 98 ad (cF ad cy) D (some (.int (cpRun σ fi la wr).1)) (cpRun σ fi la wr).2) ([.ref (ad 0), .int fi, .int la, .int wr] : List Value).toArray s 0 0 (mA 98 ad)) (F0 m 30 ls []) := by
        intro fu
        induction fu with
        | zero =>
          intro bb τ H locs ls h5 h4
          exact absurd h5 (by omega)
        | succ fu ih =>
          intro bb τ H locs ls h5 h4 hR hO hf hP hS hl
          refine lv_iload hx hb dX6_run_30 (lv_at hl 0 rfl) ?_
          refine lv_iload_n hx hb dX6_run_32 rfl (lv_at hl 3 rfl) ?_
          refine lv_icmp_gt (tgt := 109) hx hb dX6_run_33 (by decide) (fun c_3 => ?_) (fun c_3 => ?_)
          · skip
            refine lv_iload_n hx hb dX6_run_109 rfl (lv_at hl 3 rfl) ?_
            refine lv_iload_n hx hb dX6_run_110 rfl (lv_at hl 2 rfl) ?_
            refine lv_isub hx hb dX6_run_111 ?_
            refine lv_iconst (v := 1) hx hb dX6_run_112 (by decide) ?_
            refine lv_iadd hx hb dX6_run_113 ?_
            exact g_iret hx hb hr hlocks hP hS dX6_run_114 (by unfold cpRun; rw [if_neg c_1, if_neg c_2]; exact hf.symm.trans (by rw [cBats_succ, if_pos c_3]))
          · skip
            have hb4 : bb < 4 := bb_lt hla c_3 h4
            have hS2 := sOK_batch (b := bb) hb4 hR
            refine lv_aload_n hx hb dX6_run_36 rfl (lv_at hl 1 rfl) ?_
            refine lv_aload_n hx hb dX6_run_37 rfl (lv_at hl 1 rfl) ?_
            refine mw_get (ci := 5) (C := RX6) (T := TX6) (N := 7) (v := .ref (ad 2)) hx hb hts hinX6 hown hK hP 0 (by decide) cF_0 rfl 1 (by decide) kf15 (fun _ h9 => h9) rfl dX6_run_38 ?_
            refine lv_iload hx hb dX6_run_41 (lv_at hl 0 rfl) ?_
            have ha_4 : bb < 4 := (by omega)
            refine mw_ald (f := fun q => ad (12 + q)) hx hb hK hP 2 (by decide) 2 cF_2 rfl bb ha_4 (by decide) rfl dX6_run_43 ?_
            refine g_callV (As := [.ref (ad (12 + bb))]) (rest := []) (N := 7) (T := TX6) (ci := 5) ⟨hx, hb, hml, hown, hts⟩ 0 (c_doBatch l D cy ad wy mt hj τ bb ha_4 (14 * bb) (by omega) hR hO) (cwV 1 hts gX6_run_X6_doBatch rfl rfl rfl (by decide +kernel) ⟨by decide, by decide⟩) h0 hP hS (by decide) cF_0 rfl rfl rfl hl.1 (Nat.le_of_ble_eq_true rfl) dX6_run_44 ⟨Nat.zero_le _, Nat.zero_le _⟩ (fun H locs hP hS => ?_)
            refine lv_astore (lv' := [(5, .ref (wy ((cBatch τ bb).1))), (4, .int (nI bb)), (0, .ref (ad 0)), (1, .int fi), (2, .int la), (3, .int wr)]) hx hb dX6_run_47 hl (by decide) rfl (fun ls hl => ?_)
            refine lv_aload hx hb dX6_run_49 (lv_at hl 0 rfl) ?_
            refine g_way hx hb h0 hS hown 5 (by decide) rfl kf104 dX6_run_51 ?_
            refine g_wne (a := (cBatch τ bb).1) (b := 5) (tgt := 76) hx hb h0 hS2.1 (by decide) dX6_run_54 (by decide) (fun c_5 => ?_) (fun c_5 => ?_)
            · skip
              refine lv_aload hx hb dX6_run_76 (lv_at hl 0 rfl) ?_
              refine g_way hx hb h0 hS hown 4 (by decide) rfl kf113 dX6_run_78 ?_
              refine g_wne (a := (cBatch τ bb).1) (b := 4) (tgt := 92) hx hb h0 hS2.1 (by decide) dX6_run_81 (by decide) (fun c_6 => ?_) (fun c_6 => ?_)
              · skip
                refine lv_aload hx hb dX6_run_92 (lv_at hl 0 rfl) ?_
                refine g_way hx hb h0 hS hown 6 (by decide) rfl kf116 dX6_run_94 ?_
                refine g_wne (a := (cBatch τ bb).1) (b := 6) (tgt := 103) hx hb h0 hS2.1 (by decide) dX6_run_97 (by decide) (fun c_7 => ?_) (fun c_7 => ?_)
                · skip
                  refine lv_iinc (v := nI (bb + 1)) (lv' := [(4, .int (nI (bb + 1))), (5, .ref (wy ((cBatch τ bb).1))), (0, .ref (ad 0)), (1, .int fi), (2, .int la), (3, .int wr)]) hx hb dX6_run_103 hl (k := 1) rfl (nI_1 bb) (by decide) rfl (fun ls hl => ?_)
                  refine lv_goto (tgt := 30) hx hb dX6_run_106 (by decide) ?_
                  exact ih (bb + 1) ((cBatch τ bb).2) H locs ls (by omega) (by omega) (hS2.2.1.cR hR) ((hS2.2.2 _ (by omega) hO).le (by omega)) (Eq.trans (by rw [cBats_succ, if_neg c_3, if_neg c_5, if_neg c_6, if_neg c_7]) hf) hP hS (lv_sub hl [0, 2, 3, 4, 5] rfl)
                · skip
                  refine lv_bipush (v := (-11)) hx hb dX6_run_100 (by decide) ?_
                  exact g_iret hx hb hr hlocks hP hS dX6_run_102 (by unfold cpRun; rw [if_neg c_1, if_neg c_2]; exact hf.symm.trans (by rw [cBats_succ, if_neg c_3, if_neg c_5, if_neg c_6, if_pos c_7]))
              · skip
                refine lv_bipush (v := 100) hx hb dX6_run_84 (by decide) ?_
                refine lv_aload_n hx hb dX6_run_86 rfl (lv_at hl 2 rfl) ?_
                refine mw_get (ci := 5) (C := RX6) (T := TX6) (N := 7) (v := .int (((cBatch τ bb).2) 0 6)) hx hb hts hinX6 hown hK hP 0 (by decide) cF_0 rfl 6 (by decide) kf42 (fun _ h9 => h9) rfl dX6_run_87 ?_
                refine lv_iadd hx hb dX6_run_90 ?_
                exact g_iret hx hb hr hlocks hP hS dX6_run_91 (by unfold cpRun; rw [if_neg c_1, if_neg c_2]; exact hf.symm.trans (by rw [cBats_succ, if_neg c_3, if_neg c_5, if_pos c_6]))
            · skip
              refine lv_iload_n hx hb dX6_run_57 rfl (lv_at hl 5 rfl) ?_
              refine lv_if_eq (tgt := 73) hx hb dX6_run_58 (by decide) (fun c_8 => ?_) (fun c_8 => ?_)
              · skip
                refine lv_bipush (v := (-10)) hx hb dX6_run_73 (by decide) ?_
                exact g_iret hx hb hr hlocks hP hS dX6_run_75 (by unfold cpRun; rw [if_neg c_1, if_neg c_2]; exact hf.symm.trans (by rw [cBats_succ, if_neg c_3, if_pos c_5, if_pos c_8]))
              · skip
                refine lv_aload_n hx hb dX6_run_61 rfl (lv_at hl 2 rfl) ?_
                refine mw_get (ci := 5) (C := RX6) (T := TX6) (N := 7) (v := .ref (ad 7)) hx hb hts hinX6 hown hK hP 0 (by decide) cF_0 rfl 5 (by decide) kf38 (fun _ h9 => h9) rfl dX6_run_62 ?_
                refine lv_bipush (v := 30) hx hb dX6_run_65 (by decide) ?_
                refine lv_iload hx hb dX6_run_67 (lv_at hl 1 rfl) ?_
                refine lv_iadd hx hb dX6_run_69 ?_
                refine g_callV (As := [.int (30 + (nI bb))]) (rest := []) (N := 7) (T := TX1) (ci := 1) ⟨hx, hb, hml, hown, hts⟩ 7 (c_failInStead l D cy ad wy mt hj ((cBatch τ bb).2) (30 + (nI bb)) (rOK.cl (hS2.2.2 _ (by omega) hO))) (cwV 1 hts gX6_run_X1_failInStead rfl rfl rfl (by decide +kernel) ⟨by decide, by decide⟩) h0 hP hS (by decide) cF_7 rfl rfl rfl hl.1 (Nat.le_of_ble_eq_true rfl) dX6_run_70 ⟨Nat.zero_le _, Nat.zero_le _⟩ (fun H locs hP hS => ?_)
                refine lv_bipush (v := (-10)) hx hb dX6_run_73 (by decide) ?_
                exact g_iret hx hb hr hlocks hP hS dX6_run_75 (by unfold cpRun; rw [if_neg c_1, if_neg c_2]; exact hf.symm.trans (by rw [cBats_succ, if_neg c_3, if_pos c_5, if_neg c_8]))
      exact loop 5 (ci fi) (cLogBegin σ) _ _ ls (by omega) (Nat.le_of_lt (ci_lt ix_fi)) ((kR_logBegin σ).cR hR) ((rOK_logBegin hB).le (by omega)) rfl hP hS (by rw [← ci_eq ix_fi (by decide)]; exact hl)
    · skip
      refine lv_iconst (v := (-1)) hx hb dX6_run_18 (by decide) ?_
      exact g_iret hx hb hr hlocks hP hS dX6_run_19 (by unfold cpRun; rw [if_neg c_1, if_pos c_2])
