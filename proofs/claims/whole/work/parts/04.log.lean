def inR (v lo hi : Int32) : Int32 :=
  if v < lo then 0
  else if hi < v then 0
  else 1
set_option maxHeartbeats 4000000 in
set_option maxRecDepth 100000 in
theorem c_within (l : Launch) (v lo hi : Int32) : Met l yX6_within wsX6_within ({ frames := 0, cells := 0, slots := 0, locals := 0 }) (fun av _ => av = ([.int v, .int lo, .int hi] : List Value).toArray) (QcRead (inR v lo hi)) 0 0 (fun _ => False) := by
  refine g_metS (cc := cX6_within) (maxL := 3) (ret := (some .boolean)) (by decide) rfl (Nat.le_of_ble_eq_true rfl) ?_
  intro p e s m below meth c S hr hlocks ls hl
  obtain ⟨hx, hb, hml, hown, hts⟩ := S
  have hl : lv_has ls 3 [(0, .int v), (1, .int lo), (2, .int hi)] := hl
  refine lv_iload_n hx hb dX6_within_0 rfl (lv_at hl 0 rfl) ?_
  refine lv_iload_n hx hb dX6_within_1 rfl (lv_at hl 1 rfl) ?_
  refine lv_icmp_lt (tgt := 14) hx hb dX6_within_2 (by decide) (fun c_1 => ?_) (fun c_1 => ?_)
  · skip
    refine lv_iconst (v := 0) hx hb dX6_within_14 (by decide) ?_
    exact g_szret hx hb hr hlocks dX6_within_15 (by decide) (by unfold inR; rw [if_pos c_1])
  · skip
    refine lv_iload_n hx hb dX6_within_5 rfl (lv_at hl 0 rfl) ?_
    refine lv_iload_n hx hb dX6_within_6 rfl (lv_at hl 2 rfl) ?_
    refine lv_icmp_gt (tgt := 14) hx hb dX6_within_7 (by decide) (fun c_2 => ?_) (fun c_2 => ?_)
    · skip
      refine lv_iconst (v := 0) hx hb dX6_within_14 (by decide) ?_
      exact g_szret hx hb hr hlocks dX6_within_15 (by decide) (by unfold inR; rw [if_neg c_1, if_pos c_2])
    · skip
      refine lv_iconst (v := 1) hx hb dX6_within_10 (by decide) ?_
      refine lv_goto (tgt := 15) hx hb dX6_within_11 (by decide) ?_
      exact g_szret hx hb hr hlocks dX6_within_15 (by decide) (by unfold inR; rw [if_neg c_1, if_neg c_2])

def orN (v : Int32) : Int32 :=
  if v = (-1) then (-4)
  else v
set_option maxHeartbeats 4000000 in
set_option maxRecDepth 100000 in
theorem c_orNone (l : Launch) (v : Int32) : Met l yX6_orNone wsX6_orNone ({ frames := 0, cells := 0, slots := 0, locals := 0 }) (fun av _ => av = ([.int v] : List Value).toArray) (QcRead (orN v)) 0 0 (fun _ => False) := by
  refine g_metS (cc := cX6_orNone) (maxL := 1) (ret := (some .int)) (by decide) rfl (Nat.le_of_ble_eq_true rfl) ?_
  intro p e s m below meth c S hr hlocks ls hl
  obtain ⟨hx, hb, hml, hown, hts⟩ := S
  have hl : lv_has ls 1 [(0, .int v)] := hl
  refine lv_iload_n hx hb dX6_orNone_0 rfl (lv_at hl 0 rfl) ?_
  refine lv_iconst (v := (-1)) hx hb dX6_orNone_1 (by decide) ?_
  refine lv_icmp_ne (tgt := 10) hx hb dX6_orNone_2 (by decide) (fun c_1 => ?_) (fun c_1 => ?_)
  · skip
    refine lv_iload_n hx hb dX6_orNone_10 rfl (lv_at hl 0 rfl) ?_
    exact g_sret hx hb hr hlocks dX6_orNone_11 (by unfold orN; rw [if_neg c_1])
  · skip
    refine lv_bipush (v := (-4)) hx hb dX6_orNone_5 (by decide) ?_
    refine lv_goto (tgt := 11) hx hb dX6_orNone_7 (by decide) ?_
    exact g_sret hx hb hr hlocks dX6_orNone_11 (by unfold orN; rw [if_pos c_1])

def cMark (σ : Mem) (ev : Nat) : Mem :=
  if 400 ≤ σ 7 2 then mset (mset σ 8 ev ((σ 8 ev) + 1)) 7 2 ((σ 7 2) + 1)
  else mset (mset (mset σ 8 ev ((σ 8 ev) + 1)) 9 (ci (σ 7 2)) (nI ev)) 7 2 ((σ 7 2) + 1)
set_option maxHeartbeats 4000000 in
set_option maxRecDepth 100000 in
theorem c_mark (l : Launch) (D : va_G) (cy : Nat → ClassId) (ad wy : Nat → Nat) (mt : Nat) (hj : mJ 98 ad) (σ : Mem) (ev : Nat) (hev : ev < 7) (hec : ¬ (400 : Int32) ≤ σ 7 2 → vp_in (σ 7 2) 400) : Met l yX1_mark wsX1_mark ({ frames := 0, cells := 0, slots := 0, locals := 0 }) (va_Pc [.ref (ad 7), .int (nI ev)] (gPre 98 ad (cF ad cy) D cy wy mt σ)) (gQ 98 ad (cF ad cy) D none (cMark σ ev)) 0 0 (mA 98 ad) := by
  refine g_met (cc := cX1_mark) (maxL := 2) (ret := none) (by decide) rfl (Nat.le_of_ble_eq_true rfl) ?_
  intro p e s m below meth c S hr hlocks h0 ls hl
  obtain ⟨hx, hb, hml, hown, hts⟩ := S
  have hP := h0.1
  have hK := h0.2.1
  have hS : va_S (mA 98 ad) s.heap s.heap [] := va_S.rf
  have hl : lv_has ls 2 [(0, .ref (ad 7)), (1, .int (nI ev))] := hl
  have kf9 : (Cond.fieldLink RX1 9 "BenchRuns$Log" "countOf" "[I").before (#[.ref (ad 7), .int (nI ev)] : Array Value) s = true := hts _ (by decide +kernel)
  have hinX1 : ∀ w ∈ u_ws RX1 TX1 7, w ∈ wsX1_mark := by decide +kernel
  have kf18 : (Cond.fieldLink RX1 18 "BenchRuns$Log" "eventCount" "I").before (#[.ref (ad 7), .int (nI ev)] : Array Value) s = true := hts _ (by decide +kernel)
  have kf15 : (Cond.fieldLink RX1 15 "BenchRuns$Log" "events" "[I").before (#[.ref (ad 7), .int (nI ev)] : Array Value) s = true := hts _ (by decide +kernel)
  refine lv_aload_n hx hb dX1_mark_0 rfl (lv_at hl 0 rfl) ?_
  refine mw_get (ci := 1) (C := RX1) (T := TX1) (N := 7) (v := .ref (ad 8)) hx hb hts hinX1 hown hK hP 7 (by decide) cF_7 rfl 0 (by decide) kf9 (fun _ h9 => h9) rfl dX1_mark_1 ?_
  refine lv_iload_n hx hb dX1_mark_4 rfl (lv_at hl 1 rfl) ?_
  refine lv_dup2_11 hx hb dX1_mark_5 rfl rfl ?_
  refine mw_ild hx hb hK hP 8 (by decide) 0 cF_8 rfl ev (by omega) (by decide) rfl dX1_mark_6 ?_
  refine lv_iconst (v := 1) hx hb dX1_mark_7 (by decide) ?_
  refine lv_iadd hx hb dX1_mark_8 ?_
  refine mw_ist hx hb hK hj hP hS 8 (by decide) 0 cF_8 rfl ev (by omega) (by decide) rfl dX1_mark_9 (fun H locs hP hS => ?_)
  refine lv_aload_n hx hb dX1_mark_10 rfl (lv_at hl 0 rfl) ?_
  refine mw_get (ci := 1) (C := RX1) (T := TX1) (N := 7) (v := .int (σ 7 2)) hx hb hts hinX1 hown hK hP 7 (by decide) cF_7 rfl 2 (by decide) kf18 (fun _ h9 => h9) rfl dX1_mark_11 ?_
  refine lv_sipush (v := 400) hx hb dX1_mark_14 (by decide) ?_
  refine lv_icmp_ge (tgt := 30) hx hb dX1_mark_17 (by decide) (fun c_1 => ?_) (fun c_1 => ?_)
  · skip
    refine lv_aload_n hx hb dX1_mark_30 rfl (lv_at hl 0 rfl) ?_
    refine lv_dup hx hb dX1_mark_31 rfl ?_
    refine mw_get (ci := 1) (C := RX1) (T := TX1) (N := 7) (v := .int (σ 7 2)) hx hb hts hinX1 hown hK hP 7 (by decide) cF_7 rfl 2 (by decide) kf18 (fun _ h9 => h9) rfl dX1_mark_32 ?_
    refine lv_iconst (v := 1) hx hb dX1_mark_35 (by decide) ?_
    refine lv_iadd hx hb dX1_mark_36 ?_
    refine mw_put (ci := 1) (C := RX1) (T := TX1) (N := 7) (v := (σ 7 2) + 1) (ty := .int) hx hb hts hinX1 tyX1 tyX1_ok nmX1 hown hK hj hP hS 7 (by decide) cF_7 rfl 2 (by decide) kf18 (fun _ h9 => h9) rfl (by decide +kernel) rfl rfl (Nat.le_of_ble_eq_true rfl) rfl dX1_mark_37 (fun H locs hP hS => ?_)
    exact g_vret hx hb hr hlocks hP hS dX1_mark_40 (by unfold cMark; rw [if_pos c_1])
  · skip
    have ix : vp_in (σ 7 2) 400 := hec c_1
    refine lv_aload_n hx hb dX1_mark_20 rfl (lv_at hl 0 rfl) ?_
    refine mw_get (ci := 1) (C := RX1) (T := TX1) (N := 7) (v := .ref (ad 9)) hx hb hts hinX1 hown hK hP 7 (by decide) cF_7 rfl 1 (by decide) kf15 (fun _ h9 => h9) rfl dX1_mark_21 ?_
    refine lv_aload_n hx hb dX1_mark_24 rfl (lv_at hl 0 rfl) ?_
    refine mw_get (ci := 1) (C := RX1) (T := TX1) (N := 7) (v := .int (σ 7 2)) hx hb hts hinX1 hown hK hP 7 (by decide) cF_7 rfl 2 (by decide) kf18 (fun _ h9 => h9) rfl dX1_mark_25 ?_
    refine lv_iload_n hx hb dX1_mark_28 rfl (lv_at hl 1 rfl) ?_
    refine mw_ist hx hb hK hj hP hS 9 (by decide) 0 cF_9 rfl (ci (σ 7 2)) (ci_lt ix) (by decide) (ci_eq ix (by decide)) dX1_mark_29 (fun H locs hP hS => ?_)
    refine lv_aload_n hx hb dX1_mark_30 rfl (lv_at hl 0 rfl) ?_
    refine lv_dup hx hb dX1_mark_31 rfl ?_
    refine mw_get (ci := 1) (C := RX1) (T := TX1) (N := 7) (v := .int (σ 7 2)) hx hb hts hinX1 hown hK hP 7 (by decide) cF_7 rfl 2 (by decide) kf18 (fun _ h9 => h9) rfl dX1_mark_32 ?_
    refine lv_iconst (v := 1) hx hb dX1_mark_35 (by decide) ?_
    refine lv_iadd hx hb dX1_mark_36 ?_
    refine mw_put (ci := 1) (C := RX1) (T := TX1) (N := 7) (v := (σ 7 2) + 1) (ty := .int) hx hb hts hinX1 tyX1 tyX1_ok nmX1 hown hK hj hP hS 7 (by decide) cF_7 rfl 2 (by decide) kf18 (fun _ h9 => h9) rfl (by decide +kernel) rfl rfl (Nat.le_of_ble_eq_true rfl) rfl dX1_mark_37 (fun H locs hP hS => ?_)
    exact g_vret hx hb hr hlocks hP hS dX1_mark_40 (by unfold cMark; rw [if_neg c_1])

def cFail (σ : Mem) (n : Int32) : Nat × Mem :=
  if n < 3 then (5, mset (mset (mset σ 11 0 n) 11 1 n) 7 6 1)
  else if 8 < n then (5, mset (mset (mset σ 11 0 n) 11 1 n) 7 6 1)
  else (5, mset (mset (mset σ 11 0 (100 + n)) 11 1 n) 7 6 2)
set_option maxHeartbeats 4000000 in
set_option maxRecDepth 100000 in
theorem c_fail (l : Launch) (D : va_G) (cy : Nat → ClassId) (ad wy : Nat → Nat) (mt : Nat) (hj : mJ 98 ad) (σ : Mem) (n : Int32)  : Met l yX1_fail wsX1_fail ({ frames := 0, cells := 0, slots := 0, locals := 0 }) (va_Pc [.ref (ad 7), .int n] (gPre 98 ad (cF ad cy) D cy wy mt σ)) (gQ 98 ad (cF ad cy) D (some (.ref (wy (cFail σ n).1))) (cFail σ n).2) 0 0 (mA 98 ad) := by
  refine g_met (cc := cX1_fail) (maxL := 3) (ret := (some (.object "BenchRuns$Way"))) (by decide) rfl (Nat.le_of_ble_eq_true rfl) ?_
  intro p e s m below meth c S hr hlocks h0 ls hl
  obtain ⟨hx, hb, hml, hown, hts⟩ := S
  have hP := h0.1
  have hK := h0.2.1
  have hS : va_S (mA 98 ad) s.heap s.heap [] := va_S.rf
  have hl : lv_has ls 3 [(0, .ref (ad 7)), (1, .int n)] := hl
  have kf28 : (Cond.fieldLink RX1 28 "BenchRuns$Log" "chain" "[I").before (#[.ref (ad 7), .int n] : Array Value) s = true := hts _ (by decide +kernel)
  have hinX1 : ∀ w ∈ u_ws RX1 TX1 7, w ∈ wsX1_fail := by decide +kernel
  have kf31 : (Cond.fieldLink RX1 31 "BenchRuns$Log" "chainLength" "I").before (#[.ref (ad 7), .int n] : Array Value) s = true := hts _ (by decide +kernel)
  have kf34 : (Cond.fieldLink RX1 34 "BenchRuns$Way" "FAILURE" "LBenchRuns$Way;").before (#[.ref (ad 7), .int n] : Array Value) s = true := hts _ (by decide +kernel)
  refine lv_iload_n hx hb dX1_fail_0 rfl (lv_at hl 1 rfl) ?_
  refine lv_iconst (v := 3) hx hb dX1_fail_1 (by decide) ?_
  refine lv_icmp_lt (tgt := 15) hx hb dX1_fail_2 (by decide) (fun c_1 => ?_) (fun c_1 => ?_)
  · skip
    refine lv_iconst (v := 0) hx hb dX1_fail_15 (by decide) ?_
    refine lv_istore_n (lv' := [(2, .int 0), (0, .ref (ad 7)), (1, .int n)]) hx hb dX1_fail_16 rfl hl (by decide) rfl (fun ls hl => ?_)
    refine lv_aload_n hx hb dX1_fail_17 rfl (lv_at hl 1 rfl) ?_
    refine mw_get (ci := 1) (C := RX1) (T := TX1) (N := 7) (v := .ref (ad 11)) hx hb hts hinX1 hown hK hP 7 (by decide) cF_7 rfl 5 (by decide) kf28 (fun _ h9 => h9) rfl dX1_fail_18 ?_
    refine lv_iconst (v := 0) hx hb dX1_fail_21 (by decide) ?_
    refine lv_iload_n hx hb dX1_fail_22 rfl (lv_at hl 0 rfl) ?_
    refine lv_if_eq (tgt := 33) hx hb dX1_fail_23 (by decide) (fun _ => ?_) (fun c9 => absurd c9 (by decide))
    refine lv_iload_n hx hb dX1_fail_33 rfl (lv_at hl 2 rfl) ?_
    refine mw_ist hx hb hK hj hP hS 11 (by decide) 0 cF_11 rfl 0 (by decide) (by decide) rfl dX1_fail_34 (fun H locs hP hS => ?_)
    refine lv_aload_n hx hb dX1_fail_35 rfl (lv_at hl 1 rfl) ?_
    refine mw_get (ci := 1) (C := RX1) (T := TX1) (N := 7) (v := .ref (ad 11)) hx hb hts hinX1 hown hK hP 7 (by decide) cF_7 rfl 5 (by decide) kf28 (fun _ h9 => h9) rfl dX1_fail_36 ?_
    refine lv_iconst (v := 1) hx hb dX1_fail_39 (by decide) ?_
    refine lv_iload_n hx hb dX1_fail_40 rfl (lv_at hl 2 rfl) ?_
    refine mw_ist hx hb hK hj hP hS 11 (by decide) 0 cF_11 rfl 1 (by decide) (by decide) rfl dX1_fail_41 (fun H locs hP hS => ?_)
    refine lv_aload_n hx hb dX1_fail_42 rfl (lv_at hl 1 rfl) ?_
    refine lv_iload_n hx hb dX1_fail_43 rfl (lv_at hl 0 rfl) ?_
    refine lv_if_eq (tgt := 51) hx hb dX1_fail_44 (by decide) (fun _ => ?_) (fun c9 => absurd c9 (by decide))
    refine lv_iconst (v := 1) hx hb dX1_fail_51 (by decide) ?_
    refine mw_put (ci := 1) (C := RX1) (T := TX1) (N := 7) (v := 1) (ty := .int) hx hb hts hinX1 tyX1 tyX1_ok nmX1 hown hK hj hP hS 7 (by decide) cF_7 rfl 6 (by decide) kf31 (fun _ h9 => h9) rfl (by decide +kernel) rfl rfl (Nat.le_of_ble_eq_true rfl) rfl dX1_fail_52 (fun H locs hP hS => ?_)
    refine g_way hx hb h0 hS hown 5 (by decide) rfl kf34 dX1_fail_55 ?_
    exact g_aret hx hb hr hlocks hP hS dX1_fail_58 (by unfold cFail; rw [if_pos c_1])
  · skip
    refine lv_iload_n hx hb dX1_fail_5 rfl (lv_at hl 1 rfl) ?_
    refine lv_bipush (v := 8) hx hb dX1_fail_6 (by decide) ?_
    refine lv_icmp_gt (tgt := 15) hx hb dX1_fail_8 (by decide) (fun c_2 => ?_) (fun c_2 => ?_)
    · skip
      refine lv_iconst (v := 0) hx hb dX1_fail_15 (by decide) ?_
      refine lv_istore_n (lv' := [(2, .int 0), (0, .ref (ad 7)), (1, .int n)]) hx hb dX1_fail_16 rfl hl (by decide) rfl (fun ls hl => ?_)
      refine lv_aload_n hx hb dX1_fail_17 rfl (lv_at hl 1 rfl) ?_
      refine mw_get (ci := 1) (C := RX1) (T := TX1) (N := 7) (v := .ref (ad 11)) hx hb hts hinX1 hown hK hP 7 (by decide) cF_7 rfl 5 (by decide) kf28 (fun _ h9 => h9) rfl dX1_fail_18 ?_
      refine lv_iconst (v := 0) hx hb dX1_fail_21 (by decide) ?_
      refine lv_iload_n hx hb dX1_fail_22 rfl (lv_at hl 0 rfl) ?_
      refine lv_if_eq (tgt := 33) hx hb dX1_fail_23 (by decide) (fun _ => ?_) (fun c9 => absurd c9 (by decide))
      refine lv_iload_n hx hb dX1_fail_33 rfl (lv_at hl 2 rfl) ?_
      refine mw_ist hx hb hK hj hP hS 11 (by decide) 0 cF_11 rfl 0 (by decide) (by decide) rfl dX1_fail_34 (fun H locs hP hS => ?_)
      refine lv_aload_n hx hb dX1_fail_35 rfl (lv_at hl 1 rfl) ?_
      refine mw_get (ci := 1) (C := RX1) (T := TX1) (N := 7) (v := .ref (ad 11)) hx hb hts hinX1 hown hK hP 7 (by decide) cF_7 rfl 5 (by decide) kf28 (fun _ h9 => h9) rfl dX1_fail_36 ?_
      refine lv_iconst (v := 1) hx hb dX1_fail_39 (by decide) ?_
      refine lv_iload_n hx hb dX1_fail_40 rfl (lv_at hl 2 rfl) ?_
      refine mw_ist hx hb hK hj hP hS 11 (by decide) 0 cF_11 rfl 1 (by decide) (by decide) rfl dX1_fail_41 (fun H locs hP hS => ?_)
      refine lv_aload_n hx hb dX1_fail_42 rfl (lv_at hl 1 rfl) ?_
      refine lv_iload_n hx hb dX1_fail_43 rfl (lv_at hl 0 rfl) ?_
      refine lv_if_eq (tgt := 51) hx hb dX1_fail_44 (by decide) (fun _ => ?_) (fun c9 => absurd c9 (by decide))
      refine lv_iconst (v := 1) hx hb dX1_fail_51 (by decide) ?_
      refine mw_put (ci := 1) (C := RX1) (T := TX1) (N := 7) (v := 1) (ty := .int) hx hb hts hinX1 tyX1 tyX1_ok nmX1 hown hK hj hP hS 7 (by decide) cF_7 rfl 6 (by decide) kf31 (fun _ h9 => h9) rfl (by decide +kernel) rfl rfl (Nat.le_of_ble_eq_true rfl) rfl dX1_fail_52 (fun H locs hP hS => ?_)
      refine g_way hx hb h0 hS hown 5 (by decide) rfl kf34 dX1_fail_55 ?_
      exact g_aret hx hb hr hlocks hP hS dX1_fail_58 (by unfold cFail; rw [if_neg c_1, if_pos c_2])
    · skip
      refine lv_iconst (v := 1) hx hb dX1_fail_11 (by decide) ?_
      refine lv_goto (tgt := 16) hx hb dX1_fail_12 (by decide) ?_
      refine lv_istore_n (lv' := [(2, .int 1), (0, .ref (ad 7)), (1, .int n)]) hx hb dX1_fail_16 rfl hl (by decide) rfl (fun ls hl => ?_)
      refine lv_aload_n hx hb dX1_fail_17 rfl (lv_at hl 1 rfl) ?_
      refine mw_get (ci := 1) (C := RX1) (T := TX1) (N := 7) (v := .ref (ad 11)) hx hb hts hinX1 hown hK hP 7 (by decide) cF_7 rfl 5 (by decide) kf28 (fun _ h9 => h9) rfl dX1_fail_18 ?_
      refine lv_iconst (v := 0) hx hb dX1_fail_21 (by decide) ?_
      refine lv_iload_n hx hb dX1_fail_22 rfl (lv_at hl 0 rfl) ?_
      refine lv_if_eq (tgt := 33) hx hb dX1_fail_23 (by decide) (fun c9 => absurd c9 (by decide)) (fun _ => ?_)
      refine lv_bipush (v := 100) hx hb dX1_fail_26 (by decide) ?_
      refine lv_iload_n hx hb dX1_fail_28 rfl (lv_at hl 2 rfl) ?_
      refine lv_iadd hx hb dX1_fail_29 ?_
      refine lv_goto (tgt := 34) hx hb dX1_fail_30 (by decide) ?_
      refine mw_ist hx hb hK hj hP hS 11 (by decide) 0 cF_11 rfl 0 (by decide) (by decide) rfl dX1_fail_34 (fun H locs hP hS => ?_)
      refine lv_aload_n hx hb dX1_fail_35 rfl (lv_at hl 1 rfl) ?_
      refine mw_get (ci := 1) (C := RX1) (T := TX1) (N := 7) (v := .ref (ad 11)) hx hb hts hinX1 hown hK hP 7 (by decide) cF_7 rfl 5 (by decide) kf28 (fun _ h9 => h9) rfl dX1_fail_36 ?_
      refine lv_iconst (v := 1) hx hb dX1_fail_39 (by decide) ?_
      refine lv_iload_n hx hb dX1_fail_40 rfl (lv_at hl 2 rfl) ?_
      refine mw_ist hx hb hK hj hP hS 11 (by decide) 0 cF_11 rfl 1 (by decide) (by decide) rfl dX1_fail_41 (fun H locs hP hS => ?_)
      refine lv_aload_n hx hb dX1_fail_42 rfl (lv_at hl 1 rfl) ?_
      refine lv_iload_n hx hb dX1_fail_43 rfl (lv_at hl 0 rfl) ?_
      refine lv_if_eq (tgt := 51) hx hb dX1_fail_44 (by decide) (fun c9 => absurd c9 (by decide)) (fun _ => ?_)
      refine lv_iconst (v := 2) hx hb dX1_fail_47 (by decide) ?_
      refine lv_goto (tgt := 52) hx hb dX1_fail_48 (by decide) ?_
      refine mw_put (ci := 1) (C := RX1) (T := TX1) (N := 7) (v := 2) (ty := .int) hx hb hts hinX1 tyX1 tyX1_ok nmX1 hown hK hj hP hS 7 (by decide) cF_7 rfl 6 (by decide) kf31 (fun _ h9 => h9) rfl (by decide +kernel) rfl rfl (Nat.le_of_ble_eq_true rfl) rfl dX1_fail_52 (fun H locs hP hS => ?_)
      refine g_way hx hb h0 hS hown 5 (by decide) rfl kf34 dX1_fail_55 ?_
      exact g_aret hx hb hr hlocks hP hS dX1_fail_58 (by unfold cFail; rw [if_neg c_1, if_neg c_2])

def cFailLaid (σ : Mem) (n : Int32) : Nat × Mem :=
  (5, mset (mset σ 11 0 n) 7 6 1)
set_option maxHeartbeats 4000000 in
set_option maxRecDepth 100000 in
theorem c_failAsLaid (l : Launch) (D : va_G) (cy : Nat → ClassId) (ad wy : Nat → Nat) (mt : Nat) (hj : mJ 98 ad) (σ : Mem) (n : Int32)  : Met l yX1_failAsLaid wsX1_failAsLaid ({ frames := 0, cells := 0, slots := 0, locals := 0 }) (va_Pc [.ref (ad 7), .int n] (gPre 98 ad (cF ad cy) D cy wy mt σ)) (gQ 98 ad (cF ad cy) D (some (.ref (wy (cFailLaid σ n).1))) (cFailLaid σ n).2) 0 0 (mA 98 ad) := by
  refine g_met (cc := cX1_failAsLaid) (maxL := 2) (ret := (some (.object "BenchRuns$Way"))) (by decide) rfl (Nat.le_of_ble_eq_true rfl) ?_
  intro p e s m below meth c S hr hlocks h0 ls hl
  obtain ⟨hx, hb, hml, hown, hts⟩ := S
  have hP := h0.1
  have hK := h0.2.1
  have hS : va_S (mA 98 ad) s.heap s.heap [] := va_S.rf
  have hl : lv_has ls 2 [(0, .ref (ad 7)), (1, .int n)] := hl
  have kf28 : (Cond.fieldLink RX1 28 "BenchRuns$Log" "chain" "[I").before (#[.ref (ad 7), .int n] : Array Value) s = true := hts _ (by decide +kernel)
  have hinX1 : ∀ w ∈ u_ws RX1 TX1 7, w ∈ wsX1_failAsLaid := by decide +kernel
  have kf31 : (Cond.fieldLink RX1 31 "BenchRuns$Log" "chainLength" "I").before (#[.ref (ad 7), .int n] : Array Value) s = true := hts _ (by decide +kernel)
  have kf34 : (Cond.fieldLink RX1 34 "BenchRuns$Way" "FAILURE" "LBenchRuns$Way;").before (#[.ref (ad 7), .int n] : Array Value) s = true := hts _ (by decide +kernel)
  refine lv_aload_n hx hb dX1_failAsLaid_0 rfl (lv_at hl 0 rfl) ?_
  refine mw_get (ci := 1) (C := RX1) (T := TX1) (N := 7) (v := .ref (ad 11)) hx hb hts hinX1 hown hK hP 7 (by decide) cF_7 rfl 5 (by decide) kf28 (fun _ h9 => h9) rfl dX1_failAsLaid_1 ?_
  refine lv_iconst (v := 0) hx hb dX1_failAsLaid_4 (by decide) ?_
  refine lv_iload_n hx hb dX1_failAsLaid_5 rfl (lv_at hl 1 rfl) ?_
  refine mw_ist hx hb hK hj hP hS 11 (by decide) 0 cF_11 rfl 0 (by decide) (by decide) rfl dX1_failAsLaid_6 (fun H locs hP hS => ?_)
  refine lv_aload_n hx hb dX1_failAsLaid_7 rfl (lv_at hl 0 rfl) ?_
  refine lv_iconst (v := 1) hx hb dX1_failAsLaid_8 (by decide) ?_
  refine mw_put (ci := 1) (C := RX1) (T := TX1) (N := 7) (v := 1) (ty := .int) hx hb hts hinX1 tyX1 tyX1_ok nmX1 hown hK hj hP hS 7 (by decide) cF_7 rfl 6 (by decide) kf31 (fun _ h9 => h9) rfl (by decide +kernel) rfl rfl (Nat.le_of_ble_eq_true rfl) rfl dX1_failAsLaid_9 (fun H locs hP hS => ?_)
  refine g_way hx hb h0 hS hown 5 (by decide) rfl kf34 dX1_failAsLaid_12 ?_
  exact g_aret hx hb hr hlocks hP hS dX1_failAsLaid_15 (by unfold cFailLaid; rfl)

def cInStead (σ : Mem) (n : Int32) : Mem :=
  if 4 ≤ σ 7 6 then σ
  else mset (mset σ 11 (ci (σ 7 6)) n) 7 6 ((σ 7 6) + 1)
set_option maxHeartbeats 4000000 in
set_option maxRecDepth 100000 in
theorem c_failInStead (l : Launch) (D : va_G) (cy : Nat → ClassId) (ad wy : Nat → Nat) (mt : Nat) (hj : mJ 98 ad) (σ : Mem) (n : Int32) (hcl : ¬ (4 : Int32) ≤ σ 7 6 → vp_in (σ 7 6) 4) : Met l yX1_failInStead wsX1_failInStead ({ frames := 0, cells := 0, slots := 0, locals := 0 }) (va_Pc [.ref (ad 7), .int n] (gPre 98 ad (cF ad cy) D cy wy mt σ)) (gQ 98 ad (cF ad cy) D none (cInStead σ n)) 0 0 (mA 98 ad) := by
  refine g_met (cc := cX1_failInStead) (maxL := 2) (ret := none) (by decide) rfl (Nat.le_of_ble_eq_true rfl) ?_
  intro p e s m below meth c S hr hlocks h0 ls hl
  obtain ⟨hx, hb, hml, hown, hts⟩ := S
  have hP := h0.1
  have hK := h0.2.1
  have hS : va_S (mA 98 ad) s.heap s.heap [] := va_S.rf
  have hl : lv_has ls 2 [(0, .ref (ad 7)), (1, .int n)] := hl
  have kf31 : (Cond.fieldLink RX1 31 "BenchRuns$Log" "chainLength" "I").before (#[.ref (ad 7), .int n] : Array Value) s = true := hts _ (by decide +kernel)
  have hinX1 : ∀ w ∈ u_ws RX1 TX1 7, w ∈ wsX1_failInStead := by decide +kernel
  have kf28 : (Cond.fieldLink RX1 28 "BenchRuns$Log" "chain" "[I").before (#[.ref (ad 7), .int n] : Array Value) s = true := hts _ (by decide +kernel)
  refine lv_aload_n hx hb dX1_failInStead_0 rfl (lv_at hl 0 rfl) ?_
  refine mw_get (ci := 1) (C := RX1) (T := TX1) (N := 7) (v := .int (σ 7 6)) hx hb hts hinX1 hown hK hP 7 (by decide) cF_7 rfl 6 (by decide) kf31 (fun _ h9 => h9) rfl dX1_failInStead_1 ?_
  refine lv_iconst (v := 4) hx hb dX1_failInStead_4 (by decide) ?_
  refine lv_icmp_ge (tgt := 28) hx hb dX1_failInStead_5 (by decide) (fun c_1 => ?_) (fun c_1 => ?_)
  · skip
    exact g_vret hx hb hr hlocks hP hS dX1_failInStead_28 (by unfold cInStead; rw [if_pos c_1])
  · skip
    have ix : vp_in (σ 7 6) 4 := hcl c_1
    refine lv_aload_n hx hb dX1_failInStead_8 rfl (lv_at hl 0 rfl) ?_
    refine mw_get (ci := 1) (C := RX1) (T := TX1) (N := 7) (v := .ref (ad 11)) hx hb hts hinX1 hown hK hP 7 (by decide) cF_7 rfl 5 (by decide) kf28 (fun _ h9 => h9) rfl dX1_failInStead_9 ?_
    refine lv_aload_n hx hb dX1_failInStead_12 rfl (lv_at hl 0 rfl) ?_
    refine mw_get (ci := 1) (C := RX1) (T := TX1) (N := 7) (v := .int (σ 7 6)) hx hb hts hinX1 hown hK hP 7 (by decide) cF_7 rfl 6 (by decide) kf31 (fun _ h9 => h9) rfl dX1_failInStead_13 ?_
    refine lv_iload_n hx hb dX1_failInStead_16 rfl (lv_at hl 1 rfl) ?_
    refine mw_ist hx hb hK hj hP hS 11 (by decide) 0 cF_11 rfl (ci (σ 7 6)) (ci_lt ix) (by decide) (ci_eq ix (by decide)) dX1_failInStead_17 (fun H locs hP hS => ?_)
    refine lv_aload_n hx hb dX1_failInStead_18 rfl (lv_at hl 0 rfl) ?_
    refine lv_dup hx hb dX1_failInStead_19 rfl ?_
    refine mw_get (ci := 1) (C := RX1) (T := TX1) (N := 7) (v := .int (σ 7 6)) hx hb hts hinX1 hown hK hP 7 (by decide) cF_7 rfl 6 (by decide) kf31 (fun _ h9 => h9) rfl dX1_failInStead_20 ?_
    refine lv_iconst (v := 1) hx hb dX1_failInStead_23 (by decide) ?_
    refine lv_iadd hx hb dX1_failInStead_24 ?_
    refine mw_put (ci := 1) (C := RX1) (T := TX1) (N := 7) (v := (σ 7 6) + 1) (ty := .int) hx hb hts hinX1 tyX1 tyX1_ok nmX1 hown hK hj hP hS 7 (by decide) cF_7 rfl 6 (by decide) kf31 (fun _ h9 => h9) rfl (by decide +kernel) rfl rfl (Nat.le_of_ble_eq_true rfl) rfl dX1_failInStead_25 (fun H locs hP hS => ?_)
    exact g_vret hx hb hr hlocks hP hS dX1_failInStead_28 (by unfold cInStead; rw [if_neg c_1])

def cNote (σ : Mem)  : Mem :=
  if σ 7 6 ≤ 0 then mset σ 7 6 0
  else if 24 ≤ σ 7 4 then mset σ 7 6 0
  else mset (mset (mset σ 10 (ci (σ 7 4)) (σ 11 (ci ((σ 7 6) - 1)))) 7 4 ((σ 7 4) + 1)) 7 6 0
set_option maxHeartbeats 4000000 in
set_option maxRecDepth 100000 in
theorem c_noteFailure (l : Launch) (D : va_G) (cy : Nat → ClassId) (ad wy : Nat → Nat) (mt : Nat) (hj : mJ 98 ad) (σ : Mem)  (hcl : ¬ σ 7 6 ≤ 0 → vp_in (σ 7 6 - 1) 4) (hnc : ¬ (24 : Int32) ≤ σ 7 4 → vp_in (σ 7 4) 24) : Met l yX1_noteFailure wsX1_noteFailure ({ frames := 0, cells := 0, slots := 0, locals := 0 }) (va_Pc [.ref (ad 7)] (gPre 98 ad (cF ad cy) D cy wy mt σ)) (gQ 98 ad (cF ad cy) D none (cNote σ)) 0 0 (mA 98 ad) := by
  refine g_met (cc := cX1_noteFailure) (maxL := 1) (ret := none) (by decide) rfl (Nat.le_of_ble_eq_true rfl) ?_
  intro p e s m below meth c S hr hlocks h0 ls hl
  obtain ⟨hx, hb, hml, hown, hts⟩ := S
  have hP := h0.1
  have hK := h0.2.1
  have hS : va_S (mA 98 ad) s.heap s.heap [] := va_S.rf
  have hl : lv_has ls 1 [(0, .ref (ad 7))] := hl
  have kf31 : (Cond.fieldLink RX1 31 "BenchRuns$Log" "chainLength" "I").before (#[.ref (ad 7)] : Array Value) s = true := hts _ (by decide +kernel)
  have hinX1 : ∀ w ∈ u_ws RX1 TX1 7, w ∈ wsX1_noteFailure := by decide +kernel
  have kf25 : (Cond.fieldLink RX1 25 "BenchRuns$Log" "notedCount" "I").before (#[.ref (ad 7)] : Array Value) s = true := hts _ (by decide +kernel)
  have kf22 : (Cond.fieldLink RX1 22 "BenchRuns$Log" "notedNumbers" "[I").before (#[.ref (ad 7)] : Array Value) s = true := hts _ (by decide +kernel)
  have kf28 : (Cond.fieldLink RX1 28 "BenchRuns$Log" "chain" "[I").before (#[.ref (ad 7)] : Array Value) s = true := hts _ (by decide +kernel)
  refine lv_aload_n hx hb dX1_noteFailure_0 rfl (lv_at hl 0 rfl) ?_
  refine mw_get (ci := 1) (C := RX1) (T := TX1) (N := 7) (v := .int (σ 7 6)) hx hb hts hinX1 hown hK hP 7 (by decide) cF_7 rfl 6 (by decide) kf31 (fun _ h9 => h9) rfl dX1_noteFailure_1 ?_
  refine lv_if_le (tgt := 46) hx hb dX1_noteFailure_4 (by decide) (fun c_1 => ?_) (fun c_1 => ?_)
  · skip
    refine lv_aload_n hx hb dX1_noteFailure_46 rfl (lv_at hl 0 rfl) ?_
    refine lv_iconst (v := 0) hx hb dX1_noteFailure_47 (by decide) ?_
    refine mw_put (ci := 1) (C := RX1) (T := TX1) (N := 7) (v := 0) (ty := .int) hx hb hts hinX1 tyX1 tyX1_ok nmX1 hown hK hj hP hS 7 (by decide) cF_7 rfl 6 (by decide) kf31 (fun _ h9 => h9) rfl (by decide +kernel) rfl rfl (Nat.le_of_ble_eq_true rfl) rfl dX1_noteFailure_48 (fun H locs hP hS => ?_)
    exact g_vret hx hb hr hlocks hP hS dX1_noteFailure_51 (by unfold cNote; rw [if_pos c_1])
  · skip
    have ix : vp_in (σ 7 6 - 1) 4 := hcl c_1
    refine lv_aload_n hx hb dX1_noteFailure_7 rfl (lv_at hl 0 rfl) ?_
    refine mw_get (ci := 1) (C := RX1) (T := TX1) (N := 7) (v := .int (σ 7 4)) hx hb hts hinX1 hown hK hP 7 (by decide) cF_7 rfl 4 (by decide) kf25 (fun _ h9 => h9) rfl dX1_noteFailure_8 ?_
    refine lv_bipush (v := 24) hx hb dX1_noteFailure_11 (by decide) ?_
    refine lv_icmp_ge (tgt := 46) hx hb dX1_noteFailure_13 (by decide) (fun c_2 => ?_) (fun c_2 => ?_)
    · skip
      refine lv_aload_n hx hb dX1_noteFailure_46 rfl (lv_at hl 0 rfl) ?_
      refine lv_iconst (v := 0) hx hb dX1_noteFailure_47 (by decide) ?_
      refine mw_put (ci := 1) (C := RX1) (T := TX1) (N := 7) (v := 0) (ty := .int) hx hb hts hinX1 tyX1 tyX1_ok nmX1 hown hK hj hP hS 7 (by decide) cF_7 rfl 6 (by decide) kf31 (fun _ h9 => h9) rfl (by decide +kernel) rfl rfl (Nat.le_of_ble_eq_true rfl) rfl dX1_noteFailure_48 (fun H locs hP hS => ?_)
      exact g_vret hx hb hr hlocks hP hS dX1_noteFailure_51 (by unfold cNote; rw [if_neg c_1, if_pos c_2])
    · skip
      have ix2 : vp_in (σ 7 4) 24 := hnc c_2
      refine lv_aload_n hx hb dX1_noteFailure_16 rfl (lv_at hl 0 rfl) ?_
      refine mw_get (ci := 1) (C := RX1) (T := TX1) (N := 7) (v := .ref (ad 10)) hx hb hts hinX1 hown hK hP 7 (by decide) cF_7 rfl 3 (by decide) kf22 (fun _ h9 => h9) rfl dX1_noteFailure_17 ?_
      refine lv_aload_n hx hb dX1_noteFailure_20 rfl (lv_at hl 0 rfl) ?_
      refine mw_get (ci := 1) (C := RX1) (T := TX1) (N := 7) (v := .int (σ 7 4)) hx hb hts hinX1 hown hK hP 7 (by decide) cF_7 rfl 4 (by decide) kf25 (fun _ h9 => h9) rfl dX1_noteFailure_21 ?_
      refine lv_aload_n hx hb dX1_noteFailure_24 rfl (lv_at hl 0 rfl) ?_
      refine mw_get (ci := 1) (C := RX1) (T := TX1) (N := 7) (v := .ref (ad 11)) hx hb hts hinX1 hown hK hP 7 (by decide) cF_7 rfl 5 (by decide) kf28 (fun _ h9 => h9) rfl dX1_noteFailure_25 ?_
      refine lv_aload_n hx hb dX1_noteFailure_28 rfl (lv_at hl 0 rfl) ?_
      refine mw_get (ci := 1) (C := RX1) (T := TX1) (N := 7) (v := .int (σ 7 6)) hx hb hts hinX1 hown hK hP 7 (by decide) cF_7 rfl 6 (by decide) kf31 (fun _ h9 => h9) rfl dX1_noteFailure_29 ?_
      refine lv_iconst (v := 1) hx hb dX1_noteFailure_32 (by decide) ?_
      refine lv_isub hx hb dX1_noteFailure_33 ?_
      refine mw_ild hx hb hK hP 11 (by decide) 0 cF_11 rfl (ci ((σ 7 6) - 1)) (ci_lt ix) (by decide) (ci_eq ix (by decide)) dX1_noteFailure_34 ?_
      refine mw_ist hx hb hK hj hP hS 10 (by decide) 0 cF_10 rfl (ci (σ 7 4)) (ci_lt ix2) (by decide) (ci_eq ix2 (by decide)) dX1_noteFailure_35 (fun H locs hP hS => ?_)
      refine lv_aload_n hx hb dX1_noteFailure_36 rfl (lv_at hl 0 rfl) ?_
      refine lv_dup hx hb dX1_noteFailure_37 rfl ?_
      refine mw_get (ci := 1) (C := RX1) (T := TX1) (N := 7) (v := .int (σ 7 4)) hx hb hts hinX1 hown hK hP 7 (by decide) cF_7 rfl 4 (by decide) kf25 (fun _ h9 => h9) rfl dX1_noteFailure_38 ?_
      refine lv_iconst (v := 1) hx hb dX1_noteFailure_41 (by decide) ?_
      refine lv_iadd hx hb dX1_noteFailure_42 ?_
      refine mw_put (ci := 1) (C := RX1) (T := TX1) (N := 7) (v := (σ 7 4) + 1) (ty := .int) hx hb hts hinX1 tyX1 tyX1_ok nmX1 hown hK hj hP hS 7 (by decide) cF_7 rfl 4 (by decide) kf25 (fun _ h9 => h9) rfl (by decide +kernel) rfl rfl (Nat.le_of_ble_eq_true rfl) rfl dX1_noteFailure_43 (fun H locs hP hS => ?_)
      refine lv_aload_n hx hb dX1_noteFailure_46 rfl (lv_at hl 0 rfl) ?_
      refine lv_iconst (v := 0) hx hb dX1_noteFailure_47 (by decide) ?_
      refine mw_put (ci := 1) (C := RX1) (T := TX1) (N := 7) (v := 0) (ty := .int) hx hb hts hinX1 tyX1 tyX1_ok nmX1 hown hK hj hP hS 7 (by decide) cF_7 rfl 6 (by decide) kf31 (fun _ h9 => h9) rfl (by decide +kernel) rfl rfl (Nat.le_of_ble_eq_true rfl) rfl dX1_noteFailure_48 (fun H locs hP hS => ?_)
      exact g_vret hx hb hr hlocks hP hS dX1_noteFailure_51 (by unfold cNote; rw [if_neg c_1, if_neg c_2])
