theorem mul8 (q k : Nat) : (8 : Int32) * nI q + nI k = nI (8 * q + k) := by
  rw [← nI_add, ← pk_mul]; rfl
theorem mul6 (q k : Nat) : (6 : Int32) * nI q + nI k = nI (6 * q + k) := by
  rw [← nI_add, ← pk_mul]; rfl
set_option maxHeartbeats 4000000 in
set_option maxRecDepth 100000 in
theorem m_goes (l : Launch) (D : va_G) (cy : Nat → ClassId) (ad wy : Nat → Nat) (mt : Nat) (hj : mJ 18 ad) (σ : Mem) (q v : Nat) (hq : q < 24) (hv : v < 8) (x y : Nat) (hx9 : x ≤ 900) (hR : mR σ) (hO : mOK (x + 1) y σ) (hv5 : σ 5 q = nI v) : Met l yX7_goes wsX7_goes ({ frames := 5, cells := 0, slots := 0, locals := 111 }) (va_Pc [.ref (ad 0), .int (nI q)] (gPre 18 ad (mF ad cy) D cy wy mt σ)) (gQ 18 ad (mF ad cy) D (some (.int (mSteps q v 201 (mset σ 0 26 0) 0).1)) (mSteps q v 201 (mset σ 0 26 0) 0).2) 0 0 (mA 18 ad) := by
  refine g_met (cc := cX7_goes) (maxL := 5) (ret := (some .int)) (by decide) rfl (Nat.le_of_ble_eq_true rfl) ?_
  intro p e s m below meth c S hr hlocks h0 ls hl
  obtain ⟨hx, hb, hml, hown, hts⟩ := S
  have hP := h0.1
  have hK := h0.2.1
  have hS : va_S (mA 18 ad) s.heap s.heap [] := va_S.rf
  have hl : lv_has ls 5 [(0, .ref (ad 0)), (1, .int (nI q))] := hl
  have kf23 : (Cond.fieldLink RX7 23 "BenchRunsModel" "vialOf" "[I").before (#[.ref (ad 0), .int (nI q)] : Array Value) s = true := hts _ (by decide +kernel)
  have hinX7 : ∀ w ∈ u_ws RX7 TX7 28, w ∈ wsX7_goes := by decide +kernel
  have kf113 : (Cond.fieldLink RX7 113 "BenchRunsModel" "again" "I").before (#[.ref (ad 0), .int (nI q)] : Array Value) s = true := hts _ (by decide +kernel)
  have kf26 : (Cond.fieldLink RX7 26 "BenchRunsModel" "steps" "[I").before (#[.ref (ad 0), .int (nI q)] : Array Value) s = true := hts _ (by decide +kernel)
  have kf60 : (Cond.fieldLink RX7 60 "BenchRunsModel" "told" "[I").before (#[.ref (ad 0), .int (nI q)] : Array Value) s = true := hts _ (by decide +kernel)
  have kf29 : (Cond.fieldLink RX7 29 "BenchRunsModel" "kinds" "[I").before (#[.ref (ad 0), .int (nI q)] : Array Value) s = true := hts _ (by decide +kernel)
  have kf32 : (Cond.fieldLink RX7 32 "BenchRunsModel" "numbers" "[I").before (#[.ref (ad 0), .int (nI q)] : Array Value) s = true := hts _ (by decide +kernel)
  refine lv_aload_n hx hb dX7_goes_0 rfl (lv_at hl 0 rfl) ?_
  refine mw_get (ci := 6) (C := RX7) (T := TX7) (N := 28) (v := .ref (ad 5)) hx hb hts hinX7 hown hK hP 0 (by decide) mF_0 rfl 5 (by decide) kf23 (fun _ h9 => h9) rfl dX7_goes_1 ?_
  refine lv_iload_n hx hb dX7_goes_4 rfl (lv_at hl 1 rfl) ?_
  refine mw_ild hx hb hK hP 5 (by decide) 0 mF_5 rfl q (by omega) (by decide) rfl dX7_goes_5 ?_
  refine g_top (y := nI v) hv5 ?_
  refine lv_istore_n (lv' := [(2, .int (nI v)), (0, .ref (ad 0)), (1, .int (nI q))]) hx hb dX7_goes_6 rfl hl (by decide) rfl (fun ls hl => ?_)
  refine lv_aload_n hx hb dX7_goes_7 rfl (lv_at hl 1 rfl) ?_
  refine lv_iconst (v := 0) hx hb dX7_goes_8 (by decide) ?_
  refine mw_put (ci := 6) (C := RX7) (T := TX7) (N := 28) (v := 0) (ty := .int) hx hb hts hinX7 tyX7 tyX7_ok nmX7 hown hK hj hP hS 0 (by decide) mF_0 rfl 26 (by decide) kf113 (fun _ h9 => h9) rfl (by decide +kernel) rfl rfl (Nat.le_of_ble_eq_true rfl) rfl dX7_goes_9 (fun H locs hP hS => ?_)
  refine lv_iconst (v := 0) hx hb dX7_goes_12 (by decide) ?_
  refine lv_istore_n (lv' := [(3, .int 0), (2, .int (nI v)), (0, .ref (ad 0)), (1, .int (nI q))]) hx hb dX7_goes_13 rfl hl (by decide) rfl (fun ls hl => ?_)
  have loop : ∀ (fu li k : Nat) (τ : Mem) (H : Heap) (locs : List Loc) (ls : Array Slot), 201 ≤ li + fu → li ≤ 200 → τ 14 4 = nI li → k ≤ 8 → mR τ → mOK (x + 1) y τ → mSteps q v fu τ k = mSteps q v 201 (mset σ 0 26 0) 0 → va_P D vwCl (mW 18 ad (mF ad cy) τ) H → va_S (mA 18 ad) s.heap H locs → lv_has ls 5 [(3, .int (nI k)), (2, .int (nI v)), (0, .ref (ad 0)), (1, .int (nI q))] → W p l e ({ frames := 5, cells := 0, slots := 0, locals := 111 }) s m ([.ref (ad 0), .int (nI q)] : List Value).toArray below meth c H locs 0 0 (MQ below (gQ 18 ad (mF ad cy) D (some (.int (mSteps q v 201 (mset σ 0 26 0) 0).1)) (mSteps q v 201 (mset σ 0 26 0) 0).2) ([.ref (ad 0), .int (nI q)] : List Value).toArray s 0 0 (mA 18 ad)) (F0 m 14 ls []) := by
    intro fu
    induction fu with
    | zero =>
      intro li k τ H locs ls h1 h2
      exact absurd h1 (by omega)
    | succ fu ih =>
      intro li k τ H locs ls h1 h2 eli hk hR hO hf hP hS hl
      refine lv_iload_n hx hb dX7_goes_14 rfl (lv_at hl 0 rfl) ?_
      refine lv_aload_n hx hb dX7_goes_15 rfl (lv_at hl 2 rfl) ?_
      refine mw_get (ci := 6) (C := RX7) (T := TX7) (N := 28) (v := .ref (ad 6)) hx hb hts hinX7 hown hK hP 0 (by decide) mF_0 rfl 6 (by decide) kf26 (fun _ h9 => h9) rfl dX7_goes_16 ?_
      refine lv_iload_n hx hb dX7_goes_19 rfl (lv_at hl 3 rfl) ?_
      refine mw_ild hx hb hK hP 6 (by decide) 0 mF_6 rfl q (by omega) (by decide) rfl dX7_goes_20 ?_
      refine lv_icmp_ge (tgt := 114) hx hb dX7_goes_21 (by decide) (fun c_1 => ?_) (fun c_1 => ?_)
      · skip
        refine lv_iconst (v := 0) hx hb dX7_goes_114 (by decide) ?_
        exact g_iret hx hb hr hlocks hP hS dX7_goes_115 (hf.symm.trans (by rw [mSteps_succ, if_pos c_1]))
      · skip
        refine lv_aload_n hx hb dX7_goes_24 rfl (lv_at hl 2 rfl) ?_
        refine mw_get (ci := 6) (C := RX7) (T := TX7) (N := 28) (v := .ref (ad 14)) hx hb hts hinX7 hown hK hP 0 (by decide) mF_0 rfl 19 (by decide) kf60 (fun _ h9 => h9) rfl dX7_goes_25 ?_
        refine lv_iconst (v := 4) hx hb dX7_goes_28 (by decide) ?_
        refine mw_ild hx hb hK hP 14 (by decide) 0 mF_14 rfl 4 (by decide) (by decide) rfl dX7_goes_29 ?_
        refine lv_sipush (v := 200) hx hb dX7_goes_30 (by decide) ?_
        refine lv_icmp_ne (tgt := 39) hx hb dX7_goes_33 (by decide) (fun c_2 => ?_) (fun c_2 => ?_)
        · skip
          have hk8 := mR_k hR hq hk c_1
          have hli : li ≠ 200 := fun h9 => c_2 (by rw [eli, h9]; rfl)
          obtain ⟨kd, j, hkd, hjm, ekd, ej⟩ := (hR.1 q hq).2.2 k hk8
          have hj200 : j ≤ 200 := Nat.le_trans hjm (mostD_200 kd hkd)
          have h164 : 16 ≤ kd → j < 4 := fun h9 => Nat.lt_of_le_of_lt hjm (mostD_4 kd hkd h9)
          have hO1 := mOK_lit hO c_2
          refine lv_aload_n hx hb dX7_goes_39 rfl (lv_at hl 2 rfl) ?_
          refine lv_iconst (v := 5) hx hb dX7_goes_40 (by decide) ?_
          refine g_callV (As := [.int 5]) (rest := []) (N := 28) (T := TX7) (ci := 6) ⟨hx, hb, hml, hown, hts⟩ 0 (m_mark l D cy ad wy mt hj τ 4 (by decide) (mOK.ec hO (by omega))) (cwV 1 hts gX7_goes_X7_mark rfl rfl rfl (by decide +kernel) ⟨by decide, by decide⟩) h0 hP hS (by decide) mF_0 rfl rfl rfl hl.1 (Nat.le_of_ble_eq_true rfl) dX7_goes_41 ⟨Nat.zero_le _, Nat.zero_le _⟩ (fun H locs hP hS => ?_)
          refine lv_aload_n hx hb dX7_goes_44 rfl (lv_at hl 2 rfl) ?_
          refine lv_aload_n hx hb dX7_goes_45 rfl (lv_at hl 2 rfl) ?_
          refine mw_get (ci := 6) (C := RX7) (T := TX7) (N := 28) (v := .ref (ad 7)) hx hb hts hinX7 hown hK hP 0 (by decide) mF_0 rfl 7 (by decide) kf29 (fun _ h9 => h9) rfl dX7_goes_46 ?_
          refine lv_bipush (v := 8) hx hb dX7_goes_49 (by decide) ?_
          refine lv_iload_n hx hb dX7_goes_51 rfl (lv_at hl 3 rfl) ?_
          refine lv_imul hx hb dX7_goes_52 ?_
          refine lv_iload_n hx hb dX7_goes_53 rfl (lv_at hl 0 rfl) ?_
          refine lv_iadd hx hb dX7_goes_54 ?_
          refine g_top (y := nI (8 * q + k)) (mul8 q k) ?_
          refine mw_ild hx hb hK hP 7 (by decide) 0 mF_7 rfl (8 * q + k) (by omega) (by decide) rfl dX7_goes_55 ?_
          refine g_top (y := nI kd) (by rw [mMark_nc (by decide) (by decide)]; exact ekd) ?_
          refine lv_aload_n hx hb dX7_goes_56 rfl (lv_at hl 2 rfl) ?_
          refine mw_get (ci := 6) (C := RX7) (T := TX7) (N := 28) (v := .ref (ad 8)) hx hb hts hinX7 hown hK hP 0 (by decide) mF_0 rfl 8 (by decide) kf32 (fun _ h9 => h9) rfl dX7_goes_57 ?_
          refine lv_bipush (v := 8) hx hb dX7_goes_60 (by decide) ?_
          refine lv_iload_n hx hb dX7_goes_62 rfl (lv_at hl 3 rfl) ?_
          refine lv_imul hx hb dX7_goes_63 ?_
          refine lv_iload_n hx hb dX7_goes_64 rfl (lv_at hl 0 rfl) ?_
          refine lv_iadd hx hb dX7_goes_65 ?_
          refine g_top (y := nI (8 * q + k)) (mul8 q k) ?_
          refine mw_ild hx hb hK hP 8 (by decide) 0 mF_8 rfl (8 * q + k) (by omega) (by decide) rfl dX7_goes_66 ?_
          refine g_top (y := nI j) (by rw [mMark_nc (by decide) (by decide)]; exact ej) ?_
          refine lv_iload_n hx hb dX7_goes_67 rfl (lv_at hl 1 rfl) ?_
          refine g_callV (As := [.int (nI kd), .int (nI j), .int (nI v)]) (rest := []) (N := 28) (T := TX7) (ci := 6) ⟨hx, hb, hml, hown, hts⟩ 0 (m_act l D cy ad wy mt hj (mMark τ 4) kd j v (by omega) (by omega) (by omega) h164 (mOK.bx hO1)) (cwV 3 hts gX7_goes_X7_act rfl rfl rfl (by decide +kernel) ⟨by decide, by decide⟩) h0 hP hS (by decide) mF_0 rfl rfl rfl hl.1 (Nat.le_of_ble_eq_true rfl) dX7_goes_68 ⟨Nat.zero_le _, Nat.zero_le _⟩ (fun H locs hP hS => ?_)
          have eS : mStepAt q v τ k = ((mAct (mMark τ 4) kd j v).1, mMark ((mAct (mMark τ 4) kd j v).2) 5) := by unfold mStepAt ci; rw [ekd, ej, nI_clamp (by omega), nI_clamp (by omega)]
          have hS2 := sM_stepAt (v := v) hR hq hk8 c_2
          rw [eS] at hS2
          dsimp only at hS2
          refine lv_istore (lv' := [(4, .int ((mAct (mMark τ 4) kd j v).1)), (3, .int (nI k)), (2, .int (nI v)), (0, .ref (ad 0)), (1, .int (nI q))]) hx hb dX7_goes_71 hl (by decide) rfl (fun ls hl => ?_)
          refine lv_aload_n hx hb dX7_goes_73 rfl (lv_at hl 3 rfl) ?_
          refine lv_bipush (v := 6) hx hb dX7_goes_74 (by decide) ?_
          refine g_callV (As := [.int 6]) (rest := []) (N := 28) (T := TX7) (ci := 6) ⟨hx, hb, hml, hown, hts⟩ 0 (m_mark l D cy ad wy mt hj ((mAct (mMark τ 4) kd j v).2) 5 (by decide) (mOK.ec ((sM_act (mMark τ 4) v hkd hjm).2.2 x y hO1) (by omega))) (cwV 1 hts gX7_goes_X7_mark rfl rfl rfl (by decide +kernel) ⟨by decide, by decide⟩) h0 hP hS (by decide) mF_0 rfl rfl rfl hl.1 (Nat.le_of_ble_eq_true rfl) dX7_goes_76 ⟨Nat.zero_le _, Nat.zero_le _⟩ (fun H locs hP hS => ?_)
          refine lv_iinc (v := nI (k + 1)) (lv' := [(3, .int (nI (k + 1))), (4, .int ((mAct (mMark τ 4) kd j v).1)), (2, .int (nI v)), (0, .ref (ad 0)), (1, .int (nI q))]) hx hb dX7_goes_79 hl (k := 1) rfl (nI_1 k) (by decide) rfl (fun ls hl => ?_)
          refine lv_iload hx hb dX7_goes_82 (lv_at hl 1 rfl) ?_
          refine lv_iconst (v := 2) hx hb dX7_goes_84 (by decide) ?_
          refine lv_icmp_ne (tgt := 103) hx hb dX7_goes_85 (by decide) (fun c_3 => ?_) (fun c_3 => ?_)
          · skip
            refine lv_iload hx hb dX7_goes_103 (lv_at hl 1 rfl) ?_
            refine lv_if_eq (tgt := 111) hx hb dX7_goes_105 (by decide) (fun c_4 => ?_) (fun c_4 => ?_)
            · skip
              refine lv_goto (tgt := 14) hx hb dX7_goes_111 (by decide) ?_
              exact ih (li + 1) (k + 1) (mMark ((mAct (mMark τ 4) kd j v).2) 5) H locs ls (by omega) (by omega) (by rw [hS2.2.1, eli, nI_1]) (by omega) (hS2.1.mR hR) (hS2.2.2 x y hO) (Eq.trans (by rw [mSteps_succ, if_neg c_1, if_neg c_2, eS]; exact ((if_neg c_3).trans (if_pos c_4)).symm) hf) hP hS (lv_sub hl [0, 2, 3, 4] rfl)
            · skip
              refine lv_iload hx hb dX7_goes_108 (lv_at hl 1 rfl) ?_
              exact g_iret hx hb hr hlocks hP hS dX7_goes_110 (hf.symm.trans (by rw [mSteps_succ, if_neg c_1, if_neg c_2, eS]; exact (if_neg c_3).trans (if_neg c_4)))
          · skip
            refine lv_aload_n hx hb dX7_goes_88 rfl (lv_at hl 3 rfl) ?_
            refine lv_dup hx hb dX7_goes_89 rfl ?_
            refine mw_get (ci := 6) (C := RX7) (T := TX7) (N := 28) (v := .int ((mMark ((mAct (mMark τ 4) kd j v).2) 5) 0 26)) hx hb hts hinX7 hown hK hP 0 (by decide) mF_0 rfl 26 (by decide) kf113 (fun _ h9 => h9) rfl dX7_goes_90 ?_
            refine lv_iconst (v := 1) hx hb dX7_goes_93 (by decide) ?_
            refine lv_iadd hx hb dX7_goes_94 ?_
            refine mw_put (ci := 6) (C := RX7) (T := TX7) (N := 28) (v := ((mMark ((mAct (mMark τ 4) kd j v).2) 5) 0 26) + 1) (ty := .int) hx hb hts hinX7 tyX7 tyX7_ok nmX7 hown hK hj hP hS 0 (by decide) mF_0 rfl 26 (by decide) kf113 (fun _ h9 => h9) rfl (by decide +kernel) rfl rfl (Nat.le_of_ble_eq_true rfl) rfl dX7_goes_95 (fun H locs hP hS => ?_)
            refine lv_iconst (v := 0) hx hb dX7_goes_98 (by decide) ?_
            refine lv_istore_n (lv' := [(3, .int 0), (4, .int ((mAct (mMark τ 4) kd j v).1)), (2, .int (nI v)), (0, .ref (ad 0)), (1, .int (nI q))]) hx hb dX7_goes_99 rfl hl (by decide) rfl (fun ls hl => ?_)
            refine lv_goto (tgt := 111) hx hb dX7_goes_100 (by decide) ?_
            refine lv_goto (tgt := 14) hx hb dX7_goes_111 (by decide) ?_
            exact ih (li + 1) 0 (mset (mMark ((mAct (mMark τ 4) kd j v).2) 5) 0 26 (((mMark ((mAct (mMark τ 4) kd j v).2) 5) 0 26) + 1)) H locs ls (by omega) (by omega) (by rw [mset_ne (by decide), hS2.2.1, eli, nI_1]) (by omega) ((hS2.1.set (by omega)).mR hR) ((hS2.2.2 x y hO).set (by omega)) (Eq.trans (by rw [mSteps_succ, if_neg c_1, if_neg c_2, eS]; exact (if_pos c_3).symm) hf) hP hS (lv_sub hl [0, 2, 3, 4] rfl)
        · skip
          refine lv_bipush (v := 6) hx hb dX7_goes_36 (by decide) ?_
          exact g_iret hx hb hr hlocks hP hS dX7_goes_38 (hf.symm.trans (by rw [mSteps_succ, if_neg c_1, if_pos c_2]))
  obtain ⟨kk, li, nt, hB1, hB2, hB3, hB4, hB5, hB6⟩ := hO.1
  exact loop 201 li 0 (mset σ 0 26 0) _ _ ls (by omega) hB4 (by rw [mset_ne (by decide)]; exact hB2) (by omega) (((kM.rf σ).set (by omega)).mR hR) (hO.set (by omega)) rfl hP hS (lv_sub hl [0, 1, 2, 3] rfl)

def mRound (σ : Mem) (q v : Nat) : Int32 × Mem :=
  if 7 < nI v then mFail σ 4
  else if σ 1 v = 0 then mFail σ 5
  else ((mSteps q v 201 (mset (mMark σ 2) 0 26 0) 0).1, mMark ((mSteps q v 201 (mset (mMark σ 2) 0 26 0) 0).2) 3)
set_option maxHeartbeats 4000000 in
set_option maxRecDepth 100000 in
theorem m_does (l : Launch) (D : va_G) (cy : Nat → ClassId) (ad wy : Nat → Nat) (mt : Nat) (hj : mJ 18 ad) (σ : Mem) (q v : Nat) (hq : q < 24) (hv9 : v ≤ 9) (x y : Nat) (hx9 : x ≤ 880) (hR : mR σ) (hO : mOK x y σ) (hv5 : σ 5 q = nI v) : Met l yX7_does wsX7_does ({ frames := 6, cells := 0, slots := 0, locals := 135 }) (va_Pc [.ref (ad 0), .int (nI q)] (gPre 18 ad (mF ad cy) D cy wy mt σ)) (gQ 18 ad (mF ad cy) D (some (.int (mRound σ q v).1)) (mRound σ q v).2) 0 0 (mA 18 ad) := by
  refine g_met (cc := cX7_does) (maxL := 4) (ret := (some .int)) (by decide) rfl (Nat.le_of_ble_eq_true rfl) ?_
  intro p e s m below meth c S hr hlocks h0 ls hl
  obtain ⟨hx, hb, hml, hown, hts⟩ := S
  have hP := h0.1
  have hK := h0.2.1
  have hS : va_S (mA 18 ad) s.heap s.heap [] := va_S.rf
  have hl : lv_has ls 4 [(0, .ref (ad 0)), (1, .int (nI q))] := hl
  have kf23 : (Cond.fieldLink RX7 23 "BenchRunsModel" "vialOf" "[I").before (#[.ref (ad 0), .int (nI q)] : Array Value) s = true := hts _ (by decide +kernel)
  have hinX7 : ∀ w ∈ u_ws RX7 TX7 28, w ∈ wsX7_does := by decide +kernel
  have kf7 : (Cond.fieldLink RX7 7 "BenchRunsModel" "isVial" "[Z").before (#[.ref (ad 0), .int (nI q)] : Array Value) s = true := hts _ (by decide +kernel)
  refine lv_aload_n hx hb dX7_does_0 rfl (lv_at hl 0 rfl) ?_
  refine mw_get (ci := 6) (C := RX7) (T := TX7) (N := 28) (v := .ref (ad 5)) hx hb hts hinX7 hown hK hP 0 (by decide) mF_0 rfl 5 (by decide) kf23 (fun _ h9 => h9) rfl dX7_does_1 ?_
  refine lv_iload_n hx hb dX7_does_4 rfl (lv_at hl 1 rfl) ?_
  refine mw_ild hx hb hK hP 5 (by decide) 0 mF_5 rfl q (by omega) (by decide) rfl dX7_does_5 ?_
  refine g_top (y := nI v) hv5 ?_
  refine lv_istore_n (lv' := [(2, .int (nI v)), (0, .ref (ad 0)), (1, .int (nI q))]) hx hb dX7_does_6 rfl hl (by decide) rfl (fun ls hl => ?_)
  refine lv_iload_n hx hb dX7_does_7 rfl (lv_at hl 0 rfl) ?_
  refine lv_bipush (v := 7) hx hb dX7_does_8 (by decide) ?_
  refine lv_icmp_gt (tgt := 22) hx hb dX7_does_10 (by decide) (fun c_1 => ?_) (fun c_1 => ?_)
  · skip
    refine lv_aload_n hx hb dX7_does_22 rfl (lv_at hl 1 rfl) ?_
    refine lv_iload_n hx hb dX7_does_23 rfl (lv_at hl 0 rfl) ?_
    refine lv_bipush (v := 7) hx hb dX7_does_24 (by decide) ?_
    refine lv_icmp_le (tgt := 33) hx hb dX7_does_26 (by decide) (fun c9 => absurd c9 (fun h9 => absurd ((nI_ltI (a := 7) (by decide) (by omega)).mp c_1) (Nat.not_lt.mpr ((nI_leI (b := 7) (by omega) (by decide)).mp h9)))) (fun _ => ?_)
    refine lv_iconst (v := 4) hx hb dX7_does_29 (by decide) ?_
    refine lv_goto (tgt := 34) hx hb dX7_does_30 (by decide) ?_
    refine g_callV (As := [.int 4]) (rest := []) (N := 28) (T := TX7) (ci := 6) ⟨hx, hb, hml, hown, hts⟩ 0 (m_fails l D cy ad wy mt hj σ 4 ) (cwV 1 hts gX7_does_X7_fails rfl rfl rfl (by decide +kernel) ⟨by decide, by decide⟩) h0 hP hS (by decide) mF_0 rfl rfl rfl hl.1 (Nat.le_of_ble_eq_true rfl) dX7_does_34 ⟨Nat.zero_le _, Nat.zero_le _⟩ (fun H locs hP hS => ?_)
    exact g_iret hx hb hr hlocks hP hS dX7_does_37 (by unfold mRound; rw [if_pos c_1] <;> rfl)
  · skip
    have hv8 : v ≤ 7 := Nat.not_lt.mp fun h9 => c_1 ((nI_ltI (a := 7) (by decide) (by omega)).mpr h9)
    refine lv_aload_n hx hb dX7_does_13 rfl (lv_at hl 1 rfl) ?_
    refine mw_get (ci := 6) (C := RX7) (T := TX7) (N := 28) (v := .ref (ad 1)) hx hb hts hinX7 hown hK hP 0 (by decide) mF_0 rfl 1 (by decide) kf7 (fun _ h9 => h9) rfl dX7_does_14 ?_
    refine lv_iload_n hx hb dX7_does_17 rfl (lv_at hl 0 rfl) ?_
    refine mw_zld hx hb hK hP 1 (by decide) 1 mF_1 rfl v (by omega) (by decide) rfl dX7_does_18 ?_
    refine lv_if_ne (tgt := 38) hx hb dX7_does_19 (by decide) (fun c_2 => ?_) (fun c_2 => ?_)
    · skip
      refine lv_aload_n hx hb dX7_does_38 rfl (lv_at hl 1 rfl) ?_
      refine lv_iconst (v := 3) hx hb dX7_does_39 (by decide) ?_
      refine g_callV (As := [.int 3]) (rest := []) (N := 28) (T := TX7) (ci := 6) ⟨hx, hb, hml, hown, hts⟩ 0 (m_mark l D cy ad wy mt hj σ 2 (by decide) (mOK.ec hO (by omega))) (cwV 1 hts gX7_does_X7_mark rfl rfl rfl (by decide +kernel) ⟨by decide, by decide⟩) h0 hP hS (by decide) mF_0 rfl rfl rfl hl.1 (Nat.le_of_ble_eq_true rfl) dX7_does_40 ⟨Nat.zero_le _, Nat.zero_le _⟩ (fun H locs hP hS => ?_)
      refine lv_aload_n hx hb dX7_does_43 rfl (lv_at hl 1 rfl) ?_
      refine lv_iload_n hx hb dX7_does_44 rfl (lv_at hl 2 rfl) ?_
      refine g_callV (As := [.int (nI q)]) (rest := []) (N := 28) (T := TX7) (ci := 6) ⟨hx, hb, hml, hown, hts⟩ 0 (m_goes l D cy ad wy mt hj (mMark σ 2) q v hq (by omega) x y (by omega) ((kM_mark σ 2).mR hR) (mOK_mark hO (by decide) (by decide)) (by rw [mMark_nc (by decide) (by decide)]; exact hv5)) (cwV 1 hts gX7_does_X7_goes rfl rfl rfl (by decide +kernel) ⟨by decide, by decide⟩) h0 hP hS (by decide) mF_0 rfl rfl rfl hl.1 (Nat.le_of_ble_eq_true rfl) dX7_does_45 ⟨Nat.zero_le _, Nat.zero_le _⟩ (fun H locs hP hS => ?_)
      refine lv_istore_n (lv' := [(3, .int ((mSteps q v 201 (mset (mMark σ 2) 0 26 0) 0).1)), (2, .int (nI v)), (0, .ref (ad 0)), (1, .int (nI q))]) hx hb dX7_does_48 rfl hl (by decide) rfl (fun ls hl => ?_)
      refine lv_aload_n hx hb dX7_does_49 rfl (lv_at hl 2 rfl) ?_
      refine lv_iconst (v := 4) hx hb dX7_does_50 (by decide) ?_
      refine g_callV (As := [.int 4]) (rest := []) (N := 28) (T := TX7) (ci := 6) ⟨hx, hb, hml, hown, hts⟩ 0 (m_mark l D cy ad wy mt hj ((mSteps q v 201 (mset (mMark σ 2) 0 26 0) 0).2) 3 (by decide) (mOK.ec ((sM_steps (v := v) hq 201 (mset (mMark σ 2) 0 26 0) 0 (((kM_mark σ 2).set (by omega)).mR hR) (by omega)).2 x y ((mOK_mark hO (by decide) (by decide)).set (by omega))) (by omega))) (cwV 1 hts gX7_does_X7_mark rfl rfl rfl (by decide +kernel) ⟨by decide, by decide⟩) h0 hP hS (by decide) mF_0 rfl rfl rfl hl.1 (Nat.le_of_ble_eq_true rfl) dX7_does_51 ⟨Nat.zero_le _, Nat.zero_le _⟩ (fun H locs hP hS => ?_)
      refine lv_iload_n hx hb dX7_does_54 rfl (lv_at hl 0 rfl) ?_
      exact g_iret hx hb hr hlocks hP hS dX7_does_55 (by unfold mRound; rw [if_neg c_1, if_neg c_2] <;> rfl)
    · skip
      refine lv_aload_n hx hb dX7_does_22 rfl (lv_at hl 1 rfl) ?_
      refine lv_iload_n hx hb dX7_does_23 rfl (lv_at hl 0 rfl) ?_
      refine lv_bipush (v := 7) hx hb dX7_does_24 (by decide) ?_
      refine lv_icmp_le (tgt := 33) hx hb dX7_does_26 (by decide) (fun _ => ?_) (fun c9 => absurd (nI_le (b := 7) hv8 (by decide)) c9)
      refine lv_iconst (v := 5) hx hb dX7_does_33 (by decide) ?_
      refine g_callV (As := [.int 5]) (rest := []) (N := 28) (T := TX7) (ci := 6) ⟨hx, hb, hml, hown, hts⟩ 0 (m_fails l D cy ad wy mt hj σ 5 ) (cwV 1 hts gX7_does_X7_fails rfl rfl rfl (by decide +kernel) ⟨by decide, by decide⟩) h0 hP hS (by decide) mF_0 rfl rfl rfl hl.1 (Nat.le_of_ble_eq_true rfl) dX7_does_34 ⟨Nat.zero_le _, Nat.zero_le _⟩ (fun H locs hP hS => ?_)
      exact g_iret hx hb hr hlocks hP hS dX7_does_37 (by unfold mRound; rw [if_neg c_1, if_pos c_2] <;> rfl)

def mReasons (σ : Mem) (n : Int32) : Mem :=
  if σ 0 25 = 0 then mset (mset σ 17 0 n) 0 23 1
  else mset (mset (mset (mset σ 17 0 n) 0 23 1) 17 1 (100 + n)) 0 23 2
set_option maxHeartbeats 4000000 in
set_option maxRecDepth 100000 in
theorem m_reasons (l : Launch) (D : va_G) (cy : Nat → ClassId) (ad wy : Nat → Nat) (mt : Nat) (hj : mJ 18 ad) (σ : Mem) (n : Int32)  : Met l yX7_reasons wsX7_reasons ({ frames := 0, cells := 0, slots := 0, locals := 0 }) (va_Pc [.ref (ad 0), .int n] (gPre 18 ad (mF ad cy) D cy wy mt σ)) (gQ 18 ad (mF ad cy) D none (mReasons σ n)) 0 0 (mA 18 ad) := by
  refine g_met (cc := cX7_reasons) (maxL := 2) (ret := none) (by decide) rfl (Nat.le_of_ble_eq_true rfl) ?_
  intro p e s m below meth c S hr hlocks h0 ls hl
  obtain ⟨hx, hb, hml, hown, hts⟩ := S
  have hP := h0.1
  have hK := h0.2.1
  have hS : va_S (mA 18 ad) s.heap s.heap [] := va_S.rf
  have hl : lv_has ls 2 [(0, .ref (ad 0)), (1, .int n)] := hl
  have kf69 : (Cond.fieldLink RX7 69 "BenchRunsModel" "why" "[I").before (#[.ref (ad 0), .int n] : Array Value) s = true := hts _ (by decide +kernel)
  have hinX7 : ∀ w ∈ u_ws RX7 TX7 28, w ∈ wsX7_reasons := by decide +kernel
  have kf146 : (Cond.fieldLink RX7 146 "BenchRunsModel" "whys" "I").before (#[.ref (ad 0), .int n] : Array Value) s = true := hts _ (by decide +kernel)
  have kf93 : (Cond.fieldLink RX7 93 "BenchRunsModel" "isMachines" "Z").before (#[.ref (ad 0), .int n] : Array Value) s = true := hts _ (by decide +kernel)
  refine lv_aload_n hx hb dX7_reasons_0 rfl (lv_at hl 0 rfl) ?_
  refine mw_get (ci := 6) (C := RX7) (T := TX7) (N := 28) (v := .ref (ad 17)) hx hb hts hinX7 hown hK hP 0 (by decide) mF_0 rfl 22 (by decide) kf69 (fun _ h9 => h9) rfl dX7_reasons_1 ?_
  refine lv_iconst (v := 0) hx hb dX7_reasons_4 (by decide) ?_
  refine lv_iload_n hx hb dX7_reasons_5 rfl (lv_at hl 1 rfl) ?_
  refine mw_ist hx hb hK hj hP hS 17 (by decide) 0 mF_17 rfl 0 (by decide) (by decide) rfl dX7_reasons_6 (fun H locs hP hS => ?_)
  refine lv_aload_n hx hb dX7_reasons_7 rfl (lv_at hl 0 rfl) ?_
  refine lv_iconst (v := 1) hx hb dX7_reasons_8 (by decide) ?_
  refine mw_put (ci := 6) (C := RX7) (T := TX7) (N := 28) (v := 1) (ty := .int) hx hb hts hinX7 tyX7 tyX7_ok nmX7 hown hK hj hP hS 0 (by decide) mF_0 rfl 23 (by decide) kf146 (fun _ h9 => h9) rfl (by decide +kernel) rfl rfl (Nat.le_of_ble_eq_true rfl) rfl dX7_reasons_9 (fun H locs hP hS => ?_)
  refine lv_aload_n hx hb dX7_reasons_12 rfl (lv_at hl 0 rfl) ?_
  refine mw_get (ci := 6) (C := RX7) (T := TX7) (N := 28) (v := .int (σ 0 25)) hx hb hts hinX7 hown hK hP 0 (by decide) mF_0 rfl 25 (by decide) kf93 (fun _ h9 => h9) rfl dX7_reasons_13 ?_
  refine lv_if_eq (tgt := 34) hx hb dX7_reasons_16 (by decide) (fun c_1 => ?_) (fun c_1 => ?_)
  · skip
    exact g_vret hx hb hr hlocks hP hS dX7_reasons_34 (by unfold mReasons; rw [if_pos c_1] <;> rfl)
  · skip
    refine lv_aload_n hx hb dX7_reasons_19 rfl (lv_at hl 0 rfl) ?_
    refine mw_get (ci := 6) (C := RX7) (T := TX7) (N := 28) (v := .ref (ad 17)) hx hb hts hinX7 hown hK hP 0 (by decide) mF_0 rfl 22 (by decide) kf69 (fun _ h9 => h9) rfl dX7_reasons_20 ?_
    refine lv_iconst (v := 1) hx hb dX7_reasons_23 (by decide) ?_
    refine lv_bipush (v := 100) hx hb dX7_reasons_24 (by decide) ?_
    refine lv_iload_n hx hb dX7_reasons_26 rfl (lv_at hl 1 rfl) ?_
    refine lv_iadd hx hb dX7_reasons_27 ?_
    refine mw_ist hx hb hK hj hP hS 17 (by decide) 0 mF_17 rfl 1 (by decide) (by decide) rfl dX7_reasons_28 (fun H locs hP hS => ?_)
    refine lv_aload_n hx hb dX7_reasons_29 rfl (lv_at hl 0 rfl) ?_
    refine lv_iconst (v := 2) hx hb dX7_reasons_30 (by decide) ?_
    refine mw_put (ci := 6) (C := RX7) (T := TX7) (N := 28) (v := 2) (ty := .int) hx hb hts hinX7 tyX7 tyX7_ok nmX7 hown hK hj hP hS 0 (by decide) mF_0 rfl 23 (by decide) kf146 (fun _ h9 => h9) rfl (by decide +kernel) rfl rfl (Nat.le_of_ble_eq_true rfl) rfl dX7_reasons_31 (fun H locs hP hS => ?_)
    exact g_vret hx hb hr hlocks hP hS dX7_reasons_34 (by unfold mReasons; rw [if_neg c_1] <;> rfl)

def mInStead (σ : Mem) (w : Nat) (n : Int32) : Mem :=
  if w = 0 then mset (mset σ 17 0 n) 0 23 ((σ 0 23) + 1)
  else if w = 1 then mset (mset (mset σ 17 1 (σ 17 0)) 17 0 n) 0 23 ((σ 0 23) + 1)
  else if w = 2 then mset (mset (mset (mset σ 17 2 (σ 17 1)) 17 1 (σ 17 0)) 17 0 n) 0 23 ((σ 0 23) + 1)
  else mset (mset (mset (mset (mset σ 17 3 (σ 17 2)) 17 2 (σ 17 1)) 17 1 (σ 17 0)) 17 0 n) 0 23 ((σ 0 23) + 1)
set_option maxHeartbeats 4000000 in
set_option maxRecDepth 100000 in
theorem m_inStead (l : Launch) (D : va_G) (cy : Nat → ClassId) (ad wy : Nat → Nat) (mt : Nat) (hj : mJ 18 ad) (σ : Mem) (w : Nat) (n : Int32) (hw : w ≤ 3) (hw23 : σ 0 23 = nI w) : Met l yX7_inStead wsX7_inStead ({ frames := 0, cells := 0, slots := 0, locals := 0 }) (va_Pc [.ref (ad 0), .int n] (gPre 18 ad (mF ad cy) D cy wy mt σ)) (gQ 18 ad (mF ad cy) D none (mInStead σ w n)) 0 0 (mA 18 ad) := by
  refine g_met (cc := cX7_inStead) (maxL := 3) (ret := none) (by decide) rfl (Nat.le_of_ble_eq_true rfl) ?_
  intro p e s m below meth c S hr hlocks h0 ls hl
  obtain ⟨hx, hb, hml, hown, hts⟩ := S
  have hP := h0.1
  have hK := h0.2.1
  have hS : va_S (mA 18 ad) s.heap s.heap [] := va_S.rf
  have hl : lv_has ls 3 [(0, .ref (ad 0)), (1, .int n)] := hl
  have kf146 : (Cond.fieldLink RX7 146 "BenchRunsModel" "whys" "I").before (#[.ref (ad 0), .int n] : Array Value) s = true := hts _ (by decide +kernel)
  have hinX7 : ∀ w ∈ u_ws RX7 TX7 28, w ∈ wsX7_inStead := by decide +kernel
  have kf69 : (Cond.fieldLink RX7 69 "BenchRunsModel" "why" "[I").before (#[.ref (ad 0), .int n] : Array Value) s = true := hts _ (by decide +kernel)
  refine lv_aload_n hx hb dX7_inStead_0 rfl (lv_at hl 0 rfl) ?_
  refine mw_get (ci := 6) (C := RX7) (T := TX7) (N := 28) (v := .int (σ 0 23)) hx hb hts hinX7 hown hK hP 0 (by decide) mF_0 rfl 23 (by decide) kf146 (fun _ h9 => h9) rfl dX7_inStead_1 ?_
  rcases (show w = 0 ∨ w = 1 ∨ w = 2 ∨ w = 3 by omega) with rfl | rfl | rfl | rfl
  · skip
    refine g_top (y := 0) hw23 ?_
    refine lv_istore_n (lv' := [(2, .int 0), (0, .ref (ad 0)), (1, .int n)]) hx hb dX7_inStead_4 rfl hl (by decide) rfl (fun ls hl => ?_)
    refine lv_iload_n hx hb dX7_inStead_5 rfl (lv_at hl 0 rfl) ?_
    refine lv_if_le (tgt := 29) hx hb dX7_inStead_6 (by decide) (fun _ => ?_) (fun c9 => absurd c9 (by decide))
    refine lv_aload_n hx hb dX7_inStead_29 rfl (lv_at hl 1 rfl) ?_
    refine mw_get (ci := 6) (C := RX7) (T := TX7) (N := 28) (v := .ref (ad 17)) hx hb hts hinX7 hown hK hP 0 (by decide) mF_0 rfl 22 (by decide) kf69 (fun _ h9 => h9) rfl dX7_inStead_30 ?_
    refine lv_iconst (v := 0) hx hb dX7_inStead_33 (by decide) ?_
    refine lv_iload_n hx hb dX7_inStead_34 rfl (lv_at hl 2 rfl) ?_
    refine mw_ist hx hb hK hj hP hS 17 (by decide) 0 mF_17 rfl 0 (by decide) (by decide) rfl dX7_inStead_35 (fun H locs hP hS => ?_)
    refine lv_aload_n hx hb dX7_inStead_36 rfl (lv_at hl 1 rfl) ?_
    refine lv_dup hx hb dX7_inStead_37 rfl ?_
    refine mw_get (ci := 6) (C := RX7) (T := TX7) (N := 28) (v := .int (σ 0 23)) hx hb hts hinX7 hown hK hP 0 (by decide) mF_0 rfl 23 (by decide) kf146 (fun _ h9 => h9) rfl dX7_inStead_38 ?_
    refine lv_iconst (v := 1) hx hb dX7_inStead_41 (by decide) ?_
    refine lv_iadd hx hb dX7_inStead_42 ?_
    refine mw_put (ci := 6) (C := RX7) (T := TX7) (N := 28) (v := (σ 0 23) + 1) (ty := .int) hx hb hts hinX7 tyX7 tyX7_ok nmX7 hown hK hj hP hS 0 (by decide) mF_0 rfl 23 (by decide) kf146 (fun _ h9 => h9) rfl (by decide +kernel) rfl rfl (Nat.le_of_ble_eq_true rfl) rfl dX7_inStead_43 (fun H locs hP hS => ?_)
    exact g_vret hx hb hr hlocks hP hS dX7_inStead_46 (by unfold mInStead; rw [if_pos (rfl : (0 : Nat) = 0)] <;> rfl)
  · skip
    refine g_top (y := 1) hw23 ?_
    refine lv_istore_n (lv' := [(2, .int 1), (0, .ref (ad 0)), (1, .int n)]) hx hb dX7_inStead_4 rfl hl (by decide) rfl (fun ls hl => ?_)
    refine lv_iload_n hx hb dX7_inStead_5 rfl (lv_at hl 0 rfl) ?_
    refine lv_if_le (tgt := 29) hx hb dX7_inStead_6 (by decide) (fun c9 => absurd c9 (by decide)) (fun _ => ?_)
    refine lv_aload_n hx hb dX7_inStead_9 rfl (lv_at hl 1 rfl) ?_
    refine mw_get (ci := 6) (C := RX7) (T := TX7) (N := 28) (v := .ref (ad 17)) hx hb hts hinX7 hown hK hP 0 (by decide) mF_0 rfl 22 (by decide) kf69 (fun _ h9 => h9) rfl dX7_inStead_10 ?_
    refine lv_iload_n hx hb dX7_inStead_13 rfl (lv_at hl 0 rfl) ?_
    refine lv_aload_n hx hb dX7_inStead_14 rfl (lv_at hl 1 rfl) ?_
    refine mw_get (ci := 6) (C := RX7) (T := TX7) (N := 28) (v := .ref (ad 17)) hx hb hts hinX7 hown hK hP 0 (by decide) mF_0 rfl 22 (by decide) kf69 (fun _ h9 => h9) rfl dX7_inStead_15 ?_
    refine lv_iload_n hx hb dX7_inStead_18 rfl (lv_at hl 0 rfl) ?_
    refine lv_iconst (v := 1) hx hb dX7_inStead_19 (by decide) ?_
    refine lv_isub hx hb dX7_inStead_20 ?_
    refine mw_ild hx hb hK hP 17 (by decide) 0 mF_17 rfl 0 (by decide) (by decide) (by decide) dX7_inStead_21 ?_
    refine mw_ist hx hb hK hj hP hS 17 (by decide) 0 mF_17 rfl 1 (by decide) (by decide) rfl dX7_inStead_22 (fun H locs hP hS => ?_)
    refine lv_iinc (v := 0) (lv' := [(2, .int 0), (0, .ref (ad 0)), (1, .int n)]) hx hb dX7_inStead_23 hl (k := 0) rfl (by decide) (by decide) rfl (fun ls hl => ?_)
    refine lv_goto (tgt := 5) hx hb dX7_inStead_26 (by decide) ?_
    refine lv_iload_n hx hb dX7_inStead_5 rfl (lv_at hl 0 rfl) ?_
    refine lv_if_le (tgt := 29) hx hb dX7_inStead_6 (by decide) (fun _ => ?_) (fun c9 => absurd c9 (by decide))
    refine lv_aload_n hx hb dX7_inStead_29 rfl (lv_at hl 1 rfl) ?_
    refine mw_get (ci := 6) (C := RX7) (T := TX7) (N := 28) (v := .ref (ad 17)) hx hb hts hinX7 hown hK hP 0 (by decide) mF_0 rfl 22 (by decide) kf69 (fun _ h9 => h9) rfl dX7_inStead_30 ?_
    refine lv_iconst (v := 0) hx hb dX7_inStead_33 (by decide) ?_
    refine lv_iload_n hx hb dX7_inStead_34 rfl (lv_at hl 2 rfl) ?_
    refine mw_ist hx hb hK hj hP hS 17 (by decide) 0 mF_17 rfl 0 (by decide) (by decide) rfl dX7_inStead_35 (fun H locs hP hS => ?_)
    refine lv_aload_n hx hb dX7_inStead_36 rfl (lv_at hl 1 rfl) ?_
    refine lv_dup hx hb dX7_inStead_37 rfl ?_
    refine mw_get (ci := 6) (C := RX7) (T := TX7) (N := 28) (v := .int (σ 0 23)) hx hb hts hinX7 hown hK hP 0 (by decide) mF_0 rfl 23 (by decide) kf146 (fun _ h9 => h9) rfl dX7_inStead_38 ?_
    refine lv_iconst (v := 1) hx hb dX7_inStead_41 (by decide) ?_
    refine lv_iadd hx hb dX7_inStead_42 ?_
    refine mw_put (ci := 6) (C := RX7) (T := TX7) (N := 28) (v := (σ 0 23) + 1) (ty := .int) hx hb hts hinX7 tyX7 tyX7_ok nmX7 hown hK hj hP hS 0 (by decide) mF_0 rfl 23 (by decide) kf146 (fun _ h9 => h9) rfl (by decide +kernel) rfl rfl (Nat.le_of_ble_eq_true rfl) rfl dX7_inStead_43 (fun H locs hP hS => ?_)
    exact g_vret hx hb hr hlocks hP hS dX7_inStead_46 (by unfold mInStead; rw [if_neg (show ¬ (1 : Nat) = 0 by decide), if_pos (rfl : (1 : Nat) = 1)] <;> rfl)
  · skip
    refine g_top (y := 2) hw23 ?_
    refine lv_istore_n (lv' := [(2, .int 2), (0, .ref (ad 0)), (1, .int n)]) hx hb dX7_inStead_4 rfl hl (by decide) rfl (fun ls hl => ?_)
    refine lv_iload_n hx hb dX7_inStead_5 rfl (lv_at hl 0 rfl) ?_
    refine lv_if_le (tgt := 29) hx hb dX7_inStead_6 (by decide) (fun c9 => absurd c9 (by decide)) (fun _ => ?_)
    refine lv_aload_n hx hb dX7_inStead_9 rfl (lv_at hl 1 rfl) ?_
    refine mw_get (ci := 6) (C := RX7) (T := TX7) (N := 28) (v := .ref (ad 17)) hx hb hts hinX7 hown hK hP 0 (by decide) mF_0 rfl 22 (by decide) kf69 (fun _ h9 => h9) rfl dX7_inStead_10 ?_
    refine lv_iload_n hx hb dX7_inStead_13 rfl (lv_at hl 0 rfl) ?_
    refine lv_aload_n hx hb dX7_inStead_14 rfl (lv_at hl 1 rfl) ?_
    refine mw_get (ci := 6) (C := RX7) (T := TX7) (N := 28) (v := .ref (ad 17)) hx hb hts hinX7 hown hK hP 0 (by decide) mF_0 rfl 22 (by decide) kf69 (fun _ h9 => h9) rfl dX7_inStead_15 ?_
    refine lv_iload_n hx hb dX7_inStead_18 rfl (lv_at hl 0 rfl) ?_
    refine lv_iconst (v := 1) hx hb dX7_inStead_19 (by decide) ?_
    refine lv_isub hx hb dX7_inStead_20 ?_
    refine mw_ild hx hb hK hP 17 (by decide) 0 mF_17 rfl 1 (by decide) (by decide) (by decide) dX7_inStead_21 ?_
    refine mw_ist hx hb hK hj hP hS 17 (by decide) 0 mF_17 rfl 2 (by decide) (by decide) rfl dX7_inStead_22 (fun H locs hP hS => ?_)
    refine lv_iinc (v := 1) (lv' := [(2, .int 1), (0, .ref (ad 0)), (1, .int n)]) hx hb dX7_inStead_23 hl (k := 0) rfl (by decide) (by decide) rfl (fun ls hl => ?_)
    refine lv_goto (tgt := 5) hx hb dX7_inStead_26 (by decide) ?_
    refine lv_iload_n hx hb dX7_inStead_5 rfl (lv_at hl 0 rfl) ?_
    refine lv_if_le (tgt := 29) hx hb dX7_inStead_6 (by decide) (fun c9 => absurd c9 (by decide)) (fun _ => ?_)
    refine lv_aload_n hx hb dX7_inStead_9 rfl (lv_at hl 1 rfl) ?_
    refine mw_get (ci := 6) (C := RX7) (T := TX7) (N := 28) (v := .ref (ad 17)) hx hb hts hinX7 hown hK hP 0 (by decide) mF_0 rfl 22 (by decide) kf69 (fun _ h9 => h9) rfl dX7_inStead_10 ?_
    refine lv_iload_n hx hb dX7_inStead_13 rfl (lv_at hl 0 rfl) ?_
    refine lv_aload_n hx hb dX7_inStead_14 rfl (lv_at hl 1 rfl) ?_
    refine mw_get (ci := 6) (C := RX7) (T := TX7) (N := 28) (v := .ref (ad 17)) hx hb hts hinX7 hown hK hP 0 (by decide) mF_0 rfl 22 (by decide) kf69 (fun _ h9 => h9) rfl dX7_inStead_15 ?_
    refine lv_iload_n hx hb dX7_inStead_18 rfl (lv_at hl 0 rfl) ?_
    refine lv_iconst (v := 1) hx hb dX7_inStead_19 (by decide) ?_
    refine lv_isub hx hb dX7_inStead_20 ?_
    refine mw_ild hx hb hK hP 17 (by decide) 0 mF_17 rfl 0 (by decide) (by decide) (by decide) dX7_inStead_21 ?_
    refine mw_ist hx hb hK hj hP hS 17 (by decide) 0 mF_17 rfl 1 (by decide) (by decide) rfl dX7_inStead_22 (fun H locs hP hS => ?_)
    refine lv_iinc (v := 0) (lv' := [(2, .int 0), (0, .ref (ad 0)), (1, .int n)]) hx hb dX7_inStead_23 hl (k := 0) rfl (by decide) (by decide) rfl (fun ls hl => ?_)
    refine lv_goto (tgt := 5) hx hb dX7_inStead_26 (by decide) ?_
    refine lv_iload_n hx hb dX7_inStead_5 rfl (lv_at hl 0 rfl) ?_
    refine lv_if_le (tgt := 29) hx hb dX7_inStead_6 (by decide) (fun _ => ?_) (fun c9 => absurd c9 (by decide))
    refine lv_aload_n hx hb dX7_inStead_29 rfl (lv_at hl 1 rfl) ?_
    refine mw_get (ci := 6) (C := RX7) (T := TX7) (N := 28) (v := .ref (ad 17)) hx hb hts hinX7 hown hK hP 0 (by decide) mF_0 rfl 22 (by decide) kf69 (fun _ h9 => h9) rfl dX7_inStead_30 ?_
    refine lv_iconst (v := 0) hx hb dX7_inStead_33 (by decide) ?_
    refine lv_iload_n hx hb dX7_inStead_34 rfl (lv_at hl 2 rfl) ?_
    refine mw_ist hx hb hK hj hP hS 17 (by decide) 0 mF_17 rfl 0 (by decide) (by decide) rfl dX7_inStead_35 (fun H locs hP hS => ?_)
    refine lv_aload_n hx hb dX7_inStead_36 rfl (lv_at hl 1 rfl) ?_
    refine lv_dup hx hb dX7_inStead_37 rfl ?_
    refine mw_get (ci := 6) (C := RX7) (T := TX7) (N := 28) (v := .int (σ 0 23)) hx hb hts hinX7 hown hK hP 0 (by decide) mF_0 rfl 23 (by decide) kf146 (fun _ h9 => h9) rfl dX7_inStead_38 ?_
    refine lv_iconst (v := 1) hx hb dX7_inStead_41 (by decide) ?_
    refine lv_iadd hx hb dX7_inStead_42 ?_
    refine mw_put (ci := 6) (C := RX7) (T := TX7) (N := 28) (v := (σ 0 23) + 1) (ty := .int) hx hb hts hinX7 tyX7 tyX7_ok nmX7 hown hK hj hP hS 0 (by decide) mF_0 rfl 23 (by decide) kf146 (fun _ h9 => h9) rfl (by decide +kernel) rfl rfl (Nat.le_of_ble_eq_true rfl) rfl dX7_inStead_43 (fun H locs hP hS => ?_)
    exact g_vret hx hb hr hlocks hP hS dX7_inStead_46 (by unfold mInStead; rw [if_neg (show ¬ (2 : Nat) = 0 by decide), if_neg (show ¬ (2 : Nat) = 1 by decide), if_pos (rfl : (2 : Nat) = 2)] <;> rfl)
  · skip
    refine g_top (y := 3) hw23 ?_
    refine lv_istore_n (lv' := [(2, .int 3), (0, .ref (ad 0)), (1, .int n)]) hx hb dX7_inStead_4 rfl hl (by decide) rfl (fun ls hl => ?_)
    refine lv_iload_n hx hb dX7_inStead_5 rfl (lv_at hl 0 rfl) ?_
    refine lv_if_le (tgt := 29) hx hb dX7_inStead_6 (by decide) (fun c9 => absurd c9 (by decide)) (fun _ => ?_)
    refine lv_aload_n hx hb dX7_inStead_9 rfl (lv_at hl 1 rfl) ?_
    refine mw_get (ci := 6) (C := RX7) (T := TX7) (N := 28) (v := .ref (ad 17)) hx hb hts hinX7 hown hK hP 0 (by decide) mF_0 rfl 22 (by decide) kf69 (fun _ h9 => h9) rfl dX7_inStead_10 ?_
    refine lv_iload_n hx hb dX7_inStead_13 rfl (lv_at hl 0 rfl) ?_
    refine lv_aload_n hx hb dX7_inStead_14 rfl (lv_at hl 1 rfl) ?_
    refine mw_get (ci := 6) (C := RX7) (T := TX7) (N := 28) (v := .ref (ad 17)) hx hb hts hinX7 hown hK hP 0 (by decide) mF_0 rfl 22 (by decide) kf69 (fun _ h9 => h9) rfl dX7_inStead_15 ?_
    refine lv_iload_n hx hb dX7_inStead_18 rfl (lv_at hl 0 rfl) ?_
    refine lv_iconst (v := 1) hx hb dX7_inStead_19 (by decide) ?_
    refine lv_isub hx hb dX7_inStead_20 ?_
    refine mw_ild hx hb hK hP 17 (by decide) 0 mF_17 rfl 2 (by decide) (by decide) (by decide) dX7_inStead_21 ?_
    refine mw_ist hx hb hK hj hP hS 17 (by decide) 0 mF_17 rfl 3 (by decide) (by decide) rfl dX7_inStead_22 (fun H locs hP hS => ?_)
    refine lv_iinc (v := 2) (lv' := [(2, .int 2), (0, .ref (ad 0)), (1, .int n)]) hx hb dX7_inStead_23 hl (k := 0) rfl (by decide) (by decide) rfl (fun ls hl => ?_)
    refine lv_goto (tgt := 5) hx hb dX7_inStead_26 (by decide) ?_
    refine lv_iload_n hx hb dX7_inStead_5 rfl (lv_at hl 0 rfl) ?_
    refine lv_if_le (tgt := 29) hx hb dX7_inStead_6 (by decide) (fun c9 => absurd c9 (by decide)) (fun _ => ?_)
    refine lv_aload_n hx hb dX7_inStead_9 rfl (lv_at hl 1 rfl) ?_
    refine mw_get (ci := 6) (C := RX7) (T := TX7) (N := 28) (v := .ref (ad 17)) hx hb hts hinX7 hown hK hP 0 (by decide) mF_0 rfl 22 (by decide) kf69 (fun _ h9 => h9) rfl dX7_inStead_10 ?_
    refine lv_iload_n hx hb dX7_inStead_13 rfl (lv_at hl 0 rfl) ?_
    refine lv_aload_n hx hb dX7_inStead_14 rfl (lv_at hl 1 rfl) ?_
    refine mw_get (ci := 6) (C := RX7) (T := TX7) (N := 28) (v := .ref (ad 17)) hx hb hts hinX7 hown hK hP 0 (by decide) mF_0 rfl 22 (by decide) kf69 (fun _ h9 => h9) rfl dX7_inStead_15 ?_
    refine lv_iload_n hx hb dX7_inStead_18 rfl (lv_at hl 0 rfl) ?_
    refine lv_iconst (v := 1) hx hb dX7_inStead_19 (by decide) ?_
    refine lv_isub hx hb dX7_inStead_20 ?_
    refine mw_ild hx hb hK hP 17 (by decide) 0 mF_17 rfl 1 (by decide) (by decide) (by decide) dX7_inStead_21 ?_
    refine mw_ist hx hb hK hj hP hS 17 (by decide) 0 mF_17 rfl 2 (by decide) (by decide) rfl dX7_inStead_22 (fun H locs hP hS => ?_)
    refine lv_iinc (v := 1) (lv' := [(2, .int 1), (0, .ref (ad 0)), (1, .int n)]) hx hb dX7_inStead_23 hl (k := 0) rfl (by decide) (by decide) rfl (fun ls hl => ?_)
    refine lv_goto (tgt := 5) hx hb dX7_inStead_26 (by decide) ?_
    refine lv_iload_n hx hb dX7_inStead_5 rfl (lv_at hl 0 rfl) ?_
    refine lv_if_le (tgt := 29) hx hb dX7_inStead_6 (by decide) (fun c9 => absurd c9 (by decide)) (fun _ => ?_)
    refine lv_aload_n hx hb dX7_inStead_9 rfl (lv_at hl 1 rfl) ?_
    refine mw_get (ci := 6) (C := RX7) (T := TX7) (N := 28) (v := .ref (ad 17)) hx hb hts hinX7 hown hK hP 0 (by decide) mF_0 rfl 22 (by decide) kf69 (fun _ h9 => h9) rfl dX7_inStead_10 ?_
    refine lv_iload_n hx hb dX7_inStead_13 rfl (lv_at hl 0 rfl) ?_
    refine lv_aload_n hx hb dX7_inStead_14 rfl (lv_at hl 1 rfl) ?_
    refine mw_get (ci := 6) (C := RX7) (T := TX7) (N := 28) (v := .ref (ad 17)) hx hb hts hinX7 hown hK hP 0 (by decide) mF_0 rfl 22 (by decide) kf69 (fun _ h9 => h9) rfl dX7_inStead_15 ?_
    refine lv_iload_n hx hb dX7_inStead_18 rfl (lv_at hl 0 rfl) ?_
    refine lv_iconst (v := 1) hx hb dX7_inStead_19 (by decide) ?_
    refine lv_isub hx hb dX7_inStead_20 ?_
    refine mw_ild hx hb hK hP 17 (by decide) 0 mF_17 rfl 0 (by decide) (by decide) (by decide) dX7_inStead_21 ?_
    refine mw_ist hx hb hK hj hP hS 17 (by decide) 0 mF_17 rfl 1 (by decide) (by decide) rfl dX7_inStead_22 (fun H locs hP hS => ?_)
    refine lv_iinc (v := 0) (lv' := [(2, .int 0), (0, .ref (ad 0)), (1, .int n)]) hx hb dX7_inStead_23 hl (k := 0) rfl (by decide) (by decide) rfl (fun ls hl => ?_)
    refine lv_goto (tgt := 5) hx hb dX7_inStead_26 (by decide) ?_
    refine lv_iload_n hx hb dX7_inStead_5 rfl (lv_at hl 0 rfl) ?_
    refine lv_if_le (tgt := 29) hx hb dX7_inStead_6 (by decide) (fun _ => ?_) (fun c9 => absurd c9 (by decide))
    refine lv_aload_n hx hb dX7_inStead_29 rfl (lv_at hl 1 rfl) ?_
    refine mw_get (ci := 6) (C := RX7) (T := TX7) (N := 28) (v := .ref (ad 17)) hx hb hts hinX7 hown hK hP 0 (by decide) mF_0 rfl 22 (by decide) kf69 (fun _ h9 => h9) rfl dX7_inStead_30 ?_
    refine lv_iconst (v := 0) hx hb dX7_inStead_33 (by decide) ?_
    refine lv_iload_n hx hb dX7_inStead_34 rfl (lv_at hl 2 rfl) ?_
    refine mw_ist hx hb hK hj hP hS 17 (by decide) 0 mF_17 rfl 0 (by decide) (by decide) rfl dX7_inStead_35 (fun H locs hP hS => ?_)
    refine lv_aload_n hx hb dX7_inStead_36 rfl (lv_at hl 1 rfl) ?_
    refine lv_dup hx hb dX7_inStead_37 rfl ?_
    refine mw_get (ci := 6) (C := RX7) (T := TX7) (N := 28) (v := .int (σ 0 23)) hx hb hts hinX7 hown hK hP 0 (by decide) mF_0 rfl 23 (by decide) kf146 (fun _ h9 => h9) rfl dX7_inStead_38 ?_
    refine lv_iconst (v := 1) hx hb dX7_inStead_41 (by decide) ?_
    refine lv_iadd hx hb dX7_inStead_42 ?_
    refine mw_put (ci := 6) (C := RX7) (T := TX7) (N := 28) (v := (σ 0 23) + 1) (ty := .int) hx hb hts hinX7 tyX7 tyX7_ok nmX7 hown hK hj hP hS 0 (by decide) mF_0 rfl 23 (by decide) kf146 (fun _ h9 => h9) rfl (by decide +kernel) rfl rfl (Nat.le_of_ble_eq_true rfl) rfl dX7_inStead_43 (fun H locs hP hS => ?_)
    exact g_vret hx hb hr hlocks hP hS dX7_inStead_46 (by unfold mInStead; rw [if_neg (show ¬ (3 : Nat) = 0 by decide), if_neg (show ¬ (3 : Nat) = 1 by decide), if_neg (show ¬ (3 : Nat) = 2 by decide)] <;> rfl)
