theorem mIsB_in {v : Int32} (h : ¬ mIsB v = 0) : vp_in v 4 := inR_in (M := 3) (by decide) (show ¬ inR v 0 3 = 0 from h)
theorem mIn_in {v M : Int32} {N : Nat} (hM : M.toInt + 1 = N) (h : ¬ mIn v 0 M = 0) : vp_in v N := inR_in hM (show ¬ inR v 0 M = 0 from h)
theorem m_at {σ : Mem} {b : Int32} (hR : mR σ) (hb : vp_in b 4) : ci (σ 4 (ci b)) ≤ 6 ∧ (6 : Int32) * b + σ 4 (ci b) = nI (6 * ci b + ci (σ 4 (ci b))) ∧ σ 4 (ci b) = nI (ci (σ 4 (ci b))) := by
  obtain ⟨k, hk, e⟩ := hR.2 (ci b) (ci_lt hb)
  obtain ⟨j, hj, rfl⟩ := vp_in_of hb (by decide)
  have ej : ci (nI j) = j := nI_clamp (by omega)
  have ek : ci (nI k) = k := nI_clamp (by omega)
  rw [e, ek, ej]
  exact ⟨hk, mul6 j k, rfl⟩
theorem m_at1 {σ : Mem} {b : Int32} (hR : mR σ) (hb : vp_in b 4) (h : ¬ σ 4 (ci b) = 0) : 1 ≤ ci (σ 4 (ci b)) ∧ (6 : Int32) * b + σ 4 (ci b) - 1 = nI (6 * ci b + (ci (σ 4 (ci b)) - 1)) := by
  obtain ⟨h1, h2, h3⟩ := m_at hR hb
  have h4 : ci (σ 4 (ci b)) ≠ 0 := fun q => h (by rw [h3, q]; rfl)
  refine ⟨by omega, ?_⟩
  rw [h2, show 6 * ci b + ci (σ 4 (ci b)) = (6 * ci b + (ci (σ 4 (ci b)) - 1)) + 1 by omega, nI_pred]
theorem m_sc {σ : Mem} {q : Nat} (hR : mR σ) (hq : q < 24) : ci (σ 6 q) ≤ 8 ∧ σ 6 q = nI (ci (σ 6 q)) ∧ (8 : Int32) * nI q + σ 6 q = nI (8 * q + ci (σ 6 q)) := by
  obtain ⟨k, hk, e⟩ := (hR.1 q hq).1
  have ek : ci (nI k) = k := nI_clamp (by omega)
  rw [e, ek]
  exact ⟨hk, rfl, mul8 q k⟩
theorem m_ne6 {σ : Mem} {b : Int32} (hR : mR σ) (hb : vp_in b 4) (h : ¬ σ 4 (ci b) = 6) : ci (σ 4 (ci b)) < 6 := by
  obtain ⟨h1, h2, h3⟩ := m_at hR hb
  have h4 : ci (σ 4 (ci b)) ≠ 6 := fun q => h (by rw [h3, q]; rfl)
  omega
theorem m_ne8 {σ : Mem} {q : Nat} (hR : mR σ) (hq : q < 24) (h : ¬ σ 6 q = 8) : ci (σ 6 q) < 8 := by
  obtain ⟨h1, h2, h3⟩ := m_sc hR hq
  have h4 : ci (σ 6 q) ≠ 8 := fun z => h (by rw [h2, z]; rfl)
  omega
theorem mIn_box {σ : Mem} {v : Int32} (hb : mbx σ) (h : ¬ mIn v 0 (σ 0 13 - 1) = 0) : vp_in v 20 := by
  have h' : ¬ inR v 0 (σ 0 13 - 1) = 0 := h
  rcases hb with e | ⟨k, hk, e⟩
  · rw [e] at h'
    obtain ⟨h1, h2⟩ := inR_T h'
    have h0 : (0 : Int32).toInt = 0 := by decide
    have h3 : ((-1 : Int32) - 1).toInt = -2 := by decide
    omega
  · rw [e] at h'
    exact (inR_k (N := 20) (by omega) (by decide) h').1
/-- how many reasons there may be between the runs -/
def mwy4 (σ : Mem) : Prop := ∃ k : Nat, k ≤ 4 ∧ σ 0 23 = nI k
theorem mIn_why {σ : Mem} {v : Int32} (hb : mwy4 σ) (h : ¬ mIn v 0 (σ 0 23 - 1) = 0) : vp_in v 5 := by
  have h' : ¬ inR v 0 (σ 0 23 - 1) = 0 := h
  obtain ⟨k, hk, e⟩ := hb
  rw [e] at h'
  exact (inR_k (N := 5) (by omega) (by decide) h').1
theorem mIn_cnt {s : Int32} {v : Int32} {N K : Nat} (hN : N < 2 ^ 31) (hs : ∃ k : Nat, k ≤ K ∧ s = nI k) (hK : K < 2 ^ 31) (hc : ¬ nI N ≤ s) (h : ¬ mIn v 0 (s - 1) = 0) : vp_in v N := by
  have h' : ¬ inR v 0 (s - 1) = 0 := h
  obtain ⟨k, hk, e⟩ := hs
  rw [e] at h' hc
  have h1 : k < N := Nat.not_le.mp fun q => hc ((nI_leI (by omega) (by omega)).mpr q)
  exact (inR_k (N := N) (by omega) hN h').1
def mpVial (σ : Mem) (v d : Int32) : Int32 × Mem :=
  if mIn v 0 7 = 0 then ((-1), mset σ 0 0 0)
  else if mIn d (-1) 1000 = 0 then ((-1), mset σ 0 0 0)
  else if σ 1 (ci v) = 0 then (if d < 0 then (if 0 ≤ d then ((-4), mset (mset (mset σ 0 0 0) 1 (ci v) 0) 2 (ci v) d)
      else ((-4), mset (mset (mset σ 0 0 0) 1 (ci v) 0) 2 (ci v) 0))
    else if 0 ≤ d then ((-4), mset (mset (mset σ 0 0 0) 1 (ci v) 1) 2 (ci v) d)
    else ((-4), mset (mset (mset σ 0 0 0) 1 (ci v) 1) 2 (ci v) 0))
  else if d < 0 then (if 0 ≤ d then (σ 2 (ci v), mset (mset (mset σ 0 0 0) 1 (ci v) 0) 2 (ci v) d)
    else (σ 2 (ci v), mset (mset (mset σ 0 0 0) 1 (ci v) 0) 2 (ci v) 0))
  else if 0 ≤ d then (σ 2 (ci v), mset (mset (mset σ 0 0 0) 1 (ci v) 1) 2 (ci v) d)
  else (σ 2 (ci v), mset (mset (mset σ 0 0 0) 1 (ci v) 1) 2 (ci v) 0)
set_option maxHeartbeats 4000000 in
set_option maxRecDepth 100000 in
theorem m_vial (l : Launch) (D : va_G) (cy : Nat → ClassId) (ad wy : Nat → Nat) (mt : Nat) (hj : mJ 18 ad) (σ : Mem) (v d : Int32)  : Met l yX7_vial wsX7_vial ({ frames := 1, cells := 0, slots := 0, locals := 22 }) (va_Pc [.ref (ad 0), .int v, .int d] (gPre 18 ad (mF ad cy) D cy wy mt σ)) (gQ 18 ad (mF ad cy) D (some (.int (mpVial σ v d).1)) (mpVial σ v d).2) 0 0 (mA 18 ad) := by
  refine g_met (cc := cX7_vial) (maxL := 4) (ret := (some .int)) (by decide) rfl (Nat.le_of_ble_eq_true rfl) ?_
  intro p e s m below meth c S hr hlocks h0 ls hl
  obtain ⟨hx, hb, hml, hown, hts⟩ := S
  have hP := h0.1
  have hK := h0.2.1
  have hS : va_S (mA 18 ad) s.heap s.heap [] := va_S.rf
  have hl : lv_has ls 4 [(0, .ref (ad 0)), (1, .int v), (2, .int d)] := hl
  have kf72 : (Cond.fieldLink RX7 72 "BenchRunsModel" "thrown" "I").before (#[.ref (ad 0), .int v, .int d] : Array Value) s = true := hts _ (by decide +kernel)
  have hinX7 : ∀ w ∈ u_ws RX7 TX7 28, w ∈ wsX7_vial := by decide +kernel
  have kf7 : (Cond.fieldLink RX7 7 "BenchRunsModel" "isVial" "[Z").before (#[.ref (ad 0), .int v, .int d] : Array Value) s = true := hts _ (by decide +kernel)
  have kf13 : (Cond.fieldLink RX7 13 "BenchRunsModel" "drops" "[I").before (#[.ref (ad 0), .int v, .int d] : Array Value) s = true := hts _ (by decide +kernel)
  refine lv_aload_n hx hb dX7_vial_0 rfl (lv_at hl 0 rfl) ?_
  refine lv_iconst (v := 0) hx hb dX7_vial_1 (by decide) ?_
  refine mw_put (ci := 6) (C := RX7) (T := TX7) (N := 28) (v := 0) (ty := .int) hx hb hts hinX7 tyX7 tyX7_ok nmX7 hown hK hj hP hS 0 (by decide) mF_0 rfl 0 (by decide) kf72 (fun _ h9 => h9) rfl (by decide +kernel) rfl rfl (Nat.le_of_ble_eq_true rfl) rfl dX7_vial_2 (fun H locs hP hS => ?_)
  refine lv_iload_n hx hb dX7_vial_5 rfl (lv_at hl 1 rfl) ?_
  refine lv_iconst (v := 0) hx hb dX7_vial_6 (by decide) ?_
  refine lv_bipush (v := 7) hx hb dX7_vial_7 (by decide) ?_
  refine g_callS (As := [.int v, .int 0, .int 7]) (rest := []) ⟨hx, hb, hml, hown, hts⟩ (m_in l v 0 7) (va_cwS 3 hts gX7_vial_X7_in rfl rfl rfl (by decide +kernel) ⟨by decide, by decide⟩) rfl rfl hl.1 (Nat.le_of_ble_eq_true rfl) dX7_vial_9 ⟨Nat.zero_le _, Nat.zero_le _⟩ ?_
  refine lv_if_eq (tgt := 26) hx hb dX7_vial_12 (by decide) (fun (c_1 : mIn v 0 7 = 0) => ?_) (fun (c_1 : ¬ mIn v 0 7 = 0) => ?_)
  · skip
    refine lv_iconst (v := (-1)) hx hb dX7_vial_26 (by decide) ?_
    exact g_iret hx hb hr hlocks hP hS dX7_vial_27 (by unfold mpVial; rw [if_pos c_1] <;> rfl)
  · skip
    have ix_v : vp_in v 8 := (mIn_in (by decide) c_1)
    refine lv_iload_n hx hb dX7_vial_15 rfl (lv_at hl 2 rfl) ?_
    refine lv_iconst (v := (-1)) hx hb dX7_vial_16 (by decide) ?_
    refine lv_sipush (v := 1000) hx hb dX7_vial_17 (by decide) ?_
    refine g_callS (As := [.int d, .int (-1), .int 1000]) (rest := []) ⟨hx, hb, hml, hown, hts⟩ (m_in l d (-1) 1000) (va_cwS 3 hts gX7_vial_X7_in rfl rfl rfl (by decide +kernel) ⟨by decide, by decide⟩) rfl rfl hl.1 (Nat.le_of_ble_eq_true rfl) dX7_vial_20 ⟨Nat.zero_le _, Nat.zero_le _⟩ ?_
    refine lv_if_ne (tgt := 28) hx hb dX7_vial_23 (by decide) (fun (c_2 : ¬ mIn d (-1) 1000 = 0) => ?_) (fun (c_2 : mIn d (-1) 1000 = 0) => ?_)
    · skip
      refine lv_aload_n hx hb dX7_vial_28 rfl (lv_at hl 0 rfl) ?_
      refine mw_get (ci := 6) (C := RX7) (T := TX7) (N := 28) (v := .ref (ad 1)) hx hb hts hinX7 hown hK hP 0 (by decide) mF_0 rfl 1 (by decide) kf7 (fun _ h9 => h9) rfl dX7_vial_29 ?_
      refine lv_iload_n hx hb dX7_vial_32 rfl (lv_at hl 1 rfl) ?_
      refine mw_zld hx hb hK hP 1 (by decide) 1 mF_1 rfl (ci v) (ci_lt ix_v) (by decide) (ci_eq ix_v (by decide)) dX7_vial_33 ?_
      refine lv_if_eq (tgt := 46) hx hb dX7_vial_34 (by decide) (fun (c_3 : σ 1 (ci v) = 0) => ?_) (fun (c_3 : ¬ σ 1 (ci v) = 0) => ?_)
      · skip
        refine lv_bipush (v := (-4)) hx hb dX7_vial_46 (by decide) ?_
        refine lv_istore_n (lv' := [(3, .int (-4)), (0, .ref (ad 0)), (1, .int v), (2, .int d)]) hx hb dX7_vial_48 rfl hl (by decide) rfl (fun ls hl => ?_)
        refine lv_aload_n hx hb dX7_vial_49 rfl (lv_at hl 1 rfl) ?_
        refine mw_get (ci := 6) (C := RX7) (T := TX7) (N := 28) (v := .ref (ad 1)) hx hb hts hinX7 hown hK hP 0 (by decide) mF_0 rfl 1 (by decide) kf7 (fun _ h9 => h9) rfl dX7_vial_50 ?_
        refine lv_iload_n hx hb dX7_vial_53 rfl (lv_at hl 2 rfl) ?_
        refine lv_iload_n hx hb dX7_vial_54 rfl (lv_at hl 3 rfl) ?_
        refine lv_if_lt (tgt := 62) hx hb dX7_vial_55 (by decide) (fun (c_4 : d < 0) => ?_) (fun (c_4 : ¬ d < 0) => ?_)
        · skip
          refine lv_iconst (v := 0) hx hb dX7_vial_62 (by decide) ?_
          refine mw_zst hx hb hK hj hP hS 1 (by decide) 1 mF_1 rfl (by decide) (ci v) (ci_lt ix_v) (by decide) (ci_eq ix_v (by decide)) dX7_vial_63 (fun H locs hP hS => ?_)
          refine lv_aload_n hx hb dX7_vial_64 rfl (lv_at hl 1 rfl) ?_
          refine mw_get (ci := 6) (C := RX7) (T := TX7) (N := 28) (v := .ref (ad 2)) hx hb hts hinX7 hown hK hP 0 (by decide) mF_0 rfl 2 (by decide) kf13 (fun _ h9 => h9) rfl dX7_vial_65 ?_
          refine lv_iload_n hx hb dX7_vial_68 rfl (lv_at hl 2 rfl) ?_
          refine lv_iload_n hx hb dX7_vial_69 rfl (lv_at hl 3 rfl) ?_
          refine lv_if_ge (tgt := 77) hx hb dX7_vial_70 (by decide) (fun (c_5 : 0 ≤ d) => ?_) (fun (c_5 : ¬ 0 ≤ d) => ?_)
          · skip
            refine lv_iload_n hx hb dX7_vial_77 rfl (lv_at hl 3 rfl) ?_
            refine mw_ist hx hb hK hj hP hS 2 (by decide) 0 mF_2 rfl (ci v) (ci_lt ix_v) (by decide) (ci_eq ix_v (by decide)) dX7_vial_78 (fun H locs hP hS => ?_)
            refine lv_iload_n hx hb dX7_vial_79 rfl (lv_at hl 0 rfl) ?_
            exact g_iret hx hb hr hlocks hP hS dX7_vial_80 (by unfold mpVial; rw [if_neg c_1, if_neg c_2, if_pos c_3, if_pos c_4, if_pos c_5] <;> rfl)
          · skip
            refine lv_iconst (v := 0) hx hb dX7_vial_73 (by decide) ?_
            refine lv_goto (tgt := 78) hx hb dX7_vial_74 (by decide) ?_
            refine mw_ist hx hb hK hj hP hS 2 (by decide) 0 mF_2 rfl (ci v) (ci_lt ix_v) (by decide) (ci_eq ix_v (by decide)) dX7_vial_78 (fun H locs hP hS => ?_)
            refine lv_iload_n hx hb dX7_vial_79 rfl (lv_at hl 0 rfl) ?_
            exact g_iret hx hb hr hlocks hP hS dX7_vial_80 (by unfold mpVial; rw [if_neg c_1, if_neg c_2, if_pos c_3, if_pos c_4, if_neg c_5] <;> rfl)
        · skip
          refine lv_iconst (v := 1) hx hb dX7_vial_58 (by decide) ?_
          refine lv_goto (tgt := 63) hx hb dX7_vial_59 (by decide) ?_
          refine mw_zst hx hb hK hj hP hS 1 (by decide) 1 mF_1 rfl (by decide) (ci v) (ci_lt ix_v) (by decide) (ci_eq ix_v (by decide)) dX7_vial_63 (fun H locs hP hS => ?_)
          refine lv_aload_n hx hb dX7_vial_64 rfl (lv_at hl 1 rfl) ?_
          refine mw_get (ci := 6) (C := RX7) (T := TX7) (N := 28) (v := .ref (ad 2)) hx hb hts hinX7 hown hK hP 0 (by decide) mF_0 rfl 2 (by decide) kf13 (fun _ h9 => h9) rfl dX7_vial_65 ?_
          refine lv_iload_n hx hb dX7_vial_68 rfl (lv_at hl 2 rfl) ?_
          refine lv_iload_n hx hb dX7_vial_69 rfl (lv_at hl 3 rfl) ?_
          refine lv_if_ge (tgt := 77) hx hb dX7_vial_70 (by decide) (fun (c_6 : 0 ≤ d) => ?_) (fun (c_6 : ¬ 0 ≤ d) => ?_)
          · skip
            refine lv_iload_n hx hb dX7_vial_77 rfl (lv_at hl 3 rfl) ?_
            refine mw_ist hx hb hK hj hP hS 2 (by decide) 0 mF_2 rfl (ci v) (ci_lt ix_v) (by decide) (ci_eq ix_v (by decide)) dX7_vial_78 (fun H locs hP hS => ?_)
            refine lv_iload_n hx hb dX7_vial_79 rfl (lv_at hl 0 rfl) ?_
            exact g_iret hx hb hr hlocks hP hS dX7_vial_80 (by unfold mpVial; rw [if_neg c_1, if_neg c_2, if_pos c_3, if_neg c_4, if_pos c_6] <;> rfl)
          · skip
            refine lv_iconst (v := 0) hx hb dX7_vial_73 (by decide) ?_
            refine lv_goto (tgt := 78) hx hb dX7_vial_74 (by decide) ?_
            refine mw_ist hx hb hK hj hP hS 2 (by decide) 0 mF_2 rfl (ci v) (ci_lt ix_v) (by decide) (ci_eq ix_v (by decide)) dX7_vial_78 (fun H locs hP hS => ?_)
            refine lv_iload_n hx hb dX7_vial_79 rfl (lv_at hl 0 rfl) ?_
            exact g_iret hx hb hr hlocks hP hS dX7_vial_80 (by unfold mpVial; rw [if_neg c_1, if_neg c_2, if_pos c_3, if_neg c_4, if_neg c_6] <;> rfl)
      · skip
        refine lv_aload_n hx hb dX7_vial_37 rfl (lv_at hl 0 rfl) ?_
        refine mw_get (ci := 6) (C := RX7) (T := TX7) (N := 28) (v := .ref (ad 2)) hx hb hts hinX7 hown hK hP 0 (by decide) mF_0 rfl 2 (by decide) kf13 (fun _ h9 => h9) rfl dX7_vial_38 ?_
        refine lv_iload_n hx hb dX7_vial_41 rfl (lv_at hl 1 rfl) ?_
        refine mw_ild hx hb hK hP 2 (by decide) 0 mF_2 rfl (ci v) (ci_lt ix_v) (by decide) (ci_eq ix_v (by decide)) dX7_vial_42 ?_
        refine lv_goto (tgt := 48) hx hb dX7_vial_43 (by decide) ?_
        refine lv_istore_n (lv' := [(3, .int (σ 2 (ci v))), (0, .ref (ad 0)), (1, .int v), (2, .int d)]) hx hb dX7_vial_48 rfl hl (by decide) rfl (fun ls hl => ?_)
        refine lv_aload_n hx hb dX7_vial_49 rfl (lv_at hl 1 rfl) ?_
        refine mw_get (ci := 6) (C := RX7) (T := TX7) (N := 28) (v := .ref (ad 1)) hx hb hts hinX7 hown hK hP 0 (by decide) mF_0 rfl 1 (by decide) kf7 (fun _ h9 => h9) rfl dX7_vial_50 ?_
        refine lv_iload_n hx hb dX7_vial_53 rfl (lv_at hl 2 rfl) ?_
        refine lv_iload_n hx hb dX7_vial_54 rfl (lv_at hl 3 rfl) ?_
        refine lv_if_lt (tgt := 62) hx hb dX7_vial_55 (by decide) (fun (c_7 : d < 0) => ?_) (fun (c_7 : ¬ d < 0) => ?_)
        · skip
          refine lv_iconst (v := 0) hx hb dX7_vial_62 (by decide) ?_
          refine mw_zst hx hb hK hj hP hS 1 (by decide) 1 mF_1 rfl (by decide) (ci v) (ci_lt ix_v) (by decide) (ci_eq ix_v (by decide)) dX7_vial_63 (fun H locs hP hS => ?_)
          refine lv_aload_n hx hb dX7_vial_64 rfl (lv_at hl 1 rfl) ?_
          refine mw_get (ci := 6) (C := RX7) (T := TX7) (N := 28) (v := .ref (ad 2)) hx hb hts hinX7 hown hK hP 0 (by decide) mF_0 rfl 2 (by decide) kf13 (fun _ h9 => h9) rfl dX7_vial_65 ?_
          refine lv_iload_n hx hb dX7_vial_68 rfl (lv_at hl 2 rfl) ?_
          refine lv_iload_n hx hb dX7_vial_69 rfl (lv_at hl 3 rfl) ?_
          refine lv_if_ge (tgt := 77) hx hb dX7_vial_70 (by decide) (fun (c_8 : 0 ≤ d) => ?_) (fun (c_8 : ¬ 0 ≤ d) => ?_)
          · skip
            refine lv_iload_n hx hb dX7_vial_77 rfl (lv_at hl 3 rfl) ?_
            refine mw_ist hx hb hK hj hP hS 2 (by decide) 0 mF_2 rfl (ci v) (ci_lt ix_v) (by decide) (ci_eq ix_v (by decide)) dX7_vial_78 (fun H locs hP hS => ?_)
            refine lv_iload_n hx hb dX7_vial_79 rfl (lv_at hl 0 rfl) ?_
            exact g_iret hx hb hr hlocks hP hS dX7_vial_80 (by unfold mpVial; rw [if_neg c_1, if_neg c_2, if_neg c_3, if_pos c_7, if_pos c_8] <;> rfl)
          · skip
            refine lv_iconst (v := 0) hx hb dX7_vial_73 (by decide) ?_
            refine lv_goto (tgt := 78) hx hb dX7_vial_74 (by decide) ?_
            refine mw_ist hx hb hK hj hP hS 2 (by decide) 0 mF_2 rfl (ci v) (ci_lt ix_v) (by decide) (ci_eq ix_v (by decide)) dX7_vial_78 (fun H locs hP hS => ?_)
            refine lv_iload_n hx hb dX7_vial_79 rfl (lv_at hl 0 rfl) ?_
            exact g_iret hx hb hr hlocks hP hS dX7_vial_80 (by unfold mpVial; rw [if_neg c_1, if_neg c_2, if_neg c_3, if_pos c_7, if_neg c_8] <;> rfl)
        · skip
          refine lv_iconst (v := 1) hx hb dX7_vial_58 (by decide) ?_
          refine lv_goto (tgt := 63) hx hb dX7_vial_59 (by decide) ?_
          refine mw_zst hx hb hK hj hP hS 1 (by decide) 1 mF_1 rfl (by decide) (ci v) (ci_lt ix_v) (by decide) (ci_eq ix_v (by decide)) dX7_vial_63 (fun H locs hP hS => ?_)
          refine lv_aload_n hx hb dX7_vial_64 rfl (lv_at hl 1 rfl) ?_
          refine mw_get (ci := 6) (C := RX7) (T := TX7) (N := 28) (v := .ref (ad 2)) hx hb hts hinX7 hown hK hP 0 (by decide) mF_0 rfl 2 (by decide) kf13 (fun _ h9 => h9) rfl dX7_vial_65 ?_
          refine lv_iload_n hx hb dX7_vial_68 rfl (lv_at hl 2 rfl) ?_
          refine lv_iload_n hx hb dX7_vial_69 rfl (lv_at hl 3 rfl) ?_
          refine lv_if_ge (tgt := 77) hx hb dX7_vial_70 (by decide) (fun (c_9 : 0 ≤ d) => ?_) (fun (c_9 : ¬ 0 ≤ d) => ?_)
          · skip
            refine lv_iload_n hx hb dX7_vial_77 rfl (lv_at hl 3 rfl) ?_
            refine mw_ist hx hb hK hj hP hS 2 (by decide) 0 mF_2 rfl (ci v) (ci_lt ix_v) (by decide) (ci_eq ix_v (by decide)) dX7_vial_78 (fun H locs hP hS => ?_)
            refine lv_iload_n hx hb dX7_vial_79 rfl (lv_at hl 0 rfl) ?_
            exact g_iret hx hb hr hlocks hP hS dX7_vial_80 (by unfold mpVial; rw [if_neg c_1, if_neg c_2, if_neg c_3, if_neg c_7, if_pos c_9] <;> rfl)
          · skip
            refine lv_iconst (v := 0) hx hb dX7_vial_73 (by decide) ?_
            refine lv_goto (tgt := 78) hx hb dX7_vial_74 (by decide) ?_
            refine mw_ist hx hb hK hj hP hS 2 (by decide) 0 mF_2 rfl (ci v) (ci_lt ix_v) (by decide) (ci_eq ix_v (by decide)) dX7_vial_78 (fun H locs hP hS => ?_)
            refine lv_iload_n hx hb dX7_vial_79 rfl (lv_at hl 0 rfl) ?_
            exact g_iret hx hb hr hlocks hP hS dX7_vial_80 (by unfold mpVial; rw [if_neg c_1, if_neg c_2, if_neg c_3, if_neg c_7, if_neg c_9] <;> rfl)
    · skip
      refine lv_iconst (v := (-1)) hx hb dX7_vial_26 (by decide) ?_
      exact g_iret hx hb hr hlocks hP hS dX7_vial_27 (by unfold mpVial; rw [if_neg c_1, if_pos c_2] <;> rfl)

def mpBatch (σ : Mem) (b d : Int32) : Int32 × Mem :=
  if mIsB b = 0 then ((-1), mset σ 0 0 0)
  else if mIn d 0 2 = 0 then ((-1), mset σ 0 0 0)
  else (σ 4 (ci b), mset (mset (mset σ 0 0 0) 4 (ci b) 0) 3 (ci b) d)
set_option maxHeartbeats 4000000 in
set_option maxRecDepth 100000 in
theorem m_batch (l : Launch) (D : va_G) (cy : Nat → ClassId) (ad wy : Nat → Nat) (mt : Nat) (hj : mJ 18 ad) (σ : Mem) (b d : Int32)  : Met l yX7_batch wsX7_batch ({ frames := 2, cells := 0, slots := 0, locals := 42 }) (va_Pc [.ref (ad 0), .int b, .int d] (gPre 18 ad (mF ad cy) D cy wy mt σ)) (gQ 18 ad (mF ad cy) D (some (.int (mpBatch σ b d).1)) (mpBatch σ b d).2) 0 0 (mA 18 ad) := by
  refine g_met (cc := cX7_batch) (maxL := 4) (ret := (some .int)) (by decide) rfl (Nat.le_of_ble_eq_true rfl) ?_
  intro p e s m below meth c S hr hlocks h0 ls hl
  obtain ⟨hx, hb, hml, hown, hts⟩ := S
  have hP := h0.1
  have hK := h0.2.1
  have hS : va_S (mA 18 ad) s.heap s.heap [] := va_S.rf
  have hl : lv_has ls 4 [(0, .ref (ad 0)), (1, .int b), (2, .int d)] := hl
  have kf72 : (Cond.fieldLink RX7 72 "BenchRunsModel" "thrown" "I").before (#[.ref (ad 0), .int b, .int d] : Array Value) s = true := hts _ (by decide +kernel)
  have hinX7 : ∀ w ∈ u_ws RX7 TX7 28, w ∈ wsX7_batch := by decide +kernel
  have kf20 : (Cond.fieldLink RX7 20 "BenchRunsModel" "rounds" "[I").before (#[.ref (ad 0), .int b, .int d] : Array Value) s = true := hts _ (by decide +kernel)
  have kf17 : (Cond.fieldLink RX7 17 "BenchRunsModel" "mode" "[I").before (#[.ref (ad 0), .int b, .int d] : Array Value) s = true := hts _ (by decide +kernel)
  refine lv_aload_n hx hb dX7_batch_0 rfl (lv_at hl 0 rfl) ?_
  refine lv_iconst (v := 0) hx hb dX7_batch_1 (by decide) ?_
  refine mw_put (ci := 6) (C := RX7) (T := TX7) (N := 28) (v := 0) (ty := .int) hx hb hts hinX7 tyX7 tyX7_ok nmX7 hown hK hj hP hS 0 (by decide) mF_0 rfl 0 (by decide) kf72 (fun _ h9 => h9) rfl (by decide +kernel) rfl rfl (Nat.le_of_ble_eq_true rfl) rfl dX7_batch_2 (fun H locs hP hS => ?_)
  refine lv_iload_n hx hb dX7_batch_5 rfl (lv_at hl 1 rfl) ?_
  refine g_callS (As := [.int b]) (rest := []) ⟨hx, hb, hml, hown, hts⟩ (m_isBatch l b) (va_cwS 1 hts gX7_batch_X7_isBatch rfl rfl rfl (by decide +kernel) ⟨by decide, by decide⟩) rfl rfl hl.1 (Nat.le_of_ble_eq_true rfl) dX7_batch_6 ⟨Nat.zero_le _, Nat.zero_le _⟩ ?_
  refine lv_if_eq (tgt := 21) hx hb dX7_batch_9 (by decide) (fun (c_1 : mIsB b = 0) => ?_) (fun (c_1 : ¬ mIsB b = 0) => ?_)
  · skip
    refine lv_iconst (v := (-1)) hx hb dX7_batch_21 (by decide) ?_
    exact g_iret hx hb hr hlocks hP hS dX7_batch_22 (by unfold mpBatch; rw [if_pos c_1] <;> rfl)
  · skip
    have ix_b : vp_in b 4 := (mIsB_in c_1)
    refine lv_iload_n hx hb dX7_batch_12 rfl (lv_at hl 2 rfl) ?_
    refine lv_iconst (v := 0) hx hb dX7_batch_13 (by decide) ?_
    refine lv_iconst (v := 2) hx hb dX7_batch_14 (by decide) ?_
    refine g_callS (As := [.int d, .int 0, .int 2]) (rest := []) ⟨hx, hb, hml, hown, hts⟩ (m_in l d 0 2) (va_cwS 3 hts gX7_batch_X7_in rfl rfl rfl (by decide +kernel) ⟨by decide, by decide⟩) rfl rfl hl.1 (Nat.le_of_ble_eq_true rfl) dX7_batch_15 ⟨Nat.zero_le _, Nat.zero_le _⟩ ?_
    refine lv_if_ne (tgt := 23) hx hb dX7_batch_18 (by decide) (fun (c_2 : ¬ mIn d 0 2 = 0) => ?_) (fun (c_2 : mIn d 0 2 = 0) => ?_)
    · skip
      refine lv_aload_n hx hb dX7_batch_23 rfl (lv_at hl 0 rfl) ?_
      refine mw_get (ci := 6) (C := RX7) (T := TX7) (N := 28) (v := .ref (ad 4)) hx hb hts hinX7 hown hK hP 0 (by decide) mF_0 rfl 4 (by decide) kf20 (fun _ h9 => h9) rfl dX7_batch_24 ?_
      refine lv_iload_n hx hb dX7_batch_27 rfl (lv_at hl 1 rfl) ?_
      refine mw_ild hx hb hK hP 4 (by decide) 0 mF_4 rfl (ci b) (ci_lt ix_b) (by decide) (ci_eq ix_b (by decide)) dX7_batch_28 ?_
      refine lv_istore_n (lv' := [(3, .int (σ 4 (ci b))), (0, .ref (ad 0)), (1, .int b), (2, .int d)]) hx hb dX7_batch_29 rfl hl (by decide) rfl (fun ls hl => ?_)
      refine lv_aload_n hx hb dX7_batch_30 rfl (lv_at hl 1 rfl) ?_
      refine mw_get (ci := 6) (C := RX7) (T := TX7) (N := 28) (v := .ref (ad 4)) hx hb hts hinX7 hown hK hP 0 (by decide) mF_0 rfl 4 (by decide) kf20 (fun _ h9 => h9) rfl dX7_batch_31 ?_
      refine lv_iload_n hx hb dX7_batch_34 rfl (lv_at hl 2 rfl) ?_
      refine lv_iconst (v := 0) hx hb dX7_batch_35 (by decide) ?_
      refine mw_ist hx hb hK hj hP hS 4 (by decide) 0 mF_4 rfl (ci b) (ci_lt ix_b) (by decide) (ci_eq ix_b (by decide)) dX7_batch_36 (fun H locs hP hS => ?_)
      refine lv_aload_n hx hb dX7_batch_37 rfl (lv_at hl 1 rfl) ?_
      refine mw_get (ci := 6) (C := RX7) (T := TX7) (N := 28) (v := .ref (ad 3)) hx hb hts hinX7 hown hK hP 0 (by decide) mF_0 rfl 3 (by decide) kf17 (fun _ h9 => h9) rfl dX7_batch_38 ?_
      refine lv_iload_n hx hb dX7_batch_41 rfl (lv_at hl 2 rfl) ?_
      refine lv_iload_n hx hb dX7_batch_42 rfl (lv_at hl 3 rfl) ?_
      refine mw_ist hx hb hK hj hP hS 3 (by decide) 0 mF_3 rfl (ci b) (ci_lt ix_b) (by decide) (ci_eq ix_b (by decide)) dX7_batch_43 (fun H locs hP hS => ?_)
      refine lv_iload_n hx hb dX7_batch_44 rfl (lv_at hl 0 rfl) ?_
      exact g_iret hx hb hr hlocks hP hS dX7_batch_45 (by unfold mpBatch; rw [if_neg c_1, if_neg c_2] <;> rfl)
    · skip
      refine lv_iconst (v := (-1)) hx hb dX7_batch_21 (by decide) ?_
      exact g_iret hx hb hr hlocks hP hS dX7_batch_22 (by unfold mpBatch; rw [if_neg c_1, if_pos c_2] <;> rfl)

def mpRound (σ : Mem) (b d : Int32) : Int32 × Mem :=
  if mIsB b = 0 then ((-1), mset σ 0 0 0)
  else if mIn d 0 9 = 0 then ((-1), mset σ 0 0 0)
  else if σ 4 (ci b) = 6 then ((-2), mset σ 0 0 0)
  else (((σ 4 (ci b)) + 1) - 1, mset (mset (mset (mset σ 0 0 0) 5 (6 * (ci b) + (ci (σ 4 (ci b)))) d) 6 (6 * (ci b) + (ci (σ 4 (ci b)))) 0) 4 (ci b) ((σ 4 (ci b)) + 1))
set_option maxHeartbeats 4000000 in
set_option maxRecDepth 100000 in
theorem m_round (l : Launch) (D : va_G) (cy : Nat → ClassId) (ad wy : Nat → Nat) (mt : Nat) (hj : mJ 18 ad) (σ : Mem) (b d : Int32) (hR : mR σ) : Met l yX7_round wsX7_round ({ frames := 2, cells := 0, slots := 0, locals := 42 }) (va_Pc [.ref (ad 0), .int b, .int d] (gPre 18 ad (mF ad cy) D cy wy mt σ)) (gQ 18 ad (mF ad cy) D (some (.int (mpRound σ b d).1)) (mpRound σ b d).2) 0 0 (mA 18 ad) := by
  refine g_met (cc := cX7_round) (maxL := 4) (ret := (some .int)) (by decide) rfl (Nat.le_of_ble_eq_true rfl) ?_
  intro p e s m below meth c S hr hlocks h0 ls hl
  obtain ⟨hx, hb, hml, hown, hts⟩ := S
  have hP := h0.1
  have hK := h0.2.1
  have hS : va_S (mA 18 ad) s.heap s.heap [] := va_S.rf
  have hl : lv_has ls 4 [(0, .ref (ad 0)), (1, .int b), (2, .int d)] := hl
  have kf72 : (Cond.fieldLink RX7 72 "BenchRunsModel" "thrown" "I").before (#[.ref (ad 0), .int b, .int d] : Array Value) s = true := hts _ (by decide +kernel)
  have hinX7 : ∀ w ∈ u_ws RX7 TX7 28, w ∈ wsX7_round := by decide +kernel
  have kf20 : (Cond.fieldLink RX7 20 "BenchRunsModel" "rounds" "[I").before (#[.ref (ad 0), .int b, .int d] : Array Value) s = true := hts _ (by decide +kernel)
  have kf23 : (Cond.fieldLink RX7 23 "BenchRunsModel" "vialOf" "[I").before (#[.ref (ad 0), .int b, .int d] : Array Value) s = true := hts _ (by decide +kernel)
  have kf26 : (Cond.fieldLink RX7 26 "BenchRunsModel" "steps" "[I").before (#[.ref (ad 0), .int b, .int d] : Array Value) s = true := hts _ (by decide +kernel)
  refine lv_aload_n hx hb dX7_round_0 rfl (lv_at hl 0 rfl) ?_
  refine lv_iconst (v := 0) hx hb dX7_round_1 (by decide) ?_
  refine mw_put (ci := 6) (C := RX7) (T := TX7) (N := 28) (v := 0) (ty := .int) hx hb hts hinX7 tyX7 tyX7_ok nmX7 hown hK hj hP hS 0 (by decide) mF_0 rfl 0 (by decide) kf72 (fun _ h9 => h9) rfl (by decide +kernel) rfl rfl (Nat.le_of_ble_eq_true rfl) rfl dX7_round_2 (fun H locs hP hS => ?_)
  refine lv_iload_n hx hb dX7_round_5 rfl (lv_at hl 1 rfl) ?_
  refine g_callS (As := [.int b]) (rest := []) ⟨hx, hb, hml, hown, hts⟩ (m_isBatch l b) (va_cwS 1 hts gX7_round_X7_isBatch rfl rfl rfl (by decide +kernel) ⟨by decide, by decide⟩) rfl rfl hl.1 (Nat.le_of_ble_eq_true rfl) dX7_round_6 ⟨Nat.zero_le _, Nat.zero_le _⟩ ?_
  refine lv_if_eq (tgt := 22) hx hb dX7_round_9 (by decide) (fun (c_1 : mIsB b = 0) => ?_) (fun (c_1 : ¬ mIsB b = 0) => ?_)
  · skip
    refine lv_iconst (v := (-1)) hx hb dX7_round_22 (by decide) ?_
    exact g_iret hx hb hr hlocks hP hS dX7_round_23 (by unfold mpRound; rw [if_pos c_1] <;> rfl)
  · skip
    have ix_b : vp_in b 4 := (mIsB_in c_1)
    refine lv_iload_n hx hb dX7_round_12 rfl (lv_at hl 2 rfl) ?_
    refine lv_iconst (v := 0) hx hb dX7_round_13 (by decide) ?_
    refine lv_bipush (v := 9) hx hb dX7_round_14 (by decide) ?_
    refine g_callS (As := [.int d, .int 0, .int 9]) (rest := []) ⟨hx, hb, hml, hown, hts⟩ (m_in l d 0 9) (va_cwS 3 hts gX7_round_X7_in rfl rfl rfl (by decide +kernel) ⟨by decide, by decide⟩) rfl rfl hl.1 (Nat.le_of_ble_eq_true rfl) dX7_round_16 ⟨Nat.zero_le _, Nat.zero_le _⟩ ?_
    refine lv_if_ne (tgt := 24) hx hb dX7_round_19 (by decide) (fun (c_2 : ¬ mIn d 0 9 = 0) => ?_) (fun (c_2 : mIn d 0 9 = 0) => ?_)
    · skip
      refine lv_aload_n hx hb dX7_round_24 rfl (lv_at hl 0 rfl) ?_
      refine mw_get (ci := 6) (C := RX7) (T := TX7) (N := 28) (v := .ref (ad 4)) hx hb hts hinX7 hown hK hP 0 (by decide) mF_0 rfl 4 (by decide) kf20 (fun _ h9 => h9) rfl dX7_round_25 ?_
      refine lv_iload_n hx hb dX7_round_28 rfl (lv_at hl 1 rfl) ?_
      refine mw_ild hx hb hK hP 4 (by decide) 0 mF_4 rfl (ci b) (ci_lt ix_b) (by decide) (ci_eq ix_b (by decide)) dX7_round_29 ?_
      refine lv_bipush (v := 6) hx hb dX7_round_30 (by decide) ?_
      refine lv_icmp_ne (tgt := 38) hx hb dX7_round_32 (by decide) (fun (c_3 : ¬ σ 4 (ci b) = 6) => ?_) (fun (c_3 : σ 4 (ci b) = 6) => ?_)
      · skip
        have hA := m_at hR ix_b
        have h6 := m_ne6 hR ix_b c_3
        have hb4 := ci_lt ix_b
        refine lv_bipush (v := 6) hx hb dX7_round_38 (by decide) ?_
        refine lv_iload_n hx hb dX7_round_40 rfl (lv_at hl 1 rfl) ?_
        refine lv_imul hx hb dX7_round_41 ?_
        refine lv_aload_n hx hb dX7_round_42 rfl (lv_at hl 0 rfl) ?_
        refine mw_get (ci := 6) (C := RX7) (T := TX7) (N := 28) (v := .ref (ad 4)) hx hb hts hinX7 hown hK hP 0 (by decide) mF_0 rfl 4 (by decide) kf20 (fun _ h9 => h9) rfl dX7_round_43 ?_
        refine lv_iload_n hx hb dX7_round_46 rfl (lv_at hl 1 rfl) ?_
        refine mw_ild hx hb hK hP 4 (by decide) 0 mF_4 rfl (ci b) (ci_lt ix_b) (by decide) (ci_eq ix_b (by decide)) dX7_round_47 ?_
        refine lv_iadd hx hb dX7_round_48 ?_
        refine g_top (y := nI (6 * (ci b) + (ci (σ 4 (ci b))))) hA.2.1 ?_
        refine lv_istore_n (lv' := [(3, .int (nI (6 * (ci b) + (ci (σ 4 (ci b)))))), (0, .ref (ad 0)), (1, .int b), (2, .int d)]) hx hb dX7_round_49 rfl hl (by decide) rfl (fun ls hl => ?_)
        refine lv_aload_n hx hb dX7_round_50 rfl (lv_at hl 1 rfl) ?_
        refine mw_get (ci := 6) (C := RX7) (T := TX7) (N := 28) (v := .ref (ad 5)) hx hb hts hinX7 hown hK hP 0 (by decide) mF_0 rfl 5 (by decide) kf23 (fun _ h9 => h9) rfl dX7_round_51 ?_
        refine lv_iload_n hx hb dX7_round_54 rfl (lv_at hl 0 rfl) ?_
        refine lv_iload_n hx hb dX7_round_55 rfl (lv_at hl 3 rfl) ?_
        refine mw_ist hx hb hK hj hP hS 5 (by decide) 0 mF_5 rfl (6 * (ci b) + (ci (σ 4 (ci b)))) (by omega) (by decide) rfl dX7_round_56 (fun H locs hP hS => ?_)
        refine lv_aload_n hx hb dX7_round_57 rfl (lv_at hl 1 rfl) ?_
        refine mw_get (ci := 6) (C := RX7) (T := TX7) (N := 28) (v := .ref (ad 6)) hx hb hts hinX7 hown hK hP 0 (by decide) mF_0 rfl 6 (by decide) kf26 (fun _ h9 => h9) rfl dX7_round_58 ?_
        refine lv_iload_n hx hb dX7_round_61 rfl (lv_at hl 0 rfl) ?_
        refine lv_iconst (v := 0) hx hb dX7_round_62 (by decide) ?_
        refine mw_ist hx hb hK hj hP hS 6 (by decide) 0 mF_6 rfl (6 * (ci b) + (ci (σ 4 (ci b)))) (by omega) (by decide) rfl dX7_round_63 (fun H locs hP hS => ?_)
        refine lv_aload_n hx hb dX7_round_64 rfl (lv_at hl 1 rfl) ?_
        refine mw_get (ci := 6) (C := RX7) (T := TX7) (N := 28) (v := .ref (ad 4)) hx hb hts hinX7 hown hK hP 0 (by decide) mF_0 rfl 4 (by decide) kf20 (fun _ h9 => h9) rfl dX7_round_65 ?_
        refine lv_iload_n hx hb dX7_round_68 rfl (lv_at hl 2 rfl) ?_
        refine lv_dup2_11 hx hb dX7_round_69 rfl rfl ?_
        refine mw_ild hx hb hK hP 4 (by decide) 0 mF_4 rfl (ci b) (ci_lt ix_b) (by decide) (ci_eq ix_b (by decide)) dX7_round_70 ?_
        refine lv_iconst (v := 1) hx hb dX7_round_71 (by decide) ?_
        refine lv_iadd hx hb dX7_round_72 ?_
        refine mw_ist hx hb hK hj hP hS 4 (by decide) 0 mF_4 rfl (ci b) (ci_lt ix_b) (by decide) (ci_eq ix_b (by decide)) dX7_round_73 (fun H locs hP hS => ?_)
        refine lv_aload_n hx hb dX7_round_74 rfl (lv_at hl 1 rfl) ?_
        refine mw_get (ci := 6) (C := RX7) (T := TX7) (N := 28) (v := .ref (ad 4)) hx hb hts hinX7 hown hK hP 0 (by decide) mF_0 rfl 4 (by decide) kf20 (fun _ h9 => h9) rfl dX7_round_75 ?_
        refine lv_iload_n hx hb dX7_round_78 rfl (lv_at hl 2 rfl) ?_
        refine mw_ild hx hb hK hP 4 (by decide) 0 mF_4 rfl (ci b) (ci_lt ix_b) (by decide) (ci_eq ix_b (by decide)) dX7_round_79 ?_
        refine lv_iconst (v := 1) hx hb dX7_round_80 (by decide) ?_
        refine lv_isub hx hb dX7_round_81 ?_
        exact g_iret hx hb hr hlocks hP hS dX7_round_82 (by unfold mpRound; rw [if_neg c_1, if_neg c_2, if_neg c_3]; rw [mset_self]; rfl)
      · skip
        refine lv_bipush (v := (-2)) hx hb dX7_round_35 (by decide) ?_
        exact g_iret hx hb hr hlocks hP hS dX7_round_37 (by unfold mpRound; rw [if_neg c_1, if_neg c_2, if_pos c_3] <;> rfl)
    · skip
      refine lv_iconst (v := (-1)) hx hb dX7_round_22 (by decide) ?_
      exact g_iret hx hb hr hlocks hP hS dX7_round_23 (by unfold mpRound; rw [if_neg c_1, if_pos c_2] <;> rfl)

def mpStep (σ : Mem) (b kd n : Int32) : Int32 × Mem :=
  if mIsB b = 0 then ((-1), mset σ 0 0 0)
  else if mIn kd 0 17 = 0 then ((-1), mset σ 0 0 0)
  else if mIn n 0 (mMost (ci kd)) = 0 then ((-1), mset σ 0 0 0)
  else if σ 4 (ci b) = 0 then ((-3), mset σ 0 0 0)
  else if σ 6 (6 * (ci b) + ((ci (σ 4 (ci b))) - 1)) = 8 then ((-2), mset σ 0 0 0)
  else (((σ 6 (6 * (ci b) + ((ci (σ 4 (ci b))) - 1))) + 1) - 1, mset (mset (mset (mset σ 0 0 0) 7 (8 * (6 * (ci b) + ((ci (σ 4 (ci b))) - 1)) + (ci (σ 6 (6 * (ci b) + ((ci (σ 4 (ci b))) - 1))))) kd) 8 (8 * (6 * (ci b) + ((ci (σ 4 (ci b))) - 1)) + (ci (σ 6 (6 * (ci b) + ((ci (σ 4 (ci b))) - 1))))) n) 6 (6 * (ci b) + ((ci (σ 4 (ci b))) - 1)) ((σ 6 (6 * (ci b) + ((ci (σ 4 (ci b))) - 1))) + 1))
set_option maxHeartbeats 4000000 in
set_option maxRecDepth 100000 in
theorem m_step (l : Launch) (D : va_G) (cy : Nat → ClassId) (ad wy : Nat → Nat) (mt : Nat) (hj : mJ 18 ad) (σ : Mem) (b kd n : Int32) (hR : mR σ) : Met l yX7_step wsX7_step ({ frames := 2, cells := 0, slots := 0, locals := 42 }) (va_Pc [.ref (ad 0), .int b, .int kd, .int n] (gPre 18 ad (mF ad cy) D cy wy mt σ)) (gQ 18 ad (mF ad cy) D (some (.int (mpStep σ b kd n).1)) (mpStep σ b kd n).2) 0 0 (mA 18 ad) := by
  refine g_met (cc := cX7_step) (maxL := 5) (ret := (some .int)) (by decide) rfl (Nat.le_of_ble_eq_true rfl) ?_
  intro p e s m below meth c S hr hlocks h0 ls hl
  obtain ⟨hx, hb, hml, hown, hts⟩ := S
  have hP := h0.1
  have hK := h0.2.1
  have hS : va_S (mA 18 ad) s.heap s.heap [] := va_S.rf
  have hl : lv_has ls 5 [(0, .ref (ad 0)), (1, .int b), (2, .int kd), (3, .int n)] := hl
  have kf72 : (Cond.fieldLink RX7 72 "BenchRunsModel" "thrown" "I").before (#[.ref (ad 0), .int b, .int kd, .int n] : Array Value) s = true := hts _ (by decide +kernel)
  have hinX7 : ∀ w ∈ u_ws RX7 TX7 28, w ∈ wsX7_step := by decide +kernel
  have kf20 : (Cond.fieldLink RX7 20 "BenchRunsModel" "rounds" "[I").before (#[.ref (ad 0), .int b, .int kd, .int n] : Array Value) s = true := hts _ (by decide +kernel)
  have kf26 : (Cond.fieldLink RX7 26 "BenchRunsModel" "steps" "[I").before (#[.ref (ad 0), .int b, .int kd, .int n] : Array Value) s = true := hts _ (by decide +kernel)
  have kf29 : (Cond.fieldLink RX7 29 "BenchRunsModel" "kinds" "[I").before (#[.ref (ad 0), .int b, .int kd, .int n] : Array Value) s = true := hts _ (by decide +kernel)
  have kf32 : (Cond.fieldLink RX7 32 "BenchRunsModel" "numbers" "[I").before (#[.ref (ad 0), .int b, .int kd, .int n] : Array Value) s = true := hts _ (by decide +kernel)
  refine lv_aload_n hx hb dX7_step_0 rfl (lv_at hl 0 rfl) ?_
  refine lv_iconst (v := 0) hx hb dX7_step_1 (by decide) ?_
  refine mw_put (ci := 6) (C := RX7) (T := TX7) (N := 28) (v := 0) (ty := .int) hx hb hts hinX7 tyX7 tyX7_ok nmX7 hown hK hj hP hS 0 (by decide) mF_0 rfl 0 (by decide) kf72 (fun _ h9 => h9) rfl (by decide +kernel) rfl rfl (Nat.le_of_ble_eq_true rfl) rfl dX7_step_2 (fun H locs hP hS => ?_)
  refine lv_iload_n hx hb dX7_step_5 rfl (lv_at hl 1 rfl) ?_
  refine g_callS (As := [.int b]) (rest := []) ⟨hx, hb, hml, hown, hts⟩ (m_isBatch l b) (va_cwS 1 hts gX7_step_X7_isBatch rfl rfl rfl (by decide +kernel) ⟨by decide, by decide⟩) rfl rfl hl.1 (Nat.le_of_ble_eq_true rfl) dX7_step_6 ⟨Nat.zero_le _, Nat.zero_le _⟩ ?_
  refine lv_if_eq (tgt := 34) hx hb dX7_step_9 (by decide) (fun (c_1 : mIsB b = 0) => ?_) (fun (c_1 : ¬ mIsB b = 0) => ?_)
  · skip
    refine lv_iconst (v := (-1)) hx hb dX7_step_34 (by decide) ?_
    exact g_iret hx hb hr hlocks hP hS dX7_step_35 (by unfold mpStep; rw [if_pos c_1] <;> rfl)
  · skip
    have ix_b : vp_in b 4 := (mIsB_in c_1)
    refine lv_iload_n hx hb dX7_step_12 rfl (lv_at hl 2 rfl) ?_
    refine lv_iconst (v := 0) hx hb dX7_step_13 (by decide) ?_
    refine lv_bipush (v := 17) hx hb dX7_step_14 (by decide) ?_
    refine g_callS (As := [.int kd, .int 0, .int 17]) (rest := []) ⟨hx, hb, hml, hown, hts⟩ (m_in l kd 0 17) (va_cwS 3 hts gX7_step_X7_in rfl rfl rfl (by decide +kernel) ⟨by decide, by decide⟩) rfl rfl hl.1 (Nat.le_of_ble_eq_true rfl) dX7_step_16 ⟨Nat.zero_le _, Nat.zero_le _⟩ ?_
    refine lv_if_eq (tgt := 34) hx hb dX7_step_19 (by decide) (fun (c_2 : mIn kd 0 17 = 0) => ?_) (fun (c_2 : ¬ mIn kd 0 17 = 0) => ?_)
    · skip
      refine lv_iconst (v := (-1)) hx hb dX7_step_34 (by decide) ?_
      exact g_iret hx hb hr hlocks hP hS dX7_step_35 (by unfold mpStep; rw [if_neg c_1, if_pos c_2] <;> rfl)
    · skip
      have ix_kd : vp_in kd 18 := (mIn_in (by decide) c_2)
      refine lv_iload_n hx hb dX7_step_22 rfl (lv_at hl 3 rfl) ?_
      refine lv_iconst (v := 0) hx hb dX7_step_23 (by decide) ?_
      refine lv_iload_n hx hb dX7_step_24 rfl (lv_at hl 2 rfl) ?_
      refine g_top (y := nI (ci kd)) (ci_eq ix_kd (by decide)) ?_
      refine g_callS (As := [.int (nI (ci kd))]) (rest := [.int 0, .int n]) ⟨hx, hb, hml, hown, hts⟩ (m_most l (ci kd) (ci_lt ix_kd)) (va_cwS 1 hts gX7_step_X7_most rfl rfl rfl (by decide +kernel) ⟨by decide, by decide⟩) rfl rfl hl.1 (Nat.le_of_ble_eq_true rfl) dX7_step_25 ⟨Nat.zero_le _, Nat.zero_le _⟩ ?_
      refine g_callS (As := [.int n, .int 0, .int (mMost (ci kd))]) (rest := []) ⟨hx, hb, hml, hown, hts⟩ (m_in l n 0 (mMost (ci kd))) (va_cwS 3 hts gX7_step_X7_in rfl rfl rfl (by decide +kernel) ⟨by decide, by decide⟩) rfl rfl hl.1 (Nat.le_of_ble_eq_true rfl) dX7_step_28 ⟨Nat.zero_le _, Nat.zero_le _⟩ ?_
      refine lv_if_ne (tgt := 36) hx hb dX7_step_31 (by decide) (fun (c_3 : ¬ mIn n 0 (mMost (ci kd)) = 0) => ?_) (fun (c_3 : mIn n 0 (mMost (ci kd)) = 0) => ?_)
      · skip
        refine lv_aload_n hx hb dX7_step_36 rfl (lv_at hl 0 rfl) ?_
        refine mw_get (ci := 6) (C := RX7) (T := TX7) (N := 28) (v := .ref (ad 4)) hx hb hts hinX7 hown hK hP 0 (by decide) mF_0 rfl 4 (by decide) kf20 (fun _ h9 => h9) rfl dX7_step_37 ?_
        refine lv_iload_n hx hb dX7_step_40 rfl (lv_at hl 1 rfl) ?_
        refine mw_ild hx hb hK hP 4 (by decide) 0 mF_4 rfl (ci b) (ci_lt ix_b) (by decide) (ci_eq ix_b (by decide)) dX7_step_41 ?_
        refine lv_if_ne (tgt := 48) hx hb dX7_step_42 (by decide) (fun (c_4 : ¬ σ 4 (ci b) = 0) => ?_) (fun (c_4 : σ 4 (ci b) = 0) => ?_)
        · skip
          have hA := m_at hR ix_b
          have hA1 := m_at1 hR ix_b c_4
          have hb4 := ci_lt ix_b
          have hq9 : (6 * (ci b) + ((ci (σ 4 (ci b))) - 1)) < 24 := by omega
          have hB9 := m_sc hR hq9
          refine lv_bipush (v := 6) hx hb dX7_step_48 (by decide) ?_
          refine lv_iload_n hx hb dX7_step_50 rfl (lv_at hl 1 rfl) ?_
          refine lv_imul hx hb dX7_step_51 ?_
          refine lv_aload_n hx hb dX7_step_52 rfl (lv_at hl 0 rfl) ?_
          refine mw_get (ci := 6) (C := RX7) (T := TX7) (N := 28) (v := .ref (ad 4)) hx hb hts hinX7 hown hK hP 0 (by decide) mF_0 rfl 4 (by decide) kf20 (fun _ h9 => h9) rfl dX7_step_53 ?_
          refine lv_iload_n hx hb dX7_step_56 rfl (lv_at hl 1 rfl) ?_
          refine mw_ild hx hb hK hP 4 (by decide) 0 mF_4 rfl (ci b) (ci_lt ix_b) (by decide) (ci_eq ix_b (by decide)) dX7_step_57 ?_
          refine lv_iadd hx hb dX7_step_58 ?_
          refine lv_iconst (v := 1) hx hb dX7_step_59 (by decide) ?_
          refine lv_isub hx hb dX7_step_60 ?_
          refine g_top (y := nI (6 * (ci b) + ((ci (σ 4 (ci b))) - 1))) hA1.2 ?_
          refine lv_istore (lv' := [(4, .int (nI (6 * (ci b) + ((ci (σ 4 (ci b))) - 1)))), (0, .ref (ad 0)), (1, .int b), (2, .int kd), (3, .int n)]) hx hb dX7_step_61 hl (by decide) rfl (fun ls hl => ?_)
          refine lv_aload_n hx hb dX7_step_63 rfl (lv_at hl 1 rfl) ?_
          refine mw_get (ci := 6) (C := RX7) (T := TX7) (N := 28) (v := .ref (ad 6)) hx hb hts hinX7 hown hK hP 0 (by decide) mF_0 rfl 6 (by decide) kf26 (fun _ h9 => h9) rfl dX7_step_64 ?_
          refine lv_iload hx hb dX7_step_67 (lv_at hl 0 rfl) ?_
          refine mw_ild hx hb hK hP 6 (by decide) 0 mF_6 rfl (6 * (ci b) + ((ci (σ 4 (ci b))) - 1)) (by omega) (by decide) rfl dX7_step_69 ?_
          refine lv_bipush (v := 8) hx hb dX7_step_70 (by decide) ?_
          refine lv_icmp_ne (tgt := 78) hx hb dX7_step_72 (by decide) (fun (c_5 : ¬ σ 6 (6 * (ci b) + ((ci (σ 4 (ci b))) - 1)) = 8) => ?_) (fun (c_5 : σ 6 (6 * (ci b) + ((ci (σ 4 (ci b))) - 1)) = 8) => ?_)
          · skip
            have h8 := m_ne8 hR hq9 c_5
            refine lv_aload_n hx hb dX7_step_78 rfl (lv_at hl 1 rfl) ?_
            refine mw_get (ci := 6) (C := RX7) (T := TX7) (N := 28) (v := .ref (ad 7)) hx hb hts hinX7 hown hK hP 0 (by decide) mF_0 rfl 7 (by decide) kf29 (fun _ h9 => h9) rfl dX7_step_79 ?_
            refine lv_bipush (v := 8) hx hb dX7_step_82 (by decide) ?_
            refine lv_iload hx hb dX7_step_84 (lv_at hl 0 rfl) ?_
            refine lv_imul hx hb dX7_step_86 ?_
            refine lv_aload_n hx hb dX7_step_87 rfl (lv_at hl 1 rfl) ?_
            refine mw_get (ci := 6) (C := RX7) (T := TX7) (N := 28) (v := .ref (ad 6)) hx hb hts hinX7 hown hK hP 0 (by decide) mF_0 rfl 6 (by decide) kf26 (fun _ h9 => h9) rfl dX7_step_88 ?_
            refine lv_iload hx hb dX7_step_91 (lv_at hl 0 rfl) ?_
            refine mw_ild hx hb hK hP 6 (by decide) 0 mF_6 rfl (6 * (ci b) + ((ci (σ 4 (ci b))) - 1)) (by omega) (by decide) rfl dX7_step_93 ?_
            refine lv_iadd hx hb dX7_step_94 ?_
            refine g_top (y := nI (8 * (6 * (ci b) + ((ci (σ 4 (ci b))) - 1)) + (ci (σ 6 (6 * (ci b) + ((ci (σ 4 (ci b))) - 1)))))) hB9.2.2 ?_
            refine lv_iload_n hx hb dX7_step_95 rfl (lv_at hl 3 rfl) ?_
            refine mw_ist hx hb hK hj hP hS 7 (by decide) 0 mF_7 rfl (8 * (6 * (ci b) + ((ci (σ 4 (ci b))) - 1)) + (ci (σ 6 (6 * (ci b) + ((ci (σ 4 (ci b))) - 1))))) (by omega) (by decide) rfl dX7_step_96 (fun H locs hP hS => ?_)
            refine lv_aload_n hx hb dX7_step_97 rfl (lv_at hl 1 rfl) ?_
            refine mw_get (ci := 6) (C := RX7) (T := TX7) (N := 28) (v := .ref (ad 8)) hx hb hts hinX7 hown hK hP 0 (by decide) mF_0 rfl 8 (by decide) kf32 (fun _ h9 => h9) rfl dX7_step_98 ?_
            refine lv_bipush (v := 8) hx hb dX7_step_101 (by decide) ?_
            refine lv_iload hx hb dX7_step_103 (lv_at hl 0 rfl) ?_
            refine lv_imul hx hb dX7_step_105 ?_
            refine lv_aload_n hx hb dX7_step_106 rfl (lv_at hl 1 rfl) ?_
            refine mw_get (ci := 6) (C := RX7) (T := TX7) (N := 28) (v := .ref (ad 6)) hx hb hts hinX7 hown hK hP 0 (by decide) mF_0 rfl 6 (by decide) kf26 (fun _ h9 => h9) rfl dX7_step_107 ?_
            refine lv_iload hx hb dX7_step_110 (lv_at hl 0 rfl) ?_
            refine mw_ild hx hb hK hP 6 (by decide) 0 mF_6 rfl (6 * (ci b) + ((ci (σ 4 (ci b))) - 1)) (by omega) (by decide) rfl dX7_step_112 ?_
            refine lv_iadd hx hb dX7_step_113 ?_
            refine g_top (y := nI (8 * (6 * (ci b) + ((ci (σ 4 (ci b))) - 1)) + (ci (σ 6 (6 * (ci b) + ((ci (σ 4 (ci b))) - 1)))))) hB9.2.2 ?_
            refine lv_iload_n hx hb dX7_step_114 rfl (lv_at hl 4 rfl) ?_
            refine mw_ist hx hb hK hj hP hS 8 (by decide) 0 mF_8 rfl (8 * (6 * (ci b) + ((ci (σ 4 (ci b))) - 1)) + (ci (σ 6 (6 * (ci b) + ((ci (σ 4 (ci b))) - 1))))) (by omega) (by decide) rfl dX7_step_115 (fun H locs hP hS => ?_)
            refine lv_aload_n hx hb dX7_step_116 rfl (lv_at hl 1 rfl) ?_
            refine mw_get (ci := 6) (C := RX7) (T := TX7) (N := 28) (v := .ref (ad 6)) hx hb hts hinX7 hown hK hP 0 (by decide) mF_0 rfl 6 (by decide) kf26 (fun _ h9 => h9) rfl dX7_step_117 ?_
            refine lv_iload hx hb dX7_step_120 (lv_at hl 0 rfl) ?_
            refine lv_dup2_11 hx hb dX7_step_122 rfl rfl ?_
            refine mw_ild hx hb hK hP 6 (by decide) 0 mF_6 rfl (6 * (ci b) + ((ci (σ 4 (ci b))) - 1)) (by omega) (by decide) rfl dX7_step_123 ?_
            refine lv_iconst (v := 1) hx hb dX7_step_124 (by decide) ?_
            refine lv_iadd hx hb dX7_step_125 ?_
            refine mw_ist hx hb hK hj hP hS 6 (by decide) 0 mF_6 rfl (6 * (ci b) + ((ci (σ 4 (ci b))) - 1)) (by omega) (by decide) rfl dX7_step_126 (fun H locs hP hS => ?_)
            refine lv_aload_n hx hb dX7_step_127 rfl (lv_at hl 1 rfl) ?_
            refine mw_get (ci := 6) (C := RX7) (T := TX7) (N := 28) (v := .ref (ad 6)) hx hb hts hinX7 hown hK hP 0 (by decide) mF_0 rfl 6 (by decide) kf26 (fun _ h9 => h9) rfl dX7_step_128 ?_
            refine lv_iload hx hb dX7_step_131 (lv_at hl 0 rfl) ?_
            refine mw_ild hx hb hK hP 6 (by decide) 0 mF_6 rfl (6 * (ci b) + ((ci (σ 4 (ci b))) - 1)) (by omega) (by decide) rfl dX7_step_133 ?_
            refine lv_iconst (v := 1) hx hb dX7_step_134 (by decide) ?_
            refine lv_isub hx hb dX7_step_135 ?_
            exact g_iret hx hb hr hlocks hP hS dX7_step_136 (by unfold mpStep; rw [if_neg c_1, if_neg c_2, if_neg c_3, if_neg c_4, if_neg c_5]; rw [mset_self]; rfl)
          · skip
            refine lv_bipush (v := (-2)) hx hb dX7_step_75 (by decide) ?_
            exact g_iret hx hb hr hlocks hP hS dX7_step_77 (by unfold mpStep; rw [if_neg c_1, if_neg c_2, if_neg c_3, if_neg c_4, if_pos c_5] <;> rfl)
        · skip
          refine lv_bipush (v := (-3)) hx hb dX7_step_45 (by decide) ?_
          exact g_iret hx hb hr hlocks hP hS dX7_step_47 (by unfold mpStep; rw [if_neg c_1, if_neg c_2, if_neg c_3, if_pos c_4] <;> rfl)
      · skip
        refine lv_iconst (v := (-1)) hx hb dX7_step_34 (by decide) ?_
        exact g_iret hx hb hr hlocks hP hS dX7_step_35 (by unfold mpStep; rw [if_neg c_1, if_neg c_2, if_pos c_3] <;> rfl)

def mpTool (σ : Mem) (t d : Int32) : Int32 × Mem :=
  if mIn t 0 5 = 0 then ((-1), mset σ 0 0 0)
  else if mIn d (-1) 1 = 0 then ((-1), mset σ 0 0 0)
  else if 0 ≤ σ 9 (ci t) then (σ 9 (ci t), mset (mset (mset (mset σ 0 0 0) 9 (ci t) d) 10 (ci t) 0) 11 (ci t) 0)
  else ((-4), mset (mset (mset (mset σ 0 0 0) 9 (ci t) d) 10 (ci t) 0) 11 (ci t) 0)
set_option maxHeartbeats 4000000 in
set_option maxRecDepth 100000 in
theorem m_tool (l : Launch) (D : va_G) (cy : Nat → ClassId) (ad wy : Nat → Nat) (mt : Nat) (hj : mJ 18 ad) (σ : Mem) (t d : Int32)  : Met l yX7_tool wsX7_tool ({ frames := 1, cells := 0, slots := 0, locals := 22 }) (va_Pc [.ref (ad 0), .int t, .int d] (gPre 18 ad (mF ad cy) D cy wy mt σ)) (gQ 18 ad (mF ad cy) D (some (.int (mpTool σ t d).1)) (mpTool σ t d).2) 0 0 (mA 18 ad) := by
  refine g_met (cc := cX7_tool) (maxL := 4) (ret := (some .int)) (by decide) rfl (Nat.le_of_ble_eq_true rfl) ?_
  intro p e s m below meth c S hr hlocks h0 ls hl
  obtain ⟨hx, hb, hml, hown, hts⟩ := S
  have hP := h0.1
  have hK := h0.2.1
  have hS : va_S (mA 18 ad) s.heap s.heap [] := va_S.rf
  have hl : lv_has ls 4 [(0, .ref (ad 0)), (1, .int t), (2, .int d)] := hl
  have kf72 : (Cond.fieldLink RX7 72 "BenchRunsModel" "thrown" "I").before (#[.ref (ad 0), .int t, .int d] : Array Value) s = true := hts _ (by decide +kernel)
  have hinX7 : ∀ w ∈ u_ws RX7 TX7 28, w ∈ wsX7_tool := by decide +kernel
  have kf35 : (Cond.fieldLink RX7 35 "BenchRunsModel" "sort" "[I").before (#[.ref (ad 0), .int t, .int d] : Array Value) s = true := hts _ (by decide +kernel)
  have kf38 : (Cond.fieldLink RX7 38 "BenchRunsModel" "uses" "[I").before (#[.ref (ad 0), .int t, .int d] : Array Value) s = true := hts _ (by decide +kernel)
  have kf41 : (Cond.fieldLink RX7 41 "BenchRunsModel" "grips" "[I").before (#[.ref (ad 0), .int t, .int d] : Array Value) s = true := hts _ (by decide +kernel)
  refine lv_aload_n hx hb dX7_tool_0 rfl (lv_at hl 0 rfl) ?_
  refine lv_iconst (v := 0) hx hb dX7_tool_1 (by decide) ?_
  refine mw_put (ci := 6) (C := RX7) (T := TX7) (N := 28) (v := 0) (ty := .int) hx hb hts hinX7 tyX7 tyX7_ok nmX7 hown hK hj hP hS 0 (by decide) mF_0 rfl 0 (by decide) kf72 (fun _ h9 => h9) rfl (by decide +kernel) rfl rfl (Nat.le_of_ble_eq_true rfl) rfl dX7_tool_2 (fun H locs hP hS => ?_)
  refine lv_iload_n hx hb dX7_tool_5 rfl (lv_at hl 1 rfl) ?_
  refine lv_iconst (v := 0) hx hb dX7_tool_6 (by decide) ?_
  refine lv_iconst (v := 5) hx hb dX7_tool_7 (by decide) ?_
  refine g_callS (As := [.int t, .int 0, .int 5]) (rest := []) ⟨hx, hb, hml, hown, hts⟩ (m_in l t 0 5) (va_cwS 3 hts gX7_tool_X7_in rfl rfl rfl (by decide +kernel) ⟨by decide, by decide⟩) rfl rfl hl.1 (Nat.le_of_ble_eq_true rfl) dX7_tool_8 ⟨Nat.zero_le _, Nat.zero_le _⟩ ?_
  refine lv_if_eq (tgt := 23) hx hb dX7_tool_11 (by decide) (fun (c_1 : mIn t 0 5 = 0) => ?_) (fun (c_1 : ¬ mIn t 0 5 = 0) => ?_)
  · skip
    refine lv_iconst (v := (-1)) hx hb dX7_tool_23 (by decide) ?_
    exact g_iret hx hb hr hlocks hP hS dX7_tool_24 (by unfold mpTool; rw [if_pos c_1] <;> rfl)
  · skip
    have ix_t : vp_in t 6 := (mIn_in (by decide) c_1)
    refine lv_iload_n hx hb dX7_tool_14 rfl (lv_at hl 2 rfl) ?_
    refine lv_iconst (v := (-1)) hx hb dX7_tool_15 (by decide) ?_
    refine lv_iconst (v := 1) hx hb dX7_tool_16 (by decide) ?_
    refine g_callS (As := [.int d, .int (-1), .int 1]) (rest := []) ⟨hx, hb, hml, hown, hts⟩ (m_in l d (-1) 1) (va_cwS 3 hts gX7_tool_X7_in rfl rfl rfl (by decide +kernel) ⟨by decide, by decide⟩) rfl rfl hl.1 (Nat.le_of_ble_eq_true rfl) dX7_tool_17 ⟨Nat.zero_le _, Nat.zero_le _⟩ ?_
    refine lv_if_ne (tgt := 25) hx hb dX7_tool_20 (by decide) (fun (c_2 : ¬ mIn d (-1) 1 = 0) => ?_) (fun (c_2 : mIn d (-1) 1 = 0) => ?_)
    · skip
      refine lv_aload_n hx hb dX7_tool_25 rfl (lv_at hl 0 rfl) ?_
      refine mw_get (ci := 6) (C := RX7) (T := TX7) (N := 28) (v := .ref (ad 9)) hx hb hts hinX7 hown hK hP 0 (by decide) mF_0 rfl 9 (by decide) kf35 (fun _ h9 => h9) rfl dX7_tool_26 ?_
      refine lv_iload_n hx hb dX7_tool_29 rfl (lv_at hl 1 rfl) ?_
      refine mw_ild hx hb hK hP 9 (by decide) 0 mF_9 rfl (ci t) (ci_lt ix_t) (by decide) (ci_eq ix_t (by decide)) dX7_tool_30 ?_
      refine lv_if_ge (tgt := 39) hx hb dX7_tool_31 (by decide) (fun (c_3 : 0 ≤ σ 9 (ci t)) => ?_) (fun (c_3 : ¬ 0 ≤ σ 9 (ci t)) => ?_)
      · skip
        refine lv_aload_n hx hb dX7_tool_39 rfl (lv_at hl 0 rfl) ?_
        refine mw_get (ci := 6) (C := RX7) (T := TX7) (N := 28) (v := .ref (ad 9)) hx hb hts hinX7 hown hK hP 0 (by decide) mF_0 rfl 9 (by decide) kf35 (fun _ h9 => h9) rfl dX7_tool_40 ?_
        refine lv_iload_n hx hb dX7_tool_43 rfl (lv_at hl 1 rfl) ?_
        refine mw_ild hx hb hK hP 9 (by decide) 0 mF_9 rfl (ci t) (ci_lt ix_t) (by decide) (ci_eq ix_t (by decide)) dX7_tool_44 ?_
        refine lv_istore_n (lv' := [(3, .int (σ 9 (ci t))), (0, .ref (ad 0)), (1, .int t), (2, .int d)]) hx hb dX7_tool_45 rfl hl (by decide) rfl (fun ls hl => ?_)
        refine lv_aload_n hx hb dX7_tool_46 rfl (lv_at hl 1 rfl) ?_
        refine mw_get (ci := 6) (C := RX7) (T := TX7) (N := 28) (v := .ref (ad 9)) hx hb hts hinX7 hown hK hP 0 (by decide) mF_0 rfl 9 (by decide) kf35 (fun _ h9 => h9) rfl dX7_tool_47 ?_
        refine lv_iload_n hx hb dX7_tool_50 rfl (lv_at hl 2 rfl) ?_
        refine lv_iload_n hx hb dX7_tool_51 rfl (lv_at hl 3 rfl) ?_
        refine mw_ist hx hb hK hj hP hS 9 (by decide) 0 mF_9 rfl (ci t) (ci_lt ix_t) (by decide) (ci_eq ix_t (by decide)) dX7_tool_52 (fun H locs hP hS => ?_)
        refine lv_aload_n hx hb dX7_tool_53 rfl (lv_at hl 1 rfl) ?_
        refine mw_get (ci := 6) (C := RX7) (T := TX7) (N := 28) (v := .ref (ad 10)) hx hb hts hinX7 hown hK hP 0 (by decide) mF_0 rfl 10 (by decide) kf38 (fun _ h9 => h9) rfl dX7_tool_54 ?_
        refine lv_iload_n hx hb dX7_tool_57 rfl (lv_at hl 2 rfl) ?_
        refine lv_iconst (v := 0) hx hb dX7_tool_58 (by decide) ?_
        refine mw_ist hx hb hK hj hP hS 10 (by decide) 0 mF_10 rfl (ci t) (ci_lt ix_t) (by decide) (ci_eq ix_t (by decide)) dX7_tool_59 (fun H locs hP hS => ?_)
        refine lv_aload_n hx hb dX7_tool_60 rfl (lv_at hl 1 rfl) ?_
        refine mw_get (ci := 6) (C := RX7) (T := TX7) (N := 28) (v := .ref (ad 11)) hx hb hts hinX7 hown hK hP 0 (by decide) mF_0 rfl 11 (by decide) kf41 (fun _ h9 => h9) rfl dX7_tool_61 ?_
        refine lv_iload_n hx hb dX7_tool_64 rfl (lv_at hl 2 rfl) ?_
        refine lv_iconst (v := 0) hx hb dX7_tool_65 (by decide) ?_
        refine mw_ist hx hb hK hj hP hS 11 (by decide) 0 mF_11 rfl (ci t) (ci_lt ix_t) (by decide) (ci_eq ix_t (by decide)) dX7_tool_66 (fun H locs hP hS => ?_)
        refine lv_iload_n hx hb dX7_tool_67 rfl (lv_at hl 0 rfl) ?_
        exact g_iret hx hb hr hlocks hP hS dX7_tool_68 (by unfold mpTool; rw [if_neg c_1, if_neg c_2, if_pos c_3] <;> rfl)
      · skip
        refine lv_bipush (v := (-4)) hx hb dX7_tool_34 (by decide) ?_
        refine lv_goto (tgt := 45) hx hb dX7_tool_36 (by decide) ?_
        refine lv_istore_n (lv' := [(3, .int (-4)), (0, .ref (ad 0)), (1, .int t), (2, .int d)]) hx hb dX7_tool_45 rfl hl (by decide) rfl (fun ls hl => ?_)
        refine lv_aload_n hx hb dX7_tool_46 rfl (lv_at hl 1 rfl) ?_
        refine mw_get (ci := 6) (C := RX7) (T := TX7) (N := 28) (v := .ref (ad 9)) hx hb hts hinX7 hown hK hP 0 (by decide) mF_0 rfl 9 (by decide) kf35 (fun _ h9 => h9) rfl dX7_tool_47 ?_
        refine lv_iload_n hx hb dX7_tool_50 rfl (lv_at hl 2 rfl) ?_
        refine lv_iload_n hx hb dX7_tool_51 rfl (lv_at hl 3 rfl) ?_
        refine mw_ist hx hb hK hj hP hS 9 (by decide) 0 mF_9 rfl (ci t) (ci_lt ix_t) (by decide) (ci_eq ix_t (by decide)) dX7_tool_52 (fun H locs hP hS => ?_)
        refine lv_aload_n hx hb dX7_tool_53 rfl (lv_at hl 1 rfl) ?_
        refine mw_get (ci := 6) (C := RX7) (T := TX7) (N := 28) (v := .ref (ad 10)) hx hb hts hinX7 hown hK hP 0 (by decide) mF_0 rfl 10 (by decide) kf38 (fun _ h9 => h9) rfl dX7_tool_54 ?_
        refine lv_iload_n hx hb dX7_tool_57 rfl (lv_at hl 2 rfl) ?_
        refine lv_iconst (v := 0) hx hb dX7_tool_58 (by decide) ?_
        refine mw_ist hx hb hK hj hP hS 10 (by decide) 0 mF_10 rfl (ci t) (ci_lt ix_t) (by decide) (ci_eq ix_t (by decide)) dX7_tool_59 (fun H locs hP hS => ?_)
        refine lv_aload_n hx hb dX7_tool_60 rfl (lv_at hl 1 rfl) ?_
        refine mw_get (ci := 6) (C := RX7) (T := TX7) (N := 28) (v := .ref (ad 11)) hx hb hts hinX7 hown hK hP 0 (by decide) mF_0 rfl 11 (by decide) kf41 (fun _ h9 => h9) rfl dX7_tool_61 ?_
        refine lv_iload_n hx hb dX7_tool_64 rfl (lv_at hl 2 rfl) ?_
        refine lv_iconst (v := 0) hx hb dX7_tool_65 (by decide) ?_
        refine mw_ist hx hb hK hj hP hS 11 (by decide) 0 mF_11 rfl (ci t) (ci_lt ix_t) (by decide) (ci_eq ix_t (by decide)) dX7_tool_66 (fun H locs hP hS => ?_)
        refine lv_iload_n hx hb dX7_tool_67 rfl (lv_at hl 0 rfl) ?_
        exact g_iret hx hb hr hlocks hP hS dX7_tool_68 (by unfold mpTool; rw [if_neg c_1, if_neg c_2, if_neg c_3] <;> rfl)
    · skip
      refine lv_iconst (v := (-1)) hx hb dX7_tool_23 (by decide) ?_
      exact g_iret hx hb hr hlocks hP hS dX7_tool_24 (by unfold mpTool; rw [if_neg c_1, if_pos c_2] <;> rfl)

def mpLay (σ : Mem) (k d : Int32) : Int32 × Mem :=
  if mIn k 0 3 = 0 then ((-1), mset σ 0 0 0)
  else if mIn d 0 99 = 0 then ((-1), mset σ 0 0 0)
  else (σ 13 (ci k), mset (mset σ 0 0 0) 13 (ci k) d)
set_option maxHeartbeats 4000000 in
set_option maxRecDepth 100000 in
theorem m_lay (l : Launch) (D : va_G) (cy : Nat → ClassId) (ad wy : Nat → Nat) (mt : Nat) (hj : mJ 18 ad) (σ : Mem) (k d : Int32)  : Met l yX7_lay wsX7_lay ({ frames := 1, cells := 0, slots := 0, locals := 22 }) (va_Pc [.ref (ad 0), .int k, .int d] (gPre 18 ad (mF ad cy) D cy wy mt σ)) (gQ 18 ad (mF ad cy) D (some (.int (mpLay σ k d).1)) (mpLay σ k d).2) 0 0 (mA 18 ad) := by
  refine g_met (cc := cX7_lay) (maxL := 4) (ret := (some .int)) (by decide) rfl (Nat.le_of_ble_eq_true rfl) ?_
  intro p e s m below meth c S hr hlocks h0 ls hl
  obtain ⟨hx, hb, hml, hown, hts⟩ := S
  have hP := h0.1
  have hK := h0.2.1
  have hS : va_S (mA 18 ad) s.heap s.heap [] := va_S.rf
  have hl : lv_has ls 4 [(0, .ref (ad 0)), (1, .int k), (2, .int d)] := hl
  have kf72 : (Cond.fieldLink RX7 72 "BenchRunsModel" "thrown" "I").before (#[.ref (ad 0), .int k, .int d] : Array Value) s = true := hts _ (by decide +kernel)
  have hinX7 : ∀ w ∈ u_ws RX7 TX7 28, w ∈ wsX7_lay := by decide +kernel
  have kf57 : (Cond.fieldLink RX7 57 "BenchRunsModel" "laid" "[I").before (#[.ref (ad 0), .int k, .int d] : Array Value) s = true := hts _ (by decide +kernel)
  refine lv_aload_n hx hb dX7_lay_0 rfl (lv_at hl 0 rfl) ?_
  refine lv_iconst (v := 0) hx hb dX7_lay_1 (by decide) ?_
  refine mw_put (ci := 6) (C := RX7) (T := TX7) (N := 28) (v := 0) (ty := .int) hx hb hts hinX7 tyX7 tyX7_ok nmX7 hown hK hj hP hS 0 (by decide) mF_0 rfl 0 (by decide) kf72 (fun _ h9 => h9) rfl (by decide +kernel) rfl rfl (Nat.le_of_ble_eq_true rfl) rfl dX7_lay_2 (fun H locs hP hS => ?_)
  refine lv_iload_n hx hb dX7_lay_5 rfl (lv_at hl 1 rfl) ?_
  refine lv_iconst (v := 0) hx hb dX7_lay_6 (by decide) ?_
  refine lv_iconst (v := 3) hx hb dX7_lay_7 (by decide) ?_
  refine g_callS (As := [.int k, .int 0, .int 3]) (rest := []) ⟨hx, hb, hml, hown, hts⟩ (m_in l k 0 3) (va_cwS 3 hts gX7_lay_X7_in rfl rfl rfl (by decide +kernel) ⟨by decide, by decide⟩) rfl rfl hl.1 (Nat.le_of_ble_eq_true rfl) dX7_lay_8 ⟨Nat.zero_le _, Nat.zero_le _⟩ ?_
  refine lv_if_eq (tgt := 24) hx hb dX7_lay_11 (by decide) (fun (c_1 : mIn k 0 3 = 0) => ?_) (fun (c_1 : ¬ mIn k 0 3 = 0) => ?_)
  · skip
    refine lv_iconst (v := (-1)) hx hb dX7_lay_24 (by decide) ?_
    exact g_iret hx hb hr hlocks hP hS dX7_lay_25 (by unfold mpLay; rw [if_pos c_1] <;> rfl)
  · skip
    have ix_k : vp_in k 4 := (mIn_in (by decide) c_1)
    refine lv_iload_n hx hb dX7_lay_14 rfl (lv_at hl 2 rfl) ?_
    refine lv_iconst (v := 0) hx hb dX7_lay_15 (by decide) ?_
    refine lv_bipush (v := 99) hx hb dX7_lay_16 (by decide) ?_
    refine g_callS (As := [.int d, .int 0, .int 99]) (rest := []) ⟨hx, hb, hml, hown, hts⟩ (m_in l d 0 99) (va_cwS 3 hts gX7_lay_X7_in rfl rfl rfl (by decide +kernel) ⟨by decide, by decide⟩) rfl rfl hl.1 (Nat.le_of_ble_eq_true rfl) dX7_lay_18 ⟨Nat.zero_le _, Nat.zero_le _⟩ ?_
    refine lv_if_ne (tgt := 26) hx hb dX7_lay_21 (by decide) (fun (c_2 : ¬ mIn d 0 99 = 0) => ?_) (fun (c_2 : mIn d 0 99 = 0) => ?_)
    · skip
      refine lv_aload_n hx hb dX7_lay_26 rfl (lv_at hl 0 rfl) ?_
      refine mw_get (ci := 6) (C := RX7) (T := TX7) (N := 28) (v := .ref (ad 13)) hx hb hts hinX7 hown hK hP 0 (by decide) mF_0 rfl 18 (by decide) kf57 (fun _ h9 => h9) rfl dX7_lay_27 ?_
      refine lv_iload_n hx hb dX7_lay_30 rfl (lv_at hl 1 rfl) ?_
      refine mw_ild hx hb hK hP 13 (by decide) 0 mF_13 rfl (ci k) (ci_lt ix_k) (by decide) (ci_eq ix_k (by decide)) dX7_lay_31 ?_
      refine lv_istore_n (lv' := [(3, .int (σ 13 (ci k))), (0, .ref (ad 0)), (1, .int k), (2, .int d)]) hx hb dX7_lay_32 rfl hl (by decide) rfl (fun ls hl => ?_)
      refine lv_aload_n hx hb dX7_lay_33 rfl (lv_at hl 1 rfl) ?_
      refine mw_get (ci := 6) (C := RX7) (T := TX7) (N := 28) (v := .ref (ad 13)) hx hb hts hinX7 hown hK hP 0 (by decide) mF_0 rfl 18 (by decide) kf57 (fun _ h9 => h9) rfl dX7_lay_34 ?_
      refine lv_iload_n hx hb dX7_lay_37 rfl (lv_at hl 2 rfl) ?_
      refine lv_iload_n hx hb dX7_lay_38 rfl (lv_at hl 3 rfl) ?_
      refine mw_ist hx hb hK hj hP hS 13 (by decide) 0 mF_13 rfl (ci k) (ci_lt ix_k) (by decide) (ci_eq ix_k (by decide)) dX7_lay_39 (fun H locs hP hS => ?_)
      refine lv_iload_n hx hb dX7_lay_40 rfl (lv_at hl 0 rfl) ?_
      exact g_iret hx hb hr hlocks hP hS dX7_lay_41 (by unfold mpLay; rw [if_neg c_1, if_neg c_2] <;> rfl)
    · skip
      refine lv_iconst (v := (-1)) hx hb dX7_lay_24 (by decide) ?_
      exact g_iret hx hb hr hlocks hP hS dX7_lay_25 (by unfold mpLay; rw [if_neg c_1, if_pos c_2] <;> rfl)

def mpAbout (σ : Mem) (t d : Int32) : Int32 × Mem :=
  if mIn t 0 5 = 0 then ((-1), mset σ 0 0 0)
  else if mIn d 0 2 = 0 then ((-1), mset σ 0 0 0)
  else if 0 ≤ σ 9 (ci t) then (if d = 0 then (σ 10 (ci t), mset σ 0 0 0)
    else if d = 1 then (σ 11 (ci t), mset σ 0 0 0)
    else (σ 9 (ci t), mset σ 0 0 0))
  else ((-3), mset σ 0 0 0)
set_option maxHeartbeats 4000000 in
set_option maxRecDepth 100000 in
theorem m_about (l : Launch) (D : va_G) (cy : Nat → ClassId) (ad wy : Nat → Nat) (mt : Nat) (hj : mJ 18 ad) (σ : Mem) (t d : Int32)  : Met l yX7_about wsX7_about ({ frames := 1, cells := 0, slots := 0, locals := 22 }) (va_Pc [.ref (ad 0), .int t, .int d] (gPre 18 ad (mF ad cy) D cy wy mt σ)) (gQ 18 ad (mF ad cy) D (some (.int (mpAbout σ t d).1)) (mpAbout σ t d).2) 0 0 (mA 18 ad) := by
  refine g_met (cc := cX7_about) (maxL := 3) (ret := (some .int)) (by decide) rfl (Nat.le_of_ble_eq_true rfl) ?_
  intro p e s m below meth c S hr hlocks h0 ls hl
  obtain ⟨hx, hb, hml, hown, hts⟩ := S
  have hP := h0.1
  have hK := h0.2.1
  have hS : va_S (mA 18 ad) s.heap s.heap [] := va_S.rf
  have hl : lv_has ls 3 [(0, .ref (ad 0)), (1, .int t), (2, .int d)] := hl
  have kf72 : (Cond.fieldLink RX7 72 "BenchRunsModel" "thrown" "I").before (#[.ref (ad 0), .int t, .int d] : Array Value) s = true := hts _ (by decide +kernel)
  have hinX7 : ∀ w ∈ u_ws RX7 TX7 28, w ∈ wsX7_about := by decide +kernel
  have kf35 : (Cond.fieldLink RX7 35 "BenchRunsModel" "sort" "[I").before (#[.ref (ad 0), .int t, .int d] : Array Value) s = true := hts _ (by decide +kernel)
  have kf41 : (Cond.fieldLink RX7 41 "BenchRunsModel" "grips" "[I").before (#[.ref (ad 0), .int t, .int d] : Array Value) s = true := hts _ (by decide +kernel)
  have kf38 : (Cond.fieldLink RX7 38 "BenchRunsModel" "uses" "[I").before (#[.ref (ad 0), .int t, .int d] : Array Value) s = true := hts _ (by decide +kernel)
  refine lv_aload_n hx hb dX7_about_0 rfl (lv_at hl 0 rfl) ?_
  refine lv_iconst (v := 0) hx hb dX7_about_1 (by decide) ?_
  refine mw_put (ci := 6) (C := RX7) (T := TX7) (N := 28) (v := 0) (ty := .int) hx hb hts hinX7 tyX7 tyX7_ok nmX7 hown hK hj hP hS 0 (by decide) mF_0 rfl 0 (by decide) kf72 (fun _ h9 => h9) rfl (by decide +kernel) rfl rfl (Nat.le_of_ble_eq_true rfl) rfl dX7_about_2 (fun H locs hP hS => ?_)
  refine lv_iload_n hx hb dX7_about_5 rfl (lv_at hl 1 rfl) ?_
  refine lv_iconst (v := 0) hx hb dX7_about_6 (by decide) ?_
  refine lv_iconst (v := 5) hx hb dX7_about_7 (by decide) ?_
  refine g_callS (As := [.int t, .int 0, .int 5]) (rest := []) ⟨hx, hb, hml, hown, hts⟩ (m_in l t 0 5) (va_cwS 3 hts gX7_about_X7_in rfl rfl rfl (by decide +kernel) ⟨by decide, by decide⟩) rfl rfl hl.1 (Nat.le_of_ble_eq_true rfl) dX7_about_8 ⟨Nat.zero_le _, Nat.zero_le _⟩ ?_
  refine lv_if_eq (tgt := 23) hx hb dX7_about_11 (by decide) (fun (c_1 : mIn t 0 5 = 0) => ?_) (fun (c_1 : ¬ mIn t 0 5 = 0) => ?_)
  · skip
    refine lv_iconst (v := (-1)) hx hb dX7_about_23 (by decide) ?_
    exact g_iret hx hb hr hlocks hP hS dX7_about_24 (by unfold mpAbout; rw [if_pos c_1] <;> rfl)
  · skip
    have ix_t : vp_in t 6 := (mIn_in (by decide) c_1)
    refine lv_iload_n hx hb dX7_about_14 rfl (lv_at hl 2 rfl) ?_
    refine lv_iconst (v := 0) hx hb dX7_about_15 (by decide) ?_
    refine lv_iconst (v := 2) hx hb dX7_about_16 (by decide) ?_
    refine g_callS (As := [.int d, .int 0, .int 2]) (rest := []) ⟨hx, hb, hml, hown, hts⟩ (m_in l d 0 2) (va_cwS 3 hts gX7_about_X7_in rfl rfl rfl (by decide +kernel) ⟨by decide, by decide⟩) rfl rfl hl.1 (Nat.le_of_ble_eq_true rfl) dX7_about_17 ⟨Nat.zero_le _, Nat.zero_le _⟩ ?_
    refine lv_if_ne (tgt := 25) hx hb dX7_about_20 (by decide) (fun (c_2 : ¬ mIn d 0 2 = 0) => ?_) (fun (c_2 : mIn d 0 2 = 0) => ?_)
    · skip
      refine lv_aload_n hx hb dX7_about_25 rfl (lv_at hl 0 rfl) ?_
      refine mw_get (ci := 6) (C := RX7) (T := TX7) (N := 28) (v := .ref (ad 9)) hx hb hts hinX7 hown hK hP 0 (by decide) mF_0 rfl 9 (by decide) kf35 (fun _ h9 => h9) rfl dX7_about_26 ?_
      refine lv_iload_n hx hb dX7_about_29 rfl (lv_at hl 1 rfl) ?_
      refine mw_ild hx hb hK hP 9 (by decide) 0 mF_9 rfl (ci t) (ci_lt ix_t) (by decide) (ci_eq ix_t (by decide)) dX7_about_30 ?_
      refine lv_if_ge (tgt := 39) hx hb dX7_about_31 (by decide) (fun (c_3 : 0 ≤ σ 9 (ci t)) => ?_) (fun (c_3 : ¬ 0 ≤ σ 9 (ci t)) => ?_)
      · skip
        refine lv_iload_n hx hb dX7_about_39 rfl (lv_at hl 2 rfl) ?_
        refine lv_if_ne (tgt := 52) hx hb dX7_about_40 (by decide) (fun (c_4 : ¬ d = 0) => ?_) (fun (c_4 : d = 0) => ?_)
        · skip
          refine lv_iload_n hx hb dX7_about_52 rfl (lv_at hl 2 rfl) ?_
          refine lv_iconst (v := 1) hx hb dX7_about_53 (by decide) ?_
          refine lv_icmp_ne (tgt := 66) hx hb dX7_about_54 (by decide) (fun (c_5 : ¬ d = 1) => ?_) (fun (c_5 : d = 1) => ?_)
          · skip
            refine lv_aload_n hx hb dX7_about_66 rfl (lv_at hl 0 rfl) ?_
            refine mw_get (ci := 6) (C := RX7) (T := TX7) (N := 28) (v := .ref (ad 9)) hx hb hts hinX7 hown hK hP 0 (by decide) mF_0 rfl 9 (by decide) kf35 (fun _ h9 => h9) rfl dX7_about_67 ?_
            refine lv_iload_n hx hb dX7_about_70 rfl (lv_at hl 1 rfl) ?_
            refine mw_ild hx hb hK hP 9 (by decide) 0 mF_9 rfl (ci t) (ci_lt ix_t) (by decide) (ci_eq ix_t (by decide)) dX7_about_71 ?_
            exact g_iret hx hb hr hlocks hP hS dX7_about_72 (by unfold mpAbout; rw [if_neg c_1, if_neg c_2, if_pos c_3, if_neg c_4, if_neg c_5] <;> rfl)
          · skip
            refine lv_aload_n hx hb dX7_about_57 rfl (lv_at hl 0 rfl) ?_
            refine mw_get (ci := 6) (C := RX7) (T := TX7) (N := 28) (v := .ref (ad 11)) hx hb hts hinX7 hown hK hP 0 (by decide) mF_0 rfl 11 (by decide) kf41 (fun _ h9 => h9) rfl dX7_about_58 ?_
            refine lv_iload_n hx hb dX7_about_61 rfl (lv_at hl 1 rfl) ?_
            refine mw_ild hx hb hK hP 11 (by decide) 0 mF_11 rfl (ci t) (ci_lt ix_t) (by decide) (ci_eq ix_t (by decide)) dX7_about_62 ?_
            refine lv_goto (tgt := 72) hx hb dX7_about_63 (by decide) ?_
            exact g_iret hx hb hr hlocks hP hS dX7_about_72 (by unfold mpAbout; rw [if_neg c_1, if_neg c_2, if_pos c_3, if_neg c_4, if_pos c_5] <;> rfl)
        · skip
          refine lv_aload_n hx hb dX7_about_43 rfl (lv_at hl 0 rfl) ?_
          refine mw_get (ci := 6) (C := RX7) (T := TX7) (N := 28) (v := .ref (ad 10)) hx hb hts hinX7 hown hK hP 0 (by decide) mF_0 rfl 10 (by decide) kf38 (fun _ h9 => h9) rfl dX7_about_44 ?_
          refine lv_iload_n hx hb dX7_about_47 rfl (lv_at hl 1 rfl) ?_
          refine mw_ild hx hb hK hP 10 (by decide) 0 mF_10 rfl (ci t) (ci_lt ix_t) (by decide) (ci_eq ix_t (by decide)) dX7_about_48 ?_
          refine lv_goto (tgt := 72) hx hb dX7_about_49 (by decide) ?_
          exact g_iret hx hb hr hlocks hP hS dX7_about_72 (by unfold mpAbout; rw [if_neg c_1, if_neg c_2, if_pos c_3, if_pos c_4] <;> rfl)
      · skip
        refine lv_bipush (v := (-3)) hx hb dX7_about_34 (by decide) ?_
        refine lv_goto (tgt := 72) hx hb dX7_about_36 (by decide) ?_
        exact g_iret hx hb hr hlocks hP hS dX7_about_72 (by unfold mpAbout; rw [if_neg c_1, if_neg c_2, if_neg c_3] <;> rfl)
    · skip
      refine lv_iconst (v := (-1)) hx hb dX7_about_23 (by decide) ?_
      exact g_iret hx hb hr hlocks hP hS dX7_about_24 (by unfold mpAbout; rw [if_neg c_1, if_pos c_2] <;> rfl)

def mpPlaces (σ : Mem) (w : Int32) : Int32 × Mem :=
  if mIn w 0 3 = 0 then ((-1), mset σ 0 0 0)
  else if w = 0 then (if 0 ≤ σ 0 12 then (σ 0 12, mset σ 0 0 0)
    else ((-4), mset σ 0 0 0))
  else if w = 1 then (if 0 ≤ σ 0 13 then (σ 0 13, mset σ 0 0 0)
    else ((-4), mset σ 0 0 0))
  else if w = 2 then (if 0 ≤ σ 0 16 then (σ 0 16, mset σ 0 0 0)
    else ((-4), mset σ 0 0 0))
  else if σ 0 16 ≤ 0 then ((-4), mset σ 0 0 0)
  else if 0 ≤ σ 0 17 then (σ 0 17, mset σ 0 0 0)
  else ((-4), mset σ 0 0 0)
set_option maxHeartbeats 4000000 in
set_option maxRecDepth 100000 in
theorem m_places (l : Launch) (D : va_G) (cy : Nat → ClassId) (ad wy : Nat → Nat) (mt : Nat) (hj : mJ 18 ad) (σ : Mem) (w : Int32)  : Met l yX7_places wsX7_places ({ frames := 1, cells := 0, slots := 0, locals := 22 }) (va_Pc [.ref (ad 0), .int w] (gPre 18 ad (mF ad cy) D cy wy mt σ)) (gQ 18 ad (mF ad cy) D (some (.int (mpPlaces σ w).1)) (mpPlaces σ w).2) 0 0 (mA 18 ad) := by
  refine g_met (cc := cX7_places) (maxL := 3) (ret := (some .int)) (by decide) rfl (Nat.le_of_ble_eq_true rfl) ?_
  intro p e s m below meth c S hr hlocks h0 ls hl
  obtain ⟨hx, hb, hml, hown, hts⟩ := S
  have hP := h0.1
  have hK := h0.2.1
  have hS : va_S (mA 18 ad) s.heap s.heap [] := va_S.rf
  have hl : lv_has ls 3 [(0, .ref (ad 0)), (1, .int w)] := hl
  have kf72 : (Cond.fieldLink RX7 72 "BenchRunsModel" "thrown" "I").before (#[.ref (ad 0), .int w] : Array Value) s = true := hts _ (by decide +kernel)
  have hinX7 : ∀ w ∈ u_ws RX7 TX7 28, w ∈ wsX7_places := by decide +kernel
  have kf54 : (Cond.fieldLink RX7 54 "BenchRunsModel" "gridRows" "I").before (#[.ref (ad 0), .int w] : Array Value) s = true := hts _ (by decide +kernel)
  have kf87 : (Cond.fieldLink RX7 87 "BenchRunsModel" "gridWide" "I").before (#[.ref (ad 0), .int w] : Array Value) s = true := hts _ (by decide +kernel)
  have kf48 : (Cond.fieldLink RX7 48 "BenchRunsModel" "boxSize" "I").before (#[.ref (ad 0), .int w] : Array Value) s = true := hts _ (by decide +kernel)
  have kf44 : (Cond.fieldLink RX7 44 "BenchRunsModel" "rack" "I").before (#[.ref (ad 0), .int w] : Array Value) s = true := hts _ (by decide +kernel)
  refine lv_aload_n hx hb dX7_places_0 rfl (lv_at hl 0 rfl) ?_
  refine lv_iconst (v := 0) hx hb dX7_places_1 (by decide) ?_
  refine mw_put (ci := 6) (C := RX7) (T := TX7) (N := 28) (v := 0) (ty := .int) hx hb hts hinX7 tyX7 tyX7_ok nmX7 hown hK hj hP hS 0 (by decide) mF_0 rfl 0 (by decide) kf72 (fun _ h9 => h9) rfl (by decide +kernel) rfl rfl (Nat.le_of_ble_eq_true rfl) rfl dX7_places_2 (fun H locs hP hS => ?_)
  refine lv_iload_n hx hb dX7_places_5 rfl (lv_at hl 1 rfl) ?_
  refine lv_iconst (v := 0) hx hb dX7_places_6 (by decide) ?_
  refine lv_iconst (v := 3) hx hb dX7_places_7 (by decide) ?_
  refine g_callS (As := [.int w, .int 0, .int 3]) (rest := []) ⟨hx, hb, hml, hown, hts⟩ (m_in l w 0 3) (va_cwS 3 hts gX7_places_X7_in rfl rfl rfl (by decide +kernel) ⟨by decide, by decide⟩) rfl rfl hl.1 (Nat.le_of_ble_eq_true rfl) dX7_places_8 ⟨Nat.zero_le _, Nat.zero_le _⟩ ?_
  refine lv_if_ne (tgt := 16) hx hb dX7_places_11 (by decide) (fun (c_1 : ¬ mIn w 0 3 = 0) => ?_) (fun (c_1 : mIn w 0 3 = 0) => ?_)
  · skip
    refine lv_iload_n hx hb dX7_places_16 rfl (lv_at hl 1 rfl) ?_
    refine lv_if_ne (tgt := 27) hx hb dX7_places_17 (by decide) (fun (c_2 : ¬ w = 0) => ?_) (fun (c_2 : w = 0) => ?_)
    · skip
      refine lv_iload_n hx hb dX7_places_27 rfl (lv_at hl 1 rfl) ?_
      refine lv_iconst (v := 1) hx hb dX7_places_28 (by decide) ?_
      refine lv_icmp_ne (tgt := 39) hx hb dX7_places_29 (by decide) (fun (c_3 : ¬ w = 1) => ?_) (fun (c_3 : w = 1) => ?_)
      · skip
        refine lv_iload_n hx hb dX7_places_39 rfl (lv_at hl 1 rfl) ?_
        refine lv_iconst (v := 2) hx hb dX7_places_40 (by decide) ?_
        refine lv_icmp_ne (tgt := 51) hx hb dX7_places_41 (by decide) (fun (c_4 : ¬ w = 2) => ?_) (fun (c_4 : w = 2) => ?_)
        · skip
          refine lv_aload_n hx hb dX7_places_51 rfl (lv_at hl 0 rfl) ?_
          refine mw_get (ci := 6) (C := RX7) (T := TX7) (N := 28) (v := .int (σ 0 16)) hx hb hts hinX7 hown hK hP 0 (by decide) mF_0 rfl 16 (by decide) kf54 (fun _ h9 => h9) rfl dX7_places_52 ?_
          refine lv_if_le (tgt := 65) hx hb dX7_places_55 (by decide) (fun (c_5 : σ 0 16 ≤ 0) => ?_) (fun (c_5 : ¬ σ 0 16 ≤ 0) => ?_)
          · skip
            refine lv_iconst (v := (-1)) hx hb dX7_places_65 (by decide) ?_
            refine lv_istore_n (lv' := [(2, .int (-1)), (0, .ref (ad 0)), (1, .int w)]) hx hb dX7_places_66 rfl hl (by decide) rfl (fun ls hl => ?_)
            refine lv_iload_n hx hb dX7_places_67 rfl (lv_at hl 0 rfl) ?_
            refine lv_if_ge (tgt := 76) hx hb dX7_places_68 (by decide) (fun c9 => absurd c9 (by decide)) (fun _ => ?_)
            refine lv_bipush (v := (-4)) hx hb dX7_places_71 (by decide) ?_
            refine lv_goto (tgt := 77) hx hb dX7_places_73 (by decide) ?_
            exact g_iret hx hb hr hlocks hP hS dX7_places_77 (by unfold mpPlaces; rw [if_neg c_1, if_neg c_2, if_neg c_3, if_neg c_4, if_pos c_5] <;> rfl)
          · skip
            refine lv_aload_n hx hb dX7_places_58 rfl (lv_at hl 0 rfl) ?_
            refine mw_get (ci := 6) (C := RX7) (T := TX7) (N := 28) (v := .int (σ 0 17)) hx hb hts hinX7 hown hK hP 0 (by decide) mF_0 rfl 17 (by decide) kf87 (fun _ h9 => h9) rfl dX7_places_59 ?_
            refine lv_goto (tgt := 66) hx hb dX7_places_62 (by decide) ?_
            refine lv_istore_n (lv' := [(2, .int (σ 0 17)), (0, .ref (ad 0)), (1, .int w)]) hx hb dX7_places_66 rfl hl (by decide) rfl (fun ls hl => ?_)
            refine lv_iload_n hx hb dX7_places_67 rfl (lv_at hl 0 rfl) ?_
            refine lv_if_ge (tgt := 76) hx hb dX7_places_68 (by decide) (fun (c_6 : 0 ≤ σ 0 17) => ?_) (fun (c_6 : ¬ 0 ≤ σ 0 17) => ?_)
            · skip
              refine lv_iload_n hx hb dX7_places_76 rfl (lv_at hl 0 rfl) ?_
              exact g_iret hx hb hr hlocks hP hS dX7_places_77 (by unfold mpPlaces; rw [if_neg c_1, if_neg c_2, if_neg c_3, if_neg c_4, if_neg c_5, if_pos c_6] <;> rfl)
            · skip
              refine lv_bipush (v := (-4)) hx hb dX7_places_71 (by decide) ?_
              refine lv_goto (tgt := 77) hx hb dX7_places_73 (by decide) ?_
              exact g_iret hx hb hr hlocks hP hS dX7_places_77 (by unfold mpPlaces; rw [if_neg c_1, if_neg c_2, if_neg c_3, if_neg c_4, if_neg c_5, if_neg c_6] <;> rfl)
        · skip
          refine lv_aload_n hx hb dX7_places_44 rfl (lv_at hl 0 rfl) ?_
          refine mw_get (ci := 6) (C := RX7) (T := TX7) (N := 28) (v := .int (σ 0 16)) hx hb hts hinX7 hown hK hP 0 (by decide) mF_0 rfl 16 (by decide) kf54 (fun _ h9 => h9) rfl dX7_places_45 ?_
          refine lv_goto (tgt := 66) hx hb dX7_places_48 (by decide) ?_
          refine lv_istore_n (lv' := [(2, .int (σ 0 16)), (0, .ref (ad 0)), (1, .int w)]) hx hb dX7_places_66 rfl hl (by decide) rfl (fun ls hl => ?_)
          refine lv_iload_n hx hb dX7_places_67 rfl (lv_at hl 0 rfl) ?_
          refine lv_if_ge (tgt := 76) hx hb dX7_places_68 (by decide) (fun (c_7 : 0 ≤ σ 0 16) => ?_) (fun (c_7 : ¬ 0 ≤ σ 0 16) => ?_)
          · skip
            refine lv_iload_n hx hb dX7_places_76 rfl (lv_at hl 0 rfl) ?_
            exact g_iret hx hb hr hlocks hP hS dX7_places_77 (by unfold mpPlaces; rw [if_neg c_1, if_neg c_2, if_neg c_3, if_pos c_4, if_pos c_7] <;> rfl)
          · skip
            refine lv_bipush (v := (-4)) hx hb dX7_places_71 (by decide) ?_
            refine lv_goto (tgt := 77) hx hb dX7_places_73 (by decide) ?_
            exact g_iret hx hb hr hlocks hP hS dX7_places_77 (by unfold mpPlaces; rw [if_neg c_1, if_neg c_2, if_neg c_3, if_pos c_4, if_neg c_7] <;> rfl)
      · skip
        refine lv_aload_n hx hb dX7_places_32 rfl (lv_at hl 0 rfl) ?_
        refine mw_get (ci := 6) (C := RX7) (T := TX7) (N := 28) (v := .int (σ 0 13)) hx hb hts hinX7 hown hK hP 0 (by decide) mF_0 rfl 13 (by decide) kf48 (fun _ h9 => h9) rfl dX7_places_33 ?_
        refine lv_goto (tgt := 66) hx hb dX7_places_36 (by decide) ?_
        refine lv_istore_n (lv' := [(2, .int (σ 0 13)), (0, .ref (ad 0)), (1, .int w)]) hx hb dX7_places_66 rfl hl (by decide) rfl (fun ls hl => ?_)
        refine lv_iload_n hx hb dX7_places_67 rfl (lv_at hl 0 rfl) ?_
        refine lv_if_ge (tgt := 76) hx hb dX7_places_68 (by decide) (fun (c_8 : 0 ≤ σ 0 13) => ?_) (fun (c_8 : ¬ 0 ≤ σ 0 13) => ?_)
        · skip
          refine lv_iload_n hx hb dX7_places_76 rfl (lv_at hl 0 rfl) ?_
          exact g_iret hx hb hr hlocks hP hS dX7_places_77 (by unfold mpPlaces; rw [if_neg c_1, if_neg c_2, if_pos c_3, if_pos c_8] <;> rfl)
        · skip
          refine lv_bipush (v := (-4)) hx hb dX7_places_71 (by decide) ?_
          refine lv_goto (tgt := 77) hx hb dX7_places_73 (by decide) ?_
          exact g_iret hx hb hr hlocks hP hS dX7_places_77 (by unfold mpPlaces; rw [if_neg c_1, if_neg c_2, if_pos c_3, if_neg c_8] <;> rfl)
    · skip
      refine lv_aload_n hx hb dX7_places_20 rfl (lv_at hl 0 rfl) ?_
      refine mw_get (ci := 6) (C := RX7) (T := TX7) (N := 28) (v := .int (σ 0 12)) hx hb hts hinX7 hown hK hP 0 (by decide) mF_0 rfl 12 (by decide) kf44 (fun _ h9 => h9) rfl dX7_places_21 ?_
      refine lv_goto (tgt := 66) hx hb dX7_places_24 (by decide) ?_
      refine lv_istore_n (lv' := [(2, .int (σ 0 12)), (0, .ref (ad 0)), (1, .int w)]) hx hb dX7_places_66 rfl hl (by decide) rfl (fun ls hl => ?_)
      refine lv_iload_n hx hb dX7_places_67 rfl (lv_at hl 0 rfl) ?_
      refine lv_if_ge (tgt := 76) hx hb dX7_places_68 (by decide) (fun (c_9 : 0 ≤ σ 0 12) => ?_) (fun (c_9 : ¬ 0 ≤ σ 0 12) => ?_)
      · skip
        refine lv_iload_n hx hb dX7_places_76 rfl (lv_at hl 0 rfl) ?_
        exact g_iret hx hb hr hlocks hP hS dX7_places_77 (by unfold mpPlaces; rw [if_neg c_1, if_pos c_2, if_pos c_9] <;> rfl)
      · skip
        refine lv_bipush (v := (-4)) hx hb dX7_places_71 (by decide) ?_
        refine lv_goto (tgt := 77) hx hb dX7_places_73 (by decide) ?_
        exact g_iret hx hb hr hlocks hP hS dX7_places_77 (by unfold mpPlaces; rw [if_neg c_1, if_pos c_2, if_neg c_9] <;> rfl)
  · skip
    refine lv_iconst (v := (-1)) hx hb dX7_places_14 (by decide) ?_
    exact g_iret hx hb hr hlocks hP hS dX7_places_15 (by unfold mpPlaces; rw [if_pos c_1] <;> rfl)

def mpBox (σ : Mem) (k : Int32) : Int32 × Mem :=
  if mIn k 0 ((σ 0 13) - 1) = 0 then ((-4), mset σ 0 0 0)
  else if σ 12 (ci k) < 0 then ((-4), mset σ 0 0 0)
  else (σ 12 (ci k), mset σ 0 0 0)
set_option maxHeartbeats 4000000 in
set_option maxRecDepth 100000 in
theorem m_box (l : Launch) (D : va_G) (cy : Nat → ClassId) (ad wy : Nat → Nat) (mt : Nat) (hj : mJ 18 ad) (σ : Mem) (k : Int32) (hB : mbx σ) : Met l yX7_box wsX7_box ({ frames := 1, cells := 0, slots := 0, locals := 22 }) (va_Pc [.ref (ad 0), .int k] (gPre 18 ad (mF ad cy) D cy wy mt σ)) (gQ 18 ad (mF ad cy) D (some (.int (mpBox σ k).1)) (mpBox σ k).2) 0 0 (mA 18 ad) := by
  refine g_met (cc := cX7_box) (maxL := 2) (ret := (some .int)) (by decide) rfl (Nat.le_of_ble_eq_true rfl) ?_
  intro p e s m below meth c S hr hlocks h0 ls hl
  obtain ⟨hx, hb, hml, hown, hts⟩ := S
  have hP := h0.1
  have hK := h0.2.1
  have hS : va_S (mA 18 ad) s.heap s.heap [] := va_S.rf
  have hl : lv_has ls 2 [(0, .ref (ad 0)), (1, .int k)] := hl
  have kf72 : (Cond.fieldLink RX7 72 "BenchRunsModel" "thrown" "I").before (#[.ref (ad 0), .int k] : Array Value) s = true := hts _ (by decide +kernel)
  have hinX7 : ∀ w ∈ u_ws RX7 TX7 28, w ∈ wsX7_box := by decide +kernel
  have kf48 : (Cond.fieldLink RX7 48 "BenchRunsModel" "boxSize" "I").before (#[.ref (ad 0), .int k] : Array Value) s = true := hts _ (by decide +kernel)
  have kf51 : (Cond.fieldLink RX7 51 "BenchRunsModel" "box" "[I").before (#[.ref (ad 0), .int k] : Array Value) s = true := hts _ (by decide +kernel)
  refine lv_aload_n hx hb dX7_box_0 rfl (lv_at hl 0 rfl) ?_
  refine lv_iconst (v := 0) hx hb dX7_box_1 (by decide) ?_
  refine mw_put (ci := 6) (C := RX7) (T := TX7) (N := 28) (v := 0) (ty := .int) hx hb hts hinX7 tyX7 tyX7_ok nmX7 hown hK hj hP hS 0 (by decide) mF_0 rfl 0 (by decide) kf72 (fun _ h9 => h9) rfl (by decide +kernel) rfl rfl (Nat.le_of_ble_eq_true rfl) rfl dX7_box_2 (fun H locs hP hS => ?_)
  refine lv_iload_n hx hb dX7_box_5 rfl (lv_at hl 1 rfl) ?_
  refine lv_iconst (v := 0) hx hb dX7_box_6 (by decide) ?_
  refine lv_aload_n hx hb dX7_box_7 rfl (lv_at hl 0 rfl) ?_
  refine mw_get (ci := 6) (C := RX7) (T := TX7) (N := 28) (v := .int (σ 0 13)) hx hb hts hinX7 hown hK hP 0 (by decide) mF_0 rfl 13 (by decide) kf48 (fun _ h9 => h9) rfl dX7_box_8 ?_
  refine lv_iconst (v := 1) hx hb dX7_box_11 (by decide) ?_
  refine lv_isub hx hb dX7_box_12 ?_
  refine g_callS (As := [.int k, .int 0, .int ((σ 0 13) - 1)]) (rest := []) ⟨hx, hb, hml, hown, hts⟩ (m_in l k 0 ((σ 0 13) - 1)) (va_cwS 3 hts gX7_box_X7_in rfl rfl rfl (by decide +kernel) ⟨by decide, by decide⟩) rfl rfl hl.1 (Nat.le_of_ble_eq_true rfl) dX7_box_13 ⟨Nat.zero_le _, Nat.zero_le _⟩ ?_
  refine lv_if_eq (tgt := 37) hx hb dX7_box_16 (by decide) (fun (c_1 : mIn k 0 ((σ 0 13) - 1) = 0) => ?_) (fun (c_1 : ¬ mIn k 0 ((σ 0 13) - 1) = 0) => ?_)
  · skip
    refine lv_bipush (v := (-4)) hx hb dX7_box_37 (by decide) ?_
    exact g_iret hx hb hr hlocks hP hS dX7_box_39 (by unfold mpBox; rw [if_pos c_1] <;> rfl)
  · skip
    have ix_k : vp_in k 20 := (mIn_box hB c_1)
    refine lv_aload_n hx hb dX7_box_19 rfl (lv_at hl 0 rfl) ?_
    refine mw_get (ci := 6) (C := RX7) (T := TX7) (N := 28) (v := .ref (ad 12)) hx hb hts hinX7 hown hK hP 0 (by decide) mF_0 rfl 15 (by decide) kf51 (fun _ h9 => h9) rfl dX7_box_20 ?_
    refine lv_iload_n hx hb dX7_box_23 rfl (lv_at hl 1 rfl) ?_
    refine mw_ild hx hb hK hP 12 (by decide) 0 mF_12 rfl (ci k) (ci_lt ix_k) (by decide) (ci_eq ix_k (by decide)) dX7_box_24 ?_
    refine lv_if_lt (tgt := 37) hx hb dX7_box_25 (by decide) (fun (c_2 : σ 12 (ci k) < 0) => ?_) (fun (c_2 : ¬ σ 12 (ci k) < 0) => ?_)
    · skip
      refine lv_bipush (v := (-4)) hx hb dX7_box_37 (by decide) ?_
      exact g_iret hx hb hr hlocks hP hS dX7_box_39 (by unfold mpBox; rw [if_neg c_1, if_pos c_2] <;> rfl)
    · skip
      refine lv_aload_n hx hb dX7_box_28 rfl (lv_at hl 0 rfl) ?_
      refine mw_get (ci := 6) (C := RX7) (T := TX7) (N := 28) (v := .ref (ad 12)) hx hb hts hinX7 hown hK hP 0 (by decide) mF_0 rfl 15 (by decide) kf51 (fun _ h9 => h9) rfl dX7_box_29 ?_
      refine lv_iload_n hx hb dX7_box_32 rfl (lv_at hl 1 rfl) ?_
      refine mw_ild hx hb hK hP 12 (by decide) 0 mF_12 rfl (ci k) (ci_lt ix_k) (by decide) (ci_eq ix_k (by decide)) dX7_box_33 ?_
      refine lv_goto (tgt := 39) hx hb dX7_box_34 (by decide) ?_
      exact g_iret hx hb hr hlocks hP hS dX7_box_39 (by unfold mpBox; rw [if_neg c_1, if_neg c_2] <;> rfl)

def mpWhy (σ : Mem) (k : Int32) : Int32 × Mem :=
  if mIn k 0 ((σ 0 23) - 1) = 0 then ((-4), mset σ 0 0 0)
  else (σ 17 (ci k), mset σ 0 0 0)
set_option maxHeartbeats 4000000 in
set_option maxRecDepth 100000 in
theorem m_why (l : Launch) (D : va_G) (cy : Nat → ClassId) (ad wy : Nat → Nat) (mt : Nat) (hj : mJ 18 ad) (σ : Mem) (k : Int32) (hW4 : mwy4 σ) : Met l yX7_why wsX7_why ({ frames := 1, cells := 0, slots := 0, locals := 22 }) (va_Pc [.ref (ad 0), .int k] (gPre 18 ad (mF ad cy) D cy wy mt σ)) (gQ 18 ad (mF ad cy) D (some (.int (mpWhy σ k).1)) (mpWhy σ k).2) 0 0 (mA 18 ad) := by
  refine g_met (cc := cX7_why) (maxL := 2) (ret := (some .int)) (by decide) rfl (Nat.le_of_ble_eq_true rfl) ?_
  intro p e s m below meth c S hr hlocks h0 ls hl
  obtain ⟨hx, hb, hml, hown, hts⟩ := S
  have hP := h0.1
  have hK := h0.2.1
  have hS : va_S (mA 18 ad) s.heap s.heap [] := va_S.rf
  have hl : lv_has ls 2 [(0, .ref (ad 0)), (1, .int k)] := hl
  have kf72 : (Cond.fieldLink RX7 72 "BenchRunsModel" "thrown" "I").before (#[.ref (ad 0), .int k] : Array Value) s = true := hts _ (by decide +kernel)
  have hinX7 : ∀ w ∈ u_ws RX7 TX7 28, w ∈ wsX7_why := by decide +kernel
  have kf146 : (Cond.fieldLink RX7 146 "BenchRunsModel" "whys" "I").before (#[.ref (ad 0), .int k] : Array Value) s = true := hts _ (by decide +kernel)
  have kf69 : (Cond.fieldLink RX7 69 "BenchRunsModel" "why" "[I").before (#[.ref (ad 0), .int k] : Array Value) s = true := hts _ (by decide +kernel)
  refine lv_aload_n hx hb dX7_why_0 rfl (lv_at hl 0 rfl) ?_
  refine lv_iconst (v := 0) hx hb dX7_why_1 (by decide) ?_
  refine mw_put (ci := 6) (C := RX7) (T := TX7) (N := 28) (v := 0) (ty := .int) hx hb hts hinX7 tyX7 tyX7_ok nmX7 hown hK hj hP hS 0 (by decide) mF_0 rfl 0 (by decide) kf72 (fun _ h9 => h9) rfl (by decide +kernel) rfl rfl (Nat.le_of_ble_eq_true rfl) rfl dX7_why_2 (fun H locs hP hS => ?_)
  refine lv_iload_n hx hb dX7_why_5 rfl (lv_at hl 1 rfl) ?_
  refine lv_iconst (v := 0) hx hb dX7_why_6 (by decide) ?_
  refine lv_aload_n hx hb dX7_why_7 rfl (lv_at hl 0 rfl) ?_
  refine mw_get (ci := 6) (C := RX7) (T := TX7) (N := 28) (v := .int (σ 0 23)) hx hb hts hinX7 hown hK hP 0 (by decide) mF_0 rfl 23 (by decide) kf146 (fun _ h9 => h9) rfl dX7_why_8 ?_
  refine lv_iconst (v := 1) hx hb dX7_why_11 (by decide) ?_
  refine lv_isub hx hb dX7_why_12 ?_
  refine g_callS (As := [.int k, .int 0, .int ((σ 0 23) - 1)]) (rest := []) ⟨hx, hb, hml, hown, hts⟩ (m_in l k 0 ((σ 0 23) - 1)) (va_cwS 3 hts gX7_why_X7_in rfl rfl rfl (by decide +kernel) ⟨by decide, by decide⟩) rfl rfl hl.1 (Nat.le_of_ble_eq_true rfl) dX7_why_13 ⟨Nat.zero_le _, Nat.zero_le _⟩ ?_
  refine lv_if_eq (tgt := 28) hx hb dX7_why_16 (by decide) (fun (c_1 : mIn k 0 ((σ 0 23) - 1) = 0) => ?_) (fun (c_1 : ¬ mIn k 0 ((σ 0 23) - 1) = 0) => ?_)
  · skip
    refine lv_bipush (v := (-4)) hx hb dX7_why_28 (by decide) ?_
    exact g_iret hx hb hr hlocks hP hS dX7_why_30 (by unfold mpWhy; rw [if_pos c_1] <;> rfl)
  · skip
    have ix_k : vp_in k 5 := (mIn_why hW4 c_1)
    refine lv_aload_n hx hb dX7_why_19 rfl (lv_at hl 0 rfl) ?_
    refine mw_get (ci := 6) (C := RX7) (T := TX7) (N := 28) (v := .ref (ad 17)) hx hb hts hinX7 hown hK hP 0 (by decide) mF_0 rfl 22 (by decide) kf69 (fun _ h9 => h9) rfl dX7_why_20 ?_
    refine lv_iload_n hx hb dX7_why_23 rfl (lv_at hl 1 rfl) ?_
    refine mw_ild hx hb hK hP 17 (by decide) 0 mF_17 rfl (ci k) (ci_lt ix_k) (by decide) (ci_eq ix_k (by decide)) dX7_why_24 ?_
    refine lv_goto (tgt := 30) hx hb dX7_why_25 (by decide) ?_
    exact g_iret hx hb hr hlocks hP hS dX7_why_30 (by unfold mpWhy; rw [if_neg c_1] <;> rfl)

def mpTold (σ : Mem) (k : Int32) : Int32 × Mem :=
  if mIn k 0 7 = 0 then ((-1), mset σ 0 0 0)
  else (σ 14 (ci k), mset σ 0 0 0)
set_option maxHeartbeats 4000000 in
set_option maxRecDepth 100000 in
theorem m_told (l : Launch) (D : va_G) (cy : Nat → ClassId) (ad wy : Nat → Nat) (mt : Nat) (hj : mJ 18 ad) (σ : Mem) (k : Int32)  : Met l yX7_told wsX7_told ({ frames := 1, cells := 0, slots := 0, locals := 22 }) (va_Pc [.ref (ad 0), .int k] (gPre 18 ad (mF ad cy) D cy wy mt σ)) (gQ 18 ad (mF ad cy) D (some (.int (mpTold σ k).1)) (mpTold σ k).2) 0 0 (mA 18 ad) := by
  refine g_met (cc := cX7_told) (maxL := 2) (ret := (some .int)) (by decide) rfl (Nat.le_of_ble_eq_true rfl) ?_
  intro p e s m below meth c S hr hlocks h0 ls hl
  obtain ⟨hx, hb, hml, hown, hts⟩ := S
  have hP := h0.1
  have hK := h0.2.1
  have hS : va_S (mA 18 ad) s.heap s.heap [] := va_S.rf
  have hl : lv_has ls 2 [(0, .ref (ad 0)), (1, .int k)] := hl
  have kf72 : (Cond.fieldLink RX7 72 "BenchRunsModel" "thrown" "I").before (#[.ref (ad 0), .int k] : Array Value) s = true := hts _ (by decide +kernel)
  have hinX7 : ∀ w ∈ u_ws RX7 TX7 28, w ∈ wsX7_told := by decide +kernel
  have kf60 : (Cond.fieldLink RX7 60 "BenchRunsModel" "told" "[I").before (#[.ref (ad 0), .int k] : Array Value) s = true := hts _ (by decide +kernel)
  refine lv_aload_n hx hb dX7_told_0 rfl (lv_at hl 0 rfl) ?_
  refine lv_iconst (v := 0) hx hb dX7_told_1 (by decide) ?_
  refine mw_put (ci := 6) (C := RX7) (T := TX7) (N := 28) (v := 0) (ty := .int) hx hb hts hinX7 tyX7 tyX7_ok nmX7 hown hK hj hP hS 0 (by decide) mF_0 rfl 0 (by decide) kf72 (fun _ h9 => h9) rfl (by decide +kernel) rfl rfl (Nat.le_of_ble_eq_true rfl) rfl dX7_told_2 (fun H locs hP hS => ?_)
  refine lv_iload_n hx hb dX7_told_5 rfl (lv_at hl 1 rfl) ?_
  refine lv_iconst (v := 0) hx hb dX7_told_6 (by decide) ?_
  refine lv_bipush (v := 7) hx hb dX7_told_7 (by decide) ?_
  refine g_callS (As := [.int k, .int 0, .int 7]) (rest := []) ⟨hx, hb, hml, hown, hts⟩ (m_in l k 0 7) (va_cwS 3 hts gX7_told_X7_in rfl rfl rfl (by decide +kernel) ⟨by decide, by decide⟩) rfl rfl hl.1 (Nat.le_of_ble_eq_true rfl) dX7_told_9 ⟨Nat.zero_le _, Nat.zero_le _⟩ ?_
  refine lv_if_eq (tgt := 24) hx hb dX7_told_12 (by decide) (fun (c_1 : mIn k 0 7 = 0) => ?_) (fun (c_1 : ¬ mIn k 0 7 = 0) => ?_)
  · skip
    refine lv_iconst (v := (-1)) hx hb dX7_told_24 (by decide) ?_
    exact g_iret hx hb hr hlocks hP hS dX7_told_25 (by unfold mpTold; rw [if_pos c_1] <;> rfl)
  · skip
    have ix_k : vp_in k 8 := (mIn_in (by decide) c_1)
    refine lv_aload_n hx hb dX7_told_15 rfl (lv_at hl 0 rfl) ?_
    refine mw_get (ci := 6) (C := RX7) (T := TX7) (N := 28) (v := .ref (ad 14)) hx hb hts hinX7 hown hK hP 0 (by decide) mF_0 rfl 19 (by decide) kf60 (fun _ h9 => h9) rfl dX7_told_16 ?_
    refine lv_iload_n hx hb dX7_told_19 rfl (lv_at hl 1 rfl) ?_
    refine mw_ild hx hb hK hP 14 (by decide) 0 mF_14 rfl (ci k) (ci_lt ix_k) (by decide) (ci_eq ix_k (by decide)) dX7_told_20 ?_
    refine lv_goto (tgt := 25) hx hb dX7_told_21 (by decide) ?_
    exact g_iret hx hb hr hlocks hP hS dX7_told_25 (by unfold mpTold; rw [if_neg c_1] <;> rfl)

def mpTrace (σ : Mem) (k : Int32) : Int32 × Mem :=
  if 400 ≤ σ 14 7 then (if mIn k 0 (400 - 1) = 0 then ((-4), mset σ 0 0 0)
    else (σ 15 (ci k), mset σ 0 0 0))
  else if mIn k 0 ((σ 14 7) - 1) = 0 then ((-4), mset σ 0 0 0)
  else (σ 15 (ci k), mset σ 0 0 0)
set_option maxHeartbeats 4000000 in
set_option maxRecDepth 100000 in
theorem m_trace (l : Launch) (D : va_G) (cy : Nat → ClassId) (ad wy : Nat → Nat) (mt : Nat) (hj : mJ 18 ad) (σ : Mem) (k : Int32) (hT : ∃ k : Nat, k ≤ 2000 ∧ σ 14 7 = nI k) : Met l yX7_trace wsX7_trace ({ frames := 1, cells := 0, slots := 0, locals := 22 }) (va_Pc [.ref (ad 0), .int k] (gPre 18 ad (mF ad cy) D cy wy mt σ)) (gQ 18 ad (mF ad cy) D (some (.int (mpTrace σ k).1)) (mpTrace σ k).2) 0 0 (mA 18 ad) := by
  refine g_met (cc := cX7_trace) (maxL := 2) (ret := (some .int)) (by decide) rfl (Nat.le_of_ble_eq_true rfl) ?_
  intro p e s m below meth c S hr hlocks h0 ls hl
  obtain ⟨hx, hb, hml, hown, hts⟩ := S
  have hP := h0.1
  have hK := h0.2.1
  have hS : va_S (mA 18 ad) s.heap s.heap [] := va_S.rf
  have hl : lv_has ls 2 [(0, .ref (ad 0)), (1, .int k)] := hl
  have kf72 : (Cond.fieldLink RX7 72 "BenchRunsModel" "thrown" "I").before (#[.ref (ad 0), .int k] : Array Value) s = true := hts _ (by decide +kernel)
  have hinX7 : ∀ w ∈ u_ws RX7 TX7 28, w ∈ wsX7_trace := by decide +kernel
  have kf60 : (Cond.fieldLink RX7 60 "BenchRunsModel" "told" "[I").before (#[.ref (ad 0), .int k] : Array Value) s = true := hts _ (by decide +kernel)
  have kf63 : (Cond.fieldLink RX7 63 "BenchRunsModel" "trace" "[I").before (#[.ref (ad 0), .int k] : Array Value) s = true := hts _ (by decide +kernel)
  refine lv_aload_n hx hb dX7_trace_0 rfl (lv_at hl 0 rfl) ?_
  refine lv_iconst (v := 0) hx hb dX7_trace_1 (by decide) ?_
  refine mw_put (ci := 6) (C := RX7) (T := TX7) (N := 28) (v := 0) (ty := .int) hx hb hts hinX7 tyX7 tyX7_ok nmX7 hown hK hj hP hS 0 (by decide) mF_0 rfl 0 (by decide) kf72 (fun _ h9 => h9) rfl (by decide +kernel) rfl rfl (Nat.le_of_ble_eq_true rfl) rfl dX7_trace_2 (fun H locs hP hS => ?_)
  refine lv_iload_n hx hb dX7_trace_5 rfl (lv_at hl 1 rfl) ?_
  refine lv_iconst (v := 0) hx hb dX7_trace_6 (by decide) ?_
  refine lv_aload_n hx hb dX7_trace_7 rfl (lv_at hl 0 rfl) ?_
  refine mw_get (ci := 6) (C := RX7) (T := TX7) (N := 28) (v := .ref (ad 14)) hx hb hts hinX7 hown hK hP 0 (by decide) mF_0 rfl 19 (by decide) kf60 (fun _ h9 => h9) rfl dX7_trace_8 ?_
  refine lv_bipush (v := 7) hx hb dX7_trace_11 (by decide) ?_
  refine mw_ild hx hb hK hP 14 (by decide) 0 mF_14 rfl 7 (by decide) (by decide) rfl dX7_trace_13 ?_
  refine lv_sipush (v := 400) hx hb dX7_trace_14 (by decide) ?_
  refine lv_icmp_ge (tgt := 30) hx hb dX7_trace_17 (by decide) (fun (c_1 : 400 ≤ σ 14 7) => ?_) (fun (c_1 : ¬ 400 ≤ σ 14 7) => ?_)
  · skip
    refine lv_sipush (v := 400) hx hb dX7_trace_30 (by decide) ?_
    refine lv_iconst (v := 1) hx hb dX7_trace_33 (by decide) ?_
    refine lv_isub hx hb dX7_trace_34 ?_
    refine g_callS (As := [.int k, .int 0, .int (400 - 1)]) (rest := []) ⟨hx, hb, hml, hown, hts⟩ (m_in l k 0 (400 - 1)) (va_cwS 3 hts gX7_trace_X7_in rfl rfl rfl (by decide +kernel) ⟨by decide, by decide⟩) rfl rfl hl.1 (Nat.le_of_ble_eq_true rfl) dX7_trace_35 ⟨Nat.zero_le _, Nat.zero_le _⟩ ?_
    refine lv_if_eq (tgt := 50) hx hb dX7_trace_38 (by decide) (fun (c_2 : mIn k 0 (400 - 1) = 0) => ?_) (fun (c_2 : ¬ mIn k 0 (400 - 1) = 0) => ?_)
    · skip
      refine lv_bipush (v := (-4)) hx hb dX7_trace_50 (by decide) ?_
      exact g_iret hx hb hr hlocks hP hS dX7_trace_52 (by unfold mpTrace; rw [if_pos c_1, if_pos c_2] <;> rfl)
    · skip
      have ix_k : vp_in k 400 := mIn_in (by decide) c_2
      refine lv_aload_n hx hb dX7_trace_41 rfl (lv_at hl 0 rfl) ?_
      refine mw_get (ci := 6) (C := RX7) (T := TX7) (N := 28) (v := .ref (ad 15)) hx hb hts hinX7 hown hK hP 0 (by decide) mF_0 rfl 20 (by decide) kf63 (fun _ h9 => h9) rfl dX7_trace_42 ?_
      refine lv_iload_n hx hb dX7_trace_45 rfl (lv_at hl 1 rfl) ?_
      refine mw_ild hx hb hK hP 15 (by decide) 0 mF_15 rfl (ci k) (ci_lt ix_k) (by decide) (ci_eq ix_k (by decide)) dX7_trace_46 ?_
      refine lv_goto (tgt := 52) hx hb dX7_trace_47 (by decide) ?_
      exact g_iret hx hb hr hlocks hP hS dX7_trace_52 (by unfold mpTrace; rw [if_pos c_1, if_neg c_2] <;> rfl)
  · skip
    refine lv_aload_n hx hb dX7_trace_20 rfl (lv_at hl 0 rfl) ?_
    refine mw_get (ci := 6) (C := RX7) (T := TX7) (N := 28) (v := .ref (ad 14)) hx hb hts hinX7 hown hK hP 0 (by decide) mF_0 rfl 19 (by decide) kf60 (fun _ h9 => h9) rfl dX7_trace_21 ?_
    refine lv_bipush (v := 7) hx hb dX7_trace_24 (by decide) ?_
    refine mw_ild hx hb hK hP 14 (by decide) 0 mF_14 rfl 7 (by decide) (by decide) rfl dX7_trace_26 ?_
    refine lv_goto (tgt := 33) hx hb dX7_trace_27 (by decide) ?_
    refine lv_iconst (v := 1) hx hb dX7_trace_33 (by decide) ?_
    refine lv_isub hx hb dX7_trace_34 ?_
    refine g_callS (As := [.int k, .int 0, .int ((σ 14 7) - 1)]) (rest := []) ⟨hx, hb, hml, hown, hts⟩ (m_in l k 0 ((σ 14 7) - 1)) (va_cwS 3 hts gX7_trace_X7_in rfl rfl rfl (by decide +kernel) ⟨by decide, by decide⟩) rfl rfl hl.1 (Nat.le_of_ble_eq_true rfl) dX7_trace_35 ⟨Nat.zero_le _, Nat.zero_le _⟩ ?_
    refine lv_if_eq (tgt := 50) hx hb dX7_trace_38 (by decide) (fun (c_3 : mIn k 0 ((σ 14 7) - 1) = 0) => ?_) (fun (c_3 : ¬ mIn k 0 ((σ 14 7) - 1) = 0) => ?_)
    · skip
      refine lv_bipush (v := (-4)) hx hb dX7_trace_50 (by decide) ?_
      exact g_iret hx hb hr hlocks hP hS dX7_trace_52 (by unfold mpTrace; rw [if_neg c_1, if_pos c_3] <;> rfl)
    · skip
      have ix_k : vp_in k 400 := mIn_cnt (N := 400) (by decide) hT (by decide) c_1 c_3
      refine lv_aload_n hx hb dX7_trace_41 rfl (lv_at hl 0 rfl) ?_
      refine mw_get (ci := 6) (C := RX7) (T := TX7) (N := 28) (v := .ref (ad 15)) hx hb hts hinX7 hown hK hP 0 (by decide) mF_0 rfl 20 (by decide) kf63 (fun _ h9 => h9) rfl dX7_trace_42 ?_
      refine lv_iload_n hx hb dX7_trace_45 rfl (lv_at hl 1 rfl) ?_
      refine mw_ild hx hb hK hP 15 (by decide) 0 mF_15 rfl (ci k) (ci_lt ix_k) (by decide) (ci_eq ix_k (by decide)) dX7_trace_46 ?_
      refine lv_goto (tgt := 52) hx hb dX7_trace_47 (by decide) ?_
      exact g_iret hx hb hr hlocks hP hS dX7_trace_52 (by unfold mpTrace; rw [if_neg c_1, if_neg c_3] <;> rfl)

def mpNoted (σ : Mem) (k : Int32) : Int32 × Mem :=
  if 24 ≤ σ 14 6 then (if mIn k 0 (24 - 1) = 0 then ((-4), mset σ 0 0 0)
    else (σ 16 (ci k), mset σ 0 0 0))
  else if mIn k 0 ((σ 14 6) - 1) = 0 then ((-4), mset σ 0 0 0)
  else (σ 16 (ci k), mset σ 0 0 0)
set_option maxHeartbeats 4000000 in
set_option maxRecDepth 100000 in
theorem m_noted (l : Launch) (D : va_G) (cy : Nat → ClassId) (ad wy : Nat → Nat) (mt : Nat) (hj : mJ 18 ad) (σ : Mem) (k : Int32) (hT : ∃ k : Nat, k ≤ 2000 ∧ σ 14 6 = nI k) : Met l yX7_noted wsX7_noted ({ frames := 1, cells := 0, slots := 0, locals := 22 }) (va_Pc [.ref (ad 0), .int k] (gPre 18 ad (mF ad cy) D cy wy mt σ)) (gQ 18 ad (mF ad cy) D (some (.int (mpNoted σ k).1)) (mpNoted σ k).2) 0 0 (mA 18 ad) := by
  refine g_met (cc := cX7_noted) (maxL := 2) (ret := (some .int)) (by decide) rfl (Nat.le_of_ble_eq_true rfl) ?_
  intro p e s m below meth c S hr hlocks h0 ls hl
  obtain ⟨hx, hb, hml, hown, hts⟩ := S
  have hP := h0.1
  have hK := h0.2.1
  have hS : va_S (mA 18 ad) s.heap s.heap [] := va_S.rf
  have hl : lv_has ls 2 [(0, .ref (ad 0)), (1, .int k)] := hl
  have kf72 : (Cond.fieldLink RX7 72 "BenchRunsModel" "thrown" "I").before (#[.ref (ad 0), .int k] : Array Value) s = true := hts _ (by decide +kernel)
  have hinX7 : ∀ w ∈ u_ws RX7 TX7 28, w ∈ wsX7_noted := by decide +kernel
  have kf60 : (Cond.fieldLink RX7 60 "BenchRunsModel" "told" "[I").before (#[.ref (ad 0), .int k] : Array Value) s = true := hts _ (by decide +kernel)
  have kf66 : (Cond.fieldLink RX7 66 "BenchRunsModel" "noted" "[I").before (#[.ref (ad 0), .int k] : Array Value) s = true := hts _ (by decide +kernel)
  refine lv_aload_n hx hb dX7_noted_0 rfl (lv_at hl 0 rfl) ?_
  refine lv_iconst (v := 0) hx hb dX7_noted_1 (by decide) ?_
  refine mw_put (ci := 6) (C := RX7) (T := TX7) (N := 28) (v := 0) (ty := .int) hx hb hts hinX7 tyX7 tyX7_ok nmX7 hown hK hj hP hS 0 (by decide) mF_0 rfl 0 (by decide) kf72 (fun _ h9 => h9) rfl (by decide +kernel) rfl rfl (Nat.le_of_ble_eq_true rfl) rfl dX7_noted_2 (fun H locs hP hS => ?_)
  refine lv_iload_n hx hb dX7_noted_5 rfl (lv_at hl 1 rfl) ?_
  refine lv_iconst (v := 0) hx hb dX7_noted_6 (by decide) ?_
  refine lv_aload_n hx hb dX7_noted_7 rfl (lv_at hl 0 rfl) ?_
  refine mw_get (ci := 6) (C := RX7) (T := TX7) (N := 28) (v := .ref (ad 14)) hx hb hts hinX7 hown hK hP 0 (by decide) mF_0 rfl 19 (by decide) kf60 (fun _ h9 => h9) rfl dX7_noted_8 ?_
  refine lv_bipush (v := 6) hx hb dX7_noted_11 (by decide) ?_
  refine mw_ild hx hb hK hP 14 (by decide) 0 mF_14 rfl 6 (by decide) (by decide) rfl dX7_noted_13 ?_
  refine lv_bipush (v := 24) hx hb dX7_noted_14 (by decide) ?_
  refine lv_icmp_ge (tgt := 29) hx hb dX7_noted_16 (by decide) (fun (c_1 : 24 ≤ σ 14 6) => ?_) (fun (c_1 : ¬ 24 ≤ σ 14 6) => ?_)
  · skip
    refine lv_bipush (v := 24) hx hb dX7_noted_29 (by decide) ?_
    refine lv_iconst (v := 1) hx hb dX7_noted_31 (by decide) ?_
    refine lv_isub hx hb dX7_noted_32 ?_
    refine g_callS (As := [.int k, .int 0, .int (24 - 1)]) (rest := []) ⟨hx, hb, hml, hown, hts⟩ (m_in l k 0 (24 - 1)) (va_cwS 3 hts gX7_noted_X7_in rfl rfl rfl (by decide +kernel) ⟨by decide, by decide⟩) rfl rfl hl.1 (Nat.le_of_ble_eq_true rfl) dX7_noted_33 ⟨Nat.zero_le _, Nat.zero_le _⟩ ?_
    refine lv_if_eq (tgt := 48) hx hb dX7_noted_36 (by decide) (fun (c_2 : mIn k 0 (24 - 1) = 0) => ?_) (fun (c_2 : ¬ mIn k 0 (24 - 1) = 0) => ?_)
    · skip
      refine lv_bipush (v := (-4)) hx hb dX7_noted_48 (by decide) ?_
      exact g_iret hx hb hr hlocks hP hS dX7_noted_50 (by unfold mpNoted; rw [if_pos c_1, if_pos c_2] <;> rfl)
    · skip
      have ix_k : vp_in k 24 := mIn_in (by decide) c_2
      refine lv_aload_n hx hb dX7_noted_39 rfl (lv_at hl 0 rfl) ?_
      refine mw_get (ci := 6) (C := RX7) (T := TX7) (N := 28) (v := .ref (ad 16)) hx hb hts hinX7 hown hK hP 0 (by decide) mF_0 rfl 21 (by decide) kf66 (fun _ h9 => h9) rfl dX7_noted_40 ?_
      refine lv_iload_n hx hb dX7_noted_43 rfl (lv_at hl 1 rfl) ?_
      refine mw_ild hx hb hK hP 16 (by decide) 0 mF_16 rfl (ci k) (ci_lt ix_k) (by decide) (ci_eq ix_k (by decide)) dX7_noted_44 ?_
      refine lv_goto (tgt := 50) hx hb dX7_noted_45 (by decide) ?_
      exact g_iret hx hb hr hlocks hP hS dX7_noted_50 (by unfold mpNoted; rw [if_pos c_1, if_neg c_2] <;> rfl)
  · skip
    refine lv_aload_n hx hb dX7_noted_19 rfl (lv_at hl 0 rfl) ?_
    refine mw_get (ci := 6) (C := RX7) (T := TX7) (N := 28) (v := .ref (ad 14)) hx hb hts hinX7 hown hK hP 0 (by decide) mF_0 rfl 19 (by decide) kf60 (fun _ h9 => h9) rfl dX7_noted_20 ?_
    refine lv_bipush (v := 6) hx hb dX7_noted_23 (by decide) ?_
    refine mw_ild hx hb hK hP 14 (by decide) 0 mF_14 rfl 6 (by decide) (by decide) rfl dX7_noted_25 ?_
    refine lv_goto (tgt := 31) hx hb dX7_noted_26 (by decide) ?_
    refine lv_iconst (v := 1) hx hb dX7_noted_31 (by decide) ?_
    refine lv_isub hx hb dX7_noted_32 ?_
    refine g_callS (As := [.int k, .int 0, .int ((σ 14 6) - 1)]) (rest := []) ⟨hx, hb, hml, hown, hts⟩ (m_in l k 0 ((σ 14 6) - 1)) (va_cwS 3 hts gX7_noted_X7_in rfl rfl rfl (by decide +kernel) ⟨by decide, by decide⟩) rfl rfl hl.1 (Nat.le_of_ble_eq_true rfl) dX7_noted_33 ⟨Nat.zero_le _, Nat.zero_le _⟩ ?_
    refine lv_if_eq (tgt := 48) hx hb dX7_noted_36 (by decide) (fun (c_3 : mIn k 0 ((σ 14 6) - 1) = 0) => ?_) (fun (c_3 : ¬ mIn k 0 ((σ 14 6) - 1) = 0) => ?_)
    · skip
      refine lv_bipush (v := (-4)) hx hb dX7_noted_48 (by decide) ?_
      exact g_iret hx hb hr hlocks hP hS dX7_noted_50 (by unfold mpNoted; rw [if_neg c_1, if_pos c_3] <;> rfl)
    · skip
      have ix_k : vp_in k 24 := mIn_cnt (N := 24) (by decide) hT (by decide) c_1 c_3
      refine lv_aload_n hx hb dX7_noted_39 rfl (lv_at hl 0 rfl) ?_
      refine mw_get (ci := 6) (C := RX7) (T := TX7) (N := 28) (v := .ref (ad 16)) hx hb hts hinX7 hown hK hP 0 (by decide) mF_0 rfl 21 (by decide) kf66 (fun _ h9 => h9) rfl dX7_noted_40 ?_
      refine lv_iload_n hx hb dX7_noted_43 rfl (lv_at hl 1 rfl) ?_
      refine mw_ild hx hb hK hP 16 (by decide) 0 mF_16 rfl (ci k) (ci_lt ix_k) (by decide) (ci_eq ix_k (by decide)) dX7_noted_44 ?_
      refine lv_goto (tgt := 50) hx hb dX7_noted_45 (by decide) ?_
      exact g_iret hx hb hr hlocks hP hS dX7_noted_50 (by unfold mpNoted; rw [if_neg c_1, if_neg c_3] <;> rfl)

def mpDrops (σ : Mem) (v : Int32) : Int32 × Mem :=
  if mIn v 0 7 = 0 then ((-1), mset σ 0 0 0)
  else if σ 1 (ci v) = 0 then ((-4), mset σ 0 0 0)
  else (σ 2 (ci v), mset σ 0 0 0)
set_option maxHeartbeats 4000000 in
set_option maxRecDepth 100000 in
theorem m_drops (l : Launch) (D : va_G) (cy : Nat → ClassId) (ad wy : Nat → Nat) (mt : Nat) (hj : mJ 18 ad) (σ : Mem) (v : Int32)  : Met l yX7_drops wsX7_drops ({ frames := 1, cells := 0, slots := 0, locals := 22 }) (va_Pc [.ref (ad 0), .int v] (gPre 18 ad (mF ad cy) D cy wy mt σ)) (gQ 18 ad (mF ad cy) D (some (.int (mpDrops σ v).1)) (mpDrops σ v).2) 0 0 (mA 18 ad) := by
  refine g_met (cc := cX7_drops) (maxL := 2) (ret := (some .int)) (by decide) rfl (Nat.le_of_ble_eq_true rfl) ?_
  intro p e s m below meth c S hr hlocks h0 ls hl
  obtain ⟨hx, hb, hml, hown, hts⟩ := S
  have hP := h0.1
  have hK := h0.2.1
  have hS : va_S (mA 18 ad) s.heap s.heap [] := va_S.rf
  have hl : lv_has ls 2 [(0, .ref (ad 0)), (1, .int v)] := hl
  have kf72 : (Cond.fieldLink RX7 72 "BenchRunsModel" "thrown" "I").before (#[.ref (ad 0), .int v] : Array Value) s = true := hts _ (by decide +kernel)
  have hinX7 : ∀ w ∈ u_ws RX7 TX7 28, w ∈ wsX7_drops := by decide +kernel
  have kf7 : (Cond.fieldLink RX7 7 "BenchRunsModel" "isVial" "[Z").before (#[.ref (ad 0), .int v] : Array Value) s = true := hts _ (by decide +kernel)
  have kf13 : (Cond.fieldLink RX7 13 "BenchRunsModel" "drops" "[I").before (#[.ref (ad 0), .int v] : Array Value) s = true := hts _ (by decide +kernel)
  refine lv_aload_n hx hb dX7_drops_0 rfl (lv_at hl 0 rfl) ?_
  refine lv_iconst (v := 0) hx hb dX7_drops_1 (by decide) ?_
  refine mw_put (ci := 6) (C := RX7) (T := TX7) (N := 28) (v := 0) (ty := .int) hx hb hts hinX7 tyX7 tyX7_ok nmX7 hown hK hj hP hS 0 (by decide) mF_0 rfl 0 (by decide) kf72 (fun _ h9 => h9) rfl (by decide +kernel) rfl rfl (Nat.le_of_ble_eq_true rfl) rfl dX7_drops_2 (fun H locs hP hS => ?_)
  refine lv_iload_n hx hb dX7_drops_5 rfl (lv_at hl 1 rfl) ?_
  refine lv_iconst (v := 0) hx hb dX7_drops_6 (by decide) ?_
  refine lv_bipush (v := 7) hx hb dX7_drops_7 (by decide) ?_
  refine g_callS (As := [.int v, .int 0, .int 7]) (rest := []) ⟨hx, hb, hml, hown, hts⟩ (m_in l v 0 7) (va_cwS 3 hts gX7_drops_X7_in rfl rfl rfl (by decide +kernel) ⟨by decide, by decide⟩) rfl rfl hl.1 (Nat.le_of_ble_eq_true rfl) dX7_drops_9 ⟨Nat.zero_le _, Nat.zero_le _⟩ ?_
  refine lv_if_ne (tgt := 19) hx hb dX7_drops_12 (by decide) (fun (c_1 : ¬ mIn v 0 7 = 0) => ?_) (fun (c_1 : mIn v 0 7 = 0) => ?_)
  · skip
    have ix_v : vp_in v 8 := (mIn_in (by decide) c_1)
    refine lv_aload_n hx hb dX7_drops_19 rfl (lv_at hl 0 rfl) ?_
    refine mw_get (ci := 6) (C := RX7) (T := TX7) (N := 28) (v := .ref (ad 1)) hx hb hts hinX7 hown hK hP 0 (by decide) mF_0 rfl 1 (by decide) kf7 (fun _ h9 => h9) rfl dX7_drops_20 ?_
    refine lv_iload_n hx hb dX7_drops_23 rfl (lv_at hl 1 rfl) ?_
    refine mw_zld hx hb hK hP 1 (by decide) 1 mF_1 rfl (ci v) (ci_lt ix_v) (by decide) (ci_eq ix_v (by decide)) dX7_drops_24 ?_
    refine lv_if_eq (tgt := 37) hx hb dX7_drops_25 (by decide) (fun (c_2 : σ 1 (ci v) = 0) => ?_) (fun (c_2 : ¬ σ 1 (ci v) = 0) => ?_)
    · skip
      refine lv_bipush (v := (-4)) hx hb dX7_drops_37 (by decide) ?_
      exact g_iret hx hb hr hlocks hP hS dX7_drops_39 (by unfold mpDrops; rw [if_neg c_1, if_pos c_2] <;> rfl)
    · skip
      refine lv_aload_n hx hb dX7_drops_28 rfl (lv_at hl 0 rfl) ?_
      refine mw_get (ci := 6) (C := RX7) (T := TX7) (N := 28) (v := .ref (ad 2)) hx hb hts hinX7 hown hK hP 0 (by decide) mF_0 rfl 2 (by decide) kf13 (fun _ h9 => h9) rfl dX7_drops_29 ?_
      refine lv_iload_n hx hb dX7_drops_32 rfl (lv_at hl 1 rfl) ?_
      refine mw_ild hx hb hK hP 2 (by decide) 0 mF_2 rfl (ci v) (ci_lt ix_v) (by decide) (ci_eq ix_v (by decide)) dX7_drops_33 ?_
      refine lv_goto (tgt := 39) hx hb dX7_drops_34 (by decide) ?_
      exact g_iret hx hb hr hlocks hP hS dX7_drops_39 (by unfold mpDrops; rw [if_neg c_1, if_neg c_2] <;> rfl)
  · skip
    refine lv_iconst (v := (-1)) hx hb dX7_drops_15 (by decide) ?_
    refine lv_goto (tgt := 39) hx hb dX7_drops_16 (by decide) ?_
    exact g_iret hx hb hr hlocks hP hS dX7_drops_39 (by unfold mpDrops; rw [if_pos c_1] <;> rfl)

def mSumF (σ : Mem) : Nat → Nat → Int32 → Int32
  | 0, _, a => a
  | n + 1, k, a => mSumF σ n (k + 1) (a + (if σ 1 k = 0 then 0 else σ 2 k))
theorem mSumF_succ (σ : Mem) (n k : Nat) (a : Int32) : mSumF σ (n + 1) k a = mSumF σ n (k + 1) (a + (if σ 1 k = 0 then 0 else σ 2 k)) := rfl
def mpSum (σ : Mem)  : Int32 × Mem :=
  (mSumF σ 8 0 0, mset σ 0 0 0)
set_option maxHeartbeats 4000000 in
set_option maxRecDepth 100000 in
theorem m_sum (l : Launch) (D : va_G) (cy : Nat → ClassId) (ad wy : Nat → Nat) (mt : Nat) (hj : mJ 18 ad) (σ : Mem)   : Met l yX7_sum wsX7_sum ({ frames := 0, cells := 0, slots := 0, locals := 0 }) (va_Pc [.ref (ad 0)] (gPre 18 ad (mF ad cy) D cy wy mt σ)) (gQ 18 ad (mF ad cy) D (some (.int (mpSum σ).1)) (mpSum σ).2) 0 0 (mA 18 ad) := by
  refine g_met (cc := cX7_sum) (maxL := 3) (ret := (some .int)) (by decide) rfl (Nat.le_of_ble_eq_true rfl) ?_
  intro p e s m below meth c S hr hlocks h0 ls hl
  obtain ⟨hx, hb, hml, hown, hts⟩ := S
  have hP := h0.1
  have hK := h0.2.1
  have hS : va_S (mA 18 ad) s.heap s.heap [] := va_S.rf
  have hl : lv_has ls 3 [(0, .ref (ad 0))] := hl
  have kf72 : (Cond.fieldLink RX7 72 "BenchRunsModel" "thrown" "I").before (#[.ref (ad 0)] : Array Value) s = true := hts _ (by decide +kernel)
  have hinX7 : ∀ w ∈ u_ws RX7 TX7 28, w ∈ wsX7_sum := by decide +kernel
  have kf7 : (Cond.fieldLink RX7 7 "BenchRunsModel" "isVial" "[Z").before (#[.ref (ad 0)] : Array Value) s = true := hts _ (by decide +kernel)
  have kf13 : (Cond.fieldLink RX7 13 "BenchRunsModel" "drops" "[I").before (#[.ref (ad 0)] : Array Value) s = true := hts _ (by decide +kernel)
  refine lv_aload_n hx hb dX7_sum_0 rfl (lv_at hl 0 rfl) ?_
  refine lv_iconst (v := 0) hx hb dX7_sum_1 (by decide) ?_
  refine mw_put (ci := 6) (C := RX7) (T := TX7) (N := 28) (v := 0) (ty := .int) hx hb hts hinX7 tyX7 tyX7_ok nmX7 hown hK hj hP hS 0 (by decide) mF_0 rfl 0 (by decide) kf72 (fun _ h9 => h9) rfl (by decide +kernel) rfl rfl (Nat.le_of_ble_eq_true rfl) rfl dX7_sum_2 (fun H locs hP hS => ?_)
  refine lv_iconst (v := 0) hx hb dX7_sum_5 (by decide) ?_
  refine lv_istore_n (lv' := [(1, .int 0), (0, .ref (ad 0))]) hx hb dX7_sum_6 rfl hl (by decide) rfl (fun ls hl => ?_)
  refine lv_iconst (v := 0) hx hb dX7_sum_7 (by decide) ?_
  refine lv_istore_n (lv' := [(2, .int 0), (1, .int 0), (0, .ref (ad 0))]) hx hb dX7_sum_8 rfl hl (by decide) rfl (fun ls hl => ?_)
  have loop : ∀ (fu k : Nat) (a : Int32) (ls : Array Slot), k + fu = 8 → mSumF σ fu k a = mSumF σ 8 0 0 → lv_has ls 3 [(2, .int (nI k)), (1, .int a), (0, .ref (ad 0))] → W p l e ({ frames := 0, cells := 0, slots := 0, locals := 0 }) s m ([.ref (ad 0)] : List Value).toArray below meth c H locs 0 0 (MQ below (gQ 18 ad (mF ad cy) D (some (.int (mpSum σ).1)) (mpSum σ).2) ([.ref (ad 0)] : List Value).toArray s 0 0 (mA 18 ad)) (F0 m 9 ls []) := by
    intro fu
    induction fu with
    | zero =>
      intro k a ls hk hf hl
      have hk8 : k = 8 := by omega
      subst hk8
      refine lv_iload_n hx hb dX7_sum_9 rfl (lv_at hl 0 rfl) ?_
      refine lv_bipush (v := 8) hx hb dX7_sum_10 (by decide) ?_
      refine lv_icmp_ge (tgt := 43) hx hb dX7_sum_12 (by decide) (fun _ => ?_) (fun c9 => absurd (show (8 : Int32) ≤ nI 8 by decide) c9)
      refine lv_iload_n hx hb dX7_sum_43 rfl (lv_at hl 1 rfl) ?_
      exact g_iret hx hb hr hlocks hP hS dX7_sum_44 (by unfold mpSum; rw [← hf]; rfl)
    | succ fu ih =>
      intro k a ls hk hf hl
      refine lv_iload_n hx hb dX7_sum_9 rfl (lv_at hl 0 rfl) ?_
      refine lv_bipush (v := 8) hx hb dX7_sum_10 (by decide) ?_
      refine lv_icmp_ge (tgt := 43) hx hb dX7_sum_12 (by decide) (fun c9 => absurd c9 (nI_ge (b := 8) (by omega) (by decide))) (fun _ => ?_)
      refine lv_iload_n hx hb dX7_sum_15 rfl (lv_at hl 1 rfl) ?_
      refine lv_aload_n hx hb dX7_sum_16 rfl (lv_at hl 2 rfl) ?_
      refine mw_get (ci := 6) (C := RX7) (T := TX7) (N := 28) (v := .ref (ad 1)) hx hb hts hinX7 hown hK hP 0 (by decide) mF_0 rfl 1 (by decide) kf7 (fun _ h9 => h9) rfl dX7_sum_17 ?_
      refine lv_iload_n hx hb dX7_sum_20 rfl (lv_at hl 0 rfl) ?_
      refine mw_zld hx hb hK hP 1 (by decide) 1 mF_1 rfl k (by omega) (by decide) rfl dX7_sum_21 ?_
      refine lv_if_eq (tgt := 34) hx hb dX7_sum_22 (by decide) (fun (c_1 : σ 1 k = 0) => ?_) (fun (c_1 : ¬ σ 1 k = 0) => ?_)
      · skip
        refine lv_iconst (v := 0) hx hb dX7_sum_34 (by decide) ?_
        refine lv_iadd hx hb dX7_sum_35 ?_
        refine lv_istore_n (lv' := [(1, .int (a + 0)), (2, .int (nI k)), (0, .ref (ad 0))]) hx hb dX7_sum_36 rfl hl (by decide) rfl (fun ls hl => ?_)
        refine lv_iinc (v := nI (k + 1)) (lv' := [(2, .int (nI (k + 1))), (1, .int (a + 0)), (0, .ref (ad 0))]) hx hb dX7_sum_37 hl (k := 1) rfl (nI_1 k) (by decide) rfl (fun ls hl => ?_)
        refine lv_goto (tgt := 9) hx hb dX7_sum_40 (by decide) ?_
        exact ih (k + 1) (a + 0) ls (by omega) (Eq.trans (by rw [mSumF_succ, if_pos c_1]) hf) (lv_sub hl [0, 1, 2] rfl)
      · skip
        refine lv_aload_n hx hb dX7_sum_25 rfl (lv_at hl 2 rfl) ?_
        refine mw_get (ci := 6) (C := RX7) (T := TX7) (N := 28) (v := .ref (ad 2)) hx hb hts hinX7 hown hK hP 0 (by decide) mF_0 rfl 2 (by decide) kf13 (fun _ h9 => h9) rfl dX7_sum_26 ?_
        refine lv_iload_n hx hb dX7_sum_29 rfl (lv_at hl 0 rfl) ?_
        refine mw_ild hx hb hK hP 2 (by decide) 0 mF_2 rfl k (by omega) (by decide) rfl dX7_sum_30 ?_
        refine lv_goto (tgt := 35) hx hb dX7_sum_31 (by decide) ?_
        refine lv_iadd hx hb dX7_sum_35 ?_
        refine lv_istore_n (lv' := [(1, .int (a + (σ 2 k))), (2, .int (nI k)), (0, .ref (ad 0))]) hx hb dX7_sum_36 rfl hl (by decide) rfl (fun ls hl => ?_)
        refine lv_iinc (v := nI (k + 1)) (lv' := [(2, .int (nI (k + 1))), (1, .int (a + (σ 2 k))), (0, .ref (ad 0))]) hx hb dX7_sum_37 hl (k := 1) rfl (nI_1 k) (by decide) rfl (fun ls hl => ?_)
        refine lv_goto (tgt := 9) hx hb dX7_sum_40 (by decide) ?_
        exact ih (k + 1) (a + (σ 2 k)) ls (by omega) (Eq.trans (by rw [mSumF_succ, if_neg c_1]) hf) (lv_sub hl [0, 1, 2] rfl)
  exact loop 8 0 0 ls (by omega) rfl (lv_sub hl [0, 1, 2] rfl)

def mReset (σ : Mem) : Mem := mset (mset (mset (mset (mset (mset (mset (mset (mset (mset σ 0 0 0) 14 0 0) 14 1 0) 14 2 0) 14 3 0) 14 4 0) 14 5 0) 14 6 0) 14 7 0) 0 23 0
theorem kM_reset (σ : Mem) : kM σ (mReset σ) := by
  unfold mReset
  exact ((((((((((kM.rf σ).set (by omega)).set (by omega)).set (by omega)).set (by omega)).set (by omega)).set (by omega)).set (by omega)).set (by omega)).set (by omega)).set (by omega)
theorem mOK_reset {σ : Mem} (hB : mbx σ) : mOK 0 0 (mReset σ) := by
  refine ⟨⟨0, 0, 0, ?_, ?_, ?_, by decide, by decide, by decide⟩, ?_, 0, by decide, ?_⟩
  · rfl
  · rfl
  · rfl
  · exact hB
  · rfl
def mBats (fi la wr : Int32) : Nat → Mem → Nat → Int32 × Mem
  | 0, σ, _ => (0, σ)
  | fu + 1, σ, bb =>
    if la < nI bb then ((la - fi) + 1, σ)
    else if (mBatch σ bb).1 = 5 then (if wr = 0 then ((-10), (mBatch σ bb).2) else ((-10), mInStead (mBatch σ bb).2 (ci ((mBatch σ bb).2 0 23)) (30 + (nI bb))))
    else if (mBatch σ bb).1 = 0 then mBats fi la wr fu (mBatch σ bb).2 (bb + 1)
    else if (mBatch σ bb).1 = 4 then (100 + ((mBatch σ bb).2 0 27), (mBatch σ bb).2)
    else ((-11), (mBatch σ bb).2)
theorem mBats_succ (fi la wr : Int32) (fu : Nat) (σ : Mem) (bb : Nat) : mBats fi la wr (fu + 1) σ bb = if la < nI bb then ((la - fi) + 1, σ)
    else if (mBatch σ bb).1 = 5 then (if wr = 0 then ((-10), (mBatch σ bb).2) else ((-10), mInStead (mBatch σ bb).2 (ci ((mBatch σ bb).2 0 23)) (30 + (nI bb))))
    else if (mBatch σ bb).1 = 0 then mBats fi la wr fu (mBatch σ bb).2 (bb + 1)
    else if (mBatch σ bb).1 = 4 then (100 + ((mBatch σ bb).2 0 27), (mBatch σ bb).2)
    else ((-11), (mBatch σ bb).2) := rfl
def mpRun (σ : Mem) (fi la wr : Int32) : Int32 × Mem := if mIsB fi = 0 then ((-1), mset σ 0 0 0) else if mIsB la = 0 then ((-1), mset σ 0 0 0) else if fi ≤ la then mBats fi la wr 5 (mReset σ) (ci fi) else ((-1), mset σ 0 0 0)
set_option maxHeartbeats 4000000 in
set_option maxRecDepth 100000 in
theorem m_run (l : Launch) (D : va_G) (cy : Nat → ClassId) (ad wy : Nat → Nat) (mt : Nat) (hj : mJ 18 ad) (σ : Mem) (fi la wr : Int32) (hR : mR σ) (hB : mbx σ) : Met l yX7_run wsX7_run ({ frames := 8, cells := 0, slots := 0, locals := 181 }) (va_Pc [.ref (ad 0), .int fi, .int la, .int wr] (gPre 18 ad (mF ad cy) D cy wy mt σ)) (gQ 18 ad (mF ad cy) D (some (.int (mpRun σ fi la wr).1)) (mpRun σ fi la wr).2) 0 0 (mA 18 ad) := by
  refine g_met (cc := cX7_run) (maxL := 6) (ret := (some .int)) (by decide) rfl (Nat.le_of_ble_eq_true rfl) ?_
  intro p e s m below meth c S hr hlocks h0 ls hl
  obtain ⟨hx, hb, hml, hown, hts⟩ := S
  have hP := h0.1
  have hK := h0.2.1
  have hS : va_S (mA 18 ad) s.heap s.heap [] := va_S.rf
  have hl : lv_has ls 6 [(0, .ref (ad 0)), (1, .int fi), (2, .int la), (3, .int wr)] := hl
  have kf72 : (Cond.fieldLink RX7 72 "BenchRunsModel" "thrown" "I").before (#[.ref (ad 0), .int fi, .int la, .int wr] : Array Value) s = true := hts _ (by decide +kernel)
  have hinX7 : ∀ w ∈ u_ws RX7 TX7 28, w ∈ wsX7_run := by decide +kernel
  have kf60 : (Cond.fieldLink RX7 60 "BenchRunsModel" "told" "[I").before (#[.ref (ad 0), .int fi, .int la, .int wr] : Array Value) s = true := hts _ (by decide +kernel)
  have kf146 : (Cond.fieldLink RX7 146 "BenchRunsModel" "whys" "I").before (#[.ref (ad 0), .int fi, .int la, .int wr] : Array Value) s = true := hts _ (by decide +kernel)
  have kf110 : (Cond.fieldLink RX7 110 "BenchRunsModel" "stopped" "I").before (#[.ref (ad 0), .int fi, .int la, .int wr] : Array Value) s = true := hts _ (by decide +kernel)
  refine lv_aload_n hx hb dX7_run_0 rfl (lv_at hl 0 rfl) ?_
  refine lv_iconst (v := 0) hx hb dX7_run_1 (by decide) ?_
  refine mw_put (ci := 6) (C := RX7) (T := TX7) (N := 28) (v := 0) (ty := .int) hx hb hts hinX7 tyX7 tyX7_ok nmX7 hown hK hj hP hS 0 (by decide) mF_0 rfl 0 (by decide) kf72 (fun _ h9 => h9) rfl (by decide +kernel) rfl rfl (Nat.le_of_ble_eq_true rfl) rfl dX7_run_2 (fun H locs hP hS => ?_)
  refine lv_iload_n hx hb dX7_run_5 rfl (lv_at hl 1 rfl) ?_
  refine g_callS (As := [.int fi]) (rest := []) ⟨hx, hb, hml, hown, hts⟩ (m_isBatch l fi) (va_cwS 1 hts gX7_run_X7_isBatch rfl rfl rfl (by decide +kernel) ⟨by decide, by decide⟩) rfl rfl hl.1 (Nat.le_of_ble_eq_true rfl) dX7_run_6 ⟨Nat.zero_le _, Nat.zero_le _⟩ ?_
  refine lv_if_eq (tgt := 24) hx hb dX7_run_9 (by decide) (fun (c_1 : mIsB fi = 0) => ?_) (fun (c_1 : ¬ mIsB fi = 0) => ?_)
  · skip
    refine lv_iconst (v := (-1)) hx hb dX7_run_24 (by decide) ?_
    exact g_iret hx hb hr hlocks hP hS dX7_run_25 (by unfold mpRun; rw [if_pos c_1] <;> rfl)
  · skip
    have ix_fi : vp_in fi 4 := (mIsB_in c_1)
    refine lv_iload_n hx hb dX7_run_12 rfl (lv_at hl 2 rfl) ?_
    refine g_callS (As := [.int la]) (rest := []) ⟨hx, hb, hml, hown, hts⟩ (m_isBatch l la) (va_cwS 1 hts gX7_run_X7_isBatch rfl rfl rfl (by decide +kernel) ⟨by decide, by decide⟩) rfl rfl hl.1 (Nat.le_of_ble_eq_true rfl) dX7_run_13 ⟨Nat.zero_le _, Nat.zero_le _⟩ ?_
    refine lv_if_eq (tgt := 24) hx hb dX7_run_16 (by decide) (fun (c_2 : mIsB la = 0) => ?_) (fun (c_2 : ¬ mIsB la = 0) => ?_)
    · skip
      refine lv_iconst (v := (-1)) hx hb dX7_run_24 (by decide) ?_
      exact g_iret hx hb hr hlocks hP hS dX7_run_25 (by unfold mpRun; rw [if_neg c_1, if_pos c_2] <;> rfl)
    · skip
      have ix_la : vp_in la 4 := (mIsB_in c_2)
      refine lv_iload_n hx hb dX7_run_19 rfl (lv_at hl 1 rfl) ?_
      refine lv_iload_n hx hb dX7_run_20 rfl (lv_at hl 2 rfl) ?_
      refine lv_icmp_le (tgt := 26) hx hb dX7_run_21 (by decide) (fun (c_3 : fi ≤ la) => ?_) (fun (c_3 : ¬ fi ≤ la) => ?_)
      · skip
        refine lv_iconst (v := 0) hx hb dX7_run_26 (by decide) ?_
        refine lv_istore (lv' := [(4, .int 0), (0, .ref (ad 0)), (1, .int fi), (2, .int la), (3, .int wr)]) hx hb dX7_run_27 hl (by decide) rfl (fun ls hl => ?_)
        refine lv_iload hx hb dX7_run_29 (lv_at hl 0 rfl) ?_
        refine lv_bipush (v := 8) hx hb dX7_run_31 (by decide) ?_
        refine lv_icmp_ge (tgt := 50) hx hb dX7_run_33 (by decide) (fun c9 => absurd c9 (by decide)) (fun _ => ?_)
        refine lv_aload_n hx hb dX7_run_36 rfl (lv_at hl 1 rfl) ?_
        refine mw_get (ci := 6) (C := RX7) (T := TX7) (N := 28) (v := .ref (ad 14)) hx hb hts hinX7 hown hK hP 0 (by decide) mF_0 rfl 19 (by decide) kf60 (fun _ h9 => h9) rfl dX7_run_37 ?_
        refine lv_iload hx hb dX7_run_40 (lv_at hl 0 rfl) ?_
        refine lv_iconst (v := 0) hx hb dX7_run_42 (by decide) ?_
        refine mw_ist hx hb hK hj hP hS 14 (by decide) 0 mF_14 rfl 0 (by decide) (by decide) rfl dX7_run_43 (fun H locs hP hS => ?_)
        refine lv_iinc (v := 1) (lv' := [(4, .int 1), (0, .ref (ad 0)), (1, .int fi), (2, .int la), (3, .int wr)]) hx hb dX7_run_44 hl (k := 0) rfl (by decide) (by decide) rfl (fun ls hl => ?_)
        refine lv_goto (tgt := 29) hx hb dX7_run_47 (by decide) ?_
        refine lv_iload hx hb dX7_run_29 (lv_at hl 0 rfl) ?_
        refine lv_bipush (v := 8) hx hb dX7_run_31 (by decide) ?_
        refine lv_icmp_ge (tgt := 50) hx hb dX7_run_33 (by decide) (fun c9 => absurd c9 (by decide)) (fun _ => ?_)
        refine lv_aload_n hx hb dX7_run_36 rfl (lv_at hl 1 rfl) ?_
        refine mw_get (ci := 6) (C := RX7) (T := TX7) (N := 28) (v := .ref (ad 14)) hx hb hts hinX7 hown hK hP 0 (by decide) mF_0 rfl 19 (by decide) kf60 (fun _ h9 => h9) rfl dX7_run_37 ?_
        refine lv_iload hx hb dX7_run_40 (lv_at hl 0 rfl) ?_
        refine lv_iconst (v := 0) hx hb dX7_run_42 (by decide) ?_
        refine mw_ist hx hb hK hj hP hS 14 (by decide) 0 mF_14 rfl 1 (by decide) (by decide) rfl dX7_run_43 (fun H locs hP hS => ?_)
        refine lv_iinc (v := 2) (lv' := [(4, .int 2), (0, .ref (ad 0)), (1, .int fi), (2, .int la), (3, .int wr)]) hx hb dX7_run_44 hl (k := 0) rfl (by decide) (by decide) rfl (fun ls hl => ?_)
        refine lv_goto (tgt := 29) hx hb dX7_run_47 (by decide) ?_
        refine lv_iload hx hb dX7_run_29 (lv_at hl 0 rfl) ?_
        refine lv_bipush (v := 8) hx hb dX7_run_31 (by decide) ?_
        refine lv_icmp_ge (tgt := 50) hx hb dX7_run_33 (by decide) (fun c9 => absurd c9 (by decide)) (fun _ => ?_)
        refine lv_aload_n hx hb dX7_run_36 rfl (lv_at hl 1 rfl) ?_
        refine mw_get (ci := 6) (C := RX7) (T := TX7) (N := 28) (v := .ref (ad 14)) hx hb hts hinX7 hown hK hP 0 (by decide) mF_0 rfl 19 (by decide) kf60 (fun _ h9 => h9) rfl dX7_run_37 ?_
        refine lv_iload hx hb dX7_run_40 (lv_at hl 0 rfl) ?_
        refine lv_iconst (v := 0) hx hb dX7_run_42 (by decide) ?_
        refine mw_ist hx hb hK hj hP hS 14 (by decide) 0 mF_14 rfl 2 (by decide) (by decide) rfl dX7_run_43 (fun H locs hP hS => ?_)
        refine lv_iinc (v := 3) (lv' := [(4, .int 3), (0, .ref (ad 0)), (1, .int fi), (2, .int la), (3, .int wr)]) hx hb dX7_run_44 hl (k := 0) rfl (by decide) (by decide) rfl (fun ls hl => ?_)
        refine lv_goto (tgt := 29) hx hb dX7_run_47 (by decide) ?_
        refine lv_iload hx hb dX7_run_29 (lv_at hl 0 rfl) ?_
        refine lv_bipush (v := 8) hx hb dX7_run_31 (by decide) ?_
        refine lv_icmp_ge (tgt := 50) hx hb dX7_run_33 (by decide) (fun c9 => absurd c9 (by decide)) (fun _ => ?_)
        refine lv_aload_n hx hb dX7_run_36 rfl (lv_at hl 1 rfl) ?_
        refine mw_get (ci := 6) (C := RX7) (T := TX7) (N := 28) (v := .ref (ad 14)) hx hb hts hinX7 hown hK hP 0 (by decide) mF_0 rfl 19 (by decide) kf60 (fun _ h9 => h9) rfl dX7_run_37 ?_
        refine lv_iload hx hb dX7_run_40 (lv_at hl 0 rfl) ?_
        refine lv_iconst (v := 0) hx hb dX7_run_42 (by decide) ?_
        refine mw_ist hx hb hK hj hP hS 14 (by decide) 0 mF_14 rfl 3 (by decide) (by decide) rfl dX7_run_43 (fun H locs hP hS => ?_)
        refine lv_iinc (v := 4) (lv' := [(4, .int 4), (0, .ref (ad 0)), (1, .int fi), (2, .int la), (3, .int wr)]) hx hb dX7_run_44 hl (k := 0) rfl (by decide) (by decide) rfl (fun ls hl => ?_)
        refine lv_goto (tgt := 29) hx hb dX7_run_47 (by decide) ?_
        refine lv_iload hx hb dX7_run_29 (lv_at hl 0 rfl) ?_
        refine lv_bipush (v := 8) hx hb dX7_run_31 (by decide) ?_
        refine lv_icmp_ge (tgt := 50) hx hb dX7_run_33 (by decide) (fun c9 => absurd c9 (by decide)) (fun _ => ?_)
        refine lv_aload_n hx hb dX7_run_36 rfl (lv_at hl 1 rfl) ?_
        refine mw_get (ci := 6) (C := RX7) (T := TX7) (N := 28) (v := .ref (ad 14)) hx hb hts hinX7 hown hK hP 0 (by decide) mF_0 rfl 19 (by decide) kf60 (fun _ h9 => h9) rfl dX7_run_37 ?_
        refine lv_iload hx hb dX7_run_40 (lv_at hl 0 rfl) ?_
        refine lv_iconst (v := 0) hx hb dX7_run_42 (by decide) ?_
        refine mw_ist hx hb hK hj hP hS 14 (by decide) 0 mF_14 rfl 4 (by decide) (by decide) rfl dX7_run_43 (fun H locs hP hS => ?_)
        refine lv_iinc (v := 5) (lv' := [(4, .int 5), (0, .ref (ad 0)), (1, .int fi), (2, .int la), (3, .int wr)]) hx hb dX7_run_44 hl (k := 0) rfl (by decide) (by decide) rfl (fun ls hl => ?_)
        refine lv_goto (tgt := 29) hx hb dX7_run_47 (by decide) ?_
        refine lv_iload hx hb dX7_run_29 (lv_at hl 0 rfl) ?_
        refine lv_bipush (v := 8) hx hb dX7_run_31 (by decide) ?_
        refine lv_icmp_ge (tgt := 50) hx hb dX7_run_33 (by decide) (fun c9 => absurd c9 (by decide)) (fun _ => ?_)
        refine lv_aload_n hx hb dX7_run_36 rfl (lv_at hl 1 rfl) ?_
        refine mw_get (ci := 6) (C := RX7) (T := TX7) (N := 28) (v := .ref (ad 14)) hx hb hts hinX7 hown hK hP 0 (by decide) mF_0 rfl 19 (by decide) kf60 (fun _ h9 => h9) rfl dX7_run_37 ?_
        refine lv_iload hx hb dX7_run_40 (lv_at hl 0 rfl) ?_
        refine lv_iconst (v := 0) hx hb dX7_run_42 (by decide) ?_
        refine mw_ist hx hb hK hj hP hS 14 (by decide) 0 mF_14 rfl 5 (by decide) (by decide) rfl dX7_run_43 (fun H locs hP hS => ?_)
        refine lv_iinc (v := 6) (lv' := [(4, .int 6), (0, .ref (ad 0)), (1, .int fi), (2, .int la), (3, .int wr)]) hx hb dX7_run_44 hl (k := 0) rfl (by decide) (by decide) rfl (fun ls hl => ?_)
        refine lv_goto (tgt := 29) hx hb dX7_run_47 (by decide) ?_
        refine lv_iload hx hb dX7_run_29 (lv_at hl 0 rfl) ?_
        refine lv_bipush (v := 8) hx hb dX7_run_31 (by decide) ?_
        refine lv_icmp_ge (tgt := 50) hx hb dX7_run_33 (by decide) (fun c9 => absurd c9 (by decide)) (fun _ => ?_)
        refine lv_aload_n hx hb dX7_run_36 rfl (lv_at hl 1 rfl) ?_
        refine mw_get (ci := 6) (C := RX7) (T := TX7) (N := 28) (v := .ref (ad 14)) hx hb hts hinX7 hown hK hP 0 (by decide) mF_0 rfl 19 (by decide) kf60 (fun _ h9 => h9) rfl dX7_run_37 ?_
        refine lv_iload hx hb dX7_run_40 (lv_at hl 0 rfl) ?_
        refine lv_iconst (v := 0) hx hb dX7_run_42 (by decide) ?_
        refine mw_ist hx hb hK hj hP hS 14 (by decide) 0 mF_14 rfl 6 (by decide) (by decide) rfl dX7_run_43 (fun H locs hP hS => ?_)
        refine lv_iinc (v := 7) (lv' := [(4, .int 7), (0, .ref (ad 0)), (1, .int fi), (2, .int la), (3, .int wr)]) hx hb dX7_run_44 hl (k := 0) rfl (by decide) (by decide) rfl (fun ls hl => ?_)
        refine lv_goto (tgt := 29) hx hb dX7_run_47 (by decide) ?_
        refine lv_iload hx hb dX7_run_29 (lv_at hl 0 rfl) ?_
        refine lv_bipush (v := 8) hx hb dX7_run_31 (by decide) ?_
        refine lv_icmp_ge (tgt := 50) hx hb dX7_run_33 (by decide) (fun c9 => absurd c9 (by decide)) (fun _ => ?_)
        refine lv_aload_n hx hb dX7_run_36 rfl (lv_at hl 1 rfl) ?_
        refine mw_get (ci := 6) (C := RX7) (T := TX7) (N := 28) (v := .ref (ad 14)) hx hb hts hinX7 hown hK hP 0 (by decide) mF_0 rfl 19 (by decide) kf60 (fun _ h9 => h9) rfl dX7_run_37 ?_
        refine lv_iload hx hb dX7_run_40 (lv_at hl 0 rfl) ?_
        refine lv_iconst (v := 0) hx hb dX7_run_42 (by decide) ?_
        refine mw_ist hx hb hK hj hP hS 14 (by decide) 0 mF_14 rfl 7 (by decide) (by decide) rfl dX7_run_43 (fun H locs hP hS => ?_)
        refine lv_iinc (v := 8) (lv' := [(4, .int 8), (0, .ref (ad 0)), (1, .int fi), (2, .int la), (3, .int wr)]) hx hb dX7_run_44 hl (k := 0) rfl (by decide) (by decide) rfl (fun ls hl => ?_)
        refine lv_goto (tgt := 29) hx hb dX7_run_47 (by decide) ?_
        refine lv_iload hx hb dX7_run_29 (lv_at hl 0 rfl) ?_
        refine lv_bipush (v := 8) hx hb dX7_run_31 (by decide) ?_
        refine lv_icmp_ge (tgt := 50) hx hb dX7_run_33 (by decide) (fun _ => ?_) (fun c9 => absurd c9 (by decide))
        refine lv_aload_n hx hb dX7_run_50 rfl (lv_at hl 1 rfl) ?_
        refine lv_iconst (v := 0) hx hb dX7_run_51 (by decide) ?_
        refine mw_put (ci := 6) (C := RX7) (T := TX7) (N := 28) (v := 0) (ty := .int) hx hb hts hinX7 tyX7 tyX7_ok nmX7 hown hK hj hP hS 0 (by decide) mF_0 rfl 23 (by decide) kf146 (fun _ h9 => h9) rfl (by decide +kernel) rfl rfl (Nat.le_of_ble_eq_true rfl) rfl dX7_run_52 (fun H locs hP hS => ?_)
        refine lv_iload_n hx hb dX7_run_55 rfl (lv_at hl 2 rfl) ?_
        refine lv_istore (lv' := [(4, .int fi), (0, .ref (ad 0)), (1, .int fi), (2, .int la), (3, .int wr)]) hx hb dX7_run_56 hl (by decide) rfl (fun ls hl => ?_)
        have loop : ∀ (fu bb : Nat) (τ : Mem) (H : Heap) (locs : List Loc) (ls : Array Slot), 5 ≤ bb + fu → bb ≤ 4 → mR τ → mOK (14 * bb) (14 * bb) τ → mBats fi la wr fu τ bb = mBats fi la wr 5 (mReset σ) (ci fi) → va_P D vwCl (mW 18 ad (mF ad cy) τ) H → va_S (mA 18 ad) s.heap H locs → lv_has ls 6 [(4, .int (nI bb)), (0, .ref (ad 0)), (1, .int fi), (2, .int la), (3, .int wr)] → W p l e ({ frames := 8, cells := 0, slots := 0, locals := 181 }) s m ([.ref (ad 0), .int fi, .int la, .int wr] : List Value).toArray below meth c H locs 0 0 (MQ below (gQ 18 ad (mF ad cy) D (some (.int (mpRun σ fi la wr).1)) (mpRun σ fi la wr).2) ([.ref (ad 0), .int fi, .int la, .int wr] : List Value).toArray s 0 0 (mA 18 ad)) (F0 m 58 ls []) := by
          intro fu
          induction fu with
          | zero =>
            intro bb τ H locs ls h5 h4
            exact absurd h5 (by omega)
          | succ fu ih =>
            intro bb τ H locs ls h5 h4 hR hO hf hP hS hl
            refine lv_iload hx hb dX7_run_58 (lv_at hl 0 rfl) ?_
            refine lv_iload_n hx hb dX7_run_60 rfl (lv_at hl 3 rfl) ?_
            refine lv_icmp_gt (tgt := 124) hx hb dX7_run_61 (by decide) (fun (c_4 : la < nI bb) => ?_) (fun (c_4 : ¬ la < nI bb) => ?_)
            · skip
              refine lv_iload_n hx hb dX7_run_124 rfl (lv_at hl 3 rfl) ?_
              refine lv_iload_n hx hb dX7_run_125 rfl (lv_at hl 2 rfl) ?_
              refine lv_isub hx hb dX7_run_126 ?_
              refine lv_iconst (v := 1) hx hb dX7_run_127 (by decide) ?_
              refine lv_iadd hx hb dX7_run_128 ?_
              exact g_iret hx hb hr hlocks hP hS dX7_run_129 (by unfold mpRun; rw [if_neg c_1, if_neg c_2, if_pos c_3]; exact hf.symm.trans (by rw [mBats_succ, if_pos c_4]))
            · skip
              have hb4 : bb < 4 := bb_lt ix_la c_4 h4
              have hS2 := sM_batch (b := bb) hb4 hR
              refine lv_aload_n hx hb dX7_run_64 rfl (lv_at hl 1 rfl) ?_
              refine lv_iload hx hb dX7_run_65 (lv_at hl 0 rfl) ?_
              refine g_callV (As := [.int (nI bb)]) (rest := []) (N := 28) (T := TX7) (ci := 6) ⟨hx, hb, hml, hown, hts⟩ 0 (m_works l D cy ad wy mt hj τ bb hb4 (14 * bb) (14 * bb) (by omega) (by omega) hR hO) (cwV 1 hts gX7_run_X7_works rfl rfl rfl (by decide +kernel) ⟨by decide, by decide⟩) h0 hP hS (by decide) mF_0 rfl rfl rfl hl.1 (Nat.le_of_ble_eq_true rfl) dX7_run_67 ⟨Nat.zero_le _, Nat.zero_le _⟩ (fun H locs hP hS => ?_)
              refine lv_istore (lv' := [(5, .int ((mBatch τ bb).1)), (4, .int (nI bb)), (0, .ref (ad 0)), (1, .int fi), (2, .int la), (3, .int wr)]) hx hb dX7_run_70 hl (by decide) rfl (fun ls hl => ?_)
              refine lv_iload hx hb dX7_run_72 (lv_at hl 0 rfl) ?_
              refine lv_iconst (v := 5) hx hb dX7_run_74 (by decide) ?_
              refine lv_icmp_ne (tgt := 94) hx hb dX7_run_75 (by decide) (fun (c_5 : ¬ (mBatch τ bb).1 = 5) => ?_) (fun (c_5 : (mBatch τ bb).1 = 5) => ?_)
              · skip
                refine lv_iload hx hb dX7_run_94 (lv_at hl 0 rfl) ?_
                refine lv_if_eq (tgt := 118) hx hb dX7_run_96 (by decide) (fun (c_6 : (mBatch τ bb).1 = 0) => ?_) (fun (c_6 : ¬ (mBatch τ bb).1 = 0) => ?_)
                · skip
                  refine lv_iinc (v := nI (bb + 1)) (lv' := [(4, .int (nI (bb + 1))), (5, .int ((mBatch τ bb).1)), (0, .ref (ad 0)), (1, .int fi), (2, .int la), (3, .int wr)]) hx hb dX7_run_118 hl (k := 1) rfl (nI_1 bb) (by decide) rfl (fun ls hl => ?_)
                  refine lv_goto (tgt := 58) hx hb dX7_run_121 (by decide) ?_
                  exact ih (bb + 1) ((mBatch τ bb).2) H locs ls (by omega) (by omega) (hS2.1.mR hR) ((hS2.2 _ _ hO).le (by omega) (by omega)) (Eq.trans (by rw [mBats_succ, if_neg c_4, if_neg c_5, if_pos c_6]) hf) hP hS (lv_sub hl [0, 2, 3, 4, 5] rfl)
                · skip
                  refine lv_iload hx hb dX7_run_99 (lv_at hl 0 rfl) ?_
                  refine lv_iconst (v := 4) hx hb dX7_run_101 (by decide) ?_
                  refine lv_icmp_ne (tgt := 115) hx hb dX7_run_102 (by decide) (fun (c_7 : ¬ (mBatch τ bb).1 = 4) => ?_) (fun (c_7 : (mBatch τ bb).1 = 4) => ?_)
                  · skip
                    refine lv_bipush (v := (-11)) hx hb dX7_run_115 (by decide) ?_
                    exact g_iret hx hb hr hlocks hP hS dX7_run_117 (by unfold mpRun; rw [if_neg c_1, if_neg c_2, if_pos c_3]; exact hf.symm.trans (by rw [mBats_succ, if_neg c_4, if_neg c_5, if_neg c_6, if_neg c_7]))
                  · skip
                    refine lv_bipush (v := 100) hx hb dX7_run_105 (by decide) ?_
                    refine lv_aload_n hx hb dX7_run_107 rfl (lv_at hl 2 rfl) ?_
                    refine mw_get (ci := 6) (C := RX7) (T := TX7) (N := 28) (v := .int (((mBatch τ bb).2) 0 27)) hx hb hts hinX7 hown hK hP 0 (by decide) mF_0 rfl 27 (by decide) kf110 (fun _ h9 => h9) rfl dX7_run_108 ?_
                    refine lv_iadd hx hb dX7_run_111 ?_
                    refine lv_goto (tgt := 117) hx hb dX7_run_112 (by decide) ?_
                    exact g_iret hx hb hr hlocks hP hS dX7_run_117 (by unfold mpRun; rw [if_neg c_1, if_neg c_2, if_pos c_3]; exact hf.symm.trans (by rw [mBats_succ, if_neg c_4, if_neg c_5, if_neg c_6, if_pos c_7]))
              · skip
                refine lv_iload_n hx hb dX7_run_78 rfl (lv_at hl 5 rfl) ?_
                refine lv_if_eq (tgt := 91) hx hb dX7_run_79 (by decide) (fun (c_8 : wr = 0) => ?_) (fun (c_8 : ¬ wr = 0) => ?_)
                · skip
                  refine lv_bipush (v := (-10)) hx hb dX7_run_91 (by decide) ?_
                  exact g_iret hx hb hr hlocks hP hS dX7_run_93 (by unfold mpRun; rw [if_neg c_1, if_neg c_2, if_pos c_3]; exact hf.symm.trans (by rw [mBats_succ, if_neg c_4, if_pos c_5, if_pos c_8]))
                · skip
                  refine lv_aload_n hx hb dX7_run_82 rfl (lv_at hl 2 rfl) ?_
                  refine lv_bipush (v := 30) hx hb dX7_run_83 (by decide) ?_
                  refine lv_iload hx hb dX7_run_85 (lv_at hl 1 rfl) ?_
                  refine lv_iadd hx hb dX7_run_87 ?_
                  refine g_callV (As := [.int (30 + (nI bb))]) (rest := []) (N := 28) (T := TX7) (ci := 6) ⟨hx, hb, hml, hown, hts⟩ 0 (m_inStead l D cy ad wy mt hj ((mBatch τ bb).2) (ci (((mBatch τ bb).2) 0 23)) (30 + (nI bb)) (mwy_ci (hS2.2 _ _ hO).2.2).1 (mwy_ci (hS2.2 _ _ hO).2.2).2) (cwV 1 hts gX7_run_X7_inStead rfl rfl rfl (by decide +kernel) ⟨by decide, by decide⟩) h0 hP hS (by decide) mF_0 rfl rfl rfl hl.1 (Nat.le_of_ble_eq_true rfl) dX7_run_88 ⟨Nat.zero_le _, Nat.zero_le _⟩ (fun H locs hP hS => ?_)
                  refine lv_bipush (v := (-10)) hx hb dX7_run_91 (by decide) ?_
                  exact g_iret hx hb hr hlocks hP hS dX7_run_93 (by unfold mpRun; rw [if_neg c_1, if_neg c_2, if_pos c_3]; exact hf.symm.trans (by rw [mBats_succ, if_neg c_4, if_pos c_5, if_neg c_8]))
        exact loop 5 (ci fi) (mReset σ) _ _ ls (by omega) (Nat.le_of_lt (ci_lt ix_fi)) ((kM_reset σ).mR hR) ((mOK_reset hB).le (by omega) (by omega)) rfl hP hS (by rw [← ci_eq ix_fi (by decide)]; exact lv_sub hl [0, 1, 2, 3, 4] rfl)
      · skip
        refine lv_iconst (v := (-1)) hx hb dX7_run_24 (by decide) ?_
        exact g_iret hx hb hr hlocks hP hS dX7_run_25 (by unfold mpRun; rw [if_neg c_1, if_neg c_2, if_neg c_3] <;> rfl)
