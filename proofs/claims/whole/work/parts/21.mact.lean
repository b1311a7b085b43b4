def mAct (σ : Mem) (kd j v : Nat) : Int32 × Mem :=
  if kd = 0 then mMore σ v (nI j)
  else if kd = 1 then (if nI j ≤ σ 2 v then (0, mset σ 2 v ((σ 2 v) - (nI j)))
    else mFail σ 2)
  else if kd = 2 then (if nI j = 0 then mFail σ 3
    else (0, mset σ 2 v ((σ 2 v) / (nI j))))
  else if kd = 3 then mPour σ v j
  else if kd = 4 then (1, σ)
  else if kd = 5 then (3, σ)
  else if kd = 6 then (4, mset σ 0 27 (nI j))
  else if kd = 7 then mFail σ (10 + (nI j))
  else if kd = 8 then (if nI j ≤ σ 2 v then (0, σ)
    else (1, σ))
  else if kd = 9 then (if nI j ≤ σ 0 26 then (0, σ)
    else (2, σ))
  else if kd = 10 then mUse σ j
  else if kd = 11 then mGrip σ j v
  else if kd = 12 then (if 10 ≤ nI j then (0, mset σ 0 12 ((nI j) - 10))
    else mFail σ 6)
  else if kd = 13 then mBoxes σ (((nI j) / 3) - 2) ((nI j) - (nI j) / 3 * 3)
  else if kd = 14 then mGrids σ (((nI j) / 6) - 1) (((nI j) - (nI j) / 6 * 6) - 1)
  else if kd = 15 then mPut σ (j % 10) (j / 10)
  else if kd = 16 then mCount σ v (nI j)
  else mRaise σ j
set_option maxHeartbeats 4000000 in
set_option maxRecDepth 100000 in
theorem m_act (l : Launch) (D : va_G) (cy : Nat → ClassId) (ad wy : Nat → Nat) (mt : Nat) (hj : mJ 18 ad) (σ : Mem) (kd j v : Nat) (hkd : kd < 18) (hj200 : j ≤ 200) (hv : v < 8) (hj4 : 16 ≤ kd → j < 4) (hbx : ∀ pl : Nat, pl ≤ 200 → nI pl < σ 0 13 → pl < 18) : Met l yX7_act wsX7_act ({ frames := 4, cells := 0, slots := 0, locals := 88 }) (va_Pc [.ref (ad 0), .int (nI kd), .int (nI j), .int (nI v)] (gPre 18 ad (mF ad cy) D cy wy mt σ)) (gQ 18 ad (mF ad cy) D (some (.int (mAct σ kd j v).1)) (mAct σ kd j v).2) 0 0 (mA 18 ad) := by
  refine g_met (cc := cX7_act) (maxL := 4) (ret := (some .int)) (by decide) rfl (Nat.le_of_ble_eq_true rfl) ?_
  intro p e s m below meth c S hr hlocks h0 ls hl
  obtain ⟨hx, hb, hml, hown, hts⟩ := S
  have hP := h0.1
  have hK := h0.2.1
  have hS : va_S (mA 18 ad) s.heap s.heap [] := va_S.rf
  have hl : lv_has ls 4 [(0, .ref (ad 0)), (1, .int (nI kd)), (2, .int (nI j)), (3, .int (nI v))] := hl
  have kf13 : (Cond.fieldLink RX7 13 "BenchRunsModel" "drops" "[I").before (#[.ref (ad 0), .int (nI kd), .int (nI j), .int (nI v)] : Array Value) s = true := hts _ (by decide +kernel)
  have hinX7 : ∀ w ∈ u_ws RX7 TX7 28, w ∈ wsX7_act := by decide +kernel
  have kf110 : (Cond.fieldLink RX7 110 "BenchRunsModel" "stopped" "I").before (#[.ref (ad 0), .int (nI kd), .int (nI j), .int (nI v)] : Array Value) s = true := hts _ (by decide +kernel)
  have kf113 : (Cond.fieldLink RX7 113 "BenchRunsModel" "again" "I").before (#[.ref (ad 0), .int (nI kd), .int (nI j), .int (nI v)] : Array Value) s = true := hts _ (by decide +kernel)
  have kf44 : (Cond.fieldLink RX7 44 "BenchRunsModel" "rack" "I").before (#[.ref (ad 0), .int (nI kd), .int (nI j), .int (nI v)] : Array Value) s = true := hts _ (by decide +kernel)
  refine lv_iload_n hx hb dX7_act_0 rfl (lv_at hl 1 rfl) ?_
  rcases (show kd = 0 ∨ kd = 1 ∨ kd = 2 ∨ kd = 3 ∨ kd = 4 ∨ kd = 5 ∨ kd = 6 ∨ kd = 7 ∨ kd = 8 ∨ kd = 9 ∨ kd = 10 ∨ kd = 11 ∨ kd = 12 ∨ kd = 13 ∨ kd = 14 ∨ kd = 15 ∨ kd = 16 ∨ kd = 17 by omega) with rfl | rfl | rfl | rfl | rfl | rfl | rfl | rfl | rfl | rfl | rfl | rfl | rfl | rfl | rfl | rfl | rfl | rfl
  · skip
    refine lv_tableIn (off := 83) (tgt := 84) hx hb dX7_act_1 (by decide) (by decide) (by decide) (by decide) ?_
    refine lv_aload_n hx hb dX7_act_84 rfl (lv_at hl 0 rfl) ?_
    refine lv_iload_n hx hb dX7_act_85 rfl (lv_at hl 3 rfl) ?_
    refine lv_iload_n hx hb dX7_act_86 rfl (lv_at hl 2 rfl) ?_
    refine g_callV (As := [.int (nI v), .int (nI j)]) (rest := []) (N := 28) (T := TX7) (ci := 6) ⟨hx, hb, hml, hown, hts⟩ 0 (m_more l D cy ad wy mt hj σ v (by omega) (nI j)) (cwV 2 hts gX7_act_X7_more rfl rfl rfl (by decide +kernel) ⟨by decide, by decide⟩) h0 hP hS (by decide) mF_0 rfl rfl rfl hl.1 (Nat.le_of_ble_eq_true rfl) dX7_act_87 ⟨Nat.zero_le _, Nat.zero_le _⟩ (fun H locs hP hS => ?_)
    exact g_iret hx hb hr hlocks hP hS dX7_act_90 (by unfold mAct; rw [if_pos (rfl : (0 : Nat) = 0)] <;> rfl)
  · skip
    refine lv_tableIn (off := 90) (tgt := 91) hx hb dX7_act_1 (by decide) (by decide) (by decide) (by decide) ?_
    refine lv_aload_n hx hb dX7_act_91 rfl (lv_at hl 0 rfl) ?_
    refine mw_get (ci := 6) (C := RX7) (T := TX7) (N := 28) (v := .ref (ad 2)) hx hb hts hinX7 hown hK hP 0 (by decide) mF_0 rfl 2 (by decide) kf13 (fun _ h9 => h9) rfl dX7_act_92 ?_
    refine lv_iload_n hx hb dX7_act_95 rfl (lv_at hl 3 rfl) ?_
    refine mw_ild hx hb hK hP 2 (by decide) 0 mF_2 rfl v (by omega) (by decide) rfl dX7_act_96 ?_
    refine lv_iload_n hx hb dX7_act_97 rfl (lv_at hl 2 rfl) ?_
    refine lv_icmp_ge (tgt := 107) hx hb dX7_act_98 (by decide) (fun c_1 => ?_) (fun c_1 => ?_)
    · skip
      refine lv_aload_n hx hb dX7_act_107 rfl (lv_at hl 0 rfl) ?_
      refine mw_get (ci := 6) (C := RX7) (T := TX7) (N := 28) (v := .ref (ad 2)) hx hb hts hinX7 hown hK hP 0 (by decide) mF_0 rfl 2 (by decide) kf13 (fun _ h9 => h9) rfl dX7_act_108 ?_
      refine lv_iload_n hx hb dX7_act_111 rfl (lv_at hl 3 rfl) ?_
      refine lv_dup2_11 hx hb dX7_act_112 rfl rfl ?_
      refine mw_ild hx hb hK hP 2 (by decide) 0 mF_2 rfl v (by omega) (by decide) rfl dX7_act_113 ?_
      refine lv_iload_n hx hb dX7_act_114 rfl (lv_at hl 2 rfl) ?_
      refine lv_isub hx hb dX7_act_115 ?_
      refine mw_ist hx hb hK hj hP hS 2 (by decide) 0 mF_2 rfl v (by omega) (by decide) rfl dX7_act_116 (fun H locs hP hS => ?_)
      refine lv_iconst (v := 0) hx hb dX7_act_117 (by decide) ?_
      exact g_iret hx hb hr hlocks hP hS dX7_act_118 (by unfold mAct; rw [if_neg (show ¬ (1 : Nat) = 0 by decide), if_pos (rfl : (1 : Nat) = 1), if_pos c_1] <;> rfl)
    · skip
      refine lv_aload_n hx hb dX7_act_101 rfl (lv_at hl 0 rfl) ?_
      refine lv_iconst (v := 2) hx hb dX7_act_102 (by decide) ?_
      refine g_callV (As := [.int 2]) (rest := []) (N := 28) (T := TX7) (ci := 6) ⟨hx, hb, hml, hown, hts⟩ 0 (m_fails l D cy ad wy mt hj σ 2 ) (cwV 1 hts gX7_act_X7_fails rfl rfl rfl (by decide +kernel) ⟨by decide, by decide⟩) h0 hP hS (by decide) mF_0 rfl rfl rfl hl.1 (Nat.le_of_ble_eq_true rfl) dX7_act_103 ⟨Nat.zero_le _, Nat.zero_le _⟩ (fun H locs hP hS => ?_)
      exact g_iret hx hb hr hlocks hP hS dX7_act_106 (by unfold mAct; rw [if_neg (show ¬ (1 : Nat) = 0 by decide), if_pos (rfl : (1 : Nat) = 1), if_neg c_1] <;> rfl)
  · skip
    refine lv_tableIn (off := 118) (tgt := 119) hx hb dX7_act_1 (by decide) (by decide) (by decide) (by decide) ?_
    refine lv_iload_n hx hb dX7_act_119 rfl (lv_at hl 2 rfl) ?_
    refine lv_if_ne (tgt := 129) hx hb dX7_act_120 (by decide) (fun c_2 => ?_) (fun c_2 => ?_)
    · skip
      refine lv_aload_n hx hb dX7_act_129 rfl (lv_at hl 0 rfl) ?_
      refine mw_get (ci := 6) (C := RX7) (T := TX7) (N := 28) (v := .ref (ad 2)) hx hb hts hinX7 hown hK hP 0 (by decide) mF_0 rfl 2 (by decide) kf13 (fun _ h9 => h9) rfl dX7_act_130 ?_
      refine lv_iload_n hx hb dX7_act_133 rfl (lv_at hl 3 rfl) ?_
      refine lv_aload_n hx hb dX7_act_134 rfl (lv_at hl 0 rfl) ?_
      refine mw_get (ci := 6) (C := RX7) (T := TX7) (N := 28) (v := .ref (ad 2)) hx hb hts hinX7 hown hK hP 0 (by decide) mF_0 rfl 2 (by decide) kf13 (fun _ h9 => h9) rfl dX7_act_135 ?_
      refine lv_iload_n hx hb dX7_act_138 rfl (lv_at hl 3 rfl) ?_
      refine mw_ild hx hb hK hP 2 (by decide) 0 mF_2 rfl v (by omega) (by decide) rfl dX7_act_139 ?_
      refine lv_iload_n hx hb dX7_act_140 rfl (lv_at hl 2 rfl) ?_
      refine lv_idiv hx hb dX7_act_141 c_2 ?_
      refine mw_ist hx hb hK hj hP hS 2 (by decide) 0 mF_2 rfl v (by omega) (by decide) rfl dX7_act_142 (fun H locs hP hS => ?_)
      refine lv_iconst (v := 0) hx hb dX7_act_143 (by decide) ?_
      exact g_iret hx hb hr hlocks hP hS dX7_act_144 (by unfold mAct; rw [if_neg (show ¬ (2 : Nat) = 0 by decide), if_neg (show ¬ (2 : Nat) = 1 by decide), if_pos (rfl : (2 : Nat) = 2), if_neg c_2] <;> rfl)
    · skip
      refine lv_aload_n hx hb dX7_act_123 rfl (lv_at hl 0 rfl) ?_
      refine lv_iconst (v := 3) hx hb dX7_act_124 (by decide) ?_
      refine g_callV (As := [.int 3]) (rest := []) (N := 28) (T := TX7) (ci := 6) ⟨hx, hb, hml, hown, hts⟩ 0 (m_fails l D cy ad wy mt hj σ 3 ) (cwV 1 hts gX7_act_X7_fails rfl rfl rfl (by decide +kernel) ⟨by decide, by decide⟩) h0 hP hS (by decide) mF_0 rfl rfl rfl hl.1 (Nat.le_of_ble_eq_true rfl) dX7_act_125 ⟨Nat.zero_le _, Nat.zero_le _⟩ (fun H locs hP hS => ?_)
      exact g_iret hx hb hr hlocks hP hS dX7_act_128 (by unfold mAct; rw [if_neg (show ¬ (2 : Nat) = 0 by decide), if_neg (show ¬ (2 : Nat) = 1 by decide), if_pos (rfl : (2 : Nat) = 2), if_pos c_2] <;> rfl)
  · skip
    refine lv_tableIn (off := 144) (tgt := 145) hx hb dX7_act_1 (by decide) (by decide) (by decide) (by decide) ?_
    refine lv_aload_n hx hb dX7_act_145 rfl (lv_at hl 0 rfl) ?_
    refine lv_iload_n hx hb dX7_act_146 rfl (lv_at hl 3 rfl) ?_
    refine lv_iload_n hx hb dX7_act_147 rfl (lv_at hl 2 rfl) ?_
    refine g_callV (As := [.int (nI v), .int (nI j)]) (rest := []) (N := 28) (T := TX7) (ci := 6) ⟨hx, hb, hml, hown, hts⟩ 0 (m_pours l D cy ad wy mt hj σ v j (by omega) (by omega)) (cwV 2 hts gX7_act_X7_pours rfl rfl rfl (by decide +kernel) ⟨by decide, by decide⟩) h0 hP hS (by decide) mF_0 rfl rfl rfl hl.1 (Nat.le_of_ble_eq_true rfl) dX7_act_148 ⟨Nat.zero_le _, Nat.zero_le _⟩ (fun H locs hP hS => ?_)
    exact g_iret hx hb hr hlocks hP hS dX7_act_151 (by unfold mAct; rw [if_neg (show ¬ (3 : Nat) = 0 by decide), if_neg (show ¬ (3 : Nat) = 1 by decide), if_neg (show ¬ (3 : Nat) = 2 by decide), if_pos (rfl : (3 : Nat) = 3)] <;> rfl)
  · skip
    refine lv_tableIn (off := 151) (tgt := 152) hx hb dX7_act_1 (by decide) (by decide) (by decide) (by decide) ?_
    refine lv_iconst (v := 1) hx hb dX7_act_152 (by decide) ?_
    exact g_iret hx hb hr hlocks hP hS dX7_act_153 (by unfold mAct; rw [if_neg (show ¬ (4 : Nat) = 0 by decide), if_neg (show ¬ (4 : Nat) = 1 by decide), if_neg (show ¬ (4 : Nat) = 2 by decide), if_neg (show ¬ (4 : Nat) = 3 by decide), if_pos (rfl : (4 : Nat) = 4)] <;> rfl)
  · skip
    refine lv_tableIn (off := 153) (tgt := 154) hx hb dX7_act_1 (by decide) (by decide) (by decide) (by decide) ?_
    refine lv_iconst (v := 3) hx hb dX7_act_154 (by decide) ?_
    exact g_iret hx hb hr hlocks hP hS dX7_act_155 (by unfold mAct; rw [if_neg (show ¬ (5 : Nat) = 0 by decide), if_neg (show ¬ (5 : Nat) = 1 by decide), if_neg (show ¬ (5 : Nat) = 2 by decide), if_neg (show ¬ (5 : Nat) = 3 by decide), if_neg (show ¬ (5 : Nat) = 4 by decide), if_pos (rfl : (5 : Nat) = 5)] <;> rfl)
  · skip
    refine lv_tableIn (off := 155) (tgt := 156) hx hb dX7_act_1 (by decide) (by decide) (by decide) (by decide) ?_
    refine lv_aload_n hx hb dX7_act_156 rfl (lv_at hl 0 rfl) ?_
    refine lv_iload_n hx hb dX7_act_157 rfl (lv_at hl 2 rfl) ?_
    refine mw_put (ci := 6) (C := RX7) (T := TX7) (N := 28) (v := nI j) (ty := .int) hx hb hts hinX7 tyX7 tyX7_ok nmX7 hown hK hj hP hS 0 (by decide) mF_0 rfl 27 (by decide) kf110 (fun _ h9 => h9) rfl (by decide +kernel) rfl rfl (Nat.le_of_ble_eq_true rfl) rfl dX7_act_158 (fun H locs hP hS => ?_)
    refine lv_iconst (v := 4) hx hb dX7_act_161 (by decide) ?_
    exact g_iret hx hb hr hlocks hP hS dX7_act_162 (by unfold mAct; rw [if_neg (show ¬ (6 : Nat) = 0 by decide), if_neg (show ¬ (6 : Nat) = 1 by decide), if_neg (show ¬ (6 : Nat) = 2 by decide), if_neg (show ¬ (6 : Nat) = 3 by decide), if_neg (show ¬ (6 : Nat) = 4 by decide), if_neg (show ¬ (6 : Nat) = 5 by decide), if_pos (rfl : (6 : Nat) = 6)] <;> rfl)
  · skip
    refine lv_tableIn (off := 162) (tgt := 163) hx hb dX7_act_1 (by decide) (by decide) (by decide) (by decide) ?_
    refine lv_aload_n hx hb dX7_act_163 rfl (lv_at hl 0 rfl) ?_
    refine lv_bipush (v := 10) hx hb dX7_act_164 (by decide) ?_
    refine lv_iload_n hx hb dX7_act_166 rfl (lv_at hl 2 rfl) ?_
    refine lv_iadd hx hb dX7_act_167 ?_
    refine g_callV (As := [.int (10 + (nI j))]) (rest := []) (N := 28) (T := TX7) (ci := 6) ⟨hx, hb, hml, hown, hts⟩ 0 (m_fails l D cy ad wy mt hj σ (10 + (nI j)) ) (cwV 1 hts gX7_act_X7_fails rfl rfl rfl (by decide +kernel) ⟨by decide, by decide⟩) h0 hP hS (by decide) mF_0 rfl rfl rfl hl.1 (Nat.le_of_ble_eq_true rfl) dX7_act_168 ⟨Nat.zero_le _, Nat.zero_le _⟩ (fun H locs hP hS => ?_)
    exact g_iret hx hb hr hlocks hP hS dX7_act_171 (by unfold mAct; rw [if_neg (show ¬ (7 : Nat) = 0 by decide), if_neg (show ¬ (7 : Nat) = 1 by decide), if_neg (show ¬ (7 : Nat) = 2 by decide), if_neg (show ¬ (7 : Nat) = 3 by decide), if_neg (show ¬ (7 : Nat) = 4 by decide), if_neg (show ¬ (7 : Nat) = 5 by decide), if_neg (show ¬ (7 : Nat) = 6 by decide), if_pos (rfl : (7 : Nat) = 7)] <;> rfl)
  · skip
    refine lv_tableIn (off := 171) (tgt := 172) hx hb dX7_act_1 (by decide) (by decide) (by decide) (by decide) ?_
    refine lv_aload_n hx hb dX7_act_172 rfl (lv_at hl 0 rfl) ?_
    refine mw_get (ci := 6) (C := RX7) (T := TX7) (N := 28) (v := .ref (ad 2)) hx hb hts hinX7 hown hK hP 0 (by decide) mF_0 rfl 2 (by decide) kf13 (fun _ h9 => h9) rfl dX7_act_173 ?_
    refine lv_iload_n hx hb dX7_act_176 rfl (lv_at hl 3 rfl) ?_
    refine mw_ild hx hb hK hP 2 (by decide) 0 mF_2 rfl v (by omega) (by decide) rfl dX7_act_177 ?_
    refine lv_iload_n hx hb dX7_act_178 rfl (lv_at hl 2 rfl) ?_
    refine lv_icmp_ge (tgt := 186) hx hb dX7_act_179 (by decide) (fun c_3 => ?_) (fun c_3 => ?_)
    · skip
      refine lv_iconst (v := 0) hx hb dX7_act_186 (by decide) ?_
      exact g_iret hx hb hr hlocks hP hS dX7_act_187 (by unfold mAct; rw [if_neg (show ¬ (8 : Nat) = 0 by decide), if_neg (show ¬ (8 : Nat) = 1 by decide), if_neg (show ¬ (8 : Nat) = 2 by decide), if_neg (show ¬ (8 : Nat) = 3 by decide), if_neg (show ¬ (8 : Nat) = 4 by decide), if_neg (show ¬ (8 : Nat) = 5 by decide), if_neg (show ¬ (8 : Nat) = 6 by decide), if_neg (show ¬ (8 : Nat) = 7 by decide), if_pos (rfl : (8 : Nat) = 8), if_pos c_3] <;> rfl)
    · skip
      refine lv_iconst (v := 1) hx hb dX7_act_182 (by decide) ?_
      refine lv_goto (tgt := 187) hx hb dX7_act_183 (by decide) ?_
      exact g_iret hx hb hr hlocks hP hS dX7_act_187 (by unfold mAct; rw [if_neg (show ¬ (8 : Nat) = 0 by decide), if_neg (show ¬ (8 : Nat) = 1 by decide), if_neg (show ¬ (8 : Nat) = 2 by decide), if_neg (show ¬ (8 : Nat) = 3 by decide), if_neg (show ¬ (8 : Nat) = 4 by decide), if_neg (show ¬ (8 : Nat) = 5 by decide), if_neg (show ¬ (8 : Nat) = 6 by decide), if_neg (show ¬ (8 : Nat) = 7 by decide), if_pos (rfl : (8 : Nat) = 8), if_neg c_3] <;> rfl)
  · skip
    refine lv_tableIn (off := 187) (tgt := 188) hx hb dX7_act_1 (by decide) (by decide) (by decide) (by decide) ?_
    refine lv_aload_n hx hb dX7_act_188 rfl (lv_at hl 0 rfl) ?_
    refine mw_get (ci := 6) (C := RX7) (T := TX7) (N := 28) (v := .int (σ 0 26)) hx hb hts hinX7 hown hK hP 0 (by decide) mF_0 rfl 26 (by decide) kf113 (fun _ h9 => h9) rfl dX7_act_189 ?_
    refine lv_iload_n hx hb dX7_act_192 rfl (lv_at hl 2 rfl) ?_
    refine lv_icmp_ge (tgt := 200) hx hb dX7_act_193 (by decide) (fun c_4 => ?_) (fun c_4 => ?_)
    · skip
      refine lv_iconst (v := 0) hx hb dX7_act_200 (by decide) ?_
      exact g_iret hx hb hr hlocks hP hS dX7_act_201 (by unfold mAct; rw [if_neg (show ¬ (9 : Nat) = 0 by decide), if_neg (show ¬ (9 : Nat) = 1 by decide), if_neg (show ¬ (9 : Nat) = 2 by decide), if_neg (show ¬ (9 : Nat) = 3 by decide), if_neg (show ¬ (9 : Nat) = 4 by decide), if_neg (show ¬ (9 : Nat) = 5 by decide), if_neg (show ¬ (9 : Nat) = 6 by decide), if_neg (show ¬ (9 : Nat) = 7 by decide), if_neg (show ¬ (9 : Nat) = 8 by decide), if_pos (rfl : (9 : Nat) = 9), if_pos c_4] <;> rfl)
    · skip
      refine lv_iconst (v := 2) hx hb dX7_act_196 (by decide) ?_
      refine lv_goto (tgt := 201) hx hb dX7_act_197 (by decide) ?_
      exact g_iret hx hb hr hlocks hP hS dX7_act_201 (by unfold mAct; rw [if_neg (show ¬ (9 : Nat) = 0 by decide), if_neg (show ¬ (9 : Nat) = 1 by decide), if_neg (show ¬ (9 : Nat) = 2 by decide), if_neg (show ¬ (9 : Nat) = 3 by decide), if_neg (show ¬ (9 : Nat) = 4 by decide), if_neg (show ¬ (9 : Nat) = 5 by decide), if_neg (show ¬ (9 : Nat) = 6 by decide), if_neg (show ¬ (9 : Nat) = 7 by decide), if_neg (show ¬ (9 : Nat) = 8 by decide), if_pos (rfl : (9 : Nat) = 9), if_neg c_4] <;> rfl)
  · skip
    refine lv_tableIn (off := 201) (tgt := 202) hx hb dX7_act_1 (by decide) (by decide) (by decide) (by decide) ?_
    refine lv_aload_n hx hb dX7_act_202 rfl (lv_at hl 0 rfl) ?_
    refine lv_iload_n hx hb dX7_act_203 rfl (lv_at hl 2 rfl) ?_
    refine g_callV (As := [.int (nI j)]) (rest := []) (N := 28) (T := TX7) (ci := 6) ⟨hx, hb, hml, hown, hts⟩ 0 (m_uses l D cy ad wy mt hj σ j (by omega)) (cwV 1 hts gX7_act_X7_uses rfl rfl rfl (by decide +kernel) ⟨by decide, by decide⟩) h0 hP hS (by decide) mF_0 rfl rfl rfl hl.1 (Nat.le_of_ble_eq_true rfl) dX7_act_204 ⟨Nat.zero_le _, Nat.zero_le _⟩ (fun H locs hP hS => ?_)
    exact g_iret hx hb hr hlocks hP hS dX7_act_207 (by unfold mAct; rw [if_neg (show ¬ (10 : Nat) = 0 by decide), if_neg (show ¬ (10 : Nat) = 1 by decide), if_neg (show ¬ (10 : Nat) = 2 by decide), if_neg (show ¬ (10 : Nat) = 3 by decide), if_neg (show ¬ (10 : Nat) = 4 by decide), if_neg (show ¬ (10 : Nat) = 5 by decide), if_neg (show ¬ (10 : Nat) = 6 by decide), if_neg (show ¬ (10 : Nat) = 7 by decide), if_neg (show ¬ (10 : Nat) = 8 by decide), if_neg (show ¬ (10 : Nat) = 9 by decide), if_pos (rfl : (10 : Nat) = 10)] <;> rfl)
  · skip
    refine lv_tableIn (off := 207) (tgt := 208) hx hb dX7_act_1 (by decide) (by decide) (by decide) (by decide) ?_
    refine lv_aload_n hx hb dX7_act_208 rfl (lv_at hl 0 rfl) ?_
    refine lv_iload_n hx hb dX7_act_209 rfl (lv_at hl 2 rfl) ?_
    refine lv_iload_n hx hb dX7_act_210 rfl (lv_at hl 3 rfl) ?_
    refine g_callV (As := [.int (nI j), .int (nI v)]) (rest := []) (N := 28) (T := TX7) (ci := 6) ⟨hx, hb, hml, hown, hts⟩ 0 (m_grips l D cy ad wy mt hj σ j v (by omega) (by omega)) (cwV 2 hts gX7_act_X7_grips rfl rfl rfl (by decide +kernel) ⟨by decide, by decide⟩) h0 hP hS (by decide) mF_0 rfl rfl rfl hl.1 (Nat.le_of_ble_eq_true rfl) dX7_act_211 ⟨Nat.zero_le _, Nat.zero_le _⟩ (fun H locs hP hS => ?_)
    exact g_iret hx hb hr hlocks hP hS dX7_act_214 (by unfold mAct; rw [if_neg (show ¬ (11 : Nat) = 0 by decide), if_neg (show ¬ (11 : Nat) = 1 by decide), if_neg (show ¬ (11 : Nat) = 2 by decide), if_neg (show ¬ (11 : Nat) = 3 by decide), if_neg (show ¬ (11 : Nat) = 4 by decide), if_neg (show ¬ (11 : Nat) = 5 by decide), if_neg (show ¬ (11 : Nat) = 6 by decide), if_neg (show ¬ (11 : Nat) = 7 by decide), if_neg (show ¬ (11 : Nat) = 8 by decide), if_neg (show ¬ (11 : Nat) = 9 by decide), if_neg (show ¬ (11 : Nat) = 10 by decide), if_pos (rfl : (11 : Nat) = 11)] <;> rfl)
  · skip
    refine lv_tableIn (off := 214) (tgt := 215) hx hb dX7_act_1 (by decide) (by decide) (by decide) (by decide) ?_
    refine lv_iload_n hx hb dX7_act_215 rfl (lv_at hl 2 rfl) ?_
    refine lv_bipush (v := 10) hx hb dX7_act_216 (by decide) ?_
    refine lv_icmp_ge (tgt := 228) hx hb dX7_act_218 (by decide) (fun c_5 => ?_) (fun c_5 => ?_)
    · skip
      refine lv_aload_n hx hb dX7_act_228 rfl (lv_at hl 0 rfl) ?_
      refine lv_iload_n hx hb dX7_act_229 rfl (lv_at hl 2 rfl) ?_
      refine lv_bipush (v := 10) hx hb dX7_act_230 (by decide) ?_
      refine lv_isub hx hb dX7_act_232 ?_
      refine mw_put (ci := 6) (C := RX7) (T := TX7) (N := 28) (v := (nI j) - 10) (ty := .int) hx hb hts hinX7 tyX7 tyX7_ok nmX7 hown hK hj hP hS 0 (by decide) mF_0 rfl 12 (by decide) kf44 (fun _ h9 => h9) rfl (by decide +kernel) rfl rfl (Nat.le_of_ble_eq_true rfl) rfl dX7_act_233 (fun H locs hP hS => ?_)
      refine lv_iconst (v := 0) hx hb dX7_act_236 (by decide) ?_
      exact g_iret hx hb hr hlocks hP hS dX7_act_237 (by unfold mAct; rw [if_neg (show ¬ (12 : Nat) = 0 by decide), if_neg (show ¬ (12 : Nat) = 1 by decide), if_neg (show ¬ (12 : Nat) = 2 by decide), if_neg (show ¬ (12 : Nat) = 3 by decide), if_neg (show ¬ (12 : Nat) = 4 by decide), if_neg (show ¬ (12 : Nat) = 5 by decide), if_neg (show ¬ (12 : Nat) = 6 by decide), if_neg (show ¬ (12 : Nat) = 7 by decide), if_neg (show ¬ (12 : Nat) = 8 by decide), if_neg (show ¬ (12 : Nat) = 9 by decide), if_neg (show ¬ (12 : Nat) = 10 by decide), if_neg (show ¬ (12 : Nat) = 11 by decide), if_pos (rfl : (12 : Nat) = 12), if_pos c_5] <;> rfl)
    · skip
      refine lv_aload_n hx hb dX7_act_221 rfl (lv_at hl 0 rfl) ?_
      refine lv_bipush (v := 6) hx hb dX7_act_222 (by decide) ?_
      refine g_callV (As := [.int 6]) (rest := []) (N := 28) (T := TX7) (ci := 6) ⟨hx, hb, hml, hown, hts⟩ 0 (m_fails l D cy ad wy mt hj σ 6 ) (cwV 1 hts gX7_act_X7_fails rfl rfl rfl (by decide +kernel) ⟨by decide, by decide⟩) h0 hP hS (by decide) mF_0 rfl rfl rfl hl.1 (Nat.le_of_ble_eq_true rfl) dX7_act_224 ⟨Nat.zero_le _, Nat.zero_le _⟩ (fun H locs hP hS => ?_)
      exact g_iret hx hb hr hlocks hP hS dX7_act_227 (by unfold mAct; rw [if_neg (show ¬ (12 : Nat) = 0 by decide), if_neg (show ¬ (12 : Nat) = 1 by decide), if_neg (show ¬ (12 : Nat) = 2 by decide), if_neg (show ¬ (12 : Nat) = 3 by decide), if_neg (show ¬ (12 : Nat) = 4 by decide), if_neg (show ¬ (12 : Nat) = 5 by decide), if_neg (show ¬ (12 : Nat) = 6 by decide), if_neg (show ¬ (12 : Nat) = 7 by decide), if_neg (show ¬ (12 : Nat) = 8 by decide), if_neg (show ¬ (12 : Nat) = 9 by decide), if_neg (show ¬ (12 : Nat) = 10 by decide), if_neg (show ¬ (12 : Nat) = 11 by decide), if_pos (rfl : (12 : Nat) = 12), if_neg c_5] <;> rfl)
  · skip
    refine lv_tableIn (off := 237) (tgt := 238) hx hb dX7_act_1 (by decide) (by decide) (by decide) (by decide) ?_
    refine lv_aload_n hx hb dX7_act_238 rfl (lv_at hl 0 rfl) ?_
    refine lv_iload_n hx hb dX7_act_239 rfl (lv_at hl 2 rfl) ?_
    refine lv_iconst (v := 3) hx hb dX7_act_240 (by decide) ?_
    refine lv_idiv hx hb dX7_act_241 (by decide) ?_
    refine lv_iconst (v := 2) hx hb dX7_act_242 (by decide) ?_
    refine lv_isub hx hb dX7_act_243 ?_
    refine lv_iload_n hx hb dX7_act_244 rfl (lv_at hl 2 rfl) ?_
    refine lv_iconst (v := 3) hx hb dX7_act_245 (by decide) ?_
    refine lv_irem hx hb dX7_act_246 (by decide) ?_
    refine g_callV (As := [.int (((nI j) / 3) - 2), .int ((nI j) - (nI j) / 3 * 3)]) (rest := []) (N := 28) (T := TX7) (ci := 6) ⟨hx, hb, hml, hown, hts⟩ 0 (m_boxes l D cy ad wy mt hj σ (((nI j) / 3) - 2) ((nI j) - (nI j) / 3 * 3) ) (cwV 2 hts gX7_act_X7_boxes rfl rfl rfl (by decide +kernel) ⟨by decide, by decide⟩) h0 hP hS (by decide) mF_0 rfl rfl rfl hl.1 (Nat.le_of_ble_eq_true rfl) dX7_act_247 ⟨Nat.zero_le _, Nat.zero_le _⟩ (fun H locs hP hS => ?_)
    exact g_iret hx hb hr hlocks hP hS dX7_act_250 (by unfold mAct; rw [if_neg (show ¬ (13 : Nat) = 0 by decide), if_neg (show ¬ (13 : Nat) = 1 by decide), if_neg (show ¬ (13 : Nat) = 2 by decide), if_neg (show ¬ (13 : Nat) = 3 by decide), if_neg (show ¬ (13 : Nat) = 4 by decide), if_neg (show ¬ (13 : Nat) = 5 by decide), if_neg (show ¬ (13 : Nat) = 6 by decide), if_neg (show ¬ (13 : Nat) = 7 by decide), if_neg (show ¬ (13 : Nat) = 8 by decide), if_neg (show ¬ (13 : Nat) = 9 by decide), if_neg (show ¬ (13 : Nat) = 10 by decide), if_neg (show ¬ (13 : Nat) = 11 by decide), if_neg (show ¬ (13 : Nat) = 12 by decide), if_pos (rfl : (13 : Nat) = 13)] <;> rfl)
  · skip
    refine lv_tableIn (off := 250) (tgt := 251) hx hb dX7_act_1 (by decide) (by decide) (by decide) (by decide) ?_
    refine lv_aload_n hx hb dX7_act_251 rfl (lv_at hl 0 rfl) ?_
    refine lv_iload_n hx hb dX7_act_252 rfl (lv_at hl 2 rfl) ?_
    refine lv_bipush (v := 6) hx hb dX7_act_253 (by decide) ?_
    refine lv_idiv hx hb dX7_act_255 (by decide) ?_
    refine lv_iconst (v := 1) hx hb dX7_act_256 (by decide) ?_
    refine lv_isub hx hb dX7_act_257 ?_
    refine lv_iload_n hx hb dX7_act_258 rfl (lv_at hl 2 rfl) ?_
    refine lv_bipush (v := 6) hx hb dX7_act_259 (by decide) ?_
    refine lv_irem hx hb dX7_act_261 (by decide) ?_
    refine lv_iconst (v := 1) hx hb dX7_act_262 (by decide) ?_
    refine lv_isub hx hb dX7_act_263 ?_
    refine g_callV (As := [.int (((nI j) / 6) - 1), .int (((nI j) - (nI j) / 6 * 6) - 1)]) (rest := []) (N := 28) (T := TX7) (ci := 6) ⟨hx, hb, hml, hown, hts⟩ 0 (m_grids l D cy ad wy mt hj σ (((nI j) / 6) - 1) (((nI j) - (nI j) / 6 * 6) - 1) ) (cwV 2 hts gX7_act_X7_grids rfl rfl rfl (by decide +kernel) ⟨by decide, by decide⟩) h0 hP hS (by decide) mF_0 rfl rfl rfl hl.1 (Nat.le_of_ble_eq_true rfl) dX7_act_264 ⟨Nat.zero_le _, Nat.zero_le _⟩ (fun H locs hP hS => ?_)
    exact g_iret hx hb hr hlocks hP hS dX7_act_267 (by unfold mAct; rw [if_neg (show ¬ (14 : Nat) = 0 by decide), if_neg (show ¬ (14 : Nat) = 1 by decide), if_neg (show ¬ (14 : Nat) = 2 by decide), if_neg (show ¬ (14 : Nat) = 3 by decide), if_neg (show ¬ (14 : Nat) = 4 by decide), if_neg (show ¬ (14 : Nat) = 5 by decide), if_neg (show ¬ (14 : Nat) = 6 by decide), if_neg (show ¬ (14 : Nat) = 7 by decide), if_neg (show ¬ (14 : Nat) = 8 by decide), if_neg (show ¬ (14 : Nat) = 9 by decide), if_neg (show ¬ (14 : Nat) = 10 by decide), if_neg (show ¬ (14 : Nat) = 11 by decide), if_neg (show ¬ (14 : Nat) = 12 by decide), if_neg (show ¬ (14 : Nat) = 13 by decide), if_pos (rfl : (14 : Nat) = 14)] <;> rfl)
  · skip
    refine lv_tableIn (off := 267) (tgt := 268) hx hb dX7_act_1 (by decide) (by decide) (by decide) (by decide) ?_
    refine lv_aload_n hx hb dX7_act_268 rfl (lv_at hl 0 rfl) ?_
    refine lv_iload_n hx hb dX7_act_269 rfl (lv_at hl 2 rfl) ?_
    refine lv_bipush (v := 10) hx hb dX7_act_270 (by decide) ?_
    refine lv_irem hx hb dX7_act_272 (by decide) ?_
    refine g_top (y := nI (j % 10)) (pk_rem (d := 10) (by omega) (by decide) (by decide)) ?_
    refine lv_iload_n hx hb dX7_act_273 rfl (lv_at hl 2 rfl) ?_
    refine lv_bipush (v := 10) hx hb dX7_act_274 (by decide) ?_
    refine lv_idiv hx hb dX7_act_276 (by decide) ?_
    have hbx := hbx (j / 10) (by omega)
    refine g_top (y := nI (j / 10)) (pk_div (d := 10) (by omega) (by decide) (by decide)) ?_
    refine g_callV (As := [.int (nI (j % 10)), .int (nI (j / 10))]) (rest := []) (N := 28) (T := TX7) (ci := 6) ⟨hx, hb, hml, hown, hts⟩ 0 (m_puts l D cy ad wy mt hj σ (j % 10) (j / 10) (by omega) (by omega) hbx) (cwV 2 hts gX7_act_X7_puts rfl rfl rfl (by decide +kernel) ⟨by decide, by decide⟩) h0 hP hS (by decide) mF_0 rfl rfl rfl hl.1 (Nat.le_of_ble_eq_true rfl) dX7_act_277 ⟨Nat.zero_le _, Nat.zero_le _⟩ (fun H locs hP hS => ?_)
    exact g_iret hx hb hr hlocks hP hS dX7_act_280 (by unfold mAct; rw [if_neg (show ¬ (15 : Nat) = 0 by decide), if_neg (show ¬ (15 : Nat) = 1 by decide), if_neg (show ¬ (15 : Nat) = 2 by decide), if_neg (show ¬ (15 : Nat) = 3 by decide), if_neg (show ¬ (15 : Nat) = 4 by decide), if_neg (show ¬ (15 : Nat) = 5 by decide), if_neg (show ¬ (15 : Nat) = 6 by decide), if_neg (show ¬ (15 : Nat) = 7 by decide), if_neg (show ¬ (15 : Nat) = 8 by decide), if_neg (show ¬ (15 : Nat) = 9 by decide), if_neg (show ¬ (15 : Nat) = 10 by decide), if_neg (show ¬ (15 : Nat) = 11 by decide), if_neg (show ¬ (15 : Nat) = 12 by decide), if_neg (show ¬ (15 : Nat) = 13 by decide), if_neg (show ¬ (15 : Nat) = 14 by decide), if_pos (rfl : (15 : Nat) = 15)] <;> rfl)
  · skip
    refine lv_tableIn (off := 280) (tgt := 281) hx hb dX7_act_1 (by decide) (by decide) (by decide) (by decide) ?_
    refine lv_aload_n hx hb dX7_act_281 rfl (lv_at hl 0 rfl) ?_
    refine lv_iload_n hx hb dX7_act_282 rfl (lv_at hl 3 rfl) ?_
    refine lv_iload_n hx hb dX7_act_283 rfl (lv_at hl 2 rfl) ?_
    refine g_callV (As := [.int (nI v), .int (nI j)]) (rest := []) (N := 28) (T := TX7) (ci := 6) ⟨hx, hb, hml, hown, hts⟩ 0 (m_counts l D cy ad wy mt hj σ v (by omega) (nI j)) (cwV 2 hts gX7_act_X7_counts rfl rfl rfl (by decide +kernel) ⟨by decide, by decide⟩) h0 hP hS (by decide) mF_0 rfl rfl rfl hl.1 (Nat.le_of_ble_eq_true rfl) dX7_act_284 ⟨Nat.zero_le _, Nat.zero_le _⟩ (fun H locs hP hS => ?_)
    exact g_iret hx hb hr hlocks hP hS dX7_act_287 (by unfold mAct; rw [if_neg (show ¬ (16 : Nat) = 0 by decide), if_neg (show ¬ (16 : Nat) = 1 by decide), if_neg (show ¬ (16 : Nat) = 2 by decide), if_neg (show ¬ (16 : Nat) = 3 by decide), if_neg (show ¬ (16 : Nat) = 4 by decide), if_neg (show ¬ (16 : Nat) = 5 by decide), if_neg (show ¬ (16 : Nat) = 6 by decide), if_neg (show ¬ (16 : Nat) = 7 by decide), if_neg (show ¬ (16 : Nat) = 8 by decide), if_neg (show ¬ (16 : Nat) = 9 by decide), if_neg (show ¬ (16 : Nat) = 10 by decide), if_neg (show ¬ (16 : Nat) = 11 by decide), if_neg (show ¬ (16 : Nat) = 12 by decide), if_neg (show ¬ (16 : Nat) = 13 by decide), if_neg (show ¬ (16 : Nat) = 14 by decide), if_neg (show ¬ (16 : Nat) = 15 by decide), if_pos (rfl : (16 : Nat) = 16)] <;> rfl)
  · skip
    refine lv_tableOut (tgt := 288) hx hb dX7_act_1 (by decide) (by decide) ?_
    have hj4 := hj4 (by decide)
    refine lv_aload_n hx hb dX7_act_288 rfl (lv_at hl 0 rfl) ?_
    refine lv_iload_n hx hb dX7_act_289 rfl (lv_at hl 2 rfl) ?_
    refine g_callV (As := [.int (nI j)]) (rest := []) (N := 28) (T := TX7) (ci := 6) ⟨hx, hb, hml, hown, hts⟩ 0 (m_raises l D cy ad wy mt hj σ j (by omega)) (cwV 1 hts gX7_act_X7_raises rfl rfl rfl (by decide +kernel) ⟨by decide, by decide⟩) h0 hP hS (by decide) mF_0 rfl rfl rfl hl.1 (Nat.le_of_ble_eq_true rfl) dX7_act_290 ⟨Nat.zero_le _, Nat.zero_le _⟩ (fun H locs hP hS => ?_)
    exact g_iret hx hb hr hlocks hP hS dX7_act_293 (by unfold mAct; rw [if_neg (show ¬ (17 : Nat) = 0 by decide), if_neg (show ¬ (17 : Nat) = 1 by decide), if_neg (show ¬ (17 : Nat) = 2 by decide), if_neg (show ¬ (17 : Nat) = 3 by decide), if_neg (show ¬ (17 : Nat) = 4 by decide), if_neg (show ¬ (17 : Nat) = 5 by decide), if_neg (show ¬ (17 : Nat) = 6 by decide), if_neg (show ¬ (17 : Nat) = 7 by decide), if_neg (show ¬ (17 : Nat) = 8 by decide), if_neg (show ¬ (17 : Nat) = 9 by decide), if_neg (show ¬ (17 : Nat) = 10 by decide), if_neg (show ¬ (17 : Nat) = 11 by decide), if_neg (show ¬ (17 : Nat) = 12 by decide), if_neg (show ¬ (17 : Nat) = 13 by decide), if_neg (show ¬ (17 : Nat) = 14 by decide), if_neg (show ¬ (17 : Nat) = 15 by decide), if_neg (show ¬ (17 : Nat) = 16 by decide)] <;> rfl)
theorem mAct_0 (σ : Mem) (j v : Nat) : mAct σ 0 j v = mMore σ v (nI j) := by
  unfold mAct; rw [if_pos (rfl : (0 : Nat) = 0)]
theorem mAct_1 (σ : Mem) (j v : Nat) : mAct σ 1 j v = (if nI j ≤ σ 2 v then (0, mset σ 2 v ((σ 2 v) - (nI j)))
    else mFail σ 2) := by
  unfold mAct; rw [if_neg (show ¬ (1 : Nat) = 0 by decide), if_pos (rfl : (1 : Nat) = 1)]
theorem mAct_2 (σ : Mem) (j v : Nat) : mAct σ 2 j v = (if nI j = 0 then mFail σ 3
    else (0, mset σ 2 v ((σ 2 v) / (nI j)))) := by
  unfold mAct; rw [if_neg (show ¬ (2 : Nat) = 0 by decide), if_neg (show ¬ (2 : Nat) = 1 by decide), if_pos (rfl : (2 : Nat) = 2)]
theorem mAct_3 (σ : Mem) (j v : Nat) : mAct σ 3 j v = mPour σ v j := by
  unfold mAct; rw [if_neg (show ¬ (3 : Nat) = 0 by decide), if_neg (show ¬ (3 : Nat) = 1 by decide), if_neg (show ¬ (3 : Nat) = 2 by decide), if_pos (rfl : (3 : Nat) = 3)]
theorem mAct_4 (σ : Mem) (j v : Nat) : mAct σ 4 j v = (1, σ) := by
  unfold mAct; rw [if_neg (show ¬ (4 : Nat) = 0 by decide), if_neg (show ¬ (4 : Nat) = 1 by decide), if_neg (show ¬ (4 : Nat) = 2 by decide), if_neg (show ¬ (4 : Nat) = 3 by decide), if_pos (rfl : (4 : Nat) = 4)]
theorem mAct_5 (σ : Mem) (j v : Nat) : mAct σ 5 j v = (3, σ) := by
  unfold mAct; rw [if_neg (show ¬ (5 : Nat) = 0 by decide), if_neg (show ¬ (5 : Nat) = 1 by decide), if_neg (show ¬ (5 : Nat) = 2 by decide), if_neg (show ¬ (5 : Nat) = 3 by decide), if_neg (show ¬ (5 : Nat) = 4 by decide), if_pos (rfl : (5 : Nat) = 5)]
theorem mAct_6 (σ : Mem) (j v : Nat) : mAct σ 6 j v = (4, mset σ 0 27 (nI j)) := by
  unfold mAct; rw [if_neg (show ¬ (6 : Nat) = 0 by decide), if_neg (show ¬ (6 : Nat) = 1 by decide), if_neg (show ¬ (6 : Nat) = 2 by decide), if_neg (show ¬ (6 : Nat) = 3 by decide), if_neg (show ¬ (6 : Nat) = 4 by decide), if_neg (show ¬ (6 : Nat) = 5 by decide), if_pos (rfl : (6 : Nat) = 6)]
theorem mAct_7 (σ : Mem) (j v : Nat) : mAct σ 7 j v = mFail σ (10 + (nI j)) := by
  unfold mAct; rw [if_neg (show ¬ (7 : Nat) = 0 by decide), if_neg (show ¬ (7 : Nat) = 1 by decide), if_neg (show ¬ (7 : Nat) = 2 by decide), if_neg (show ¬ (7 : Nat) = 3 by decide), if_neg (show ¬ (7 : Nat) = 4 by decide), if_neg (show ¬ (7 : Nat) = 5 by decide), if_neg (show ¬ (7 : Nat) = 6 by decide), if_pos (rfl : (7 : Nat) = 7)]
theorem mAct_8 (σ : Mem) (j v : Nat) : mAct σ 8 j v = (if nI j ≤ σ 2 v then (0, σ)
    else (1, σ)) := by
  unfold mAct; rw [if_neg (show ¬ (8 : Nat) = 0 by decide), if_neg (show ¬ (8 : Nat) = 1 by decide), if_neg (show ¬ (8 : Nat) = 2 by decide), if_neg (show ¬ (8 : Nat) = 3 by decide), if_neg (show ¬ (8 : Nat) = 4 by decide), if_neg (show ¬ (8 : Nat) = 5 by decide), if_neg (show ¬ (8 : Nat) = 6 by decide), if_neg (show ¬ (8 : Nat) = 7 by decide), if_pos (rfl : (8 : Nat) = 8)]
theorem mAct_9 (σ : Mem) (j v : Nat) : mAct σ 9 j v = (if nI j ≤ σ 0 26 then (0, σ)
    else (2, σ)) := by
  unfold mAct; rw [if_neg (show ¬ (9 : Nat) = 0 by decide), if_neg (show ¬ (9 : Nat) = 1 by decide), if_neg (show ¬ (9 : Nat) = 2 by decide), if_neg (show ¬ (9 : Nat) = 3 by decide), if_neg (show ¬ (9 : Nat) = 4 by decide), if_neg (show ¬ (9 : Nat) = 5 by decide), if_neg (show ¬ (9 : Nat) = 6 by decide), if_neg (show ¬ (9 : Nat) = 7 by decide), if_neg (show ¬ (9 : Nat) = 8 by decide), if_pos (rfl : (9 : Nat) = 9)]
theorem mAct_10 (σ : Mem) (j v : Nat) : mAct σ 10 j v = mUse σ j := by
  unfold mAct; rw [if_neg (show ¬ (10 : Nat) = 0 by decide), if_neg (show ¬ (10 : Nat) = 1 by decide), if_neg (show ¬ (10 : Nat) = 2 by decide), if_neg (show ¬ (10 : Nat) = 3 by decide), if_neg (show ¬ (10 : Nat) = 4 by decide), if_neg (show ¬ (10 : Nat) = 5 by decide), if_neg (show ¬ (10 : Nat) = 6 by decide), if_neg (show ¬ (10 : Nat) = 7 by decide), if_neg (show ¬ (10 : Nat) = 8 by decide), if_neg (show ¬ (10 : Nat) = 9 by decide), if_pos (rfl : (10 : Nat) = 10)]
theorem mAct_11 (σ : Mem) (j v : Nat) : mAct σ 11 j v = mGrip σ j v := by
  unfold mAct; rw [if_neg (show ¬ (11 : Nat) = 0 by decide), if_neg (show ¬ (11 : Nat) = 1 by decide), if_neg (show ¬ (11 : Nat) = 2 by decide), if_neg (show ¬ (11 : Nat) = 3 by decide), if_neg (show ¬ (11 : Nat) = 4 by decide), if_neg (show ¬ (11 : Nat) = 5 by decide), if_neg (show ¬ (11 : Nat) = 6 by decide), if_neg (show ¬ (11 : Nat) = 7 by decide), if_neg (show ¬ (11 : Nat) = 8 by decide), if_neg (show ¬ (11 : Nat) = 9 by decide), if_neg (show ¬ (11 : Nat) = 10 by decide), if_pos (rfl : (11 : Nat) = 11)]
theorem mAct_12 (σ : Mem) (j v : Nat) : mAct σ 12 j v = (if 10 ≤ nI j then (0, mset σ 0 12 ((nI j) - 10))
    else mFail σ 6) := by
  unfold mAct; rw [if_neg (show ¬ (12 : Nat) = 0 by decide), if_neg (show ¬ (12 : Nat) = 1 by decide), if_neg (show ¬ (12 : Nat) = 2 by decide), if_neg (show ¬ (12 : Nat) = 3 by decide), if_neg (show ¬ (12 : Nat) = 4 by decide), if_neg (show ¬ (12 : Nat) = 5 by decide), if_neg (show ¬ (12 : Nat) = 6 by decide), if_neg (show ¬ (12 : Nat) = 7 by decide), if_neg (show ¬ (12 : Nat) = 8 by decide), if_neg (show ¬ (12 : Nat) = 9 by decide), if_neg (show ¬ (12 : Nat) = 10 by decide), if_neg (show ¬ (12 : Nat) = 11 by decide), if_pos (rfl : (12 : Nat) = 12)]
theorem mAct_13 (σ : Mem) (j v : Nat) : mAct σ 13 j v = mBoxes σ (((nI j) / 3) - 2) ((nI j) - (nI j) / 3 * 3) := by
  unfold mAct; rw [if_neg (show ¬ (13 : Nat) = 0 by decide), if_neg (show ¬ (13 : Nat) = 1 by decide), if_neg (show ¬ (13 : Nat) = 2 by decide), if_neg (show ¬ (13 : Nat) = 3 by decide), if_neg (show ¬ (13 : Nat) = 4 by decide), if_neg (show ¬ (13 : Nat) = 5 by decide), if_neg (show ¬ (13 : Nat) = 6 by decide), if_neg (show ¬ (13 : Nat) = 7 by decide), if_neg (show ¬ (13 : Nat) = 8 by decide), if_neg (show ¬ (13 : Nat) = 9 by decide), if_neg (show ¬ (13 : Nat) = 10 by decide), if_neg (show ¬ (13 : Nat) = 11 by decide), if_neg (show ¬ (13 : Nat) = 12 by decide), if_pos (rfl : (13 : Nat) = 13)]
theorem mAct_14 (σ : Mem) (j v : Nat) : mAct σ 14 j v = mGrids σ (((nI j) / 6) - 1) (((nI j) - (nI j) / 6 * 6) - 1) := by
  unfold mAct; rw [if_neg (show ¬ (14 : Nat) = 0 by decide), if_neg (show ¬ (14 : Nat) = 1 by decide), if_neg (show ¬ (14 : Nat) = 2 by decide), if_neg (show ¬ (14 : Nat) = 3 by decide), if_neg (show ¬ (14 : Nat) = 4 by decide), if_neg (show ¬ (14 : Nat) = 5 by decide), if_neg (show ¬ (14 : Nat) = 6 by decide), if_neg (show ¬ (14 : Nat) = 7 by decide), if_neg (show ¬ (14 : Nat) = 8 by decide), if_neg (show ¬ (14 : Nat) = 9 by decide), if_neg (show ¬ (14 : Nat) = 10 by decide), if_neg (show ¬ (14 : Nat) = 11 by decide), if_neg (show ¬ (14 : Nat) = 12 by decide), if_neg (show ¬ (14 : Nat) = 13 by decide), if_pos (rfl : (14 : Nat) = 14)]
theorem mAct_15 (σ : Mem) (j v : Nat) : mAct σ 15 j v = mPut σ (j % 10) (j / 10) := by
  unfold mAct; rw [if_neg (show ¬ (15 : Nat) = 0 by decide), if_neg (show ¬ (15 : Nat) = 1 by decide), if_neg (show ¬ (15 : Nat) = 2 by decide), if_neg (show ¬ (15 : Nat) = 3 by decide), if_neg (show ¬ (15 : Nat) = 4 by decide), if_neg (show ¬ (15 : Nat) = 5 by decide), if_neg (show ¬ (15 : Nat) = 6 by decide), if_neg (show ¬ (15 : Nat) = 7 by decide), if_neg (show ¬ (15 : Nat) = 8 by decide), if_neg (show ¬ (15 : Nat) = 9 by decide), if_neg (show ¬ (15 : Nat) = 10 by decide), if_neg (show ¬ (15 : Nat) = 11 by decide), if_neg (show ¬ (15 : Nat) = 12 by decide), if_neg (show ¬ (15 : Nat) = 13 by decide), if_neg (show ¬ (15 : Nat) = 14 by decide), if_pos (rfl : (15 : Nat) = 15)]
theorem mAct_16 (σ : Mem) (j v : Nat) : mAct σ 16 j v = mCount σ v (nI j) := by
  unfold mAct; rw [if_neg (show ¬ (16 : Nat) = 0 by decide), if_neg (show ¬ (16 : Nat) = 1 by decide), if_neg (show ¬ (16 : Nat) = 2 by decide), if_neg (show ¬ (16 : Nat) = 3 by decide), if_neg (show ¬ (16 : Nat) = 4 by decide), if_neg (show ¬ (16 : Nat) = 5 by decide), if_neg (show ¬ (16 : Nat) = 6 by decide), if_neg (show ¬ (16 : Nat) = 7 by decide), if_neg (show ¬ (16 : Nat) = 8 by decide), if_neg (show ¬ (16 : Nat) = 9 by decide), if_neg (show ¬ (16 : Nat) = 10 by decide), if_neg (show ¬ (16 : Nat) = 11 by decide), if_neg (show ¬ (16 : Nat) = 12 by decide), if_neg (show ¬ (16 : Nat) = 13 by decide), if_neg (show ¬ (16 : Nat) = 14 by decide), if_neg (show ¬ (16 : Nat) = 15 by decide), if_pos (rfl : (16 : Nat) = 16)]
theorem mAct_17 (σ : Mem) (j v : Nat) : mAct σ 17 j v = mRaise σ j := by
  unfold mAct; rw [if_neg (show ¬ (17 : Nat) = 0 by decide), if_neg (show ¬ (17 : Nat) = 1 by decide), if_neg (show ¬ (17 : Nat) = 2 by decide), if_neg (show ¬ (17 : Nat) = 3 by decide), if_neg (show ¬ (17 : Nat) = 4 by decide), if_neg (show ¬ (17 : Nat) = 5 by decide), if_neg (show ¬ (17 : Nat) = 6 by decide), if_neg (show ¬ (17 : Nat) = 7 by decide), if_neg (show ¬ (17 : Nat) = 8 by decide), if_neg (show ¬ (17 : Nat) = 9 by decide), if_neg (show ¬ (17 : Nat) = 10 by decide), if_neg (show ¬ (17 : Nat) = 11 by decide), if_neg (show ¬ (17 : Nat) = 12 by decide), if_neg (show ¬ (17 : Nat) = 13 by decide), if_neg (show ¬ (17 : Nat) = 14 by decide), if_neg (show ¬ (17 : Nat) = 15 by decide), if_neg (show ¬ (17 : Nat) = 16 by decide)]
