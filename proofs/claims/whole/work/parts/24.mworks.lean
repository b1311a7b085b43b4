theorem mwy_ci {σ : Mem} (h : mwy σ) : ci (σ 0 23) ≤ 3 ∧ σ 0 23 = nI (ci (σ 0 23)) := by
  obtain ⟨k, hk, e⟩ := h
  unfold ci
  rw [e, nI_clamp (by omega)]
  exact ⟨hk, rfl⟩
theorem mR_v {σ : Mem} {q : Nat} (hR : mR σ) (hq : q < 24) : ci (σ 5 q) ≤ 9 ∧ σ 5 q = nI (ci (σ 5 q)) := by
  obtain ⟨v, hv, e⟩ := (hR.1 q hq).2.1
  unfold ci
  rw [e, nI_clamp (by omega)]
  exact ⟨hv, rfl⟩
theorem sM_round {q : Nat} (v : Nat) {σ : Mem} (hq : q < 24) (hR : mR σ) : kM σ (mRound σ q v).2 ∧ ∀ x y : Nat, mOK x y σ → mOK (x + 2) y (mRound σ q v).2 := by
  have hf : ∀ n : Int32, kM σ (mFail σ n).2 ∧ ∀ x y : Nat, mOK x y σ → mOK (x + 2) y (mFail σ n).2 := fun n =>
    ⟨(sM_fail σ n).1, fun x y h => ((sM_fail σ n).2.2 x y h).le (by omega) (by omega)⟩
  unfold mRound
  split
  · exact hf 4
  split
  · exact hf 5
  · have h0 : kM σ (mset (mMark σ 2) 0 26 0) := (kM_mark σ 2).set (by omega)
    obtain ⟨h2, h3⟩ := sM_steps (v := v) hq 201 (mset (mMark σ 2) 0 26 0) 0 (h0.mR hR) (by omega)
    refine ⟨(h0.tr h2).tr (kM_mark _ 3), fun x y h => ?_⟩
    exact mOK_mark (h3 x y ((mOK_mark h (by decide) (by decide)).set (by omega))) (by decide) (by decide)
theorem mReasons_23 (σ : Mem) (n : Int32) : ∃ k : Nat, k ≤ 2 ∧ (mReasons σ n) 0 23 = nI k := by
  unfold mReasons
  split
  · exact ⟨1, by decide, mset_self _ _ _ _⟩
  · exact ⟨2, by decide, mset_self _ _ _ _⟩
theorem mOK.why {x y : Nat} {σ : Mem} (h : mOK x y σ) {k : Nat} (hk : k ≤ 3) : mOK x y (mset σ 0 23 (nI k)) := by
  obtain ⟨h1, h2, h3⟩ := h
  refine ⟨?_, ?_, k, hk, mset_self _ _ _ _⟩
  · unfold mB; rw [mset_nc (by decide)]; exact h1
  · unfold mbx; rw [mset_ne (by decide)]; exact h2
theorem sM_reasons (σ : Mem) (n : Int32) : kM σ (mReasons σ n) ∧ ∀ x y : Nat, mOK x y σ → mOK x y (mReasons σ n) := by
  unfold mReasons
  split
  · exact ⟨((kM.rf σ).set (by omega)).set (by omega), fun x y h => (h.set (by omega)).why (k := 1) (by decide)⟩
  · exact ⟨((((kM.rf σ).set (by omega)).set (by omega)).set (by omega)).set (by omega), fun x y h => (((h.set (by omega)).why (k := 1) (by decide)).set (by omega)).why (k := 2) (by decide)⟩
theorem sM_inStead (σ : Mem) (w : Nat) (n : Int32) : kM σ (mInStead σ w n) ∧ ∀ x y k : Nat, k ≤ 2 → σ 0 23 = nI k → mOK x y σ → mOK x y (mInStead σ w n) := by
  unfold mInStead
  split
  · exact ⟨((kM.rf σ).set (by omega)).set (by omega), fun x y k hk e h => by rw [e, nI_1]; exact (h.set (by omega)).why (by omega)⟩
  split
  · exact ⟨(((kM.rf σ).set (by omega)).set (by omega)).set (by omega), fun x y k hk e h => by rw [e, nI_1]; exact ((h.set (by omega)).set (by omega)).why (by omega)⟩
  split
  · exact ⟨((((kM.rf σ).set (by omega)).set (by omega)).set (by omega)).set (by omega), fun x y k hk e h => by rw [e, nI_1]; exact (((h.set (by omega)).set (by omega)).set (by omega)).why (by omega)⟩
  · exact ⟨(((((kM.rf σ).set (by omega)).set (by omega)).set (by omega)).set (by omega)).set (by omega), fun x y k hk e h => by rw [e, nI_1]; exact ((((h.set (by omega)).set (by omega)).set (by omega)).set (by omega)).why (by omega)⟩
/-- what the reference's batch makes of how a round was left -/
def mAfter (b rr : Nat) (r : Int32 × Mem) : Int32 × Mem :=
  if r.1 = 1 then (0, r.2)
  else if r.1 = 5 then
    (if r.2 3 b = 1 then
      (if 24 ≤ r.2 14 6 then (0, mset r.2 14 6 (r.2 14 6 + 1))
      else (0, mset (mset r.2 16 (ci (r.2 14 6)) (r.2 0 24)) 14 6 (r.2 14 6 + 1)))
    else if (mReasons r.2 (r.2 0 24)) 3 b = 2 then (5, mInStead (mReasons r.2 (r.2 0 24)) (ci ((mReasons r.2 (r.2 0 24)) 0 23)) (20 + nI rr))
    else (5, mReasons r.2 (r.2 0 24)))
  else r
def mRoundAt (b : Nat) (σ : Mem) (rr : Nat) : Int32 × Mem := mAfter b rr (mRound σ (6 * b + rr) (ci (σ 5 (6 * b + rr))))
theorem mOK.note {x y : Nat} {σ : Mem} (h : mOK x y σ) : mOK x (y + 1) (mset σ 14 6 (σ 14 6 + 1)) := by
  obtain ⟨⟨k, li, nt, h1, h2, h3, h5, h6, h7⟩, h8, h9⟩ := h
  refine ⟨⟨k, li, nt + 1, ?_, ?_, ?_, h5, h6, by omega⟩, ?_, ?_⟩
  · rw [mset_ne (by decide)]; exact h1
  · rw [mset_ne (by decide)]; exact h2
  · rw [mset_self, h3, nI_1]
  · unfold mbx; rw [mset_ne (by decide)]; exact h8
  · unfold mwy; rw [mset_ne (by decide)]; exact h9
theorem sM_after {b rr : Nat} (r : Int32 × Mem) : kM r.2 (mAfter b rr r).2 ∧ ∀ x y : Nat, mOK x y r.2 → mOK x (y + 1) (mAfter b rr r).2 := by
  unfold mAfter
  split
  · exact ⟨kM.rf _, fun x y h => h.le (by omega) (by omega)⟩
  split
  · split
    · split
      · exact ⟨(kM.rf _).set (by omega), fun x y h => h.note⟩
      · refine ⟨((kM.rf _).set (by omega)).set (by omega), fun x y h => ?_⟩
        have h1 := (h.set (i := 16) (k := ci (r.2 14 6)) (v := r.2 0 24) (by omega)).note
        rw [mset_ne (by omega)] at h1
        exact h1
    split
    · obtain ⟨g1, g2⟩ := sM_reasons r.2 (r.2 0 24)
      obtain ⟨k, hk, e⟩ := mReasons_23 r.2 (r.2 0 24)
      obtain ⟨a1, a2⟩ := sM_inStead (mReasons r.2 (r.2 0 24)) (ci ((mReasons r.2 (r.2 0 24)) 0 23)) (20 + nI rr)
      exact ⟨g1.tr a1, fun x y h => (a2 x y k hk e (g2 x y h)).le (by omega) (by omega)⟩
    · obtain ⟨g1, g2⟩ := sM_reasons r.2 (r.2 0 24)
      exact ⟨g1, fun x y h => (g2 x y h).le (by omega) (by omega)⟩
  · exact ⟨kM.rf _, fun x y h => h.le (by omega) (by omega)⟩
theorem sM_roundAt {b rr : Nat} {σ : Mem} (hq : 6 * b + rr < 24) (hR : mR σ) : kM σ (mRoundAt b σ rr).2 ∧ ∀ x y : Nat, mOK x y σ → mOK (x + 2) (y + 1) (mRoundAt b σ rr).2 := by
  obtain ⟨h1, h2⟩ := sM_round (ci (σ 5 (6 * b + rr))) hq hR
  obtain ⟨g1, g2⟩ := sM_after (b := b) (rr := rr) (mRound σ (6 * b + rr) (ci (σ 5 (6 * b + rr))))
  exact ⟨h1.tr g1, fun x y h => g2 _ _ (h2 x y h)⟩
def mRounds (b : Nat) : Nat → Mem → Nat → Int32 → Int32 × Mem
  | 0, σ, _, w => (w, σ)
  | fu + 1, σ, rr, w =>
    if σ 4 b ≤ nI rr then (w, σ)
    else if w = 0 then mRounds b fu (mRoundAt b σ rr).2 (rr + 1) (mRoundAt b σ rr).1
    else (w, σ)
theorem mRounds_succ (b fu : Nat) (σ : Mem) (rr : Nat) (w : Int32) : mRounds b (fu + 1) σ rr w = if σ 4 b ≤ nI rr then (w, σ)
    else if w = 0 then mRounds b fu (mRoundAt b σ rr).2 (rr + 1) (mRoundAt b σ rr).1
    else (w, σ) := rfl
theorem mR_rr {σ : Mem} {b rr : Nat} (hR : mR σ) (hb : b < 4) (hrr : rr ≤ 6) (hc : ¬ σ 4 b ≤ nI rr) : rr < 6 := by
  obtain ⟨k, hk, e⟩ := hR.2 b hb
  rw [e] at hc
  have h1 : ¬ k ≤ rr := fun h => hc ((nI_leI (by omega) (by omega)).mpr h)
  omega
theorem sM_rounds {b : Nat} (hb : b < 4) : ∀ (fu : Nat) (σ : Mem) (rr : Nat) (w : Int32), mR σ → rr ≤ 6 → kM σ (mRounds b fu σ rr w).2 ∧ ∀ x y : Nat, mOK (x + 2 * rr) (y + rr) σ → mOK (x + 12) (y + 6) (mRounds b fu σ rr w).2
  | 0, σ, rr, w, _, hrr => ⟨kM.rf σ, fun x y h => h.le (by omega) (by omega)⟩
  | fu + 1, σ, rr, w, hR, hrr => by
    rw [mRounds_succ]
    split
    · exact ⟨kM.rf σ, fun x y h => h.le (by omega) (by omega)⟩
    split
    · rename_i hc hw0
      have h6 := mR_rr hR hb hrr hc
      obtain ⟨h2, h3⟩ := sM_roundAt (b := b) (rr := rr) (by omega) hR
      obtain ⟨g2, g3⟩ := sM_rounds hb fu (mRoundAt b σ rr).2 (rr + 1) (mRoundAt b σ rr).1 (h2.mR hR) (by omega)
      exact ⟨h2.tr g2, fun x y h => g3 x y ((h3 _ _ h).le (by omega) (by omega))⟩
    · exact ⟨kM.rf σ, fun x y h => h.le (by omega) (by omega)⟩
def mBatch (σ : Mem) (b : Nat) : Int32 × Mem := (if (mRounds b 7 (mMark σ 0) 0 0).1 = 3 then 0 else (mRounds b 7 (mMark σ 0) 0 0).1, mMark (mRounds b 7 (mMark σ 0) 0 0).2 1)
theorem sM_batch {b : Nat} {σ : Mem} (hb : b < 4) (hR : mR σ) : kM σ (mBatch σ b).2 ∧ ∀ x y : Nat, mOK x y σ → mOK (x + 14) (y + 6) (mBatch σ b).2 := by
  obtain ⟨h2, h3⟩ := sM_rounds hb 7 (mMark σ 0) 0 0 ((kM_mark σ 0).mR hR) (by omega)
  refine ⟨((kM_mark σ 0).tr h2).tr (kM_mark _ 1), fun x y h => ?_⟩
  exact mOK_mark (h3 (x + 1) y (mOK_mark h (by decide) (by decide))) (by decide) (by decide)
set_option maxHeartbeats 4000000 in
set_option maxRecDepth 100000 in
theorem m_works (l : Launch) (D : va_G) (cy : Nat → ClassId) (ad wy : Nat → Nat) (mt : Nat) (hj : mJ 18 ad) (σ : Mem) (b : Nat) (hb4 : b < 4) (x y : Nat) (hx9 : x ≤ 800) (hy9 : y ≤ 800) (hR : mR σ) (hO : mOK x y σ) : Met l yX7_works wsX7_works ({ frames := 7, cells := 0, slots := 0, locals := 158 }) (va_Pc [.ref (ad 0), .int (nI b)] (gPre 18 ad (mF ad cy) D cy wy mt σ)) (gQ 18 ad (mF ad cy) D (some (.int (mBatch σ b).1)) (mBatch σ b).2) 0 0 (mA 18 ad) := by
  refine g_met (cc := cX7_works) (maxL := 4) (ret := (some .int)) (by decide) rfl (Nat.le_of_ble_eq_true rfl) ?_
  intro p e s m below meth c S hr hlocks h0 ls hl
  obtain ⟨hx, hb, hml, hown, hts⟩ := S
  have hP := h0.1
  have hK := h0.2.1
  have hS : va_S (mA 18 ad) s.heap s.heap [] := va_S.rf
  have hl : lv_has ls 4 [(0, .ref (ad 0)), (1, .int (nI b))] := hl
  have kf20 : (Cond.fieldLink RX7 20 "BenchRunsModel" "rounds" "[I").before (#[.ref (ad 0), .int (nI b)] : Array Value) s = true := hts _ (by decide +kernel)
  have hinX7 : ∀ w ∈ u_ws RX7 TX7 28, w ∈ wsX7_works := by decide +kernel
  have kf17 : (Cond.fieldLink RX7 17 "BenchRunsModel" "mode" "[I").before (#[.ref (ad 0), .int (nI b)] : Array Value) s = true := hts _ (by decide +kernel)
  have kf90 : (Cond.fieldLink RX7 90 "BenchRunsModel" "failure" "I").before (#[.ref (ad 0), .int (nI b)] : Array Value) s = true := hts _ (by decide +kernel)
  have kf60 : (Cond.fieldLink RX7 60 "BenchRunsModel" "told" "[I").before (#[.ref (ad 0), .int (nI b)] : Array Value) s = true := hts _ (by decide +kernel)
  have kf66 : (Cond.fieldLink RX7 66 "BenchRunsModel" "noted" "[I").before (#[.ref (ad 0), .int (nI b)] : Array Value) s = true := hts _ (by decide +kernel)
  refine lv_aload_n hx hb dX7_works_0 rfl (lv_at hl 0 rfl) ?_
  refine lv_iconst (v := 1) hx hb dX7_works_1 (by decide) ?_
  refine g_callV (As := [.int 1]) (rest := []) (N := 28) (T := TX7) (ci := 6) ⟨hx, hb, hml, hown, hts⟩ 0 (m_mark l D cy ad wy mt hj σ 0 (by decide) (mOK.ec hO (by omega))) (cwV 1 hts gX7_works_X7_mark rfl rfl rfl (by decide +kernel) ⟨by decide, by decide⟩) h0 hP hS (by decide) mF_0 rfl rfl rfl hl.1 (Nat.le_of_ble_eq_true rfl) dX7_works_2 ⟨Nat.zero_le _, Nat.zero_le _⟩ (fun H locs hP hS => ?_)
  refine lv_iconst (v := 0) hx hb dX7_works_5 (by decide) ?_
  refine lv_istore_n (lv' := [(2, .int 0), (0, .ref (ad 0)), (1, .int (nI b))]) hx hb dX7_works_6 rfl hl (by decide) rfl (fun ls hl => ?_)
  refine lv_iconst (v := 0) hx hb dX7_works_7 (by decide) ?_
  refine lv_istore_n (lv' := [(3, .int 0), (2, .int 0), (0, .ref (ad 0)), (1, .int (nI b))]) hx hb dX7_works_8 rfl hl (by decide) rfl (fun ls hl => ?_)
  have loop : ∀ (fu rr : Nat) (w : Int32) (τ : Mem) (H : Heap) (locs : List Loc) (ls : Array Slot), rr + fu = 7 → rr ≤ 6 → mR τ → mOK (x + 1 + 2 * rr) (y + rr) τ → mRounds b fu τ rr w = mRounds b 7 (mMark σ 0) 0 0 → va_P D vwCl (mW 18 ad (mF ad cy) τ) H → va_S (mA 18 ad) s.heap H locs → lv_has ls 4 [(3, .int (nI rr)), (2, .int w), (0, .ref (ad 0)), (1, .int (nI b))] → W p l e ({ frames := 7, cells := 0, slots := 0, locals := 158 }) s m ([.ref (ad 0), .int (nI b)] : List Value).toArray below meth c H locs 0 0 (MQ below (gQ 18 ad (mF ad cy) D (some (.int (mBatch σ b).1)) (mBatch σ b).2) ([.ref (ad 0), .int (nI b)] : List Value).toArray s 0 0 (mA 18 ad)) (F0 m 9 ls []) := by
    intro fu
    induction fu with
    | zero =>
      intro rr w τ H locs ls htn hrr
      exact absurd htn (by omega)
    | succ fu ih =>
      intro rr w τ H locs ls htn hrr hR hO hf hP hS hl
      refine lv_iload_n hx hb dX7_works_9 rfl (lv_at hl 0 rfl) ?_
      refine lv_aload_n hx hb dX7_works_10 rfl (lv_at hl 2 rfl) ?_
      refine mw_get (ci := 6) (C := RX7) (T := TX7) (N := 28) (v := .ref (ad 4)) hx hb hts hinX7 hown hK hP 0 (by decide) mF_0 rfl 4 (by decide) kf20 (fun _ h9 => h9) rfl dX7_works_11 ?_
      refine lv_iload_n hx hb dX7_works_14 rfl (lv_at hl 3 rfl) ?_
      refine mw_ild hx hb hK hP 4 (by decide) 0 mF_4 rfl b (by omega) (by decide) rfl dX7_works_15 ?_
      refine lv_icmp_ge (tgt := 134) hx hb dX7_works_16 (by decide) (fun c_1 => ?_) (fun c_1 => ?_)
      · skip
        have hE : mRounds b 7 (mMark σ 0) 0 0 = (w, τ) := hf.symm.trans (by rw [mRounds_succ, if_pos c_1])
        refine lv_aload_n hx hb dX7_works_134 rfl (lv_at hl 2 rfl) ?_
        refine lv_iconst (v := 2) hx hb dX7_works_135 (by decide) ?_
        refine g_callV (As := [.int 2]) (rest := []) (N := 28) (T := TX7) (ci := 6) ⟨hx, hb, hml, hown, hts⟩ 0 (m_mark l D cy ad wy mt hj τ 1 (by decide) (mOK.ec hO (by omega))) (cwV 1 hts gX7_works_X7_mark rfl rfl rfl (by decide +kernel) ⟨by decide, by decide⟩) h0 hP hS (by decide) mF_0 rfl rfl rfl hl.1 (Nat.le_of_ble_eq_true rfl) dX7_works_136 ⟨Nat.zero_le _, Nat.zero_le _⟩ (fun H locs hP hS => ?_)
        refine lv_iload_n hx hb dX7_works_139 rfl (lv_at hl 1 rfl) ?_
        refine lv_iconst (v := 3) hx hb dX7_works_140 (by decide) ?_
        refine lv_icmp_ne (tgt := 148) hx hb dX7_works_141 (by decide) (fun c_2 => ?_) (fun c_2 => ?_)
        · skip
          refine lv_iload_n hx hb dX7_works_148 rfl (lv_at hl 1 rfl) ?_
          exact g_iret hx hb hr hlocks hP hS dX7_works_149 (by unfold mBatch; rw [hE]; dsimp only; rw [if_neg c_2])
        · skip
          refine lv_iconst (v := 0) hx hb dX7_works_144 (by decide) ?_
          refine lv_goto (tgt := 149) hx hb dX7_works_145 (by decide) ?_
          exact g_iret hx hb hr hlocks hP hS dX7_works_149 (by unfold mBatch; rw [hE]; dsimp only; rw [if_pos c_2])
      · skip
        refine lv_iload_n hx hb dX7_works_19 rfl (lv_at hl 1 rfl) ?_
        refine lv_if_ne (tgt := 134) hx hb dX7_works_20 (by decide) (fun c_3 => ?_) (fun c_3 => ?_)
        · skip
          have hE : mRounds b 7 (mMark σ 0) 0 0 = (w, τ) := hf.symm.trans (by rw [mRounds_succ, if_neg c_1, if_neg c_3])
          refine lv_aload_n hx hb dX7_works_134 rfl (lv_at hl 2 rfl) ?_
          refine lv_iconst (v := 2) hx hb dX7_works_135 (by decide) ?_
          refine g_callV (As := [.int 2]) (rest := []) (N := 28) (T := TX7) (ci := 6) ⟨hx, hb, hml, hown, hts⟩ 0 (m_mark l D cy ad wy mt hj τ 1 (by decide) (mOK.ec hO (by omega))) (cwV 1 hts gX7_works_X7_mark rfl rfl rfl (by decide +kernel) ⟨by decide, by decide⟩) h0 hP hS (by decide) mF_0 rfl rfl rfl hl.1 (Nat.le_of_ble_eq_true rfl) dX7_works_136 ⟨Nat.zero_le _, Nat.zero_le _⟩ (fun H locs hP hS => ?_)
          refine lv_iload_n hx hb dX7_works_139 rfl (lv_at hl 1 rfl) ?_
          refine lv_iconst (v := 3) hx hb dX7_works_140 (by decide) ?_
          refine lv_icmp_ne (tgt := 148) hx hb dX7_works_141 (by decide) (fun c_4 => ?_) (fun c_4 => ?_)
          · skip
            refine lv_iload_n hx hb dX7_works_148 rfl (lv_at hl 1 rfl) ?_
            exact g_iret hx hb hr hlocks hP hS dX7_works_149 (by unfold mBatch; rw [hE]; dsimp only; rw [if_neg c_4])
          · skip
            refine lv_iconst (v := 0) hx hb dX7_works_144 (by decide) ?_
            refine lv_goto (tgt := 149) hx hb dX7_works_145 (by decide) ?_
            exact g_iret hx hb hr hlocks hP hS dX7_works_149 (by unfold mBatch; rw [hE]; dsimp only; rw [if_pos c_4])
        · skip
          have hr6 := mR_rr hR hb4 hrr c_1
          have hq : 6 * b + rr < 24 := by omega
          have hv0 := mR_v hR hq
          have hS1 := sM_round (ci (τ 5 (6 * b + rr))) hq hR
          have hO1 := hS1.2 _ _ hO
          refine lv_aload_n hx hb dX7_works_23 rfl (lv_at hl 2 rfl) ?_
          refine lv_bipush (v := 6) hx hb dX7_works_24 (by decide) ?_
          refine lv_iload_n hx hb dX7_works_26 rfl (lv_at hl 3 rfl) ?_
          refine lv_imul hx hb dX7_works_27 ?_
          refine lv_iload_n hx hb dX7_works_28 rfl (lv_at hl 0 rfl) ?_
          refine lv_iadd hx hb dX7_works_29 ?_
          refine g_top (y := nI (6 * b + rr)) (mul6 b rr) ?_
          refine g_callV (As := [.int (nI (6 * b + rr))]) (rest := []) (N := 28) (T := TX7) (ci := 6) ⟨hx, hb, hml, hown, hts⟩ 0 (m_does l D cy ad wy mt hj τ (6 * b + rr) (ci (τ 5 (6 * b + rr))) hq hv0.1 (x + 1 + 2 * rr) (y + rr) (by omega) hR hO hv0.2) (cwV 1 hts gX7_works_X7_does rfl rfl rfl (by decide +kernel) ⟨by decide, by decide⟩) h0 hP hS (by decide) mF_0 rfl rfl rfl hl.1 (Nat.le_of_ble_eq_true rfl) dX7_works_30 ⟨Nat.zero_le _, Nat.zero_le _⟩ (fun H locs hP hS => ?_)
          refine lv_istore_n (lv' := [(2, .int ((mRound τ (6 * b + rr) (ci (τ 5 (6 * b + rr)))).1)), (3, .int (nI rr)), (0, .ref (ad 0)), (1, .int (nI b))]) hx hb dX7_works_33 rfl hl (by decide) rfl (fun ls hl => ?_)
          refine lv_iload_n hx hb dX7_works_34 rfl (lv_at hl 0 rfl) ?_
          refine lv_iconst (v := 1) hx hb dX7_works_35 (by decide) ?_
          refine lv_icmp_ne (tgt := 41) hx hb dX7_works_36 (by decide) (fun c_5 => ?_) (fun c_5 => ?_)
          · skip
            refine lv_iload_n hx hb dX7_works_41 rfl (lv_at hl 0 rfl) ?_
            refine lv_iconst (v := 5) hx hb dX7_works_42 (by decide) ?_
            refine lv_icmp_ne (tgt := 97) hx hb dX7_works_43 (by decide) (fun c_6 => ?_) (fun c_6 => ?_)
            · skip
              refine lv_iload_n hx hb dX7_works_97 rfl (lv_at hl 0 rfl) ?_
              refine lv_iconst (v := 5) hx hb dX7_works_98 (by decide) ?_
              refine lv_icmp_ne (tgt := 128) hx hb dX7_works_99 (by decide) (fun _ => ?_) (fun c9 => absurd c9 c_6)
              have eR : mRoundAt b τ rr = mRound τ (6 * b + rr) (ci (τ 5 (6 * b + rr))) := by unfold mRoundAt mAfter; rw [if_neg c_5, if_neg c_6]
              have hS2 := sM_roundAt (b := b) (rr := rr) hq hR
              rw [eR] at hS2
              refine lv_iinc (v := nI (rr + 1)) (lv' := [(3, .int (nI (rr + 1))), (2, .int ((mRound τ (6 * b + rr) (ci (τ 5 (6 * b + rr)))).1)), (0, .ref (ad 0)), (1, .int (nI b))]) hx hb dX7_works_128 hl (k := 1) rfl (nI_1 rr) (by decide) rfl (fun ls hl => ?_)
              refine lv_goto (tgt := 9) hx hb dX7_works_131 (by decide) ?_
              exact ih (rr + 1) ((mRound τ (6 * b + rr) (ci (τ 5 (6 * b + rr)))).1) ((mRound τ (6 * b + rr) (ci (τ 5 (6 * b + rr)))).2) H locs ls (by omega) (by omega) (hS2.1.mR hR) ((hS2.2 _ _ hO).le (by omega) (by omega)) (Eq.trans (by rw [mRounds_succ, if_neg c_1, if_pos c_3, eR]) hf) hP hS (lv_sub hl [0, 1, 2, 3] rfl)
            · skip
              refine lv_aload_n hx hb dX7_works_46 rfl (lv_at hl 2 rfl) ?_
              refine mw_get (ci := 6) (C := RX7) (T := TX7) (N := 28) (v := .ref (ad 3)) hx hb hts hinX7 hown hK hP 0 (by decide) mF_0 rfl 3 (by decide) kf17 (fun _ h9 => h9) rfl dX7_works_47 ?_
              refine lv_iload_n hx hb dX7_works_50 rfl (lv_at hl 3 rfl) ?_
              refine mw_ild hx hb hK hP 3 (by decide) 0 mF_3 rfl b (by omega) (by decide) rfl dX7_works_51 ?_
              refine lv_iconst (v := 1) hx hb dX7_works_52 (by decide) ?_
              refine lv_icmp_ne (tgt := 97) hx hb dX7_works_53 (by decide) (fun c_7 => ?_) (fun c_7 => ?_)
              · skip
                refine lv_iload_n hx hb dX7_works_97 rfl (lv_at hl 0 rfl) ?_
                refine lv_iconst (v := 5) hx hb dX7_works_98 (by decide) ?_
                refine lv_icmp_ne (tgt := 128) hx hb dX7_works_99 (by decide) (fun c9 => absurd c_6 c9) (fun _ => ?_)
                refine lv_aload_n hx hb dX7_works_102 rfl (lv_at hl 2 rfl) ?_
                refine lv_aload_n hx hb dX7_works_103 rfl (lv_at hl 2 rfl) ?_
                refine mw_get (ci := 6) (C := RX7) (T := TX7) (N := 28) (v := .int (((mRound τ (6 * b + rr) (ci (τ 5 (6 * b + rr)))).2) 0 24)) hx hb hts hinX7 hown hK hP 0 (by decide) mF_0 rfl 24 (by decide) kf90 (fun _ h9 => h9) rfl dX7_works_104 ?_
                refine g_callV (As := [.int (((mRound τ (6 * b + rr) (ci (τ 5 (6 * b + rr)))).2) 0 24)]) (rest := []) (N := 28) (T := TX7) (ci := 6) ⟨hx, hb, hml, hown, hts⟩ 0 (m_reasons l D cy ad wy mt hj ((mRound τ (6 * b + rr) (ci (τ 5 (6 * b + rr)))).2) (((mRound τ (6 * b + rr) (ci (τ 5 (6 * b + rr)))).2) 0 24)) (cwV 1 hts gX7_works_X7_reasons rfl rfl rfl (by decide +kernel) ⟨by decide, by decide⟩) h0 hP hS (by decide) mF_0 rfl rfl rfl hl.1 (Nat.le_of_ble_eq_true rfl) dX7_works_107 ⟨Nat.zero_le _, Nat.zero_le _⟩ (fun H locs hP hS => ?_)
                refine lv_aload_n hx hb dX7_works_110 rfl (lv_at hl 2 rfl) ?_
                refine mw_get (ci := 6) (C := RX7) (T := TX7) (N := 28) (v := .ref (ad 3)) hx hb hts hinX7 hown hK hP 0 (by decide) mF_0 rfl 3 (by decide) kf17 (fun _ h9 => h9) rfl dX7_works_111 ?_
                refine lv_iload_n hx hb dX7_works_114 rfl (lv_at hl 3 rfl) ?_
                refine mw_ild hx hb hK hP 3 (by decide) 0 mF_3 rfl b (by omega) (by decide) rfl dX7_works_115 ?_
                refine lv_iconst (v := 2) hx hb dX7_works_116 (by decide) ?_
                refine lv_icmp_ne (tgt := 128) hx hb dX7_works_117 (by decide) (fun c_8 => ?_) (fun c_8 => ?_)
                · skip
                  have eR : mRoundAt b τ rr = (5, mReasons ((mRound τ (6 * b + rr) (ci (τ 5 (6 * b + rr)))).2) (((mRound τ (6 * b + rr) (ci (τ 5 (6 * b + rr)))).2) 0 24)) := by unfold mRoundAt mAfter; rw [if_neg c_5, if_pos c_6, if_neg c_7, if_neg c_8]
                  have hS2 := sM_roundAt (b := b) (rr := rr) hq hR
                  rw [eR] at hS2
                  dsimp only at hS2
                  refine lv_iinc (v := nI (rr + 1)) (lv' := [(3, .int (nI (rr + 1))), (2, .int ((mRound τ (6 * b + rr) (ci (τ 5 (6 * b + rr)))).1)), (0, .ref (ad 0)), (1, .int (nI b))]) hx hb dX7_works_128 hl (k := 1) rfl (nI_1 rr) (by decide) rfl (fun ls hl => ?_)
                  refine lv_goto (tgt := 9) hx hb dX7_works_131 (by decide) ?_
                  exact ih (rr + 1) 5 (mReasons ((mRound τ (6 * b + rr) (ci (τ 5 (6 * b + rr)))).2) (((mRound τ (6 * b + rr) (ci (τ 5 (6 * b + rr)))).2) 0 24)) H locs ls (by omega) (by omega) (hS2.1.mR hR) ((hS2.2 _ _ hO).le (by omega) (by omega)) (Eq.trans (by rw [mRounds_succ, if_neg c_1, if_pos c_3, eR]) hf) hP hS (by rw [c_6] at hl; exact lv_sub hl [0, 1, 2, 3] rfl)
                · skip
                  refine lv_aload_n hx hb dX7_works_120 rfl (lv_at hl 2 rfl) ?_
                  refine lv_bipush (v := 20) hx hb dX7_works_121 (by decide) ?_
                  refine lv_iload_n hx hb dX7_works_123 rfl (lv_at hl 1 rfl) ?_
                  refine lv_iadd hx hb dX7_works_124 ?_
                  refine g_callV (As := [.int (20 + (nI rr))]) (rest := []) (N := 28) (T := TX7) (ci := 6) ⟨hx, hb, hml, hown, hts⟩ 0 (m_inStead l D cy ad wy mt hj (mReasons ((mRound τ (6 * b + rr) (ci (τ 5 (6 * b + rr)))).2) (((mRound τ (6 * b + rr) (ci (τ 5 (6 * b + rr)))).2) 0 24)) (ci ((mReasons ((mRound τ (6 * b + rr) (ci (τ 5 (6 * b + rr)))).2) (((mRound τ (6 * b + rr) (ci (τ 5 (6 * b + rr)))).2) 0 24)) 0 23)) (20 + (nI rr)) (mwy_ci ((sM_reasons _ _).2 _ _ hO1).2.2).1 (mwy_ci ((sM_reasons _ _).2 _ _ hO1).2.2).2) (cwV 1 hts gX7_works_X7_inStead rfl rfl rfl (by decide +kernel) ⟨by decide, by decide⟩) h0 hP hS (by decide) mF_0 rfl rfl rfl hl.1 (Nat.le_of_ble_eq_true rfl) dX7_works_125 ⟨Nat.zero_le _, Nat.zero_le _⟩ (fun H locs hP hS => ?_)
                  have eR : mRoundAt b τ rr = (5, mInStead (mReasons ((mRound τ (6 * b + rr) (ci (τ 5 (6 * b + rr)))).2) (((mRound τ (6 * b + rr) (ci (τ 5 (6 * b + rr)))).2) 0 24)) (ci ((mReasons ((mRound τ (6 * b + rr) (ci (τ 5 (6 * b + rr)))).2) (((mRound τ (6 * b + rr) (ci (τ 5 (6 * b + rr)))).2) 0 24)) 0 23)) (20 + (nI rr))) := by unfold mRoundAt mAfter; rw [if_neg c_5, if_pos c_6, if_neg c_7, if_pos c_8]
                  have hS2 := sM_roundAt (b := b) (rr := rr) hq hR
                  rw [eR] at hS2
                  dsimp only at hS2
                  refine lv_iinc (v := nI (rr + 1)) (lv' := [(3, .int (nI (rr + 1))), (2, .int ((mRound τ (6 * b + rr) (ci (τ 5 (6 * b + rr)))).1)), (0, .ref (ad 0)), (1, .int (nI b))]) hx hb dX7_works_128 hl (k := 1) rfl (nI_1 rr) (by decide) rfl (fun ls hl => ?_)
                  refine lv_goto (tgt := 9) hx hb dX7_works_131 (by decide) ?_
                  exact ih (rr + 1) 5 (mInStead (mReasons ((mRound τ (6 * b + rr) (ci (τ 5 (6 * b + rr)))).2) (((mRound τ (6 * b + rr) (ci (τ 5 (6 * b + rr)))).2) 0 24)) (ci ((mReasons ((mRound τ (6 * b + rr) (ci (τ 5 (6 * b + rr)))).2) (((mRound τ (6 * b + rr) (ci (τ 5 (6 * b + rr)))).2) 0 24)) 0 23)) (20 + (nI rr))) H locs ls (by omega) (by omega) (hS2.1.mR hR) ((hS2.2 _ _ hO).le (by omega) (by omega)) (Eq.trans (by rw [mRounds_succ, if_neg c_1, if_pos c_3, eR]) hf) hP hS (by rw [c_6] at hl; exact lv_sub hl [0, 1, 2, 3] rfl)
              · skip
                refine lv_aload_n hx hb dX7_works_56 rfl (lv_at hl 2 rfl) ?_
                refine mw_get (ci := 6) (C := RX7) (T := TX7) (N := 28) (v := .ref (ad 14)) hx hb hts hinX7 hown hK hP 0 (by decide) mF_0 rfl 19 (by decide) kf60 (fun _ h9 => h9) rfl dX7_works_57 ?_
                refine lv_bipush (v := 6) hx hb dX7_works_60 (by decide) ?_
                refine mw_ild hx hb hK hP 14 (by decide) 0 mF_14 rfl 6 (by decide) (by decide) rfl dX7_works_62 ?_
                refine lv_bipush (v := 24) hx hb dX7_works_63 (by decide) ?_
                refine lv_icmp_ge (tgt := 84) hx hb dX7_works_65 (by decide) (fun c_9 => ?_) (fun c_9 => ?_)
                · skip
                  refine lv_aload_n hx hb dX7_works_84 rfl (lv_at hl 2 rfl) ?_
                  refine mw_get (ci := 6) (C := RX7) (T := TX7) (N := 28) (v := .ref (ad 14)) hx hb hts hinX7 hown hK hP 0 (by decide) mF_0 rfl 19 (by decide) kf60 (fun _ h9 => h9) rfl dX7_works_85 ?_
                  refine lv_bipush (v := 6) hx hb dX7_works_88 (by decide) ?_
                  refine lv_dup2_11 hx hb dX7_works_90 rfl rfl ?_
                  refine mw_ild hx hb hK hP 14 (by decide) 0 mF_14 rfl 6 (by decide) (by decide) rfl dX7_works_91 ?_
                  refine lv_iconst (v := 1) hx hb dX7_works_92 (by decide) ?_
                  refine lv_iadd hx hb dX7_works_93 ?_
                  refine mw_ist hx hb hK hj hP hS 14 (by decide) 0 mF_14 rfl 6 (by decide) (by decide) rfl dX7_works_94 (fun H locs hP hS => ?_)
                  refine lv_iconst (v := 0) hx hb dX7_works_95 (by decide) ?_
                  refine lv_istore_n (lv' := [(2, .int 0), (3, .int (nI rr)), (0, .ref (ad 0)), (1, .int (nI b))]) hx hb dX7_works_96 rfl hl (by decide) rfl (fun ls hl => ?_)
                  refine lv_iload_n hx hb dX7_works_97 rfl (lv_at hl 0 rfl) ?_
                  refine lv_iconst (v := 5) hx hb dX7_works_98 (by decide) ?_
                  refine lv_icmp_ne (tgt := 128) hx hb dX7_works_99 (by decide) (fun _ => ?_) (fun c9 => absurd c9 (by decide))
                  have eR : mRoundAt b τ rr = (0, mset ((mRound τ (6 * b + rr) (ci (τ 5 (6 * b + rr)))).2) 14 6 ((((mRound τ (6 * b + rr) (ci (τ 5 (6 * b + rr)))).2) 14 6) + 1)) := by unfold mRoundAt mAfter; rw [if_neg c_5, if_pos c_6, if_pos c_7, if_pos c_9]
                  have hS2 := sM_roundAt (b := b) (rr := rr) hq hR
                  rw [eR] at hS2
                  dsimp only at hS2
                  refine lv_iinc (v := nI (rr + 1)) (lv' := [(3, .int (nI (rr + 1))), (2, .int 0), (0, .ref (ad 0)), (1, .int (nI b))]) hx hb dX7_works_128 hl (k := 1) rfl (nI_1 rr) (by decide) rfl (fun ls hl => ?_)
                  refine lv_goto (tgt := 9) hx hb dX7_works_131 (by decide) ?_
                  exact ih (rr + 1) 0 (mset ((mRound τ (6 * b + rr) (ci (τ 5 (6 * b + rr)))).2) 14 6 ((((mRound τ (6 * b + rr) (ci (τ 5 (6 * b + rr)))).2) 14 6) + 1)) H locs ls (by omega) (by omega) (hS2.1.mR hR) ((hS2.2 _ _ hO).le (by omega) (by omega)) (Eq.trans (by rw [mRounds_succ, if_neg c_1, if_pos c_3, eR]) hf) hP hS (lv_sub hl [0, 1, 2, 3] rfl)
                · skip
                  have ix_n : vp_in (((mRound τ (6 * b + rr) (ci (τ 5 (6 * b + rr)))).2) 14 6) 24 := mOK.nt hO1 (by omega) c_9
                  refine lv_aload_n hx hb dX7_works_68 rfl (lv_at hl 2 rfl) ?_
                  refine mw_get (ci := 6) (C := RX7) (T := TX7) (N := 28) (v := .ref (ad 16)) hx hb hts hinX7 hown hK hP 0 (by decide) mF_0 rfl 21 (by decide) kf66 (fun _ h9 => h9) rfl dX7_works_69 ?_
                  refine lv_aload_n hx hb dX7_works_72 rfl (lv_at hl 2 rfl) ?_
                  refine mw_get (ci := 6) (C := RX7) (T := TX7) (N := 28) (v := .ref (ad 14)) hx hb hts hinX7 hown hK hP 0 (by decide) mF_0 rfl 19 (by decide) kf60 (fun _ h9 => h9) rfl dX7_works_73 ?_
                  refine lv_bipush (v := 6) hx hb dX7_works_76 (by decide) ?_
                  refine mw_ild hx hb hK hP 14 (by decide) 0 mF_14 rfl 6 (by decide) (by decide) rfl dX7_works_78 ?_
                  refine lv_aload_n hx hb dX7_works_79 rfl (lv_at hl 2 rfl) ?_
                  refine mw_get (ci := 6) (C := RX7) (T := TX7) (N := 28) (v := .int (((mRound τ (6 * b + rr) (ci (τ 5 (6 * b + rr)))).2) 0 24)) hx hb hts hinX7 hown hK hP 0 (by decide) mF_0 rfl 24 (by decide) kf90 (fun _ h9 => h9) rfl dX7_works_80 ?_
                  refine mw_ist hx hb hK hj hP hS 16 (by decide) 0 mF_16 rfl (ci (((mRound τ (6 * b + rr) (ci (τ 5 (6 * b + rr)))).2) 14 6)) (ci_lt ix_n) (by decide) (ci_eq ix_n (by decide)) dX7_works_83 (fun H locs hP hS => ?_)
                  refine lv_aload_n hx hb dX7_works_84 rfl (lv_at hl 2 rfl) ?_
                  refine mw_get (ci := 6) (C := RX7) (T := TX7) (N := 28) (v := .ref (ad 14)) hx hb hts hinX7 hown hK hP 0 (by decide) mF_0 rfl 19 (by decide) kf60 (fun _ h9 => h9) rfl dX7_works_85 ?_
                  refine lv_bipush (v := 6) hx hb dX7_works_88 (by decide) ?_
                  refine lv_dup2_11 hx hb dX7_works_90 rfl rfl ?_
                  refine mw_ild hx hb hK hP 14 (by decide) 0 mF_14 rfl 6 (by decide) (by decide) rfl dX7_works_91 ?_
                  refine lv_iconst (v := 1) hx hb dX7_works_92 (by decide) ?_
                  refine lv_iadd hx hb dX7_works_93 ?_
                  refine mw_ist hx hb hK hj hP hS 14 (by decide) 0 mF_14 rfl 6 (by decide) (by decide) rfl dX7_works_94 (fun H locs hP hS => ?_)
                  refine lv_iconst (v := 0) hx hb dX7_works_95 (by decide) ?_
                  refine lv_istore_n (lv' := [(2, .int 0), (3, .int (nI rr)), (0, .ref (ad 0)), (1, .int (nI b))]) hx hb dX7_works_96 rfl hl (by decide) rfl (fun ls hl => ?_)
                  refine lv_iload_n hx hb dX7_works_97 rfl (lv_at hl 0 rfl) ?_
                  refine lv_iconst (v := 5) hx hb dX7_works_98 (by decide) ?_
                  refine lv_icmp_ne (tgt := 128) hx hb dX7_works_99 (by decide) (fun _ => ?_) (fun c9 => absurd c9 (by decide))
                  have eR : mRoundAt b τ rr = (0, mset (mset ((mRound τ (6 * b + rr) (ci (τ 5 (6 * b + rr)))).2) 16 (ci (((mRound τ (6 * b + rr) (ci (τ 5 (6 * b + rr)))).2) 14 6)) (((mRound τ (6 * b + rr) (ci (τ 5 (6 * b + rr)))).2) 0 24)) 14 6 ((((mRound τ (6 * b + rr) (ci (τ 5 (6 * b + rr)))).2) 14 6) + 1)) := by unfold mRoundAt mAfter; rw [if_neg c_5, if_pos c_6, if_pos c_7, if_neg c_9]
                  have hS2 := sM_roundAt (b := b) (rr := rr) hq hR
                  rw [eR] at hS2
                  dsimp only at hS2
                  refine lv_iinc (v := nI (rr + 1)) (lv' := [(3, .int (nI (rr + 1))), (2, .int 0), (0, .ref (ad 0)), (1, .int (nI b))]) hx hb dX7_works_128 hl (k := 1) rfl (nI_1 rr) (by decide) rfl (fun ls hl => ?_)
                  refine lv_goto (tgt := 9) hx hb dX7_works_131 (by decide) ?_
                  exact ih (rr + 1) 0 (mset (mset ((mRound τ (6 * b + rr) (ci (τ 5 (6 * b + rr)))).2) 16 (ci (((mRound τ (6 * b + rr) (ci (τ 5 (6 * b + rr)))).2) 14 6)) (((mRound τ (6 * b + rr) (ci (τ 5 (6 * b + rr)))).2) 0 24)) 14 6 ((((mRound τ (6 * b + rr) (ci (τ 5 (6 * b + rr)))).2) 14 6) + 1)) H locs ls (by omega) (by omega) (hS2.1.mR hR) ((hS2.2 _ _ hO).le (by omega) (by omega)) (Eq.trans (by rw [mRounds_succ, if_neg c_1, if_pos c_3, eR]) hf) hP hS (lv_sub hl [0, 1, 2, 3] rfl)
          · skip
            refine lv_iconst (v := 0) hx hb dX7_works_39 (by decide) ?_
            refine lv_istore_n (lv' := [(2, .int 0), (3, .int (nI rr)), (0, .ref (ad 0)), (1, .int (nI b))]) hx hb dX7_works_40 rfl hl (by decide) rfl (fun ls hl => ?_)
            refine lv_iload_n hx hb dX7_works_41 rfl (lv_at hl 0 rfl) ?_
            refine lv_iconst (v := 5) hx hb dX7_works_42 (by decide) ?_
            refine lv_icmp_ne (tgt := 97) hx hb dX7_works_43 (by decide) (fun _ => ?_) (fun c9 => absurd c9 (by decide))
            refine lv_iload_n hx hb dX7_works_97 rfl (lv_at hl 0 rfl) ?_
            refine lv_iconst (v := 5) hx hb dX7_works_98 (by decide) ?_
            refine lv_icmp_ne (tgt := 128) hx hb dX7_works_99 (by decide) (fun _ => ?_) (fun c9 => absurd c9 (by decide))
            have eR : mRoundAt b τ rr = (0, (mRound τ (6 * b + rr) (ci (τ 5 (6 * b + rr)))).2) := by unfold mRoundAt mAfter; rw [if_pos c_5]
            have hS2 := sM_roundAt (b := b) (rr := rr) hq hR
            rw [eR] at hS2
            dsimp only at hS2
            refine lv_iinc (v := nI (rr + 1)) (lv' := [(3, .int (nI (rr + 1))), (2, .int 0), (0, .ref (ad 0)), (1, .int (nI b))]) hx hb dX7_works_128 hl (k := 1) rfl (nI_1 rr) (by decide) rfl (fun ls hl => ?_)
            refine lv_goto (tgt := 9) hx hb dX7_works_131 (by decide) ?_
            exact ih (rr + 1) 0 ((mRound τ (6 * b + rr) (ci (τ 5 (6 * b + rr)))).2) H locs ls (by omega) (by omega) (hS2.1.mR hR) ((hS2.2 _ _ hO).le (by omega) (by omega)) (Eq.trans (by rw [mRounds_succ, if_neg c_1, if_pos c_3, eR]) hf) hP hS (lv_sub hl [0, 1, 2, 3] rfl)
  exact loop 7 0 0 (mMark σ 0) _ _ ls (by omega) (by omega) ((kM_mark σ 0).mR hR) (mOK_mark hO (by decide) (by decide)) rfl hP hS (lv_sub hl [0, 1, 2, 3] rfl)
