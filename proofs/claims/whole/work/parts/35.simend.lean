theorem mStepAt_146 {q v k : Nat} {σ : Mem} (hR : mR σ) (hq : q < 24) (hk : k < 8) : (mStepAt q v σ k).2 14 6 = σ 14 6 := by
  obtain ⟨h1, h2, -, -⟩ := mR_st hR hq hk
  obtain ⟨g1, g2, g3⟩ := sM_act (mMark σ 4) v h1 h2
  show (mMark _ 5) 14 6 = _
  rw [mMark_14 (by decide), if_neg (by decide), if_neg (by decide), g2, mMark_14 (by decide), if_neg (by decide), if_neg (by decide)]
theorem mSteps_146 {q v : Nat} (hq : q < 24) : ∀ (fu : Nat) (σ : Mem) (k : Nat), mR σ → k ≤ 8 → (mSteps q v fu σ k).2 14 6 = σ 14 6
  | 0, σ, k, _, _ => rfl
  | fu + 1, σ, k, hR, hk => by
    rw [mSteps_succ]
    split
    · rfl
    split
    · rfl
    rename_i hc hl
    have hk8 := mR_k hR hq hk hc
    obtain ⟨h1, h2, h3⟩ := sM_stepAt (v := v) hR hq hk8 hl
    have e := mStepAt_146 (v := v) hR hq hk8
    split
    · rw [mSteps_146 hq fu _ 0 ((h1.set (by omega)).mR hR) (by omega), mset_nc (by decide)]
      exact e
    split
    · rw [mSteps_146 hq fu _ (k + 1) (h1.mR hR) (by omega)]
      exact e
    · exact e
theorem mRound_146 {q v : Nat} {σ : Mem} (hq : q < 24) (hR : mR σ) : (mRound σ q v).2 14 6 = σ 14 6 := by
  unfold mRound
  split
  · rfl
  split
  · rfl
  · dsimp only
    rw [mMark_14 (by decide), if_neg (by decide), if_neg (by decide), mSteps_146 hq 201 _ 0 (((kM_mark σ 2).set (by omega)).mR hR) (by omega), mset_nc (by decide), mMark_14 (by decide), if_neg (by decide), if_neg (by decide)]
theorem nIk {w : Nat} {l : Int32} (h1 : w < 7) (h2 : l = nI w) (k : Nat) (hk : k < 7) : w = k ↔ l = nI k := by
  rw [h2, nI_eq (by omega) (by omega)]
theorem sim_roundAt {σ τ : Mem} {b rr x N : Nat} (h : S σ τ) (h0 : ch0 σ τ) (hO : rOK x σ) (hx : x ≤ 880) (hN : ntB σ N) (h23 : N ≤ 23) (hb : b < 4) (hrr : rr < 6) :
    lfb (cRoundAt b σ rr).1 (mRoundAt b τ rr).1 (cRoundAt b σ rr).2 (mRoundAt b τ rr).2 ∧ ntB (cRoundAt b σ rr).2 (N + 1) := by
  have hq : 6 * b + rr < 24 := by omega
  have hl := sim_round h h0 hO hx hq
  have e146 := mRound_146 (v := ci (τ 5 (6 * b + rr))) hq h.2.2.2.2.2.2
  unfold cRoundAt mRoundAt
  generalize cRound σ (6 * b + rr) (ci (σ (26 + (6 * b + rr)) 3)) = rc at hl ⊢
  generalize mRound τ (6 * b + rr) (ci (τ 5 (6 * b + rr))) = rm at hl e146 ⊢
  obtain ⟨w1, w2, w3, w4, w5, w6⟩ := hl
  have hN' : ntB rc.2 N := by
    obtain ⟨k, hk, e⟩ := hN
    refine ⟨k, hk, ?_⟩
    rw [w3.2.2.2.2.2.1.2.2.1, e146, ← h.2.2.2.2.2.1.2.2.1]
    exact e
  have hNs : ntB rc.2 (N + 1) := by
    obtain ⟨k, hk, e⟩ := hN'
    exact ⟨k, by omega, e⟩
  have k1 := nIk w1 w2 1 (by decide)
  have k5 := nIk w1 w2 5 (by decide)
  unfold cAfter mAfter
  by_cases c1 : rc.1 = 1
  · have c1' : rm.1 = 1 := k1.mp c1
    rw [if_pos c1, if_pos c1']
    exact ⟨⟨by show (0 : Nat) < 7; decide, rfl, w3, fun q => absurd q (by show ¬ (0 : Nat) = 5; decide), fun _ => w5 (by rw [c1]; decide), fun q => absurd q (by show ¬ (0 : Nat) = 4; decide)⟩, hNs⟩
  · have c1' : ¬ rm.1 = 1 := fun q => c1 (k1.mpr q)
    rw [if_neg c1, if_neg c1']
    by_cases c5 : rc.1 = 5
    · have c5' : rm.1 = 5 := k5.mp c5
      rw [if_pos c5, if_pos c5']
      have hF := w4 c5
      have em : rc.2 (12 + b) 2 = rm.2 3 b := (w3.2.1.1 b hb).2
      unfold cTake
      rw [em]
      by_cases m1 : rm.2 3 b = 1
      · rw [if_pos m1, if_pos m1]
        obtain ⟨n, hn, en⟩ := hN'
        have en' : rm.2 14 6 = nI n := w3.2.2.2.2.2.1.2.2.1.symm.trans en
        have c24 : ¬ (24 : Int32) ≤ rm.2 14 6 := by
          rw [en']; intro q
          have := (nI_leI (a := 24) (by decide) (by omega)).mp q
          omega
        rw [if_neg c24]
        obtain ⟨s1, s2, s3⟩ := sim_note w3 hF ⟨n, hn, en⟩ h23
        exact ⟨⟨by show (0 : Nat) < 7; decide, rfl, s1, fun q => absurd q (by show ¬ (0 : Nat) = 5; decide), fun _ => s2, fun q => absurd q (by show ¬ (0 : Nat) = 4; decide)⟩, s3⟩
      · rw [if_neg m1, if_neg m1]
        obtain ⟨r1, n, hn, hn0, e1, e2, hk⟩ := sim_reasons w3 hF
        have e3 : (mReasons rm.2 (rm.2 0 24)) 3 b = rm.2 3 b := by
          rw [(sM_reasons rm.2 (rm.2 0 24)).1 3 (by decide) (by decide)]
        rw [e3]
        by_cases m2 : rm.2 3 b = 2
        · rw [if_pos m2, if_pos m2]
          obtain ⟨s1, s2, s3, s4, s5⟩ := sim_inStead r1 (by omega) e1 e2 hk (20 + nI rr)
          refine ⟨⟨by show (5 : Nat) < 7; decide, rfl, s1, fun _ => ⟨n + 1, by omega, s2, s3, s4⟩, fun q => absurd rfl q, fun q => absurd q (by show ¬ (5 : Nat) = 4; decide)⟩, ?_⟩
          obtain ⟨k, hk, e⟩ := hNs
          exact ⟨k, hk, s5.trans e⟩
        · rw [if_neg m2, if_neg m2]
          exact ⟨⟨by show (5 : Nat) < 7; decide, rfl, r1, fun _ => ⟨n, by omega, e1, e2, hk⟩, fun q => absurd rfl q, fun q => absurd q (by show ¬ (5 : Nat) = 4; decide)⟩, hNs⟩
    · have c5' : ¬ rm.1 = 5 := fun q => c5 (k5.mpr q)
      rw [if_neg c5, if_neg c5']
      exact ⟨⟨w1, w2, w3, fun q => absurd q c5, w5, w6⟩, hNs⟩
theorem sim_rounds {b : Nat} (hb : b < 4) : ∀ (fu : Nat) (σ τ : Mem) (rr w : Nat) (l : Int32) (x N : Nat), rr ≤ 6 → N ≤ 18 → x + 12 ≤ 880 → lfb w l σ τ → rOK (x + 2 * rr) σ → ntB σ (N + rr) →
    lfb (cRounds b fu σ rr w).1 (mRounds b fu τ rr l).1 (cRounds b fu σ rr w).2 (mRounds b fu τ rr l).2 ∧ ntB (cRounds b fu σ rr w).2 (N + 6)
  | 0, σ, τ, rr, w, l, x, N, hrr, hN, hx, hl, hO, hn => ⟨hl, by obtain ⟨k, hk, e⟩ := hn; exact ⟨k, by omega, e⟩⟩
  | fu + 1, σ, τ, rr, w, l, x, N, hrr, hN, hx, hl, hO, hn => by
    have hnn : ntB σ (N + 6) := by obtain ⟨k, hk, e⟩ := hn; exact ⟨k, by omega, e⟩
    obtain ⟨w1, w2, w3, w4, w5, w6⟩ := hl
    rw [cRounds_succ, mRounds_succ, (w3.2.1.1 b hb).1]
    by_cases hc : τ 4 b ≤ nI rr
    · rw [if_pos hc, if_pos hc]
      exact ⟨⟨w1, w2, w3, w4, w5, w6⟩, hnn⟩
    · rw [if_neg hc, if_neg hc]
      have k0 : w = 0 ↔ l = 0 := nIk w1 w2 0 (by decide)
      by_cases hw0 : w = 0
      · rw [if_pos hw0, if_pos (k0.mp hw0)]
        have h6 := cR_rr w3.cR hb hrr (by rw [(w3.2.1.1 b hb).1]; exact hc)
        obtain ⟨r1, r2⟩ := sim_roundAt w3 (w5 (by rw [hw0]; decide)) hO (by omega) hn (by omega) hb h6
        have hO' := (sOK_roundAt (b := b) (rr := rr) (by omega) w3.cR).2.2 _ (by omega) hO
        exact sim_rounds hb fu _ _ (rr + 1) _ _ x N (by omega) hN hx r1 (hO'.le (by omega)) r2
      · rw [if_neg hw0, if_neg (fun q => hw0 (k0.mpr q))]
        exact ⟨⟨w1, w2, w3, w4, w5, w6⟩, hnn⟩
theorem lfb.mark {w : Nat} {l : Int32} {σ τ : Mem} {x e : Nat} (h : lfb w l σ τ) (hO : rOK x σ) (hx : x ≤ 1000) (he : e < 6) : lfb w l (cMark σ (e + 1)) (mMark τ e) := by
  obtain ⟨h1, h2, h3, h4, h5, h6⟩ := h
  have a76 : (cMark σ (e + 1)) 7 6 = σ 7 6 := by rw [cMark_7, if_neg (by decide)]
  have a11 : (cMark σ (e + 1)) 11 = σ 11 := cMark_nc (by decide) (by decide) (by decide)
  have a0 : (cMark σ (e + 1)) 0 = σ 0 := cMark_nc (by decide) (by decide) (by decide)
  have b0 : (mMark τ e) 0 = τ 0 := mMark_nc (by decide) (by decide)
  have b17 : (mMark τ e) 17 = τ 17 := mMark_nc (by decide) (by decide)
  refine ⟨h1, h2, sim_mark h3 hO hx he, fun q => ?_, fun q => ?_, fun q => ?_⟩
  · rw [a76, a11, b0, b17]; exact h4 q
  · unfold ch0; rw [a76, b0]; exact h5 q
  · rw [a0, b0]; exact h6 q
theorem ntB.mark {σ : Mem} {N e : Nat} (h : ntB σ N) : ntB (cMark σ e) N := by
  obtain ⟨k, hk, q⟩ := h
  exact ⟨k, hk, by rw [cMark_7, if_neg (by decide)]; exact q⟩
theorem sim_batch {σ τ : Mem} {b x N : Nat} (h : S σ τ) (h0 : ch0 σ τ) (hO : rOK x σ) (hx : x ≤ 800) (hN : ntB σ N) (h18 : N ≤ 18) (hb : b < 4) :
    lfb (cBatch σ b).1 (mBatch τ b).1 (cBatch σ b).2 (mBatch τ b).2 ∧ ntB (cBatch σ b).2 (N + 6) := by
  have hO1 := rOK_mark hO (by omega) (show (1 : Nat) ≠ 5 by decide)
  have l0 : lfb 0 0 σ τ := ⟨by decide, rfl, h, fun q => absurd q (by decide), fun _ => h0, fun q => absurd q (by decide)⟩
  obtain ⟨r1, r2⟩ := sim_rounds hb 7 (cMark σ 1) (mMark τ 0) 0 0 0 (x + 1) N (by omega) h18 (by omega) (l0.mark (e := 0) hO (by omega) (by decide)) hO1 hN.mark
  have hO2 := (sOK_rounds hb 7 (cMark σ 1) 0 0 ((kR_mark σ 1).cR h.cR) (by omega) (by decide)).2.2 (x + 1) (by omega) hO1
  have r3 := r1.mark (e := 1) hO2 (by omega) (by decide)
  unfold cBatch mBatch
  refine ⟨?_, r2.mark⟩
  obtain ⟨w1, w2, w3, w4, w5, w6⟩ := r3
  dsimp only
  have k3 := nIk w1 w2 3 (by decide)
  by_cases c3 : (cRounds b 7 (cMark σ 1) 0 0).1 = 3
  · have c3' : (mRounds b 7 (mMark τ 0) 0 0).1 = 3 := k3.mp c3
    rw [if_pos c3, if_pos c3']
    exact ⟨by decide, rfl, w3, fun q => absurd q (by decide), fun _ => w5 (by rw [c3]; decide), fun q => absurd q (by decide)⟩
  · have c3' : ¬ (mRounds b 7 (mMark τ 0) 0 0).1 = 3 := fun q => c3 (k3.mpr q)
    rw [if_neg c3, if_neg c3']
    exact ⟨w1, w2, w3, w4, w5, w6⟩
theorem cFail_5 (σ : Mem) (n : Int32) : (cFail σ n).1 = 5 := by
  unfold cFail
  split
  · rfl
  split
  · rfl
  · rfl
theorem cSteps_ne {q v : Nat} : ∀ (fu : Nat) (σ : Mem) (nx : Nat) (ag : Int32), (cSteps q v fu σ nx ag).1 ≠ 2
  | 0, σ, nx, ag => by show (0 : Nat) ≠ 2; decide
  | fu + 1, σ, nx, ag => by
    rw [cSteps_succ]
    split
    · show (0 : Nat) ≠ 2; decide
    split
    · split
      · exact cSteps_ne fu _ _ _
      rename_i h2
      split
      · exact cSteps_ne fu _ _ _
      · exact h2
    · show (6 : Nat) ≠ 2; decide
theorem cRound_ne (σ : Mem) (q v : Nat) : (cRound σ q v).1 ≠ 2 := by
  unfold cRound
  split
  · split
    · rw [cFail_5]; decide
    · exact cSteps_ne 201 _ _ _
  · rw [cFail_5]; decide
theorem cRoundAt_ne (b : Nat) (σ : Mem) (rr : Nat) : (cRoundAt b σ rr).1 ≠ 1 ∧ (cRoundAt b σ rr).1 ≠ 2 := by
  have h2 := cRound_ne σ (6 * b + rr) (ci (σ (26 + (6 * b + rr)) 3))
  unfold cRoundAt cAfter
  split
  · exact ⟨by show (0 : Nat) ≠ 1; decide, by show (0 : Nat) ≠ 2; decide⟩
  rename_i h1
  split
  · unfold cTake
    split
    · exact ⟨by show (0 : Nat) ≠ 1; decide, by show (0 : Nat) ≠ 2; decide⟩
    split
    · exact ⟨by show (5 : Nat) ≠ 1; decide, by show (5 : Nat) ≠ 2; decide⟩
    · exact ⟨by show (5 : Nat) ≠ 1; decide, by show (5 : Nat) ≠ 2; decide⟩
  · exact ⟨h1, h2⟩
theorem cRounds_ne {b : Nat} : ∀ (fu : Nat) (σ : Mem) (rr w : Nat), w ≠ 1 ∧ w ≠ 2 → (cRounds b fu σ rr w).1 ≠ 1 ∧ (cRounds b fu σ rr w).1 ≠ 2
  | 0, σ, rr, w, h => h
  | fu + 1, σ, rr, w, h => by
    rw [cRounds_succ]
    split
    · exact h
    split
    · exact cRounds_ne fu _ _ _ (cRoundAt_ne b σ rr)
    · exact h
theorem cBatch_ne (σ : Mem) (b : Nat) : (cBatch σ b).1 ≠ 1 ∧ (cBatch σ b).1 ≠ 2 ∧ (cBatch σ b).1 ≠ 3 := by
  have h := cRounds_ne (b := b) 7 (cMark σ 1) 0 0 (by decide)
  show (if _ = 3 then 0 else _) ≠ 1 ∧ (if _ = 3 then 0 else _) ≠ 2 ∧ (if _ = 3 then 0 else _) ≠ 3
  split
  · decide
  · rename_i h3
    exact ⟨h.1, h.2, h3⟩
theorem way0 {w : Nat} (h7 : w < 7) (h : w ≠ 1 ∧ w ≠ 2 ∧ w ≠ 3) (c5 : ¬ w = 5) (c4 : ¬ w = 4) (c6 : ¬ w = 6) : w = 0 := by
  obtain ⟨h1, h2, h3⟩ := h
  omega
/-- what holds between the calls -/
def Z (σ τ : Mem) : Prop := S σ τ ∧ chW σ τ ∧ ∃ x : Nat, x ≤ 900 ∧ rOK x σ
theorem sim_bats {fi la wr : Int32} (hla : vp_in la 4) : ∀ (fu : Nat) (σ τ : Mem) (bb : Nat), 5 ≤ bb + fu → bb ≤ 4 → S σ τ → ch0 σ τ → rOK (14 * bb) σ → ntB σ (6 * bb) →
    (cBats fi la wr fu σ bb).1 = (mBats fi la wr fu τ bb).1 ∧ Z (cBats fi la wr fu σ bb).2 (mBats fi la wr fu τ bb).2
  | 0, σ, τ, bb, h5, h4, _, _, _, _ => absurd h5 (by omega)
  | fu + 1, σ, τ, bb, h5, h4, h, h0, hO, hN => by
    have z0 : ∀ {σ' τ' : Mem} {y : Nat}, S σ' τ' → ch0 σ' τ' → y ≤ 900 → rOK y σ' → Z σ' τ' := fun a b c d => ⟨a, ⟨0, by decide, b.1, b.2, fun k hk => absurd hk (by omega)⟩, _, c, d⟩
    rw [cBats_succ, mBats_succ]
    by_cases hc : la < nI bb
    · rw [if_pos hc, if_pos hc]
      exact ⟨rfl, z0 h h0 (by omega) hO⟩
    · rw [if_neg hc, if_neg hc]
      have hb4 := bb_lt hla hc h4
      obtain ⟨r1, r2⟩ := sim_batch h h0 hO (by omega) hN (by omega) hb4
      have hO' := (sOK_batch (b := bb) hb4 h.cR).2.2 _ (by omega) hO
      have hne := cBatch_ne σ bb
      generalize cBatch σ bb = rc at r1 r2 hO' hne ⊢
      generalize mBatch τ bb = rm at r1 ⊢
      obtain ⟨w1, w2, w3, w4, w5, w6⟩ := r1
      have k5 := nIk w1 w2 5 (by decide)
      have k4 := nIk w1 w2 4 (by decide)
      have k6 := nIk w1 w2 6 (by decide)
      have k0 : rc.1 = 0 ↔ rm.1 = 0 := nIk w1 w2 0 (by decide)
      by_cases c5 : rc.1 = 5
      · have c5' : rm.1 = 5 := k5.mp c5
        rw [if_pos c5, if_pos c5']
        obtain ⟨n, hn, e1, e2, hk⟩ := w4 c5
        by_cases hw : wr = 0
        · rw [if_pos hw, if_pos hw]
          exact ⟨rfl, w3, ⟨n, by omega, e1, e2, hk⟩, _, by omega, hO'⟩
        · rw [if_neg hw, if_neg hw]
          obtain ⟨s1, s2, s3, s4, s5⟩ := sim_inStead w3 hn e1 e2 hk (30 + nI bb)
          exact ⟨rfl, s1, ⟨n + 1, by omega, s2, s3, s4⟩, _, by omega, (sB_inStead rc.2 _).2 _ hO'⟩
      · have c5' : ¬ rm.1 = 5 := fun q => c5 (k5.mpr q)
        rw [if_neg c5, if_neg c5']
        have hch := w5 c5
        by_cases c4 : rc.1 = 4
        · have c4' : rm.1 = 4 := k4.mp c4
          rw [if_pos c4, if_neg (by rw [c4']; decide), if_pos c4']
          exact ⟨by dsimp only; rw [w6 c4], z0 w3 hch (by omega) hO'⟩
        · have c4' : ¬ rm.1 = 4 := fun q => c4 (k4.mpr q)
          rw [if_neg c4]
          by_cases c6 : rc.1 = 6
          · have c6' : rm.1 = 6 := k6.mp c6
            rw [if_pos c6, if_neg (by rw [c6']; decide), if_neg c4']
            exact ⟨rfl, z0 w3 hch (by omega) hO'⟩
          · have c0 : rc.1 = 0 := way0 w1 hne c5 c4 c6
            rw [if_neg c6, if_pos (k0.mp c0)]
            exact sim_bats hla fu rc.2 rm.2 (bb + 1) (by omega) (by omega) w3 hch (hO'.le (by omega)) r2
