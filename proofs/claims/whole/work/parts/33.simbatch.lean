/-- a mark of the class: what each cell holds behind it -/
theorem cMark_nc {σ : Mem} {ev i : Nat} (h7 : i ≠ 7) (h8 : i ≠ 8) (h9 : i ≠ 9) : (cMark σ ev) i = σ i := by
  unfold cMark
  split
  · rw [mset_nc h7, mset_nc h8]
  · rw [mset_nc h7, mset_nc h9, mset_nc h8]
theorem cMark_7 {σ : Mem} {ev : Nat} (k : Nat) : (cMark σ ev) 7 k = if k = 2 then σ 7 2 + 1 else σ 7 k := by
  unfold cMark
  split <;> (simp only [mset_eq]; by_cases h : k = 2 <;> simp [h])
theorem cMark_8 {σ : Mem} {ev : Nat} (k : Nat) : (cMark σ ev) 8 k = if k = ev then σ 8 ev + 1 else σ 8 k := by
  unfold cMark
  split <;> (simp only [mset_eq]; by_cases h : k = ev <;> simp [h])
theorem cMark_9 {σ : Mem} {ev : Nat} (k : Nat) : (cMark σ ev) 9 k = if 400 ≤ σ 7 2 then σ 9 k else if k = ci (σ 7 2) then nI ev else σ 9 k := by
  unfold cMark
  split <;> (simp only [mset_eq]; by_cases h : k = ci (σ 7 2) <;> simp [h])
theorem mMark_15 {σ : Mem} {ev : Nat} (k : Nat) : (mMark σ ev) 15 k = if 400 ≤ σ 14 7 then σ 15 k else if k = ci (σ 14 7) then nI (ev + 1) else σ 15 k := by
  unfold mMark
  split <;> (simp only [mset_eq]; by_cases h : k = ci (σ 14 7) <;> simp [h])
theorem sim_mark {σ τ : Mem} {x e : Nat} (h : S σ τ) (hO : rOK x σ) (hx : x ≤ 1000) (he : e < 6) : S (cMark σ (e + 1)) (mMark τ e) := by
  obtain ⟨h1, ⟨h2, h2'⟩, h3, h4, h5, ⟨g1, g2, g3, g4, g5⟩, h7⟩ := h
  have c : ∀ i : Nat, i ≠ 7 → i ≠ 8 → i ≠ 9 → (cMark σ (e + 1)) i = σ i := fun i a b d => cMark_nc a b d
  have d : ∀ i : Nat, i ≠ 14 → i ≠ 15 → (mMark τ e) i = τ i := fun i a b => mMark_nc a b
  obtain ⟨n, li, en, -, hli, hn⟩ := hO.1
  have en' : τ 14 7 = nI n := g2.symm.trans en
  refine ⟨?_, ⟨fun b hb => ?_, fun q hq => ?_⟩, fun t ht => ?_, fun k hk => ?_, ?_, ?_, ?_⟩
  · rw [c 1 (by decide) (by decide) (by decide), d 1 (by decide) (by decide), d 2 (by decide) (by decide)]; exact h1
  · rw [c (12 + b) (by omega) (by omega) (by omega), d 4 (by decide) (by decide), d 3 (by decide) (by decide)]; exact h2 b hb
  · rw [c (26 + q) (by omega) (by omega) (by omega), c (50 + q) (by omega) (by omega) (by omega), c (74 + q) (by omega) (by omega) (by omega), d 5 (by decide) (by decide), d 6 (by decide) (by decide), d 7 (by decide) (by decide), d 8 (by decide) (by decide)]; exact h2' q hq
  · rw [c (20 + t) (by omega) (by omega) (by omega), d 9 (by decide) (by decide), d 10 (by decide) (by decide), d 11 (by decide) (by decide)]; exact h3 t ht
  · rw [c 4 (by decide) (by decide) (by decide), d 13 (by decide) (by decide)]; exact h4 k hk
  · rw [c 5 (by decide) (by decide) (by decide), c 6 (by decide) (by decide) (by decide), d 12 (by decide) (by decide), d 0 (by decide) (by decide)]; exact h5
  · refine ⟨fun k hk => ?_, ?_, ?_, fun k hk hlt => ?_, fun k hk hlt => ?_⟩
    · rw [cMark_8, mMark_14 he, if_neg (show ¬ k = 7 by omega)]
      by_cases hke : k = e
      · subst hke
        rw [if_pos rfl, if_pos rfl, g1 k hk]
      · rw [if_neg (by omega), if_neg hke, g1 k hk]
    · rw [cMark_7, mMark_14 he, if_pos rfl, if_pos rfl, g2]
    · rw [cMark_7, mMark_14 he, if_neg (by decide), if_neg (by decide), if_neg (by omega), g3]
    · rw [mMark_14 he, if_pos rfl, en', nI_1] at hlt
      have hkn : k < n + 1 := (nI_ltI (by omega) (by omega)).mp hlt
      rw [cMark_9, mMark_15, en, en']
      by_cases h400 : (400 : Int32) ≤ nI n
      · rw [if_pos h400, if_pos h400]
        have : 400 ≤ n := (nI_leI (a := 400) (by decide) (by omega)).mp h400
        exact g4 k hk (by rw [en']; exact nI_lt (by omega) (by omega))
      · rw [if_neg h400, if_neg h400]
        have ecn : ci (nI n) = n := nI_clamp (by omega)
        rw [ecn]
        by_cases hk2 : k = n
        · rw [if_pos hk2, if_pos hk2]
        · rw [if_neg hk2, if_neg hk2]
          exact g4 k hk (by rw [en']; exact nI_lt (by omega) (by omega))
    · rw [mMark_14 he, if_neg (by decide), if_neg (by omega)] at hlt
      rw [c 10 (by decide) (by decide) (by decide), d 16 (by decide) (by decide)]
      exact g5 k hk hlt
  · exact h7.of fun i a b => d i (by omega) (by omega)
theorem lft.mark {w : Nat} {l : Int32} {σ τ : Mem} {x e : Nat} (h : lft w l σ τ) (hO : rOK x σ) (hx : x ≤ 1000) (he : e < 6) : lft w l (cMark σ (e + 1)) (mMark τ e) := by
  obtain ⟨h1, h2, h3, h4, h5, h6⟩ := h
  have a76 : (cMark σ (e + 1)) 7 6 = σ 7 6 := by rw [cMark_7, if_neg (by decide)]
  have a11 : (cMark σ (e + 1)) 11 = σ 11 := cMark_nc (by decide) (by decide) (by decide)
  have a0 : (cMark σ (e + 1)) 0 = σ 0 := cMark_nc (by decide) (by decide) (by decide)
  have b0 : (mMark τ e) 0 = τ 0 := mMark_nc (by decide) (by decide)
  refine ⟨h1, h2, sim_mark h3 hO hx he, fun q => ?_, fun q => ?_, fun q => ?_⟩
  · unfold chF; rw [a76, a11, b0]; exact h4 q
  · unfold ch0; rw [a76, b0]; exact h5 q
  · rw [a0, b0]; exact h6 q
theorem ch0.mark {σ τ : Mem} {e e' : Nat} (h : ch0 σ τ) : ch0 (cMark σ e') (mMark τ e) := by
  unfold ch0
  rw [cMark_7, if_neg (by decide), mMark_nc (by decide) (by decide)]
  exact h
theorem S.cR {σ τ : Mem} (h : S σ τ) : cR σ := by
  obtain ⟨-, ⟨h2, h2'⟩, -, -, -, -, h7⟩ := h
  refine ⟨fun q hq => ?_, fun b hb => ?_⟩
  · obtain ⟨e1, e2, e3⟩ := h2' q hq
    obtain ⟨a1, a2, a3⟩ := h7.1 q hq
    refine ⟨by rw [e1]; exact a1, by rw [e2]; exact a2, fun k hk => ?_⟩
    obtain ⟨kd, j, b1, b2, b3, b4⟩ := a3 k hk
    exact ⟨kd, j, b1, Nat.le_trans b2 (mostD_200 kd b1), (e3 k hk).1.trans b3, (e3 k hk).2.trans b4, fun q => Nat.lt_of_le_of_lt b2 (mostD_4 kd b1 q)⟩
  · rw [(h2 b hb).1]; exact h7.2 b hb
theorem S.lit {σ τ : Mem} (h : S σ τ) : σ 8 5 = τ 14 4 := h.2.2.2.2.2.1.1 4 (by decide)
/-- a step with its lamp -/
theorem sim_stepAt {σ τ : Mem} {q v nx x : Nat} (h : S σ τ) (h0 : ch0 σ τ) (hO : rOK (x + 1) σ) (hx : x ≤ 900) (hl : σ 8 5 < 200) (hq : q < 24) (hnx : nx < 8) (hv : v < 8) (hp : τ 1 v = 1) :
    lft (cStepAt q v σ nx (τ 0 26)).1 (mStepAt q v τ nx).1 (cStepAt q v σ nx (τ 0 26)).2 (mStepAt q v τ nx).2 ∧ (mStepAt q v τ nx).2 1 = τ 1 ∧ (mStepAt q v τ nx).2 0 26 = τ 0 26 := by
  obtain ⟨e1, e2⟩ := (h.2.1.2 q hq).2.2 nx hnx
  obtain ⟨a1, a2, a3, a4⟩ := mR_st h.2.2.2.2.2.2 hq hnx
  have hO1 := rOK_lit hO hx hl
  have hS1 := sim_mark (e := 4) h hO (by omega) (by decide)
  have b0 : (mMark τ 4) 0 = τ 0 := mMark_nc (by decide) (by decide)
  have b1 : (mMark τ 4) 1 = τ 1 := mMark_nc (by decide) (by decide)
  have hst := sim_step hS1 (h0.mark) a1 a2 hv (by rw [b1]; exact hp) (rOK.bx hO1)
  rw [b0] at hst
  have hO2 := (sOK_step (cMark σ 5) (kd := ci (τ 7 (8 * q + nx))) (j := ci (τ 8 (8 * q + nx))) v (τ 0 26) (Nat.le_trans a2 (mostD_200 _ a1))).2.2 x hO1
  have hm := hst.mark (e := 5) hO2 (by omega) (by decide)
  have hA := sA_act (mMark τ 4) (kd := ci (τ 7 (8 * q + nx))) (j := ci (τ 8 (8 * q + nx))) (v := v) a1
  unfold cStepAt mStepAt
  rw [e1, e2]
  refine ⟨hm, ?_, ?_⟩
  · dsimp only
    rw [mMark_nc (by decide) (by decide), hA.1, b1]
  · dsimp only
    rw [mMark_nc (by decide) (by decide), hA.2, b0]
theorem sim_steps {q v x : Nat} (hq : q < 24) (hv : v < 8) (hx : x ≤ 900) : ∀ (fu li : Nat) (σ τ : Mem) (nx : Nat), 201 ≤ li + fu → li ≤ 200 → σ 8 5 = nI li → nx ≤ 8 → S σ τ → ch0 σ τ → rOK (x + 1) σ → τ 1 v = 1 →
    lft (cSteps q v fu σ nx (τ 0 26)).1 (mSteps q v fu τ nx).1 (cSteps q v fu σ nx (τ 0 26)).2 (mSteps q v fu τ nx).2 ∧ (mSteps q v fu τ nx).2 1 = τ 1
  | 0, li, σ, τ, nx, h1, h2, _, _, _, _, _, _ => absurd h1 (by omega)
  | fu + 1, li, σ, τ, nx, h1, h2, eli, hnx, h, h0, hO, hp => by
    have hR := h.cR
    have e6 : σ (26 + q) 2 = τ 6 q := (h.2.1.2 q hq).1
    have elt : τ 14 4 = nI li := h.lit.symm.trans eli
    rw [cSteps_succ, mSteps_succ, e6]
    by_cases hc : τ 6 q ≤ nI nx
    · rw [if_pos hc, if_pos hc]
      exact ⟨lft_same (k := 0) (by decide) (by decide) (by decide) h h0, rfl⟩
    · rw [if_neg hc, if_neg hc]
      by_cases hli : li = 200
      · have c1 : ¬ σ 8 5 < 200 := by rw [eli, hli]; decide
        have c2 : τ 14 4 = 200 := by rw [elt, hli]; rfl
        rw [if_neg c1, if_pos c2]
        exact ⟨lft_same (k := 6) (by decide) (by decide) (by decide) h h0, rfl⟩
      · have c1 : σ 8 5 < 200 := by rw [eli]; exact nI_lt (b := 200) (by omega) (by decide)
        have c2 : ¬ τ 14 4 = 200 := by rw [elt]; exact fun z => hli ((nI_eq (b := 200) (by omega) (by decide)).mp z)
        rw [if_pos c1, if_neg c2]
        have hnx8 := cR_nx hR hq hnx (by rw [e6]; exact hc)
        obtain ⟨hl, hl1, hl26⟩ := sim_stepAt h h0 hO hx c1 hq hnx8 hv hp
        obtain ⟨s1, s2, s3⟩ := sOK_stepAt (q := q) (v := v) (nx := nx) (σ := σ) (τ 0 26) (cR_num hR hq hnx8) c1
        have lit2 : (mStepAt q v τ nx).2 14 4 = nI (li + 1) := by
          rw [(sM_stepAt (v := v) h.2.2.2.2.2.2 hq hnx8 c2).2.1, elt, nI_1]
        obtain ⟨w1, w2, w3, w4, w5, w6⟩ := hl
        have lit1 : (cStepAt q v σ nx (τ 0 26)).2 8 5 = nI (li + 1) := w3.lit.trans lit2
        have hw2 : (cStepAt q v σ nx (τ 0 26)).1 = 2 ↔ (mStepAt q v τ nx).1 = 2 := by
          rw [w2]
          exact ⟨fun z => by rw [z]; rfl, fun z => (nI_eq (b := 2) (by omega) (by decide)).mp z⟩
        have hw0 : (cStepAt q v σ nx (τ 0 26)).1 = 0 ↔ (mStepAt q v τ nx).1 = 0 := by
          rw [w2]
          exact ⟨fun z => by rw [z]; rfl, fun z => (nI_eq (b := 0) (by omega) (by decide)).mp z⟩
        by_cases k2 : (cStepAt q v σ nx (τ 0 26)).1 = 2
        · rw [if_pos k2, if_pos (hw2.mp k2)]
          have hS3 : S (cStepAt q v σ nx (τ 0 26)).2 (mset (mStepAt q v τ nx).2 0 26 ((mStepAt q v τ nx).2 0 26 + 1)) :=
            w3.of (fun i _ _ _ => rfl) rfl rfl (fun i a _ => mset_nc a) rfl rfl rfl rfl rfl
          have ih := sim_steps hq hv hx fu (li + 1) (cStepAt q v σ nx (τ 0 26)).2 (mset (mStepAt q v τ nx).2 0 26 ((mStepAt q v τ nx).2 0 26 + 1)) 0 (by omega) (by omega) lit1 (by omega) hS3 (w5 (by rw [k2]; decide)) (s3 x hx hO) (by rw [mset_nc (by decide), hl1]; exact hp)
          rw [mset_self, hl26] at ih
          rw [hl26]
          refine ⟨ih.1, ih.2.trans ?_⟩
          rw [mset_nc (by decide), hl1]
        · rw [if_neg k2, if_neg (fun z => k2 (hw2.mpr z))]
          by_cases k0 : (cStepAt q v σ nx (τ 0 26)).1 = 0
          · rw [if_pos k0, if_pos (hw0.mp k0)]
            have ih := sim_steps hq hv hx fu (li + 1) (cStepAt q v σ nx (τ 0 26)).2 (mStepAt q v τ nx).2 (nx + 1) (by omega) (by omega) lit1 (by omega) w3 (w5 (by rw [k0]; decide)) (s3 x hx hO) (by rw [hl1]; exact hp)
            rw [hl26] at ih
            exact ⟨ih.1, ih.2.trans hl1⟩
          · rw [if_neg k0, if_neg (fun z => k0 (hw0.mpr z))]
            exact ⟨⟨w1, w2, w3, w4, w5, w6⟩, hl1⟩
theorem sim_round {σ τ : Mem} {q x : Nat} (h : S σ τ) (h0 : ch0 σ τ) (hO : rOK x σ) (hx : x ≤ 880) (hq : q < 24) : lft (cRound σ q (ci (σ (26 + q) 3))).1 (mRound τ q (ci (τ 5 q))).1 (cRound σ q (ci (σ (26 + q) 3))).2 (mRound τ q (ci (τ 5 q))).2 := by
  have e5 : σ (26 + q) 3 = τ 5 q := (h.2.1.2 q hq).2.1
  rw [e5]
  obtain ⟨v9, -⟩ := mR_v h.2.2.2.2.2.2 hq
  generalize ci (τ 5 q) = v at v9 ⊢
  unfold cRound mRound
  by_cases hc : nI v < 8
  · have hv : v < 8 := (nI_ltI (b := 8) (by omega) (by decide)).mp hc
    have hc' : ¬ (7 : Int32) < nI v := fun z => by
      have := (nI_ltI (a := 7) (by decide) (by omega)).mp z
      omega
    rw [if_pos hc, if_neg hc']
    rcases h.1 v hv with ⟨a1, a2⟩ | ⟨a1, a2, n, hn, a3⟩
    · rw [if_pos a1, if_pos a2]
      exact sim_fail h h0.2 5
    · have b1 : ¬ σ 1 v = (-1) := by
        rw [a2, a3]; intro z
        have := congrArg Int32.toInt z
        rw [nI_toInt (by omega)] at this
        have h2 : ((-1 : Int32)).toInt = -1 := by decide
        omega
      have b2 : ¬ τ 1 v = 0 := by rw [a1]; decide
      rw [if_neg b1, if_neg b2]
      have hS1 := sim_mark (e := 2) h hO (by omega) (by decide)
      have hO1 := rOK_mark hO (by omega) (show (3 : Nat) ≠ 5 by decide)
      have m0 : (mMark τ 2) 0 = τ 0 := mMark_nc (by decide) (by decide)
      have m1 : (mMark τ 2) 1 = τ 1 := mMark_nc (by decide) (by decide)
      have hS2 : S (cMark σ 3) (mset (mMark τ 2) 0 26 0) := hS1.of (fun i _ _ _ => rfl) rfl rfl (fun i a _ => mset_nc a) rfl rfl rfl rfl rfl
      have hch : ch0 (cMark σ 3) (mset (mMark τ 2) 0 26 0) := ⟨(h0.mark (e := 2) (e' := 3)).1, by rw [mset_ne (by decide)]; exact (h0.mark (e := 2) (e' := 3)).2⟩
      obtain ⟨k, li, -, eli, hli, -⟩ := hO1.1
      obtain ⟨r1, r2⟩ := sim_steps hq hv (x := x) (by omega) 201 li (cMark σ 3) (mset (mMark τ 2) 0 26 0) 0 (by omega) hli eli (by omega) hS2 hch hO1 (by rw [mset_nc (by decide), m1]; exact a1)
      rw [mset_self] at r1
      have hO2 := (sOK_steps (v := v) hq 201 (cMark σ 3) 0 0 ((kR_mark σ 3).cR h.cR) (by omega)).2.2 x (by omega) hO1
      exact r1.mark (e := 3) hO2 (by omega) (by decide)
  · have hc' : (7 : Int32) < nI v := by
      have : ¬ v < 8 := fun z => hc ((nI_ltI (b := 8) (by omega) (by decide)).mpr z)
      exact (nI_ltI (a := 7) (by decide) (by omega)).mpr (by omega)
    rw [if_neg hc, if_pos hc']
    exact sim_fail h h0.2 4
