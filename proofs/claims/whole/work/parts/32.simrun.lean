theorem sim_grid {σ τ : Mem} (h : S σ τ) (h0 : ch0 σ τ) {j v : Nat} (hj : j ≤ 35) : lft (cBench σ 14 j v).1 (mAct τ 14 j v).1 (cBench σ 14 j v).2 (mAct τ 14 j v).2 := by
  rw [cBench_14, mAct_14]
  have e3 : nI j / 6 = nI (j / 6) := pk_div (d := 6) (by omega) (by decide) (by decide)
  have er : nI j - nI j / 6 * 6 = nI (j % 6) := pk_rem (d := 6) (by omega) (by decide) (by decide)
  have hz : 0 ≤ nI (j / 6) - 1 ↔ 1 ≤ j / 6 := nI_subT (b := 1) (by omega) (by decide)
  have hw : 0 ≤ nI (j % 6) - 1 ↔ 1 ≤ j % 6 := nI_subT (b := 1) (by omega) (by decide)
  rw [er, e3]
  unfold cNewGrid mGrids
  by_cases hc : 1 ≤ j / 6
  · have hn : ¬ nI (j / 6) - 1 < 0 := Int32.not_lt.mpr (hz.mpr hc)
    rw [if_neg hn, if_neg hn]
    by_cases hd : 1 ≤ j % 6
    · rw [if_pos (hw.mpr hd), if_pos (hw.mpr hd)]
      dsimp only
      rw [if_neg (by decide)]
      rw [show nI (j / 6) - 1 = nI (j / 6 - 1) from pk_sub (b := 1) hc, show nI (j % 6) - 1 = nI (j % 6 - 1) from pk_sub (b := 1) hd]
      dsimp only
      refine lft_on (h.stock ?_ (fun i a b => by rw [mset_nc a, mset_nc a]) (fun i a b => by rw [mset_nc a, mset_nc a])) h0 rfl rfl
      obtain ⟨k1, k2, k3, k4, k5, k6⟩ := h.2.2.2.2.1
      exact ⟨k1, k2, Or.inr ⟨j / 6 - 1, by omega, rfl, rfl⟩, Or.inr ⟨j % 6 - 1, by omega, rfl, rfl⟩, k5, k6⟩
    · have hd' : ¬ 0 ≤ nI (j % 6) - 1 := fun q => hd (hw.mp q)
      rw [if_neg hd', if_neg hd']
      dsimp only
      rw [if_pos rfl]
      exact sim_fail h h0.2 6
  · have hn : nI (j / 6) - 1 < 0 := Int32.not_le.mp fun q => hc (hz.mp q)
    rw [if_pos hn, if_pos hn]
    dsimp only
    rw [if_pos rfl]
    exact sim_fail h h0.2 6
theorem nI_ne4 {n : Nat} (h : n < 1000) : ¬ nI n = (-4) := by
  intro q
  have := congrArg Int32.toInt q
  rw [nI_toInt (by omega)] at this
  have h2 : ((-4 : Int32)).toInt = -4 := by decide
  omega
theorem sim_put {σ τ : Mem} (h : S σ τ) (h0 : ch0 σ τ) {t pl : Nat} (ht : t ≤ 200) (hpl : pl ≤ 200) (hbx : nI pl < σ 5 2 → pl < 18) : lft (cPut σ t pl).1 (mPut τ t pl).1 (cPut σ t pl).2 (mPut τ t pl).2 := by
  unfold cPut mPut
  by_cases hc : nI t < 6
  · have ht6 : t < 6 := (nI_ltI (b := 6) (by omega) (by decide)).mp hc
    have hc' : nI t ≤ 5 := (nI_leI (b := 5) (by omega) (by decide)).mpr (by omega)
    obtain ⟨e1, -, -, e4⟩ := h.2.2.1 t ht6
    rw [if_pos hc, if_pos hc']
    obtain ⟨k1, k2, k3, k4, k5, k6⟩ := h.2.2.2.2.1
    rcases k2 with ⟨a1, a2⟩ | ⟨n, hn, a1, a2⟩
    · rw [if_pos a1, if_neg (by rw [a2]; decide)]
      exact sim_fail h h0.2 5
    · have b1 : ¬ σ 5 2 = (-4) := by rw [a1]; exact nI_ne4 hn
      have b2 : 0 ≤ τ 0 13 := by rw [a2]; exact nI_pos' (by omega)
      rw [if_neg b1, if_pos b2]
      by_cases hp : nI pl < σ 5 2
      · have hp' : nI pl < τ 0 13 := by rw [a2, ← a1]; exact hp
        have hp18 := hbx hp
        rw [if_pos hp, if_pos hp']
        have k5' : σ 5 3 = τ 0 14 ∧ (τ 0 14 = 0 ∨ τ 0 14 = 1 ∨ τ 0 14 = 2) := by
          rcases k5 with q | q
          · rw [a2] at q
            exact absurd q (by
              intro q
              have := congrArg Int32.toInt q
              rw [nI_toInt (by omega)] at this
              have h2 : ((-1 : Int32)).toInt = -1 := by decide
              omega)
          · exact q
        have on : ∀ a b : Int32, sz a b → lft 0 0 (mset σ 6 pl a) (mset τ 12 pl b) := fun a b hab => by
          refine lft_on (h.stock ?_ (fun i x y => mset_nc y) (fun i x y => mset_nc y)) h0 (by rw [mset_nc (by decide)]) (by rw [mset_nc (by decide)])
          refine ⟨k1, Or.inr ⟨n, hn, a1, a2⟩, k3, k4, k5, fun k hk hlt => ?_⟩
          by_cases hkp : k = pl
          · subst hkp
            rw [mset_self, mset_self]; exact hab
          · rw [mset_ne (by omega), mset_ne (by omega)]; exact k6 k hk hlt
        have sm : sz (-4) (-1) := Or.inl ⟨rfl, rfl⟩
        have st : sz (nI t) (nI t) := Or.inr ⟨t, by omega, rfl, rfl⟩
        rcases e4 with q | q | q
        · have hT : cBoxTakes σ (σ (20 + t) 0) = 1 := by unfold cBoxTakes; rw [e1, q]; rw [if_pos (show (-1 : Int32) = (-1) from rfl)]
          rw [hT, if_neg (show ¬ (1 : Int32) = 0 by decide), e1, q, if_pos (show (-1 : Int32) = (-1) from rfl), if_pos (show (-1 : Int32) < 0 by decide), if_neg (show ¬ (0 : Int32) ≤ (-1) by decide)]
          exact on _ _ sm
        · rcases k5'.2 with w | w | w
          · skip
            have hT : cBoxTakes σ (σ (20 + t) 0) = 1 := by unfold cBoxTakes; rw [e1, k5'.1, q, w]; decide
            rw [hT, if_neg (show ¬ (1 : Int32) = 0 by decide), e1, q, w, if_neg (show ¬ (0 : Int32) = (-1) by decide), if_neg (show ¬ (0 : Int32) < 0 by decide), if_neg (show ¬ (2 : Int32) ≤ (0 : Int32) by decide), if_pos (show (0 : Int32) = (0 : Int32) from rfl), if_pos (show (0 : Int32) ≤ (0 : Int32) by decide)]
            exact on _ _ st
          · skip
            have hT : cBoxTakes σ (σ (20 + t) 0) = 0 := by unfold cBoxTakes; rw [e1, k5'.1, q, w]; decide
            rw [hT, if_pos (show (0 : Int32) = 0 from rfl), q, w, if_neg (show ¬ (0 : Int32) < 0 by decide), if_neg (show ¬ (2 : Int32) ≤ (1 : Int32) by decide), if_neg (show ¬ (0 : Int32) = (1 : Int32) by decide)]
            exact sim_fail h h0.2 8
          · skip
            have hT : cBoxTakes σ (σ (20 + t) 0) = 1 := by unfold cBoxTakes; rw [e1, k5'.1, q, w]; decide
            rw [hT, if_neg (show ¬ (1 : Int32) = 0 by decide), e1, q, w, if_neg (show ¬ (0 : Int32) = (-1) by decide), if_neg (show ¬ (0 : Int32) < 0 by decide), if_pos (show (2 : Int32) ≤ (2 : Int32) by decide), if_pos (show (0 : Int32) ≤ (0 : Int32) by decide)]
            exact on _ _ st
        · rcases k5'.2 with w | w | w
          · skip
            have hT : cBoxTakes σ (σ (20 + t) 0) = 0 := by unfold cBoxTakes; rw [e1, k5'.1, q, w]; decide
            rw [hT, if_pos (show (0 : Int32) = 0 from rfl), q, w, if_neg (show ¬ (1 : Int32) < 0 by decide), if_neg (show ¬ (2 : Int32) ≤ (0 : Int32) by decide), if_neg (show ¬ (1 : Int32) = (0 : Int32) by decide)]
            exact sim_fail h h0.2 8
          · skip
            have hT : cBoxTakes σ (σ (20 + t) 0) = 1 := by unfold cBoxTakes; rw [e1, k5'.1, q, w]; decide
            rw [hT, if_neg (show ¬ (1 : Int32) = 0 by decide), e1, q, w, if_neg (show ¬ (1 : Int32) = (-1) by decide), if_neg (show ¬ (1 : Int32) < 0 by decide), if_neg (show ¬ (2 : Int32) ≤ (1 : Int32) by decide), if_pos (show (1 : Int32) = (1 : Int32) from rfl), if_pos (show (0 : Int32) ≤ (1 : Int32) by decide)]
            exact on _ _ st
          · skip
            have hT : cBoxTakes σ (σ (20 + t) 0) = 1 := by unfold cBoxTakes; rw [e1, k5'.1, q, w]; decide
            rw [hT, if_neg (show ¬ (1 : Int32) = 0 by decide), e1, q, w, if_neg (show ¬ (1 : Int32) = (-1) by decide), if_neg (show ¬ (1 : Int32) < 0 by decide), if_pos (show (2 : Int32) ≤ (2 : Int32) by decide), if_pos (show (0 : Int32) ≤ (1 : Int32) by decide)]
            exact on _ _ st
      · have hp' : ¬ nI pl < τ 0 13 := by rw [a2, ← a1]; exact hp
        rw [if_neg hp, if_neg hp']
        exact sim_fail h h0.2 4
  · have hc' : ¬ nI t ≤ 5 := fun q => by
      have : ¬ t < 6 := fun q => hc ((nI_ltI (b := 6) (by omega) (by decide)).mpr q)
      have := (nI_leI (b := 5) (by omega) (by decide)).mp q
      omega
    rw [if_neg hc, if_neg hc']
    exact sim_fail h h0.2 4
theorem sim_count {σ τ : Mem} (h : S σ τ) (h0 : ch0 σ τ) {j v : Nat} (hj : j ≤ 2) (hv : v < 8) (hp : τ 1 v = 1) : lft (cBench σ 16 j v).1 (mAct τ 16 j v).1 (cBench σ 16 j v).2 (mAct τ 16 j v).2 := by
  rw [cBench_16, mAct_16]
  obtain ⟨k1, k2, k3, k4, k5, k6⟩ := h.2.2.2.2.1
  have main : ∀ a b : Int32, sz a b → lft (if a = (-4) then cFail σ 5 else cAdd σ v a).1 (if 0 ≤ b then mMore τ v b else mFail τ 5).1 (if a = (-4) then cFail σ 5 else cAdd σ v a).2 (if 0 ≤ b then mMore τ v b else mFail τ 5).2 := by
    intro a b hab
    rcases hab with ⟨a1, a2⟩ | ⟨n, hn, a1, a2⟩
    · rw [a1, a2, if_pos rfl, if_neg (by decide)]
      exact sim_fail h h0.2 5
    · rw [a1, a2, if_neg (nI_ne4 hn), if_pos (nI_pos' (by omega))]
      exact sim_add h h0 hv hp (by omega)
  unfold cSizeOf mCount
  rcases (show j = 0 ∨ j = 1 ∨ j = 2 by omega) with rfl | rfl | rfl
  · exact main _ _ k1
  · exact main _ _ k2
  · exact main _ _ k3
theorem sim_raise {σ τ : Mem} (h : S σ τ) (h0 : ch0 σ τ) {j v : Nat} (hj : j < 4) : lft (cBench σ 17 j v).1 (mAct τ 17 j v).1 (cBench σ 17 j v).2 (mAct τ 17 j v).2 := by
  rw [cBench_17, mAct_17]
  have e := h.2.2.2.1 j hj
  unfold mRaise
  rw [e]
  by_cases hc : τ 13 j = 0
  · rw [if_pos hc, if_pos hc]
    exact sim_fail h h0.2 5
  · rw [if_neg hc, if_neg hc]
    refine ⟨by show (5 : Nat) < 7; decide, rfl, ?_, fun _ => ⟨h0.2, Or.inl ⟨rfl, rfl, rfl⟩⟩, fun q => absurd rfl q, fun q => absurd q (by show ¬ (5 : Nat) = 4; decide)⟩
    refine h.of (fun i a b c => ?_) rfl rfl (fun i a b => ?_) rfl rfl rfl rfl rfl
    · show (mset (mset σ 11 0 (τ 13 j)) 7 6 1) i = σ i
      rw [mset_nc b, mset_nc c]
    · dsimp only
      rw [mset_nc a, mset_nc a]
theorem sim_step {σ τ : Mem} (h : S σ τ) (h0 : ch0 σ τ) {kd j v : Nat} (hkd : kd < 18) (hj : j ≤ mostD kd) (hv : v < 8) (hp : τ 1 v = 1) (hbx : ∀ pl : Nat, pl ≤ 200 → nI pl < σ 5 2 → pl < 18) : lft (cStep σ kd j v (τ 0 26)).1 (mAct τ kd j v).1 (cStep σ kd j v (τ 0 26)).2 (mAct τ kd j v).2 := by
  have hj200 : j ≤ 200 := Nat.le_trans hj (mostD_200 kd hkd)
  obtain ⟨n, hn, e1, e2⟩ := h.inPlace hv hp
  unfold cStep
  rcases (show kd = 0 ∨ kd = 1 ∨ kd = 2 ∨ kd = 3 ∨ kd = 4 ∨ kd = 5 ∨ kd = 6 ∨ kd = 7 ∨ kd = 8 ∨ kd = 9 ∨ kd = 10 ∨ kd = 11 ∨ kd = 12 ∨ kd = 13 ∨ kd = 14 ∨ kd = 15 ∨ kd = 16 ∨ kd = 17 by omega) with rfl | rfl | rfl | rfl | rfl | rfl | rfl | rfl | rfl | rfl | rfl | rfl | rfl | rfl | rfl | rfl | rfl | rfl
  · rw [if_pos (by decide), cVial_0, mAct_0]; exact sim_add h h0 hv hp (by omega)
  · rw [if_pos (by decide), cVial_1]; exact sim_draw h h0 hv hp hj200
  · rw [if_pos (by decide), cVial_2]; exact sim_share h h0 hv hp hj200
  · rw [if_pos (by decide), cVial_3, mAct_3]; exact sim_pour h h0 hv hp hj200
  · rw [if_pos (by decide), cVial_4, mAct_4]; exact lft_same (k := 1) (by decide) (by decide) (by decide) h h0
  · rw [if_pos (by decide), cVial_5, mAct_5]; exact lft_same (k := 3) (by decide) (by decide) (by decide) h h0
  · rw [if_pos (by decide), cVial_6, mAct_6]
    refine ⟨by show (4 : Nat) < 7; decide, rfl, ?_, fun q => absurd q (by show ¬ (4 : Nat) = 5; decide), fun _ => h0, fun _ => rfl⟩
    exact h.of (fun i a b c => mset_nc a) rfl rfl (fun i a b => mset_nc a) rfl rfl rfl rfl rfl
  · rw [if_pos (by decide), cVial_7, mAct_7]; exact sim_fail h h0.2 _
  · rw [if_pos (by decide), cVial_8, mAct_8, e1, e2]
    by_cases hc : nI j ≤ nI n
    · rw [if_pos hc, if_pos hc]; exact lft_same (k := 0) (by decide) (by decide) (by decide) h h0
    · rw [if_neg hc, if_neg hc]; exact lft_same (k := 1) (by decide) (by decide) (by decide) h h0
  · rw [if_pos (by decide), cVial_9, mAct_9]
    by_cases hc : nI j ≤ τ 0 26
    · rw [if_pos hc, if_pos hc]; exact lft_same (k := 0) (by decide) (by decide) (by decide) h h0
    · rw [if_neg hc, if_neg hc]; exact lft_same (k := 2) (by decide) (by decide) (by decide) h h0
  · rw [if_neg (by decide), cBench_10, mAct_10]; exact sim_use h h0 hj200
  · rw [if_neg (by decide), cBench_11, mAct_11]; exact sim_grip h h0 hj200 hv hp
  · rw [if_neg (by decide)]; exact sim_rack h h0 hj200
  · rw [if_neg (by decide)]; exact sim_box h h0 (show j ≤ 60 from hj)
  · rw [if_neg (by decide)]; exact sim_grid h h0 (show j ≤ 35 from hj)
  · rw [if_neg (by decide), cBench_15, mAct_15]
    have hj99 : j ≤ 99 := hj
    exact sim_put h h0 (by omega) (by omega) (hbx _ (by omega))
  · rw [if_neg (by decide)]; exact sim_count h h0 (show j ≤ 2 from hj) hv hp
  · rw [if_neg (by decide)]; exact sim_raise h h0 (show j < 4 from Nat.lt_of_le_of_lt hj (by decide))
/-- an act leaves alone which vials are in place, and how often the steps began anew -/
def sA (τ : Mem) (r : Int32 × Mem) : Prop := r.2 1 = τ 1 ∧ r.2 0 26 = τ 0 26
theorem sA_same (τ : Mem) (k : Int32) : sA τ (k, τ) := ⟨rfl, rfl⟩
theorem sA_set (τ : Mem) {i k : Nat} {v w : Int32} (hi : i ≠ 1 ∧ (i ≠ 0 ∨ k ≠ 26)) : sA τ (w, mset τ i k v) := ⟨mset_nc (Ne.symm hi.1), mset_ne (by omega)⟩
theorem sA_set2 (τ : Mem) {i k i' k' : Nat} {v w v' : Int32} (hi : i ≠ 1 ∧ (i ≠ 0 ∨ k ≠ 26)) (hi' : i' ≠ 1 ∧ (i' ≠ 0 ∨ k' ≠ 26)) : sA τ (w, mset (mset τ i k v) i' k' v') := ⟨(mset_nc (Ne.symm hi'.1)).trans (mset_nc (Ne.symm hi.1)), (mset_ne (by omega)).trans (mset_ne (by omega))⟩
theorem sA_fail (τ : Mem) (n : Int32) : sA τ (mFail τ n) := sA_set2 τ (by omega) (by omega)
theorem sA_more (τ : Mem) (v : Nat) (n : Int32) : sA τ (mMore τ v n) := by
  unfold mMore
  split
  · exact sA_set τ (by omega)
  · exact sA_fail τ 1
theorem sA_act (τ : Mem) {kd j v : Nat} (hkd : kd < 18) : sA τ (mAct τ kd j v) := by
  rcases (show kd = 0 ∨ kd = 1 ∨ kd = 2 ∨ kd = 3 ∨ kd = 4 ∨ kd = 5 ∨ kd = 6 ∨ kd = 7 ∨ kd = 8 ∨ kd = 9 ∨ kd = 10 ∨ kd = 11 ∨ kd = 12 ∨ kd = 13 ∨ kd = 14 ∨ kd = 15 ∨ kd = 16 ∨ kd = 17 by omega) with rfl | rfl | rfl | rfl | rfl | rfl | rfl | rfl | rfl | rfl | rfl | rfl | rfl | rfl | rfl | rfl | rfl | rfl
  · rw [mAct_0]; exact sA_more τ v _
  · rw [mAct_1]; split; exact sA_set τ (by omega); exact sA_fail τ 2
  · rw [mAct_2]; split; exact sA_fail τ 3; exact sA_set τ (by omega)
  · rw [mAct_3]; unfold mPour
    split
    · split
      · exact sA_fail τ 5
      split
      · exact sA_same τ 0
      split
      · exact sA_set2 τ (by omega) (by omega)
      · exact sA_fail τ 1
    · exact sA_fail τ 4
  · rw [mAct_4]; exact sA_same τ 1
  · rw [mAct_5]; exact sA_same τ 3
  · rw [mAct_6]; exact sA_set τ (by omega)
  · rw [mAct_7]; exact sA_fail τ _
  · rw [mAct_8]; split; exact sA_same τ 0; exact sA_same τ 1
  · rw [mAct_9]; split; exact sA_same τ 0; exact sA_same τ 2
  · rw [mAct_10]; unfold mUse
    split
    · exact sA_fail τ 4
    split
    · exact sA_set τ (by omega)
    · exact sA_fail τ 5
  · rw [mAct_11]; unfold mGrip
    split
    · split
      · exact sA_set τ (by omega)
      split
      · exact sA_fail τ 7
      · exact sA_fail τ 5
    · exact sA_fail τ 4
  · rw [mAct_12]; split; exact sA_set τ (by omega); exact sA_fail τ 6
  · rw [mAct_13, mBoxes_eq]
    split
    · refine ⟨?_, ?_⟩
      · dsimp only; rw [mClr_nc _ (by decide), mset_nc (by decide), mset_nc (by decide)]
      · dsimp only; rw [mClr_nc _ (by decide), mset_ne (by decide), mset_ne (by decide)]
    · exact sA_fail τ 6
  · rw [mAct_14]; unfold mGrids
    split
    · exact sA_fail τ 6
    split
    · exact sA_set2 τ (by omega) (by omega)
    · exact sA_fail τ 6
  · rw [mAct_15]; unfold mPut
    split
    · split
      · split
        · split
          · split
            · exact sA_set τ (by omega)
            · exact sA_set τ (by omega)
          split
          · split
            · exact sA_set τ (by omega)
            · exact sA_set τ (by omega)
          split
          · split
            · exact sA_set τ (by omega)
            · exact sA_set τ (by omega)
          · exact sA_fail τ 8
        · exact sA_fail τ 4
      · exact sA_fail τ 5
    · exact sA_fail τ 4
  · rw [mAct_16]; unfold mCount
    split
    · split; exact sA_more τ v _; exact sA_fail τ 5
    split
    · split; exact sA_more τ v _; exact sA_fail τ 5
    split
    · exact sA_more τ v _
    · exact sA_fail τ 5
  · rw [mAct_17]; unfold mRaise
    split
    · exact sA_fail τ 5
    · exact sA_set2 τ (by omega) (by omega)
