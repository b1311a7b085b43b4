/-! What a run of the reference keeps. -/
def mostD (k : Nat) : Nat := [200, 200, 200, 9, 200, 200, 200, 9, 200, 200, 9, 9, 40, 60, 35, 99, 2, 3].getD k 0
theorem mostD_200 : ∀ k, k < 18 → mostD k ≤ 200 := by decide +kernel
theorem mostD_4 : ∀ k, k < 18 → 16 ≤ k → mostD k < 4 := by decide +kernel
theorem mostD_eq : ∀ k, k < 18 → mostL.getD k 0 = nI (mostD k) ∧ mMost k = nI (mostD k) := by decide +kernel
def mB (σ : Mem) (x y : Nat) : Prop := ∃ k li nt : Nat, σ 14 7 = nI k ∧ σ 14 4 = nI li ∧ σ 14 6 = nI nt ∧ li ≤ 200 ∧ k ≤ 2 * li + x ∧ nt ≤ y
def mbx (σ : Mem) : Prop := σ 0 13 = (-1) ∨ ∃ k : Nat, k ≤ 18 ∧ σ 0 13 = nI k
def mwy (σ : Mem) : Prop := ∃ k : Nat, k ≤ 3 ∧ σ 0 23 = nI k
def mOK (x y : Nat) (σ : Mem) : Prop := mB σ x y ∧ mbx σ ∧ mwy σ
def mR (σ : Mem) : Prop := (∀ q : Nat, q < 24 → (∃ k : Nat, k ≤ 8 ∧ σ 6 q = nI k) ∧ (∃ v : Nat, v ≤ 9 ∧ σ 5 q = nI v) ∧ ∀ k : Nat, k < 8 → ∃ kd j : Nat, kd < 18 ∧ j ≤ mostD kd ∧ σ 7 (8 * q + k) = nI kd ∧ σ 8 (8 * q + k) = nI j) ∧ ∀ b : Nat, b < 4 → ∃ k : Nat, k ≤ 6 ∧ σ 4 b = nI k
def kM (σ σ' : Mem) : Prop := ∀ i : Nat, 3 ≤ i → i ≤ 8 → σ' i = σ i
theorem kM.rf (σ : Mem) : kM σ σ := fun _ _ _ => rfl
theorem kM.tr {σ σ1 σ2 : Mem} (h1 : kM σ σ1) (h2 : kM σ1 σ2) : kM σ σ2 := fun i a b => (h2 i a b).trans (h1 i a b)
theorem kM.set {σ σ1 : Mem} (h : kM σ σ1) {i k : Nat} {v : Int32} (hi : i < 3 ∨ 8 < i) : kM σ (mset σ1 i k v) := fun j a b => by
  rw [mset_nc (by omega)]
  exact h j a b
theorem kM.mR {σ σ' : Mem} (h : kM σ σ') (hR : mR σ) : mR σ' := by
  refine ⟨fun q hq => ?_, fun b hb => ?_⟩
  · rw [h 5 (by omega) (by omega), h 6 (by omega) (by omega), h 7 (by omega) (by omega), h 8 (by omega) (by omega)]
    exact hR.1 q hq
  · rw [h 4 (by omega) (by omega)]
    exact hR.2 b hb
theorem mOK.le {x y x' y' : Nat} {σ : Mem} (h : mOK x y σ) (hx : x ≤ x') (hy : y ≤ y') : mOK x' y' σ := by
  obtain ⟨⟨k, li, nt, h1, h2, h3, h4, h5, h6⟩, h7⟩ := h
  exact ⟨⟨k, li, nt, h1, h2, h3, h4, by omega, by omega⟩, h7⟩
theorem mOK.of {x y : Nat} {σ σ' : Mem} (h : mOK x y σ) (h14 : σ' 14 = σ 14) (h13 : σ' 0 13 = σ 0 13) (h23 : σ' 0 23 = σ 0 23) : mOK x y σ' := by
  obtain ⟨h1, h2, h3⟩ := h
  refine ⟨?_, ?_, ?_⟩
  · unfold mB; rw [h14]; exact h1
  · unfold mbx; rw [h13]; exact h2
  · unfold mwy; rw [h23]; exact h3
theorem mOK.set {x y : Nat} {σ : Mem} (h : mOK x y σ) {i k : Nat} {v : Int32} (hi : i ≠ 14 ∧ (i ≠ 0 ∨ (k ≠ 13 ∧ k ≠ 23))) : mOK x y (mset σ i k v) :=
  h.of (mset_nc (Ne.symm hi.1)) (mset_ne (by omega)) (mset_ne (by omega))
theorem mOK.ec {x y : Nat} {σ : Mem} (h : mOK x y σ) (hx : x ≤ 1000) : ¬ (400 : Int32) ≤ σ 14 7 → vp_in (σ 14 7) 400 := by
  obtain ⟨⟨k, li, nt, h1, h2, h3, h4, h5, h6⟩, -⟩ := h
  intro hc
  rw [h1] at hc ⊢
  exact vp_in_nI (Nat.not_le.mp fun q => hc ((nI_leI (a := 400) (by decide) (by omega)).mpr q)) (by decide)
theorem mOK.nt {x y : Nat} {σ : Mem} (h : mOK x y σ) (hy : y ≤ 1000) : ¬ (24 : Int32) ≤ σ 14 6 → vp_in (σ 14 6) 24 := by
  obtain ⟨⟨k, li, nt, h1, h2, h3, h4, h5, h6⟩, -⟩ := h
  intro hc
  rw [h3] at hc ⊢
  exact vp_in_nI (Nat.not_le.mp fun q => hc ((nI_leI (a := 24) (by decide) (by omega)).mpr q)) (by decide)
/-- a mark: what each cell holds behind it -/
theorem mMark_14 {σ : Mem} {ev : Nat} (hev : ev < 6) (j : Nat) : (mMark σ ev) 14 j = if j = 7 then σ 14 7 + 1 else if j = ev then σ 14 ev + 1 else σ 14 j := by
  unfold mMark
  split <;> (simp only [mset_eq]; by_cases h7 : j = 7 <;> by_cases he : j = ev <;> simp_all <;> omega)
theorem mMark_nc {σ : Mem} {ev i : Nat} (h14 : i ≠ 14) (h15 : i ≠ 15) : (mMark σ ev) i = σ i := by
  unfold mMark
  split
  · rw [mset_nc h14, mset_nc h14]
  · rw [mset_nc h14, mset_nc h14, mset_nc h15]
theorem kM_mark (σ : Mem) (ev : Nat) : kM σ (mMark σ ev) := fun i a b => mMark_nc (by omega) (by omega)
theorem mOK_mark {x y ev : Nat} {σ : Mem} (h : mOK x y σ) (hev : ev < 6) (h4 : ev ≠ 4) : mOK (x + 1) y (mMark σ ev) := by
  obtain ⟨⟨k, li, nt, h1, h2, h3, h5, h6, h7⟩, h8, h9⟩ := h
  refine ⟨⟨k + 1, li, nt, ?_, ?_, ?_, h5, by omega, h7⟩, ?_, ?_⟩
  · rw [mMark_14 hev, if_pos rfl, h1, nI_1]
  · rw [mMark_14 hev, if_neg (by decide), if_neg (Ne.symm h4), h2]
  · rw [mMark_14 hev, if_neg (by decide), if_neg (by omega), h3]
  · unfold mbx; rw [mMark_nc (by decide) (by decide)]; exact h8
  · unfold mwy; rw [mMark_nc (by decide) (by decide)]; exact h9
theorem mOK_lit {x y : Nat} {σ : Mem} (h : mOK (x + 1) y σ) (hl : ¬ σ 14 4 = 200) : mOK x y (mMark σ 4) := by
  obtain ⟨⟨k, li, nt, h1, h2, h3, h5, h6, h7⟩, h8, h9⟩ := h
  have hli : li ≠ 200 := fun q => hl (by rw [h2, q]; rfl)
  refine ⟨⟨k + 1, li + 1, nt, ?_, ?_, ?_, by omega, by omega, h7⟩, ?_, ?_⟩
  · rw [mMark_14 (by decide), if_pos rfl, h1, nI_1]
  · rw [mMark_14 (by decide), if_neg (by decide), if_pos rfl, h2, nI_1]
  · rw [mMark_14 (by decide), if_neg (by decide), if_neg (by decide), h3]
  · unfold mbx; rw [mMark_nc (by decide) (by decide)]; exact h8
  · unfold mwy; rw [mMark_nc (by decide) (by decide)]; exact h9
/-- what each act keeps: the rounds, the bounds, and what was told -/
def sM (σ : Mem) (r : Int32 × Mem) : Prop := kM σ r.2 ∧ r.2 14 = σ 14 ∧ ∀ x y : Nat, mOK x y σ → mOK x y r.2
theorem sM_same (σ : Mem) (k : Int32) : sM σ (k, σ) := ⟨kM.rf σ, rfl, fun _ _ h => h⟩
theorem sM_set (σ : Mem) {i k : Nat} {v w : Int32} (hi : i < 3 ∨ 8 < i) (h2 : i ≠ 14 ∧ (i ≠ 0 ∨ (k ≠ 13 ∧ k ≠ 23))) : sM σ (w, mset σ i k v) := ⟨(kM.rf σ).set hi, mset_nc (Ne.symm h2.1), fun _ _ h => h.set h2⟩
theorem sM_set2 (σ : Mem) {i k i' k' : Nat} {v w v' : Int32} (hi : i < 3 ∨ 8 < i) (h2 : i ≠ 14 ∧ (i ≠ 0 ∨ (k ≠ 13 ∧ k ≠ 23))) (hi' : i' < 3 ∨ 8 < i') (h2' : i' ≠ 14 ∧ (i' ≠ 0 ∨ (k' ≠ 13 ∧ k' ≠ 23))) : sM σ (w, mset (mset σ i k v) i' k' v') :=
  ⟨((kM.rf σ).set hi).set hi', (mset_nc (Ne.symm h2'.1)).trans (mset_nc (Ne.symm h2.1)), fun _ _ h => (h.set h2).set h2'⟩
theorem sM_fail (σ : Mem) (n : Int32) : sM σ (mFail σ n) := sM_set2 σ (by omega) (by omega) (by omega) (by omega)
theorem sM_more (σ : Mem) (v : Nat) (n : Int32) : sM σ (mMore σ v n) := by
  unfold mMore
  split
  · exact sM_set σ (by omega) (by omega)
  · exact sM_fail σ 1
theorem sM_pour (σ : Mem) (v t : Nat) : sM σ (mPour σ v t) := by
  unfold mPour
  split
  · split
    · exact sM_fail σ 5
    split
    · exact sM_same σ 0
    split
    · exact sM_set2 σ (by omega) (by omega) (by omega) (by omega)
    · exact sM_fail σ 1
  · exact sM_fail σ 4
theorem sM_grip (σ : Mem) (t v : Nat) : sM σ (mGrip σ t v) := by
  unfold mGrip
  split
  · split
    · exact sM_set σ (by omega) (by omega)
    split
    · exact sM_fail σ 7
    · exact sM_fail σ 5
  · exact sM_fail σ 4
theorem sM_use (σ : Mem) (t : Nat) : sM σ (mUse σ t) := by
  unfold mUse
  split
  · exact sM_fail σ 4
  split
  · exact sM_set σ (by omega) (by omega)
  · exact sM_fail σ 5
theorem mOK.box {x y : Nat} {σ : Mem} (h : mOK x y σ) {k : Nat} (hk : k ≤ 18) : mOK x y (mset σ 0 13 (nI k)) := by
  obtain ⟨h1, h2, h3⟩ := h
  refine ⟨?_, Or.inr ⟨k, hk, mset_self _ _ _ _⟩, ?_⟩
  · unfold mB; rw [mset_nc (by decide)]; exact h1
  · unfold mwy; rw [mset_ne (by decide)]; exact h3
/-- the first k places of the reference's box emptied -/
def mClr (σ : Mem) : Nat → Mem
  | 0 => σ
  | k + 1 => mset (mClr σ k) 12 k (-1)
theorem mBoxes_eq (σ : Mem) (z w : Int32) : mBoxes σ z w = if 0 ≤ z then (0, mClr (mset (mset σ 0 13 z) 0 14 w) 20) else mFail σ 6 := rfl
theorem mClr_nc (σ : Mem) {i : Nat} (h : i ≠ 12) : ∀ k : Nat, (mClr σ k) i = σ i
  | 0 => rfl
  | k + 1 => by
    show (mset (mClr σ k) 12 k (-1)) i = σ i
    rw [mset_nc h]
    exact mClr_nc σ h k
theorem boxz {j : Nat} (hj : j ≤ 60) (h : 0 ≤ nI j / 3 - 2) : ∃ k : Nat, k ≤ 18 ∧ nI j / 3 - 2 = nI k := by
  have e : nI j / 3 = nI (j / 3) := pk_div (d := 3) (by omega) (by decide) (by decide)
  rw [e] at h ⊢
  by_cases h2 : 2 ≤ j / 3
  · exact ⟨j / 3 - 2, by omega, pk_sub (b := 2) h2⟩
  · exact absurd (pk_sneg (a := j / 3) (b := 2) (by decide) (by omega)) (by
      intro q
      have a := Int32.le_iff_toInt_le.mp h
      have b := Int32.lt_iff_toInt_lt.mp q
      have h0 : (0 : Int32).toInt = 0 := by decide
      have c : (nI (j / 3) - 2).toInt = (nI (j / 3) - nI 2).toInt := rfl
      omega)
theorem sM_boxes (σ : Mem) {j : Nat} (w : Int32) (hj : j ≤ 60) : sM σ (mBoxes σ (nI j / 3 - 2) w) := by
  rw [mBoxes_eq]
  split
  · rename_i hc
    obtain ⟨k, hk, e⟩ := boxz hj hc
    rw [e]
    refine ⟨fun i a b => ?_, ?_, fun x y h => ?_⟩
    · dsimp only
      rw [mClr_nc _ (by omega), mset_nc (by omega), mset_nc (by omega)]
    · dsimp only
      rw [mClr_nc _ (by decide), mset_nc (by decide), mset_nc (by decide)]
    · refine mOK.of ((h.box hk).set (i := 0) (k := 14) (v := w) (by omega)) ?_ ?_ ?_
      · dsimp only; rw [mClr_nc _ (by decide)]
      · dsimp only; rw [mClr_nc _ (by decide)]
      · dsimp only; rw [mClr_nc _ (by decide)]
  · exact sM_fail σ 6
theorem sM_grids (σ : Mem) (z w : Int32) : sM σ (mGrids σ z w) := by
  unfold mGrids
  split
  · exact sM_fail σ 6
  split
  · exact sM_set2 σ (by omega) (by omega) (by omega) (by omega)
  · exact sM_fail σ 6
theorem sM_put (σ : Mem) (t pl : Nat) : sM σ (mPut σ t pl) := by
  unfold mPut
  split
  · split
    · split
      · split
        · split
          · exact sM_set σ (by omega) (by omega)
          · exact sM_set σ (by omega) (by omega)
        split
        · split
          · exact sM_set σ (by omega) (by omega)
          · exact sM_set σ (by omega) (by omega)
        split
        · split
          · exact sM_set σ (by omega) (by omega)
          · exact sM_set σ (by omega) (by omega)
        · exact sM_fail σ 8
      · exact sM_fail σ 4
    · exact sM_fail σ 5
  · exact sM_fail σ 4
theorem sM_count (σ : Mem) (v : Nat) (n : Int32) : sM σ (mCount σ v n) := by
  unfold mCount
  split
  · split
    · exact sM_more σ v _
    · exact sM_fail σ 5
  split
  · split
    · exact sM_more σ v _
    · exact sM_fail σ 5
  split
  · exact sM_more σ v _
  · exact sM_fail σ 5
theorem sM_raise (σ : Mem) (t : Nat) : sM σ (mRaise σ t) := by
  unfold mRaise
  split
  · exact sM_fail σ 5
  · exact sM_set2 σ (by omega) (by omega) (by omega) (by omega)
theorem sM_act (σ : Mem) {kd j : Nat} (v : Nat) (hkd : kd < 18) (hj : j ≤ mostD kd) : sM σ (mAct σ kd j v) := by
  have h1 : sM σ (mAct σ 1 j v) := by
    rw [mAct_1]
    split
    · exact sM_set σ (by omega) (by omega)
    · exact sM_fail σ 2
  have h2 : sM σ (mAct σ 2 j v) := by
    rw [mAct_2]
    split
    · exact sM_fail σ 3
    · exact sM_set σ (by omega) (by omega)
  have h8 : sM σ (mAct σ 8 j v) := by
    rw [mAct_8]
    split
    · exact sM_same σ 0
    · exact sM_same σ 1
  have h9 : sM σ (mAct σ 9 j v) := by
    rw [mAct_9]
    split
    · exact sM_same σ 0
    · exact sM_same σ 2
  have h12 : sM σ (mAct σ 12 j v) := by
    rw [mAct_12]
    split
    · exact sM_set σ (by omega) (by omega)
    · exact sM_fail σ 6
  rcases (show kd = 0 ∨ kd = 1 ∨ kd = 2 ∨ kd = 3 ∨ kd = 4 ∨ kd = 5 ∨ kd = 6 ∨ kd = 7 ∨ kd = 8 ∨ kd = 9 ∨ kd = 10 ∨ kd = 11 ∨ kd = 12 ∨ kd = 13 ∨ kd = 14 ∨ kd = 15 ∨ kd = 16 ∨ kd = 17 by omega) with rfl | rfl | rfl | rfl | rfl | rfl | rfl | rfl | rfl | rfl | rfl | rfl | rfl | rfl | rfl | rfl | rfl | rfl
  · rw [mAct_0]; exact sM_more σ v _
  · exact h1
  · exact h2
  · rw [mAct_3]; exact sM_pour σ v j
  · rw [mAct_4]; exact sM_same σ 1
  · rw [mAct_5]; exact sM_same σ 3
  · rw [mAct_6]; exact sM_set σ (by omega) (by omega)
  · rw [mAct_7]; exact sM_fail σ _
  · exact h8
  · exact h9
  · rw [mAct_10]; exact sM_use σ j
  · rw [mAct_11]; exact sM_grip σ j v
  · exact h12
  · rw [mAct_13]; exact sM_boxes σ _ (show j ≤ 60 from hj)
  · rw [mAct_14]; exact sM_grids σ _ _
  · rw [mAct_15]; exact sM_put σ _ _
  · rw [mAct_16]; exact sM_count σ v _
  · rw [mAct_17]; exact sM_raise σ j
theorem mOK.bx {x y : Nat} {σ : Mem} (h : mOK x y σ) : ∀ pl : Nat, pl ≤ 200 → nI pl < σ 0 13 → pl < 18 := by
  intro pl hpl hc
  rcases h.2.1 with e | ⟨k, hk, e⟩
  · rw [e] at hc
    exact absurd hc (by
      intro q
      have h1 := Int32.lt_iff_toInt_lt.mp q
      rw [nI_toInt (by omega)] at h1
      have h2 : ((-1 : Int32)).toInt = -1 := by decide
      omega)
  · rw [e] at hc
    have := (nI_ltI (by omega) (by omega)).mp hc
    omega
def mStepAt (q v : Nat) (σ : Mem) (k : Nat) : Int32 × Mem :=
  ((mAct (mMark σ 4) (ci (σ 7 (8 * q + k))) (ci (σ 8 (8 * q + k))) v).1, mMark (mAct (mMark σ 4) (ci (σ 7 (8 * q + k))) (ci (σ 8 (8 * q + k))) v).2 5)
def mSteps (q v : Nat) : Nat → Mem → Nat → Int32 × Mem
  | 0, σ, _ => (0, σ)
  | fu + 1, σ, k =>
    if σ 6 q ≤ nI k then (0, σ)
    else if σ 14 4 = 200 then (6, σ)
    else if (mStepAt q v σ k).1 = 2 then mSteps q v fu (mset (mStepAt q v σ k).2 0 26 ((mStepAt q v σ k).2 0 26 + 1)) 0
    else if (mStepAt q v σ k).1 = 0 then mSteps q v fu (mStepAt q v σ k).2 (k + 1)
    else mStepAt q v σ k
theorem mSteps_succ (q v fu : Nat) (σ : Mem) (k : Nat) : mSteps q v (fu + 1) σ k = if σ 6 q ≤ nI k then (0, σ)
    else if σ 14 4 = 200 then (6, σ)
    else if (mStepAt q v σ k).1 = 2 then mSteps q v fu (mset (mStepAt q v σ k).2 0 26 ((mStepAt q v σ k).2 0 26 + 1)) 0
    else if (mStepAt q v σ k).1 = 0 then mSteps q v fu (mStepAt q v σ k).2 (k + 1)
    else mStepAt q v σ k := rfl
theorem mR_st {σ : Mem} {q k : Nat} (hR : mR σ) (hq : q < 24) (hk : k < 8) : ci (σ 7 (8 * q + k)) < 18 ∧ ci (σ 8 (8 * q + k)) ≤ mostD (ci (σ 7 (8 * q + k))) ∧ σ 7 (8 * q + k) = nI (ci (σ 7 (8 * q + k))) ∧ σ 8 (8 * q + k) = nI (ci (σ 8 (8 * q + k))) := by
  obtain ⟨kd, j, h1, h2, e1, e2⟩ := (hR.1 q hq).2.2 k hk
  have := mostD_200 kd h1
  unfold ci
  rw [e1, e2, nI_clamp (by omega), nI_clamp (by omega)]
  exact ⟨h1, h2, rfl, rfl⟩
theorem mR_k {σ : Mem} {q k : Nat} (hR : mR σ) (hq : q < 24) (hk : k ≤ 8) (hc : ¬ σ 6 q ≤ nI k) : k < 8 := by
  obtain ⟨n, hn, e⟩ := (hR.1 q hq).1
  rw [e] at hc
  have h1 : ¬ n ≤ k := fun h => hc ((nI_leI (by omega) (by omega)).mpr h)
  omega
theorem sM_stepAt {q v k : Nat} {σ : Mem} (hR : mR σ) (hq : q < 24) (hk : k < 8) (hl : ¬ σ 14 4 = 200) : kM σ (mStepAt q v σ k).2 ∧ (mStepAt q v σ k).2 14 4 = σ 14 4 + 1 ∧ ∀ x y : Nat, mOK (x + 1) y σ → mOK (x + 1) y (mStepAt q v σ k).2 := by
  obtain ⟨h1, h2, -, -⟩ := mR_st hR hq hk
  obtain ⟨g1, g2, g3⟩ := sM_act (mMark σ 4) v h1 h2
  refine ⟨((kM_mark σ 4).tr g1).tr (kM_mark _ 5), ?_, fun x y h => mOK_mark (g3 x y (mOK_lit h hl)) (by decide) (by decide)⟩
  show (mMark _ 5) 14 4 = _
  rw [mMark_14 (by decide), if_neg (by decide), if_neg (by decide), g2, mMark_14 (by decide), if_neg (by decide), if_pos rfl]
theorem sM_steps {q v : Nat} (hq : q < 24) : ∀ (fu : Nat) (σ : Mem) (k : Nat), mR σ → k ≤ 8 → kM σ (mSteps q v fu σ k).2 ∧ ∀ x y : Nat, mOK (x + 1) y σ → mOK (x + 1) y (mSteps q v fu σ k).2
  | 0, σ, k, _, _ => ⟨kM.rf σ, fun _ _ h => h⟩
  | fu + 1, σ, k, hR, hk => by
    rw [mSteps_succ]
    split
    · exact ⟨kM.rf σ, fun _ _ h => h⟩
    split
    · exact ⟨kM.rf σ, fun _ _ h => h⟩
    rename_i hc hl
    have hk8 := mR_k hR hq hk hc
    obtain ⟨h1, h2, h3⟩ := sM_stepAt (v := v) hR hq hk8 hl
    split
    · have h1' : kM σ (mset (mStepAt q v σ k).2 0 26 ((mStepAt q v σ k).2 0 26 + 1)) := h1.set (by omega)
      obtain ⟨g1, g2⟩ := sM_steps (v := v) hq fu (mset (mStepAt q v σ k).2 0 26 ((mStepAt q v σ k).2 0 26 + 1)) 0 (h1'.mR hR) (by omega)
      exact ⟨h1'.tr g1, fun x y h => g2 x y ((h3 x y h).set (by omega))⟩
    split
    · obtain ⟨g1, g2⟩ := sM_steps (v := v) hq fu (mStepAt q v σ k).2 (k + 1) (h1.mR hR) (by omega)
      exact ⟨h1.tr g1, fun x y h => g2 x y (h3 x y h)⟩
    · exact ⟨h1, h3⟩
