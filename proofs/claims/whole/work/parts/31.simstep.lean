theorem S.vials {σ τ σ' τ' : Mem} (h : S σ τ) (hv : sV (σ' 1) (τ' 1) (τ' 2)) (c : ∀ i : Nat, i ≠ 1 → σ' i = σ i) (d : ∀ i : Nat, i ≠ 1 → i ≠ 2 → τ' i = τ i) : S σ' τ' := by
  obtain ⟨h1, ⟨h2, h2'⟩, h3, h4, h5, h6, h7⟩ := h
  refine ⟨hv, ⟨fun b hb => ?_, fun q hq => ?_⟩, fun t ht => ?_, fun k hk => ?_, ?_, ?_, ?_⟩
  · rw [c (12 + b) (by omega), d 4 (by decide) (by decide), d 3 (by decide) (by decide)]; exact h2 b hb
  · rw [c (26 + q) (by omega), c (50 + q) (by omega), c (74 + q) (by omega), d 5 (by decide) (by decide), d 6 (by decide) (by decide), d 7 (by decide) (by decide), d 8 (by decide) (by decide)]; exact h2' q hq
  · rw [c (20 + t) (by omega), d 9 (by decide) (by decide), d 10 (by decide) (by decide), d 11 (by decide) (by decide)]; exact h3 t ht
  · rw [c 4 (by decide), d 13 (by decide) (by decide)]; exact h4 k hk
  · rw [c 5 (by decide), c 6 (by decide), d 12 (by decide) (by decide), d 0 (by decide) (by decide)]; exact h5
  · rw [c 7 (by decide), c 8 (by decide), c 9 (by decide), c 10 (by decide), d 14 (by decide) (by decide), d 15 (by decide) (by decide), d 16 (by decide) (by decide)]; exact h6
  · exact h7.of fun i a b => d i (by omega) (by omega)
theorem sV.up {a p d : Nat → Int32} (h : sV a p d) {v n : Nat} (hp : p v = 1) (hn : n ≤ 1000) : sV (upd a v (nI n)) p (upd d v (nI n)) := by
  intro w hw
  by_cases e : w = v
  · subst e
    exact Or.inr ⟨hp, by rw [pk_us, pk_us], n, hn, pk_us⟩
  · rw [pk_un e, pk_un e]
    exact h w hw
theorem S.vial1 {σ τ : Mem} (h : S σ τ) {v n : Nat} (hp : τ 1 v = 1) (hn : n ≤ 1000) : S (mset σ 1 v (nI n)) (mset τ 2 v (nI n)) :=
  h.vials (show sV (upd (σ 1) v (nI n)) (τ 1) (upd (τ 2) v (nI n)) from h.1.up hp hn) (fun i a => mset_nc a) (fun i _ b => mset_nc b)
/-- a vial that is in place -/
theorem S.inPlace {σ τ : Mem} (h : S σ τ) {v : Nat} (hv : v < 8) (hp : τ 1 v = 1) : ∃ n : Nat, n ≤ 1000 ∧ σ 1 v = nI n ∧ τ 2 v = nI n := by
  rcases h.1 v hv with ⟨-, q⟩ | ⟨-, e, n, hn, e2⟩
  · rw [hp] at q; exact absurd q (by decide)
  · exact ⟨n, hn, e.trans e2, e2⟩
/-- what a step's end needs -/
theorem lft_v {σ τ : Mem} {v n : Nat} (h : S σ τ) (h0 : ch0 σ τ) (hp : τ 1 v = 1) (hn : n ≤ 1000) : lft 0 0 (mset σ 1 v (nI n)) (mset τ 2 v (nI n)) :=
  lft_on (h.vial1 hp hn) h0 (mset_ne (by omega)) (mset_ne (by omega))
theorem sim_add {σ τ : Mem} (h : S σ τ) (h0 : ch0 σ τ) {v j : Nat} (hv : v < 8) (hp : τ 1 v = 1) (hj : j ≤ 1000) : lft (cAdd σ v (nI j)).1 (mMore τ v (nI j)).1 (cAdd σ v (nI j)).2 (mMore τ v (nI j)).2 := by
  obtain ⟨n, hn, e1, e2⟩ := h.inPlace hv hp
  unfold cAdd mMore
  rw [e1, e2, nI_add]
  by_cases hc : nI (n + j) ≤ 1000
  · rw [if_pos hc, if_pos hc]
    exact lft_v h h0 hp ((nI_leI (b := 1000) (by omega) (by decide)).mp hc)
  · rw [if_neg hc, if_neg hc]
    exact sim_fail h h0.2 1
theorem sim_draw {σ τ : Mem} (h : S σ τ) (h0 : ch0 σ τ) {v j : Nat} (hv : v < 8) (hp : τ 1 v = 1) (hj : j ≤ 200) : lft (cDraw σ v (nI j)).1 (mAct τ 1 j v).1 (cDraw σ v (nI j)).2 (mAct τ 1 j v).2 := by
  obtain ⟨n, hn, e1, e2⟩ := h.inPlace hv hp
  rw [mAct_1]
  unfold cDraw
  rw [e1, e2]
  by_cases hc : nI j ≤ nI n
  · rw [if_pos hc, if_pos hc]
    have hjn : j ≤ n := (nI_leI (by omega) (by omega)).mp hc
    rw [pk_sub hjn]
    exact lft_v h h0 hp (by omega)
  · rw [if_neg hc, if_neg hc]
    exact sim_fail h h0.2 2
theorem sim_share {σ τ : Mem} (h : S σ τ) (h0 : ch0 σ τ) {v j : Nat} (hv : v < 8) (hp : τ 1 v = 1) (hj : j ≤ 200) : lft (cShare σ v (nI j)).1 (mAct τ 2 j v).1 (cShare σ v (nI j)).2 (mAct τ 2 j v).2 := by
  obtain ⟨n, hn, e1, e2⟩ := h.inPlace hv hp
  rw [mAct_2]
  unfold cShare
  rw [e1, e2]
  by_cases hc : nI j = 0
  · rw [if_pos hc, if_pos hc]
    exact sim_fail h h0.2 3
  · rw [if_neg hc, if_neg hc]
    have hj0 : 0 < j := Nat.pos_of_ne_zero fun q => hc (by rw [q]; rfl)
    rw [pk_div (by omega) hj0 (by omega)]
    exact lft_v h h0 hp (Nat.le_trans (Nat.div_le_self n j) hn)
theorem nI_lt8 {t k : Nat} (ht : t ≤ 200) (hk : k ≤ 200) : nI t < nI (k + 1) ↔ nI t ≤ nI k := by
  rw [nI_ltI (by omega) (by omega), nI_leI (by omega) (by omega)]
  omega
theorem sim_pour {σ τ : Mem} (h : S σ τ) (h0 : ch0 σ τ) {v t : Nat} (hv : v < 8) (hp : τ 1 v = 1) (ht : t ≤ 200) : lft (cPour σ v t).1 (mPour τ v t).1 (cPour σ v t).2 (mPour τ v t).2 := by
  unfold cPour mPour
  by_cases hc : nI t < 8
  · have hc' : nI t ≤ 7 := (nI_lt8 (k := 7) ht (by decide)).mp hc
    have ht8 : t < 8 := (nI_ltI (b := 8) (by omega) (by decide)).mp hc
    rw [if_pos hc, if_pos hc']
    rcases h.1 t ht8 with ⟨a1, a2⟩ | ⟨a1, a2, m, hm, a3⟩
    · rw [if_pos a1, if_pos a2]
      exact sim_fail h h0.2 5
    · obtain ⟨n, hn, e1, e2⟩ := h.inPlace hv hp
      have a4 : σ 1 t = nI m := a2.trans a3
      have b1 : ¬ σ 1 t = (-1) := by
        rw [a4]; intro q
        have := congrArg Int32.toInt q
        rw [nI_toInt (by omega)] at this
        have h2 : ((-1 : Int32)).toInt = -1 := by decide
        omega
      have b2 : ¬ τ 1 t = 0 := by rw [a1]; decide
      rw [if_neg b1, if_neg b2]
      by_cases hs : nI t = nI v
      · rw [if_pos hs, if_pos hs]
        exact lft_same (k := 0) (by decide) (by decide) (by decide) h h0
      · rw [if_neg hs, if_neg hs, a4, a3, e1, e2, nI_add]
        by_cases ho : nI (m + n) ≤ 1000
        · rw [if_pos ho, if_pos ho]
          have hmn : m + n ≤ 1000 := (nI_leI (b := 1000) (by omega) (by decide)).mp ho
          have hS1 := h.vial1 (v := t) a1 hmn
          have hp1 : (mset τ 2 t (nI (m + n))) 1 v = 1 := by rw [mset_ne (by omega)]; exact hp
          have hS2 := hS1.vial1 (v := v) (n := 0) hp1 (by decide)
          have hx := lft_on (σ' := mset (mset σ 1 t (nI (m + n))) 1 v (nI 0)) (τ' := mset (mset τ 2 t (nI (m + n))) 2 v (nI 0)) hS2 h0 (by rw [mset_nc (by decide), mset_nc (by decide)]) (by rw [mset_nc (by decide), mset_nc (by decide)])
          exact hx
        · rw [if_neg ho, if_neg ho]
          exact sim_fail h h0.2 1
  · have hc' : ¬ nI t ≤ 7 := fun q => hc ((nI_lt8 (k := 7) ht (by decide)).mpr q)
    rw [if_neg hc, if_neg hc']
    exact sim_fail h h0.2 4
theorem S.tools {σ τ σ' τ' : Mem} (h : S σ τ) (ht : sT σ' τ') (c : ∀ i : Nat, (i < 20 ∨ 26 ≤ i) → σ' i = σ i) (d : ∀ i : Nat, (i < 9 ∨ 11 < i) → τ' i = τ i) : S σ' τ' := by
  obtain ⟨h1, ⟨h2, h2'⟩, h3, h4, h5, h6, h7⟩ := h
  refine ⟨?_, ⟨fun b hb => ?_, fun q hq => ?_⟩, ht, fun k hk => ?_, ?_, ?_, ?_⟩
  · rw [c 1 (by omega), d 1 (by omega), d 2 (by omega)]; exact h1
  · rw [c (12 + b) (by omega), d 4 (by omega), d 3 (by omega)]; exact h2 b hb
  · rw [c (26 + q) (by omega), c (50 + q) (by omega), c (74 + q) (by omega), d 5 (by omega), d 6 (by omega), d 7 (by omega), d 8 (by omega)]; exact h2' q hq
  · rw [c 4 (by omega), d 13 (by omega)]; exact h4 k hk
  · rw [c 5 (by omega), c 6 (by omega), d 12 (by omega), d 0 (by omega)]; exact h5
  · rw [c 7 (by omega), c 8 (by omega), c 9 (by omega), c 10 (by omega), d 14 (by omega), d 15 (by omega), d 16 (by omega)]; exact h6
  · exact h7.of fun i a b => d i (by omega)
theorem sim_use {σ τ : Mem} (h : S σ τ) (h0 : ch0 σ τ) {t : Nat} (ht : t ≤ 200) : lft (cUse σ t).1 (mUse τ t).1 (cUse σ t).2 (mUse τ t).2 := by
  unfold cUse mUse
  by_cases hc : nI t < 6
  · have ht6 : t < 6 := (nI_ltI (b := 6) (by omega) (by decide)).mp hc
    have hc' : ¬ (5 : Int32) < nI t := fun q => by
      have := (nI_ltI (a := 5) (by decide) (by omega)).mp q
      omega
    obtain ⟨e1, e2, e3, e4⟩ := h.2.2.1 t ht6
    rw [if_pos hc, if_neg hc', e1, e2]
    rcases e4 with q | q
    · rw [q, if_pos rfl, if_neg (by decide)]
      exact sim_fail h h0.2 5
    · rw [if_neg (by rcases q with q | q <;> rw [q] <;> decide), if_pos (by rcases q with q | q <;> rw [q] <;> decide)]
      refine lft_on (h.tools (fun u hu => ?_) (fun i a => mset_nc (by omega)) (fun i a => mset_nc (by omega))) h0 (by dsimp only; rw [mset_nc (by omega)]) (by dsimp only; rw [mset_nc (by decide)])
      obtain ⟨f1, f2, f3, f4⟩ := h.2.2.1 u hu
      dsimp only
      by_cases hut : u = t
      · subst hut
        refine ⟨?_, ?_, ?_, ?_⟩
        · rw [mset_ne (by omega), mset_ne (by omega)]; exact f1
        · rw [mset_self, mset_self]
        · rw [mset_ne (by omega), mset_ne (by omega)]; exact f3
        · rw [mset_ne (by omega)]; exact f4
      · refine ⟨?_, ?_, ?_, ?_⟩
        · rw [mset_ne (by omega), mset_ne (by omega)]; exact f1
        · rw [mset_ne (by omega), mset_ne (by omega)]; exact f2
        · rw [mset_ne (by omega), mset_ne (by omega)]; exact f3
        · rw [mset_ne (by omega)]; exact f4
  · have hc' : (5 : Int32) < nI t := by
      have : ¬ t < 6 := fun q => hc ((nI_ltI (b := 6) (by omega) (by decide)).mpr q)
      exact (nI_ltI (a := 5) (by decide) (by omega)).mpr (by omega)
    rw [if_neg hc, if_pos hc']
    exact sim_fail h h0.2 4
theorem sim_grip {σ τ : Mem} (h : S σ τ) (h0 : ch0 σ τ) {t v : Nat} (ht : t ≤ 200) (hv : v < 8) (hp : τ 1 v = 1) : lft (cGrip σ t (σ 1 v)).1 (mGrip τ t v).1 (cGrip σ t (σ 1 v)).2 (mGrip τ t v).2 := by
  obtain ⟨n, hn, e5, e6⟩ := h.inPlace hv hp
  unfold cGrip mGrip
  by_cases hc : nI t < 6
  · have ht6 : t < 6 := (nI_ltI (b := 6) (by omega) (by decide)).mp hc
    have hc' : nI t ≤ 5 := (nI_leI (b := 5) (by omega) (by decide)).mpr (by omega)
    obtain ⟨e1, e2, e3, e4⟩ := h.2.2.1 t ht6
    rw [if_pos hc, if_pos hc', e1, e3, e5, e6]
    rcases e4 with q | q | q
    · rw [q, if_neg (by decide), if_pos rfl, if_neg (by decide), if_neg (by decide)]
      exact sim_fail h h0.2 5
    · rw [q, if_neg (by decide), if_neg (by decide), if_pos rfl]
      refine lft_on (h.tools (fun u hu => ?_) (fun i a => mset_nc (by omega)) (fun i a => mset_nc (by omega))) h0 (by dsimp only; rw [mset_nc (by omega)]) (by dsimp only; rw [mset_nc (by decide)])
      obtain ⟨f1, f2, f3, f4⟩ := h.2.2.1 u hu
      dsimp only
      by_cases hut : u = t
      · subst hut
        refine ⟨?_, ?_, ?_, ?_⟩
        · rw [mset_ne (by omega), mset_ne (by omega)]; exact f1
        · rw [mset_ne (by omega), mset_ne (by omega)]; exact f2
        · rw [mset_self, mset_self]
        · rw [mset_ne (by omega)]; exact f4
      · refine ⟨?_, ?_, ?_, ?_⟩
        · rw [mset_ne (by omega), mset_ne (by omega)]; exact f1
        · rw [mset_ne (by omega), mset_ne (by omega)]; exact f2
        · rw [mset_ne (by omega), mset_ne (by omega)]; exact f3
        · rw [mset_ne (by omega)]; exact f4
    · rw [q, if_pos rfl, if_neg (by decide), if_pos rfl]
      exact sim_fail h h0.2 7
  · have hc' : ¬ nI t ≤ 5 := fun q => by
      have : ¬ t < 6 := fun q => hc ((nI_ltI (b := 6) (by omega) (by decide)).mpr q)
      have := (nI_leI (b := 5) (by omega) (by decide)).mp q
      omega
    rw [if_neg hc, if_neg hc']
    exact sim_fail h h0.2 4
theorem S.stock {σ τ σ' τ' : Mem} (h : S σ τ) (hk : sK (σ' 5) (σ' 6) (τ' 0) (τ' 12)) (c : ∀ i : Nat, i ≠ 5 → i ≠ 6 → σ' i = σ i) (d : ∀ i : Nat, i ≠ 0 → i ≠ 12 → τ' i = τ i) : S σ' τ' := by
  obtain ⟨h1, ⟨h2, h2'⟩, h3, h4, h5, h6, h7⟩ := h
  refine ⟨?_, ⟨fun b hb => ?_, fun q hq => ?_⟩, fun t ht => ?_, fun k hk => ?_, hk, ?_, ?_⟩
  · rw [c 1 (by decide) (by decide), d 1 (by decide) (by decide), d 2 (by decide) (by decide)]; exact h1
  · rw [c (12 + b) (by omega) (by omega), d 4 (by decide) (by decide), d 3 (by decide) (by decide)]; exact h2 b hb
  · rw [c (26 + q) (by omega) (by omega), c (50 + q) (by omega) (by omega), c (74 + q) (by omega) (by omega), d 5 (by decide) (by decide), d 6 (by decide) (by decide), d 7 (by decide) (by decide), d 8 (by decide) (by decide)]; exact h2' q hq
  · rw [c (20 + t) (by omega) (by omega), d 9 (by decide) (by decide), d 10 (by decide) (by decide), d 11 (by decide) (by decide)]; exact h3 t ht
  · rw [c 4 (by decide) (by decide), d 13 (by decide) (by decide)]; exact h4 k hk
  · rw [c 7 (by decide) (by decide), c 8 (by decide) (by decide), c 9 (by decide) (by decide), c 10 (by decide) (by decide), d 14 (by decide) (by decide), d 15 (by decide) (by decide), d 16 (by decide) (by decide)]; exact h6
  · exact h7.of fun i a b => d i (by omega) (by omega)
theorem nI_subT {a b : Nat} (ha : a < 2 ^ 30) (hb : b < 2 ^ 30) : 0 ≤ nI a - nI b ↔ b ≤ a := by
  rw [Int32.le_iff_toInt_le, pk_sub_toInt ha hb]
  have h0 : (0 : Int32).toInt = 0 := by decide
  omega
theorem sim_rack {σ τ : Mem} (h : S σ τ) (h0 : ch0 σ τ) {j v : Nat} (hj : j ≤ 200) : lft (cBench σ 12 j v).1 (mAct τ 12 j v).1 (cBench σ 12 j v).2 (mAct τ 12 j v).2 := by
  rw [cBench_12, mAct_12]
  have hz : 0 ≤ nI j - 10 ↔ 10 ≤ j := nI_subT (b := 10) (by omega) (by decide)
  unfold cNewRack
  by_cases hc : 10 ≤ j
  · rw [if_pos (hz.mpr hc)]
    dsimp only
    have h10 : (10 : Int32) ≤ nI j := (nI_leI (a := 10) (by decide) (by omega)).mpr hc
    rw [if_neg (by decide), if_pos h10]
    rw [show nI j - 10 = nI (j - 10) from pk_sub (b := 10) hc]
    refine lft_on (h.stock ?_ (fun i a b => mset_nc a) (fun i a b => mset_nc a)) h0 rfl rfl
    obtain ⟨k1, k2, k3, k4, k5, k6⟩ := h.2.2.2.2.1
    exact ⟨Or.inr ⟨j - 10, by omega, rfl, rfl⟩, k2, k3, k4, k5, k6⟩
  · rw [if_neg (fun q => hc (hz.mp q))]
    dsimp only
    have h10 : ¬ (10 : Int32) ≤ nI j := fun q => hc ((nI_leI (a := 10) (by decide) (by omega)).mp q)
    rw [if_pos rfl, if_neg h10]
    exact sim_fail h h0.2 6
theorem cClr_nc (σ : Mem) {i : Nat} (h : i ≠ 6) : ∀ k : Nat, (cClr σ k) i = σ i
  | 0 => rfl
  | k + 1 => by
    show (mset (cClr σ k) 6 k (-4)) i = σ i
    rw [mset_nc h]
    exact cClr_nc σ h k
theorem cClr_in (σ : Mem) : ∀ (n k : Nat), k < n → (cClr σ n) 6 k = (-4)
  | 0, k, h => absurd h (by omega)
  | n + 1, k, h => by
    show (mset (cClr σ n) 6 n (-4)) 6 k = (-4)
    by_cases e : k = n
    · subst e; exact mset_self _ _ _ _
    · rw [mset_ne (by omega)]; exact cClr_in σ n k (by omega)
theorem mClr_in (σ : Mem) : ∀ (n k : Nat), k < n → (mClr σ n) 12 k = (-1)
  | 0, k, h => absurd h (by omega)
  | n + 1, k, h => by
    show (mset (mClr σ n) 12 n (-1)) 12 k = (-1)
    by_cases e : k = n
    · subst e; exact mset_self _ _ _ _
    · rw [mset_ne (by omega)]; exact mClr_in σ n k (by omega)
theorem sim_box {σ τ : Mem} (h : S σ τ) (h0 : ch0 σ τ) {j v : Nat} (hj : j ≤ 60) : lft (cBench σ 13 j v).1 (mAct τ 13 j v).1 (cBench σ 13 j v).2 (mAct τ 13 j v).2 := by
  rw [cBench_13, mAct_13, mBoxes_eq]
  have e3 : nI j / 3 = nI (j / 3) := pk_div (d := 3) (by omega) (by decide) (by decide)
  have er : nI j - nI j / 3 * 3 = nI (j % 3) := pk_rem (d := 3) (by omega) (by decide) (by decide)
  have hz : 0 ≤ nI (j / 3) - 2 ↔ 2 ≤ j / 3 := nI_subT (b := 2) (by omega) (by decide)
  rw [er, e3]
  unfold cNewBox
  by_cases hc : 2 ≤ j / 3
  · have hz1 := hz.mpr hc
    have hn : ¬ nI (j / 3) - 2 < 0 := Int32.not_lt.mpr hz1
    rw [show nI (j / 3) - 2 = nI (j / 3 - 2) from pk_sub (b := 2) hc] at hz1 hn ⊢
    have h18 : nI (j / 3 - 2) ≤ 18 := (nI_leI (b := 18) (by omega) (by decide)).mpr (by omega)
    rw [if_neg hn, if_pos h18, if_pos hz1]
    dsimp only
    rw [if_neg (by decide)]
    rw [show ci (nI (j / 3 - 2)) = j / 3 - 2 from nI_clamp (by omega)]
    dsimp only
    refine lft_on (h.stock ?_ (fun i a b => ?_) (fun i a b => ?_)) h0 ?_ ?_
    · obtain ⟨k1, k2, k3, k4, k5, k6⟩ := h.2.2.2.2.1
      have f5 : ∀ k : Nat, k ≠ 2 → k ≠ 3 → (mset (mset (cClr σ (j / 3 - 2)) 5 2 (nI (j / 3 - 2))) 5 3 (nI (j % 3))) 5 k = σ 5 k := fun k a b => by
        rw [mset_ne (by omega), mset_ne (by omega), cClr_nc _ (by decide)]
      have f52 : (mset (mset (cClr σ (j / 3 - 2)) 5 2 (nI (j / 3 - 2))) 5 3 (nI (j % 3))) 5 2 = nI (j / 3 - 2) := by rw [mset_ne (by omega), mset_self]
      have f53 : (mset (mset (cClr σ (j / 3 - 2)) 5 2 (nI (j / 3 - 2))) 5 3 (nI (j % 3))) 5 3 = nI (j % 3) := mset_self _ _ _ _
      have g0 : ∀ k : Nat, k ≠ 13 → k ≠ 14 → (mClr (mset (mset τ 0 13 (nI (j / 3 - 2))) 0 14 (nI (j % 3))) 20) 0 k = τ 0 k := fun k a b => by
        rw [mClr_nc _ (by decide), mset_ne (by omega), mset_ne (by omega)]
      have g13 : (mClr (mset (mset τ 0 13 (nI (j / 3 - 2))) 0 14 (nI (j % 3))) 20) 0 13 = nI (j / 3 - 2) := by rw [mClr_nc _ (by decide), mset_ne (by omega), mset_self]
      have g14 : (mClr (mset (mset τ 0 13 (nI (j / 3 - 2))) 0 14 (nI (j % 3))) 20) 0 14 = nI (j % 3) := by rw [mClr_nc _ (by decide), mset_self]
      unfold sK
      rw [f5 1 (by decide) (by decide), f5 4 (by decide) (by decide), f5 5 (by decide) (by decide), f52, f53, g0 12 (by decide) (by decide), g0 16 (by decide) (by decide), g0 17 (by decide) (by decide), g13, g14]
      refine ⟨k1, Or.inr ⟨j / 3 - 2, by omega, rfl, rfl⟩, k3, k4, Or.inr ⟨rfl, ?_⟩, fun k hk hlt => ?_⟩
      · rcases (show j % 3 = 0 ∨ j % 3 = 1 ∨ j % 3 = 2 by omega) with q | q | q <;> rw [q]
        · exact Or.inl rfl
        · exact Or.inr (Or.inl rfl)
        · exact Or.inr (Or.inr rfl)
      · have hkn : k < j / 3 - 2 := (nI_ltI (by omega) (by omega)).mp hlt
        refine Or.inl ⟨?_, mClr_in _ 20 k (by omega)⟩
        rw [mset_nc (by decide), mset_nc (by decide)]
        exact cClr_in σ _ k hkn
    · rw [mset_nc a, mset_nc a, cClr_nc _ b]
    · rw [mClr_nc _ b, mset_nc a, mset_nc a]
    · rw [mset_nc (by decide), mset_nc (by decide), cClr_nc _ (by decide)]
    · rw [mClr_nc _ (by decide), mset_ne (by decide), mset_ne (by decide)]
  · have hn : ¬ 0 ≤ nI (j / 3) - 2 := fun q => hc (hz.mp q)
    have hlt : nI (j / 3) - 2 < 0 := Int32.not_le.mp hn
    rw [if_pos hlt, if_neg hn]
    dsimp only
    rw [if_pos rfl]
    exact sim_fail h h0.2 6
