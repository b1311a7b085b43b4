/-! Every public method answers alike, and what holds between the calls stands. -/
theorem Z.of {σ τ σ' τ' : Mem} (h : Z σ τ) (hS : S σ' τ') (c7 : σ' 7 = σ 7) (c8 : σ' 8 = σ 8) (c5 : σ' 5 2 = σ 5 2) (c11 : σ' 11 = σ 11) (d23 : τ' 0 23 = τ 0 23) (d17 : τ' 17 = τ 17) : Z σ' τ' := by
  obtain ⟨-, ⟨n, h1, h2, h3, h4⟩, x, hx, hO⟩ := h
  refine ⟨hS, ⟨n, h1, by rw [c7]; exact h2, d23.trans h3, fun k hk => by rw [c11, d17]; exact h4 k hk⟩, x, hx, hO.of c7 c8 c5⟩
theorem Z.thr {σ τ : Mem} (h : Z σ τ) : Z σ (mset τ 0 0 0) :=
  h.of (h.1.of (fun _ _ _ _ => rfl) rfl rfl (fun i a _ => mset_nc a) rfl rfl rfl rfl rfl) rfl rfl rfl rfl rfl rfl
theorem sV.set {a p d : Nat → Int32} (h : sV a p d) {v : Nat} {a1 p1 d1 : Int32} (hv : (a1 = (-1) ∧ p1 = 0) ∨ (p1 = 1 ∧ a1 = d1 ∧ ∃ n : Nat, n ≤ 1000 ∧ d1 = nI n)) : sV (upd a v a1) (upd p v p1) (upd d v d1) := by
  intro w hw
  by_cases e : w = v
  · subst e
    rw [pk_us, pk_us, pk_us]; exact hv
  · rw [pk_un e, pk_un e, pk_un e]; exact h w hw
theorem sp_vial {σ τ : Mem} (h : Z σ τ) (v d : Int32) : (cpVial σ v d).1 = (mpVial τ v d).1 ∧ Z (cpVial σ v d).2 (mpVial τ v d).2 := by
  have hT := h.thr
  unfold cpVial mpVial
  rw [mIn_eq, mIn_eq]
  by_cases c1 : inR v 0 7 = 0
  · rw [if_pos c1, if_pos c1]; exact ⟨rfl, hT⟩
  rw [if_neg c1, if_neg c1]
  by_cases c2 : inR d (-1) 1000 = 0
  · rw [if_pos c2, if_pos c2]; exact ⟨rfl, hT⟩
  rw [if_neg c2, if_neg c2]
  obtain ⟨j, hj, rfl⟩ := vp_in_of (inR_in (N := 8) (by decide) c1) (by decide)
  have ej : ci (nI j) = j := nI_clamp (by omega)
  rw [ej]
  have hd := inR_T c2
  have hm1 : ((-1 : Int32)).toInt = -1 := by decide
  have hm2 : ((1000 : Int32)).toInt = 1000 := by decide
  have h00 : (0 : Int32).toInt = 0 := by decide
  have hset : ∀ a1 p1 d1 : Int32, ((a1 = (-1) ∧ p1 = 0) ∨ (p1 = 1 ∧ a1 = d1 ∧ ∃ n : Nat, n ≤ 1000 ∧ d1 = nI n)) → Z (mset σ 1 j a1) (mset (mset (mset τ 0 0 0) 1 j p1) 2 j d1) := fun a1 p1 d1 hh => by
    refine hT.of (hT.1.vials (show sV (upd (σ 1) j a1) (upd (τ 1) j p1) (upd (τ 2) j d1) from h.1.1.set hh) (fun i a => mset_nc a) (fun i a b => by rw [mset_nc b, mset_nc a])) (mset_nc (by decide)) (mset_nc (by decide)) (by rw [mset_nc (by decide)]) (mset_nc (by decide)) (by rw [mset_nc (by decide), mset_nc (by decide)]) (by rw [mset_nc (by decide), mset_nc (by decide)])
  have hans : orN (σ 1 j) = if τ 1 j = 0 then (-4) else τ 2 j := by
    unfold orN
    rcases h.1.1 j hj with ⟨a1, a2⟩ | ⟨a1, a2, n, hn, a3⟩
    · rw [if_pos a1, if_pos a2]
    · rw [if_neg (by rw [a2, a3]; intro z; have := congrArg Int32.toInt z; rw [nI_toInt (by omega)] at this; omega), if_neg (by rw [a1]; decide), a2]
  by_cases c3 : d < 0
  · have c3' : ¬ 0 ≤ d := Int32.not_le.mpr c3
    have ed : d = (-1) := Int32.toInt_inj.mp (by rw [hm1]; have := Int32.lt_iff_toInt_lt.mp c3; omega)
    rw [if_pos c3, if_neg c3', if_pos c3, if_neg c3', hans]
    have hz := hset d 0 0 (Or.inl ⟨ed, rfl⟩)
    by_cases c4 : τ 1 j = 0
    · rw [if_pos c4, if_pos c4]; exact ⟨rfl, hz⟩
    · rw [if_neg c4, if_neg c4]; exact ⟨rfl, hz⟩
  · have c3' : 0 ≤ d := Int32.not_lt.mp c3
    rw [if_neg c3, if_pos c3', if_neg c3, if_pos c3', hans]
    obtain ⟨n, hn, e⟩ := nI_of2 (M := 1000) (n := 1000) (by decide) c3 (Int32.not_lt.mp (inR_0 c2).2)
    have hz := hset d 1 d (Or.inr ⟨rfl, rfl, n, hn, e⟩)
    by_cases c4 : τ 1 j = 0
    · rw [if_pos c4, if_pos c4]; exact ⟨rfl, hz⟩
    · rw [if_neg c4, if_neg c4]; exact ⟨rfl, hz⟩
theorem S.br {σ τ σ' τ' : Mem} (h : S σ τ) (hbr : sBR σ' τ') (hm : mR τ') (c : ∀ i : Nat, (i < 12 ∨ (20 ≤ i ∧ i < 26)) → σ' i = σ i) (d : ∀ i : Nat, (i < 3 ∨ 8 < i) → τ' i = τ i) : S σ' τ' := by
  obtain ⟨h1, h2, h3, h4, h5, h6, h7⟩ := h
  refine ⟨?_, hbr, fun t ht => ?_, fun k hk => ?_, ?_, ?_, hm⟩
  · rw [c 1 (by omega), d 1 (by omega), d 2 (by omega)]; exact h1
  · rw [c (20 + t) (by omega), d 9 (by omega), d 10 (by omega), d 11 (by omega)]; exact h3 t ht
  · rw [c 4 (by omega), d 13 (by omega)]; exact h4 k hk
  · rw [c 5 (by omega), c 6 (by omega), d 12 (by omega), d 0 (by omega)]; exact h5
  · rw [c 7 (by omega), c 8 (by omega), c 9 (by omega), c 10 (by omega), d 14 (by omega), d 15 (by omega), d 16 (by omega)]; exact h6
theorem Z.br {σ τ σ' τ' : Mem} (h : Z σ τ) (hbr : sBR σ' τ') (hm : mR τ') (c : ∀ i : Nat, (i < 12 ∨ (20 ≤ i ∧ i < 26)) → σ' i = σ i) (d : ∀ i : Nat, (i < 3 ∨ 8 < i) → τ' i = τ i) : Z σ' τ' :=
  h.of (h.1.br hbr hm c d) (c 7 (by omega)) (c 8 (by omega)) (by rw [c 5 (by omega)]) (c 11 (by omega)) (by rw [d 0 (by omega)]) (d 17 (by omega))
theorem sp_batch {σ τ : Mem} (h : Z σ τ) (b d : Int32) : (cpBatch σ b d).1 = (mpBatch τ b d).1 ∧ Z (cpBatch σ b d).2 (mpBatch τ b d).2 := by
  have hT := h.thr
  unfold cpBatch mpBatch mIsB
  rw [mIn_eq, mIn_eq]
  by_cases c1 : inR b 0 3 = 0
  · rw [if_pos c1, if_pos c1]; exact ⟨rfl, hT⟩
  rw [if_neg c1, if_neg c1]
  by_cases c2 : inR d 0 2 = 0
  · rw [if_pos c2, if_pos c2]; exact ⟨rfl, hT⟩
  rw [if_neg c2, if_neg c2]
  obtain ⟨j, hj, rfl⟩ := vp_in_of (inR_in (N := 4) (by decide) c1) (by decide)
  have ej : ci (nI j) = j := nI_clamp (by omega)
  rw [ej]
  obtain ⟨g1, g2⟩ := h.1.2.1
  have c : ∀ i : Nat, i ≠ 12 + j → (cBatBegin σ j d) i = σ i := fun i a => by unfold cBatBegin; rw [mset_nc a, mset_nc a]
  have dd : ∀ i : Nat, i ≠ 3 → i ≠ 4 → (mset (mset (mset τ 0 0 0) 4 j 0) 3 j d) i = (mset τ 0 0 0) i := fun i a b => by rw [mset_nc a, mset_nc b]
  have d4 : ∀ a : Nat, (mset (mset (mset τ 0 0 0) 4 j 0) 3 j d) 4 a = if a = j then 0 else τ 4 a := fun a => by
    rw [mset_nc (by decide), mset_eq]
    by_cases e : a = j <;> simp [e]
    rfl
  have d3 : ∀ a : Nat, (mset (mset (mset τ 0 0 0) 4 j 0) 3 j d) 3 a = if a = j then d else τ 3 a := fun a => by
    rw [mset_eq]
    by_cases e : a = j <;> simp [e]
    rfl
  refine ⟨(g1 j hj).1, hT.br ⟨fun a ha => ?_, fun q hq => ?_⟩ ⟨fun q hq => ?_, fun a ha => ?_⟩ (fun i hi => c i (by omega)) (fun i hi => dd i (by omega) (by omega))⟩
  · dsimp only
    rw [d4, d3]
    by_cases e : a = j
    · subst e
      rw [if_pos rfl, if_pos rfl]
      exact ⟨by unfold cBatBegin; rw [mset_self], by unfold cBatBegin; rw [mset_ne (by omega), mset_self]⟩
    · rw [c (12 + a) (by omega), if_neg e, if_neg e]
      exact g1 a ha
  · dsimp only
    rw [c (26 + q) (by omega), c (50 + q) (by omega), c (74 + q) (by omega), dd 5 (by decide) (by decide), dd 6 (by decide) (by decide), dd 7 (by decide) (by decide), dd 8 (by decide) (by decide)]
    exact g2 q hq
  · exact h.1.2.2.2.2.2.2.1 q hq
  · dsimp only
    rw [d4]
    by_cases e : a = j
    · exact ⟨0, by decide, by rw [if_pos e]; rfl⟩
    · rw [if_neg e]; exact h.1.2.2.2.2.2.2.2 a ha
theorem sp_round {σ τ : Mem} (h : Z σ τ) (b d : Int32) : (cpRound σ b d).1 = (mpRound τ b d).1 ∧ Z (cpRound σ b d).2 (mpRound τ b d).2 := by
  have hT := h.thr
  unfold cpRound mpRound mIsB
  rw [mIn_eq, mIn_eq]
  by_cases c1 : inR b 0 3 = 0
  · rw [if_pos c1, if_pos c1]; exact ⟨rfl, hT⟩
  rw [if_neg c1, if_neg c1]
  by_cases c2 : inR d 0 9 = 0
  · rw [if_pos c2, if_pos c2]; exact ⟨rfl, hT⟩
  rw [if_neg c2, if_neg c2]
  obtain ⟨v9, hv9, ev9⟩ := vp_in_of (inR_in (N := 10) (by decide) c2) (by decide)
  obtain ⟨j, hj, rfl⟩ := vp_in_of (inR_in (N := 4) (by decide) c1) (by decide)
  have ej : ci (nI j) = j := nI_clamp (by omega)
  rw [ej]
  obtain ⟨g1, g2⟩ := h.1.2.1
  obtain ⟨n, hn, en⟩ := h.1.2.2.2.2.2.2.2 j hj
  have ecn : ci (nI n) = n := nI_clamp (by omega)
  unfold cAddRound
  rw [(g1 j hj).1, en, ecn]
  by_cases hc : n = 6
  · have a1 : ¬ nI n < 6 := by rw [hc]; decide
    have a2 : nI n = 6 := by rw [hc]; rfl
    rw [if_neg a1, if_pos a2]; exact ⟨rfl, hT⟩
  · have a1 : nI n < 6 := nI_lt (b := 6) (by omega) (by decide)
    have a2 : ¬ nI n = 6 := fun z => hc ((nI_eq (b := 6) (by omega) (by decide)).mp z)
    rw [if_pos a1, if_neg a2, nI_1, nI_pred]
    have hq6 : 6 * j + n < 24 := by omega
    have c : ∀ i : Nat, i ≠ 12 + j → i ≠ 26 + (6 * j + n) → (mset (cRndBegin σ (6 * j + n) d) (12 + j) 1 (nI (n + 1))) i = σ i := fun i a b => by unfold cRndBegin; rw [mset_nc a, mset_nc b, mset_nc b]
    have dd : ∀ i : Nat, i ≠ 4 → i ≠ 5 → i ≠ 6 → (mset (mset (mset (mset τ 0 0 0) 5 (6 * j + n) d) 6 (6 * j + n) 0) 4 j (nI (n + 1))) i = (mset τ 0 0 0) i := fun i a b c => by rw [mset_nc a, mset_nc c, mset_nc b]
    have d4 : ∀ a : Nat, (mset (mset (mset (mset τ 0 0 0) 5 (6 * j + n) d) 6 (6 * j + n) 0) 4 j (nI (n + 1))) 4 a = if a = j then nI (n + 1) else τ 4 a := fun a => by
      rw [mset_eq]
      by_cases e : a = j <;> simp [e]
      rfl
    have d5 : ∀ a : Nat, (mset (mset (mset (mset τ 0 0 0) 5 (6 * j + n) d) 6 (6 * j + n) 0) 4 j (nI (n + 1))) 5 a = if a = 6 * j + n then d else τ 5 a := fun a => by
      rw [mset_nc (by decide), mset_nc (by decide), mset_eq]
      by_cases e : a = 6 * j + n <;> simp [e]
      rfl
    have d6 : ∀ a : Nat, (mset (mset (mset (mset τ 0 0 0) 5 (6 * j + n) d) 6 (6 * j + n) 0) 4 j (nI (n + 1))) 6 a = if a = 6 * j + n then 0 else τ 6 a := fun a => by
      rw [mset_nc (by decide), mset_eq]
      by_cases e : a = 6 * j + n <;> simp [e]
      rfl
    refine ⟨rfl, hT.br ⟨fun a ha => ?_, fun q hq => ?_⟩ ⟨fun q hq => ?_, fun a ha => ?_⟩ (fun i hi => c i (by omega) (by omega)) (fun i hi => dd i (by omega) (by omega) (by omega))⟩
    · dsimp only
      rw [d4, dd 3 (by decide) (by decide) (by decide)]
      by_cases e : a = j
      · subst e
        rw [if_pos rfl, mset_self, mset_ne (by omega)]
        refine ⟨rfl, ?_⟩
        unfold cRndBegin
        rw [mset_nc (by omega), mset_nc (by omega)]
        exact (g1 a ha).2
      · rw [c (12 + a) (by omega) (by omega), if_neg e]
        exact g1 a ha
    · dsimp only
      rw [c (50 + q) (by omega) (by omega), c (74 + q) (by omega) (by omega), d5, d6, dd 7 (by decide) (by decide) (by decide), dd 8 (by decide) (by decide) (by decide)]
      by_cases e : q = 6 * j + n
      · rw [if_pos e, if_pos e, e]
        refine ⟨?_, ?_, (g2 _ hq6).2.2⟩
        · rw [mset_nc (by omega)]; unfold cRndBegin; rw [mset_self]
        · rw [mset_nc (by omega)]; unfold cRndBegin; rw [mset_ne (by omega), mset_self]
      · rw [c (26 + q) (by omega) (by omega), if_neg e, if_neg e]
        exact g2 q hq
    · dsimp only
      obtain ⟨k1, k2, k3⟩ := h.1.2.2.2.2.2.2.1 q hq
      rw [d5, d6, dd 7 (by decide) (by decide) (by decide), dd 8 (by decide) (by decide) (by decide)]
      by_cases e : q = 6 * j + n
      · rw [if_pos e, if_pos e]
        exact ⟨⟨0, by decide, rfl⟩, ⟨v9, by omega, ev9⟩, k3⟩
      · rw [if_neg e, if_neg e]
        exact ⟨k1, k2, k3⟩
    · dsimp only
      rw [d4]
      by_cases e : a = j
      · rw [if_pos e]; exact ⟨n + 1, by omega, rfl⟩
      · rw [if_neg e]; exact h.1.2.2.2.2.2.2.2 a ha
theorem sp_step {σ τ : Mem} (h : Z σ τ) (b kd n : Int32) : (cpStep σ b kd n).1 = (mpStep τ b kd n).1 ∧ Z (cpStep σ b kd n).2 (mpStep τ b kd n).2 := by
  have hT := h.thr
  unfold cpStep mpStep mIsB
  rw [mIn_eq, mIn_eq, mIn_eq]
  by_cases c1 : inR b 0 3 = 0
  · rw [if_pos c1, if_pos c1]; exact ⟨rfl, hT⟩
  rw [if_neg c1, if_neg c1]
  by_cases c2 : inR kd 0 17 = 0
  · rw [if_pos c2, if_pos c2]; exact ⟨rfl, hT⟩
  rw [if_neg c2, if_neg c2]
  obtain ⟨kd9, hkd9, rfl⟩ := vp_in_of (inR_in (N := 18) (by decide) c2) (by decide)
  have ekd : ci (nI kd9) = kd9 := nI_clamp (by omega)
  rw [ekd, (mostD_eq kd9 hkd9).1, (mostD_eq kd9 hkd9).2]
  by_cases c3 : inR n 0 (nI (mostD kd9)) = 0
  · rw [if_pos c3, if_pos c3]; exact ⟨rfl, hT⟩
  rw [if_neg c3, if_neg c3]
  have hmd := mostD_200 kd9 hkd9
  obtain ⟨j9, hj9, en9⟩ := vp_in_of (inR_in (N := mostD kd9 + 1) (by rw [nI_toInt (by omega)]; omega) c3) (by omega)
  obtain ⟨j, hj, rfl⟩ := vp_in_of (inR_in (N := 4) (by decide) c1) (by decide)
  have ej : ci (nI j) = j := nI_clamp (by omega)
  rw [ej]
  obtain ⟨g1, g2⟩ := h.1.2.1
  obtain ⟨r, hr, er⟩ := h.1.2.2.2.2.2.2.2 j hj
  have ecr : ci (nI r) = r := nI_clamp (by omega)
  rw [(g1 j hj).1, er]
  by_cases hr0 : r = 0
  · have a1 : nI r = 0 := by rw [hr0]; rfl
    rw [if_pos a1, if_pos a1]; exact ⟨rfl, hT⟩
  have a1 : ¬ nI r = 0 := fun z => hr0 ((nI_eq (b := 0) (by omega) (by decide)).mp z)
  rw [if_neg a1, if_neg a1]
  obtain ⟨r', rfl⟩ : ∃ r' : Nat, r = r' + 1 := ⟨r - 1, by omega⟩
  have ecr' : ci (nI r') = r' := nI_clamp (by omega)
  rw [nI_pred, ecr, ecr', Nat.add_sub_cancel]
  have hq6 : 6 * j + r' < 24 := by omega
  obtain ⟨s9, hs9, es9⟩ := (h.1.2.2.2.2.2.2.1 _ hq6).1
  have ecs : ci (nI s9) = s9 := nI_clamp (by omega)
  unfold cAddStep
  rw [(g2 _ hq6).1, es9, ecs]
  by_cases hc : s9 = 8
  · have a2 : ¬ nI s9 < 8 := by rw [hc]; decide
    have a3 : nI s9 = 8 := by rw [hc]; rfl
    rw [if_neg a2, if_pos a3]; exact ⟨rfl, hT⟩
  · have a2 : nI s9 < 8 := nI_lt (b := 8) (by omega) (by decide)
    have a3 : ¬ nI s9 = 8 := fun z => hc ((nI_eq (b := 8) (by omega) (by decide)).mp z)
    rw [if_pos a2, if_neg a3, nI_1, nI_pred]
    generalize hqe : 6 * j + r' = q0 at hq6
    have c : ∀ i : Nat, i ≠ 26 + q0 → i ≠ 50 + q0 → i ≠ 74 + q0 → (mset (mset (mset σ (50 + q0) s9 (nI kd9)) (74 + q0) s9 n) (26 + q0) 2 (nI (s9 + 1))) i = σ i := fun i a b c => by rw [mset_nc a, mset_nc c, mset_nc b]
    have dd : ∀ i : Nat, i ≠ 6 → i ≠ 7 → i ≠ 8 → (mset (mset (mset (mset τ 0 0 0) 7 (8 * q0 + s9) (nI kd9)) 8 (8 * q0 + s9) n) 6 q0 (nI (s9 + 1))) i = (mset τ 0 0 0) i := fun i a b c => by rw [mset_nc a, mset_nc c, mset_nc b]
    have d6 : ∀ a : Nat, (mset (mset (mset (mset τ 0 0 0) 7 (8 * q0 + s9) (nI kd9)) 8 (8 * q0 + s9) n) 6 q0 (nI (s9 + 1))) 6 a = if a = q0 then nI (s9 + 1) else τ 6 a := fun a => by
      rw [mset_eq]
      by_cases e : a = q0 <;> simp [e]
      rfl
    have d7 : ∀ a : Nat, (mset (mset (mset (mset τ 0 0 0) 7 (8 * q0 + s9) (nI kd9)) 8 (8 * q0 + s9) n) 6 q0 (nI (s9 + 1))) 7 a = if a = 8 * q0 + s9 then nI kd9 else τ 7 a := fun a => by
      rw [mset_nc (by decide), mset_nc (by decide), mset_eq]
      by_cases e : a = 8 * q0 + s9 <;> simp [e]
      rfl
    have d8 : ∀ a : Nat, (mset (mset (mset (mset τ 0 0 0) 7 (8 * q0 + s9) (nI kd9)) 8 (8 * q0 + s9) n) 6 q0 (nI (s9 + 1))) 8 a = if a = 8 * q0 + s9 then n else τ 8 a := fun a => by
      rw [mset_nc (by decide), mset_eq]
      by_cases e : a = 8 * q0 + s9 <;> simp [e]
      rfl
    refine ⟨rfl, hT.br ⟨fun a ha => ?_, fun q hq => ?_⟩ ⟨fun q hq => ?_, fun a ha => ?_⟩ (fun i hi => c i (by omega) (by omega) (by omega)) (fun i hi => dd i (by omega) (by omega) (by omega))⟩
    · dsimp only
      rw [c (12 + a) (by omega) (by omega) (by omega), dd 3 (by decide) (by decide) (by decide), dd 4 (by decide) (by decide) (by decide)]
      exact g1 a ha
    · dsimp only
      rw [d6, dd 5 (by decide) (by decide) (by decide)]
      by_cases e : q = q0
      · subst e
        rw [if_pos rfl, mset_self, mset_ne (by omega), mset_nc (by omega), mset_nc (by omega)]
        refine ⟨rfl, (g2 q hq).2.1, fun k hk => ?_⟩
        rw [d7, d8, mset_nc (by omega), mset_nc (i := 26 + q) (j := 74 + q) (by omega), mset_nc (i := 74 + q) (j := 50 + q) (by omega)]
        by_cases ek : k = s9
        · subst ek
          rw [if_pos rfl, if_pos rfl, mset_self, mset_self]
          exact ⟨rfl, rfl⟩
        · rw [if_neg (by omega), if_neg (by omega), mset_ne (by omega), mset_ne (by omega), mset_nc (by omega)]
          exact (g2 q hq).2.2 k hk
      · rw [if_neg e, c (26 + q) (by omega) (by omega) (by omega), c (50 + q) (by omega) (by omega) (by omega), c (74 + q) (by omega) (by omega) (by omega)]
        refine ⟨(g2 q hq).1, (g2 q hq).2.1, fun k hk => ?_⟩
        rw [d7, d8, if_neg (by omega), if_neg (by omega)]
        exact (g2 q hq).2.2 k hk
    · dsimp only
      obtain ⟨k1, k2, k3⟩ := h.1.2.2.2.2.2.2.1 q hq
      rw [d6, dd 5 (by decide) (by decide) (by decide)]
      refine ⟨?_, k2, fun k hk => ?_⟩
      · by_cases e : q = q0
        · rw [if_pos e]; exact ⟨s9 + 1, by omega, rfl⟩
        · rw [if_neg e]; exact k1
      · rw [d7, d8]
        by_cases ek : 8 * q + k = 8 * q0 + s9
        · rw [if_pos ek, if_pos ek]
          exact ⟨kd9, j9, hkd9, by omega, rfl, en9⟩
        · rw [if_neg ek, if_neg ek]
          exact k3 k hk
    · dsimp only
      rw [dd 4 (by decide) (by decide) (by decide)]
      exact h.1.2.2.2.2.2.2.2 a ha
