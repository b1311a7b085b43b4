theorem Z.tools {σ τ σ' τ' : Mem} (h : Z σ τ) (ht : sT σ' τ') (c : ∀ i : Nat, (i < 20 ∨ 26 ≤ i) → σ' i = σ i) (d : ∀ i : Nat, (i < 9 ∨ 11 < i) → τ' i = τ i) : Z σ' τ' :=
  h.of (h.1.tools ht c d) (c 7 (by omega)) (c 8 (by omega)) (by rw [c 5 (by omega)]) (c 11 (by omega)) (by rw [d 0 (by omega)]) (d 17 (by omega))
theorem sp_tool {σ τ : Mem} (h : Z σ τ) (t d : Int32) : (cpTool σ t d).1 = (mpTool τ t d).1 ∧ Z (cpTool σ t d).2 (mpTool τ t d).2 := by
  have hT := h.thr
  unfold cpTool mpTool
  rw [mIn_eq, mIn_eq]
  by_cases c1 : inR t 0 5 = 0
  · rw [if_pos c1, if_pos c1]; exact ⟨rfl, hT⟩
  rw [if_neg c1, if_neg c1]
  by_cases c2 : inR d (-1) 1 = 0
  · rw [if_pos c2, if_pos c2]; exact ⟨rfl, hT⟩
  rw [if_neg c2, if_neg c2]
  obtain ⟨j, hj, rfl⟩ := vp_in_of (inR_in (N := 6) (by decide) c1) (by decide)
  have ej : ci (nI j) = j := nI_clamp (by omega)
  rw [ej]
  have hd : d = (-1) ∨ d = 0 ∨ d = 1 := by
    obtain ⟨a, b⟩ := inR_T c2
    have m1 : ((-1 : Int32)).toInt = -1 := by decide
    have p1 : (1 : Int32).toInt = 1 := by decide
    have z0 : (0 : Int32).toInt = 0 := by decide
    rcases (show d.toInt = -1 ∨ d.toInt = 0 ∨ d.toInt = 1 by omega) with q | q | q
    · exact Or.inl (Int32.toInt_inj.mp (q.trans m1.symm))
    · exact Or.inr (Or.inl (Int32.toInt_inj.mp (q.trans z0.symm)))
    · exact Or.inr (Or.inr (Int32.toInt_inj.mp (q.trans p1.symm)))
  obtain ⟨e1, e2, e3, e4⟩ := h.1.2.2.1 j hj
  have hz : Z (cToolBegin σ j d) (mset (mset (mset (mset τ 0 0 0) 9 j d) 10 j 0) 11 j 0) := by
    have c : ∀ i : Nat, i ≠ 20 + j → (cToolBegin σ j d) i = σ i := fun i a => by unfold cToolBegin; rw [mset_nc a, mset_nc a, mset_nc a]
    have d9 : ∀ a : Nat, (mset (mset (mset (mset τ 0 0 0) 9 j d) 10 j 0) 11 j 0) 9 a = if a = j then d else τ 9 a := fun a => by
      rw [mset_nc (by decide), mset_nc (by decide), mset_eq]
      by_cases e : a = j <;> simp [e]
      rfl
    have d10 : ∀ a : Nat, (mset (mset (mset (mset τ 0 0 0) 9 j d) 10 j 0) 11 j 0) 10 a = if a = j then 0 else τ 10 a := fun a => by
      rw [mset_nc (by decide), mset_eq]
      by_cases e : a = j <;> simp [e]
      rfl
    have d11 : ∀ a : Nat, (mset (mset (mset (mset τ 0 0 0) 9 j d) 10 j 0) 11 j 0) 11 a = if a = j then 0 else τ 11 a := fun a => by
      rw [mset_eq]
      by_cases e : a = j <;> simp [e]
      rfl
    refine hT.tools (fun u hu => ?_) (fun i hi => c i (by omega)) (fun i hi => by rw [mset_nc (by omega), mset_nc (by omega), mset_nc (by omega)])
    rw [d9, d10, d11]
    by_cases e : u = j
    · subst e
      rw [if_pos rfl, if_pos rfl, if_pos rfl]
      unfold cToolBegin
      exact ⟨by rw [mset_ne (by omega), mset_ne (by omega), mset_self], by rw [mset_ne (by omega), mset_self], by rw [mset_self], hd⟩
    · rw [c (20 + u) (by omega), if_neg e, if_neg e, if_neg e]
      exact h.1.2.2.1 u hu
  unfold orN
  rw [e1]
  rcases e4 with q | q | q
  · rw [q, if_pos rfl, if_neg (by decide)]; exact ⟨rfl, hz⟩
  · rw [q, if_neg (by decide), if_pos (by decide)]; exact ⟨rfl, hz⟩
  · rw [q, if_neg (by decide), if_pos (by decide)]; exact ⟨rfl, hz⟩
theorem sp_lay {σ τ : Mem} (h : Z σ τ) (k d : Int32) : (cpLay σ k d).1 = (mpLay τ k d).1 ∧ Z (cpLay σ k d).2 (mpLay τ k d).2 := by
  have hT := h.thr
  unfold cpLay mpLay
  rw [mIn_eq, mIn_eq]
  by_cases c1 : inR k 0 3 = 0
  · rw [if_pos c1, if_pos c1]; exact ⟨rfl, hT⟩
  rw [if_neg c1, if_neg c1]
  by_cases c2 : inR d 0 99 = 0
  · rw [if_pos c2, if_pos c2]; exact ⟨rfl, hT⟩
  rw [if_neg c2, if_neg c2]
  obtain ⟨j, hj, rfl⟩ := vp_in_of (inR_in (N := 4) (by decide) c1) (by decide)
  have ej : ci (nI j) = j := nI_clamp (by omega)
  rw [ej]
  refine ⟨h.1.2.2.2.1 j hj, ?_⟩
  dsimp only
  obtain ⟨h1, h2, h3, h4, h5, h6, h7⟩ := hT.1
  have c : ∀ i : Nat, i ≠ 4 → (mset σ 4 j d) i = σ i := fun i a => mset_nc a
  have dd : ∀ i : Nat, i ≠ 13 → (mset (mset τ 0 0 0) 13 j d) i = (mset τ 0 0 0) i := fun i a => mset_nc a
  refine hT.of ⟨?_, ⟨fun b hb => ?_, fun q hq => ?_⟩, fun t ht => ?_, fun k hk => ?_, ?_, ?_, ?_⟩ (c 7 (by decide)) (c 8 (by decide)) (by rw [c 5 (by decide)]) (c 11 (by decide)) (by rw [dd 0 (by decide)]) (dd 17 (by decide))
  · rw [c 1 (by decide), dd 1 (by decide), dd 2 (by decide)]; exact h1
  · rw [c (12 + b) (by omega), dd 4 (by decide), dd 3 (by decide)]; exact h2.1 b hb
  · rw [c (26 + q) (by omega), c (50 + q) (by omega), c (74 + q) (by omega), dd 5 (by decide), dd 6 (by decide), dd 7 (by decide), dd 8 (by decide)]; exact h2.2 q hq
  · rw [c (20 + t) (by omega), dd 9 (by decide), dd 10 (by decide), dd 11 (by decide)]; exact h3 t ht
  · by_cases e : k = j
    · subst e; rw [mset_self, mset_self]
    · rw [mset_ne (by omega), mset_ne (by omega)]; exact h4 k hk
  · rw [c 5 (by decide), c 6 (by decide), dd 12 (by decide), dd 0 (by decide)]; exact h5
  · rw [c 7 (by decide), c 8 (by decide), c 9 (by decide), c 10 (by decide), dd 14 (by decide), dd 15 (by decide), dd 16 (by decide)]; exact h6
  · exact h7.of fun i a b => dd i (by omega)
/-- a method that only reads -/
theorem rdZ {σ τ : Mem} (h : Z σ τ) {a : Int32} {r : Int32 × Mem} (hr : r = (a, mset τ 0 0 0)) {b : Int32} (hab : b = a) : b = r.1 ∧ Z σ r.2 := by
  subst hr
  exact ⟨hab, h.thr⟩
theorem three {d : Int32} (h : ¬ inR d 0 2 = 0) : d = 0 ∨ d = 1 ∨ d = 2 := by
  obtain ⟨j, hj, rfl⟩ := vp_in_of (inR_in (N := 3) (by decide) h) (by decide)
  rcases (show j = 0 ∨ j = 1 ∨ j = 2 by omega) with rfl | rfl | rfl
  · exact Or.inl rfl
  · exact Or.inr (Or.inl rfl)
  · exact Or.inr (Or.inr rfl)
theorem sp_about {σ τ : Mem} (h : Z σ τ) (t d : Int32) : cpAbout σ t d = (mpAbout τ t d).1 ∧ Z σ (mpAbout τ t d).2 := by
  unfold cpAbout mpAbout
  rw [mIn_eq, mIn_eq]
  by_cases c1 : inR t 0 5 = 0
  · rw [if_pos c1, if_pos c1]; exact ⟨rfl, h.thr⟩
  rw [if_neg c1, if_neg c1]
  by_cases c2 : inR d 0 2 = 0
  · rw [if_pos c2, if_pos c2]; exact ⟨rfl, h.thr⟩
  rw [if_neg c2, if_neg c2]
  obtain ⟨j, hj, rfl⟩ := vp_in_of (inR_in (N := 6) (by decide) c1) (by decide)
  have ej : ci (nI j) = j := nI_clamp (by omega)
  rw [ej]
  obtain ⟨e1, e2, e3, e4⟩ := h.1.2.2.1 j hj
  rw [e1, e2, e3]
  have hp : τ 9 j = (-1) ∨ (¬ τ 9 j = (-1) ∧ 0 ≤ τ 9 j) := by
    rcases e4 with q | q | q
    · exact Or.inl q
    · exact Or.inr ⟨by rw [q]; decide, by rw [q]; decide⟩
    · exact Or.inr ⟨by rw [q]; decide, by rw [q]; decide⟩
  rcases hp with q | ⟨q1, q2⟩
  · rw [if_pos q, if_neg (by rw [q]; decide)]; exact ⟨rfl, h.thr⟩
  · rw [if_neg q1, if_pos q2]
    rcases three c2 with rfl | rfl | rfl
    · rw [if_neg (by decide), if_neg (by decide), if_pos rfl]; exact ⟨rfl, h.thr⟩
    · rw [if_neg (by decide), if_pos rfl, if_neg (by decide), if_pos rfl]; exact ⟨rfl, h.thr⟩
    · rw [if_pos rfl, if_neg (by decide), if_neg (by decide)]; exact ⟨rfl, h.thr⟩
theorem szA {a b : Int32} (h : sz a b) : a = if 0 ≤ b then b else (-4) := by
  rcases h with ⟨a1, a2⟩ | ⟨n, hn, a1, a2⟩
  · rw [a1, a2, if_neg (by decide)]
  · rw [a1, a2, if_pos (nI_pos' (by omega))]
theorem ifp {c : Prop} [Decidable c] {a b : Int32} {m : Mem} : (if c then (a, m) else (b, m)) = ((if c then a else b), m) := by
  split <;> rfl
theorem sp_places {σ τ : Mem} (h : Z σ τ) (w : Int32) : cpPlaces σ w = (mpPlaces τ w).1 ∧ Z σ (mpPlaces τ w).2 := by
  unfold cpPlaces mpPlaces
  rw [mIn_eq]
  by_cases c1 : inR w 0 3 = 0
  · rw [if_pos c1, if_pos c1]; exact ⟨rfl, h.thr⟩
  rw [if_neg c1, if_neg c1]
  obtain ⟨j, hj, rfl⟩ := vp_in_of (inR_in (N := 4) (by decide) c1) (by decide)
  have ej : ci (nI j) = j := nI_clamp (by omega)
  rw [ej]
  obtain ⟨k1, k2, k3, k4, k5, k6⟩ := h.1.2.2.2.2.1
  unfold cSizeOf
  rcases (show j = 0 ∨ j = 1 ∨ j = 2 ∨ j = 3 by omega) with rfl | rfl | rfl | rfl
  · rw [if_pos rfl, if_pos (show nI 0 = 0 from rfl), ifp]; exact rdZ h rfl (szA k1)
  · rw [if_neg (by decide), if_pos rfl, if_neg (show ¬ nI 1 = 0 by decide), if_pos (show nI 1 = 1 from rfl), ifp]; exact rdZ h rfl (szA k2)
  · rw [if_neg (by decide), if_neg (by decide), if_pos rfl, if_neg (show ¬ nI 2 = 0 by decide), if_neg (show ¬ nI 2 = 1 by decide), if_pos (show nI 2 = 2 from rfl), ifp]; exact rdZ h rfl (szA k3)
  · rw [if_neg (by decide), if_neg (by decide), if_neg (by decide), if_neg (show ¬ nI 3 = 0 by decide), if_neg (show ¬ nI 3 = 1 by decide), if_neg (show ¬ nI 3 = 2 by decide)]
    rcases k3 with ⟨a1, a2⟩ | ⟨n, hn, a1, a2⟩
    · rw [a1, a2, if_pos (by decide), if_pos (by decide)]; exact ⟨rfl, h.thr⟩
    · rw [a1, a2]
      by_cases c2 : nI n ≤ 0
      · rw [if_pos c2, if_pos c2]; exact ⟨rfl, h.thr⟩
      · rw [if_neg c2, if_neg c2]
        rcases k4 with q | ⟨m, hm, b1, b2⟩
        · rw [a2] at q
          exact absurd q (by intro z; have := congrArg Int32.toInt z; rw [nI_toInt (by omega)] at this; have h2 : ((-1 : Int32)).toInt = -1 := by decide
                             omega)
        · rw [b1, b2, if_pos (nI_pos' (by omega))]; exact ⟨rfl, h.thr⟩
theorem inR_neg {k hi : Int32} (h : hi.toInt < 0) : inR k 0 hi = 0 := by
  unfold inR
  split
  · rfl
  rename_i h1
  rw [if_pos]
  rw [Int32.lt_iff_toInt_lt] at h1 ⊢
  have h0 : (0 : Int32).toInt = 0 := by decide
  omega
theorem sp_box {σ τ : Mem} (h : Z σ τ) (k : Int32) : cpBox σ k = (mpBox τ k).1 ∧ Z σ (mpBox τ k).2 := by
  unfold cpBox mpBox
  rw [mIn_eq]
  obtain ⟨k1, k2, k3, k4, k5, k6⟩ := h.1.2.2.2.2.1
  obtain ⟨-, -, x, hx, hO⟩ := id h
  rcases k2 with ⟨a1, a2⟩ | ⟨n, hn, a1, a2⟩
  · rw [a1, a2, if_pos (inR_neg (by decide)), if_pos (inR_neg (by decide))]; exact ⟨rfl, h.thr⟩
  · rw [a1, a2]
    have hn18 : n ≤ 18 := by
      rcases hO.2.2 with q | ⟨m, hm, q⟩
      · rw [a1] at q; exact absurd q (nI_ne4 hn)
      · rw [a1] at q
        have := (nI_eq (by omega) (by omega)).mp q
        omega
    by_cases c1 : inR k 0 (nI n - 1) = 0
    · rw [if_pos c1, if_pos c1]; exact ⟨rfl, h.thr⟩
    · rw [if_neg c1, if_neg c1]
      obtain ⟨b1, b2⟩ := inR_k (N := 18) hn18 (by decide) c1
      obtain ⟨j, hj, rfl⟩ := vp_in_of b1 (by decide)
      rw [nI_toInt (by omega)] at b2
      have ej : ci (nI j) = j := nI_clamp (by omega)
      rw [ej]
      rcases k6 j hj (by rw [a2]; exact nI_lt (by omega) (by omega)) with ⟨d1, d2⟩ | ⟨m, hm, d1, d2⟩
      · rw [d1, d2, if_pos (by decide)]; exact ⟨rfl, h.thr⟩
      · rw [d1, d2, if_neg (nI_pos (by omega))]; exact ⟨rfl, h.thr⟩
theorem sp_why {σ τ : Mem} (h : Z σ τ) (k : Int32) : cpWhy σ k = (mpWhy τ k).1 ∧ Z σ (mpWhy τ k).2 := by
  unfold cpWhy mpWhy
  rw [mIn_eq]
  obtain ⟨-, ⟨n, hn, e1, e2, hk⟩, -⟩ := id h
  rw [e1, e2]
  by_cases c1 : inR k 0 (nI n - 1) = 0
  · rw [if_pos c1, if_pos c1]; exact ⟨rfl, h.thr⟩
  · rw [if_neg c1, if_neg c1]
    obtain ⟨b1, b2⟩ := inR_k (N := 4) hn (by decide) c1
    obtain ⟨j, hj, rfl⟩ := vp_in_of b1 (by decide)
    rw [nI_toInt (by omega)] at b2
    have ej : ci (nI j) = j := nI_clamp (by omega)
    obtain ⟨n', rfl⟩ : ∃ n' : Nat, n = n' + 1 := ⟨n - 1, by omega⟩
    have ec : ci (nI n' - nI j) = n' - j := by rw [pk_sub (by omega)]; exact nI_clamp (by omega)
    rw [nI_pred, ej, ec]
    have := hk j (by omega)
    rw [Nat.add_sub_cancel] at this
    exact ⟨this, h.thr⟩
theorem sp_told {σ τ : Mem} (h : Z σ τ) (k : Int32) : cpTold σ k = (mpTold τ k).1 ∧ Z σ (mpTold τ k).2 := by
  unfold cpTold mpTold
  rw [mIn_eq]
  by_cases c1 : inR k 0 7 = 0
  · rw [if_pos c1, if_pos c1]; exact ⟨rfl, h.thr⟩
  · rw [if_neg c1, if_neg c1]
    obtain ⟨j, hj, rfl⟩ := vp_in_of (inR_in (N := 8) (by decide) c1) (by decide)
    have ej : ci (nI j) = j := nI_clamp (by omega)
    rw [ej]
    obtain ⟨g1, g2, g3, g4, g5⟩ := h.1.2.2.2.2.2.1
    by_cases c7 : j = 7
    · rw [if_pos (by rw [c7]; rfl), c7]; exact ⟨g2, h.thr⟩
    · have c7' : ¬ nI j = 7 := fun z => c7 ((nI_eq (b := 7) (by omega) (by decide)).mp z)
      rw [if_neg c7']
      by_cases c6 : j = 6
      · rw [if_pos (by rw [c6]; rfl), c6]; exact ⟨g3, h.thr⟩
      · have c6' : ¬ nI j = 6 := fun z => c6 ((nI_eq (b := 6) (by omega) (by decide)).mp z)
        rw [if_neg c6']
        have ec : ci (nI j + 1) = j + 1 := by rw [nI_1]; exact nI_clamp (by omega)
        rw [ec]
        exact ⟨g1 j (by omega), h.thr⟩
theorem sp_trace {σ τ : Mem} (h : Z σ τ) (k : Int32) : cpTrace σ k = (mpTrace τ k).1 ∧ Z σ (mpTrace τ k).2 := by
  unfold cpTrace mpTrace
  rw [mIn_eq, mIn_eq]
  obtain ⟨-, -, x, hx, hO⟩ := id h
  obtain ⟨n, li, en, -, hli, hn⟩ := hO.1
  obtain ⟨g1, g2, g3, g4, g5⟩ := h.1.2.2.2.2.2.1
  have en' : τ 14 7 = nI n := g2.symm.trans en
  rw [en, en']
  have main : ∀ m : Nat, m ≤ 400 → m ≤ n → (if inR k 0 (nI m - 1) = 0 then (-4) else σ 9 (ci k)) = (if inR k 0 (nI m - 1) = 0 then ((-4), mset τ 0 0 0) else (τ 15 (ci k), mset τ 0 0 0)).1 ∧ Z σ (if inR k 0 (nI m - 1) = 0 then ((-4), mset τ 0 0 0) else (τ 15 (ci k), mset τ 0 0 0)).2 := by
    intro m hm hmn
    by_cases c1 : inR k 0 (nI m - 1) = 0
    · rw [if_pos c1, if_pos c1]; exact ⟨rfl, h.thr⟩
    · rw [if_neg c1, if_neg c1]
      obtain ⟨b1, b2⟩ := inR_k (N := 400) hm (by decide) c1
      obtain ⟨j, hj, rfl⟩ := vp_in_of b1 (by decide)
      rw [nI_toInt (by omega)] at b2
      have ej : ci (nI j) = j := nI_clamp (by omega)
      rw [ej]
      exact ⟨g4 j hj (by rw [en']; exact nI_lt (by omega) (by omega)), h.thr⟩
  by_cases c400 : (400 : Int32) ≤ nI n
  · have hn4 : 400 ≤ n := (nI_leI (a := 400) (by decide) (by omega)).mp c400
    rw [if_pos c400]
    have hh := main 400 (by omega) hn4
    by_cases c4 : (400 : Int32) < nI n
    · rw [if_pos c4]; exact hh
    · rw [if_neg c4]
      have : n = 400 := by
        have : ¬ 400 < n := fun z => c4 ((nI_ltI (a := 400) (by decide) (by omega)).mpr z)
        omega
      subst this
      exact hh
  · have hn4 : n < 400 := Nat.not_le.mp fun z => c400 ((nI_leI (a := 400) (by decide) (by omega)).mpr z)
    have c4' : ¬ (400 : Int32) < nI n := fun z => absurd ((nI_ltI (a := 400) (b := n) (by decide) (by omega)).mp z) (by omega)
    rw [if_neg c400, if_neg c4']
    exact main n (by omega) (by omega)
theorem sp_noted {σ τ : Mem} (h : Z σ τ) (k : Int32) : cpNoted σ k = (mpNoted τ k).1 ∧ Z σ (mpNoted τ k).2 := by
  unfold cpNoted mpNoted
  rw [mIn_eq, mIn_eq]
  obtain ⟨-, -, x, hx, hO⟩ := id h
  obtain ⟨n, hn, en⟩ := hO.2.1.1
  obtain ⟨g1, g2, g3, g4, g5⟩ := h.1.2.2.2.2.2.1
  have en' : τ 14 6 = nI n := g3.symm.trans en
  rw [en, en']
  have main : (if inR k 0 (nI n - 1) = 0 then (-4) else σ 10 (ci k)) = (if inR k 0 (nI n - 1) = 0 then ((-4), mset τ 0 0 0) else (τ 16 (ci k), mset τ 0 0 0)).1 ∧ Z σ (if inR k 0 (nI n - 1) = 0 then ((-4), mset τ 0 0 0) else (τ 16 (ci k), mset τ 0 0 0)).2 := by
    by_cases c1 : inR k 0 (nI n - 1) = 0
    · rw [if_pos c1, if_pos c1]; exact ⟨rfl, h.thr⟩
    · rw [if_neg c1, if_neg c1]
      obtain ⟨b1, b2⟩ := inR_k (N := 24) hn (by decide) c1
      obtain ⟨j, hj, rfl⟩ := vp_in_of b1 (by decide)
      rw [nI_toInt (by omega)] at b2
      have ej : ci (nI j) = j := nI_clamp (by omega)
      rw [ej]
      exact ⟨g5 j hj (by rw [en']; exact nI_lt (by omega) (by omega)), h.thr⟩
  by_cases c24 : (24 : Int32) ≤ nI n
  · have : n = 24 := by
      have := (nI_leI (a := 24) (by decide) (by omega)).mp c24
      omega
    subst this
    rw [if_pos c24]
    exact main
  · rw [if_neg c24]
    exact main
theorem sp_drops {σ τ : Mem} (h : Z σ τ) (v : Int32) : cpDrops σ v = (mpDrops τ v).1 ∧ Z σ (mpDrops τ v).2 := by
  unfold cpDrops mpDrops
  rw [mIn_eq]
  by_cases c1 : inR v 0 7 = 0
  · rw [if_pos c1, if_pos c1]; exact ⟨rfl, h.thr⟩
  · rw [if_neg c1, if_neg c1]
    obtain ⟨j, hj, rfl⟩ := vp_in_of (inR_in (N := 8) (by decide) c1) (by decide)
    have ej : ci (nI j) = j := nI_clamp (by omega)
    rw [ej]
    unfold orN
    rcases h.1.1 j hj with ⟨a1, a2⟩ | ⟨a1, a2, n, hn, a3⟩
    · rw [if_pos a1, if_pos a2]; exact ⟨rfl, h.thr⟩
    · rw [if_neg (by rw [a2, a3]; intro z; have := congrArg Int32.toInt z; rw [nI_toInt (by omega)] at this; have hm1 : ((-1 : Int32)).toInt = -1 := by decide
                     omega), if_neg (by rw [a1]; decide)]
      exact ⟨a2, h.thr⟩
theorem sp_sumF {σ τ : Mem} (h : Z σ τ) : ∀ (n k : Nat) (a : Int32), k + n = 8 → cSumF σ n k a = mSumF τ n k a
  | 0, k, a, _ => rfl
  | n + 1, k, a, hk => by
    rw [cSumF_succ, mSumF_succ]
    have e : (if σ 1 k = (-1) then a else a + σ 1 k) = a + (if τ 1 k = 0 then 0 else τ 2 k) := by
      rcases h.1.1 k (by omega) with ⟨a1, a2⟩ | ⟨a1, a2, n, hn, a3⟩
      · rw [if_pos a1, if_pos a2]
        exact (Int32.add_zero a).symm
      · rw [if_neg (by rw [a2, a3]; intro z; have := congrArg Int32.toInt z; rw [nI_toInt (by omega)] at this; have hm1 : ((-1 : Int32)).toInt = -1 := by decide
                       omega), if_neg (by rw [a1]; decide), a2]
    rw [e]
    exact sp_sumF h n (k + 1) _ (by omega)
theorem sp_sum {σ τ : Mem} (h : Z σ τ) : cSumF σ 8 0 0 = (mpSum τ).1 ∧ Z σ (mpSum τ).2 := ⟨sp_sumF h 8 0 0 rfl, h.thr⟩
theorem sp_run {σ τ : Mem} (h : Z σ τ) (fi la wr : Int32) : (cpRun σ fi la wr).1 = (mpRun τ fi la wr).1 ∧ Z (cpRun σ fi la wr).2 (mpRun τ fi la wr).2 := by
  unfold cpRun mpRun mIsB
  rw [mIn_eq, mIn_eq]
  by_cases c1 : inR fi 0 3 = 0
  · rw [if_pos c1, if_pos c1]; exact ⟨rfl, h.thr⟩
  rw [if_neg c1, if_neg c1]
  have hfi := inR_T c1
  have h0 : (0 : Int32).toInt = 0 := by decide
  have h3 : (3 : Int32).toInt = 3 := by decide
  by_cases c2 : inR la fi 3 = 0
  · rw [if_pos c2]
    by_cases c3 : inR la 0 3 = 0
    · rw [if_pos c3]; exact ⟨rfl, h.thr⟩
    · rw [if_neg c3]
      have hla := inR_T c3
      have c4 : ¬ fi ≤ la := by
        intro q
        have q' := Int32.le_iff_toInt_le.mp q
        unfold inR at c2
        rw [if_neg (by rw [Int32.lt_iff_toInt_lt]; omega), if_neg (by rw [Int32.lt_iff_toInt_lt]; omega)] at c2
        exact absurd c2 (by decide)
      rw [if_neg c4]; exact ⟨rfl, h.thr⟩
  · rw [if_neg c2]
    have hla := inR_T c2
    have c3 : ¬ inR la 0 3 = 0 := by
      unfold inR
      rw [if_neg (by rw [Int32.lt_iff_toInt_lt]; omega), if_neg (by rw [Int32.lt_iff_toInt_lt]; omega)]
      decide
    have c4 : fi ≤ la := Int32.le_iff_toInt_le.mpr (by omega)
    rw [if_neg c3, if_pos c4]
    have hfi4 := inR_in (N := 4) (by decide) c1
    have hb := ci_lt hfi4
    obtain ⟨hS, -, x, hx, hO⟩ := id h
    have hO1 := (rOK_logBegin hO.2.2).le (show 0 ≤ 14 * ci fi by omega)
    obtain ⟨h1, h2, h3, h4, h5, h6, h7⟩ := hS
    have c : ∀ i : Nat, i ≠ 7 → i ≠ 8 → (cLogBegin σ) i = σ i := fun i a b => by unfold cLogBegin; rw [mset_nc a, mset_nc a, mset_nc a, mset_nc b, mset_nc b, mset_nc b, mset_nc b, mset_nc b, mset_nc b]
    have dd : ∀ i : Nat, i ≠ 0 → i ≠ 14 → (mReset τ) i = τ i := fun i a b => by unfold mReset; rw [mset_nc a, mset_nc b, mset_nc b, mset_nc b, mset_nc b, mset_nc b, mset_nc b, mset_nc b, mset_nc b, mset_nc a]
    have hS1 : S (cLogBegin σ) (mReset τ) := by
      refine ⟨?_, ⟨fun b hb => ?_, fun q hq => ?_⟩, fun t ht => ?_, fun k hk => ?_, ?_, ?_, ?_⟩
      · rw [c 1 (by decide) (by decide), dd 1 (by decide) (by decide), dd 2 (by decide) (by decide)]; exact h1
      · rw [c (12 + b) (by omega) (by omega), dd 4 (by decide) (by decide), dd 3 (by decide) (by decide)]; exact h2.1 b hb
      · rw [c (26 + q) (by omega) (by omega), c (50 + q) (by omega) (by omega), c (74 + q) (by omega) (by omega), dd 5 (by decide) (by decide), dd 6 (by decide) (by decide), dd 7 (by decide) (by decide), dd 8 (by decide) (by decide)]; exact h2.2 q hq
      · rw [c (20 + t) (by omega) (by omega), dd 9 (by decide) (by decide), dd 10 (by decide) (by decide), dd 11 (by decide) (by decide)]; exact h3 t ht
      · rw [c 4 (by decide) (by decide), dd 13 (by decide) (by decide)]; exact h4 k hk
      · rw [c 5 (by decide) (by decide), c 6 (by decide) (by decide), dd 12 (by decide) (by decide)]; exact h5.of rfl rfl rfl rfl rfl
      · refine ⟨fun k hk => ?_, rfl, rfl, fun k hk hlt => ?_, fun k hk hlt => ?_⟩
        · rcases (show k = 0 ∨ k = 1 ∨ k = 2 ∨ k = 3 ∨ k = 4 ∨ k = 5 by omega) with rfl | rfl | rfl | rfl | rfl | rfl <;> rfl
        · exact absurd hlt (nI_pos (by omega))
        · exact absurd hlt (nI_pos (by omega))
      · exact h7.of fun i a b => dd i (by omega) (by omega)
    exact sim_bats (inR_la c1 c2) 5 (cLogBegin σ) (mReset τ) (ci fi) (by omega) (by omega) hS1 ⟨rfl, rfl⟩ hO1 ⟨0, by omega, rfl⟩
