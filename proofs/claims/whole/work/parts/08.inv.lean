/-! What a run keeps: bounds of the log's counters and of the box (rOK x), and the rounds and batches as they are (kR, cR). -/
def evB (σ : Mem) (x : Nat) : Prop := ∃ k li : Nat, σ 7 2 = nI k ∧ σ 8 5 = nI li ∧ li ≤ 200 ∧ k ≤ 2 * li + x
def lgK (σ : Mem) : Prop := (∃ k : Nat, k ≤ 24 ∧ σ 7 4 = nI k) ∧ ∃ k : Nat, k ≤ 4 ∧ σ 7 6 = nI k
def bxK (σ : Mem) : Prop := σ 5 2 = (-4) ∨ ∃ k : Nat, k ≤ 18 ∧ σ 5 2 = nI k
def rOK (x : Nat) (σ : Mem) : Prop := evB σ x ∧ lgK σ ∧ bxK σ
def cR (σ : Mem) : Prop := (∀ q : Nat, q < 24 → (∃ k : Nat, k ≤ 8 ∧ σ (26 + q) 2 = nI k) ∧ (∃ v : Nat, v ≤ 9 ∧ σ (26 + q) 3 = nI v) ∧ ∀ k : Nat, k < 8 → ∃ kd j : Nat, kd < 18 ∧ j ≤ 200 ∧ σ (50 + q) k = nI kd ∧ σ (74 + q) k = nI j ∧ (16 ≤ kd → j < 4)) ∧ ∀ b : Nat, b < 4 → ∃ k : Nat, k ≤ 6 ∧ σ (12 + b) 1 = nI k
/-- rounds and batches are the same -/
def kR (σ σ' : Mem) : Prop := ∀ i : Nat, ((12 ≤ i ∧ i < 20) ∨ 26 ≤ i) → σ' i = σ i
theorem kR.rf (σ : Mem) : kR σ σ := fun _ _ => rfl
theorem kR.tr {σ σ1 σ2 : Mem} (h1 : kR σ σ1) (h2 : kR σ1 σ2) : kR σ σ2 := fun i hi => (h2 i hi).trans (h1 i hi)
theorem kR.set {σ σ1 : Mem} (h : kR σ σ1) {i k : Nat} {v : Int32} (hi : i < 12 ∨ (20 ≤ i ∧ i < 26)) : kR σ (mset σ1 i k v) := fun j hj => by
  rw [mset_nc (by omega)]
  exact h j hj
theorem kR.cR {σ σ' : Mem} (h : kR σ σ') (hR : cR σ) : cR σ' := by
  refine ⟨fun q hq => ?_, fun b hb => ?_⟩
  · obtain ⟨h1, h2, h3⟩ := hR.1 q hq
    rw [h (26 + q) (by omega), h (50 + q) (by omega), h (74 + q) (by omega)]
    exact ⟨h1, h2, h3⟩
  · rw [h (12 + b) (by omega)]
    exact hR.2 b hb
theorem rOK.le {x y : Nat} {σ : Mem} (h : rOK x σ) (hxy : x ≤ y) : rOK y σ := by
  obtain ⟨⟨k, li, h1, h2, h3, h4⟩, h5⟩ := h
  exact ⟨⟨k, li, h1, h2, h3, by omega⟩, h5⟩
theorem rOK.of {x : Nat} {σ σ' : Mem} (h : rOK x σ) (h7 : σ' 7 = σ 7) (h8 : σ' 8 = σ 8) (h5 : σ' 5 2 = σ 5 2) : rOK x σ' := by
  obtain ⟨h1, h2, h3⟩ := h
  refine ⟨?_, ?_, ?_⟩
  · unfold evB; rw [h7, h8]; exact h1
  · unfold lgK; rw [h7]; exact h2
  · unfold bxK; rw [h5]; exact h3
theorem rOK.set {x : Nat} {σ : Mem} (h : rOK x σ) {i k : Nat} {v : Int32} (hi : i ≠ 7 ∧ i ≠ 8 ∧ (i ≠ 5 ∨ k ≠ 2)) : rOK x (mset σ i k v) :=
  h.of (mset_nc (Ne.symm hi.1)) (mset_nc (Ne.symm hi.2.1)) (mset_ne (by omega))
theorem rOK.chain {x : Nat} {σ : Mem} (h : rOK x σ) {k : Nat} (hk : k ≤ 4) : rOK x (mset σ 7 6 (nI k)) := by
  obtain ⟨⟨a, b, h1, h2, h3⟩, h4, h5⟩ := h
  refine ⟨⟨a, b, ?_, ?_, h3⟩, ⟨?_, k, hk, mset_self _ _ _ _⟩, ?_⟩
  · rw [mset_ne (by omega)]; exact h1
  · rw [mset_ne (by omega)]; exact h2
  · rw [mset_ne (by omega)]; exact h4.1
  · unfold bxK; rw [mset_ne (by omega)]; exact h5
theorem rOK.ec {x : Nat} {σ : Mem} (h : rOK x σ) (hx : x ≤ 1000) : ¬ (400 : Int32) ≤ σ 7 2 → vp_in (σ 7 2) 400 := by
  obtain ⟨⟨k, li, h1, h2, h3, h4⟩, -⟩ := h
  intro hc
  rw [h1] at hc ⊢
  exact vp_in_nI (Nat.not_le.mp fun q => hc ((nI_leI (a := 400) (by decide) (by omega)).mpr q)) (by decide)
theorem rOK_mark {x ev : Nat} {σ : Mem} (h : rOK x σ) (hx : x ≤ 900) (h5 : ev ≠ 5) : rOK (x + 1) (cMark σ ev) := by
  obtain ⟨⟨k, li, h1, h2, h3, h4⟩, h6, h7⟩ := h
  have e1 : ∀ σ1 : Mem, σ1 7 2 = nI (k + 1) → σ1 8 5 = σ 8 5 → σ1 7 4 = σ 7 4 → σ1 7 6 = σ 7 6 → σ1 5 2 = σ 5 2 → rOK (x + 1) σ1 := by
    intro σ1 a1 a2 a3 a4 a5
    refine ⟨⟨k + 1, li, a1, a2.trans h2, h3, by omega⟩, ?_, ?_⟩
    · unfold lgK; rw [a3, a4]; exact h6
    · unfold bxK; rw [a5]; exact h7
  unfold cMark
  split
  · refine e1 _ ?_ ?_ ?_ ?_ ?_
    · rw [mset_self, h1, nI_1]
    · rw [mset_ne (by omega), mset_ne (by omega)]
    · rw [mset_ne (by omega), mset_ne (by omega)]
    · rw [mset_ne (by omega), mset_ne (by omega)]
    · rw [mset_ne (by omega), mset_ne (by omega)]
  · refine e1 _ ?_ ?_ ?_ ?_ ?_
    · rw [mset_self, h1, nI_1]
    · rw [mset_ne (by omega), mset_ne (by omega), mset_ne (by omega)]
    · rw [mset_ne (by omega), mset_ne (by omega), mset_ne (by omega)]
    · rw [mset_ne (by omega), mset_ne (by omega), mset_ne (by omega)]
    · rw [mset_ne (by omega), mset_ne (by omega), mset_ne (by omega)]
theorem rOK_lit {x : Nat} {σ : Mem} (h : rOK (x + 1) σ) (hx : x ≤ 900) (hl : σ 8 5 < 200) : rOK x (cMark σ 5) := by
  obtain ⟨⟨k, li, h1, h2, h3, h4⟩, h6, h7⟩ := h
  have hli : li < 200 := by
    rw [h2] at hl
    exact (nI_ltI (b := 200) (by omega) (by decide)).mp hl
  have e1 : ∀ σ1 : Mem, σ1 7 2 = nI (k + 1) → σ1 8 5 = nI (li + 1) → σ1 7 4 = σ 7 4 → σ1 7 6 = σ 7 6 → σ1 5 2 = σ 5 2 → rOK x σ1 := by
    intro σ1 a1 a2 a3 a4 a5
    refine ⟨⟨k + 1, li + 1, a1, a2, by omega, by omega⟩, ?_, ?_⟩
    · unfold lgK; rw [a3, a4]; exact h6
    · unfold bxK; rw [a5]; exact h7
  unfold cMark
  split
  · refine e1 _ ?_ ?_ ?_ ?_ ?_
    · rw [mset_self, h1, nI_1]
    · rw [mset_ne (by omega), mset_self, h2, nI_1]
    · rw [mset_ne (by omega), mset_ne (by omega)]
    · rw [mset_ne (by omega), mset_ne (by omega)]
    · rw [mset_ne (by omega), mset_ne (by omega)]
  · refine e1 _ ?_ ?_ ?_ ?_ ?_
    · rw [mset_self, h1, nI_1]
    · rw [mset_ne (by omega), mset_ne (by omega), mset_self, h2, nI_1]
    · rw [mset_ne (by omega), mset_ne (by omega), mset_ne (by omega)]
    · rw [mset_ne (by omega), mset_ne (by omega), mset_ne (by omega)]
    · rw [mset_ne (by omega), mset_ne (by omega), mset_ne (by omega)]
theorem kR_mark (σ : Mem) (ev : Nat) : kR σ (cMark σ ev) := by
  unfold cMark
  split
  · exact ((kR.rf σ).set (by omega)).set (by omega)
  · exact (((kR.rf σ).set (by omega)).set (by omega)).set (by omega)
/-- what each step keeps: the bounds, the rounds, and the answer is a kind of way -/
def sOK (σ : Mem) (r : Nat × Mem) : Prop := r.1 < 7 ∧ kR σ r.2 ∧ ∀ x : Nat, rOK x σ → rOK x r.2
theorem sOK_same (σ : Mem) {k : Nat} (hk : k < 7) : sOK σ (k, σ) := ⟨hk, kR.rf σ, fun _ h => h⟩
theorem sOK_fail (σ : Mem) (n : Int32) : sOK σ (cFail σ n) := by
  have e1 : ∀ (a b : Int32) (k : Nat), k ≤ 4 → sOK σ (5, mset (mset (mset σ 11 0 a) 11 1 b) 7 6 (nI k)) := fun a b k hk =>
    ⟨by show (5 : Nat) < 7; decide, (((kR.rf σ).set (by omega)).set (by omega)).set (by omega), fun x h => ((h.set (by omega)).set (by omega)).chain hk⟩
  unfold cFail
  split
  · exact e1 _ _ 1 (by decide)
  · split
    · exact e1 _ _ 1 (by decide)
    · exact e1 _ _ 2 (by decide)
theorem sOK_failLaid (σ : Mem) (n : Int32) : sOK σ (cFailLaid σ n) :=
  ⟨by show (5 : Nat) < 7; decide, ((kR.rf σ).set (by omega)).set (by omega), fun x h => (h.set (by omega)).chain (k := 1) (by decide)⟩
theorem sOK_set (σ : Mem) {i k : Nat} {v : Int32} (hi : i < 12 ∨ (20 ≤ i ∧ i < 26)) (h2 : i ≠ 7 ∧ i ≠ 8 ∧ (i ≠ 5 ∨ k ≠ 2)) : sOK σ (0, mset σ i k v) := ⟨by show (0 : Nat) < 7; decide, (kR.rf σ).set hi, fun _ h => h.set h2⟩
theorem sOK_add (σ : Mem) (v : Nat) (n : Int32) : sOK σ (cAdd σ v n) := by
  unfold cAdd
  split
  · exact sOK_set σ (by omega) (by omega)
  · exact sOK_fail σ 1
theorem sOK_draw (σ : Mem) (v : Nat) (n : Int32) : sOK σ (cDraw σ v n) := by
  unfold cDraw
  split
  · exact sOK_set σ (by omega) (by omega)
  · exact sOK_fail σ 2
theorem sOK_share (σ : Mem) (v : Nat) (n : Int32) : sOK σ (cShare σ v n) := by
  unfold cShare
  split
  · exact sOK_fail σ 3
  · exact sOK_set σ (by omega) (by omega)
theorem sOK_pour (σ : Mem) (v t : Nat) : sOK σ (cPour σ v t) := by
  unfold cPour
  split
  · split
    · exact sOK_fail σ 5
    · split
      · exact sOK_same σ (by decide)
      · split
        · exact ⟨by show (0 : Nat) < 7; decide, ((kR.rf σ).set (by omega)).set (by omega), fun _ h => (h.set (by omega)).set (by omega)⟩
        · exact sOK_fail σ 1
  · exact sOK_fail σ 4
theorem nI6 {t : Nat} (ht : t ≤ 200) (h : nI t < 6) : t < 6 := (nI_ltI (b := 6) (by omega) (by decide)).mp h
theorem sOK_use (σ : Mem) {t : Nat} (ht : t ≤ 200) : sOK σ (cUse σ t) := by
  unfold cUse
  split
  · rename_i h
    have h6 := nI6 ht h
    split
    · exact sOK_fail σ 5
    · exact sOK_set σ (by omega) (by omega)
  · exact sOK_fail σ 4
theorem sOK_grip (σ : Mem) {t : Nat} (ht : t ≤ 200) (n : Int32) : sOK σ (cGrip σ t n) := by
  unfold cGrip
  split
  · rename_i h
    have h6 := nI6 ht h
    split
    · exact sOK_fail σ 7
    · split
      · exact sOK_fail σ 5
      · exact sOK_set σ (by omega) (by omega)
  · exact sOK_fail σ 4
theorem sOK_put (σ : Mem) {t pl : Nat} (ht : t ≤ 200) : sOK σ (cPut σ t pl) := by
  unfold cPut
  split
  · split
    · exact sOK_fail σ 5
    · split
      · split
        · exact sOK_fail σ 8
        · split
          · exact sOK_set σ (by omega) (by omega)
          · exact sOK_set σ (by omega) (by omega)
      · exact sOK_fail σ 4
  · exact sOK_fail σ 4
theorem sOK_vial (σ : Mem) (kd j v : Nat) (ag : Int32) : sOK σ (cVial σ kd j v ag) := by
  unfold cVial
  split
  · exact sOK_add σ v _
  split
  · exact sOK_draw σ v _
  split
  · exact sOK_share σ v _
  split
  · exact sOK_pour σ v j
  split
  · exact sOK_same σ (by decide)
  split
  · exact sOK_same σ (by decide)
  split
  · exact ⟨by show (4 : Nat) < 7; decide, (kR.rf σ).set (by omega), fun _ h => h.set (by omega)⟩
  split
  · exact sOK_fail σ _
  split
  · split
    · exact sOK_same σ (by decide)
    · exact sOK_same σ (by decide)
  split
  · exact sOK_same σ (by decide)
  · exact sOK_same σ (by decide)
/-- a memory that differs from σ in the stock and the box alone -/
def sB (σ σ' : Mem) : Prop := kR σ σ' ∧ ∀ x : Nat, rOK x σ → rOK x σ'
theorem sB.fail {σ σ' : Mem} (h : sB σ σ') (n : Int32) : sOK σ (cFail σ' n) := by
  obtain ⟨h1, h2, h3⟩ := sOK_fail σ' n
  exact ⟨h1, h.1.tr h2, fun x hx => h3 x (h.2 x hx)⟩
theorem sB.on {σ σ' : Mem} (h : sB σ σ') : sOK σ (0, σ') := ⟨by show (0 : Nat) < 7; decide, h.1, h.2⟩
theorem sB_rack (σ : Mem) (z : Int32) : sB σ (cNewRack σ z).2 := by
  unfold cNewRack
  split
  · exact ⟨(kR.rf σ).set (by omega), fun _ h => h.set (by omega)⟩
  · exact ⟨kR.rf σ, fun _ h => h⟩
theorem sB_grid (σ : Mem) (z w : Int32) : sB σ (cNewGrid σ z w).2 := by
  unfold cNewGrid
  split
  · exact ⟨kR.rf σ, fun _ h => h⟩
  split
  · exact ⟨((kR.rf σ).set (by omega)).set (by omega), fun _ h => (h.set (by omega)).set (by omega)⟩
  · exact ⟨kR.rf σ, fun _ h => h⟩
theorem sB_clr (σ : Mem) : ∀ k : Nat, sB σ (cClr σ k)
  | 0 => ⟨kR.rf σ, fun _ h => h⟩
  | k + 1 => ⟨(sB_clr σ k).1.set (by omega), fun x h => ((sB_clr σ k).2 x h).set (by omega)⟩
theorem rOK.box {x : Nat} {σ : Mem} (h : rOK x σ) {k : Nat} (hk : k ≤ 18) : rOK x (mset σ 5 2 (nI k)) := by
  obtain ⟨⟨a, b, h1, h2, h3⟩, h4, h5⟩ := h
  refine ⟨⟨a, b, ?_, ?_, h3⟩, ⟨?_, ?_⟩, Or.inr ⟨k, hk, mset_self _ _ _ _⟩⟩
  · rw [mset_ne (by omega)]; exact h1
  · rw [mset_ne (by omega)]; exact h2
  · rw [mset_ne (by omega)]; exact h4.1
  · rw [mset_ne (by omega)]; exact h4.2
theorem sB_box (σ : Mem) (z w : Int32) : sB σ (cNewBox σ z w).2 := by
  unfold cNewBox
  split
  · exact ⟨kR.rf σ, fun _ h => h⟩
  split
  · rename_i h1 h2
    obtain ⟨k, hk, rfl⟩ := nI_of2 (M := 18) (n := 18) (by decide) h1 h2
    exact ⟨((sB_clr σ _).1.set (by omega)).set (by omega), fun x h => (((sB_clr σ _).2 x h).box hk).set (by omega)⟩
  · exact ⟨kR.rf σ, fun _ h => h⟩
theorem sOK_bench (σ : Mem) {kd j : Nat} (v : Nat) (hj : j ≤ 200) : sOK σ (cBench σ kd j v) := by
  unfold cBench
  split
  · exact sOK_use σ hj
  split
  · exact sOK_grip σ hj _
  split
  · split
    · exact (sB_rack σ _).fail 6
    · exact (sB_rack σ _).on
  split
  · split
    · exact (sB_box σ _ _).fail 6
    · exact (sB_box σ _ _).on
  split
  · split
    · exact (sB_grid σ _ _).fail 6
    · exact (sB_grid σ _ _).on
  split
  · exact sOK_put σ (by omega)
  split
  · split
    · exact sOK_fail σ 5
    · exact sOK_add σ v _
  split
  · exact sOK_fail σ 5
  · exact sOK_failLaid σ _
theorem rOK.bx {x : Nat} {σ : Mem} (h : rOK x σ) : ∀ pl : Nat, pl ≤ 200 → nI pl < σ 5 2 → pl < 18 := by
  intro pl hpl hc
  rcases h.2.2 with e | ⟨k, hk, e⟩
  · rw [e] at hc
    exact absurd hc (by
      intro q
      have h1 := Int32.lt_iff_toInt_lt.mp q
      rw [nI_toInt (by omega)] at h1
      have h2 : ((-4 : Int32)).toInt = -4 := by decide
      omega)
  · rw [e] at hc
    have := (nI_ltI (by omega) (by omega)).mp hc
    omega
theorem rOK.cl {x : Nat} {σ : Mem} (h : rOK x σ) : ¬ (4 : Int32) ≤ σ 7 6 → vp_in (σ 7 6) 4 := by
  obtain ⟨-, ⟨-, k, hk, e⟩, -⟩ := h
  intro hc
  rw [e] at hc ⊢
  exact vp_in_nI (Nat.not_le.mp fun q => hc ((nI_leI (a := 4) (by decide) (by omega)).mpr q)) (by decide)
theorem rOK.cl1 {x : Nat} {σ : Mem} (h : rOK x σ) : ¬ σ 7 6 ≤ 0 → vp_in (σ 7 6 - 1) 4 := by
  obtain ⟨-, ⟨-, k, hk, e⟩, -⟩ := h
  intro hc
  rw [e] at hc ⊢
  cases k with
  | zero => exact absurd (by rw [nI_0]; exact Int32.le_refl _) hc
  | succ k =>
    rw [nI_pred]
    exact vp_in_nI (by omega) (by decide)
theorem rOK.nc {x : Nat} {σ : Mem} (h : rOK x σ) : ¬ (24 : Int32) ≤ σ 7 4 → vp_in (σ 7 4) 24 := by
  obtain ⟨-, ⟨⟨k, hk, e⟩, -⟩, -⟩ := h
  intro hc
  rw [e] at hc ⊢
  exact vp_in_nI (Nat.not_le.mp fun q => hc ((nI_leI (a := 24) (by decide) (by omega)).mpr q)) (by decide)
theorem sB_inStead (σ : Mem) (n : Int32) : kR σ (cInStead σ n) ∧ ∀ x : Nat, rOK x σ → rOK x (cInStead σ n) := by
  unfold cInStead
  split
  · exact ⟨kR.rf σ, fun _ h => h⟩
  · rename_i hc
    refine ⟨((kR.rf σ).set (by omega)).set (by omega), fun x h => ?_⟩
    obtain ⟨k, hk, e⟩ := h.2.1.2
    rw [e, nI_1]
    rw [e] at hc
    have hk4 : k < 4 := Nat.not_le.mp fun q => hc ((nI_leI (a := 4) (by decide) (by omega)).mpr q)
    exact (h.set (by omega)).chain (by omega)
theorem sB_note (σ : Mem) : kR σ (cNote σ) ∧ ∀ x : Nat, rOK x σ → rOK x (cNote σ) := by
  unfold cNote
  split
  · exact ⟨(kR.rf σ).set (by omega), fun x h => h.chain (k := 0) (by decide)⟩
  split
  · exact ⟨(kR.rf σ).set (by omega), fun x h => h.chain (k := 0) (by decide)⟩
  · rename_i hc
    refine ⟨(((kR.rf σ).set (by omega)).set (by omega)).set (by omega), fun x h => ?_⟩
    refine rOK.chain (k := 0) ?_ (by decide)
    obtain ⟨⟨a, b, h1, h2, h3⟩, ⟨⟨k, hk, e⟩, h4⟩, h5⟩ := h.set (i := 10) (k := ci (σ 7 4)) (v := σ 11 (ci ((σ 7 6) - 1))) (by omega)
    rw [mset_ne (by omega)] at e
    rw [e] at hc
    have hk4 : k < 24 := Nat.not_le.mp fun q => hc ((nI_leI (a := 24) (by decide) (by omega)).mpr q)
    refine ⟨⟨a, b, ?_, ?_, h3⟩, ⟨⟨k + 1, by omega, ?_⟩, ?_⟩, ?_⟩
    · rw [mset_ne (by omega)]; exact h1
    · rw [mset_ne (by omega)]; exact h2
    · rw [mset_self, e, nI_1]
    · rw [mset_ne (by omega)]; exact h4
    · unfold bxK; rw [mset_ne (by omega)]; exact h5
/-- a step of a kind, by its two families -/
def cStep (σ : Mem) (kd j v : Nat) (ag : Int32) : Nat × Mem := if kd < 10 then cVial σ kd j v ag else cBench σ kd j v
theorem sOK_step (σ : Mem) {kd j : Nat} (v : Nat) (ag : Int32) (hj : j ≤ 200) : sOK σ (cStep σ kd j v ag) := by
  unfold cStep
  split
  · exact sOK_vial σ kd j v ag
  · exact sOK_bench σ v hj
/-- the step at place nx of round q, with its lamp -/
def cStepAt (q v : Nat) (σ : Mem) (nx : Nat) (ag : Int32) : Nat × Mem :=
  ((cStep (cMark σ 5) (ci (σ (50 + q) nx)) (ci (σ (74 + q) nx)) v ag).1, cMark (cStep (cMark σ 5) (ci (σ (50 + q) nx)) (ci (σ (74 + q) nx)) v ag).2 6)
/-- the steps of round q from place nx on; fu: how many turns are left -/
def cSteps (q v : Nat) : Nat → Mem → Nat → Int32 → Nat × Mem
  | 0, σ, _, _ => (0, σ)
  | fu + 1, σ, nx, ag =>
    if σ (26 + q) 2 ≤ nI nx then (0, σ)
    else if σ 8 5 < 200 then
      (if (cStepAt q v σ nx ag).1 = 2 then cSteps q v fu (cStepAt q v σ nx ag).2 0 (ag + 1)
      else if (cStepAt q v σ nx ag).1 = 0 then cSteps q v fu (cStepAt q v σ nx ag).2 (nx + 1) ag
      else cStepAt q v σ nx ag)
    else (6, σ)
theorem cR_num {σ : Mem} {q nx : Nat} (hR : cR σ) (hq : q < 24) (hnx : nx < 8) : ci (σ (74 + q) nx) ≤ 200 := by
  obtain ⟨kd, j, -, hj, -, e, -⟩ := (hR.1 q hq).2.2 nx hnx
  unfold ci
  rw [e, nI_clamp (by omega)]
  exact hj
theorem cR_nx {σ : Mem} {q nx : Nat} (hR : cR σ) (hq : q < 24) (hnx : nx ≤ 8) (hc : ¬ σ (26 + q) 2 ≤ nI nx) : nx < 8 := by
  obtain ⟨k, hk, e⟩ := (hR.1 q hq).1
  rw [e] at hc
  have h1 : ¬ k ≤ nx := fun h => hc ((nI_leI (by omega) (by omega)).mpr h)
  omega
/-- the step with its lamp: a kind of way, the rounds are the same, the bounds stand -/
theorem sOK_stepAt {q v nx : Nat} {σ : Mem} (ag : Int32) (hj : ci (σ (74 + q) nx) ≤ 200) (hl : σ 8 5 < 200) : (cStepAt q v σ nx ag).1 < 7 ∧ kR σ (cStepAt q v σ nx ag).2 ∧ ∀ x : Nat, x ≤ 900 → rOK (x + 1) σ → rOK (x + 1) (cStepAt q v σ nx ag).2 := by
  obtain ⟨h1, h2, h3⟩ := sOK_step (cMark σ 5) (kd := ci (σ (50 + q) nx)) v ag hj
  exact ⟨h1, ((kR_mark σ 5).tr h2).tr (kR_mark _ 6), fun x hx h => rOK_mark (h3 x (rOK_lit h hx hl)) hx (by decide)⟩
theorem sOK_steps {q v : Nat} (hq : q < 24) : ∀ (fu : Nat) (σ : Mem) (nx : Nat) (ag : Int32), cR σ → nx ≤ 8 → (cSteps q v fu σ nx ag).1 < 7 ∧ kR σ (cSteps q v fu σ nx ag).2 ∧ ∀ x : Nat, x ≤ 900 → rOK (x + 1) σ → rOK (x + 1) (cSteps q v fu σ nx ag).2
  | 0, σ, nx, ag, _, _ => ⟨by show (0 : Nat) < 7; decide, kR.rf σ, fun _ _ h => h⟩
  | fu + 1, σ, nx, ag, hR, hnx => by
    unfold cSteps
    split
    · exact ⟨by show (0 : Nat) < 7; decide, kR.rf σ, fun _ _ h => h⟩
    split
    · rename_i hc hl
      have hnx8 := cR_nx hR hq hnx hc
      obtain ⟨h1, h2, h3⟩ := sOK_stepAt (q := q) (v := v) (nx := nx) (σ := σ) ag (cR_num hR hq hnx8) hl
      split
      · obtain ⟨g1, g2, g3⟩ := sOK_steps (v := v) hq fu (cStepAt q v σ nx ag).2 0 (ag + 1) (h2.cR hR) (by omega)
        exact ⟨g1, h2.tr g2, fun x hx h => g3 x hx (h3 x hx h)⟩
      split
      · obtain ⟨g1, g2, g3⟩ := sOK_steps (v := v) hq fu (cStepAt q v σ nx ag).2 (nx + 1) ag (h2.cR hR) (by omega)
        exact ⟨g1, h2.tr g2, fun x hx h => g3 x hx (h3 x hx h)⟩
      · exact ⟨h1, h2, h3⟩
    · exact ⟨by show (6 : Nat) < 7; decide, kR.rf σ, fun _ _ h => h⟩
