/-! The class's memory σ and the reference's τ tell the same. -/
def sV (a p d : Nat → Int32) : Prop := ∀ v : Nat, v < 8 → (a v = (-1) ∧ p v = 0) ∨ (p v = 1 ∧ a v = d v ∧ ∃ n : Nat, n ≤ 1000 ∧ d v = nI n)
def sBR (σ τ : Mem) : Prop := (∀ b : Nat, b < 4 → σ (12 + b) 1 = τ 4 b ∧ σ (12 + b) 2 = τ 3 b) ∧ ∀ q : Nat, q < 24 → σ (26 + q) 2 = τ 6 q ∧ σ (26 + q) 3 = τ 5 q ∧ ∀ k : Nat, k < 8 → σ (50 + q) k = τ 7 (8 * q + k) ∧ σ (74 + q) k = τ 8 (8 * q + k)
def sT (σ τ : Mem) : Prop := ∀ t : Nat, t < 6 → σ (20 + t) 0 = τ 9 t ∧ σ (20 + t) 1 = τ 10 t ∧ σ (20 + t) 2 = τ 11 t ∧ (τ 9 t = (-1) ∨ τ 9 t = 0 ∨ τ 9 t = 1)
def sz (a b : Int32) : Prop := (a = (-4) ∧ b = (-1)) ∨ ∃ n : Nat, n < 1000 ∧ a = nI n ∧ b = nI n
/-- the stock: s its fields, x its box; f the reference's fields, y its box -/
def sK (s x f y : Nat → Int32) : Prop := sz (s 1) (f 12) ∧ sz (s 2) (f 13) ∧ sz (s 4) (f 16) ∧ (f 16 = (-1) ∨ ∃ n : Nat, n < 1000 ∧ s 5 = nI n ∧ f 17 = nI n) ∧ (f 13 = (-1) ∨ (s 3 = f 14 ∧ (f 14 = 0 ∨ f 14 = 1 ∨ f 14 = 2))) ∧ ∀ k : Nat, k < 18 → nI k < f 13 → sz (x k) (y k)
/-- the log: g its fields, c its counts, e its events, n its notes; t, r, m the reference's -/
def sG (g c e n t r m : Nat → Int32) : Prop := (∀ k : Nat, k < 6 → c (k + 1) = t k) ∧ g 2 = t 7 ∧ g 4 = t 6 ∧ (∀ k : Nat, k < 400 → nI k < t 7 → e k = r k) ∧ ∀ k : Nat, k < 24 → nI k < t 6 → n k = m k
def S (σ τ : Mem) : Prop := sV (σ 1) (τ 1) (τ 2) ∧ sBR σ τ ∧ sT σ τ ∧ (∀ k : Nat, k < 4 → σ 4 k = τ 13 k) ∧ sK (σ 5) (σ 6) (τ 0) (τ 12) ∧ sG (σ 7) (σ 8) (σ 9) (σ 10) (τ 14) (τ 15) (τ 16) ∧ mR τ
theorem sK.of {s x f f' y : Nat → Int32} (h : sK s x f y) (e12 : f' 12 = f 12) (e13 : f' 13 = f 13) (e14 : f' 14 = f 14) (e16 : f' 16 = f 16) (e17 : f' 17 = f 17) : sK s x f' y := by
  unfold sK
  rw [e12, e13, e14, e16, e17]
  exact h
theorem sG.of {g g' c e n t r m : Nat → Int32} (h : sG g c e n t r m) (e2 : g' 2 = g 2) (e4 : g' 4 = g 4) : sG g' c e n t r m := by
  unfold sG
  rw [e2, e4]
  exact h
theorem mR.of {τ τ' : Mem} (h : mR τ) (d : ∀ i : Nat, 3 ≤ i → i ≤ 8 → τ' i = τ i) : mR τ' := kM.mR (σ := τ) (σ' := τ') d h
/-- cells that the relation doesn't speak of -/
theorem S.of {σ τ σ' τ' : Mem} (h : S σ τ) (c : ∀ i : Nat, i ≠ 0 → i ≠ 7 → i ≠ 11 → σ' i = σ i) (c2 : σ' 7 2 = σ 7 2) (c4 : σ' 7 4 = σ 7 4) (d : ∀ i : Nat, i ≠ 0 → i ≠ 17 → τ' i = τ i) (e12 : τ' 0 12 = τ 0 12) (e13 : τ' 0 13 = τ 0 13) (e14 : τ' 0 14 = τ 0 14) (e16 : τ' 0 16 = τ 0 16) (e17 : τ' 0 17 = τ 0 17) : S σ' τ' := by
  obtain ⟨h1, ⟨h2, h2'⟩, h3, h4, h5, h6, h7⟩ := h
  refine ⟨?_, ⟨fun b hb => ?_, fun q hq => ?_⟩, fun t ht => ?_, fun k hk => ?_, ?_, ?_, ?_⟩
  · rw [c 1 (by decide) (by decide) (by decide), d 1 (by decide) (by decide), d 2 (by decide) (by decide)]; exact h1
  · rw [c (12 + b) (by omega) (by omega) (by omega), d 4 (by decide) (by decide), d 3 (by decide) (by decide)]; exact h2 b hb
  · rw [c (26 + q) (by omega) (by omega) (by omega), c (50 + q) (by omega) (by omega) (by omega), c (74 + q) (by omega) (by omega) (by omega), d 5 (by decide) (by decide), d 6 (by decide) (by decide), d 7 (by decide) (by decide), d 8 (by decide) (by decide)]; exact h2' q hq
  · rw [c (20 + t) (by omega) (by omega) (by omega), d 9 (by decide) (by decide), d 10 (by decide) (by decide), d 11 (by decide) (by decide)]; exact h3 t ht
  · rw [c 4 (by decide) (by decide) (by decide), d 13 (by decide) (by decide)]; exact h4 k hk
  · rw [c 5 (by decide) (by decide) (by decide), c 6 (by decide) (by decide) (by decide), d 12 (by decide) (by decide)]; exact h5.of e12 e13 e14 e16 e17
  · rw [c 8 (by decide) (by decide) (by decide), c 9 (by decide) (by decide) (by decide), c 10 (by decide) (by decide) (by decide), d 14 (by decide) (by decide), d 15 (by decide) (by decide), d 16 (by decide) (by decide)]; exact h6.of c2 c4
  · exact h7.of fun i a b => d i (by omega) (by omega)
/-- the failure that goes outwards -/
def chF (σ τ : Mem) : Prop := τ 0 23 = 0 ∧ ((τ 0 25 = 0 ∧ σ 7 6 = 1 ∧ σ 11 0 = τ 0 24) ∨ (τ 0 25 = 1 ∧ σ 7 6 = 2 ∧ σ 11 1 = τ 0 24 ∧ σ 11 0 = 100 + τ 0 24))
def ch0 (σ τ : Mem) : Prop := σ 7 6 = 0 ∧ τ 0 23 = 0
/-- the reasons, told from the innermost and from the outermost -/
def chW (σ τ : Mem) : Prop := ∃ n : Nat, n ≤ 4 ∧ σ 7 6 = nI n ∧ τ 0 23 = nI n ∧ ∀ k : Nat, k < n → σ 11 (n - 1 - k) = τ 17 k
/-- how a step, a round was left: alike, and what must hold behind it -/
def lft (w : Nat) (l : Int32) (σ τ : Mem) : Prop := w < 7 ∧ l = nI w ∧ S σ τ ∧ (w = 5 → chF σ τ) ∧ (w ≠ 5 → ch0 σ τ) ∧ (w = 4 → σ 0 6 = τ 0 27)
theorem inR_38 (n : Int32) : mIn n 3 8 = if n < 3 then 0 else if 8 < n then 0 else 1 := rfl
theorem sim_fail {σ τ : Mem} (h : S σ τ) (h0 : τ 0 23 = 0) (n : Int32) : lft (cFail σ n).1 (mFail τ n).1 (cFail σ n).2 (mFail τ n).2 := by
  have hd : ∀ (i : Nat), i ≠ 0 → i ≠ 17 → (mFail τ n).2 i = τ i := fun i a _ => by
    show (mset (mset τ 0 24 n) 0 25 (mIn n 3 8)) i = τ i
    rw [mset_nc a, mset_nc a]
  have hS : ∀ (a b : Int32) (k : Int32), S (mset (mset (mset σ 11 0 a) 11 1 b) 7 6 k) (mFail τ n).2 := fun a b k => by
    refine h.of (fun i a b c => ?_) ?_ ?_ hd ?_ ?_ ?_ ?_ ?_
    · rw [mset_nc b, mset_nc c, mset_nc c]
    · rw [mset_ne (by decide), mset_ne (by decide), mset_ne (by decide)]
    · rw [mset_ne (by decide), mset_ne (by decide), mset_ne (by decide)]
    all_goals rfl
  have h23 : (mFail τ n).2 0 23 = 0 := h0
  have h24 : (mFail τ n).2 0 24 = n := rfl
  have h25 : (mFail τ n).2 0 25 = mIn n 3 8 := rfl
  unfold cFail
  split
  · rename_i hc
    refine ⟨by show (5 : Nat) < 7; decide, rfl, hS _ _ _, fun _ => ⟨h23, Or.inl ⟨?_, rfl, rfl⟩⟩, fun q => absurd rfl q, fun q => absurd q (by show ¬ (5 : Nat) = 4; decide)⟩
    rw [h25, inR_38, if_pos hc]
  · rename_i hc
    split
    · rename_i hc2
      refine ⟨by show (5 : Nat) < 7; decide, rfl, hS _ _ _, fun _ => ⟨h23, Or.inl ⟨?_, rfl, rfl⟩⟩, fun q => absurd rfl q, fun q => absurd q (by show ¬ (5 : Nat) = 4; decide)⟩
      rw [h25, inR_38, if_neg hc, if_pos hc2]
    · rename_i hc2
      refine ⟨by show (5 : Nat) < 7; decide, rfl, hS _ _ _, fun _ => ⟨h23, Or.inr ⟨?_, rfl, rfl, rfl⟩⟩, fun q => absurd rfl q, fun q => absurd q (by show ¬ (5 : Nat) = 4; decide)⟩
      rw [h25, inR_38, if_neg hc, if_neg hc2]
theorem lft_same {σ τ : Mem} {k : Nat} (hk : k < 7) (h5 : k ≠ 5) (h4 : k ≠ 4) (h : S σ τ) (h0 : ch0 σ τ) : lft k (nI k) σ τ := ⟨hk, rfl, h, fun q => absurd q h5, fun _ => h0, fun q => absurd q h4⟩
theorem lft_on {σ τ σ' τ' : Mem} (h : S σ' τ') (h0 : ch0 σ τ) (e1 : σ' 7 6 = σ 7 6) (e2 : τ' 0 23 = τ 0 23) : lft 0 0 σ' τ' := ⟨by decide, rfl, h, fun q => absurd q (by decide), fun _ => ⟨e1.trans h0.1, e2.trans h0.2⟩, fun q => absurd q (by decide)⟩
