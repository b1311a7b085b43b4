/-- how a round, a batch was left behind what the batch made of it -/
def lfb (w : Nat) (l : Int32) (σ τ : Mem) : Prop := w < 7 ∧ l = nI w ∧ S σ τ ∧ (w = 5 → ∃ n : Nat, n ≤ 3 ∧ σ 7 6 = nI n ∧ τ 0 23 = nI n ∧ ∀ k : Nat, k < n → σ 11 (n - 1 - k) = τ 17 k) ∧ (w ≠ 5 → ch0 σ τ) ∧ (w = 4 → σ 0 6 = τ 0 27)
/-- how many failures are noted -/
def ntB (σ : Mem) (N : Nat) : Prop := ∃ k : Nat, k ≤ N ∧ σ 7 4 = nI k
/-- the reasons that the reference tells when a batch takes a failure -/
theorem sim_reasons {σ τ : Mem} (h : S σ τ) (hc : chF σ τ) : S σ (mReasons τ (τ 0 24)) ∧ ∃ n : Nat, n ≤ 2 ∧ 0 < n ∧ σ 7 6 = nI n ∧ (mReasons τ (τ 0 24)) 0 23 = nI n ∧ ∀ k : Nat, k < n → σ 11 (n - 1 - k) = (mReasons τ (τ 0 24)) 17 k := by
  unfold mReasons
  rcases hc.2 with ⟨a1, a2, a3⟩ | ⟨a1, a2, a3, a4⟩
  · rw [if_pos a1]
    refine ⟨h.of (fun _ _ _ _ => rfl) rfl rfl (fun i a b => by rw [mset_nc a, mset_nc b]) rfl rfl rfl rfl rfl, 1, by decide, by decide, a2, rfl, fun k hk => ?_⟩
    have hk0 : k = 0 := by omega
    subst hk0
    exact a3
  · rw [if_neg (by rw [a1]; decide)]
    refine ⟨h.of (fun _ _ _ _ => rfl) rfl rfl (fun i a b => by rw [mset_nc a, mset_nc b, mset_nc a, mset_nc b]) rfl rfl rfl rfl rfl, 2, by decide, by decide, a2, rfl, fun k hk => ?_⟩
    rcases (show k = 0 ∨ k = 1 by omega) with rfl | rfl
    · exact a3
    · exact a4
/-- a failure in another's stead, on both sides -/
theorem sim_inStead {σ τ : Mem} (h : S σ τ) {n : Nat} (hn : n ≤ 3) (e1 : σ 7 6 = nI n) (e2 : τ 0 23 = nI n) (hk : ∀ k : Nat, k < n → σ 11 (n - 1 - k) = τ 17 k) (m : Int32) :
    S (cInStead σ m) (mInStead τ (ci (τ 0 23)) m) ∧ (cInStead σ m) 7 6 = nI (n + 1) ∧ (mInStead τ (ci (τ 0 23)) m) 0 23 = nI (n + 1) ∧ (∀ k : Nat, k < n + 1 → (cInStead σ m) 11 (n + 1 - 1 - k) = (mInStead τ (ci (τ 0 23)) m) 17 k) ∧ (cInStead σ m) 7 4 = σ 7 4 := by
  have ec : ci (nI n) = n := nI_clamp (by omega)
  have c4 : ¬ (4 : Int32) ≤ nI n := fun q => by
    have := (nI_leI (a := 4) (by decide) (by omega)).mp q
    omega
  unfold cInStead
  rw [e1, e2, ec, if_neg c4, nI_1]
  have hS : ∀ τ' : Mem, (∀ i : Nat, i ≠ 0 → i ≠ 17 → τ' i = τ i) → τ' 0 12 = τ 0 12 → τ' 0 13 = τ 0 13 → τ' 0 14 = τ 0 14 → τ' 0 16 = τ 0 16 → τ' 0 17 = τ 0 17 → S (mset (mset σ 11 n m) 7 6 (nI (n + 1))) τ' := fun τ' d e12 e13 e14 e16 e17 =>
    h.of (fun i _ b c => by rw [mset_nc b, mset_nc c]) (by rw [mset_ne (by omega), mset_nc (by decide)]) (by rw [mset_ne (by omega), mset_nc (by decide)]) d e12 e13 e14 e16 e17
  have a76 : (mset (mset σ 11 n m) 7 6 (nI (n + 1))) 7 6 = nI (n + 1) := mset_self _ _ _ _
  have a74 : (mset (mset σ 11 n m) 7 6 (nI (n + 1))) 7 4 = σ 7 4 := by rw [mset_ne (by omega), mset_nc (by decide)]
  have a11 : ∀ k : Nat, (mset (mset σ 11 n m) 7 6 (nI (n + 1))) 11 k = if k = n then m else σ 11 k := fun k => by
    rw [mset_nc (by decide), mset_eq]
    by_cases hkn : k = n <;> simp [hkn]
  unfold mInStead
  rw [e2, nI_1]
  rcases (show n = 0 ∨ n = 1 ∨ n = 2 ∨ n = 3 by omega) with rfl | rfl | rfl | rfl
  · rw [if_pos rfl]
    refine ⟨hS _ (fun i a b => by rw [mset_nc a, mset_nc b]) rfl rfl rfl rfl rfl, a76, mset_self _ _ _ _, fun k hk0 => ?_, a74⟩
    have : k = 0 := by omega
    subst this
    rw [a11]; rfl
  · rw [if_neg (by decide), if_pos rfl]
    have h0 := hk 0 (by decide)
    refine ⟨hS _ (fun i a b => by rw [mset_nc a, mset_nc b, mset_nc b]) rfl rfl rfl rfl rfl, a76, mset_self _ _ _ _, fun k hk0 => ?_, a74⟩
    rw [a11]
    rcases (show k = 0 ∨ k = 1 by omega) with rfl | rfl
    · rfl
    · exact h0
  · rw [if_neg (by decide), if_neg (by decide), if_pos rfl]
    have h0 := hk 0 (by decide)
    have h1 := hk 1 (by decide)
    refine ⟨hS _ (fun i a b => by rw [mset_nc a, mset_nc b, mset_nc b, mset_nc b]) rfl rfl rfl rfl rfl, a76, mset_self _ _ _ _, fun k hk0 => ?_, a74⟩
    rw [a11]
    rcases (show k = 0 ∨ k = 1 ∨ k = 2 by omega) with rfl | rfl | rfl
    · rfl
    · exact h0
    · exact h1
  · rw [if_neg (by decide), if_neg (by decide), if_neg (by decide)]
    have h0 := hk 0 (by decide)
    have h1 := hk 1 (by decide)
    have h2 := hk 2 (by decide)
    refine ⟨hS _ (fun i a b => by rw [mset_nc a, mset_nc b, mset_nc b, mset_nc b, mset_nc b]) rfl rfl rfl rfl rfl, a76, mset_self _ _ _ _, fun k hk0 => ?_, a74⟩
    rw [a11]
    rcases (show k = 0 ∨ k = 1 ∨ k = 2 ∨ k = 3 by omega) with rfl | rfl | rfl | rfl
    · rfl
    · exact h0
    · exact h1
    · exact h2
theorem sim_note {σ τ : Mem} {N : Nat} (h : S σ τ) (hc : chF σ τ) (hN : ntB σ N) (h23 : N ≤ 23) :
    S (cNote σ) (mset (mset τ 16 (ci (τ 14 6)) (τ 0 24)) 14 6 (τ 14 6 + 1)) ∧ ch0 (cNote σ) (mset (mset τ 16 (ci (τ 14 6)) (τ 0 24)) 14 6 (τ 14 6 + 1)) ∧ ntB (cNote σ) (N + 1) := by
  obtain ⟨n, hn, en⟩ := hN
  have g3 : σ 7 4 = τ 14 6 := h.2.2.2.2.2.1.2.2.1
  have en' : τ 14 6 = nI n := g3.symm.trans en
  have ecn : ci (nI n) = n := nI_clamp (by omega)
  have hcl : ¬ σ 7 6 ≤ 0 ∧ σ 11 (ci (σ 7 6 - 1)) = τ 0 24 := by
    rcases hc.2 with ⟨-, a2, a3⟩ | ⟨-, a2, a3, -⟩
    · rw [a2]; exact ⟨by decide, a3⟩
    · rw [a2]; exact ⟨by decide, a3⟩
  have c24 : ¬ (24 : Int32) ≤ σ 7 4 := by
    rw [en]; intro q
    have := (nI_leI (a := 24) (by decide) (by omega)).mp q
    omega
  unfold cNote
  rw [if_neg hcl.1, if_neg c24, hcl.2, en, en', ecn, nI_1]
  obtain ⟨h1, ⟨h2, h2'⟩, h3, h4, h5, ⟨g1, g2, -, g4, g5⟩, h7⟩ := h
  refine ⟨?_, ⟨mset_self _ _ _ _, ?_⟩, n + 1, by omega, ?_⟩
  · have c : ∀ i : Nat, i ≠ 7 → i ≠ 10 → (mset (mset (mset σ 10 n (τ 0 24)) 7 4 (nI (n + 1))) 7 6 0) i = σ i := fun i a b => by rw [mset_nc a, mset_nc a, mset_nc b]
    have d : ∀ i : Nat, i ≠ 14 → i ≠ 16 → (mset (mset τ 16 n (τ 0 24)) 14 6 (nI (n + 1))) i = τ i := fun i a b => by rw [mset_nc a, mset_nc b]
    refine ⟨?_, ⟨fun b hb => ?_, fun q hq => ?_⟩, fun t ht => ?_, fun k hk => ?_, ?_, ?_, ?_⟩
    · rw [c 1 (by decide) (by decide), d 1 (by decide) (by decide), d 2 (by decide) (by decide)]; exact h1
    · rw [c (12 + b) (by omega) (by omega), d 4 (by decide) (by decide), d 3 (by decide) (by decide)]; exact h2 b hb
    · rw [c (26 + q) (by omega) (by omega), c (50 + q) (by omega) (by omega), c (74 + q) (by omega) (by omega), d 5 (by decide) (by decide), d 6 (by decide) (by decide), d 7 (by decide) (by decide), d 8 (by decide) (by decide)]; exact h2' q hq
    · rw [c (20 + t) (by omega) (by omega), d 9 (by decide) (by decide), d 10 (by decide) (by decide), d 11 (by decide) (by decide)]; exact h3 t ht
    · rw [c 4 (by decide) (by decide), d 13 (by decide) (by decide)]; exact h4 k hk
    · rw [c 5 (by decide) (by decide), c 6 (by decide) (by decide), d 12 (by decide) (by decide), d 0 (by decide) (by decide)]; exact h5
    · refine ⟨fun k hk => ?_, ?_, ?_, fun k hk hlt => ?_, fun k hk hlt => ?_⟩
      · rw [c 8 (by decide) (by decide), mset_ne (by omega), mset_nc (by decide)]; exact g1 k hk
      · rw [mset_ne (by omega), mset_ne (by omega), mset_nc (by decide), mset_ne (by omega), mset_nc (by decide)]; exact g2
      · rw [mset_ne (by omega), mset_self, mset_self]
      · rw [mset_ne (by omega), mset_nc (by decide)] at hlt
        rw [c 9 (by decide) (by decide), d 15 (by decide) (by decide)]
        exact g4 k hk hlt
      · rw [mset_self] at hlt
        have hkn : k < n + 1 := (nI_ltI (by omega) (by omega)).mp hlt
        rw [mset_nc (by decide), mset_nc (by decide), mset_nc (i := 14) (j := 16) (by decide)]
        by_cases hk2 : k = n
        · subst hk2
          rw [mset_self, mset_self]
        · rw [mset_ne (by omega), mset_ne (by omega)]
          exact g5 k hk (by rw [en']; exact nI_lt (by omega) (by omega))
    · exact h7.of fun i a b => d i (by omega) (by omega)
  · rw [mset_nc (by decide), mset_nc (by decide)]; exact hc.1
  · rw [mset_ne (by omega), mset_self]
/-- the noted failures are the same behind a round -/
theorem nt_fail (σ : Mem) (n : Int32) : (cFail σ n).2 7 4 = σ 7 4 := by
  unfold cFail
  split
  · rfl
  split
  · rfl
  · rfl
