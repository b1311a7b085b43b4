/-! The two memories at the start tell the same; what a call needs of two memories that tell the same. -/
theorem sg0_1v : ∀ v : Nat, v < 8 → (sg0 1 v = (-1) ∧ tu0 1 v = 0) ∨ (tu0 1 v = 1 ∧ sg0 1 v = tu0 2 v ∧ tu0 2 v = nI 0) := by
  intro v hv
  match v, hv with
  | 0, _ => exact Or.inr ⟨rfl, rfl, rfl⟩
  | 1, _ => exact Or.inr ⟨rfl, rfl, rfl⟩
  | 2, _ => exact Or.inr ⟨rfl, rfl, rfl⟩
  | 3, _ => exact Or.inr ⟨rfl, rfl, rfl⟩
  | 4, _ => exact Or.inl ⟨rfl, rfl⟩
  | 5, _ => exact Or.inl ⟨rfl, rfl⟩
  | 6, _ => exact Or.inl ⟨rfl, rfl⟩
  | 7, _ => exact Or.inl ⟨rfl, rfl⟩
  | n + 8, h => exact absurd h (by omega)
theorem tu0_9 : ∀ t : Nat, t < 6 → tu0 9 t = (-1) := by
  intro v hv
  match v, hv with
  | 0, _ => rfl
  | 1, _ => rfl
  | 2, _ => rfl
  | 3, _ => rfl
  | 4, _ => rfl
  | 5, _ => rfl
  | n + 6, h => exact absurd h (by omega)
theorem tu0_mR : mR tu0 := by
  refine ⟨fun q hq => ⟨⟨0, by decide, rfl⟩, ⟨0, by decide, rfl⟩, fun k hk => ⟨0, 0, by decide, by decide, rfl, rfl⟩⟩, fun b hb => ⟨0, by decide, rfl⟩⟩
theorem Z0 : Z sg0 tu0 := by
  refine ⟨⟨?_, ⟨fun b hb => ?_, fun q hq => ?_⟩, fun t ht => ?_, fun k hk => rfl, ?_, ?_, tu0_mR⟩, ⟨0, by decide, rfl, rfl, fun k hk => absurd hk (by omega)⟩, 0, by decide, ⟨0, 0, rfl, rfl, by decide, by decide⟩, ⟨⟨0, by decide, rfl⟩, 0, by decide, rfl⟩, Or.inl rfl⟩
  · intro v hv
    rcases sg0_1v v hv with h | ⟨h1, h2, h3⟩
    · exact Or.inl h
    · exact Or.inr ⟨h1, h2, 0, by decide, h3⟩
  · rw [sg0_z (by omega) (by omega) (by omega)]
    exact ⟨rfl, rfl⟩
  · rw [sg0_z (i := 26 + q) (by omega) (by omega) (by omega), sg0_z (i := 50 + q) (by omega) (by omega) (by omega), sg0_z (i := 74 + q) (by omega) (by omega) (by omega)]
    exact ⟨rfl, rfl, fun k hk => ⟨rfl, rfl⟩⟩
  · rw [sg0_t ht, tu0_9 t ht]
    exact ⟨rfl, rfl, rfl, Or.inl rfl⟩
  · refine ⟨Or.inl ⟨rfl, rfl⟩, Or.inl ⟨rfl, rfl⟩, Or.inl ⟨rfl, rfl⟩, Or.inl rfl, Or.inl rfl, fun k hk h => ?_⟩
    have h : nI k < (-1) := h
    exact absurd h (by
      rw [Int32.lt_iff_toInt_lt, nI_toInt (by omega)]
      have h0 : (-1 : Int32).toInt = -1 := by decide
      omega)
  · refine ⟨fun k hk => rfl, rfl, rfl, fun k hk h => ?_, fun k hk h => ?_⟩
    · exact absurd (show nI k < 0 from h) (nI_pos (by omega))
    · exact absurd (show nI k < 0 from h) (nI_pos (by omega))
theorem Z.cR {σ τ : Mem} (h : Z σ τ) : cR σ := S.cR h.1
theorem Z.lg {σ τ : Mem} (h : Z σ τ) : lgK σ := by
  obtain ⟨-, -, x, hx, hO⟩ := h
  exact hO.2.1
theorem Z.bx {σ τ : Mem} (h : Z σ τ) : bxK σ := by
  obtain ⟨-, -, x, hx, hO⟩ := h
  exact hO.2.2
theorem Z.mR {σ τ : Mem} (h : Z σ τ) : mR τ := h.1.2.2.2.2.2.2
theorem Z.mwy {σ τ : Mem} (h : Z σ τ) : mwy4 τ := by
  obtain ⟨-, ⟨n, hn, -, h2, -⟩, -⟩ := h
  exact ⟨n, hn, h2⟩
theorem Z.mbx {σ τ : Mem} (h : Z σ τ) : mbx τ := by
  have hb := h.bx
  rcases h.1.2.2.2.2.1.2.1 with ⟨-, h2⟩ | ⟨n, hn, h1, h2⟩
  · exact Or.inl h2
  · rcases hb with h3 | ⟨k, hk, h3⟩
    · rw [h1] at h3
      exact absurd h3 (nI_ne4 hn)
    · refine Or.inr ⟨n, ?_, h2⟩
      have h4 : nI n = nI k := h1.symm.trans h3
      have h5 := (nI_eq (by omega) (by omega)).mp h4
      omega
theorem Z.t7 {σ τ : Mem} (h : Z σ τ) : ∃ k : Nat, k ≤ 2000 ∧ τ 14 7 = nI k := by
  obtain ⟨hS, -, x, hx, ⟨k, li, e1, -, h2, h3⟩, -⟩ := h
  exact ⟨k, by omega, hS.2.2.2.2.2.1.2.1.symm.trans e1⟩
theorem Z.t6 {σ τ : Mem} (h : Z σ τ) : ∃ k : Nat, k ≤ 2000 ∧ τ 14 6 = nI k := by
  obtain ⟨hS, -, x, hx, -, ⟨⟨k, hk, e1⟩, -⟩, -⟩ := h
  exact ⟨k, by omega, hS.2.2.2.2.2.1.2.2.1.symm.trans e1⟩
theorem nI_a2 (a : Nat) : nI a + 2 = nI (a + 2) := nI_add a 2
theorem nI_a3 (a : Nat) : nI a + 3 = nI (a + 3) := nI_add a 3
theorem nI_a4 (a : Nat) : nI a + 4 = nI (a + 4) := nI_add a 4
theorem law_stop {i L : Nat} (h : L < i + 4) (hL : L ≤ 2048) (hi : i ≤ 4096) : nI L - 4 < nI i := by
  show nI L - nI 4 < nI i
  rw [Int32.lt_iff_toInt_lt, pk_sub_toInt (by omega) (by decide), nI_toInt (by omega)]
  omega
section LC
variable {p : Program} {l : Launch} {e : Env} {R : Room} {s : State} {m : MethodId} {args : Array Value} {below : List Frame} {meth : Method} {c : Code} {H : Heap} {locs : List Loc} {cells slots : Nat} {Q : State → Prop}
variable {cc : ByteArray} {pc : Nat} {ls : Array Slot} {rest st0 As : List Value} {D : va_G} {n n2 : Nat} {ad bd : Nat → Nat} {F F2 : Nat → (Nat → Int32) → va_E} {cy : Nat → ClassId} {wy : Nat → Nat} {mt : Nat} {σ σ' τ : Mem} {A0 : Nat → Prop}
variable {y : MethodName} {bytes : ByteArray} {maxL nL ka index : Nat} {ret : Option FieldType} {ws : List Cond} {rm : Room} {Ts : List Cond} {own C : String} {rv : Option Value}
/-- a call at the law: of one of two worlds, beside the other -/
theorem l_callV (S : CallFix p m c cc nL s args Ts own) (hM : Met l y ws rm (va_Pc (.ref (ad 0) :: As) (gPre n ad F D cy wy mt σ)) (gQ n ad F D rv σ') 0 0 (mA n ad)) (cw : CallW R s args own C index y bytes maxL ret ws rm 0 0 ka) (hK : va_K D vwCl (tys5 cy) s) (hG : gX A0 wy mt s s.heap) (hP : va_P D vwCl (mW n ad F σ) H) (hP2 : va_P D vwCl (mW n2 bd F2 τ) H) (hS : va_S A0 s.heap H locs) (hsub : ∀ q, mA n ad q → A0 q) (hdis : ∀ q, mA n2 bd q → ¬ mA n ad q) (hi : 0 < n) {ci N : Nat} {T : u_T} {G : (Nat → Int32) → List Value} (he : ∀ y, F 0 y = .inr (ci, G y)) (hc : vwCl[ci]? = some (C, T, N)) (hst : st0 = As.reverse ++ .ref (ad 0) :: rest) (hn : As.length = ka) (hsize : ls.size = nL) (hW : (rest.map fun v => v.category).sum ≤ 8) (hdg : decode cc pc = .ok (.invokevirtual index, 3)) (hf : cells ≤ R.cells ∧ slots ≤ R.slots)
    (kk : ∀ (H1 : Heap) (locs1 : List Loc), va_P D vwCl (mW n ad F σ') H1 → va_P D vwCl (mW n2 bd F2 τ) H1 → va_S A0 s.heap H1 locs1 → W p l e R s m args below meth c H1 locs1 cells slots Q (F0 m (pc + 3) ls (rv.toList ++ rest))) : W p l e R s m args below meth c H locs cells slots Q (F0 m pc ls st0) := by
  intro T1 hT X
  obtain ⟨v, st₀, t, T', L, h1, X', hL, e1, e2, hq, st⟩ := va_runV (g := F0 m pc ls st0) (H := H) (locs := locs) (As := As) (rest := rest) S hM cw ⟨gPre_blind, va_recv (ws := mW n ad F σ) (a := ad 0) (q0 := 0) (ci := ci) hK hP hc (by rw [mW_at hi, he]), fun U hU hW => ⟨rfl, by rw [hU]; exact hP, va_K.moved hW.alike hK, by rw [hU]; exact ((hG.kept hS.2.1).narrow hsub).moved hW.alike⟩⟩ rfl hn hsize hst (lv_room hW) hdg hf T1 hT X
  obtain ⟨hv, hp, hz, hk⟩ := hq
  cases hv
  rw [h1] at hz hk
  obtain ⟨t2, a1, b1⟩ := kk T'.heap (locs ++ L) (by rw [e1]; exact hp) (fun k x hx => by
      obtain ⟨hk2, rfl⟩ := mW_of hx
      refine (hP2 k _ hx).kept ?_
      rw [e1]
      exact hk _ (hP2 k _ hx).lt (hdis _ ⟨k, hk2, rfl⟩)) ⟨Nat.le_trans hS.1 (by rw [e1]; exact hz), fun q g1 g2 => by rw [e1, hk q (Nat.lt_of_lt_of_le g1 hS.1) (fun z => g2 (hsub q z))]; exact hS.2.1 q g1 g2, fun q hq => by
      rcases List.mem_append.mp hq with h | h
      · exact hS.2.2 q h
      · exact hsub _ (hL q h)⟩ T' rfl X'
  exact ⟨t2, st t2 a1, b1⟩
end LC
