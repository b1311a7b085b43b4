/-! Memory worlds: n cells at the addresses ad 0 .. ad (n - 1), no two the same; cell i has the shape F i and the ints σ i. Nothing is made: a call takes σ to another σ. -/
abbrev Mem : Type := Nat → Nat → Int32
def mset (σ : Mem) (i k : Nat) (v : Int32) : Mem := va_up σ i (upd (σ i) k v)
theorem mset_eq (σ : Mem) (i k : Nat) (v : Int32) (j q : Nat) : mset σ i k v j q = if j = i ∧ q = k then v else σ j q := by
  unfold mset va_up upd
  by_cases h1 : j = i
  · subst h1
    by_cases h2 : q = k <;> simp [h2]
  · simp [h1]
theorem mset_ne {σ : Mem} {i k : Nat} {v : Int32} {j q : Nat} (h : ¬ (j = i ∧ q = k)) : mset σ i k v j q = σ j q := by
  rw [mset_eq, if_neg h]
theorem mset_nc {σ : Mem} {i k : Nat} {v : Int32} {j : Nat} (h : j ≠ i) : mset σ i k v j = σ j := by
  funext q
  rw [mset_eq, if_neg (fun z => h z.1)]
theorem mset_self (σ : Mem) (i k : Nat) (v : Int32) : mset σ i k v i k = v := by
  rw [mset_eq, if_pos ⟨rfl, rfl⟩]
def mW (n : Nat) (ad : Nat → Nat) (F : Nat → (Nat → Int32) → va_E) (σ : Mem) : va_W := (List.range n).map (fun i => (ad i, F i (σ i)))
def mA (n : Nat) (ad : Nat → Nat) : Nat → Prop := fun q => ∃ i, i < n ∧ q = ad i
def mJ (n : Nat) (ad : Nat → Nat) : Prop := ∀ i j, i < n → j < n → ad i = ad j → i = j
theorem mW_at {n : Nat} {ad : Nat → Nat} {F : Nat → (Nat → Int32) → va_E} {σ : Mem} {i : Nat} (hi : i < n) : (mW n ad F σ)[i]? = some (ad i, F i (σ i)) := by
  simp [mW, hi]
theorem mW_of {n : Nat} {ad : Nat → Nat} {F : Nat → (Nat → Int32) → va_E} {σ : Mem} {i : Nat} {q : Nat × va_E} (h : (mW n ad F σ)[i]? = some q) : i < n ∧ q = (ad i, F i (σ i)) := by
  have hl : i < n := by
    have := (List.getElem?_eq_some_iff.mp h).1
    simpa [mW] using this
  rw [mW_at hl] at h
  exact ⟨hl, (Option.some.inj h).symm⟩
theorem mW_set {n : Nat} {ad : Nat → Nat} {F : Nat → (Nat → Int32) → va_E} {σ : Mem} {i : Nat} (hi : i < n) (x : Nat → Int32) : (mW n ad F σ).set i (ad i, F i x) = mW n ad F (va_up σ i x) := by
  apply List.ext_getElem?
  intro j
  by_cases hj : j = i
  · subst hj
    rw [List.getElem?_set_self (by simp [mW, hi]), mW_at hi, va_up_self]
  · rw [List.getElem?_set_ne (Ne.symm hj)]
    by_cases hl : j < n
    · rw [mW_at hl, mW_at hl, va_up_ne _ _ hj]
    · rw [List.getElem?_eq_none (by simp [mW]; omega), List.getElem?_eq_none (by simp [mW]; omega)]
theorem mW_D {n : Nat} {ad : Nat → Nat} {F : Nat → (Nat → Int32) → va_E} {σ : Mem} (hj : mJ n ad) : va_D (mA n ad) (mW n ad F σ) := by
  refine ⟨fun i j p q hp hq e => ?_, fun k q hk => ?_⟩
  · obtain ⟨h1, rfl⟩ := mW_of hp
    obtain ⟨h2, rfl⟩ := mW_of hq
    exact hj i j h1 h2 e
  · obtain ⟨h1, rfl⟩ := mW_of hk
    exact ⟨k, h1, rfl⟩
def tys5 (cy : Nat → ClassId) : List (ClassId × FieldType) := [(cy 0, .int), (cy 1, .boolean), (cy 2, .object "BenchRuns$Batch"), (cy 3, .object "BenchRuns$Round"), (cy 4, .object "BenchRuns$Tool")]
def wyN : List String := ["ONWARD", "SKIP", "ANEW", "BREAK", "STOP", "FAILURE", "TIRED"]
def mostL : List Int32 := [200, 200, 200, 9, 200, 200, 200, 9, 200, 200, 9, 9, 40, 60, 35, 99, 2, 3]
/-- the statics that the class reads: its kinds of way, and the table of the largest n -/
def gX (A : Nat → Prop) (wy : Nat → Nat) (mt : Nat) (U : State) (H : Heap) : Prop := va_En "BenchRuns$Way" "LBenchRuns$Way;" wyN [] wy A U H ∧ va_Z "BenchRuns" "MOST_N" "[I" (.ref mt) A U H ∧ va_T .int mt 18 (fun k => .int (mostL.getD k 0)) A U H
theorem gX.moved {A : Nat → Prop} {wy : Nat → Nat} {mt : Nat} {u U : State} {H : Heap} (hvm : u.vm.Alike U.vm) (h : gX A wy mt u H) : gX A wy mt U H := ⟨h.1.moved hvm, h.2.1.moved hvm, h.2.2.moved hvm⟩
theorem gX.kept {A : Nat → Prop} {wy : Nat → Nat} {mt : Nat} {U : State} {H H1 : Heap} (h : gX A wy mt U H) (hq : ∀ a : Nat, a < H.size → ¬ A a → H1[a]? = H[a]?) : gX A wy mt U H1 := ⟨h.1.kept hq, h.2.1.kept hq, h.2.2.kept hq⟩
theorem gX.narrow {A B : Nat → Prop} {wy : Nat → Nat} {mt : Nat} {U : State} {H : Heap} (h : gX A wy mt U H) (hAB : ∀ q, B q → A q) : gX B wy mt U H := ⟨h.1.narrow hAB, h.2.1.narrow hAB, h.2.2.narrow hAB⟩
def gPre (n : Nat) (ad : Nat → Nat) (F : Nat → (Nat → Int32) → va_E) (D : va_G) (cy : Nat → ClassId) (wy : Nat → Nat) (mt : Nat) (σ : Mem) (U : State) : Prop := va_P D vwCl (mW n ad F σ) U.heap ∧ va_K D vwCl (tys5 cy) U ∧ gX (mA n ad) wy mt U U.heap
def gQ (n : Nat) (ad : Nat → Nat) (F : Nat → (Nat → Int32) → va_E) (D : va_G) (rv : Option Value) (σ' : Mem) : Array Value → State → Outcome → State → Prop := fun _ st oc t => oc = .returned rv ∧ va_P D vwCl (mW n ad F σ') t.heap ∧ va_F (mA n ad) st t
section GB
variable {n : Nat} {ad : Nat → Nat} {F : Nat → (Nat → Int32) → va_E} {D : va_G} {cy : Nat → ClassId} {wy : Nat → Nat} {mt : Nat} {σ σ1 : Mem}
theorem gPre_blind {av : List Value} : FrameBlind (va_Pc av (gPre n ad F D cy wy mt σ)) := by
  intro a U g mk h
  obtain ⟨h1, h2, h3, h4⟩ := h
  exact ⟨h1, h2, va_K.moved (u := U) (U := U.calling g mk a) (Vm.Alike.refl U.vm) h3, gX.moved (u := U) (U := U.calling g mk a) (Vm.Alike.refl U.vm) h4⟩
theorem gPre_next {s : State} {H : Heap} {locs : List Loc} (h0 : gPre n ad F D cy wy mt σ s) (hP : va_P D vwCl (mW n ad F σ1) H) (hS : va_S (mA n ad) s.heap H locs) (U : State) (hU : U.heap = H) (hW : s.WarmedH U.vm) : gPre n ad F D cy wy mt σ1 U := by
  refine ⟨by rw [hU]; exact hP, va_K.moved hW.alike h0.2.1, ?_⟩
  rw [hU]
  exact (h0.2.2.kept hS.2.1).moved hW.alike
end GB
section GR
variable {p : Program} {l : Launch} {e : Env} {R : Room} {s : State} {m : MethodId} {args : Array Value} {below : List Frame} {meth : Method} {c : Code} {H : Heap} {locs : List Loc} {cells slots : Nat} {Q : State → Prop}
variable {cc : ByteArray} {pc : Nat} {ls : Array Slot} {rest : List Value} {D : va_G} {cl : List vw_C} {tys : List (ClassId × FieldType)} {H0 : Heap} {n : Nat} {ad : Nat → Nat} {F : Nat → (Nat → Int32) → va_E} {σ : Mem}
theorem mw_get (hx : p.tables.exec = Jvm.exec) (hb : c.code = cc) {own ref C : String} {T : u_T} {N ci index : Nat} {Ts : List Cond} (hts : ∀ w ∈ Ts, w.before args s = true) (hin : ∀ w ∈ u_ws C T N, w ∈ Ts) (hown : s.vm.findClass own = some m.cls) (hK : va_K D cl tys s) (hP : va_P D cl (mW n ad F σ) H) (i : Nat) (hi : i < n) {G : (Nat → Int32) → List Value} (he : ∀ y, F i y = .inr (ci, G y)) (hc : cl[ci]? = some (C, T, N)) (k : Nat) (hk : k < N) (hlink : (Cond.fieldLink own index ref (T k).2.1 (T k).2.2.1).before args s = true) (hsame : ∀ x, s.fieldFound? (T k).1 (T k).2.1 (T k).2.2.1 = some x → s.fieldFound? ref (T k).2.1 (T k).2.2.1 = some x) {v : Value} (hv : (G (σ i))[k]? = some v) (hdg : decode cc pc = .ok (.getfield index, 3))
    (kk : W p l e R s m args below meth c H locs cells slots Q (F0 m (pc + 3) ls (v :: rest))) : W p l e R s m args below meth c H locs cells slots Q (F0 m pc ls (.ref (ad i) :: rest)) :=
  va_get hx hb hts hin hown hK hP i (by rw [mW_at hi, he]) hc k hk hlink hsame hv hdg kk
theorem mw_put (hx : p.tables.exec = Jvm.exec) (hb : c.code = cc) {own ref C : String} {T : u_T} {N ci index : Nat} {Ts : List Cond} (hts : ∀ w ∈ Ts, w.before args s = true) (hin : ∀ w ∈ u_ws C T N, w ∈ Ts) (ty0 : Nat → FieldType) (hty : ∀ k, k < N → parseFieldDescriptor (T k).2.2.1 = some (ty0 k)) (hnm : ∀ a, a < N → ∀ b, b < N → a ≠ b → (T a).2.1 ≠ (T b).2.1) (hown : s.vm.findClass own = some m.cls) (hK : va_K D cl tys s) (hj : mJ n ad) (hP : va_P D cl (mW n ad F σ) H) (hS : va_S (mA n ad) H0 H locs) (i : Nat) (hi : i < n) {G : (Nat → Int32) → List Value} (he : ∀ y, F i y = .inr (ci, G y)) (hc : cl[ci]? = some (C, T, N)) (k : Nat) (hk : k < N) (hlink : (Cond.fieldLink own index ref (T k).2.1 (T k).2.2.1).before args s = true) (hsame : ∀ x, s.fieldFound? (T k).1 (T k).2.1 (T k).2.2.1 = some x → s.fieldFound? ref (T k).2.1 (T k).2.2.1 = some x) (hfin : (T k).2.2.2 = false) {ty : FieldType} {v : Int32} (hd : parseFieldDescriptor (T k).2.2.1 = some ty) (hn : narrow ty (.int v) = .int v) (hfit : fits ty (.int v) = true) (hl : k < (G (σ i)).length) (hg : (G (σ i)).set k (.int v) = G (upd (σ i) k v))
    (hdg : decode cc pc = .ok (.putfield index, 3)) (kk : ∀ (H1 : Heap) (locs1 : List Loc), va_P D cl (mW n ad F (mset σ i k v)) H1 → va_S (mA n ad) H0 H1 locs1 → W p l e R s m args below meth c H1 locs1 cells slots Q (F0 m (pc + 3) ls rest)) : W p l e R s m args below meth c H locs cells slots Q (F0 m pc ls (.int v :: .ref (ad i) :: rest)) := by
  refine va_put hx hb hts hin ty0 hty hnm hown hK hP (mW_D hj) hS i (by rw [mW_at hi, he]) hc k hk hlink hsame hfin hd hn hfit hl hdg (fun H1 locs1 h1 h2 h3 => kk H1 locs1 ?_ h3)
  rw [hg, ← he, mW_set hi] at h1
  exact h1
theorem mw_ild (hx : p.tables.exec = Jvm.exec) (hb : c.code = cc) (hK : va_K D cl tys s) (hP : va_P D cl (mW n ad F σ) H) (i : Nat) (hi : i < n) (t0 : Nat) {cA : ClassId} {N : Nat} (he : ∀ y, F i y = .inl (cA, N, .inl y)) (ht : tys[t0]? = some (cA, .int)) {x : Int32} (k : Nat) (hk : k < N) (hN : N < 2 ^ 31) (hxk : x = nI k) (hdg : decode cc pc = .ok (.iaload, 1))
    (kk : W p l e R s m args below meth c H locs cells slots Q (F0 m (pc + 1) ls (.int (σ i k) :: rest))) : W p l e R s m args below meth c H locs cells slots Q (F0 m pc ls (.int x :: .ref (ad i) :: rest)) := by
  subst hxk
  refine va_iald hx hb hK hP i t0 (by rw [mW_at hi, he]) ht (vp_in_nI hk hN) hdg ?_
  rw [nI_clamp (by omega)]
  exact kk
theorem mw_ist (hx : p.tables.exec = Jvm.exec) (hb : c.code = cc) (hK : va_K D cl tys s) (hj : mJ n ad) (hP : va_P D cl (mW n ad F σ) H) (hS : va_S (mA n ad) H0 H locs) (i : Nat) (hi : i < n) (t0 : Nat) {cA : ClassId} {N : Nat} (he : ∀ y, F i y = .inl (cA, N, .inl y)) (ht : tys[t0]? = some (cA, .int)) {x v : Int32} (k : Nat) (hk : k < N) (hN : N < 2 ^ 31) (hxk : x = nI k) (hdg : decode cc pc = .ok (.iastore, 1))
    (kk : ∀ (H1 : Heap) (locs1 : List Loc), va_P D cl (mW n ad F (mset σ i k v)) H1 → va_S (mA n ad) H0 H1 locs1 → W p l e R s m args below meth c H1 locs1 cells slots Q (F0 m (pc + 1) ls rest)) : W p l e R s m args below meth c H locs cells slots Q (F0 m pc ls (.int v :: .int x :: .ref (ad i) :: rest)) := by
  subst hxk
  refine va_iast hx hb hK hP (mW_D hj) hS i t0 (by rw [mW_at hi, he]) ht (vp_in_nI hk hN) hdg (fun H1 locs1 h1 h2 h3 => kk H1 locs1 ?_ h3)
  rw [nI_clamp (by omega), ← he, mW_set hi] at h1
  exact h1
theorem mw_zld (hx : p.tables.exec = Jvm.exec) (hb : c.code = cc) (hK : va_K D cl tys s) (hP : va_P D cl (mW n ad F σ) H) (i : Nat) (hi : i < n) (t0 : Nat) {cA : ClassId} {N : Nat} (he : ∀ y, F i y = .inl (cA, N, .inl y)) (ht : tys[t0]? = some (cA, .boolean)) {x : Int32} (k : Nat) (hk : k < N) (hN : N < 2 ^ 31) (hxk : x = nI k) (hdg : decode cc pc = .ok (.baload, 1))
    (kk : W p l e R s m args below meth c H locs cells slots Q (F0 m (pc + 1) ls (.int (σ i k) :: rest))) : W p l e R s m args below meth c H locs cells slots Q (F0 m pc ls (.int x :: .ref (ad i) :: rest)) := by
  subst hxk
  refine va_zald hx hb hK hP i t0 (by rw [mW_at hi, he]) ht (vp_in_nI hk hN) hdg ?_
  rw [nI_clamp (by omega)]
  exact kk
theorem mw_zst (hx : p.tables.exec = Jvm.exec) (hb : c.code = cc) (hK : va_K D cl tys s) (hj : mJ n ad) (hP : va_P D cl (mW n ad F σ) H) (hS : va_S (mA n ad) H0 H locs) (i : Nat) (hi : i < n) (t0 : Nat) {cA : ClassId} {N : Nat} (he : ∀ y, F i y = .inl (cA, N, .inl y)) (ht : tys[t0]? = some (cA, .boolean)) {x v : Int32} (hv : vp_nar .boolean v = v) (k : Nat) (hk : k < N) (hN : N < 2 ^ 31) (hxk : x = nI k) (hdg : decode cc pc = .ok (.bastore, 1))
    (kk : ∀ (H1 : Heap) (locs1 : List Loc), va_P D cl (mW n ad F (mset σ i k v)) H1 → va_S (mA n ad) H0 H1 locs1 → W p l e R s m args below meth c H1 locs1 cells slots Q (F0 m (pc + 1) ls rest)) : W p l e R s m args below meth c H locs cells slots Q (F0 m pc ls (.int v :: .int x :: .ref (ad i) :: rest)) := by
  subst hxk
  refine va_zast hx hb hK hP (mW_D hj) hS i t0 (by rw [mW_at hi, he]) ht (vp_in_nI hk hN) hdg (fun H1 locs1 h1 h2 h3 => kk H1 locs1 ?_ h3)
  rw [hv, nI_clamp (by omega), ← he, mW_set hi] at h1
  exact h1
theorem mw_ald (hx : p.tables.exec = Jvm.exec) (hb : c.code = cc) (hK : va_K D cl tys s) (hP : va_P D cl (mW n ad F σ) H) (i : Nat) (hi : i < n) (t0 : Nat) {cA : ClassId} {C : String} {N : Nat} {f : Nat → Nat} (he : ∀ y, F i y = .inl (cA, N, .inr (.inr (.inr (.inr (fun q => some (f q))))))) (ht : tys[t0]? = some (cA, .object C)) {x : Int32} (k : Nat) (hk : k < N) (hN : N < 2 ^ 31) (hxk : x = nI k) (hdg : decode cc pc = .ok (.aaload, 1))
    (kk : W p l e R s m args below meth c H locs cells slots Q (F0 m (pc + 1) ls (.ref (f k) :: rest))) : W p l e R s m args below meth c H locs cells slots Q (F0 m pc ls (.int x :: .ref (ad i) :: rest)) := by
  subst hxk
  refine va_aldq hx hb hK hP i t0 (by rw [mW_at hi, he]) ht (vp_in_nI hk hN) hdg ?_
  rw [nI_clamp (by omega)]
  exact kk
theorem mw_len (hx : p.tables.exec = Jvm.exec) (hb : c.code = cc) (hK : va_K D cl tys s) (hP : va_P D cl (mW n ad F σ) H) (i : Nat) (hi : i < n) (t0 : Nat) {cA : ClassId} {N : Nat} (he : ∀ y, F i y = .inl (cA, N, .inl y)) (ht : tys[t0]? = some (cA, .int)) (hdg : decode cc pc = .ok (.arraylength, 1))
    (kk : W p l e R s m args below meth c H locs cells slots Q (F0 m (pc + 1) ls (.int (nI N) :: rest))) : W p l e R s m args below meth c H locs cells slots Q (F0 m pc ls (.ref (ad i) :: rest)) :=
  va_alen (x := (N, .inl (σ i))) (v := nI N) hx hb hK hP i t0 (by rw [mW_at hi, he]) ht rfl hdg kk
end GR
section GC
variable {p : Program} {l : Launch} {e : Env} {R : Room} {s : State} {m : MethodId} {args : Array Value} {below : List Frame} {meth : Method} {c : Code} {H : Heap} {locs : List Loc} {cells slots : Nat} {Q : State → Prop}
variable {cc : ByteArray} {pc : Nat} {ls : Array Slot} {rest st0 As : List Value} {D : va_G} {n : Nat} {ad : Nat → Nat} {F : Nat → (Nat → Int32) → va_E} {cy : Nat → ClassId} {wy : Nat → Nat} {mt : Nat} {σ σ0 σ' : Mem}
variable {y : MethodName} {bytes : ByteArray} {maxL nL ka index : Nat} {ret : Option FieldType} {ws : List Cond} {rm : Room} {Ts : List Cond} {own C : String} {rv : Option Value}
theorem g_callV (S : CallFix p m c cc nL s args Ts own) (i : Nat) (hM : Met l y ws rm (va_Pc (.ref (ad i) :: As) (gPre n ad F D cy wy mt σ)) (gQ n ad F D rv σ') 0 0 (mA n ad)) (cw : CallW R s args own C index y bytes maxL ret ws rm 0 0 ka) (h0 : gPre n ad F D cy wy mt σ0 s) (hP : va_P D vwCl (mW n ad F σ) H) (hS : va_S (mA n ad) s.heap H locs) (hi : i < n) {ci N : Nat} {T : u_T} {G : (Nat → Int32) → List Value} (he : ∀ y, F i y = .inr (ci, G y)) (hc : vwCl[ci]? = some (C, T, N)) (hst : st0 = As.reverse ++ .ref (ad i) :: rest) (hn : As.length = ka) (hsize : ls.size = nL) (hW : (rest.map fun v => v.category).sum ≤ 8) (hdg : decode cc pc = .ok (.invokevirtual index, 3)) (hf : cells ≤ R.cells ∧ slots ≤ R.slots)
    (kk : ∀ (H1 : Heap) (locs1 : List Loc), va_P D vwCl (mW n ad F σ') H1 → va_S (mA n ad) s.heap H1 locs1 → W p l e R s m args below meth c H1 locs1 cells slots Q (F0 m (pc + 3) ls (rv.toList ++ rest))) : W p l e R s m args below meth c H locs cells slots Q (F0 m pc ls st0) := by
  intro T1 hT X
  obtain ⟨v, st₀, t, T', L, h1, X', hL, e1, e2, hq, st⟩ := va_runV (g := F0 m pc ls st0) (H := H) (locs := locs) (As := As) (rest := rest) S hM cw ⟨gPre_blind, va_recv (ws := mW n ad F σ) (a := ad i) (q0 := i) (ci := ci) h0.2.1 hP hc (by rw [mW_at hi, he]), fun U hU hW => ⟨rfl, gPre_next h0 hP hS U hU hW⟩⟩ rfl hn hsize hst (lv_room hW) hdg hf T1 hT X
  obtain ⟨hv, hp, hz, hk⟩ := hq
  cases hv
  rw [h1] at hz hk
  obtain ⟨t2, a1, b1⟩ := kk T'.heap (locs ++ L) (by rw [e1]; exact hp) ⟨Nat.le_trans hS.1 (by rw [e1]; exact hz), fun q g1 g2 => by rw [e1, hk q (Nat.lt_of_lt_of_le g1 hS.1) g2]; exact hS.2.1 q g1 g2, fun q hq => by
      rcases List.mem_append.mp hq with h | h
      · exact hS.2.2 q h
      · exact hL q h⟩ T' rfl X'
  exact ⟨t2, st t2 a1, b1⟩
/-- a static method that only reckons -/
theorem g_callS {r : Int32} (S : CallFix p m c cc nL s args Ts own) (hM : Met l y ws rm (fun v _ => v = As.toArray) (QcRead r) 0 0 (fun _ => False)) (cw : CallB R s args own index y bytes maxL ret ws rm 0 0 ka ∧ (Cond.static y).before args s = true) (hst : st0 = As.reverse ++ rest) (hn : As.length = ka) (hsize : ls.size = nL) (hW : (rest.map fun v => v.category).sum ≤ 8) (hdg : decode cc pc = .ok (.invokestatic index, 3)) (hf : cells ≤ R.cells ∧ slots ≤ R.slots)
    (kk : W p l e R s m args below meth c H locs cells slots Q (F0 m (pc + 3) ls (.int r :: rest))) : W p l e R s m args below meth c H locs cells slots Q (F0 m pc ls st0) :=
  W.callR (W.runS (g := F0 m pc ls st0) (As := As) (rest := rest) S hM cw preEq rfl hn hsize hst (lv_room hW) hdg hf) kk
theorem g_met {ws' : List Cond} {av : List Value} (hy : plainName y.cls = true) (hw : ws = Cond.code y cc maxL ret :: ws') (hlen : (lg_sl av).length ≤ maxL)
    (body : ∀ (p : Program) (e : Env) (s : State) (m : MethodId) (below : List Frame) (meth : Method) (c : Code), CallFix p m c cc maxL s av.toArray ws y.cls → meth.sig.returnType = ret → meth.locks = false → gPre n ad F D cy wy mt σ s → ∀ ls : Array Slot, lv_has ls maxL (lv_args 0 av) →
      W p l e rm s m av.toArray below meth c s.heap [] 0 0 (MQ below (gQ n ad F D rv σ') av.toArray s 0 0 (mA n ad)) (F0 m 0 ls [])) : Met l y ws rm (va_Pc av (gPre n ad F D cy wy mt σ)) (gQ n ad F D rv σ') 0 0 (mA n ad) := by
  refine Met.ofW (cc := cc) (maxL := maxL) (ret := ret) hy hw ?_
  intro p e s m args below meth c s₁ B hml hv
  obtain ⟨rfl, hp⟩ := hv
  have hl := lv_entry av (n := maxL) hlen
  rw [lg_entry_eq]
  exact body p e s m below meth c ⟨B.exec, B.bytes, hml, findClass_of_methodNamed B.named, atoms_spec (ws := ws) B.pre⟩ B.returns B.notSynchronized hp _ hl
theorem g_metS {ws' : List Cond} {av : List Value} {r : Int32} (hy : plainName y.cls = true) (hw : ws = Cond.code y cc maxL ret :: ws') (hlen : (lg_sl av).length ≤ maxL)
    (body : ∀ (p : Program) (e : Env) (s : State) (m : MethodId) (below : List Frame) (meth : Method) (c : Code), CallFix p m c cc maxL s av.toArray ws y.cls → meth.sig.returnType = ret → meth.locks = false → ∀ ls : Array Slot, lv_has ls maxL (lv_args 0 av) →
      W p l e rm s m av.toArray below meth c s.heap [] 0 0 (MQ below (QcRead r) av.toArray s 0 0 (fun _ => False)) (F0 m 0 ls [])) : Met l y ws rm (fun v _ => v = av.toArray) (QcRead r) 0 0 (fun _ => False) := by
  refine Met.ofW (cc := cc) (maxL := maxL) (ret := ret) hy hw ?_
  intro p e s m args below meth c s₁ B hml hv
  have hv : args = av.toArray := hv
  subst hv
  have hl := lv_entry av (n := maxL) hlen
  rw [lg_entry_eq]
  exact body p e s m below meth c ⟨B.exec, B.bytes, hml, findClass_of_methodNamed B.named, atoms_spec (ws := ws) B.pre⟩ B.returns B.notSynchronized _ hl
theorem g_iret {v : Int32} {f : Int32 × Mem} (hx : p.tables.exec = Jvm.exec) (hb : c.code = cc) (hr : meth.sig.returnType = some .int) (hlocks : meth.locks = false) (hP : va_P D vwCl (mW n ad F σ) H) (hS : va_S (mA n ad) s.heap H locs) (hdg : decode cc pc = .ok (.ireturn, 1)) (h : f = (v, σ)) : W p l e R s m args below meth c H locs 0 0 (MQ below (gQ n ad F D (some (.int f.1)) f.2) args s 0 0 (mA n ad)) (F0 m pc ls [.int v]) := by
  subst h
  exact W.iret hx hb hr (fun t ht _ => ⟨rfl, by rw [ht]; exact hP, hS.F ht⟩) hS.2.2 hdg
theorem g_zret {v : Int32} {f : Int32 × Mem} (hx : p.tables.exec = Jvm.exec) (hb : c.code = cc) (hr : meth.sig.returnType = some .boolean) (hlocks : meth.locks = false) (hP : va_P D vwCl (mW n ad F σ) H) (hS : va_S (mA n ad) s.heap H locs) (hdg : decode cc pc = .ok (.ireturn, 1)) (hn : narrow .boolean (.int v) = .int v) (h : f = (v, σ)) : W p l e R s m args below meth c H locs 0 0 (MQ below (gQ n ad F D (some (.int f.1)) f.2) args s 0 0 (mA n ad)) (F0 m pc ls [.int v]) := by
  subst h
  exact W.zret hx hb hr hn (fun t ht _ => ⟨rfl, by rw [ht]; exact hP, hS.F ht⟩) hS.2.2 hdg
theorem g_riret {v f : Int32} (hx : p.tables.exec = Jvm.exec) (hb : c.code = cc) (hr : meth.sig.returnType = some .int) (hlocks : meth.locks = false) (hP : va_P D vwCl (mW n ad F σ) H) (hS : va_S (mA n ad) s.heap H locs) (hdg : decode cc pc = .ok (.ireturn, 1)) (h : f = v) : W p l e R s m args below meth c H locs 0 0 (MQ below (gQ n ad F D (some (.int f)) σ) args s 0 0 (mA n ad)) (F0 m pc ls [.int v]) := by
  subst h
  exact W.iret hx hb hr (fun t ht _ => ⟨rfl, by rw [ht]; exact hP, hS.F ht⟩) hS.2.2 hdg
theorem g_rzret {v f : Int32} (hx : p.tables.exec = Jvm.exec) (hb : c.code = cc) (hr : meth.sig.returnType = some .boolean) (hlocks : meth.locks = false) (hP : va_P D vwCl (mW n ad F σ) H) (hS : va_S (mA n ad) s.heap H locs) (hdg : decode cc pc = .ok (.ireturn, 1)) (hn : narrow .boolean (.int v) = .int v) (h : f = v) : W p l e R s m args below meth c H locs 0 0 (MQ below (gQ n ad F D (some (.int f)) σ) args s 0 0 (mA n ad)) (F0 m pc ls [.int v]) := by
  subst h
  exact W.zret hx hb hr hn (fun t ht _ => ⟨rfl, by rw [ht]; exact hP, hS.F ht⟩) hS.2.2 hdg
theorem g_aret {v : Nat} {f : Nat × Mem} {E : String} (hx : p.tables.exec = Jvm.exec) (hb : c.code = cc) (hr : meth.sig.returnType = some (.object E)) (hlocks : meth.locks = false) (hP : va_P D vwCl (mW n ad F σ) H) (hS : va_S (mA n ad) s.heap H locs) (hdg : decode cc pc = .ok (.areturn, 1)) (h : f = (v, σ)) : W p l e R s m args below meth c H locs 0 0 (MQ below (gQ n ad F D (some (.ref (wy f.1))) f.2) args s 0 0 (mA n ad)) (F0 m pc ls [.ref (wy v)]) := by
  subst h
  exact W.aret hx hb hr (Or.inl ⟨E, rfl⟩) (Or.inr ⟨_, rfl⟩) (fun t ht _ => ⟨rfl, by rw [ht]; exact hP, hS.F ht⟩) hS.2.2 hdg
theorem g_vret {f : Mem} (hx : p.tables.exec = Jvm.exec) (hb : c.code = cc) (hr : meth.sig.returnType = none) (hlocks : meth.locks = false) (hP : va_P D vwCl (mW n ad F σ) H) (hS : va_S (mA n ad) s.heap H locs) (hdg : decode cc pc = .ok (.return_, 1)) (h : f = σ) : W p l e R s m args below meth c H locs 0 0 (MQ below (gQ n ad F D none f) args s 0 0 (mA n ad)) (F0 m pc ls []) := by
  subst h
  exact W.vret hx hb hr (fun t ht _ => ⟨rfl, by rw [ht]; exact hP, hS.F ht⟩) hS.2.2 hdg
theorem g_sret {v r : Int32} (hx : p.tables.exec = Jvm.exec) (hb : c.code = cc) (hr : meth.sig.returnType = some .int) (hlocks : meth.locks = false) (hdg : decode cc pc = .ok (.ireturn, 1)) (h : r = v) : W p l e R s m args below meth c s.heap [] 0 0 (MQ below (QcRead r) args s 0 0 (fun _ => False)) (F0 m pc ls [.int v]) := by
  subst h
  exact W.iret hx hb hr (fun t ht _ => ⟨rfl, ht⟩) (fun q h => by cases h) hdg
theorem g_szret {v r : Int32} (hx : p.tables.exec = Jvm.exec) (hb : c.code = cc) (hr : meth.sig.returnType = some .boolean) (hlocks : meth.locks = false) (hdg : decode cc pc = .ok (.ireturn, 1)) (hn : narrow .boolean (.int v) = .int v) (h : r = v) : W p l e R s m args below meth c s.heap [] 0 0 (MQ below (QcRead r) args s 0 0 (fun _ => False)) (F0 m pc ls [.int v]) := by
  subst h
  exact W.zret hx hb hr hn (fun t ht _ => ⟨rfl, ht⟩) (fun q h => by cases h) hdg
/-- a kind of way is read -/
theorem g_way (hx : p.tables.exec = Jvm.exec) (hb : c.code = cc) (h0 : gPre n ad F D cy wy mt σ0 s) (hS : va_S (mA n ad) s.heap H locs) (hown : s.vm.findClass own = some m.cls) (k : Nat) {nm : String} (hk : k < 7) (hnm : wyN.getD k "" = nm) (hlink : (Cond.fieldLink own index "BenchRuns$Way" nm "LBenchRuns$Way;").before args s = true) (hdg : decode cc pc = .ok (.getstatic index, 3))
    (kk : W p l e R s m args below meth c H locs cells slots Q (F0 m (pc + 3) ls (.ref (wy k) :: rest))) : W p l e R s m args below meth c H locs cells slots Q (F0 m pc ls rest) := by
  subst hnm
  exact va_gets hx hb (h0.2.2.1.1 k hk).1 hS hown hlink (fun _ h => h) hdg kk
theorem g_most (hx : p.tables.exec = Jvm.exec) (hb : c.code = cc) (h0 : gPre n ad F D cy wy mt σ0 s) (hS : va_S (mA n ad) s.heap H locs) (hown : s.vm.findClass own = some m.cls) (hlink : (Cond.fieldLink own index "BenchRuns" "MOST_N" "[I").before args s = true) (hdg : decode cc pc = .ok (.getstatic index, 3))
    (kk : W p l e R s m args below meth c H locs cells slots Q (F0 m (pc + 3) ls (.ref mt :: rest))) : W p l e R s m args below meth c H locs cells slots Q (F0 m pc ls rest) :=
  va_gets hx hb h0.2.2.2.1 hS hown hlink (fun _ h => h) hdg kk
theorem g_mostAt (hx : p.tables.exec = Jvm.exec) (hb : c.code = cc) (h0 : gPre n ad F D cy wy mt σ0 s) (hS : va_S (mA n ad) s.heap H locs) {x : Int32} (k : Nat) (hk : k < 18) (hxk : x = nI k) (hdg : decode cc pc = .ok (.iaload, 1))
    (kk : W p l e R s m args below meth c H locs cells slots Q (F0 m (pc + 1) ls (.int (mostL.getD k 0) :: rest))) : W p l e R s m args below meth c H locs cells slots Q (F0 m pc ls (.int x :: .ref mt :: rest)) := by
  subst hxk
  exact va_ti hx hb h0.2.2.2.2 hS (vp_in_nI hk (by decide)) (by rw [nI_clamp (by omega)]) hdg kk
theorem g_top {x y : Int32} (h : x = y) (kk : W p l e R s m args below meth c H locs cells slots Q (F0 m pc ls (.int y :: rest))) : W p l e R s m args below meth c H locs cells slots Q (F0 m pc ls (.int x :: rest)) := by
  subst h
  exact kk
theorem g_weq (hx : p.tables.exec = Jvm.exec) (hb : c.code = cc) (h0 : gPre n ad F D cy wy mt σ0 s) {a b : Nat} (ha : a < 7) (hb7 : b < 7) {off : Int} {tgt : Nat} (hdg : decode cc pc = .ok (.if_acmp .eq off, 3)) (ht : (pc : Int) + off = (tgt : Int))
    (kt : a = b → W p l e R s m args below meth c H locs cells slots Q (F0 m tgt ls rest)) (kf : ¬ a = b → W p l e R s m args below meth c H locs cells slots Q (F0 m (pc + 3) ls rest)) : W p l e R s m args below meth c H locs cells slots Q (F0 m pc ls (.ref (wy b) :: .ref (wy a) :: rest)) :=
  lv_acmp_eq (rx := some (wy a)) (ry := some (wy b)) hx hb hdg ht (fun h => kt (h0.2.2.1.2 a b ha hb7 (Option.some.inj h))) (fun h => kf (fun z => h (by rw [z])))
theorem g_wne (hx : p.tables.exec = Jvm.exec) (hb : c.code = cc) (h0 : gPre n ad F D cy wy mt σ0 s) {a b : Nat} (ha : a < 7) (hb7 : b < 7) {off : Int} {tgt : Nat} (hdg : decode cc pc = .ok (.if_acmp .ne off, 3)) (ht : (pc : Int) + off = (tgt : Int))
    (kt : ¬ a = b → W p l e R s m args below meth c H locs cells slots Q (F0 m tgt ls rest)) (kf : a = b → W p l e R s m args below meth c H locs cells slots Q (F0 m (pc + 3) ls rest)) : W p l e R s m args below meth c H locs cells slots Q (F0 m pc ls (.ref (wy b) :: .ref (wy a) :: rest)) :=
  lv_acmp_ne (rx := some (wy a)) (ry := some (wy b)) hx hb hdg ht (fun h => kt (fun z => h (by rw [z]))) (fun h => kf (h0.2.2.1.2 a b ha hb7 (Option.some.inj h)))
end GC
