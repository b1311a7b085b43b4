/-! Constructors: what they need of the tables, their contracts' form, rows. A constructor takes the cell of its object, blank, and gives back the list L g of the cells that it made, at the addresses g 0 (the object), g 1 .. -/
def hostB : String := "BenchRuns"
def kX (U : State) : Prop := (va_AO "BenchRuns$Round" U ∧ va_AO "BenchRuns$Batch" U ∧ va_AO "BenchRuns$Tool" U) ∧ va_Nw (.methodLinkNest RX0 24 yX2_init hostB) U ∧ va_Nw (.methodLinkNest RX6 30 yX3_init hostB) U ∧ va_Nw (.methodLinkNest RX6 37 yX1_init hostB) U ∧ va_Nw (.methodLinkNest RX6 47 yX4_init hostB) U
theorem kX.warm {s U : State} (hW : s.WarmedH U.vm) (h : kX s) : kX U := ⟨⟨h.1.1.moved hW.alike, h.1.2.1.moved hW.alike, h.1.2.2.moved hW.alike⟩, h.2.1.warmM hW, h.2.2.1.warmM hW, h.2.2.2.1.warmM hW, h.2.2.2.2.warmM hW⟩
theorem kX.same {s U : State} (hvm : s.vm = U.vm) (h : kX s) : kX U := by
  have ha : s.vm.Alike U.vm := by rw [hvm]; exact Vm.Alike.refl _
  exact ⟨⟨h.1.1.moved ha, h.1.2.1.moved ha, h.1.2.2.moved ha⟩, va_Nw.same rfl hvm h.2.1, va_Nw.same rfl hvm h.2.2.1, va_Nw.same rfl hvm h.2.2.2.1, va_Nw.same rfl hvm h.2.2.2.2⟩
def kPre (D : va_G) (cy : Nat → ClassId) (h0 : Nat) (e0 : va_E) (sz : Nat) (U : State) : Prop := U.heap.size = sz ∧ va_P D vwCl [(h0, e0)] U.heap ∧ va_K D vwCl (tys5 cy) U ∧ kX U
def kQ (D : va_G) (h0 : Nat) (e0 : va_E) (sz : Nat) (L : (Nat → Nat) → va_W) : Array Value → State → Outcome → State → Prop := va_Qv (fun g : Nat → Nat => g 0 = h0) (fun g t => va_P D vwCl (L g) t.heap ∧ va_D (va_A [(h0, e0)] sz) (L g)) (va_A [(h0, e0)] sz)
theorem kPre_blind {D : va_G} {cy : Nat → ClassId} {h0 : Nat} {e0 : va_E} {sz : Nat} {av : List Value} : FrameBlind (va_Pc av (kPre D cy h0 e0 sz)) := by
  intro a U g mk h
  obtain ⟨h1, h2, h3, h4, h5⟩ := h
  exact ⟨h1, h2, h3, va_K.moved (u := U) (U := U.calling g mk a) (Vm.Alike.refl U.vm) h4, kX.same (s := U) (U := U.calling g mk a) rfl h5⟩
theorem va_RA_uni {U : State} {a b : ClassId} {ty : FieldType} (h1 : va_RA U a ty) (h2 : va_RA U b ty) : a = b := by
  cases ty with
  | object C =>
    obtain ⟨k1, c1, -, -, -, h1⟩ := h1
    obtain ⟨k2, c2, -, -, -, h2⟩ := h2
    exact Option.some.inj (h1.symm.trans h2)
  | _ => exact Option.some.inj ((show U.vm.findClass _ = some a from h1).symm.trans h2)
theorem va_cell_i {N : Nat} (cA : ClassId) : vp_cell cA (N, .inl (fun _ => (0 : Int32))) = arrV cA N (fun _ => Value.int 0) := rfl
section KR
variable {p : Program} {l : Launch} {e : Env} {R : Room} {s : State} {m : MethodId} {args : Array Value} {below : List Frame} {meth : Method} {c : Code} {H H0 : Heap} {locs : List Loc} {cells slots : Nat} {Q : State → Prop}
variable {cc : ByteArray} {pc : Nat} {ls : Array Slot} {rest st0 : List Value} {D : va_G} {cl : List vw_C} {tys : List (ClassId × FieldType)} {ws : va_W} {A : Nat → Prop}
theorem k_newI (hx : p.tables.exec = Jvm.exec) (hb : c.code = cc) (harr : (Cond.arrayClass .int).before args s = true) (hK : va_K D cl tys s) (hP : va_P D cl ws H) (hD : va_D A ws) (hS : va_S A H0 H locs) (hA : ∀ q, H0.size ≤ q → A q) (t0 : Nat) {cA : ClassId} (ht : tys[t0]? = some (cA, .int)) {n : Int32} (N : Nat) (hn : ¬ n < 0) (hN : n.toNatClampNeg = N) (hbytes : N * componentBytes .int ≤ 536870912) (k1 s1 : Nat) (hk1 : cells + 1 = k1) (hs1 : slots + N = s1) (hcells : k1 ≤ R.cells) (hslots : s1 ≤ R.slots) (hdg : decode cc pc = .ok (.newarray .int, 2))
    (kk : ∀ (q : Nat) (H1 : Heap), va_P D cl (ws ++ [(q, .inl (cA, N, .inl (fun _ => 0)))]) H1 → va_D A (ws ++ [(q, .inl (cA, N, .inl (fun _ => 0)))]) → va_S A H0 H1 locs → W p l e R s m args below meth c H1 locs k1 s1 Q (F0 m (pc + 2) ls (.ref q :: rest))) : W p l e R s m args below meth c H locs cells slots Q (F0 m pc ls (.int n :: rest)) := by
  subst hk1 hs1
  refine va_newa (atype := .int) (ty := .int) (N' := N) (a0 := (N, .inl (fun _ => 0))) hx hb harr rfl hK hP hD hS hA (fun cA => rfl) hn hN hbytes hcells hslots hdg (fun q cB H1 hK1 h1 h2 h3 => ?_)
  have hq := (hK1.2 tys.length (cB, .int) (by rw [List.getElem?_append_right (Nat.le_refl _), Nat.sub_self]; rfl)).2
  have e1 : cA = cB := va_RA_uni (hK.2 t0 _ ht).2 hq
  subst e1
  exact kk q H1 h1 h2 h3
theorem k_newZ (hx : p.tables.exec = Jvm.exec) (hb : c.code = cc) (harr : (Cond.arrayClass .boolean).before args s = true) (hK : va_K D cl tys s) (hP : va_P D cl ws H) (hD : va_D A ws) (hS : va_S A H0 H locs) (hA : ∀ q, H0.size ≤ q → A q) (t0 : Nat) {cA : ClassId} (ht : tys[t0]? = some (cA, .boolean)) {n : Int32} (N : Nat) (hn : ¬ n < 0) (hN : n.toNatClampNeg = N) (hbytes : N * componentBytes .boolean ≤ 536870912) (k1 s1 : Nat) (hk1 : cells + 1 = k1) (hs1 : slots + N = s1) (hcells : k1 ≤ R.cells) (hslots : s1 ≤ R.slots) (hdg : decode cc pc = .ok (.newarray .boolean, 2))
    (kk : ∀ (q : Nat) (H1 : Heap), va_P D cl (ws ++ [(q, .inl (cA, N, .inl (fun _ => 0)))]) H1 → va_D A (ws ++ [(q, .inl (cA, N, .inl (fun _ => 0)))]) → va_S A H0 H1 locs → W p l e R s m args below meth c H1 locs k1 s1 Q (F0 m (pc + 2) ls (.ref q :: rest))) : W p l e R s m args below meth c H locs cells slots Q (F0 m pc ls (.int n :: rest)) := by
  subst hk1 hs1
  refine va_newa (atype := .boolean) (ty := .boolean) (N' := N) (a0 := (N, .inl (fun _ => 0))) hx hb harr rfl hK hP hD hS hA (fun cA => rfl) hn hN hbytes hcells hslots hdg (fun q cB H1 hK1 h1 h2 h3 => ?_)
  have hq := (hK1.2 tys.length (cB, .boolean) (by rw [List.getElem?_append_right (Nat.le_refl _), Nat.sub_self]; rfl)).2
  have e1 : cA = cB := va_RA_uni (hK.2 t0 _ ht).2 hq
  subst e1
  exact kk q H1 h1 h2 h3
theorem k_newQ (hx : p.tables.exec = Jvm.exec) (hb : c.code = cc) {own C : String} {index : Nat} (hown : s.vm.findClass own = some m.cls) (hclink : (Cond.classLink own index C).before args s = true) (hover : va_AO C s) (hK : va_K D cl tys s) (hP : va_P D cl ws H) (hD : va_D A ws) (hS : va_S A H0 H locs) (hA : ∀ q, H0.size ≤ q → A q) (t0 : Nat) {cA : ClassId} (ht : tys[t0]? = some (cA, .object C)) {n : Int32} (N : Nat) (hn : ¬ n < 0) (hN : n.toNatClampNeg = N) (hbytes : N * 4 ≤ 536870912) (k1 s1 : Nat) (hk1 : cells + 1 = k1) (hs1 : slots + N = s1) (hcells : k1 ≤ R.cells) (hslots : s1 ≤ R.slots) (hdg : decode cc pc = .ok (.anewarray index, 3))
    (kk : ∀ (q : Nat) (H1 : Heap), va_P D cl (ws ++ [(q, .inl (cA, N, .inr (.inr (.inr (.inr (fun _ => none))))))]) H1 → va_D A (ws ++ [(q, .inl (cA, N, .inr (.inr (.inr (.inr (fun _ => none))))))]) → va_S A H0 H1 locs → W p l e R s m args below meth c H1 locs k1 s1 Q (F0 m (pc + 3) ls (.ref q :: rest))) : W p l e R s m args below meth c H locs cells slots Q (F0 m pc ls (.int n :: rest)) := by
  subst hk1 hs1
  refine va_newq hx hb hown hclink hover hK hP hD hS hA hn hN hbytes hcells hslots hdg (fun q cB H1 hK1 h1 h2 h3 => ?_)
  have hq := (hK1.2 tys.length (cB, .object C) (by rw [List.getElem?_append_right (Nat.le_refl _), Nat.sub_self]; rfl)).2
  have e1 : cA = cB := va_RA_uni (hK.2 t0 _ ht).2 hq
  subst e1
  exact kk q H1 h1 h2 h3
theorem k_astq {a : Nat} (hx : p.tables.exec = Jvm.exec) (hb : c.code = cc) (hK : va_K D cl tys s) (hP : va_P D cl ws H) (hD : va_D A ws) (hS : va_S A H0 H locs) (q0 t0 qk ci : Nat) {cA : ClassId} {r : vw_C} {n v : Nat} {vs : List Value} {f : Nat → Option Nat} (ha : ws[q0]? = some (a, .inl (cA, n, .inr (.inr (.inr (.inr f)))))) (ht : tys[t0]? = some (cA, .object r.1)) (hv : ws[qk]? = some (v, .inr (ci, vs))) (hc : cl[ci]? = some r) {i : Int32} (k : Nat) (hk : k < n) (hn : n < 2 ^ 31) (hi : i = nI k) (hdg : decode cc pc = .ok (.aastore, 1))
    (kk : ∀ (H1 : Heap) (locs1 : List Loc), va_P D cl (ws.set q0 (a, .inl (cA, n, .inr (.inr (.inr (.inr (va_up f k (some v)))))))) H1 → va_D A (ws.set q0 (a, .inl (cA, n, .inr (.inr (.inr (.inr (va_up f k (some v)))))))) → va_S A H0 H1 locs1 → W p l e R s m args below meth c H1 locs1 cells slots Q (F0 m (pc + 1) ls rest)) : W p l e R s m args below meth c H locs cells slots Q (F0 m pc ls (.ref v :: .int i :: .ref a :: rest)) := by
  subst hi
  refine va_astq hx hb hK hP hD hS q0 t0 qk ci ha ht hv hc (vp_in_nI hk hn) hdg (fun H1 locs1 h1 h2 h3 => kk H1 locs1 ?_ ?_ h3)
  · rw [nI_clamp (by omega)] at h1; exact h1
  · rw [nI_clamp (by omega)] at h2; exact h2
theorem k_iast {a : Nat} (hx : p.tables.exec = Jvm.exec) (hb : c.code = cc) (hK : va_K D cl tys s) (hP : va_P D cl ws H) (hD : va_D A ws) (hS : va_S A H0 H locs) (q0 t0 : Nat) {cA : ClassId} {n : Nat} {f : Nat → Int32} (ha : ws[q0]? = some (a, .inl (cA, n, .inl f))) (ht : tys[t0]? = some (cA, .int)) {i x : Int32} (k : Nat) (hk : k < n) (hn : n < 2 ^ 31) (hi : i = nI k) (hdg : decode cc pc = .ok (.iastore, 1))
    (kk : ∀ (H1 : Heap) (locs1 : List Loc), va_P D cl (ws.set q0 (a, .inl (cA, n, .inl (upd f k x)))) H1 → va_D A (ws.set q0 (a, .inl (cA, n, .inl (upd f k x)))) → va_S A H0 H1 locs1 → W p l e R s m args below meth c H1 locs1 cells slots Q (F0 m (pc + 1) ls rest)) : W p l e R s m args below meth c H locs cells slots Q (F0 m pc ls (.int x :: .int i :: .ref a :: rest)) := by
  subst hi
  refine va_iast hx hb hK hP hD hS q0 t0 ha ht (vp_in_nI hk hn) hdg (fun H1 locs1 h1 h2 h3 => kk H1 locs1 ?_ ?_ h3)
  · rw [nI_clamp (by omega)] at h1; exact h1
  · rw [nI_clamp (by omega)] at h2; exact h2
theorem k_zast {a : Nat} (hx : p.tables.exec = Jvm.exec) (hb : c.code = cc) (hK : va_K D cl tys s) (hP : va_P D cl ws H) (hD : va_D A ws) (hS : va_S A H0 H locs) (q0 t0 : Nat) {cA : ClassId} {n : Nat} {f : Nat → Int32} (ha : ws[q0]? = some (a, .inl (cA, n, .inl f))) (ht : tys[t0]? = some (cA, .boolean)) {i x : Int32} (hv : vp_nar .boolean x = x) (k : Nat) (hk : k < n) (hn : n < 2 ^ 31) (hi : i = nI k) (hdg : decode cc pc = .ok (.bastore, 1))
    (kk : ∀ (H1 : Heap) (locs1 : List Loc), va_P D cl (ws.set q0 (a, .inl (cA, n, .inl (upd f k x)))) H1 → va_D A (ws.set q0 (a, .inl (cA, n, .inl (upd f k x)))) → va_S A H0 H1 locs1 → W p l e R s m args below meth c H1 locs1 cells slots Q (F0 m (pc + 1) ls rest)) : W p l e R s m args below meth c H locs cells slots Q (F0 m pc ls (.int x :: .int i :: .ref a :: rest)) := by
  subst hi
  refine va_zast hx hb hK hP hD hS q0 t0 ha ht (vp_in_nI hk hn) hdg (fun H1 locs1 h1 h2 h3 => kk H1 locs1 ?_ ?_ h3)
  · rw [hv, nI_clamp (by omega)] at h1; exact h1
  · rw [hv, nI_clamp (by omega)] at h2; exact h2
/-- behind a constructor's call: what it made stands beside the rest, which is as it was -/
theorem k_call {q mc ms k1 s1 : Nat} {e0 : va_E} {X : va_W} {L : (Nat → Nat) → va_W} {av : Array Value} {free : Addr → Prop} (run : va_Run p l e R s m args below meth c H locs cells slots mc ms (F0 m pc ls st0) rest (kQ D q e0 H.size L av) free) (hfree : free = va_A [(q, e0)] H.size) (hP : va_P D vwCl (X ++ [(q, e0)]) H) (hD : va_D A (X ++ [(q, e0)])) (hS : va_S A H0 H locs) (hA : ∀ q, H0.size ≤ q → A q) (hk1 : cells + mc = k1) (hs1 : slots + ms = s1)
    (kk : ∀ (g : Nat → Nat) (H1 : Heap) (locs1 : List Loc), g 0 = q → va_P D vwCl (X ++ L g) H1 → va_D A (X ++ L g) → va_S A H0 H1 locs1 → W p l e R s m args below meth c H1 locs1 k1 s1 Q (F0 m (pc + 3) ls rest)) : W p l e R s m args below meth c H locs cells slots Q (F0 m pc ls st0) := by
  subst hk1 hs1 hfree
  have hXat : ∀ (k : Nat) (x : Nat × va_E), X[k]? = some x → (X ++ [(q, e0)])[k]? = some x := fun k x hx => by
    rw [List.getElem?_append_left (List.getElem?_eq_some_iff.mp hx).1]; exact hx
  have hlast : (X ++ [(q, e0)])[X.length]? = some (q, e0) := by rw [List.getElem?_append_right (Nat.le_refl _), Nat.sub_self]; rfl
  have hF : ∀ z, va_A [(q, e0)] H.size z → A z := by
    rintro z (⟨k, e9, h⟩ | h)
    · have : (q, e0) = (z, e9) := by
        have h2 := List.mem_of_getElem? h
        have h4 : (z, e9) = (q, e0) := by simpa using h2
        exact h4.symm
      have h3 := hD.2 _ _ hlast
      rw [this] at h3
      exact h3
    · exact hA z (Nat.le_trans hS.1 h)
  have hapart : ∀ (k : Nat) (x : Nat × va_E), X[k]? = some x → x.1 < H.size ∧ ¬ va_A [(q, e0)] H.size x.1 := by
    intro k x hx
    have hlt := (hP k x (hXat k x hx)).lt
    refine ⟨hlt, ?_⟩
    rintro (⟨j, e9, h⟩ | h)
    · have h2 : (x.1, e9) = (q, e0) := by
        have h2 := List.mem_of_getElem? h
        simpa using h2
      have h3 : x.1 = q := congrArg Prod.fst h2
      have h4 := hD.1 k X.length x (q, e0) (hXat k x hx) hlast h3
      have h5 := (List.getElem?_eq_some_iff.mp hx).1
      omega
    · omega
  refine va_callv (A1 := va_A [(q, e0)] H.size) (A0 := A) (H0 := H0) run hS (fun z _ h => hF z h) hF (fun g t H1 locs1 ht hvm hg hB hz hk hS1 => ?_)
  obtain ⟨hP1, hD1⟩ := hB
  rw [ht] at hP1
  have hPX : va_P D vwCl X H1 := fun k x hx => (hP k x (hXat k x hx)).kept (hk x.1 (hapart k x hx).1 (hapart k x hx).2)
  have hDX : va_D A X := ⟨fun i j a b ha hb e => hD.1 i j a b (hXat i a ha) (hXat j b hb) e, fun k x hx => hD.2 k x (hXat k x hx)⟩
  refine kk g H1 locs1 hg (va_P.app hPX hP1) (va_D.app hDX (hD1.weaken (fun _ _ _ h => hF _ h)) ?_) hS1
  intro i j a b ha hb e
  have h1 := hD1.2 j b hb
  rw [← e] at h1
  exact (hapart i a ha).2 h1
theorem k_pre {q : Nat} {e0 : va_E} {X : va_W} {cy : Nat → ClassId} (hK : va_K D vwCl (tys5 cy) s) (hX : kX s) (hP : va_P D vwCl (X ++ [(q, e0)]) H) : PreS s H (va_Pc [.ref q] (kPre D cy q e0 H.size)) [.ref q] :=
  ⟨kPre_blind, fun U hU hW => ⟨rfl, by rw [hU], fun k x hx => by
    rw [hU]
    have h2 := List.mem_of_getElem? hx
    have h3 : x = (q, e0) := by simpa using h2
    subst h3
    exact hP X.length _ (by rw [List.getElem?_append_right (Nat.le_refl _), Nat.sub_self]; rfl), va_K.moved hW.alike hK, hX.warm hW⟩⟩
theorem k_ret {h0 sz : Nat} {e0 : va_E} {L : (Nat → Nat) → va_W} (g : Nat → Nat) (hx : p.tables.exec = Jvm.exec) (hb : c.code = cc) (hr : meth.sig.returnType = none) (hlocks : meth.locks = false) (hg : g 0 = h0) (hP : va_P D vwCl (L g) H) (hD : va_D (va_A [(h0, e0)] sz) (L g)) (hS : va_S (va_A [(h0, e0)] sz) s.heap H locs) (hdg : decode cc pc = .ok (.return_, 1)) : W p l e R s m args below meth c H locs cells slots (MQ below (kQ D h0 e0 sz L) args s cells slots (va_A [(h0, e0)] sz)) (F0 m pc ls []) :=
  W.vret hx hb hr (fun t ht hW => ⟨⟨g, rfl, hg, by rw [ht]; exact hP, hD⟩, hS.F ht⟩) hS.2.2 hdg
theorem k_met {y : MethodName} {maxL mc ms h0 sz : Nat} {e0 : va_E} {L : (Nat → Nat) → va_W} {cy : Nat → ClassId} {ws1 ws' : List Cond} {rm : Room} (hy : plainName y.cls = true) (hyn : y.name = "<init>") (hw : ws1 = Cond.code y cc maxL none :: ws') (hlen : (lg_sl [Value.ref h0]).length ≤ maxL)
    (body : ∀ (p : Program) (e : Env) (s : State) (m : MethodId) (below : List Frame) (meth : Method) (c : Code), CallFix p m c cc maxL s #[Value.ref h0] ws1 y.cls → meth.sig.returnType = none → meth.locks = false → meth.name = "<init>" → s.heap.size = sz → va_P D vwCl [(h0, e0)] s.heap → va_K D vwCl (tys5 cy) s → kX s → va_D (va_A [(h0, e0)] sz) [(h0, e0)] → (∀ q, s.heap.size ≤ q → va_A [(h0, e0)] sz q) → ∀ ls : Array Slot, lv_has ls maxL [(0, .ref h0)] →
      W p l e rm s m #[Value.ref h0] below meth c s.heap [] 0 0 (MQ below (kQ D h0 e0 sz L) #[Value.ref h0] s mc ms (va_A [(h0, e0)] sz)) (F0 m 0 ls [])) : Met l y ws1 rm (va_Pc [.ref h0] (kPre D cy h0 e0 sz)) (kQ D h0 e0 sz L) mc ms (va_A [(h0, e0)] sz) := by
  refine Met.ofW (cc := cc) (maxL := maxL) (ret := none) hy hw ?_
  intro p e s m args below meth c s₁ B hml hv
  obtain ⟨rfl, hsz, hP, hK, hX⟩ := hv
  have hl := lv_entry [Value.ref h0] (n := maxL) hlen
  rw [lg_entry_eq]
  refine body p e s m below meth c ⟨B.exec, B.bytes, hml, findClass_of_methodNamed B.named, atoms_spec (ws := ws1) B.pre⟩ B.returns B.notSynchronized ?_ hsz hP hK hX ?_ ?_ _ hl
  · rw [(name_of_methodNamed B.named B.method).1, hyn]
  · refine ⟨fun i j a b ha hb _ => ?_, fun k x hx => va_A.in hx⟩
    have h1 := (List.getElem?_eq_some_iff.mp ha).1
    have h2 := (List.getElem?_eq_some_iff.mp hb).1
    simp at h1 h2
    omega
  · intro q h
    exact Or.inr (by rw [← hsz]; exact h)
end KR
