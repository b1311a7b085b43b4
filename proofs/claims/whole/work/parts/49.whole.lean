/-! The law from its entry -/
set_option maxHeartbeats 4000000 in
set_option maxRecDepth 100000 in
theorem st_apart {A : Nat → Prop} {cy : Nat → ClassId} {D : va_G} {g g2 : Nat → Nat} (hD : va_D A (([] ++ benchL cy g) ++ modelL cy g2)) : (∀ q, mA 98 (cAd g) q → ¬ mA 18 g2 q) := by
  rintro q ⟨i, hi, rfl⟩ ⟨j, hj, e⟩
  obtain ⟨e1, h1⟩ := bench_at (cy := cy) (g := g) (cpos_lt i hi)
  obtain ⟨e2, h2, -⟩ := model_at D cy g2 j hj
  have hlt := (List.getElem?_eq_some_iff.mp h1).1
  have h3 : (([] ++ benchL cy g) ++ modelL cy g2)[cpos i]? = some (g (cpos i), e1) := by
    rw [List.nil_append, List.getElem?_append_left hlt]
    exact h1
  have h4 : (([] ++ benchL cy g) ++ modelL cy g2)[(benchL cy g).length + j]? = some (g2 j, e2) := by
    rw [List.nil_append, List.getElem?_append_right (by omega), show (benchL cy g).length + j - (benchL cy g).length = j by omega]
    exact h2
  have h5 := hD.1 _ _ _ _ h3 h4 e
  omega
set_option maxHeartbeats 4000000 in
set_option maxRecDepth 100000 in
/-- THE LAW, from its entry -/
theorem whole_start {p : Program} {e : Env} {s : State} {m : MethodId} {below : List Frame} {meth : Method} {c : Code} (l : Launch) {b L : Nat} {xs : Nat → Int32} (hL : L ≤ 2048) (C0 : lw_At p s m meth c b L xs) : W p l e room_1 s m #[Value.ref b] below meth c s.heap [] 0 0 (lw_Z below #[Value.ref b] s) (entryFrame m ([Value.ref b] : List Value).toArray 4) := by
  obtain ⟨hx, hb, hr, hml, hown, hts0, hX, hbl, hlocks, hgv⟩ := id C0
  have hown : s.vm.findClass RL = some m.cls := hown
  have hts : ∀ w ∈ wsL_law, w.before #[Value.ref b] s = true := fun w h => hts0 w (wsL_law_in w h)
  have hA : ∀ q : Nat, s.heap.size ≤ q → (fun q : Nat => s.heap.size ≤ q) q := fun _ h => h
  obtain ⟨wy, mt, hG⟩ := st_statics hts0 hgv
  obtain ⟨cy, hcy⟩ := st_arrays hts0
  obtain ⟨D, hDk⟩ := st_known hts0
  have hkX : kX s := st_kX hts0
  have hK : va_K D vwCl (tys5 cy) s := ⟨hDk, hcy⟩
  have hS : va_S (fun q : Nat => s.heap.size ≤ q) s.heap s.heap [] := va_S.rf
  have hP : va_P D vwCl [] s.heap := fun k q h => by simp at h
  have hD : va_D (fun q : Nat => s.heap.size ≤ q) [] := ⟨fun i j p q h => by simp at h, fun k q h => by simp at h⟩
  have hl := lv_entry ([.ref b]) (n := 4) (Nat.le_of_ble_eq_true rfl)
  rw [lg_entry_eq]
  generalize (lg_sl ([.ref b]) ++ List.replicate (4 - (lg_sl ([.ref b])).length) Slot.unset).toArray = ls at hl ⊢
  have hl : lv_has ls 4 [(0, .ref b)] := hl
  have w1 := hts0 (.classLink RL 7 RX6) (by decide +kernel)
  have w2 := hts0 (.instantiable RX6 7) (by decide +kernel)
  have w3 := hts0 (.initialized RX6) (by decide +kernel)
  have w4 := hts0 (.methodLink RL 9 yX6_init) (by decide +kernel)
  have w5 := hts0 (.instanceMethod yX6_init) (by decide +kernel)
  have v1 := hts0 (.classLink RL 10 RX7) (by decide +kernel)
  have v2 := hts0 (.instantiable RX7 28) (by decide +kernel)
  have v3 := hts0 (.initialized RX7) (by decide +kernel)
  have v4 := hts0 (.methodLink RL 12 yX7_init) (by decide +kernel)
  have v5 := hts0 (.instanceMethod yX7_init) (by decide +kernel)
  refine va_new (ci := 5) (fs := [.null, .null, .null, .null, .null, .null, .int 0]) (C := RX6) (T := TX6) (N := 7) hx hb hts inlX6 tyX6 tyX6_ok hown w1 w2 w3 hK hP hD hS hA rfl dfX6 (Nat.le_of_ble_eq_true rfl) (Nat.le_of_ble_eq_true rfl) dL_law_0 (fun q0 H hP hD hS => ?_)
  refine W.widen (k := 1) (n := 7) (Nat.le_of_ble_eq_true rfl) (Nat.le_of_ble_eq_true rfl) ?_
  refine lv_dup hx hb dL_law_3 rfl ?_
  refine k_call (L := benchL cy) (k1 := 98) (s1 := 1029) (va_runI (As := []) (rest := [.ref q0]) ⟨hx, hb, hml, hown, hts⟩ (k_X6_init l D cy q0 H.size) (cwI 0 hts gL_law_X6_init rfl rfl rfl w3 w4 w5 rfl (by decide +kernel) ⟨(Nat.le_of_ble_eq_true rfl), (Nat.le_of_ble_eq_true rfl)⟩) (k_pre hK hkX hP) rfl rfl hl.1 rfl (lv_room (Nat.le_of_ble_eq_true rfl)) dL_law_4 ⟨(Nat.le_of_ble_eq_true rfl), (Nat.le_of_ble_eq_true rfl)⟩) rfl hP hD hS hA rfl rfl (fun g H locs hg hP1 hD1 hS1 => ?_)
  clear hP hD hS
  subst hg
  have hP := hP1
  have hD := hD1
  have hS := hS1
  clear hP1 hD1 hS1
  refine lv_astore_n (lv' := [(1, .ref (g 0)), (0, .ref b)]) hx hb dL_law_7 rfl hl (by decide) rfl (fun ls hl => ?_)
  refine va_new (ci := 6) (fs := [.int 0, .null, .null, .null, .null, .null, .null, .null, .null, .null, .null, .null, .int 0, .int 0, .int 0, .null, .int 0, .int 0, .null, .null, .null, .null, .null, .int 0, .int 0, .int 0, .int 0, .int 0]) (C := RX7) (T := TX7) (N := 28) hx hb hts inlX7 tyX7 tyX7_ok hown v1 v2 v3 hK hP hD hS hA rfl dfX7 (Nat.le_of_ble_eq_true rfl) (Nat.le_of_ble_eq_true rfl) dL_law_8 (fun q1 H hP hD hS => ?_)
  refine W.widen (k := 99) (n := 1057) (Nat.le_of_ble_eq_true rfl) (Nat.le_of_ble_eq_true rfl) ?_
  refine lv_dup hx hb dL_law_11 rfl ?_
  refine k_call (L := modelL cy) (k1 := 116) (s1 := 1992) (va_runI (As := []) (rest := [.ref q1]) ⟨hx, hb, hml, hown, hts⟩ (k_X7_init l D cy q1 H.size) (cwI 0 hts gL_law_X7_init rfl rfl rfl v3 v4 v5 rfl (by decide +kernel) ⟨(Nat.le_of_ble_eq_true rfl), (Nat.le_of_ble_eq_true rfl)⟩) (k_pre hK hkX hP) rfl rfl hl.1 rfl (lv_room (Nat.le_of_ble_eq_true rfl)) dL_law_12 ⟨(Nat.le_of_ble_eq_true rfl), (Nat.le_of_ble_eq_true rfl)⟩) rfl hP hD hS hA rfl rfl (fun g2 H locs hg hP1 hD1 hS1 => ?_)
  clear hP hD hS
  subst hg
  have hP := hP1
  have hD := hD1
  have hS := hS1
  clear hP1 hD1 hS1
  refine W.widen (k := 600000) (n := 7302250) (Nat.le_of_ble_eq_true rfl) (Nat.le_of_ble_eq_true rfl) ?_
  refine lv_astore_n (lv' := [(2, .ref (g2 0)), (1, .ref (g 0)), (0, .ref b)]) hx hb dL_law_15 rfl hl (by decide) rfl (fun ls hl => ?_)
  refine lv_iconst (v := 0) hx hb dL_law_16 (by decide) ?_
  refine lv_istore_n (lv' := [(3, .int 0), (2, .ref (g2 0)), (1, .ref (g 0)), (0, .ref b)]) hx hb dL_law_17 rfl hl (by decide) rfl (fun ls hl => ?_)
  have hap := st_apart (D := D) hD
  have hDb : va_D (fun q : Nat => s.heap.size ≤ q) (benchL cy g) := ⟨fun i j a b ha hb e => hD.1 i j a b (by rw [List.nil_append, List.getElem?_append_left (List.getElem?_eq_some_iff.mp ha).1]; exact ha) (by rw [List.nil_append, List.getElem?_append_left (List.getElem?_eq_some_iff.mp hb).1]; exact hb) e, fun k x hx => hD.2 k x (by rw [List.nil_append, List.getElem?_append_left (List.getElem?_eq_some_iff.mp hx).1]; exact hx)⟩
  have hDm : va_D (fun q : Nat => s.heap.size ≤ q) (modelL cy g2) := ⟨fun i j a b ha hb e => by
      have h9 := hD.1 ((benchL cy g).length + i) ((benchL cy g).length + j) a b (by rw [List.nil_append, List.getElem?_append_right (by omega), show (benchL cy g).length + i - (benchL cy g).length = i by omega]; exact ha) (by rw [List.nil_append, List.getElem?_append_right (by omega), show (benchL cy g).length + j - (benchL cy g).length = j by omega]; exact hb) e
      omega, fun k x hx => hD.2 ((benchL cy g).length + k) x (by rw [List.nil_append, List.getElem?_append_right (by omega), show (benchL cy g).length + k - (benchL cy g).length = k by omega]; exact hx)⟩
  obtain ⟨hP1, hj1, hs1⟩ := bench_world (va_P.right (va_P.left hP)) hDb
  obtain ⟨hP2, hj2, hs2⟩ := model_world (va_P.right hP) hDm
  have hl : lv_has ls 4 [(0, .ref b), (1, .ref (cAd g 0)), (2, .ref (g2 0)), (3, .int (nI 0))] := lv_sub hl [3, 2, 1, 0] rfl
  exact law_loop hL C0 hK hG hj1 hj2 hs1 hs2 (fun q h1 h2 => hap q h2 h1) hap (L + 1) 0 sg0 tu0 (Nat.zero_le L) (by omega) Z0 H _ hP1 hP2 hS ls hl
