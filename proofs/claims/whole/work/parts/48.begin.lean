/-! What the tables and the Statement give at the law's entry. -/
abbrev wyE : String := "BenchRuns$Way"
abbrev wyD : String := "LBenchRuns$Way;"
abbrev mtT : Term := .static "BenchRuns" "MOST_N" "[I"
abbrev flG : List Cond := flatC (Jvm.Cond.and given_1 narrow_1)
theorem st_l : ∀ i, i < 7 → Cond.laysStatic wyE (wyN.getD i "") wyD ∈ lw_tbl := by decide +kernel
theorem st_x : ∀ i, i < 7 → Cond.exactly (.static wyE (wyN.getD i "") wyD) wyE ∈ flG := by decide +kernel
theorem st_d : ∀ i, i < 7 → ∀ j, j < 7 → i ≠ j → Cond.not (.eq (.static wyE (wyN.getD i "") wyD) (.static wyE (wyN.getD j "") wyD)) ∈ flG ∨ Cond.not (.eq (.static wyE (wyN.getD j "") wyD) (.static wyE (wyN.getD i "") wyD)) ∈ flG := by decide +kernel
theorem st_e : ∀ j, j < 18 → Cond.eq (.elem mtT (.int (Int32.ofNat j))) (.int (mostL.getD j 0)) ∈ flG := by decide +kernel
theorem st_1 : Cond.initialized wyE ∈ lw_tbl := by decide +kernel
theorem st_2 : Cond.initialized "BenchRuns" ∈ lw_tbl := by decide +kernel
theorem st_3 : Cond.laysStatic "BenchRuns" "MOST_N" "[I" ∈ lw_tbl := by decide +kernel
theorem st_4 : Cond.arrayOf mtT .int ∈ flG := by decide +kernel
theorem st_5 : Cond.eq (.length mtT) (.int (Int32.ofNat 18)) ∈ flG := by decide +kernel
theorem st_6 : Cond.arrayClass .int ∈ lw_tbl := by decide +kernel
theorem st_7 : Cond.arrayClass .boolean ∈ lw_tbl := by decide +kernel
theorem st_8 : Cond.arrayOver (.object "BenchRuns$Batch") ∈ lw_tbl := by decide +kernel
theorem st_9 : Cond.arrayOver (.object "BenchRuns$Round") ∈ lw_tbl := by decide +kernel
theorem st_10 : Cond.arrayOver (.object "BenchRuns$Tool") ∈ lw_tbl := by decide +kernel
theorem st_11 : Cond.methodLinkNest RX0 24 yX2_init hostB ∈ lw_tbl := by decide +kernel
theorem st_12 : Cond.methodLinkNest RX6 30 yX3_init hostB ∈ lw_tbl := by decide +kernel
theorem st_13 : Cond.methodLinkNest RX6 37 yX1_init hostB ∈ lw_tbl := by decide +kernel
theorem st_14 : Cond.methodLinkNest RX6 47 yX4_init hostB ∈ lw_tbl := by decide +kernel
section ST
variable {s : State} {b : Nat}
theorem st_statics (hts : ∀ w ∈ lw_tbl, w.before #[Value.ref b] s = true) (hgv : (Jvm.Cond.and given_1 narrow_1).before #[Value.ref b] s = true) : ∃ (wy : Nat → Nat) (mt : Nat), gX (fun q : Nat => s.heap.size ≤ q) wy mt s s.heap := by
  have hs := flat_of_before _ hgv
  have hA : ∀ a : Nat, a < s.heap.size → ¬ (fun q : Nat => s.heap.size ≤ q) a := fun a h => Nat.not_le.mpr h
  obtain ⟨wy, hE⟩ := va_Enof (args := #[Value.ref b]) (s := s) (E := wyE) (d := wyD) (nm := wyN) (F := []) (A := fun q : Nat => s.heap.size ≤ q) (fun i hi => hts _ (st_l i hi)) (hts _ st_1) (fun i hi => hs _ (st_x i hi)) (fun q hq => absurd hq List.not_mem_nil) (fun i j hi hj hne => by
    rcases st_d i hi j hj hne with h | h
    · exact Or.inl (hs _ h)
    · exact Or.inr (hs _ h)) hA
  obtain ⟨mt, hv, hT⟩ := va_Tof (args := #[Value.ref b]) (s := s) (tm := mtT) (ty := .int) (N := 18) (f := fun k => .int (mostL.getD k 0)) (A := fun q : Nat => s.heap.size ≤ q) (by decide) (hs _ st_4) (va_eqt (hs _ st_5)) (fun j hj => va_eqt (hs _ (st_e j hj))) hA
  exact ⟨wy, mt, hE, va_Zref (hts _ st_3) (hts _ st_2) hv hA, hT⟩
theorem st_arrays (hts : ∀ w ∈ lw_tbl, w.before #[Value.ref b] s = true) : ∃ cy : Nat → ClassId, ∀ (k : Nat) (q : ClassId × FieldType), (tys5 cy)[k]? = some q → ArrOfT s q.1 q.2 ∧ va_RA s q.1 q.2 := by
  obtain ⟨c0, k0, p0, a1, a2, a3⟩ := Cond.arrayClass_spec (hts _ st_6)
  obtain ⟨c1, k1, p1, b1, b2, b3⟩ := Cond.arrayClass_spec (hts _ st_7)
  obtain ⟨p2, c2, k2, d1, -, d2, d3, d4⟩ := Cond.arrayOver_spec (hts _ st_8)
  obtain ⟨p3, c3, k3, e1, -, e2, e3, e4⟩ := Cond.arrayOver_spec (hts _ st_9)
  obtain ⟨p4, c4, k4, f1, -, f2, f3, f4⟩ := Cond.arrayOver_spec (hts _ st_10)
  refine ⟨fun k => if k = 0 then c0 else if k = 1 then c1 else if k = 2 then c2 else if k = 3 then c3 else c4, fun k q hq => ?_⟩
  match k, hq with
  | 0, hq => cases hq; exact ⟨fun N z => ⟨(fun k h => by cases h), k0, a2, p0, a3⟩, a1⟩
  | 1, hq => cases hq; exact ⟨fun N z => ⟨(fun k h => by cases h), k1, b2, p1, b3⟩, b1⟩
  | 2, hq => cases hq; exact ⟨fun N z => ⟨(fun k h => by cases h), k2, d2, p2, d3⟩, k2, p2, d2, d3, d1, d4⟩
  | 3, hq => cases hq; exact ⟨fun N z => ⟨(fun k h => by cases h), k3, e2, p3, e3⟩, k3, p3, e2, e3, e1, e4⟩
  | 4, hq => cases hq; exact ⟨fun N z => ⟨(fun k h => by cases h), k4, f2, p4, f3⟩, k4, p4, f2, f3, f1, f4⟩
  | n + 5, hq => simp [tys5] at hq
theorem st_kX (hts : ∀ w ∈ lw_tbl, w.before #[Value.ref b] s = true) : kX s := ⟨⟨va_AO.of (hts _ st_9), va_AO.of (hts _ st_8), va_AO.of (hts _ st_10)⟩, va_Nw.of rfl (hts _ st_11), va_Nw.of rfl (hts _ st_12), va_Nw.of rfl (hts _ st_13), va_Nw.of rfl (hts _ st_14)⟩
theorem st_known (hts0 : ∀ w ∈ lw_tbl, w.before #[Value.ref b] s = true) : ∃ D : va_G, ∀ (k : Nat) (q : vw_C), vwCl[k]? = some q → u_Kn s q.1 q.2.1 q.2.2 (D.1 k) (D.2 k) := by
  have hts : ∀ w ∈ wsL_law, w.before #[Value.ref b] s = true := fun w h => hts0 w (wsL_law_in w h)
  obtain ⟨c0, i0, h0⟩ := u_known (C := RX0) (T := TX0) (N := 3) (n := 3) hts inlX0 (hts0 (.instantiable RX0 3) (by decide +kernel))
  obtain ⟨c1, i1, h1⟩ := u_known (C := RX1) (T := TX1) (N := 7) (n := 7) hts inlX1 (hts0 (.instantiable RX1 7) (by decide +kernel))
  obtain ⟨c2, i2, h2⟩ := u_known (C := RX2) (T := TX2) (N := 4) (n := 4) hts inlX2 (hts0 (.instantiable RX2 4) (by decide +kernel))
  obtain ⟨c3, i3, h3⟩ := u_known (C := RX3) (T := TX3) (N := 6) (n := 6) hts inlX3 (hts0 (.instantiable RX3 6) (by decide +kernel))
  obtain ⟨c4, i4, h4⟩ := u_known (C := RX4) (T := TX4) (N := 3) (n := 3) hts inlX4 (hts0 (.instantiable RX4 3) (by decide +kernel))
  obtain ⟨c5, i5, h5⟩ := u_known (C := RX6) (T := TX6) (N := 7) (n := 7) hts inlX6 (hts0 (.instantiable RX6 7) (by decide +kernel))
  obtain ⟨c6, i6, h6⟩ := u_known (C := RX7) (T := TX7) (N := 28) (n := 28) hts inlX7 (hts0 (.instantiable RX7 28) (by decide +kernel))
  refine ⟨(fun k => if k = 0 then c0 else if k = 1 then c1 else if k = 2 then c2 else if k = 3 then c3 else if k = 4 then c4 else if k = 5 then c5 else c6, fun k => if k = 0 then i0 else if k = 1 then i1 else if k = 2 then i2 else if k = 3 then i3 else if k = 4 then i4 else if k = 5 then i5 else i6), fun k q hq => ?_⟩
  match k, hq with
  | 0, hq => cases hq; exact h0
  | 1, hq => cases hq; exact h1
  | 2, hq => cases hq; exact h2
  | 3, hq => cases hq; exact h3
  | 4, hq => cases hq; exact h4
  | 5, hq => cases hq; exact h5
  | 6, hq => cases hq; exact h6
  | n + 7, hq => simp [vwCl] at hq
end ST
