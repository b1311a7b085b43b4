/-! The law's loop -/
set_option maxHeartbeats 16000000 in
set_option maxRecDepth 100000 in
/-- THE LAW'S LOOP: at its head, with i ints read, class and reference tell the same -/
theorem law_loop {p : Program} {l : Launch} {e : Env} {s : State} {m : MethodId} {below : List Frame} {meth : Method} {c : Code} {D : va_G} {cy : Nat → ClassId} {wy : Nat → Nat} {mt : Nat} {ad bd : Nat → Nat} {b L : Nat} {xs : Nat → Int32} (hL : L ≤ 2048) (C0 : lw_At p s m meth c b L xs) (hK : va_K D vwCl (tys5 cy) s) (hG : gX (fun q : Nat => s.heap.size ≤ q) wy mt s s.heap) (hj : mJ 98 ad) (hj2 : mJ 18 bd) (hs1 : ∀ q, mA 98 ad q → s.heap.size ≤ q) (hs2 : ∀ q, mA 18 bd q → s.heap.size ≤ q) (hd12 : ∀ q, mA 18 bd q → ¬ mA 98 ad q) (hd21 : ∀ q, mA 98 ad q → ¬ mA 18 bd q) :
    ∀ (n i : Nat) (σ τ : Mem), i ≤ L → L < i + 4 * n → Z σ τ → ∀ (H : Heap) (locs : List Loc), va_P D vwCl (mW 98 ad (cF ad cy) σ) H → va_P D vwCl (mW 18 bd (mF bd cy) τ) H → va_S (fun q : Nat => s.heap.size ≤ q) s.heap H locs → ∀ (ls : Array Slot), lv_has ls 4 [(0, .ref b), (1, .ref (ad 0)), (2, .ref (bd 0)), (3, .int (nI i))] → W p l e room_1 s m #[Value.ref b] below meth c H locs 600000 7302250 (lw_Z below #[Value.ref b] s) (F0 m 18 ls []) := by
  obtain ⟨hx, hb, hr, hml, hown, hts0, hX, hbl, hlocks, hgv⟩ := C0
  have hown : s.vm.findClass RL = some m.cls := hown
  have hts : ∀ w ∈ wsL_law, w.before #[Value.ref b] s = true := fun w h => hts0 w (wsL_law_in w h)
  have hbA : ¬ (fun q : Nat => s.heap.size ≤ q) b := Nat.not_le.mpr hbl
  intro n
  induction n with
  | zero =>
    intro i σ τ h1 h2
    exact absurd h2 (by omega)
  | succ n ih =>
    intro i σ τ hi hin hZ H locs hP hP2 hS ls hl
    refine lv_iload_n hx hb dL_law_18 rfl (lv_at hl 3 rfl) ?_
    refine lv_aload_n hx hb dL_law_19 rfl (lv_at hl 0 rfl) ?_
    refine va_slen hx hb hX hbl hbA hS dL_law_20 ?_
    refine lv_iconst (v := 4) hx hb dL_law_21 (by decide) ?_
    refine lv_isub hx hb dL_law_22 ?_
    refine lv_icmp_gt (tgt := 592) hx hb dL_law_23 (by decide) (fun c0 => ?_) (fun c0 => ?_)
    · refine lv_iconst (v := 1) hx hb dL_law_592 (by decide) ?_
      refine va_forget (fun q hq => hS.2.2 q hq) ?_
      exact lw_ret hx hb hr hlocks dL_law_593
    · have hlt : i + 4 ≤ L := by
        rcases Nat.lt_or_ge L (i + 4) with q | q
        · exact absurd (law_stop q hL (by omega)) c0
        · exact q
      have hi0 : vp_in (nI i) L := vp_in_nI (by omega) (by omega)
      have hi1 : vp_in (nI (i + 1)) L := vp_in_nI (by omega) (by omega)
      have hi2 : vp_in (nI (i + 2)) L := vp_in_nI (by omega) (by omega)
      have hi3 : vp_in (nI (i + 3)) L := vp_in_nI (by omega) (by omega)
      have hr1 : xs (nI (i + 1)).toNatClampNeg = xs (i + 1) := by rw [nI_clamp (by omega)]
      have hr2 : xs (nI (i + 2)).toNatClampNeg = xs (i + 2) := by rw [nI_clamp (by omega)]
      have hr3 : xs (nI (i + 3)).toNatClampNeg = xs (i + 3) := by rw [nI_clamp (by omega)]
      have back : ∀ (σ τ : Mem) (H : Heap) (locs : List Loc), Z σ τ → va_P D vwCl (mW 98 ad (cF ad cy) σ) H → va_P D vwCl (mW 18 bd (mF bd cy) τ) H → va_S (fun q : Nat => s.heap.size ≤ q) s.heap H locs → W p l e room_1 s m #[Value.ref b] below meth c H locs 600000 7302250 (lw_Z below #[Value.ref b] s) (F0 m 586 ls []) := by
        intro σ τ H locs hZ hP hP2 hS
        refine lv_iinc (v := nI (i + 4)) (lv' := [(3, .int (nI (i + 4))), (0, .ref b), (1, .ref (ad 0)), (2, .ref (bd 0))]) hx hb dL_law_586 hl (k := 3) rfl (nI_a4 i) (by decide) rfl (fun ls hl => ?_)
        refine lv_goto (tgt := 18) hx hb dL_law_589 (by decide) ?_
        exact ih (i + 4) σ τ hlt (by omega) hZ H locs hP hP2 hS ls (lv_sub hl [1, 2, 3, 0] rfl)
      refine lv_aload_n hx hb dL_law_26 rfl (lv_at hl 0 rfl) ?_
      refine lv_iload_n hx hb dL_law_27 rfl (lv_at hl 3 rfl) ?_
      refine va_sld hx hb hX hbl hbA hS hi0 dL_law_28 ?_
      refine lv_bipush (v := 15) hx hb dL_law_29 (by decide) ?_
      refine lv_iand hx hb dL_law_31 ?_
      obtain ⟨k, hk, ek⟩ := pk_andE (xs (nI i).toNatClampNeg) (m := 15) 4 (by decide)
      refine g_top (y := nI k) ek ?_
      clear ek
      have hk : k < 16 := hk
      match k, hk with
      | 0, _ =>
        refine lv_tableIn (off := 80) (tgt := 112) hx hb dL_law_32 (by decide) (by decide) (by decide) (by decide) ?_
        refine lv_aload_n hx hb dL_law_112 rfl (lv_at hl 1 rfl) ?_
        refine lv_aload_n hx hb dL_law_113 rfl (lv_at hl 0 rfl) ?_
        refine lv_iload_n hx hb dL_law_114 rfl (lv_at hl 3 rfl) ?_
        refine lv_iconst (v := 1) hx hb dL_law_115 (by decide) ?_
        refine lv_iadd hx hb dL_law_116 ?_
        refine g_top (y := nI (i + 1)) (nI_1 i) ?_
        refine va_sld hx hb hX hbl hbA hS hi1 dL_law_117 ?_
        refine g_top (y := xs (i + 1)) hr1 ?_
        refine lv_aload_n hx hb dL_law_118 rfl (lv_at hl 0 rfl) ?_
        refine lv_iload_n hx hb dL_law_119 rfl (lv_at hl 3 rfl) ?_
        refine lv_iconst (v := 2) hx hb dL_law_120 (by decide) ?_
        refine lv_iadd hx hb dL_law_121 ?_
        refine g_top (y := nI (i + 2)) (nI_a2 i) ?_
        refine va_sld hx hb hX hbl hbA hS hi2 dL_law_122 ?_
        refine g_top (y := xs (i + 2)) hr2 ?_
        refine l_callV (n := 98) (n2 := 18) (F := cF ad cy) (F2 := mF bd cy) (As := [.int (xs (i + 1)), .int (xs (i + 2))]) (rest := []) (N := 7) (T := TX6) (ci := 5) ⟨hx, hb, hml, hown, hts⟩ (c_vial l D cy ad wy mt hj σ (xs (i + 1)) (xs (i + 2))) (cwV 2 hts gL_law_X6_vial rfl rfl rfl (by decide +kernel) ⟨(Nat.le_of_ble_eq_true rfl), (Nat.le_of_ble_eq_true rfl)⟩) hK hG hP hP2 hS hs1 hd12 (by decide) cF_0 rfl rfl rfl hl.1 (Nat.le_of_ble_eq_true rfl) dL_law_123 ⟨Nat.le_refl _, Nat.le_refl _⟩ (fun H locs hP hP2 hS => ?_)
        refine lv_aload_n hx hb dL_law_126 rfl (lv_at hl 2 rfl) ?_
        refine lv_aload_n hx hb dL_law_127 rfl (lv_at hl 0 rfl) ?_
        refine lv_iload_n hx hb dL_law_128 rfl (lv_at hl 3 rfl) ?_
        refine lv_iconst (v := 1) hx hb dL_law_129 (by decide) ?_
        refine lv_iadd hx hb dL_law_130 ?_
        refine g_top (y := nI (i + 1)) (nI_1 i) ?_
        refine va_sld hx hb hX hbl hbA hS hi1 dL_law_131 ?_
        refine g_top (y := xs (i + 1)) hr1 ?_
        refine lv_aload_n hx hb dL_law_132 rfl (lv_at hl 0 rfl) ?_
        refine lv_iload_n hx hb dL_law_133 rfl (lv_at hl 3 rfl) ?_
        refine lv_iconst (v := 2) hx hb dL_law_134 (by decide) ?_
        refine lv_iadd hx hb dL_law_135 ?_
        refine g_top (y := nI (i + 2)) (nI_a2 i) ?_
        refine va_sld hx hb hX hbl hbA hS hi2 dL_law_136 ?_
        refine g_top (y := xs (i + 2)) hr2 ?_
        refine l_callV (n := 18) (n2 := 98) (ad := bd) (bd := ad) (F := mF bd cy) (F2 := cF ad cy) (As := [.int (xs (i + 1)), .int (xs (i + 2))]) (rest := [.int ((cpVial σ (xs (i + 1)) (xs (i + 2))).1)]) (N := 28) (T := TX7) (ci := 6) ⟨hx, hb, hml, hown, hts⟩ (m_vial l D cy bd wy mt hj2 τ (xs (i + 1)) (xs (i + 2))) (cwV 2 hts gL_law_X7_vial rfl rfl rfl (by decide +kernel) ⟨(Nat.le_of_ble_eq_true rfl), (Nat.le_of_ble_eq_true rfl)⟩) hK hG hP2 hP hS hs2 hd21 (by decide) mF_0 rfl rfl rfl hl.1 (Nat.le_of_ble_eq_true rfl) dL_law_137 ⟨Nat.le_refl _, Nat.le_refl _⟩ (fun H locs hP2 hP hS => ?_)
        have hsp := sp_vial hZ (xs (i + 1)) (xs (i + 2))
        refine lv_icmp_eq (tgt := 586) hx hb dL_law_140 (by decide) (fun _ => ?_) (fun c9 => absurd hsp.1 c9)
        exact back _ _ H locs hsp.2 hP hP2 hS
      | 1, _ =>
        refine lv_tableIn (off := 113) (tgt := 145) hx hb dL_law_32 (by decide) (by decide) (by decide) (by decide) ?_
        refine lv_aload_n hx hb dL_law_145 rfl (lv_at hl 1 rfl) ?_
        refine lv_aload_n hx hb dL_law_146 rfl (lv_at hl 0 rfl) ?_
        refine lv_iload_n hx hb dL_law_147 rfl (lv_at hl 3 rfl) ?_
        refine lv_iconst (v := 1) hx hb dL_law_148 (by decide) ?_
        refine lv_iadd hx hb dL_law_149 ?_
        refine g_top (y := nI (i + 1)) (nI_1 i) ?_
        refine va_sld hx hb hX hbl hbA hS hi1 dL_law_150 ?_
        refine g_top (y := xs (i + 1)) hr1 ?_
        refine lv_aload_n hx hb dL_law_151 rfl (lv_at hl 0 rfl) ?_
        refine lv_iload_n hx hb dL_law_152 rfl (lv_at hl 3 rfl) ?_
        refine lv_iconst (v := 2) hx hb dL_law_153 (by decide) ?_
        refine lv_iadd hx hb dL_law_154 ?_
        refine g_top (y := nI (i + 2)) (nI_a2 i) ?_
        refine va_sld hx hb hX hbl hbA hS hi2 dL_law_155 ?_
        refine g_top (y := xs (i + 2)) hr2 ?_
        refine l_callV (n := 98) (n2 := 18) (F := cF ad cy) (F2 := mF bd cy) (As := [.int (xs (i + 1)), .int (xs (i + 2))]) (rest := []) (N := 7) (T := TX6) (ci := 5) ⟨hx, hb, hml, hown, hts⟩ (c_batch l D cy ad wy mt hj σ (xs (i + 1)) (xs (i + 2))) (cwV 2 hts gL_law_X6_batch rfl rfl rfl (by decide +kernel) ⟨(Nat.le_of_ble_eq_true rfl), (Nat.le_of_ble_eq_true rfl)⟩) hK hG hP hP2 hS hs1 hd12 (by decide) cF_0 rfl rfl rfl hl.1 (Nat.le_of_ble_eq_true rfl) dL_law_156 ⟨Nat.le_refl _, Nat.le_refl _⟩ (fun H locs hP hP2 hS => ?_)
        refine lv_aload_n hx hb dL_law_159 rfl (lv_at hl 2 rfl) ?_
        refine lv_aload_n hx hb dL_law_160 rfl (lv_at hl 0 rfl) ?_
        refine lv_iload_n hx hb dL_law_161 rfl (lv_at hl 3 rfl) ?_
        refine lv_iconst (v := 1) hx hb dL_law_162 (by decide) ?_
        refine lv_iadd hx hb dL_law_163 ?_
        refine g_top (y := nI (i + 1)) (nI_1 i) ?_
        refine va_sld hx hb hX hbl hbA hS hi1 dL_law_164 ?_
        refine g_top (y := xs (i + 1)) hr1 ?_
        refine lv_aload_n hx hb dL_law_165 rfl (lv_at hl 0 rfl) ?_
        refine lv_iload_n hx hb dL_law_166 rfl (lv_at hl 3 rfl) ?_
        refine lv_iconst (v := 2) hx hb dL_law_167 (by decide) ?_
        refine lv_iadd hx hb dL_law_168 ?_
        refine g_top (y := nI (i + 2)) (nI_a2 i) ?_
        refine va_sld hx hb hX hbl hbA hS hi2 dL_law_169 ?_
        refine g_top (y := xs (i + 2)) hr2 ?_
        refine l_callV (n := 18) (n2 := 98) (ad := bd) (bd := ad) (F := mF bd cy) (F2 := cF ad cy) (As := [.int (xs (i + 1)), .int (xs (i + 2))]) (rest := [.int ((cpBatch σ (xs (i + 1)) (xs (i + 2))).1)]) (N := 28) (T := TX7) (ci := 6) ⟨hx, hb, hml, hown, hts⟩ (m_batch l D cy bd wy mt hj2 τ (xs (i + 1)) (xs (i + 2))) (cwV 2 hts gL_law_X7_batch rfl rfl rfl (by decide +kernel) ⟨(Nat.le_of_ble_eq_true rfl), (Nat.le_of_ble_eq_true rfl)⟩) hK hG hP2 hP hS hs2 hd21 (by decide) mF_0 rfl rfl rfl hl.1 (Nat.le_of_ble_eq_true rfl) dL_law_170 ⟨Nat.le_refl _, Nat.le_refl _⟩ (fun H locs hP2 hP hS => ?_)
        have hsp := sp_batch hZ (xs (i + 1)) (xs (i + 2))
        refine lv_icmp_eq (tgt := 586) hx hb dL_law_173 (by decide) (fun _ => ?_) (fun c9 => absurd hsp.1 c9)
        exact back _ _ H locs hsp.2 hP hP2 hS
      | 2, _ =>
        refine lv_tableIn (off := 146) (tgt := 178) hx hb dL_law_32 (by decide) (by decide) (by decide) (by decide) ?_
        refine lv_aload_n hx hb dL_law_178 rfl (lv_at hl 1 rfl) ?_
        refine lv_aload_n hx hb dL_law_179 rfl (lv_at hl 0 rfl) ?_
        refine lv_iload_n hx hb dL_law_180 rfl (lv_at hl 3 rfl) ?_
        refine lv_iconst (v := 1) hx hb dL_law_181 (by decide) ?_
        refine lv_iadd hx hb dL_law_182 ?_
        refine g_top (y := nI (i + 1)) (nI_1 i) ?_
        refine va_sld hx hb hX hbl hbA hS hi1 dL_law_183 ?_
        refine g_top (y := xs (i + 1)) hr1 ?_
        refine lv_aload_n hx hb dL_law_184 rfl (lv_at hl 0 rfl) ?_
        refine lv_iload_n hx hb dL_law_185 rfl (lv_at hl 3 rfl) ?_
        refine lv_iconst (v := 2) hx hb dL_law_186 (by decide) ?_
        refine lv_iadd hx hb dL_law_187 ?_
        refine g_top (y := nI (i + 2)) (nI_a2 i) ?_
        refine va_sld hx hb hX hbl hbA hS hi2 dL_law_188 ?_
        refine g_top (y := xs (i + 2)) hr2 ?_
        refine l_callV (n := 98) (n2 := 18) (F := cF ad cy) (F2 := mF bd cy) (As := [.int (xs (i + 1)), .int (xs (i + 2))]) (rest := []) (N := 7) (T := TX6) (ci := 5) ⟨hx, hb, hml, hown, hts⟩ (c_round l D cy ad wy mt hj σ (xs (i + 1)) (xs (i + 2)) hZ.cR) (cwV 2 hts gL_law_X6_round rfl rfl rfl (by decide +kernel) ⟨(Nat.le_of_ble_eq_true rfl), (Nat.le_of_ble_eq_true rfl)⟩) hK hG hP hP2 hS hs1 hd12 (by decide) cF_0 rfl rfl rfl hl.1 (Nat.le_of_ble_eq_true rfl) dL_law_189 ⟨Nat.le_refl _, Nat.le_refl _⟩ (fun H locs hP hP2 hS => ?_)
        refine lv_aload_n hx hb dL_law_192 rfl (lv_at hl 2 rfl) ?_
        refine lv_aload_n hx hb dL_law_193 rfl (lv_at hl 0 rfl) ?_
        refine lv_iload_n hx hb dL_law_194 rfl (lv_at hl 3 rfl) ?_
        refine lv_iconst (v := 1) hx hb dL_law_195 (by decide) ?_
        refine lv_iadd hx hb dL_law_196 ?_
        refine g_top (y := nI (i + 1)) (nI_1 i) ?_
        refine va_sld hx hb hX hbl hbA hS hi1 dL_law_197 ?_
        refine g_top (y := xs (i + 1)) hr1 ?_
        refine lv_aload_n hx hb dL_law_198 rfl (lv_at hl 0 rfl) ?_
        refine lv_iload_n hx hb dL_law_199 rfl (lv_at hl 3 rfl) ?_
        refine lv_iconst (v := 2) hx hb dL_law_200 (by decide) ?_
        refine lv_iadd hx hb dL_law_201 ?_
        refine g_top (y := nI (i + 2)) (nI_a2 i) ?_
        refine va_sld hx hb hX hbl hbA hS hi2 dL_law_202 ?_
        refine g_top (y := xs (i + 2)) hr2 ?_
        refine l_callV (n := 18) (n2 := 98) (ad := bd) (bd := ad) (F := mF bd cy) (F2 := cF ad cy) (As := [.int (xs (i + 1)), .int (xs (i + 2))]) (rest := [.int ((cpRound σ (xs (i + 1)) (xs (i + 2))).1)]) (N := 28) (T := TX7) (ci := 6) ⟨hx, hb, hml, hown, hts⟩ (m_round l D cy bd wy mt hj2 τ (xs (i + 1)) (xs (i + 2)) hZ.mR) (cwV 2 hts gL_law_X7_round rfl rfl rfl (by decide +kernel) ⟨(Nat.le_of_ble_eq_true rfl), (Nat.le_of_ble_eq_true rfl)⟩) hK hG hP2 hP hS hs2 hd21 (by decide) mF_0 rfl rfl rfl hl.1 (Nat.le_of_ble_eq_true rfl) dL_law_203 ⟨Nat.le_refl _, Nat.le_refl _⟩ (fun H locs hP2 hP hS => ?_)
        have hsp := sp_round hZ (xs (i + 1)) (xs (i + 2))
        refine lv_icmp_eq (tgt := 586) hx hb dL_law_206 (by decide) (fun _ => ?_) (fun c9 => absurd hsp.1 c9)
        exact back _ _ H locs hsp.2 hP hP2 hS
      | 3, _ =>
        refine lv_tableIn (off := 179) (tgt := 211) hx hb dL_law_32 (by decide) (by decide) (by decide) (by decide) ?_
        refine lv_aload_n hx hb dL_law_211 rfl (lv_at hl 1 rfl) ?_
        refine lv_aload_n hx hb dL_law_212 rfl (lv_at hl 0 rfl) ?_
        refine lv_iload_n hx hb dL_law_213 rfl (lv_at hl 3 rfl) ?_
        refine lv_iconst (v := 1) hx hb dL_law_214 (by decide) ?_
        refine lv_iadd hx hb dL_law_215 ?_
        refine g_top (y := nI (i + 1)) (nI_1 i) ?_
        refine va_sld hx hb hX hbl hbA hS hi1 dL_law_216 ?_
        refine g_top (y := xs (i + 1)) hr1 ?_
        refine lv_aload_n hx hb dL_law_217 rfl (lv_at hl 0 rfl) ?_
        refine lv_iload_n hx hb dL_law_218 rfl (lv_at hl 3 rfl) ?_
        refine lv_iconst (v := 2) hx hb dL_law_219 (by decide) ?_
        refine lv_iadd hx hb dL_law_220 ?_
        refine g_top (y := nI (i + 2)) (nI_a2 i) ?_
        refine va_sld hx hb hX hbl hbA hS hi2 dL_law_221 ?_
        refine g_top (y := xs (i + 2)) hr2 ?_
        refine lv_aload_n hx hb dL_law_222 rfl (lv_at hl 0 rfl) ?_
        refine lv_iload_n hx hb dL_law_223 rfl (lv_at hl 3 rfl) ?_
        refine lv_iconst (v := 3) hx hb dL_law_224 (by decide) ?_
        refine lv_iadd hx hb dL_law_225 ?_
        refine g_top (y := nI (i + 3)) (nI_a3 i) ?_
        refine va_sld hx hb hX hbl hbA hS hi3 dL_law_226 ?_
        refine g_top (y := xs (i + 3)) hr3 ?_
        refine l_callV (n := 98) (n2 := 18) (F := cF ad cy) (F2 := mF bd cy) (As := [.int (xs (i + 1)), .int (xs (i + 2)), .int (xs (i + 3))]) (rest := []) (N := 7) (T := TX6) (ci := 5) ⟨hx, hb, hml, hown, hts⟩ (c_step l D cy ad wy mt hj σ (xs (i + 1)) (xs (i + 2)) (xs (i + 3)) hZ.cR) (cwV 3 hts gL_law_X6_step rfl rfl rfl (by decide +kernel) ⟨(Nat.le_of_ble_eq_true rfl), (Nat.le_of_ble_eq_true rfl)⟩) hK hG hP hP2 hS hs1 hd12 (by decide) cF_0 rfl rfl rfl hl.1 (Nat.le_of_ble_eq_true rfl) dL_law_227 ⟨Nat.le_refl _, Nat.le_refl _⟩ (fun H locs hP hP2 hS => ?_)
        refine lv_aload_n hx hb dL_law_230 rfl (lv_at hl 2 rfl) ?_
        refine lv_aload_n hx hb dL_law_231 rfl (lv_at hl 0 rfl) ?_
        refine lv_iload_n hx hb dL_law_232 rfl (lv_at hl 3 rfl) ?_
        refine lv_iconst (v := 1) hx hb dL_law_233 (by decide) ?_
        refine lv_iadd hx hb dL_law_234 ?_
        refine g_top (y := nI (i + 1)) (nI_1 i) ?_
        refine va_sld hx hb hX hbl hbA hS hi1 dL_law_235 ?_
        refine g_top (y := xs (i + 1)) hr1 ?_
        refine lv_aload_n hx hb dL_law_236 rfl (lv_at hl 0 rfl) ?_
        refine lv_iload_n hx hb dL_law_237 rfl (lv_at hl 3 rfl) ?_
        refine lv_iconst (v := 2) hx hb dL_law_238 (by decide) ?_
        refine lv_iadd hx hb dL_law_239 ?_
        refine g_top (y := nI (i + 2)) (nI_a2 i) ?_
        refine va_sld hx hb hX hbl hbA hS hi2 dL_law_240 ?_
        refine g_top (y := xs (i + 2)) hr2 ?_
        refine lv_aload_n hx hb dL_law_241 rfl (lv_at hl 0 rfl) ?_
        refine lv_iload_n hx hb dL_law_242 rfl (lv_at hl 3 rfl) ?_
        refine lv_iconst (v := 3) hx hb dL_law_243 (by decide) ?_
        refine lv_iadd hx hb dL_law_244 ?_
        refine g_top (y := nI (i + 3)) (nI_a3 i) ?_
        refine va_sld hx hb hX hbl hbA hS hi3 dL_law_245 ?_
        refine g_top (y := xs (i + 3)) hr3 ?_
        refine l_callV (n := 18) (n2 := 98) (ad := bd) (bd := ad) (F := mF bd cy) (F2 := cF ad cy) (As := [.int (xs (i + 1)), .int (xs (i + 2)), .int (xs (i + 3))]) (rest := [.int ((cpStep σ (xs (i + 1)) (xs (i + 2)) (xs (i + 3))).1)]) (N := 28) (T := TX7) (ci := 6) ⟨hx, hb, hml, hown, hts⟩ (m_step l D cy bd wy mt hj2 τ (xs (i + 1)) (xs (i + 2)) (xs (i + 3)) hZ.mR) (cwV 3 hts gL_law_X7_step rfl rfl rfl (by decide +kernel) ⟨(Nat.le_of_ble_eq_true rfl), (Nat.le_of_ble_eq_true rfl)⟩) hK hG hP2 hP hS hs2 hd21 (by decide) mF_0 rfl rfl rfl hl.1 (Nat.le_of_ble_eq_true rfl) dL_law_246 ⟨Nat.le_refl _, Nat.le_refl _⟩ (fun H locs hP2 hP hS => ?_)
        have hsp := sp_step hZ (xs (i + 1)) (xs (i + 2)) (xs (i + 3))
        refine lv_icmp_eq (tgt := 586) hx hb dL_law_249 (by decide) (fun _ => ?_) (fun c9 => absurd hsp.1 c9)
        exact back _ _ H locs hsp.2 hP hP2 hS
      | 4, _ =>
        refine lv_tableIn (off := 222) (tgt := 254) hx hb dL_law_32 (by decide) (by decide) (by decide) (by decide) ?_
        refine lv_aload_n hx hb dL_law_254 rfl (lv_at hl 1 rfl) ?_
        refine lv_aload_n hx hb dL_law_255 rfl (lv_at hl 0 rfl) ?_
        refine lv_iload_n hx hb dL_law_256 rfl (lv_at hl 3 rfl) ?_
        refine lv_iconst (v := 1) hx hb dL_law_257 (by decide) ?_
        refine lv_iadd hx hb dL_law_258 ?_
        refine g_top (y := nI (i + 1)) (nI_1 i) ?_
        refine va_sld hx hb hX hbl hbA hS hi1 dL_law_259 ?_
        refine g_top (y := xs (i + 1)) hr1 ?_
        refine lv_aload_n hx hb dL_law_260 rfl (lv_at hl 0 rfl) ?_
        refine lv_iload_n hx hb dL_law_261 rfl (lv_at hl 3 rfl) ?_
        refine lv_iconst (v := 2) hx hb dL_law_262 (by decide) ?_
        refine lv_iadd hx hb dL_law_263 ?_
        refine g_top (y := nI (i + 2)) (nI_a2 i) ?_
        refine va_sld hx hb hX hbl hbA hS hi2 dL_law_264 ?_
        refine g_top (y := xs (i + 2)) hr2 ?_
        refine l_callV (n := 98) (n2 := 18) (F := cF ad cy) (F2 := mF bd cy) (As := [.int (xs (i + 1)), .int (xs (i + 2))]) (rest := []) (N := 7) (T := TX6) (ci := 5) ⟨hx, hb, hml, hown, hts⟩ (c_tool l D cy ad wy mt hj σ (xs (i + 1)) (xs (i + 2))) (cwV 2 hts gL_law_X6_tool rfl rfl rfl (by decide +kernel) ⟨(Nat.le_of_ble_eq_true rfl), (Nat.le_of_ble_eq_true rfl)⟩) hK hG hP hP2 hS hs1 hd12 (by decide) cF_0 rfl rfl rfl hl.1 (Nat.le_of_ble_eq_true rfl) dL_law_265 ⟨Nat.le_refl _, Nat.le_refl _⟩ (fun H locs hP hP2 hS => ?_)
        refine lv_aload_n hx hb dL_law_268 rfl (lv_at hl 2 rfl) ?_
        refine lv_aload_n hx hb dL_law_269 rfl (lv_at hl 0 rfl) ?_
        refine lv_iload_n hx hb dL_law_270 rfl (lv_at hl 3 rfl) ?_
        refine lv_iconst (v := 1) hx hb dL_law_271 (by decide) ?_
        refine lv_iadd hx hb dL_law_272 ?_
        refine g_top (y := nI (i + 1)) (nI_1 i) ?_
        refine va_sld hx hb hX hbl hbA hS hi1 dL_law_273 ?_
        refine g_top (y := xs (i + 1)) hr1 ?_
        refine lv_aload_n hx hb dL_law_274 rfl (lv_at hl 0 rfl) ?_
        refine lv_iload_n hx hb dL_law_275 rfl (lv_at hl 3 rfl) ?_
        refine lv_iconst (v := 2) hx hb dL_law_276 (by decide) ?_
        refine lv_iadd hx hb dL_law_277 ?_
        refine g_top (y := nI (i + 2)) (nI_a2 i) ?_
        refine va_sld hx hb hX hbl hbA hS hi2 dL_law_278 ?_
        refine g_top (y := xs (i + 2)) hr2 ?_
        refine l_callV (n := 18) (n2 := 98) (ad := bd) (bd := ad) (F := mF bd cy) (F2 := cF ad cy) (As := [.int (xs (i + 1)), .int (xs (i + 2))]) (rest := [.int ((cpTool σ (xs (i + 1)) (xs (i + 2))).1)]) (N := 28) (T := TX7) (ci := 6) ⟨hx, hb, hml, hown, hts⟩ (m_tool l D cy bd wy mt hj2 τ (xs (i + 1)) (xs (i + 2))) (cwV 2 hts gL_law_X7_tool rfl rfl rfl (by decide +kernel) ⟨(Nat.le_of_ble_eq_true rfl), (Nat.le_of_ble_eq_true rfl)⟩) hK hG hP2 hP hS hs2 hd21 (by decide) mF_0 rfl rfl rfl hl.1 (Nat.le_of_ble_eq_true rfl) dL_law_279 ⟨Nat.le_refl _, Nat.le_refl _⟩ (fun H locs hP2 hP hS => ?_)
        have hsp := sp_tool hZ (xs (i + 1)) (xs (i + 2))
        refine lv_icmp_eq (tgt := 586) hx hb dL_law_282 (by decide) (fun _ => ?_) (fun c9 => absurd hsp.1 c9)
        exact back _ _ H locs hsp.2 hP hP2 hS
      | 5, _ =>
        refine lv_tableIn (off := 255) (tgt := 287) hx hb dL_law_32 (by decide) (by decide) (by decide) (by decide) ?_
        refine lv_aload_n hx hb dL_law_287 rfl (lv_at hl 1 rfl) ?_
        refine lv_aload_n hx hb dL_law_288 rfl (lv_at hl 0 rfl) ?_
        refine lv_iload_n hx hb dL_law_289 rfl (lv_at hl 3 rfl) ?_
        refine lv_iconst (v := 1) hx hb dL_law_290 (by decide) ?_
        refine lv_iadd hx hb dL_law_291 ?_
        refine g_top (y := nI (i + 1)) (nI_1 i) ?_
        refine va_sld hx hb hX hbl hbA hS hi1 dL_law_292 ?_
        refine g_top (y := xs (i + 1)) hr1 ?_
        refine lv_aload_n hx hb dL_law_293 rfl (lv_at hl 0 rfl) ?_
        refine lv_iload_n hx hb dL_law_294 rfl (lv_at hl 3 rfl) ?_
        refine lv_iconst (v := 2) hx hb dL_law_295 (by decide) ?_
        refine lv_iadd hx hb dL_law_296 ?_
        refine g_top (y := nI (i + 2)) (nI_a2 i) ?_
        refine va_sld hx hb hX hbl hbA hS hi2 dL_law_297 ?_
        refine g_top (y := xs (i + 2)) hr2 ?_
        refine l_callV (n := 98) (n2 := 18) (F := cF ad cy) (F2 := mF bd cy) (As := [.int (xs (i + 1)), .int (xs (i + 2))]) (rest := []) (N := 7) (T := TX6) (ci := 5) ⟨hx, hb, hml, hown, hts⟩ (c_lay l D cy ad wy mt hj σ (xs (i + 1)) (xs (i + 2))) (cwV 2 hts gL_law_X6_lay rfl rfl rfl (by decide +kernel) ⟨(Nat.le_of_ble_eq_true rfl), (Nat.le_of_ble_eq_true rfl)⟩) hK hG hP hP2 hS hs1 hd12 (by decide) cF_0 rfl rfl rfl hl.1 (Nat.le_of_ble_eq_true rfl) dL_law_298 ⟨Nat.le_refl _, Nat.le_refl _⟩ (fun H locs hP hP2 hS => ?_)
        refine lv_aload_n hx hb dL_law_301 rfl (lv_at hl 2 rfl) ?_
        refine lv_aload_n hx hb dL_law_302 rfl (lv_at hl 0 rfl) ?_
        refine lv_iload_n hx hb dL_law_303 rfl (lv_at hl 3 rfl) ?_
        refine lv_iconst (v := 1) hx hb dL_law_304 (by decide) ?_
        refine lv_iadd hx hb dL_law_305 ?_
        refine g_top (y := nI (i + 1)) (nI_1 i) ?_
        refine va_sld hx hb hX hbl hbA hS hi1 dL_law_306 ?_
        refine g_top (y := xs (i + 1)) hr1 ?_
        refine lv_aload_n hx hb dL_law_307 rfl (lv_at hl 0 rfl) ?_
        refine lv_iload_n hx hb dL_law_308 rfl (lv_at hl 3 rfl) ?_
        refine lv_iconst (v := 2) hx hb dL_law_309 (by decide) ?_
        refine lv_iadd hx hb dL_law_310 ?_
        refine g_top (y := nI (i + 2)) (nI_a2 i) ?_
        refine va_sld hx hb hX hbl hbA hS hi2 dL_law_311 ?_
        refine g_top (y := xs (i + 2)) hr2 ?_
        refine l_callV (n := 18) (n2 := 98) (ad := bd) (bd := ad) (F := mF bd cy) (F2 := cF ad cy) (As := [.int (xs (i + 1)), .int (xs (i + 2))]) (rest := [.int ((cpLay σ (xs (i + 1)) (xs (i + 2))).1)]) (N := 28) (T := TX7) (ci := 6) ⟨hx, hb, hml, hown, hts⟩ (m_lay l D cy bd wy mt hj2 τ (xs (i + 1)) (xs (i + 2))) (cwV 2 hts gL_law_X7_lay rfl rfl rfl (by decide +kernel) ⟨(Nat.le_of_ble_eq_true rfl), (Nat.le_of_ble_eq_true rfl)⟩) hK hG hP2 hP hS hs2 hd21 (by decide) mF_0 rfl rfl rfl hl.1 (Nat.le_of_ble_eq_true rfl) dL_law_312 ⟨Nat.le_refl _, Nat.le_refl _⟩ (fun H locs hP2 hP hS => ?_)
        have hsp := sp_lay hZ (xs (i + 1)) (xs (i + 2))
        refine lv_icmp_eq (tgt := 586) hx hb dL_law_315 (by decide) (fun _ => ?_) (fun c9 => absurd hsp.1 c9)
        exact back _ _ H locs hsp.2 hP hP2 hS
      | 6, _ =>
        refine lv_tableIn (off := 288) (tgt := 320) hx hb dL_law_32 (by decide) (by decide) (by decide) (by decide) ?_
        refine lv_aload_n hx hb dL_law_320 rfl (lv_at hl 1 rfl) ?_
        refine lv_aload_n hx hb dL_law_321 rfl (lv_at hl 0 rfl) ?_
        refine lv_iload_n hx hb dL_law_322 rfl (lv_at hl 3 rfl) ?_
        refine lv_iconst (v := 1) hx hb dL_law_323 (by decide) ?_
        refine lv_iadd hx hb dL_law_324 ?_
        refine g_top (y := nI (i + 1)) (nI_1 i) ?_
        refine va_sld hx hb hX hbl hbA hS hi1 dL_law_325 ?_
        refine g_top (y := xs (i + 1)) hr1 ?_
        refine lv_aload_n hx hb dL_law_326 rfl (lv_at hl 0 rfl) ?_
        refine lv_iload_n hx hb dL_law_327 rfl (lv_at hl 3 rfl) ?_
        refine lv_iconst (v := 2) hx hb dL_law_328 (by decide) ?_
        refine lv_iadd hx hb dL_law_329 ?_
        refine g_top (y := nI (i + 2)) (nI_a2 i) ?_
        refine va_sld hx hb hX hbl hbA hS hi2 dL_law_330 ?_
        refine g_top (y := xs (i + 2)) hr2 ?_
        refine l_callV (n := 98) (n2 := 18) (F := cF ad cy) (F2 := mF bd cy) (As := [.int (xs (i + 1)), .int (xs (i + 2))]) (rest := []) (N := 7) (T := TX6) (ci := 5) ⟨hx, hb, hml, hown, hts⟩ (c_about l D cy ad wy mt hj σ (xs (i + 1)) (xs (i + 2))) (cwV 2 hts gL_law_X6_about rfl rfl rfl (by decide +kernel) ⟨(Nat.le_of_ble_eq_true rfl), (Nat.le_of_ble_eq_true rfl)⟩) hK hG hP hP2 hS hs1 hd12 (by decide) cF_0 rfl rfl rfl hl.1 (Nat.le_of_ble_eq_true rfl) dL_law_331 ⟨Nat.le_refl _, Nat.le_refl _⟩ (fun H locs hP hP2 hS => ?_)
        refine lv_aload_n hx hb dL_law_334 rfl (lv_at hl 2 rfl) ?_
        refine lv_aload_n hx hb dL_law_335 rfl (lv_at hl 0 rfl) ?_
        refine lv_iload_n hx hb dL_law_336 rfl (lv_at hl 3 rfl) ?_
        refine lv_iconst (v := 1) hx hb dL_law_337 (by decide) ?_
        refine lv_iadd hx hb dL_law_338 ?_
        refine g_top (y := nI (i + 1)) (nI_1 i) ?_
        refine va_sld hx hb hX hbl hbA hS hi1 dL_law_339 ?_
        refine g_top (y := xs (i + 1)) hr1 ?_
        refine lv_aload_n hx hb dL_law_340 rfl (lv_at hl 0 rfl) ?_
        refine lv_iload_n hx hb dL_law_341 rfl (lv_at hl 3 rfl) ?_
        refine lv_iconst (v := 2) hx hb dL_law_342 (by decide) ?_
        refine lv_iadd hx hb dL_law_343 ?_
        refine g_top (y := nI (i + 2)) (nI_a2 i) ?_
        refine va_sld hx hb hX hbl hbA hS hi2 dL_law_344 ?_
        refine g_top (y := xs (i + 2)) hr2 ?_
        refine l_callV (n := 18) (n2 := 98) (ad := bd) (bd := ad) (F := mF bd cy) (F2 := cF ad cy) (As := [.int (xs (i + 1)), .int (xs (i + 2))]) (rest := [.int (cpAbout σ (xs (i + 1)) (xs (i + 2)))]) (N := 28) (T := TX7) (ci := 6) ⟨hx, hb, hml, hown, hts⟩ (m_about l D cy bd wy mt hj2 τ (xs (i + 1)) (xs (i + 2))) (cwV 2 hts gL_law_X7_about rfl rfl rfl (by decide +kernel) ⟨(Nat.le_of_ble_eq_true rfl), (Nat.le_of_ble_eq_true rfl)⟩) hK hG hP2 hP hS hs2 hd21 (by decide) mF_0 rfl rfl rfl hl.1 (Nat.le_of_ble_eq_true rfl) dL_law_345 ⟨Nat.le_refl _, Nat.le_refl _⟩ (fun H locs hP2 hP hS => ?_)
        have hsp := sp_about hZ (xs (i + 1)) (xs (i + 2))
        refine lv_icmp_eq (tgt := 586) hx hb dL_law_348 (by decide) (fun _ => ?_) (fun c9 => absurd hsp.1 c9)
        exact back _ _ H locs hsp.2 hP hP2 hS
      | 7, _ =>
        refine lv_tableIn (off := 321) (tgt := 353) hx hb dL_law_32 (by decide) (by decide) (by decide) (by decide) ?_
        refine lv_aload_n hx hb dL_law_353 rfl (lv_at hl 1 rfl) ?_
        refine lv_aload_n hx hb dL_law_354 rfl (lv_at hl 0 rfl) ?_
        refine lv_iload_n hx hb dL_law_355 rfl (lv_at hl 3 rfl) ?_
        refine lv_iconst (v := 1) hx hb dL_law_356 (by decide) ?_
        refine lv_iadd hx hb dL_law_357 ?_
        refine g_top (y := nI (i + 1)) (nI_1 i) ?_
        refine va_sld hx hb hX hbl hbA hS hi1 dL_law_358 ?_
        refine g_top (y := xs (i + 1)) hr1 ?_
        refine l_callV (n := 98) (n2 := 18) (F := cF ad cy) (F2 := mF bd cy) (As := [.int (xs (i + 1))]) (rest := []) (N := 7) (T := TX6) (ci := 5) ⟨hx, hb, hml, hown, hts⟩ (c_places l D cy ad wy mt hj σ (xs (i + 1))) (cwV 1 hts gL_law_X6_places rfl rfl rfl (by decide +kernel) ⟨(Nat.le_of_ble_eq_true rfl), (Nat.le_of_ble_eq_true rfl)⟩) hK hG hP hP2 hS hs1 hd12 (by decide) cF_0 rfl rfl rfl hl.1 (Nat.le_of_ble_eq_true rfl) dL_law_359 ⟨Nat.le_refl _, Nat.le_refl _⟩ (fun H locs hP hP2 hS => ?_)
        refine lv_aload_n hx hb dL_law_362 rfl (lv_at hl 2 rfl) ?_
        refine lv_aload_n hx hb dL_law_363 rfl (lv_at hl 0 rfl) ?_
        refine lv_iload_n hx hb dL_law_364 rfl (lv_at hl 3 rfl) ?_
        refine lv_iconst (v := 1) hx hb dL_law_365 (by decide) ?_
        refine lv_iadd hx hb dL_law_366 ?_
        refine g_top (y := nI (i + 1)) (nI_1 i) ?_
        refine va_sld hx hb hX hbl hbA hS hi1 dL_law_367 ?_
        refine g_top (y := xs (i + 1)) hr1 ?_
        refine l_callV (n := 18) (n2 := 98) (ad := bd) (bd := ad) (F := mF bd cy) (F2 := cF ad cy) (As := [.int (xs (i + 1))]) (rest := [.int (cpPlaces σ (xs (i + 1)))]) (N := 28) (T := TX7) (ci := 6) ⟨hx, hb, hml, hown, hts⟩ (m_places l D cy bd wy mt hj2 τ (xs (i + 1))) (cwV 1 hts gL_law_X7_places rfl rfl rfl (by decide +kernel) ⟨(Nat.le_of_ble_eq_true rfl), (Nat.le_of_ble_eq_true rfl)⟩) hK hG hP2 hP hS hs2 hd21 (by decide) mF_0 rfl rfl rfl hl.1 (Nat.le_of_ble_eq_true rfl) dL_law_368 ⟨Nat.le_refl _, Nat.le_refl _⟩ (fun H locs hP2 hP hS => ?_)
        have hsp := sp_places hZ (xs (i + 1))
        refine lv_icmp_eq (tgt := 586) hx hb dL_law_371 (by decide) (fun _ => ?_) (fun c9 => absurd hsp.1 c9)
        exact back _ _ H locs hsp.2 hP hP2 hS
      | 8, _ =>
        refine lv_tableIn (off := 344) (tgt := 376) hx hb dL_law_32 (by decide) (by decide) (by decide) (by decide) ?_
        refine lv_aload_n hx hb dL_law_376 rfl (lv_at hl 1 rfl) ?_
        refine lv_aload_n hx hb dL_law_377 rfl (lv_at hl 0 rfl) ?_
        refine lv_iload_n hx hb dL_law_378 rfl (lv_at hl 3 rfl) ?_
        refine lv_iconst (v := 1) hx hb dL_law_379 (by decide) ?_
        refine lv_iadd hx hb dL_law_380 ?_
        refine g_top (y := nI (i + 1)) (nI_1 i) ?_
        refine va_sld hx hb hX hbl hbA hS hi1 dL_law_381 ?_
        refine g_top (y := xs (i + 1)) hr1 ?_
        refine l_callV (n := 98) (n2 := 18) (F := cF ad cy) (F2 := mF bd cy) (As := [.int (xs (i + 1))]) (rest := []) (N := 7) (T := TX6) (ci := 5) ⟨hx, hb, hml, hown, hts⟩ (c_box l D cy ad wy mt hj σ (xs (i + 1)) hZ.bx) (cwV 1 hts gL_law_X6_box rfl rfl rfl (by decide +kernel) ⟨(Nat.le_of_ble_eq_true rfl), (Nat.le_of_ble_eq_true rfl)⟩) hK hG hP hP2 hS hs1 hd12 (by decide) cF_0 rfl rfl rfl hl.1 (Nat.le_of_ble_eq_true rfl) dL_law_382 ⟨Nat.le_refl _, Nat.le_refl _⟩ (fun H locs hP hP2 hS => ?_)
        refine lv_aload_n hx hb dL_law_385 rfl (lv_at hl 2 rfl) ?_
        refine lv_aload_n hx hb dL_law_386 rfl (lv_at hl 0 rfl) ?_
        refine lv_iload_n hx hb dL_law_387 rfl (lv_at hl 3 rfl) ?_
        refine lv_iconst (v := 1) hx hb dL_law_388 (by decide) ?_
        refine lv_iadd hx hb dL_law_389 ?_
        refine g_top (y := nI (i + 1)) (nI_1 i) ?_
        refine va_sld hx hb hX hbl hbA hS hi1 dL_law_390 ?_
        refine g_top (y := xs (i + 1)) hr1 ?_
        refine l_callV (n := 18) (n2 := 98) (ad := bd) (bd := ad) (F := mF bd cy) (F2 := cF ad cy) (As := [.int (xs (i + 1))]) (rest := [.int (cpBox σ (xs (i + 1)))]) (N := 28) (T := TX7) (ci := 6) ⟨hx, hb, hml, hown, hts⟩ (m_box l D cy bd wy mt hj2 τ (xs (i + 1)) hZ.mbx) (cwV 1 hts gL_law_X7_box rfl rfl rfl (by decide +kernel) ⟨(Nat.le_of_ble_eq_true rfl), (Nat.le_of_ble_eq_true rfl)⟩) hK hG hP2 hP hS hs2 hd21 (by decide) mF_0 rfl rfl rfl hl.1 (Nat.le_of_ble_eq_true rfl) dL_law_391 ⟨Nat.le_refl _, Nat.le_refl _⟩ (fun H locs hP2 hP hS => ?_)
        have hsp := sp_box hZ (xs (i + 1))
        refine lv_icmp_eq (tgt := 586) hx hb dL_law_394 (by decide) (fun _ => ?_) (fun c9 => absurd hsp.1 c9)
        exact back _ _ H locs hsp.2 hP hP2 hS
      | 9, _ =>
        refine lv_tableIn (off := 367) (tgt := 399) hx hb dL_law_32 (by decide) (by decide) (by decide) (by decide) ?_
        by_cases h3 : xs (i + 3) = 0
        · skip
          refine lv_aload_n hx hb dL_law_399 rfl (lv_at hl 1 rfl) ?_
          refine lv_aload_n hx hb dL_law_400 rfl (lv_at hl 0 rfl) ?_
          refine lv_iload_n hx hb dL_law_401 rfl (lv_at hl 3 rfl) ?_
          refine lv_iconst (v := 1) hx hb dL_law_402 (by decide) ?_
          refine lv_iadd hx hb dL_law_403 ?_
          refine g_top (y := nI (i + 1)) (nI_1 i) ?_
          refine va_sld hx hb hX hbl hbA hS hi1 dL_law_404 ?_
          refine g_top (y := xs (i + 1)) hr1 ?_
          refine lv_aload_n hx hb dL_law_405 rfl (lv_at hl 0 rfl) ?_
          refine lv_iload_n hx hb dL_law_406 rfl (lv_at hl 3 rfl) ?_
          refine lv_iconst (v := 2) hx hb dL_law_407 (by decide) ?_
          refine lv_iadd hx hb dL_law_408 ?_
          refine g_top (y := nI (i + 2)) (nI_a2 i) ?_
          refine va_sld hx hb hX hbl hbA hS hi2 dL_law_409 ?_
          refine g_top (y := xs (i + 2)) hr2 ?_
          refine lv_aload_n hx hb dL_law_410 rfl (lv_at hl 0 rfl) ?_
          refine lv_iload_n hx hb dL_law_411 rfl (lv_at hl 3 rfl) ?_
          refine lv_iconst (v := 3) hx hb dL_law_412 (by decide) ?_
          refine lv_iadd hx hb dL_law_413 ?_
          refine g_top (y := nI (i + 3)) (nI_a3 i) ?_
          refine va_sld hx hb hX hbl hbA hS hi3 dL_law_414 ?_
          refine g_top (y := xs (i + 3)) hr3 ?_
          refine lv_if_eq (tgt := 422) hx hb dL_law_415 (by decide) (fun _ => ?_) (fun c9 => absurd h3 c9)
          refine lv_iconst (v := 0) hx hb dL_law_422 (by decide) ?_
          refine l_callV (n := 98) (n2 := 18) (F := cF ad cy) (F2 := mF bd cy) (As := [.int (xs (i + 1)), .int (xs (i + 2)), .int 0]) (rest := []) (N := 7) (T := TX6) (ci := 5) ⟨hx, hb, hml, hown, hts⟩ (c_run l D cy ad wy mt hj σ (xs (i + 1)) (xs (i + 2)) 0 hZ.cR hZ.bx) (cwV 3 hts gL_law_X6_run rfl rfl rfl (by decide +kernel) ⟨(Nat.le_of_ble_eq_true rfl), (Nat.le_of_ble_eq_true rfl)⟩) hK hG hP hP2 hS hs1 hd12 (by decide) cF_0 rfl rfl rfl hl.1 (Nat.le_of_ble_eq_true rfl) dL_law_423 ⟨Nat.le_refl _, Nat.le_refl _⟩ (fun H locs hP hP2 hS => ?_)
          refine lv_aload_n hx hb dL_law_426 rfl (lv_at hl 2 rfl) ?_
          refine lv_aload_n hx hb dL_law_427 rfl (lv_at hl 0 rfl) ?_
          refine lv_iload_n hx hb dL_law_428 rfl (lv_at hl 3 rfl) ?_
          refine lv_iconst (v := 1) hx hb dL_law_429 (by decide) ?_
          refine lv_iadd hx hb dL_law_430 ?_
          refine g_top (y := nI (i + 1)) (nI_1 i) ?_
          refine va_sld hx hb hX hbl hbA hS hi1 dL_law_431 ?_
          refine g_top (y := xs (i + 1)) hr1 ?_
          refine lv_aload_n hx hb dL_law_432 rfl (lv_at hl 0 rfl) ?_
          refine lv_iload_n hx hb dL_law_433 rfl (lv_at hl 3 rfl) ?_
          refine lv_iconst (v := 2) hx hb dL_law_434 (by decide) ?_
          refine lv_iadd hx hb dL_law_435 ?_
          refine g_top (y := nI (i + 2)) (nI_a2 i) ?_
          refine va_sld hx hb hX hbl hbA hS hi2 dL_law_436 ?_
          refine g_top (y := xs (i + 2)) hr2 ?_
          refine lv_aload_n hx hb dL_law_437 rfl (lv_at hl 0 rfl) ?_
          refine lv_iload_n hx hb dL_law_438 rfl (lv_at hl 3 rfl) ?_
          refine lv_iconst (v := 3) hx hb dL_law_439 (by decide) ?_
          refine lv_iadd hx hb dL_law_440 ?_
          refine g_top (y := nI (i + 3)) (nI_a3 i) ?_
          refine va_sld hx hb hX hbl hbA hS hi3 dL_law_441 ?_
          refine g_top (y := xs (i + 3)) hr3 ?_
          refine lv_if_eq (tgt := 449) hx hb dL_law_442 (by decide) (fun _ => ?_) (fun c9 => absurd h3 c9)
          refine lv_iconst (v := 0) hx hb dL_law_449 (by decide) ?_
          refine l_callV (n := 18) (n2 := 98) (ad := bd) (bd := ad) (F := mF bd cy) (F2 := cF ad cy) (As := [.int (xs (i + 1)), .int (xs (i + 2)), .int 0]) (rest := [.int ((cpRun σ (xs (i + 1)) (xs (i + 2)) 0).1)]) (N := 28) (T := TX7) (ci := 6) ⟨hx, hb, hml, hown, hts⟩ (m_run l D cy bd wy mt hj2 τ (xs (i + 1)) (xs (i + 2)) 0 hZ.mR hZ.mbx) (cwV 3 hts gL_law_X7_run rfl rfl rfl (by decide +kernel) ⟨(Nat.le_of_ble_eq_true rfl), (Nat.le_of_ble_eq_true rfl)⟩) hK hG hP2 hP hS hs2 hd21 (by decide) mF_0 rfl rfl rfl hl.1 (Nat.le_of_ble_eq_true rfl) dL_law_450 ⟨Nat.le_refl _, Nat.le_refl _⟩ (fun H locs hP2 hP hS => ?_)
          have hsp := sp_run hZ (xs (i + 1)) (xs (i + 2)) 0
          refine lv_icmp_eq (tgt := 586) hx hb dL_law_453 (by decide) (fun _ => ?_) (fun c9 => absurd hsp.1 c9)
          exact back _ _ H locs hsp.2 hP hP2 hS
        · skip
          refine lv_aload_n hx hb dL_law_399 rfl (lv_at hl 1 rfl) ?_
          refine lv_aload_n hx hb dL_law_400 rfl (lv_at hl 0 rfl) ?_
          refine lv_iload_n hx hb dL_law_401 rfl (lv_at hl 3 rfl) ?_
          refine lv_iconst (v := 1) hx hb dL_law_402 (by decide) ?_
          refine lv_iadd hx hb dL_law_403 ?_
          refine g_top (y := nI (i + 1)) (nI_1 i) ?_
          refine va_sld hx hb hX hbl hbA hS hi1 dL_law_404 ?_
          refine g_top (y := xs (i + 1)) hr1 ?_
          refine lv_aload_n hx hb dL_law_405 rfl (lv_at hl 0 rfl) ?_
          refine lv_iload_n hx hb dL_law_406 rfl (lv_at hl 3 rfl) ?_
          refine lv_iconst (v := 2) hx hb dL_law_407 (by decide) ?_
          refine lv_iadd hx hb dL_law_408 ?_
          refine g_top (y := nI (i + 2)) (nI_a2 i) ?_
          refine va_sld hx hb hX hbl hbA hS hi2 dL_law_409 ?_
          refine g_top (y := xs (i + 2)) hr2 ?_
          refine lv_aload_n hx hb dL_law_410 rfl (lv_at hl 0 rfl) ?_
          refine lv_iload_n hx hb dL_law_411 rfl (lv_at hl 3 rfl) ?_
          refine lv_iconst (v := 3) hx hb dL_law_412 (by decide) ?_
          refine lv_iadd hx hb dL_law_413 ?_
          refine g_top (y := nI (i + 3)) (nI_a3 i) ?_
          refine va_sld hx hb hX hbl hbA hS hi3 dL_law_414 ?_
          refine g_top (y := xs (i + 3)) hr3 ?_
          refine lv_if_eq (tgt := 422) hx hb dL_law_415 (by decide) (fun c9 => absurd c9 h3) (fun _ => ?_)
          refine lv_iconst (v := 1) hx hb dL_law_418 (by decide) ?_
          refine lv_goto (tgt := 423) hx hb dL_law_419 (by decide) ?_
          refine l_callV (n := 98) (n2 := 18) (F := cF ad cy) (F2 := mF bd cy) (As := [.int (xs (i + 1)), .int (xs (i + 2)), .int 1]) (rest := []) (N := 7) (T := TX6) (ci := 5) ⟨hx, hb, hml, hown, hts⟩ (c_run l D cy ad wy mt hj σ (xs (i + 1)) (xs (i + 2)) 1 hZ.cR hZ.bx) (cwV 3 hts gL_law_X6_run rfl rfl rfl (by decide +kernel) ⟨(Nat.le_of_ble_eq_true rfl), (Nat.le_of_ble_eq_true rfl)⟩) hK hG hP hP2 hS hs1 hd12 (by decide) cF_0 rfl rfl rfl hl.1 (Nat.le_of_ble_eq_true rfl) dL_law_423 ⟨Nat.le_refl _, Nat.le_refl _⟩ (fun H locs hP hP2 hS => ?_)
          refine lv_aload_n hx hb dL_law_426 rfl (lv_at hl 2 rfl) ?_
          refine lv_aload_n hx hb dL_law_427 rfl (lv_at hl 0 rfl) ?_
          refine lv_iload_n hx hb dL_law_428 rfl (lv_at hl 3 rfl) ?_
          refine lv_iconst (v := 1) hx hb dL_law_429 (by decide) ?_
          refine lv_iadd hx hb dL_law_430 ?_
          refine g_top (y := nI (i + 1)) (nI_1 i) ?_
          refine va_sld hx hb hX hbl hbA hS hi1 dL_law_431 ?_
          refine g_top (y := xs (i + 1)) hr1 ?_
          refine lv_aload_n hx hb dL_law_432 rfl (lv_at hl 0 rfl) ?_
          refine lv_iload_n hx hb dL_law_433 rfl (lv_at hl 3 rfl) ?_
          refine lv_iconst (v := 2) hx hb dL_law_434 (by decide) ?_
          refine lv_iadd hx hb dL_law_435 ?_
          refine g_top (y := nI (i + 2)) (nI_a2 i) ?_
          refine va_sld hx hb hX hbl hbA hS hi2 dL_law_436 ?_
          refine g_top (y := xs (i + 2)) hr2 ?_
          refine lv_aload_n hx hb dL_law_437 rfl (lv_at hl 0 rfl) ?_
          refine lv_iload_n hx hb dL_law_438 rfl (lv_at hl 3 rfl) ?_
          refine lv_iconst (v := 3) hx hb dL_law_439 (by decide) ?_
          refine lv_iadd hx hb dL_law_440 ?_
          refine g_top (y := nI (i + 3)) (nI_a3 i) ?_
          refine va_sld hx hb hX hbl hbA hS hi3 dL_law_441 ?_
          refine g_top (y := xs (i + 3)) hr3 ?_
          refine lv_if_eq (tgt := 449) hx hb dL_law_442 (by decide) (fun c9 => absurd c9 h3) (fun _ => ?_)
          refine lv_iconst (v := 1) hx hb dL_law_445 (by decide) ?_
          refine lv_goto (tgt := 450) hx hb dL_law_446 (by decide) ?_
          refine l_callV (n := 18) (n2 := 98) (ad := bd) (bd := ad) (F := mF bd cy) (F2 := cF ad cy) (As := [.int (xs (i + 1)), .int (xs (i + 2)), .int 1]) (rest := [.int ((cpRun σ (xs (i + 1)) (xs (i + 2)) 1).1)]) (N := 28) (T := TX7) (ci := 6) ⟨hx, hb, hml, hown, hts⟩ (m_run l D cy bd wy mt hj2 τ (xs (i + 1)) (xs (i + 2)) 1 hZ.mR hZ.mbx) (cwV 3 hts gL_law_X7_run rfl rfl rfl (by decide +kernel) ⟨(Nat.le_of_ble_eq_true rfl), (Nat.le_of_ble_eq_true rfl)⟩) hK hG hP2 hP hS hs2 hd21 (by decide) mF_0 rfl rfl rfl hl.1 (Nat.le_of_ble_eq_true rfl) dL_law_450 ⟨Nat.le_refl _, Nat.le_refl _⟩ (fun H locs hP2 hP hS => ?_)
          have hsp := sp_run hZ (xs (i + 1)) (xs (i + 2)) 1
          refine lv_icmp_eq (tgt := 586) hx hb dL_law_453 (by decide) (fun _ => ?_) (fun c9 => absurd hsp.1 c9)
          exact back _ _ H locs hsp.2 hP hP2 hS
      | 10, _ =>
        refine lv_tableIn (off := 426) (tgt := 458) hx hb dL_law_32 (by decide) (by decide) (by decide) (by decide) ?_
        refine lv_aload_n hx hb dL_law_458 rfl (lv_at hl 1 rfl) ?_
        refine lv_aload_n hx hb dL_law_459 rfl (lv_at hl 0 rfl) ?_
        refine lv_iload_n hx hb dL_law_460 rfl (lv_at hl 3 rfl) ?_
        refine lv_iconst (v := 1) hx hb dL_law_461 (by decide) ?_
        refine lv_iadd hx hb dL_law_462 ?_
        refine g_top (y := nI (i + 1)) (nI_1 i) ?_
        refine va_sld hx hb hX hbl hbA hS hi1 dL_law_463 ?_
        refine g_top (y := xs (i + 1)) hr1 ?_
        refine l_callV (n := 98) (n2 := 18) (F := cF ad cy) (F2 := mF bd cy) (As := [.int (xs (i + 1))]) (rest := []) (N := 7) (T := TX6) (ci := 5) ⟨hx, hb, hml, hown, hts⟩ (c_why l D cy ad wy mt hj σ (xs (i + 1)) hZ.lg) (cwV 1 hts gL_law_X6_why rfl rfl rfl (by decide +kernel) ⟨(Nat.le_of_ble_eq_true rfl), (Nat.le_of_ble_eq_true rfl)⟩) hK hG hP hP2 hS hs1 hd12 (by decide) cF_0 rfl rfl rfl hl.1 (Nat.le_of_ble_eq_true rfl) dL_law_464 ⟨Nat.le_refl _, Nat.le_refl _⟩ (fun H locs hP hP2 hS => ?_)
        refine lv_aload_n hx hb dL_law_467 rfl (lv_at hl 2 rfl) ?_
        refine lv_aload_n hx hb dL_law_468 rfl (lv_at hl 0 rfl) ?_
        refine lv_iload_n hx hb dL_law_469 rfl (lv_at hl 3 rfl) ?_
        refine lv_iconst (v := 1) hx hb dL_law_470 (by decide) ?_
        refine lv_iadd hx hb dL_law_471 ?_
        refine g_top (y := nI (i + 1)) (nI_1 i) ?_
        refine va_sld hx hb hX hbl hbA hS hi1 dL_law_472 ?_
        refine g_top (y := xs (i + 1)) hr1 ?_
        refine l_callV (n := 18) (n2 := 98) (ad := bd) (bd := ad) (F := mF bd cy) (F2 := cF ad cy) (As := [.int (xs (i + 1))]) (rest := [.int (cpWhy σ (xs (i + 1)))]) (N := 28) (T := TX7) (ci := 6) ⟨hx, hb, hml, hown, hts⟩ (m_why l D cy bd wy mt hj2 τ (xs (i + 1)) hZ.mwy) (cwV 1 hts gL_law_X7_why rfl rfl rfl (by decide +kernel) ⟨(Nat.le_of_ble_eq_true rfl), (Nat.le_of_ble_eq_true rfl)⟩) hK hG hP2 hP hS hs2 hd21 (by decide) mF_0 rfl rfl rfl hl.1 (Nat.le_of_ble_eq_true rfl) dL_law_473 ⟨Nat.le_refl _, Nat.le_refl _⟩ (fun H locs hP2 hP hS => ?_)
        have hsp := sp_why hZ (xs (i + 1))
        refine lv_icmp_eq (tgt := 586) hx hb dL_law_476 (by decide) (fun _ => ?_) (fun c9 => absurd hsp.1 c9)
        exact back _ _ H locs hsp.2 hP hP2 hS
      | 11, _ =>
        refine lv_tableIn (off := 449) (tgt := 481) hx hb dL_law_32 (by decide) (by decide) (by decide) (by decide) ?_
        refine lv_aload_n hx hb dL_law_481 rfl (lv_at hl 1 rfl) ?_
        refine lv_aload_n hx hb dL_law_482 rfl (lv_at hl 0 rfl) ?_
        refine lv_iload_n hx hb dL_law_483 rfl (lv_at hl 3 rfl) ?_
        refine lv_iconst (v := 1) hx hb dL_law_484 (by decide) ?_
        refine lv_iadd hx hb dL_law_485 ?_
        refine g_top (y := nI (i + 1)) (nI_1 i) ?_
        refine va_sld hx hb hX hbl hbA hS hi1 dL_law_486 ?_
        refine g_top (y := xs (i + 1)) hr1 ?_
        refine l_callV (n := 98) (n2 := 18) (F := cF ad cy) (F2 := mF bd cy) (As := [.int (xs (i + 1))]) (rest := []) (N := 7) (T := TX6) (ci := 5) ⟨hx, hb, hml, hown, hts⟩ (c_told l D cy ad wy mt hj σ (xs (i + 1))) (cwV 1 hts gL_law_X6_told rfl rfl rfl (by decide +kernel) ⟨(Nat.le_of_ble_eq_true rfl), (Nat.le_of_ble_eq_true rfl)⟩) hK hG hP hP2 hS hs1 hd12 (by decide) cF_0 rfl rfl rfl hl.1 (Nat.le_of_ble_eq_true rfl) dL_law_487 ⟨Nat.le_refl _, Nat.le_refl _⟩ (fun H locs hP hP2 hS => ?_)
        refine lv_aload_n hx hb dL_law_490 rfl (lv_at hl 2 rfl) ?_
        refine lv_aload_n hx hb dL_law_491 rfl (lv_at hl 0 rfl) ?_
        refine lv_iload_n hx hb dL_law_492 rfl (lv_at hl 3 rfl) ?_
        refine lv_iconst (v := 1) hx hb dL_law_493 (by decide) ?_
        refine lv_iadd hx hb dL_law_494 ?_
        refine g_top (y := nI (i + 1)) (nI_1 i) ?_
        refine va_sld hx hb hX hbl hbA hS hi1 dL_law_495 ?_
        refine g_top (y := xs (i + 1)) hr1 ?_
        refine l_callV (n := 18) (n2 := 98) (ad := bd) (bd := ad) (F := mF bd cy) (F2 := cF ad cy) (As := [.int (xs (i + 1))]) (rest := [.int (cpTold σ (xs (i + 1)))]) (N := 28) (T := TX7) (ci := 6) ⟨hx, hb, hml, hown, hts⟩ (m_told l D cy bd wy mt hj2 τ (xs (i + 1))) (cwV 1 hts gL_law_X7_told rfl rfl rfl (by decide +kernel) ⟨(Nat.le_of_ble_eq_true rfl), (Nat.le_of_ble_eq_true rfl)⟩) hK hG hP2 hP hS hs2 hd21 (by decide) mF_0 rfl rfl rfl hl.1 (Nat.le_of_ble_eq_true rfl) dL_law_496 ⟨Nat.le_refl _, Nat.le_refl _⟩ (fun H locs hP2 hP hS => ?_)
        have hsp := sp_told hZ (xs (i + 1))
        refine lv_icmp_eq (tgt := 586) hx hb dL_law_499 (by decide) (fun _ => ?_) (fun c9 => absurd hsp.1 c9)
        exact back _ _ H locs hsp.2 hP hP2 hS
      | 12, _ =>
        refine lv_tableIn (off := 472) (tgt := 504) hx hb dL_law_32 (by decide) (by decide) (by decide) (by decide) ?_
        obtain ⟨x9, hx9, hO9⟩ := hZ.2.2
        refine lv_aload_n hx hb dL_law_504 rfl (lv_at hl 1 rfl) ?_
        refine lv_aload_n hx hb dL_law_505 rfl (lv_at hl 0 rfl) ?_
        refine lv_iload_n hx hb dL_law_506 rfl (lv_at hl 3 rfl) ?_
        refine lv_iconst (v := 1) hx hb dL_law_507 (by decide) ?_
        refine lv_iadd hx hb dL_law_508 ?_
        refine g_top (y := nI (i + 1)) (nI_1 i) ?_
        refine va_sld hx hb hX hbl hbA hS hi1 dL_law_509 ?_
        refine g_top (y := xs (i + 1)) hr1 ?_
        refine l_callV (n := 98) (n2 := 18) (F := cF ad cy) (F2 := mF bd cy) (As := [.int (xs (i + 1))]) (rest := []) (N := 7) (T := TX6) (ci := 5) ⟨hx, hb, hml, hown, hts⟩ (c_trace l D cy ad wy mt hj σ (xs (i + 1)) x9 (by omega) hO9) (cwV 1 hts gL_law_X6_trace rfl rfl rfl (by decide +kernel) ⟨(Nat.le_of_ble_eq_true rfl), (Nat.le_of_ble_eq_true rfl)⟩) hK hG hP hP2 hS hs1 hd12 (by decide) cF_0 rfl rfl rfl hl.1 (Nat.le_of_ble_eq_true rfl) dL_law_510 ⟨Nat.le_refl _, Nat.le_refl _⟩ (fun H locs hP hP2 hS => ?_)
        refine lv_aload_n hx hb dL_law_513 rfl (lv_at hl 2 rfl) ?_
        refine lv_aload_n hx hb dL_law_514 rfl (lv_at hl 0 rfl) ?_
        refine lv_iload_n hx hb dL_law_515 rfl (lv_at hl 3 rfl) ?_
        refine lv_iconst (v := 1) hx hb dL_law_516 (by decide) ?_
        refine lv_iadd hx hb dL_law_517 ?_
        refine g_top (y := nI (i + 1)) (nI_1 i) ?_
        refine va_sld hx hb hX hbl hbA hS hi1 dL_law_518 ?_
        refine g_top (y := xs (i + 1)) hr1 ?_
        refine l_callV (n := 18) (n2 := 98) (ad := bd) (bd := ad) (F := mF bd cy) (F2 := cF ad cy) (As := [.int (xs (i + 1))]) (rest := [.int (cpTrace σ (xs (i + 1)))]) (N := 28) (T := TX7) (ci := 6) ⟨hx, hb, hml, hown, hts⟩ (m_trace l D cy bd wy mt hj2 τ (xs (i + 1)) hZ.t7) (cwV 1 hts gL_law_X7_trace rfl rfl rfl (by decide +kernel) ⟨(Nat.le_of_ble_eq_true rfl), (Nat.le_of_ble_eq_true rfl)⟩) hK hG hP2 hP hS hs2 hd21 (by decide) mF_0 rfl rfl rfl hl.1 (Nat.le_of_ble_eq_true rfl) dL_law_519 ⟨Nat.le_refl _, Nat.le_refl _⟩ (fun H locs hP2 hP hS => ?_)
        have hsp := sp_trace hZ (xs (i + 1))
        refine lv_icmp_eq (tgt := 586) hx hb dL_law_522 (by decide) (fun _ => ?_) (fun c9 => absurd hsp.1 c9)
        exact back _ _ H locs hsp.2 hP hP2 hS
      | 13, _ =>
        refine lv_tableIn (off := 495) (tgt := 527) hx hb dL_law_32 (by decide) (by decide) (by decide) (by decide) ?_
        refine lv_aload_n hx hb dL_law_527 rfl (lv_at hl 1 rfl) ?_
        refine lv_aload_n hx hb dL_law_528 rfl (lv_at hl 0 rfl) ?_
        refine lv_iload_n hx hb dL_law_529 rfl (lv_at hl 3 rfl) ?_
        refine lv_iconst (v := 1) hx hb dL_law_530 (by decide) ?_
        refine lv_iadd hx hb dL_law_531 ?_
        refine g_top (y := nI (i + 1)) (nI_1 i) ?_
        refine va_sld hx hb hX hbl hbA hS hi1 dL_law_532 ?_
        refine g_top (y := xs (i + 1)) hr1 ?_
        refine l_callV (n := 98) (n2 := 18) (F := cF ad cy) (F2 := mF bd cy) (As := [.int (xs (i + 1))]) (rest := []) (N := 7) (T := TX6) (ci := 5) ⟨hx, hb, hml, hown, hts⟩ (c_noted l D cy ad wy mt hj σ (xs (i + 1)) hZ.lg) (cwV 1 hts gL_law_X6_noted rfl rfl rfl (by decide +kernel) ⟨(Nat.le_of_ble_eq_true rfl), (Nat.le_of_ble_eq_true rfl)⟩) hK hG hP hP2 hS hs1 hd12 (by decide) cF_0 rfl rfl rfl hl.1 (Nat.le_of_ble_eq_true rfl) dL_law_533 ⟨Nat.le_refl _, Nat.le_refl _⟩ (fun H locs hP hP2 hS => ?_)
        refine lv_aload_n hx hb dL_law_536 rfl (lv_at hl 2 rfl) ?_
        refine lv_aload_n hx hb dL_law_537 rfl (lv_at hl 0 rfl) ?_
        refine lv_iload_n hx hb dL_law_538 rfl (lv_at hl 3 rfl) ?_
        refine lv_iconst (v := 1) hx hb dL_law_539 (by decide) ?_
        refine lv_iadd hx hb dL_law_540 ?_
        refine g_top (y := nI (i + 1)) (nI_1 i) ?_
        refine va_sld hx hb hX hbl hbA hS hi1 dL_law_541 ?_
        refine g_top (y := xs (i + 1)) hr1 ?_
        refine l_callV (n := 18) (n2 := 98) (ad := bd) (bd := ad) (F := mF bd cy) (F2 := cF ad cy) (As := [.int (xs (i + 1))]) (rest := [.int (cpNoted σ (xs (i + 1)))]) (N := 28) (T := TX7) (ci := 6) ⟨hx, hb, hml, hown, hts⟩ (m_noted l D cy bd wy mt hj2 τ (xs (i + 1)) hZ.t6) (cwV 1 hts gL_law_X7_noted rfl rfl rfl (by decide +kernel) ⟨(Nat.le_of_ble_eq_true rfl), (Nat.le_of_ble_eq_true rfl)⟩) hK hG hP2 hP hS hs2 hd21 (by decide) mF_0 rfl rfl rfl hl.1 (Nat.le_of_ble_eq_true rfl) dL_law_542 ⟨Nat.le_refl _, Nat.le_refl _⟩ (fun H locs hP2 hP hS => ?_)
        have hsp := sp_noted hZ (xs (i + 1))
        refine lv_icmp_eq (tgt := 586) hx hb dL_law_545 (by decide) (fun _ => ?_) (fun c9 => absurd hsp.1 c9)
        exact back _ _ H locs hsp.2 hP hP2 hS
      | 14, _ =>
        refine lv_tableIn (off := 518) (tgt := 550) hx hb dL_law_32 (by decide) (by decide) (by decide) (by decide) ?_
        refine lv_aload_n hx hb dL_law_550 rfl (lv_at hl 1 rfl) ?_
        refine lv_aload_n hx hb dL_law_551 rfl (lv_at hl 0 rfl) ?_
        refine lv_iload_n hx hb dL_law_552 rfl (lv_at hl 3 rfl) ?_
        refine lv_iconst (v := 1) hx hb dL_law_553 (by decide) ?_
        refine lv_iadd hx hb dL_law_554 ?_
        refine g_top (y := nI (i + 1)) (nI_1 i) ?_
        refine va_sld hx hb hX hbl hbA hS hi1 dL_law_555 ?_
        refine g_top (y := xs (i + 1)) hr1 ?_
        refine l_callV (n := 98) (n2 := 18) (F := cF ad cy) (F2 := mF bd cy) (As := [.int (xs (i + 1))]) (rest := []) (N := 7) (T := TX6) (ci := 5) ⟨hx, hb, hml, hown, hts⟩ (c_drops l D cy ad wy mt hj σ (xs (i + 1))) (cwV 1 hts gL_law_X6_drops rfl rfl rfl (by decide +kernel) ⟨(Nat.le_of_ble_eq_true rfl), (Nat.le_of_ble_eq_true rfl)⟩) hK hG hP hP2 hS hs1 hd12 (by decide) cF_0 rfl rfl rfl hl.1 (Nat.le_of_ble_eq_true rfl) dL_law_556 ⟨Nat.le_refl _, Nat.le_refl _⟩ (fun H locs hP hP2 hS => ?_)
        refine lv_aload_n hx hb dL_law_559 rfl (lv_at hl 2 rfl) ?_
        refine lv_aload_n hx hb dL_law_560 rfl (lv_at hl 0 rfl) ?_
        refine lv_iload_n hx hb dL_law_561 rfl (lv_at hl 3 rfl) ?_
        refine lv_iconst (v := 1) hx hb dL_law_562 (by decide) ?_
        refine lv_iadd hx hb dL_law_563 ?_
        refine g_top (y := nI (i + 1)) (nI_1 i) ?_
        refine va_sld hx hb hX hbl hbA hS hi1 dL_law_564 ?_
        refine g_top (y := xs (i + 1)) hr1 ?_
        refine l_callV (n := 18) (n2 := 98) (ad := bd) (bd := ad) (F := mF bd cy) (F2 := cF ad cy) (As := [.int (xs (i + 1))]) (rest := [.int (cpDrops σ (xs (i + 1)))]) (N := 28) (T := TX7) (ci := 6) ⟨hx, hb, hml, hown, hts⟩ (m_drops l D cy bd wy mt hj2 τ (xs (i + 1))) (cwV 1 hts gL_law_X7_drops rfl rfl rfl (by decide +kernel) ⟨(Nat.le_of_ble_eq_true rfl), (Nat.le_of_ble_eq_true rfl)⟩) hK hG hP2 hP hS hs2 hd21 (by decide) mF_0 rfl rfl rfl hl.1 (Nat.le_of_ble_eq_true rfl) dL_law_565 ⟨Nat.le_refl _, Nat.le_refl _⟩ (fun H locs hP2 hP hS => ?_)
        have hsp := sp_drops hZ (xs (i + 1))
        refine lv_icmp_eq (tgt := 586) hx hb dL_law_568 (by decide) (fun _ => ?_) (fun c9 => absurd hsp.1 c9)
        exact back _ _ H locs hsp.2 hP hP2 hS
      | 15, _ =>
        refine lv_tableIn (off := 541) (tgt := 573) hx hb dL_law_32 (by decide) (by decide) (by decide) (by decide) ?_
        refine lv_aload_n hx hb dL_law_573 rfl (lv_at hl 1 rfl) ?_
        refine l_callV (n := 98) (n2 := 18) (F := cF ad cy) (F2 := mF bd cy) (As := []) (rest := []) (N := 7) (T := TX6) (ci := 5) ⟨hx, hb, hml, hown, hts⟩ (c_sum l D cy ad wy mt hj σ ) (cwV 0 hts gL_law_X6_sum rfl rfl rfl (by decide +kernel) ⟨(Nat.le_of_ble_eq_true rfl), (Nat.le_of_ble_eq_true rfl)⟩) hK hG hP hP2 hS hs1 hd12 (by decide) cF_0 rfl rfl rfl hl.1 (Nat.le_of_ble_eq_true rfl) dL_law_574 ⟨Nat.le_refl _, Nat.le_refl _⟩ (fun H locs hP hP2 hS => ?_)
        refine lv_aload_n hx hb dL_law_577 rfl (lv_at hl 2 rfl) ?_
        refine l_callV (n := 18) (n2 := 98) (ad := bd) (bd := ad) (F := mF bd cy) (F2 := cF ad cy) (As := []) (rest := [.int (cSumF σ 8 0 0)]) (N := 28) (T := TX7) (ci := 6) ⟨hx, hb, hml, hown, hts⟩ (m_sum l D cy bd wy mt hj2 τ ) (cwV 0 hts gL_law_X7_sum rfl rfl rfl (by decide +kernel) ⟨(Nat.le_of_ble_eq_true rfl), (Nat.le_of_ble_eq_true rfl)⟩) hK hG hP2 hP hS hs2 hd21 (by decide) mF_0 rfl rfl rfl hl.1 (Nat.le_of_ble_eq_true rfl) dL_law_578 ⟨Nat.le_refl _, Nat.le_refl _⟩ (fun H locs hP2 hP hS => ?_)
        have hsp := sp_sum hZ 
        refine lv_icmp_eq (tgt := 586) hx hb dL_law_581 (by decide) (fun _ => ?_) (fun c9 => absurd hsp.1 c9)
        exact back _ _ H locs hsp.2 hP hP2 hS
      | k + 16, h => exact absurd h (by omega)
