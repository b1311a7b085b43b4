def mIn (v lo hi : Int32) : Int32 :=
  if v < lo then 0
  else if hi < v then 0
  else 1
set_option maxHeartbeats 4000000 in
set_option maxRecDepth 100000 in
theorem m_in (l : Launch) (v lo hi : Int32) : Met l yX7_in wsX7_in ({ frames := 0, cells := 0, slots := 0, locals := 0 }) (fun av _ => av = ([.int v, .int lo, .int hi] : List Value).toArray) (QcRead (mIn v lo hi)) 0 0 (fun _ => False) := by
  refine g_metS (cc := cX7_in) (maxL := 3) (ret := (some .boolean)) (by decide) rfl (Nat.le_of_ble_eq_true rfl) ?_
  intro p e s m below meth c S hr hlocks ls hl
  obtain ⟨hx, hb, hml, hown, hts⟩ := S
  have hl : lv_has ls 3 [(0, .int v), (1, .int lo), (2, .int hi)] := hl
  refine lv_iload_n hx hb dX7_in_0 rfl (lv_at hl 0 rfl) ?_
  refine lv_iload_n hx hb dX7_in_1 rfl (lv_at hl 1 rfl) ?_
  refine lv_icmp_lt (tgt := 14) hx hb dX7_in_2 (by decide) (fun c_1 => ?_) (fun c_1 => ?_)
  · skip
    refine lv_iconst (v := 0) hx hb dX7_in_14 (by decide) ?_
    exact g_szret hx hb hr hlocks dX7_in_15 (by decide) (by unfold mIn; rw [if_pos c_1] <;> rfl)
  · skip
    refine lv_iload_n hx hb dX7_in_5 rfl (lv_at hl 0 rfl) ?_
    refine lv_iload_n hx hb dX7_in_6 rfl (lv_at hl 2 rfl) ?_
    refine lv_icmp_gt (tgt := 14) hx hb dX7_in_7 (by decide) (fun c_2 => ?_) (fun c_2 => ?_)
    · skip
      refine lv_iconst (v := 0) hx hb dX7_in_14 (by decide) ?_
      exact g_szret hx hb hr hlocks dX7_in_15 (by decide) (by unfold mIn; rw [if_neg c_1, if_pos c_2] <;> rfl)
    · skip
      refine lv_iconst (v := 1) hx hb dX7_in_10 (by decide) ?_
      refine lv_goto (tgt := 15) hx hb dX7_in_11 (by decide) ?_
      exact g_szret hx hb hr hlocks dX7_in_15 (by decide) (by unfold mIn; rw [if_neg c_1, if_neg c_2] <;> rfl)
theorem mIn_eq (v lo hi : Int32) : mIn v lo hi = inR v lo hi := rfl
theorem mIn_01 (v lo hi : Int32) : mIn v lo hi = 0 ∨ mIn v lo hi = 1 := by
  unfold mIn
  split
  · exact Or.inl rfl
  split
  · exact Or.inl rfl
  · exact Or.inr rfl
theorem mIn_nar (v lo hi : Int32) : narrow .boolean (.int (mIn v lo hi)) = .int (mIn v lo hi) := by
  rcases mIn_01 v lo hi with h | h <;> rw [h] <;> decide
theorem mIn_fit (v lo hi : Int32) : fits .boolean (.int (mIn v lo hi)) = true := by
  rcases mIn_01 v lo hi with h | h <;> rw [h] <;> decide

def mIsB (v : Int32) : Int32 :=
  mIn v 0 3
set_option maxHeartbeats 4000000 in
set_option maxRecDepth 100000 in
theorem m_isBatch (l : Launch) (v : Int32) : Met l yX7_isBatch wsX7_isBatch ({ frames := 1, cells := 0, slots := 0, locals := 22 }) (fun av _ => av = ([.int v] : List Value).toArray) (QcRead (mIsB v)) 0 0 (fun _ => False) := by
  refine g_metS (cc := cX7_isBatch) (maxL := 1) (ret := (some .boolean)) (by decide) rfl (Nat.le_of_ble_eq_true rfl) ?_
  intro p e s m below meth c S hr hlocks ls hl
  obtain ⟨hx, hb, hml, hown, hts⟩ := S
  have hl : lv_has ls 1 [(0, .int v)] := hl
  refine lv_iload_n hx hb dX7_isBatch_0 rfl (lv_at hl 0 rfl) ?_
  refine lv_iconst (v := 0) hx hb dX7_isBatch_1 (by decide) ?_
  refine lv_iconst (v := 3) hx hb dX7_isBatch_2 (by decide) ?_
  refine g_callS (As := [.int v, .int 0, .int 3]) (rest := []) ⟨hx, hb, hml, hown, hts⟩ (m_in l v 0 3) (va_cwS 3 hts gX7_isBatch_X7_in rfl rfl rfl (by decide +kernel) ⟨by decide, by decide⟩) rfl rfl hl.1 (Nat.le_of_ble_eq_true rfl) dX7_isBatch_3 ⟨Nat.zero_le _, Nat.zero_le _⟩ ?_
  exact g_szret hx hb hr hlocks dX7_isBatch_6 (mIn_nar _ _ _) rfl

def mMost (kd : Nat) : Int32 :=
  if kd = 0 then 200
  else if kd = 1 then 200
  else if kd = 2 then 200
  else if kd = 3 then 9
  else if kd = 4 then 200
  else if kd = 5 then 200
  else if kd = 6 then 200
  else if kd = 7 then 9
  else if kd = 8 then 200
  else if kd = 9 then 200
  else if kd = 10 then 9
  else if kd = 11 then 9
  else if kd = 12 then 40
  else if kd = 13 then 60
  else if kd = 14 then 35
  else if kd = 15 then 99
  else if kd = 16 then 2
  else 3
set_option maxHeartbeats 4000000 in
set_option maxRecDepth 100000 in
theorem m_most (l : Launch) (kd : Nat) (hkd : kd < 18) : Met l yX7_most wsX7_most ({ frames := 0, cells := 0, slots := 0, locals := 0 }) (fun av _ => av = ([.int (nI kd)] : List Value).toArray) (QcRead (mMost kd)) 0 0 (fun _ => False) := by
  refine g_metS (cc := cX7_most) (maxL := 1) (ret := (some .int)) (by decide) rfl (Nat.le_of_ble_eq_true rfl) ?_
  intro p e s m below meth c S hr hlocks ls hl
  obtain ⟨hx, hb, hml, hown, hts⟩ := S
  have hl : lv_has ls 1 [(0, .int (nI kd))] := hl
  refine lv_iload_n hx hb dX7_most_0 rfl (lv_at hl 0 rfl) ?_
  rcases (show kd = 0 ∨ kd = 1 ∨ kd = 2 ∨ kd = 3 ∨ kd = 4 ∨ kd = 5 ∨ kd = 6 ∨ kd = 7 ∨ kd = 8 ∨ kd = 9 ∨ kd = 10 ∨ kd = 11 ∨ kd = 12 ∨ kd = 13 ∨ kd = 14 ∨ kd = 15 ∨ kd = 16 ∨ kd = 17 by omega) with rfl | rfl | rfl | rfl | rfl | rfl | rfl | rfl | rfl | rfl | rfl | rfl | rfl | rfl | rfl | rfl | rfl | rfl
  · skip
    refine lv_tableOut (tgt := 95) hx hb dX7_most_1 (by decide) (by decide) ?_
    refine lv_sipush (v := 200) hx hb dX7_most_95 (by decide) ?_
    exact g_sret hx hb hr hlocks dX7_most_98 (by unfold mMost; rw [if_pos (rfl : (0 : Nat) = 0)] <;> rfl)
  · skip
    refine lv_tableOut (tgt := 95) hx hb dX7_most_1 (by decide) (by decide) ?_
    refine lv_sipush (v := 200) hx hb dX7_most_95 (by decide) ?_
    exact g_sret hx hb hr hlocks dX7_most_98 (by unfold mMost; rw [if_neg (show ¬ (1 : Nat) = 0 by decide), if_pos (rfl : (1 : Nat) = 1)] <;> rfl)
  · skip
    refine lv_tableOut (tgt := 95) hx hb dX7_most_1 (by decide) (by decide) ?_
    refine lv_sipush (v := 200) hx hb dX7_most_95 (by decide) ?_
    exact g_sret hx hb hr hlocks dX7_most_98 (by unfold mMost; rw [if_neg (show ¬ (2 : Nat) = 0 by decide), if_neg (show ¬ (2 : Nat) = 1 by decide), if_pos (rfl : (2 : Nat) = 2)] <;> rfl)
  · skip
    refine lv_tableIn (off := 75) (tgt := 76) hx hb dX7_most_1 (by decide) (by decide) (by decide) (by decide) ?_
    refine lv_bipush (v := 9) hx hb dX7_most_76 (by decide) ?_
    exact g_sret hx hb hr hlocks dX7_most_78 (by unfold mMost; rw [if_neg (show ¬ (3 : Nat) = 0 by decide), if_neg (show ¬ (3 : Nat) = 1 by decide), if_neg (show ¬ (3 : Nat) = 2 by decide), if_pos (rfl : (3 : Nat) = 3)] <;> rfl)
  · skip
    refine lv_tableIn (off := 94) (tgt := 95) hx hb dX7_most_1 (by decide) (by decide) (by decide) (by decide) ?_
    refine lv_sipush (v := 200) hx hb dX7_most_95 (by decide) ?_
    exact g_sret hx hb hr hlocks dX7_most_98 (by unfold mMost; rw [if_neg (show ¬ (4 : Nat) = 0 by decide), if_neg (show ¬ (4 : Nat) = 1 by decide), if_neg (show ¬ (4 : Nat) = 2 by decide), if_neg (show ¬ (4 : Nat) = 3 by decide), if_pos (rfl : (4 : Nat) = 4)] <;> rfl)
  · skip
    refine lv_tableIn (off := 94) (tgt := 95) hx hb dX7_most_1 (by decide) (by decide) (by decide) (by decide) ?_
    refine lv_sipush (v := 200) hx hb dX7_most_95 (by decide) ?_
    exact g_sret hx hb hr hlocks dX7_most_98 (by unfold mMost; rw [if_neg (show ¬ (5 : Nat) = 0 by decide), if_neg (show ¬ (5 : Nat) = 1 by decide), if_neg (show ¬ (5 : Nat) = 2 by decide), if_neg (show ¬ (5 : Nat) = 3 by decide), if_neg (show ¬ (5 : Nat) = 4 by decide), if_pos (rfl : (5 : Nat) = 5)] <;> rfl)
  · skip
    refine lv_tableIn (off := 94) (tgt := 95) hx hb dX7_most_1 (by decide) (by decide) (by decide) (by decide) ?_
    refine lv_sipush (v := 200) hx hb dX7_most_95 (by decide) ?_
    exact g_sret hx hb hr hlocks dX7_most_98 (by unfold mMost; rw [if_neg (show ¬ (6 : Nat) = 0 by decide), if_neg (show ¬ (6 : Nat) = 1 by decide), if_neg (show ¬ (6 : Nat) = 2 by decide), if_neg (show ¬ (6 : Nat) = 3 by decide), if_neg (show ¬ (6 : Nat) = 4 by decide), if_neg (show ¬ (6 : Nat) = 5 by decide), if_pos (rfl : (6 : Nat) = 6)] <;> rfl)
  · skip
    refine lv_tableIn (off := 75) (tgt := 76) hx hb dX7_most_1 (by decide) (by decide) (by decide) (by decide) ?_
    refine lv_bipush (v := 9) hx hb dX7_most_76 (by decide) ?_
    exact g_sret hx hb hr hlocks dX7_most_78 (by unfold mMost; rw [if_neg (show ¬ (7 : Nat) = 0 by decide), if_neg (show ¬ (7 : Nat) = 1 by decide), if_neg (show ¬ (7 : Nat) = 2 by decide), if_neg (show ¬ (7 : Nat) = 3 by decide), if_neg (show ¬ (7 : Nat) = 4 by decide), if_neg (show ¬ (7 : Nat) = 5 by decide), if_neg (show ¬ (7 : Nat) = 6 by decide), if_pos (rfl : (7 : Nat) = 7)] <;> rfl)
  · skip
    refine lv_tableIn (off := 94) (tgt := 95) hx hb dX7_most_1 (by decide) (by decide) (by decide) (by decide) ?_
    refine lv_sipush (v := 200) hx hb dX7_most_95 (by decide) ?_
    exact g_sret hx hb hr hlocks dX7_most_98 (by unfold mMost; rw [if_neg (show ¬ (8 : Nat) = 0 by decide), if_neg (show ¬ (8 : Nat) = 1 by decide), if_neg (show ¬ (8 : Nat) = 2 by decide), if_neg (show ¬ (8 : Nat) = 3 by decide), if_neg (show ¬ (8 : Nat) = 4 by decide), if_neg (show ¬ (8 : Nat) = 5 by decide), if_neg (show ¬ (8 : Nat) = 6 by decide), if_neg (show ¬ (8 : Nat) = 7 by decide), if_pos (rfl : (8 : Nat) = 8)] <;> rfl)
  · skip
    refine lv_tableIn (off := 94) (tgt := 95) hx hb dX7_most_1 (by decide) (by decide) (by decide) (by decide) ?_
    refine lv_sipush (v := 200) hx hb dX7_most_95 (by decide) ?_
    exact g_sret hx hb hr hlocks dX7_most_98 (by unfold mMost; rw [if_neg (show ¬ (9 : Nat) = 0 by decide), if_neg (show ¬ (9 : Nat) = 1 by decide), if_neg (show ¬ (9 : Nat) = 2 by decide), if_neg (show ¬ (9 : Nat) = 3 by decide), if_neg (show ¬ (9 : Nat) = 4 by decide), if_neg (show ¬ (9 : Nat) = 5 by decide), if_neg (show ¬ (9 : Nat) = 6 by decide), if_neg (show ¬ (9 : Nat) = 7 by decide), if_neg (show ¬ (9 : Nat) = 8 by decide), if_pos (rfl : (9 : Nat) = 9)] <;> rfl)
  · skip
    refine lv_tableIn (off := 75) (tgt := 76) hx hb dX7_most_1 (by decide) (by decide) (by decide) (by decide) ?_
    refine lv_bipush (v := 9) hx hb dX7_most_76 (by decide) ?_
    exact g_sret hx hb hr hlocks dX7_most_78 (by unfold mMost; rw [if_neg (show ¬ (10 : Nat) = 0 by decide), if_neg (show ¬ (10 : Nat) = 1 by decide), if_neg (show ¬ (10 : Nat) = 2 by decide), if_neg (show ¬ (10 : Nat) = 3 by decide), if_neg (show ¬ (10 : Nat) = 4 by decide), if_neg (show ¬ (10 : Nat) = 5 by decide), if_neg (show ¬ (10 : Nat) = 6 by decide), if_neg (show ¬ (10 : Nat) = 7 by decide), if_neg (show ¬ (10 : Nat) = 8 by decide), if_neg (show ¬ (10 : Nat) = 9 by decide), if_pos (rfl : (10 : Nat) = 10)] <;> rfl)
  · skip
    refine lv_tableIn (off := 75) (tgt := 76) hx hb dX7_most_1 (by decide) (by decide) (by decide) (by decide) ?_
    refine lv_bipush (v := 9) hx hb dX7_most_76 (by decide) ?_
    exact g_sret hx hb hr hlocks dX7_most_78 (by unfold mMost; rw [if_neg (show ¬ (11 : Nat) = 0 by decide), if_neg (show ¬ (11 : Nat) = 1 by decide), if_neg (show ¬ (11 : Nat) = 2 by decide), if_neg (show ¬ (11 : Nat) = 3 by decide), if_neg (show ¬ (11 : Nat) = 4 by decide), if_neg (show ¬ (11 : Nat) = 5 by decide), if_neg (show ¬ (11 : Nat) = 6 by decide), if_neg (show ¬ (11 : Nat) = 7 by decide), if_neg (show ¬ (11 : Nat) = 8 by decide), if_neg (show ¬ (11 : Nat) = 9 by decide), if_neg (show ¬ (11 : Nat) = 10 by decide), if_pos (rfl : (11 : Nat) = 11)] <;> rfl)
  · skip
    refine lv_tableIn (off := 78) (tgt := 79) hx hb dX7_most_1 (by decide) (by decide) (by decide) (by decide) ?_
    refine lv_bipush (v := 40) hx hb dX7_most_79 (by decide) ?_
    exact g_sret hx hb hr hlocks dX7_most_81 (by unfold mMost; rw [if_neg (show ¬ (12 : Nat) = 0 by decide), if_neg (show ¬ (12 : Nat) = 1 by decide), if_neg (show ¬ (12 : Nat) = 2 by decide), if_neg (show ¬ (12 : Nat) = 3 by decide), if_neg (show ¬ (12 : Nat) = 4 by decide), if_neg (show ¬ (12 : Nat) = 5 by decide), if_neg (show ¬ (12 : Nat) = 6 by decide), if_neg (show ¬ (12 : Nat) = 7 by decide), if_neg (show ¬ (12 : Nat) = 8 by decide), if_neg (show ¬ (12 : Nat) = 9 by decide), if_neg (show ¬ (12 : Nat) = 10 by decide), if_neg (show ¬ (12 : Nat) = 11 by decide), if_pos (rfl : (12 : Nat) = 12)] <;> rfl)
  · skip
    refine lv_tableIn (off := 81) (tgt := 82) hx hb dX7_most_1 (by decide) (by decide) (by decide) (by decide) ?_
    refine lv_bipush (v := 60) hx hb dX7_most_82 (by decide) ?_
    exact g_sret hx hb hr hlocks dX7_most_84 (by unfold mMost; rw [if_neg (show ¬ (13 : Nat) = 0 by decide), if_neg (show ¬ (13 : Nat) = 1 by decide), if_neg (show ¬ (13 : Nat) = 2 by decide), if_neg (show ¬ (13 : Nat) = 3 by decide), if_neg (show ¬ (13 : Nat) = 4 by decide), if_neg (show ¬ (13 : Nat) = 5 by decide), if_neg (show ¬ (13 : Nat) = 6 by decide), if_neg (show ¬ (13 : Nat) = 7 by decide), if_neg (show ¬ (13 : Nat) = 8 by decide), if_neg (show ¬ (13 : Nat) = 9 by decide), if_neg (show ¬ (13 : Nat) = 10 by decide), if_neg (show ¬ (13 : Nat) = 11 by decide), if_neg (show ¬ (13 : Nat) = 12 by decide), if_pos (rfl : (13 : Nat) = 13)] <;> rfl)
  · skip
    refine lv_tableIn (off := 84) (tgt := 85) hx hb dX7_most_1 (by decide) (by decide) (by decide) (by decide) ?_
    refine lv_bipush (v := 35) hx hb dX7_most_85 (by decide) ?_
    exact g_sret hx hb hr hlocks dX7_most_87 (by unfold mMost; rw [if_neg (show ¬ (14 : Nat) = 0 by decide), if_neg (show ¬ (14 : Nat) = 1 by decide), if_neg (show ¬ (14 : Nat) = 2 by decide), if_neg (show ¬ (14 : Nat) = 3 by decide), if_neg (show ¬ (14 : Nat) = 4 by decide), if_neg (show ¬ (14 : Nat) = 5 by decide), if_neg (show ¬ (14 : Nat) = 6 by decide), if_neg (show ¬ (14 : Nat) = 7 by decide), if_neg (show ¬ (14 : Nat) = 8 by decide), if_neg (show ¬ (14 : Nat) = 9 by decide), if_neg (show ¬ (14 : Nat) = 10 by decide), if_neg (show ¬ (14 : Nat) = 11 by decide), if_neg (show ¬ (14 : Nat) = 12 by decide), if_neg (show ¬ (14 : Nat) = 13 by decide), if_pos (rfl : (14 : Nat) = 14)] <;> rfl)
  · skip
    refine lv_tableIn (off := 87) (tgt := 88) hx hb dX7_most_1 (by decide) (by decide) (by decide) (by decide) ?_
    refine lv_bipush (v := 99) hx hb dX7_most_88 (by decide) ?_
    exact g_sret hx hb hr hlocks dX7_most_90 (by unfold mMost; rw [if_neg (show ¬ (15 : Nat) = 0 by decide), if_neg (show ¬ (15 : Nat) = 1 by decide), if_neg (show ¬ (15 : Nat) = 2 by decide), if_neg (show ¬ (15 : Nat) = 3 by decide), if_neg (show ¬ (15 : Nat) = 4 by decide), if_neg (show ¬ (15 : Nat) = 5 by decide), if_neg (show ¬ (15 : Nat) = 6 by decide), if_neg (show ¬ (15 : Nat) = 7 by decide), if_neg (show ¬ (15 : Nat) = 8 by decide), if_neg (show ¬ (15 : Nat) = 9 by decide), if_neg (show ¬ (15 : Nat) = 10 by decide), if_neg (show ¬ (15 : Nat) = 11 by decide), if_neg (show ¬ (15 : Nat) = 12 by decide), if_neg (show ¬ (15 : Nat) = 13 by decide), if_neg (show ¬ (15 : Nat) = 14 by decide), if_pos (rfl : (15 : Nat) = 15)] <;> rfl)
  · skip
    refine lv_tableIn (off := 90) (tgt := 91) hx hb dX7_most_1 (by decide) (by decide) (by decide) (by decide) ?_
    refine lv_iconst (v := 2) hx hb dX7_most_91 (by decide) ?_
    exact g_sret hx hb hr hlocks dX7_most_92 (by unfold mMost; rw [if_neg (show ¬ (16 : Nat) = 0 by decide), if_neg (show ¬ (16 : Nat) = 1 by decide), if_neg (show ¬ (16 : Nat) = 2 by decide), if_neg (show ¬ (16 : Nat) = 3 by decide), if_neg (show ¬ (16 : Nat) = 4 by decide), if_neg (show ¬ (16 : Nat) = 5 by decide), if_neg (show ¬ (16 : Nat) = 6 by decide), if_neg (show ¬ (16 : Nat) = 7 by decide), if_neg (show ¬ (16 : Nat) = 8 by decide), if_neg (show ¬ (16 : Nat) = 9 by decide), if_neg (show ¬ (16 : Nat) = 10 by decide), if_neg (show ¬ (16 : Nat) = 11 by decide), if_neg (show ¬ (16 : Nat) = 12 by decide), if_neg (show ¬ (16 : Nat) = 13 by decide), if_neg (show ¬ (16 : Nat) = 14 by decide), if_neg (show ¬ (16 : Nat) = 15 by decide), if_pos (rfl : (16 : Nat) = 16)] <;> rfl)
  · skip
    refine lv_tableIn (off := 92) (tgt := 93) hx hb dX7_most_1 (by decide) (by decide) (by decide) (by decide) ?_
    refine lv_iconst (v := 3) hx hb dX7_most_93 (by decide) ?_
    exact g_sret hx hb hr hlocks dX7_most_94 (by unfold mMost; rw [if_neg (show ¬ (17 : Nat) = 0 by decide), if_neg (show ¬ (17 : Nat) = 1 by decide), if_neg (show ¬ (17 : Nat) = 2 by decide), if_neg (show ¬ (17 : Nat) = 3 by decide), if_neg (show ¬ (17 : Nat) = 4 by decide), if_neg (show ¬ (17 : Nat) = 5 by decide), if_neg (show ¬ (17 : Nat) = 6 by decide), if_neg (show ¬ (17 : Nat) = 7 by decide), if_neg (show ¬ (17 : Nat) = 8 by decide), if_neg (show ¬ (17 : Nat) = 9 by decide), if_neg (show ¬ (17 : Nat) = 10 by decide), if_neg (show ¬ (17 : Nat) = 11 by decide), if_neg (show ¬ (17 : Nat) = 12 by decide), if_neg (show ¬ (17 : Nat) = 13 by decide), if_neg (show ¬ (17 : Nat) = 14 by decide), if_neg (show ¬ (17 : Nat) = 15 by decide), if_neg (show ¬ (17 : Nat) = 16 by decide)] <;> rfl)

def mMark (σ : Mem) (ev : Nat) : Mem :=
  if 400 ≤ σ 14 7 then mset (mset σ 14 7 ((σ 14 7) + 1)) 14 ev (((mset σ 14 7 ((σ 14 7) + 1)) 14 ev) + 1)
  else mset (mset (mset σ 15 (ci (σ 14 7)) (nI (ev + 1))) 14 7 ((σ 14 7) + 1)) 14 ev (((mset (mset σ 15 (ci (σ 14 7)) (nI (ev + 1))) 14 7 ((σ 14 7) + 1)) 14 ev) + 1)
set_option maxHeartbeats 4000000 in
set_option maxRecDepth 100000 in
theorem m_mark (l : Launch) (D : va_G) (cy : Nat → ClassId) (ad wy : Nat → Nat) (mt : Nat) (hj : mJ 18 ad) (σ : Mem) (ev : Nat) (hev : ev < 6) (hec : ¬ (400 : Int32) ≤ σ 14 7 → vp_in (σ 14 7) 400) : Met l yX7_mark wsX7_mark ({ frames := 0, cells := 0, slots := 0, locals := 0 }) (va_Pc [.ref (ad 0), .int (nI (ev + 1))] (gPre 18 ad (mF ad cy) D cy wy mt σ)) (gQ 18 ad (mF ad cy) D none (mMark σ ev)) 0 0 (mA 18 ad) := by
  refine g_met (cc := cX7_mark) (maxL := 2) (ret := none) (by decide) rfl (Nat.le_of_ble_eq_true rfl) ?_
  intro p e s m below meth c S hr hlocks h0 ls hl
  obtain ⟨hx, hb, hml, hown, hts⟩ := S
  have hP := h0.1
  have hK := h0.2.1
  have hS : va_S (mA 18 ad) s.heap s.heap [] := va_S.rf
  have hl : lv_has ls 2 [(0, .ref (ad 0)), (1, .int (nI (ev + 1)))] := hl
  have kf60 : (Cond.fieldLink RX7 60 "BenchRunsModel" "told" "[I").before (#[.ref (ad 0), .int (nI (ev + 1))] : Array Value) s = true := hts _ (by decide +kernel)
  have hinX7 : ∀ w ∈ u_ws RX7 TX7 28, w ∈ wsX7_mark := by decide +kernel
  have kf63 : (Cond.fieldLink RX7 63 "BenchRunsModel" "trace" "[I").before (#[.ref (ad 0), .int (nI (ev + 1))] : Array Value) s = true := hts _ (by decide +kernel)
  refine lv_aload_n hx hb dX7_mark_0 rfl (lv_at hl 0 rfl) ?_
  refine mw_get (ci := 6) (C := RX7) (T := TX7) (N := 28) (v := .ref (ad 14)) hx hb hts hinX7 hown hK hP 0 (by decide) mF_0 rfl 19 (by decide) kf60 (fun _ h9 => h9) rfl dX7_mark_1 ?_
  refine lv_bipush (v := 7) hx hb dX7_mark_4 (by decide) ?_
  refine mw_ild hx hb hK hP 14 (by decide) 0 mF_14 rfl 7 (by decide) (by decide) rfl dX7_mark_6 ?_
  refine lv_sipush (v := 400) hx hb dX7_mark_7 (by decide) ?_
  refine lv_icmp_ge (tgt := 26) hx hb dX7_mark_10 (by decide) (fun c_1 => ?_) (fun c_1 => ?_)
  · skip
    refine lv_aload_n hx hb dX7_mark_26 rfl (lv_at hl 0 rfl) ?_
    refine mw_get (ci := 6) (C := RX7) (T := TX7) (N := 28) (v := .ref (ad 14)) hx hb hts hinX7 hown hK hP 0 (by decide) mF_0 rfl 19 (by decide) kf60 (fun _ h9 => h9) rfl dX7_mark_27 ?_
    refine lv_bipush (v := 7) hx hb dX7_mark_30 (by decide) ?_
    refine lv_dup2_11 hx hb dX7_mark_32 rfl rfl ?_
    refine mw_ild hx hb hK hP 14 (by decide) 0 mF_14 rfl 7 (by decide) (by decide) rfl dX7_mark_33 ?_
    refine lv_iconst (v := 1) hx hb dX7_mark_34 (by decide) ?_
    refine lv_iadd hx hb dX7_mark_35 ?_
    refine mw_ist hx hb hK hj hP hS 14 (by decide) 0 mF_14 rfl 7 (by decide) (by decide) rfl dX7_mark_36 (fun H locs hP hS => ?_)
    refine lv_aload_n hx hb dX7_mark_37 rfl (lv_at hl 0 rfl) ?_
    refine mw_get (ci := 6) (C := RX7) (T := TX7) (N := 28) (v := .ref (ad 14)) hx hb hts hinX7 hown hK hP 0 (by decide) mF_0 rfl 19 (by decide) kf60 (fun _ h9 => h9) rfl dX7_mark_38 ?_
    refine lv_iload_n hx hb dX7_mark_41 rfl (lv_at hl 1 rfl) ?_
    refine lv_iconst (v := 1) hx hb dX7_mark_42 (by decide) ?_
    refine lv_isub hx hb dX7_mark_43 ?_
    refine g_top (y := nI ev) (nI_pred ev) ?_
    refine lv_dup2_11 hx hb dX7_mark_44 rfl rfl ?_
    refine mw_ild hx hb hK hP 14 (by decide) 0 mF_14 rfl ev (by omega) (by decide) rfl dX7_mark_45 ?_
    refine lv_iconst (v := 1) hx hb dX7_mark_46 (by decide) ?_
    refine lv_iadd hx hb dX7_mark_47 ?_
    refine mw_ist hx hb hK hj hP hS 14 (by decide) 0 mF_14 rfl ev (by omega) (by decide) rfl dX7_mark_48 (fun H locs hP hS => ?_)
    exact g_vret hx hb hr hlocks hP hS dX7_mark_49 (by unfold mMark; rw [if_pos c_1] <;> rfl)
  · skip
    have ix : vp_in (σ 14 7) 400 := hec c_1
    refine lv_aload_n hx hb dX7_mark_13 rfl (lv_at hl 0 rfl) ?_
    refine mw_get (ci := 6) (C := RX7) (T := TX7) (N := 28) (v := .ref (ad 15)) hx hb hts hinX7 hown hK hP 0 (by decide) mF_0 rfl 20 (by decide) kf63 (fun _ h9 => h9) rfl dX7_mark_14 ?_
    refine lv_aload_n hx hb dX7_mark_17 rfl (lv_at hl 0 rfl) ?_
    refine mw_get (ci := 6) (C := RX7) (T := TX7) (N := 28) (v := .ref (ad 14)) hx hb hts hinX7 hown hK hP 0 (by decide) mF_0 rfl 19 (by decide) kf60 (fun _ h9 => h9) rfl dX7_mark_18 ?_
    refine lv_bipush (v := 7) hx hb dX7_mark_21 (by decide) ?_
    refine mw_ild hx hb hK hP 14 (by decide) 0 mF_14 rfl 7 (by decide) (by decide) rfl dX7_mark_23 ?_
    refine lv_iload_n hx hb dX7_mark_24 rfl (lv_at hl 1 rfl) ?_
    refine mw_ist hx hb hK hj hP hS 15 (by decide) 0 mF_15 rfl (ci (σ 14 7)) (ci_lt ix) (by decide) (ci_eq ix (by decide)) dX7_mark_25 (fun H locs hP hS => ?_)
    refine lv_aload_n hx hb dX7_mark_26 rfl (lv_at hl 0 rfl) ?_
    refine mw_get (ci := 6) (C := RX7) (T := TX7) (N := 28) (v := .ref (ad 14)) hx hb hts hinX7 hown hK hP 0 (by decide) mF_0 rfl 19 (by decide) kf60 (fun _ h9 => h9) rfl dX7_mark_27 ?_
    refine lv_bipush (v := 7) hx hb dX7_mark_30 (by decide) ?_
    refine lv_dup2_11 hx hb dX7_mark_32 rfl rfl ?_
    refine mw_ild hx hb hK hP 14 (by decide) 0 mF_14 rfl 7 (by decide) (by decide) rfl dX7_mark_33 ?_
    refine lv_iconst (v := 1) hx hb dX7_mark_34 (by decide) ?_
    refine lv_iadd hx hb dX7_mark_35 ?_
    refine mw_ist hx hb hK hj hP hS 14 (by decide) 0 mF_14 rfl 7 (by decide) (by decide) rfl dX7_mark_36 (fun H locs hP hS => ?_)
    refine lv_aload_n hx hb dX7_mark_37 rfl (lv_at hl 0 rfl) ?_
    refine mw_get (ci := 6) (C := RX7) (T := TX7) (N := 28) (v := .ref (ad 14)) hx hb hts hinX7 hown hK hP 0 (by decide) mF_0 rfl 19 (by decide) kf60 (fun _ h9 => h9) rfl dX7_mark_38 ?_
    refine lv_iload_n hx hb dX7_mark_41 rfl (lv_at hl 1 rfl) ?_
    refine lv_iconst (v := 1) hx hb dX7_mark_42 (by decide) ?_
    refine lv_isub hx hb dX7_mark_43 ?_
    refine g_top (y := nI ev) (nI_pred ev) ?_
    refine lv_dup2_11 hx hb dX7_mark_44 rfl rfl ?_
    refine mw_ild hx hb hK hP 14 (by decide) 0 mF_14 rfl ev (by omega) (by decide) rfl dX7_mark_45 ?_
    refine lv_iconst (v := 1) hx hb dX7_mark_46 (by decide) ?_
    refine lv_iadd hx hb dX7_mark_47 ?_
    refine mw_ist hx hb hK hj hP hS 14 (by decide) 0 mF_14 rfl ev (by omega) (by decide) rfl dX7_mark_48 (fun H locs hP hS => ?_)
    exact g_vret hx hb hr hlocks hP hS dX7_mark_49 (by unfold mMark; rw [if_neg c_1] <;> rfl)

def mFail (σ : Mem) (n : Int32) : Int32 × Mem :=
  (5, mset (mset σ 0 24 n) 0 25 (mIn n 3 8))
set_option maxHeartbeats 4000000 in
set_option maxRecDepth 100000 in
theorem m_fails (l : Launch) (D : va_G) (cy : Nat → ClassId) (ad wy : Nat → Nat) (mt : Nat) (hj : mJ 18 ad) (σ : Mem) (n : Int32)  : Met l yX7_fails wsX7_fails ({ frames := 1, cells := 0, slots := 0, locals := 22 }) (va_Pc [.ref (ad 0), .int n] (gPre 18 ad (mF ad cy) D cy wy mt σ)) (gQ 18 ad (mF ad cy) D (some (.int (mFail σ n).1)) (mFail σ n).2) 0 0 (mA 18 ad) := by
  refine g_met (cc := cX7_fails) (maxL := 2) (ret := (some .int)) (by decide) rfl (Nat.le_of_ble_eq_true rfl) ?_
  intro p e s m below meth c S hr hlocks h0 ls hl
  obtain ⟨hx, hb, hml, hown, hts⟩ := S
  have hP := h0.1
  have hK := h0.2.1
  have hS : va_S (mA 18 ad) s.heap s.heap [] := va_S.rf
  have hl : lv_has ls 2 [(0, .ref (ad 0)), (1, .int n)] := hl
  have kf90 : (Cond.fieldLink RX7 90 "BenchRunsModel" "failure" "I").before (#[.ref (ad 0), .int n] : Array Value) s = true := hts _ (by decide +kernel)
  have hinX7 : ∀ w ∈ u_ws RX7 TX7 28, w ∈ wsX7_fails := by decide +kernel
  have kf93 : (Cond.fieldLink RX7 93 "BenchRunsModel" "isMachines" "Z").before (#[.ref (ad 0), .int n] : Array Value) s = true := hts _ (by decide +kernel)
  refine lv_aload_n hx hb dX7_fails_0 rfl (lv_at hl 0 rfl) ?_
  refine lv_iload_n hx hb dX7_fails_1 rfl (lv_at hl 1 rfl) ?_
  refine mw_put (ci := 6) (C := RX7) (T := TX7) (N := 28) (v := n) (ty := .int) hx hb hts hinX7 tyX7 tyX7_ok nmX7 hown hK hj hP hS 0 (by decide) mF_0 rfl 24 (by decide) kf90 (fun _ h9 => h9) rfl (by decide +kernel) rfl rfl (Nat.le_of_ble_eq_true rfl) rfl dX7_fails_2 (fun H locs hP hS => ?_)
  refine lv_aload_n hx hb dX7_fails_5 rfl (lv_at hl 0 rfl) ?_
  refine lv_iload_n hx hb dX7_fails_6 rfl (lv_at hl 1 rfl) ?_
  refine lv_iconst (v := 3) hx hb dX7_fails_7 (by decide) ?_
  refine lv_bipush (v := 8) hx hb dX7_fails_8 (by decide) ?_
  refine g_callS (As := [.int n, .int 3, .int 8]) (rest := [.ref (ad 0)]) ⟨hx, hb, hml, hown, hts⟩ (m_in l n 3 8) (va_cwS 3 hts gX7_fails_X7_in rfl rfl rfl (by decide +kernel) ⟨by decide, by decide⟩) rfl rfl hl.1 (Nat.le_of_ble_eq_true rfl) dX7_fails_10 ⟨Nat.zero_le _, Nat.zero_le _⟩ ?_
  refine mw_put (ci := 6) (C := RX7) (T := TX7) (N := 28) (v := mIn n 3 8) (ty := .boolean) hx hb hts hinX7 tyX7 tyX7_ok nmX7 hown hK hj hP hS 0 (by decide) mF_0 rfl 25 (by decide) kf93 (fun _ h9 => h9) rfl (by decide +kernel) (mIn_nar _ _ _) (mIn_fit _ _ _) (Nat.le_of_ble_eq_true rfl) rfl dX7_fails_13 (fun H locs hP hS => ?_)
  refine lv_iconst (v := 5) hx hb dX7_fails_16 (by decide) ?_
  exact g_iret hx hb hr hlocks hP hS dX7_fails_17 (by unfold mFail; rfl)

def mMore (σ : Mem) (v : Nat) (n : Int32) : Int32 × Mem :=
  if (σ 2 v) + n ≤ 1000 then (0, mset σ 2 v ((σ 2 v) + n))
  else mFail σ 1
set_option maxHeartbeats 4000000 in
set_option maxRecDepth 100000 in
theorem m_more (l : Launch) (D : va_G) (cy : Nat → ClassId) (ad wy : Nat → Nat) (mt : Nat) (hj : mJ 18 ad) (σ : Mem) (v : Nat) (hv : v < 8) (n : Int32)  : Met l yX7_more wsX7_more ({ frames := 2, cells := 0, slots := 0, locals := 43 }) (va_Pc [.ref (ad 0), .int (nI v), .int n] (gPre 18 ad (mF ad cy) D cy wy mt σ)) (gQ 18 ad (mF ad cy) D (some (.int (mMore σ v n).1)) (mMore σ v n).2) 0 0 (mA 18 ad) := by
  refine g_met (cc := cX7_more) (maxL := 3) (ret := (some .int)) (by decide) rfl (Nat.le_of_ble_eq_true rfl) ?_
  intro p e s m below meth c S hr hlocks h0 ls hl
  obtain ⟨hx, hb, hml, hown, hts⟩ := S
  have hP := h0.1
  have hK := h0.2.1
  have hS : va_S (mA 18 ad) s.heap s.heap [] := va_S.rf
  have hl : lv_has ls 3 [(0, .ref (ad 0)), (1, .int (nI v)), (2, .int n)] := hl
  have kf13 : (Cond.fieldLink RX7 13 "BenchRunsModel" "drops" "[I").before (#[.ref (ad 0), .int (nI v), .int n] : Array Value) s = true := hts _ (by decide +kernel)
  have hinX7 : ∀ w ∈ u_ws RX7 TX7 28, w ∈ wsX7_more := by decide +kernel
  refine lv_aload_n hx hb dX7_more_0 rfl (lv_at hl 0 rfl) ?_
  refine mw_get (ci := 6) (C := RX7) (T := TX7) (N := 28) (v := .ref (ad 2)) hx hb hts hinX7 hown hK hP 0 (by decide) mF_0 rfl 2 (by decide) kf13 (fun _ h9 => h9) rfl dX7_more_1 ?_
  refine lv_iload_n hx hb dX7_more_4 rfl (lv_at hl 1 rfl) ?_
  refine mw_ild hx hb hK hP 2 (by decide) 0 mF_2 rfl v (by omega) (by decide) rfl dX7_more_5 ?_
  refine lv_iload_n hx hb dX7_more_6 rfl (lv_at hl 2 rfl) ?_
  refine lv_iadd hx hb dX7_more_7 ?_
  refine lv_sipush (v := 1000) hx hb dX7_more_8 (by decide) ?_
  refine lv_icmp_le (tgt := 20) hx hb dX7_more_11 (by decide) (fun c_1 => ?_) (fun c_1 => ?_)
  · skip
    refine lv_aload_n hx hb dX7_more_20 rfl (lv_at hl 0 rfl) ?_
    refine mw_get (ci := 6) (C := RX7) (T := TX7) (N := 28) (v := .ref (ad 2)) hx hb hts hinX7 hown hK hP 0 (by decide) mF_0 rfl 2 (by decide) kf13 (fun _ h9 => h9) rfl dX7_more_21 ?_
    refine lv_iload_n hx hb dX7_more_24 rfl (lv_at hl 1 rfl) ?_
    refine lv_dup2_11 hx hb dX7_more_25 rfl rfl ?_
    refine mw_ild hx hb hK hP 2 (by decide) 0 mF_2 rfl v (by omega) (by decide) rfl dX7_more_26 ?_
    refine lv_iload_n hx hb dX7_more_27 rfl (lv_at hl 2 rfl) ?_
    refine lv_iadd hx hb dX7_more_28 ?_
    refine mw_ist hx hb hK hj hP hS 2 (by decide) 0 mF_2 rfl v (by omega) (by decide) rfl dX7_more_29 (fun H locs hP hS => ?_)
    refine lv_iconst (v := 0) hx hb dX7_more_30 (by decide) ?_
    exact g_iret hx hb hr hlocks hP hS dX7_more_31 (by unfold mMore; rw [if_pos c_1] <;> rfl)
  · skip
    refine lv_aload_n hx hb dX7_more_14 rfl (lv_at hl 0 rfl) ?_
    refine lv_iconst (v := 1) hx hb dX7_more_15 (by decide) ?_
    refine g_callV (As := [.int 1]) (rest := []) (N := 28) (T := TX7) (ci := 6) ⟨hx, hb, hml, hown, hts⟩ 0 (m_fails l D cy ad wy mt hj σ 1 ) (cwV 1 hts gX7_more_X7_fails rfl rfl rfl (by decide +kernel) ⟨by decide, by decide⟩) h0 hP hS (by decide) mF_0 rfl rfl rfl hl.1 (Nat.le_of_ble_eq_true rfl) dX7_more_16 ⟨Nat.zero_le _, Nat.zero_le _⟩ (fun H locs hP hS => ?_)
    exact g_iret hx hb hr hlocks hP hS dX7_more_19 (by unfold mMore; rw [if_neg c_1] <;> rfl)

def mPour (σ : Mem) (v t : Nat) : Int32 × Mem :=
  if nI t ≤ 7 then (if σ 1 t = 0 then mFail σ 5
    else if nI t = nI v then (0, σ)
    else if (σ 2 t) + (σ 2 v) ≤ 1000 then (0, mset (mset σ 2 t ((σ 2 t) + (σ 2 v))) 2 v 0)
    else mFail σ 1)
  else mFail σ 4
set_option maxHeartbeats 4000000 in
set_option maxRecDepth 100000 in
theorem m_pours (l : Launch) (D : va_G) (cy : Nat → ClassId) (ad wy : Nat → Nat) (mt : Nat) (hj : mJ 18 ad) (σ : Mem) (v t : Nat) (hv : v < 8) (ht : t ≤ 200)  : Met l yX7_pours wsX7_pours ({ frames := 2, cells := 0, slots := 0, locals := 43 }) (va_Pc [.ref (ad 0), .int (nI v), .int (nI t)] (gPre 18 ad (mF ad cy) D cy wy mt σ)) (gQ 18 ad (mF ad cy) D (some (.int (mPour σ v t).1)) (mPour σ v t).2) 0 0 (mA 18 ad) := by
  refine g_met (cc := cX7_pours) (maxL := 3) (ret := (some .int)) (by decide) rfl (Nat.le_of_ble_eq_true rfl) ?_
  intro p e s m below meth c S hr hlocks h0 ls hl
  obtain ⟨hx, hb, hml, hown, hts⟩ := S
  have hP := h0.1
  have hK := h0.2.1
  have hS : va_S (mA 18 ad) s.heap s.heap [] := va_S.rf
  have hl : lv_has ls 3 [(0, .ref (ad 0)), (1, .int (nI v)), (2, .int (nI t))] := hl
  have kf7 : (Cond.fieldLink RX7 7 "BenchRunsModel" "isVial" "[Z").before (#[.ref (ad 0), .int (nI v), .int (nI t)] : Array Value) s = true := hts _ (by decide +kernel)
  have hinX7 : ∀ w ∈ u_ws RX7 TX7 28, w ∈ wsX7_pours := by decide +kernel
  have kf13 : (Cond.fieldLink RX7 13 "BenchRunsModel" "drops" "[I").before (#[.ref (ad 0), .int (nI v), .int (nI t)] : Array Value) s = true := hts _ (by decide +kernel)
  refine lv_iload_n hx hb dX7_pours_0 rfl (lv_at hl 2 rfl) ?_
  refine lv_bipush (v := 7) hx hb dX7_pours_1 (by decide) ?_
  refine lv_icmp_le (tgt := 12) hx hb dX7_pours_3 (by decide) (fun c_1 => ?_) (fun c_1 => ?_)
  · skip
    have ht8 : t ≤ 7 := (nI_leI (b := 7) (by omega) (by decide)).mp c_1
    refine lv_aload_n hx hb dX7_pours_12 rfl (lv_at hl 0 rfl) ?_
    refine mw_get (ci := 6) (C := RX7) (T := TX7) (N := 28) (v := .ref (ad 1)) hx hb hts hinX7 hown hK hP 0 (by decide) mF_0 rfl 1 (by decide) kf7 (fun _ h9 => h9) rfl dX7_pours_13 ?_
    refine lv_iload_n hx hb dX7_pours_16 rfl (lv_at hl 2 rfl) ?_
    refine mw_zld hx hb hK hP 1 (by decide) 1 mF_1 rfl t (by omega) (by decide) rfl dX7_pours_17 ?_
    refine lv_if_ne (tgt := 27) hx hb dX7_pours_18 (by decide) (fun c_2 => ?_) (fun c_2 => ?_)
    · skip
      refine lv_iload_n hx hb dX7_pours_27 rfl (lv_at hl 2 rfl) ?_
      refine lv_iload_n hx hb dX7_pours_28 rfl (lv_at hl 1 rfl) ?_
      refine lv_icmp_ne (tgt := 34) hx hb dX7_pours_29 (by decide) (fun c_3 => ?_) (fun c_3 => ?_)
      · skip
        refine lv_aload_n hx hb dX7_pours_34 rfl (lv_at hl 0 rfl) ?_
        refine mw_get (ci := 6) (C := RX7) (T := TX7) (N := 28) (v := .ref (ad 2)) hx hb hts hinX7 hown hK hP 0 (by decide) mF_0 rfl 2 (by decide) kf13 (fun _ h9 => h9) rfl dX7_pours_35 ?_
        refine lv_iload_n hx hb dX7_pours_38 rfl (lv_at hl 2 rfl) ?_
        refine mw_ild hx hb hK hP 2 (by decide) 0 mF_2 rfl t (by omega) (by decide) rfl dX7_pours_39 ?_
        refine lv_aload_n hx hb dX7_pours_40 rfl (lv_at hl 0 rfl) ?_
        refine mw_get (ci := 6) (C := RX7) (T := TX7) (N := 28) (v := .ref (ad 2)) hx hb hts hinX7 hown hK hP 0 (by decide) mF_0 rfl 2 (by decide) kf13 (fun _ h9 => h9) rfl dX7_pours_41 ?_
        refine lv_iload_n hx hb dX7_pours_44 rfl (lv_at hl 1 rfl) ?_
        refine mw_ild hx hb hK hP 2 (by decide) 0 mF_2 rfl v (by omega) (by decide) rfl dX7_pours_45 ?_
        refine lv_iadd hx hb dX7_pours_46 ?_
        refine lv_sipush (v := 1000) hx hb dX7_pours_47 (by decide) ?_
        refine lv_icmp_le (tgt := 59) hx hb dX7_pours_50 (by decide) (fun c_4 => ?_) (fun c_4 => ?_)
        · skip
          refine lv_aload_n hx hb dX7_pours_59 rfl (lv_at hl 0 rfl) ?_
          refine mw_get (ci := 6) (C := RX7) (T := TX7) (N := 28) (v := .ref (ad 2)) hx hb hts hinX7 hown hK hP 0 (by decide) mF_0 rfl 2 (by decide) kf13 (fun _ h9 => h9) rfl dX7_pours_60 ?_
          refine lv_iload_n hx hb dX7_pours_63 rfl (lv_at hl 2 rfl) ?_
          refine lv_dup2_11 hx hb dX7_pours_64 rfl rfl ?_
          refine mw_ild hx hb hK hP 2 (by decide) 0 mF_2 rfl t (by omega) (by decide) rfl dX7_pours_65 ?_
          refine lv_aload_n hx hb dX7_pours_66 rfl (lv_at hl 0 rfl) ?_
          refine mw_get (ci := 6) (C := RX7) (T := TX7) (N := 28) (v := .ref (ad 2)) hx hb hts hinX7 hown hK hP 0 (by decide) mF_0 rfl 2 (by decide) kf13 (fun _ h9 => h9) rfl dX7_pours_67 ?_
          refine lv_iload_n hx hb dX7_pours_70 rfl (lv_at hl 1 rfl) ?_
          refine mw_ild hx hb hK hP 2 (by decide) 0 mF_2 rfl v (by omega) (by decide) rfl dX7_pours_71 ?_
          refine lv_iadd hx hb dX7_pours_72 ?_
          refine mw_ist hx hb hK hj hP hS 2 (by decide) 0 mF_2 rfl t (by omega) (by decide) rfl dX7_pours_73 (fun H locs hP hS => ?_)
          refine lv_aload_n hx hb dX7_pours_74 rfl (lv_at hl 0 rfl) ?_
          refine mw_get (ci := 6) (C := RX7) (T := TX7) (N := 28) (v := .ref (ad 2)) hx hb hts hinX7 hown hK hP 0 (by decide) mF_0 rfl 2 (by decide) kf13 (fun _ h9 => h9) rfl dX7_pours_75 ?_
          refine lv_iload_n hx hb dX7_pours_78 rfl (lv_at hl 1 rfl) ?_
          refine lv_iconst (v := 0) hx hb dX7_pours_79 (by decide) ?_
          refine mw_ist hx hb hK hj hP hS 2 (by decide) 0 mF_2 rfl v (by omega) (by decide) rfl dX7_pours_80 (fun H locs hP hS => ?_)
          refine lv_iconst (v := 0) hx hb dX7_pours_81 (by decide) ?_
          exact g_iret hx hb hr hlocks hP hS dX7_pours_82 (by unfold mPour; rw [if_pos c_1, if_neg c_2, if_neg c_3, if_pos c_4] <;> rfl)
        · skip
          refine lv_aload_n hx hb dX7_pours_53 rfl (lv_at hl 0 rfl) ?_
          refine lv_iconst (v := 1) hx hb dX7_pours_54 (by decide) ?_
          refine g_callV (As := [.int 1]) (rest := []) (N := 28) (T := TX7) (ci := 6) ⟨hx, hb, hml, hown, hts⟩ 0 (m_fails l D cy ad wy mt hj σ 1 ) (cwV 1 hts gX7_pours_X7_fails rfl rfl rfl (by decide +kernel) ⟨by decide, by decide⟩) h0 hP hS (by decide) mF_0 rfl rfl rfl hl.1 (Nat.le_of_ble_eq_true rfl) dX7_pours_55 ⟨Nat.zero_le _, Nat.zero_le _⟩ (fun H locs hP hS => ?_)
          exact g_iret hx hb hr hlocks hP hS dX7_pours_58 (by unfold mPour; rw [if_pos c_1, if_neg c_2, if_neg c_3, if_neg c_4] <;> rfl)
      · skip
        refine lv_iconst (v := 0) hx hb dX7_pours_32 (by decide) ?_
        exact g_iret hx hb hr hlocks hP hS dX7_pours_33 (by unfold mPour; rw [if_pos c_1, if_neg c_2, if_pos c_3] <;> rfl)
    · skip
      refine lv_aload_n hx hb dX7_pours_21 rfl (lv_at hl 0 rfl) ?_
      refine lv_iconst (v := 5) hx hb dX7_pours_22 (by decide) ?_
      refine g_callV (As := [.int 5]) (rest := []) (N := 28) (T := TX7) (ci := 6) ⟨hx, hb, hml, hown, hts⟩ 0 (m_fails l D cy ad wy mt hj σ 5 ) (cwV 1 hts gX7_pours_X7_fails rfl rfl rfl (by decide +kernel) ⟨by decide, by decide⟩) h0 hP hS (by decide) mF_0 rfl rfl rfl hl.1 (Nat.le_of_ble_eq_true rfl) dX7_pours_23 ⟨Nat.zero_le _, Nat.zero_le _⟩ (fun H locs hP hS => ?_)
      exact g_iret hx hb hr hlocks hP hS dX7_pours_26 (by unfold mPour; rw [if_pos c_1, if_pos c_2] <;> rfl)
  · skip
    refine lv_aload_n hx hb dX7_pours_6 rfl (lv_at hl 0 rfl) ?_
    refine lv_iconst (v := 4) hx hb dX7_pours_7 (by decide) ?_
    refine g_callV (As := [.int 4]) (rest := []) (N := 28) (T := TX7) (ci := 6) ⟨hx, hb, hml, hown, hts⟩ 0 (m_fails l D cy ad wy mt hj σ 4 ) (cwV 1 hts gX7_pours_X7_fails rfl rfl rfl (by decide +kernel) ⟨by decide, by decide⟩) h0 hP hS (by decide) mF_0 rfl rfl rfl hl.1 (Nat.le_of_ble_eq_true rfl) dX7_pours_8 ⟨Nat.zero_le _, Nat.zero_le _⟩ (fun H locs hP hS => ?_)
    exact g_iret hx hb hr hlocks hP hS dX7_pours_11 (by unfold mPour; rw [if_neg c_1] <;> rfl)

def mGrip (σ : Mem) (t v : Nat) : Int32 × Mem :=
  if nI t ≤ 5 then (if σ 9 t = 0 then (0, mset σ 11 t ((σ 11 t) + (σ 2 v)))
    else if σ 9 t = 1 then mFail σ 7
    else mFail σ 5)
  else mFail σ 4
set_option maxHeartbeats 4000000 in
set_option maxRecDepth 100000 in
theorem m_grips (l : Launch) (D : va_G) (cy : Nat → ClassId) (ad wy : Nat → Nat) (mt : Nat) (hj : mJ 18 ad) (σ : Mem) (t v : Nat) (ht : t ≤ 200) (hv : v < 8)  : Met l yX7_grips wsX7_grips ({ frames := 2, cells := 0, slots := 0, locals := 43 }) (va_Pc [.ref (ad 0), .int (nI t), .int (nI v)] (gPre 18 ad (mF ad cy) D cy wy mt σ)) (gQ 18 ad (mF ad cy) D (some (.int (mGrip σ t v).1)) (mGrip σ t v).2) 0 0 (mA 18 ad) := by
  refine g_met (cc := cX7_grips) (maxL := 3) (ret := (some .int)) (by decide) rfl (Nat.le_of_ble_eq_true rfl) ?_
  intro p e s m below meth c S hr hlocks h0 ls hl
  obtain ⟨hx, hb, hml, hown, hts⟩ := S
  have hP := h0.1
  have hK := h0.2.1
  have hS : va_S (mA 18 ad) s.heap s.heap [] := va_S.rf
  have hl : lv_has ls 3 [(0, .ref (ad 0)), (1, .int (nI t)), (2, .int (nI v))] := hl
  have kf35 : (Cond.fieldLink RX7 35 "BenchRunsModel" "sort" "[I").before (#[.ref (ad 0), .int (nI t), .int (nI v)] : Array Value) s = true := hts _ (by decide +kernel)
  have hinX7 : ∀ w ∈ u_ws RX7 TX7 28, w ∈ wsX7_grips := by decide +kernel
  have kf41 : (Cond.fieldLink RX7 41 "BenchRunsModel" "grips" "[I").before (#[.ref (ad 0), .int (nI t), .int (nI v)] : Array Value) s = true := hts _ (by decide +kernel)
  have kf13 : (Cond.fieldLink RX7 13 "BenchRunsModel" "drops" "[I").before (#[.ref (ad 0), .int (nI t), .int (nI v)] : Array Value) s = true := hts _ (by decide +kernel)
  refine lv_iload_n hx hb dX7_grips_0 rfl (lv_at hl 1 rfl) ?_
  refine lv_iconst (v := 5) hx hb dX7_grips_1 (by decide) ?_
  refine lv_icmp_le (tgt := 11) hx hb dX7_grips_2 (by decide) (fun c_1 => ?_) (fun c_1 => ?_)
  · skip
    have ht6 : t ≤ 5 := (nI_leI (b := 5) (by omega) (by decide)).mp c_1
    refine lv_aload_n hx hb dX7_grips_11 rfl (lv_at hl 0 rfl) ?_
    refine mw_get (ci := 6) (C := RX7) (T := TX7) (N := 28) (v := .ref (ad 9)) hx hb hts hinX7 hown hK hP 0 (by decide) mF_0 rfl 9 (by decide) kf35 (fun _ h9 => h9) rfl dX7_grips_12 ?_
    refine lv_iload_n hx hb dX7_grips_15 rfl (lv_at hl 1 rfl) ?_
    refine mw_ild hx hb hK hP 9 (by decide) 0 mF_9 rfl t (by omega) (by decide) rfl dX7_grips_16 ?_
    refine lv_if_eq (tgt := 41) hx hb dX7_grips_17 (by decide) (fun c_2 => ?_) (fun c_2 => ?_)
    · skip
      refine lv_aload_n hx hb dX7_grips_41 rfl (lv_at hl 0 rfl) ?_
      refine mw_get (ci := 6) (C := RX7) (T := TX7) (N := 28) (v := .ref (ad 11)) hx hb hts hinX7 hown hK hP 0 (by decide) mF_0 rfl 11 (by decide) kf41 (fun _ h9 => h9) rfl dX7_grips_42 ?_
      refine lv_iload_n hx hb dX7_grips_45 rfl (lv_at hl 1 rfl) ?_
      refine lv_dup2_11 hx hb dX7_grips_46 rfl rfl ?_
      refine mw_ild hx hb hK hP 11 (by decide) 0 mF_11 rfl t (by omega) (by decide) rfl dX7_grips_47 ?_
      refine lv_aload_n hx hb dX7_grips_48 rfl (lv_at hl 0 rfl) ?_
      refine mw_get (ci := 6) (C := RX7) (T := TX7) (N := 28) (v := .ref (ad 2)) hx hb hts hinX7 hown hK hP 0 (by decide) mF_0 rfl 2 (by decide) kf13 (fun _ h9 => h9) rfl dX7_grips_49 ?_
      refine lv_iload_n hx hb dX7_grips_52 rfl (lv_at hl 2 rfl) ?_
      refine mw_ild hx hb hK hP 2 (by decide) 0 mF_2 rfl v (by omega) (by decide) rfl dX7_grips_53 ?_
      refine lv_iadd hx hb dX7_grips_54 ?_
      refine mw_ist hx hb hK hj hP hS 11 (by decide) 0 mF_11 rfl t (by omega) (by decide) rfl dX7_grips_55 (fun H locs hP hS => ?_)
      refine lv_iconst (v := 0) hx hb dX7_grips_56 (by decide) ?_
      exact g_iret hx hb hr hlocks hP hS dX7_grips_57 (by unfold mGrip; rw [if_pos c_1, if_pos c_2] <;> rfl)
    · skip
      refine lv_aload_n hx hb dX7_grips_20 rfl (lv_at hl 0 rfl) ?_
      refine lv_aload_n hx hb dX7_grips_21 rfl (lv_at hl 0 rfl) ?_
      refine mw_get (ci := 6) (C := RX7) (T := TX7) (N := 28) (v := .ref (ad 9)) hx hb hts hinX7 hown hK hP 0 (by decide) mF_0 rfl 9 (by decide) kf35 (fun _ h9 => h9) rfl dX7_grips_22 ?_
      refine lv_iload_n hx hb dX7_grips_25 rfl (lv_at hl 1 rfl) ?_
      refine mw_ild hx hb hK hP 9 (by decide) 0 mF_9 rfl t (by omega) (by decide) rfl dX7_grips_26 ?_
      refine lv_iconst (v := 1) hx hb dX7_grips_27 (by decide) ?_
      refine lv_icmp_ne (tgt := 36) hx hb dX7_grips_28 (by decide) (fun c_3 => ?_) (fun c_3 => ?_)
      · skip
        refine lv_iconst (v := 5) hx hb dX7_grips_36 (by decide) ?_
        refine g_callV (As := [.int 5]) (rest := []) (N := 28) (T := TX7) (ci := 6) ⟨hx, hb, hml, hown, hts⟩ 0 (m_fails l D cy ad wy mt hj σ 5 ) (cwV 1 hts gX7_grips_X7_fails rfl rfl rfl (by decide +kernel) ⟨by decide, by decide⟩) h0 hP hS (by decide) mF_0 rfl rfl rfl hl.1 (Nat.le_of_ble_eq_true rfl) dX7_grips_37 ⟨Nat.zero_le _, Nat.zero_le _⟩ (fun H locs hP hS => ?_)
        exact g_iret hx hb hr hlocks hP hS dX7_grips_40 (by unfold mGrip; rw [if_pos c_1, if_neg c_2, if_neg c_3] <;> rfl)
      · skip
        refine lv_bipush (v := 7) hx hb dX7_grips_31 (by decide) ?_
        refine lv_goto (tgt := 37) hx hb dX7_grips_33 (by decide) ?_
        refine g_callV (As := [.int 7]) (rest := []) (N := 28) (T := TX7) (ci := 6) ⟨hx, hb, hml, hown, hts⟩ 0 (m_fails l D cy ad wy mt hj σ 7 ) (cwV 1 hts gX7_grips_X7_fails rfl rfl rfl (by decide +kernel) ⟨by decide, by decide⟩) h0 hP hS (by decide) mF_0 rfl rfl rfl hl.1 (Nat.le_of_ble_eq_true rfl) dX7_grips_37 ⟨Nat.zero_le _, Nat.zero_le _⟩ (fun H locs hP hS => ?_)
        exact g_iret hx hb hr hlocks hP hS dX7_grips_40 (by unfold mGrip; rw [if_pos c_1, if_neg c_2, if_pos c_3] <;> rfl)
  · skip
    refine lv_aload_n hx hb dX7_grips_5 rfl (lv_at hl 0 rfl) ?_
    refine lv_iconst (v := 4) hx hb dX7_grips_6 (by decide) ?_
    refine g_callV (As := [.int 4]) (rest := []) (N := 28) (T := TX7) (ci := 6) ⟨hx, hb, hml, hown, hts⟩ 0 (m_fails l D cy ad wy mt hj σ 4 ) (cwV 1 hts gX7_grips_X7_fails rfl rfl rfl (by decide +kernel) ⟨by decide, by decide⟩) h0 hP hS (by decide) mF_0 rfl rfl rfl hl.1 (Nat.le_of_ble_eq_true rfl) dX7_grips_7 ⟨Nat.zero_le _, Nat.zero_le _⟩ (fun H locs hP hS => ?_)
    exact g_iret hx hb hr hlocks hP hS dX7_grips_10 (by unfold mGrip; rw [if_neg c_1] <;> rfl)

def mUse (σ : Mem) (t : Nat) : Int32 × Mem :=
  if 5 < nI t then mFail σ 4
  else if 0 ≤ σ 9 t then (0, mset σ 10 t ((σ 10 t) + 1))
  else mFail σ 5
set_option maxHeartbeats 4000000 in
set_option maxRecDepth 100000 in
theorem m_uses (l : Launch) (D : va_G) (cy : Nat → ClassId) (ad wy : Nat → Nat) (mt : Nat) (hj : mJ 18 ad) (σ : Mem) (t : Nat) (ht : t ≤ 200)  : Met l yX7_uses wsX7_uses ({ frames := 2, cells := 0, slots := 0, locals := 43 }) (va_Pc [.ref (ad 0), .int (nI t)] (gPre 18 ad (mF ad cy) D cy wy mt σ)) (gQ 18 ad (mF ad cy) D (some (.int (mUse σ t).1)) (mUse σ t).2) 0 0 (mA 18 ad) := by
  refine g_met (cc := cX7_uses) (maxL := 2) (ret := (some .int)) (by decide) rfl (Nat.le_of_ble_eq_true rfl) ?_
  intro p e s m below meth c S hr hlocks h0 ls hl
  obtain ⟨hx, hb, hml, hown, hts⟩ := S
  have hP := h0.1
  have hK := h0.2.1
  have hS : va_S (mA 18 ad) s.heap s.heap [] := va_S.rf
  have hl : lv_has ls 2 [(0, .ref (ad 0)), (1, .int (nI t))] := hl
  have kf35 : (Cond.fieldLink RX7 35 "BenchRunsModel" "sort" "[I").before (#[.ref (ad 0), .int (nI t)] : Array Value) s = true := hts _ (by decide +kernel)
  have hinX7 : ∀ w ∈ u_ws RX7 TX7 28, w ∈ wsX7_uses := by decide +kernel
  have kf38 : (Cond.fieldLink RX7 38 "BenchRunsModel" "uses" "[I").before (#[.ref (ad 0), .int (nI t)] : Array Value) s = true := hts _ (by decide +kernel)
  refine lv_iload_n hx hb dX7_uses_0 rfl (lv_at hl 1 rfl) ?_
  refine lv_iconst (v := 5) hx hb dX7_uses_1 (by decide) ?_
  refine lv_icmp_gt (tgt := 14) hx hb dX7_uses_2 (by decide) (fun c_1 => ?_) (fun c_1 => ?_)
  · skip
    refine lv_aload_n hx hb dX7_uses_14 rfl (lv_at hl 0 rfl) ?_
    refine lv_iload_n hx hb dX7_uses_15 rfl (lv_at hl 1 rfl) ?_
    refine lv_iconst (v := 5) hx hb dX7_uses_16 (by decide) ?_
    refine lv_icmp_le (tgt := 24) hx hb dX7_uses_17 (by decide) (fun c9 => absurd c9 (fun h9 => absurd ((nI_ltI (a := 5) (by decide) (by omega)).mp c_1) (Nat.not_lt.mpr ((nI_leI (b := 5) (by omega) (by decide)).mp h9)))) (fun _ => ?_)
    refine lv_iconst (v := 4) hx hb dX7_uses_20 (by decide) ?_
    refine lv_goto (tgt := 25) hx hb dX7_uses_21 (by decide) ?_
    refine g_callV (As := [.int 4]) (rest := []) (N := 28) (T := TX7) (ci := 6) ⟨hx, hb, hml, hown, hts⟩ 0 (m_fails l D cy ad wy mt hj σ 4 ) (cwV 1 hts gX7_uses_X7_fails rfl rfl rfl (by decide +kernel) ⟨by decide, by decide⟩) h0 hP hS (by decide) mF_0 rfl rfl rfl hl.1 (Nat.le_of_ble_eq_true rfl) dX7_uses_25 ⟨Nat.zero_le _, Nat.zero_le _⟩ (fun H locs hP hS => ?_)
    exact g_iret hx hb hr hlocks hP hS dX7_uses_28 (by unfold mUse; rw [if_pos c_1] <;> rfl)
  · skip
    have ht6 : t ≤ 5 := Nat.not_lt.mp fun h9 => c_1 ((nI_ltI (a := 5) (by decide) (by omega)).mpr h9)
    refine lv_aload_n hx hb dX7_uses_5 rfl (lv_at hl 0 rfl) ?_
    refine mw_get (ci := 6) (C := RX7) (T := TX7) (N := 28) (v := .ref (ad 9)) hx hb hts hinX7 hown hK hP 0 (by decide) mF_0 rfl 9 (by decide) kf35 (fun _ h9 => h9) rfl dX7_uses_6 ?_
    refine lv_iload_n hx hb dX7_uses_9 rfl (lv_at hl 1 rfl) ?_
    refine mw_ild hx hb hK hP 9 (by decide) 0 mF_9 rfl t (by omega) (by decide) rfl dX7_uses_10 ?_
    refine lv_if_ge (tgt := 29) hx hb dX7_uses_11 (by decide) (fun c_2 => ?_) (fun c_2 => ?_)
    · skip
      refine lv_aload_n hx hb dX7_uses_29 rfl (lv_at hl 0 rfl) ?_
      refine mw_get (ci := 6) (C := RX7) (T := TX7) (N := 28) (v := .ref (ad 10)) hx hb hts hinX7 hown hK hP 0 (by decide) mF_0 rfl 10 (by decide) kf38 (fun _ h9 => h9) rfl dX7_uses_30 ?_
      refine lv_iload_n hx hb dX7_uses_33 rfl (lv_at hl 1 rfl) ?_
      refine lv_dup2_11 hx hb dX7_uses_34 rfl rfl ?_
      refine mw_ild hx hb hK hP 10 (by decide) 0 mF_10 rfl t (by omega) (by decide) rfl dX7_uses_35 ?_
      refine lv_iconst (v := 1) hx hb dX7_uses_36 (by decide) ?_
      refine lv_iadd hx hb dX7_uses_37 ?_
      refine mw_ist hx hb hK hj hP hS 10 (by decide) 0 mF_10 rfl t (by omega) (by decide) rfl dX7_uses_38 (fun H locs hP hS => ?_)
      refine lv_iconst (v := 0) hx hb dX7_uses_39 (by decide) ?_
      exact g_iret hx hb hr hlocks hP hS dX7_uses_40 (by unfold mUse; rw [if_neg c_1, if_pos c_2] <;> rfl)
    · skip
      refine lv_aload_n hx hb dX7_uses_14 rfl (lv_at hl 0 rfl) ?_
      refine lv_iload_n hx hb dX7_uses_15 rfl (lv_at hl 1 rfl) ?_
      refine lv_iconst (v := 5) hx hb dX7_uses_16 (by decide) ?_
      refine lv_icmp_le (tgt := 24) hx hb dX7_uses_17 (by decide) (fun _ => ?_) (fun c9 => absurd (nI_le (b := 5) ht6 (by decide)) c9)
      refine lv_iconst (v := 5) hx hb dX7_uses_24 (by decide) ?_
      refine g_callV (As := [.int 5]) (rest := []) (N := 28) (T := TX7) (ci := 6) ⟨hx, hb, hml, hown, hts⟩ 0 (m_fails l D cy ad wy mt hj σ 5 ) (cwV 1 hts gX7_uses_X7_fails rfl rfl rfl (by decide +kernel) ⟨by decide, by decide⟩) h0 hP hS (by decide) mF_0 rfl rfl rfl hl.1 (Nat.le_of_ble_eq_true rfl) dX7_uses_25 ⟨Nat.zero_le _, Nat.zero_le _⟩ (fun H locs hP hS => ?_)
      exact g_iret hx hb hr hlocks hP hS dX7_uses_28 (by unfold mUse; rw [if_neg c_1, if_neg c_2] <;> rfl)

def mBoxes (σ : Mem) (z w : Int32) : Int32 × Mem :=
  if 0 ≤ z then (0, mset (mset (mset (mset (mset (mset (mset (mset (mset (mset (mset (mset (mset (mset (mset (mset (mset (mset (mset (mset (mset (mset σ 0 13 z) 0 14 w) 12 0 (-1)) 12 1 (-1)) 12 2 (-1)) 12 3 (-1)) 12 4 (-1)) 12 5 (-1)) 12 6 (-1)) 12 7 (-1)) 12 8 (-1)) 12 9 (-1)) 12 10 (-1)) 12 11 (-1)) 12 12 (-1)) 12 13 (-1)) 12 14 (-1)) 12 15 (-1)) 12 16 (-1)) 12 17 (-1)) 12 18 (-1)) 12 19 (-1))
  else mFail σ 6
set_option maxHeartbeats 4000000 in
set_option maxRecDepth 100000 in
theorem m_boxes (l : Launch) (D : va_G) (cy : Nat → ClassId) (ad wy : Nat → Nat) (mt : Nat) (hj : mJ 18 ad) (σ : Mem) (z w : Int32)  : Met l yX7_boxes wsX7_boxes ({ frames := 2, cells := 0, slots := 0, locals := 43 }) (va_Pc [.ref (ad 0), .int z, .int w] (gPre 18 ad (mF ad cy) D cy wy mt σ)) (gQ 18 ad (mF ad cy) D (some (.int (mBoxes σ z w).1)) (mBoxes σ z w).2) 0 0 (mA 18 ad) := by
  refine g_met (cc := cX7_boxes) (maxL := 4) (ret := (some .int)) (by decide) rfl (Nat.le_of_ble_eq_true rfl) ?_
  intro p e s m below meth c S hr hlocks h0 ls hl
  obtain ⟨hx, hb, hml, hown, hts⟩ := S
  have hP := h0.1
  have hK := h0.2.1
  have hS : va_S (mA 18 ad) s.heap s.heap [] := va_S.rf
  have hl : lv_has ls 4 [(0, .ref (ad 0)), (1, .int z), (2, .int w)] := hl
  have kf48 : (Cond.fieldLink RX7 48 "BenchRunsModel" "boxSize" "I").before (#[.ref (ad 0), .int z, .int w] : Array Value) s = true := hts _ (by decide +kernel)
  have hinX7 : ∀ w ∈ u_ws RX7 TX7 28, w ∈ wsX7_boxes := by decide +kernel
  have kf100 : (Cond.fieldLink RX7 100 "BenchRunsModel" "boxSort" "I").before (#[.ref (ad 0), .int z, .int w] : Array Value) s = true := hts _ (by decide +kernel)
  have kf51 : (Cond.fieldLink RX7 51 "BenchRunsModel" "box" "[I").before (#[.ref (ad 0), .int z, .int w] : Array Value) s = true := hts _ (by decide +kernel)
  refine lv_iload_n hx hb dX7_boxes_0 rfl (lv_at hl 1 rfl) ?_
  refine lv_if_ge (tgt := 11) hx hb dX7_boxes_1 (by decide) (fun c_1 => ?_) (fun c_1 => ?_)
  · skip
    refine lv_aload_n hx hb dX7_boxes_11 rfl (lv_at hl 0 rfl) ?_
    refine lv_iload_n hx hb dX7_boxes_12 rfl (lv_at hl 1 rfl) ?_
    refine mw_put (ci := 6) (C := RX7) (T := TX7) (N := 28) (v := z) (ty := .int) hx hb hts hinX7 tyX7 tyX7_ok nmX7 hown hK hj hP hS 0 (by decide) mF_0 rfl 13 (by decide) kf48 (fun _ h9 => h9) rfl (by decide +kernel) rfl rfl (Nat.le_of_ble_eq_true rfl) rfl dX7_boxes_13 (fun H locs hP hS => ?_)
    refine lv_aload_n hx hb dX7_boxes_16 rfl (lv_at hl 0 rfl) ?_
    refine lv_iload_n hx hb dX7_boxes_17 rfl (lv_at hl 2 rfl) ?_
    refine mw_put (ci := 6) (C := RX7) (T := TX7) (N := 28) (v := w) (ty := .int) hx hb hts hinX7 tyX7 tyX7_ok nmX7 hown hK hj hP hS 0 (by decide) mF_0 rfl 14 (by decide) kf100 (fun _ h9 => h9) rfl (by decide +kernel) rfl rfl (Nat.le_of_ble_eq_true rfl) rfl dX7_boxes_18 (fun H locs hP hS => ?_)
    refine lv_iconst (v := 0) hx hb dX7_boxes_21 (by decide) ?_
    refine lv_istore_n (lv' := [(3, .int 0), (0, .ref (ad 0)), (1, .int z), (2, .int w)]) hx hb dX7_boxes_22 rfl hl (by decide) rfl (fun ls hl => ?_)
    refine lv_iload_n hx hb dX7_boxes_23 rfl (lv_at hl 0 rfl) ?_
    refine lv_bipush (v := 20) hx hb dX7_boxes_24 (by decide) ?_
    refine lv_icmp_ge (tgt := 42) hx hb dX7_boxes_26 (by decide) (fun c9 => absurd c9 (by decide)) (fun _ => ?_)
    refine lv_aload_n hx hb dX7_boxes_29 rfl (lv_at hl 1 rfl) ?_
    refine mw_get (ci := 6) (C := RX7) (T := TX7) (N := 28) (v := .ref (ad 12)) hx hb hts hinX7 hown hK hP 0 (by decide) mF_0 rfl 15 (by decide) kf51 (fun _ h9 => h9) rfl dX7_boxes_30 ?_
    refine lv_iload_n hx hb dX7_boxes_33 rfl (lv_at hl 0 rfl) ?_
    refine lv_iconst (v := (-1)) hx hb dX7_boxes_34 (by decide) ?_
    refine mw_ist hx hb hK hj hP hS 12 (by decide) 0 mF_12 rfl 0 (by decide) (by decide) rfl dX7_boxes_35 (fun H locs hP hS => ?_)
    refine lv_iinc (v := 1) (lv' := [(3, .int 1), (0, .ref (ad 0)), (1, .int z), (2, .int w)]) hx hb dX7_boxes_36 hl (k := 0) rfl (by decide) (by decide) rfl (fun ls hl => ?_)
    refine lv_goto (tgt := 23) hx hb dX7_boxes_39 (by decide) ?_
    refine lv_iload_n hx hb dX7_boxes_23 rfl (lv_at hl 0 rfl) ?_
    refine lv_bipush (v := 20) hx hb dX7_boxes_24 (by decide) ?_
    refine lv_icmp_ge (tgt := 42) hx hb dX7_boxes_26 (by decide) (fun c9 => absurd c9 (by decide)) (fun _ => ?_)
    refine lv_aload_n hx hb dX7_boxes_29 rfl (lv_at hl 1 rfl) ?_
    refine mw_get (ci := 6) (C := RX7) (T := TX7) (N := 28) (v := .ref (ad 12)) hx hb hts hinX7 hown hK hP 0 (by decide) mF_0 rfl 15 (by decide) kf51 (fun _ h9 => h9) rfl dX7_boxes_30 ?_
    refine lv_iload_n hx hb dX7_boxes_33 rfl (lv_at hl 0 rfl) ?_
    refine lv_iconst (v := (-1)) hx hb dX7_boxes_34 (by decide) ?_
    refine mw_ist hx hb hK hj hP hS 12 (by decide) 0 mF_12 rfl 1 (by decide) (by decide) rfl dX7_boxes_35 (fun H locs hP hS => ?_)
    refine lv_iinc (v := 2) (lv' := [(3, .int 2), (0, .ref (ad 0)), (1, .int z), (2, .int w)]) hx hb dX7_boxes_36 hl (k := 0) rfl (by decide) (by decide) rfl (fun ls hl => ?_)
    refine lv_goto (tgt := 23) hx hb dX7_boxes_39 (by decide) ?_
    refine lv_iload_n hx hb dX7_boxes_23 rfl (lv_at hl 0 rfl) ?_
    refine lv_bipush (v := 20) hx hb dX7_boxes_24 (by decide) ?_
    refine lv_icmp_ge (tgt := 42) hx hb dX7_boxes_26 (by decide) (fun c9 => absurd c9 (by decide)) (fun _ => ?_)
    refine lv_aload_n hx hb dX7_boxes_29 rfl (lv_at hl 1 rfl) ?_
    refine mw_get (ci := 6) (C := RX7) (T := TX7) (N := 28) (v := .ref (ad 12)) hx hb hts hinX7 hown hK hP 0 (by decide) mF_0 rfl 15 (by decide) kf51 (fun _ h9 => h9) rfl dX7_boxes_30 ?_
    refine lv_iload_n hx hb dX7_boxes_33 rfl (lv_at hl 0 rfl) ?_
    refine lv_iconst (v := (-1)) hx hb dX7_boxes_34 (by decide) ?_
    refine mw_ist hx hb hK hj hP hS 12 (by decide) 0 mF_12 rfl 2 (by decide) (by decide) rfl dX7_boxes_35 (fun H locs hP hS => ?_)
    refine lv_iinc (v := 3) (lv' := [(3, .int 3), (0, .ref (ad 0)), (1, .int z), (2, .int w)]) hx hb dX7_boxes_36 hl (k := 0) rfl (by decide) (by decide) rfl (fun ls hl => ?_)
    refine lv_goto (tgt := 23) hx hb dX7_boxes_39 (by decide) ?_
    refine lv_iload_n hx hb dX7_boxes_23 rfl (lv_at hl 0 rfl) ?_
    refine lv_bipush (v := 20) hx hb dX7_boxes_24 (by decide) ?_
    refine lv_icmp_ge (tgt := 42) hx hb dX7_boxes_26 (by decide) (fun c9 => absurd c9 (by decide)) (fun _ => ?_)
    refine lv_aload_n hx hb dX7_boxes_29 rfl (lv_at hl 1 rfl) ?_
    refine mw_get (ci := 6) (C := RX7) (T := TX7) (N := 28) (v := .ref (ad 12)) hx hb hts hinX7 hown hK hP 0 (by decide) mF_0 rfl 15 (by decide) kf51 (fun _ h9 => h9) rfl dX7_boxes_30 ?_
    refine lv_iload_n hx hb dX7_boxes_33 rfl (lv_at hl 0 rfl) ?_
    refine lv_iconst (v := (-1)) hx hb dX7_boxes_34 (by decide) ?_
    refine mw_ist hx hb hK hj hP hS 12 (by decide) 0 mF_12 rfl 3 (by decide) (by decide) rfl dX7_boxes_35 (fun H locs hP hS => ?_)
    refine lv_iinc (v := 4) (lv' := [(3, .int 4), (0, .ref (ad 0)), (1, .int z), (2, .int w)]) hx hb dX7_boxes_36 hl (k := 0) rfl (by decide) (by decide) rfl (fun ls hl => ?_)
    refine lv_goto (tgt := 23) hx hb dX7_boxes_39 (by decide) ?_
    refine lv_iload_n hx hb dX7_boxes_23 rfl (lv_at hl 0 rfl) ?_
    refine lv_bipush (v := 20) hx hb dX7_boxes_24 (by decide) ?_
    refine lv_icmp_ge (tgt := 42) hx hb dX7_boxes_26 (by decide) (fun c9 => absurd c9 (by decide)) (fun _ => ?_)
    refine lv_aload_n hx hb dX7_boxes_29 rfl (lv_at hl 1 rfl) ?_
    refine mw_get (ci := 6) (C := RX7) (T := TX7) (N := 28) (v := .ref (ad 12)) hx hb hts hinX7 hown hK hP 0 (by decide) mF_0 rfl 15 (by decide) kf51 (fun _ h9 => h9) rfl dX7_boxes_30 ?_
    refine lv_iload_n hx hb dX7_boxes_33 rfl (lv_at hl 0 rfl) ?_
    refine lv_iconst (v := (-1)) hx hb dX7_boxes_34 (by decide) ?_
    refine mw_ist hx hb hK hj hP hS 12 (by decide) 0 mF_12 rfl 4 (by decide) (by decide) rfl dX7_boxes_35 (fun H locs hP hS => ?_)
    refine lv_iinc (v := 5) (lv' := [(3, .int 5), (0, .ref (ad 0)), (1, .int z), (2, .int w)]) hx hb dX7_boxes_36 hl (k := 0) rfl (by decide) (by decide) rfl (fun ls hl => ?_)
    refine lv_goto (tgt := 23) hx hb dX7_boxes_39 (by decide) ?_
    refine lv_iload_n hx hb dX7_boxes_23 rfl (lv_at hl 0 rfl) ?_
    refine lv_bipush (v := 20) hx hb dX7_boxes_24 (by decide) ?_
    refine lv_icmp_ge (tgt := 42) hx hb dX7_boxes_26 (by decide) (fun c9 => absurd c9 (by decide)) (fun _ => ?_)
    refine lv_aload_n hx hb dX7_boxes_29 rfl (lv_at hl 1 rfl) ?_
    refine mw_get (ci := 6) (C := RX7) (T := TX7) (N := 28) (v := .ref (ad 12)) hx hb hts hinX7 hown hK hP 0 (by decide) mF_0 rfl 15 (by decide) kf51 (fun _ h9 => h9) rfl dX7_boxes_30 ?_
    refine lv_iload_n hx hb dX7_boxes_33 rfl (lv_at hl 0 rfl) ?_
    refine lv_iconst (v := (-1)) hx hb dX7_boxes_34 (by decide) ?_
    refine mw_ist hx hb hK hj hP hS 12 (by decide) 0 mF_12 rfl 5 (by decide) (by decide) rfl dX7_boxes_35 (fun H locs hP hS => ?_)
    refine lv_iinc (v := 6) (lv' := [(3, .int 6), (0, .ref (ad 0)), (1, .int z), (2, .int w)]) hx hb dX7_boxes_36 hl (k := 0) rfl (by decide) (by decide) rfl (fun ls hl => ?_)
    refine lv_goto (tgt := 23) hx hb dX7_boxes_39 (by decide) ?_
    refine lv_iload_n hx hb dX7_boxes_23 rfl (lv_at hl 0 rfl) ?_
    refine lv_bipush (v := 20) hx hb dX7_boxes_24 (by decide) ?_
    refine lv_icmp_ge (tgt := 42) hx hb dX7_boxes_26 (by decide) (fun c9 => absurd c9 (by decide)) (fun _ => ?_)
    refine lv_aload_n hx hb dX7_boxes_29 rfl (lv_at hl 1 rfl) ?_
    refine mw_get (ci := 6) (C := RX7) (T := TX7) (N := 28) (v := .ref (ad 12)) hx hb hts hinX7 hown hK hP 0 (by decide) mF_0 rfl 15 (by decide) kf51 (fun _ h9 => h9) rfl dX7_boxes_30 ?_
    refine lv_iload_n hx hb dX7_boxes_33 rfl (lv_at hl 0 rfl) ?_
    refine lv_iconst (v := (-1)) hx hb dX7_boxes_34 (by decide) ?_
    refine mw_ist hx hb hK hj hP hS 12 (by decide) 0 mF_12 rfl 6 (by decide) (by decide) rfl dX7_boxes_35 (fun H locs hP hS => ?_)
    refine lv_iinc (v := 7) (lv' := [(3, .int 7), (0, .ref (ad 0)), (1, .int z), (2, .int w)]) hx hb dX7_boxes_36 hl (k := 0) rfl (by decide) (by decide) rfl (fun ls hl => ?_)
    refine lv_goto (tgt := 23) hx hb dX7_boxes_39 (by decide) ?_
    refine lv_iload_n hx hb dX7_boxes_23 rfl (lv_at hl 0 rfl) ?_
    refine lv_bipush (v := 20) hx hb dX7_boxes_24 (by decide) ?_
    refine lv_icmp_ge (tgt := 42) hx hb dX7_boxes_26 (by decide) (fun c9 => absurd c9 (by decide)) (fun _ => ?_)
    refine lv_aload_n hx hb dX7_boxes_29 rfl (lv_at hl 1 rfl) ?_
    refine mw_get (ci := 6) (C := RX7) (T := TX7) (N := 28) (v := .ref (ad 12)) hx hb hts hinX7 hown hK hP 0 (by decide) mF_0 rfl 15 (by decide) kf51 (fun _ h9 => h9) rfl dX7_boxes_30 ?_
    refine lv_iload_n hx hb dX7_boxes_33 rfl (lv_at hl 0 rfl) ?_
    refine lv_iconst (v := (-1)) hx hb dX7_boxes_34 (by decide) ?_
    refine mw_ist hx hb hK hj hP hS 12 (by decide) 0 mF_12 rfl 7 (by decide) (by decide) rfl dX7_boxes_35 (fun H locs hP hS => ?_)
    refine lv_iinc (v := 8) (lv' := [(3, .int 8), (0, .ref (ad 0)), (1, .int z), (2, .int w)]) hx hb dX7_boxes_36 hl (k := 0) rfl (by decide) (by decide) rfl (fun ls hl => ?_)
    refine lv_goto (tgt := 23) hx hb dX7_boxes_39 (by decide) ?_
    refine lv_iload_n hx hb dX7_boxes_23 rfl (lv_at hl 0 rfl) ?_
    refine lv_bipush (v := 20) hx hb dX7_boxes_24 (by decide) ?_
    refine lv_icmp_ge (tgt := 42) hx hb dX7_boxes_26 (by decide) (fun c9 => absurd c9 (by decide)) (fun _ => ?_)
    refine lv_aload_n hx hb dX7_boxes_29 rfl (lv_at hl 1 rfl) ?_
    refine mw_get (ci := 6) (C := RX7) (T := TX7) (N := 28) (v := .ref (ad 12)) hx hb hts hinX7 hown hK hP 0 (by decide) mF_0 rfl 15 (by decide) kf51 (fun _ h9 => h9) rfl dX7_boxes_30 ?_
    refine lv_iload_n hx hb dX7_boxes_33 rfl (lv_at hl 0 rfl) ?_
    refine lv_iconst (v := (-1)) hx hb dX7_boxes_34 (by decide) ?_
    refine mw_ist hx hb hK hj hP hS 12 (by decide) 0 mF_12 rfl 8 (by decide) (by decide) rfl dX7_boxes_35 (fun H locs hP hS => ?_)
    refine lv_iinc (v := 9) (lv' := [(3, .int 9), (0, .ref (ad 0)), (1, .int z), (2, .int w)]) hx hb dX7_boxes_36 hl (k := 0) rfl (by decide) (by decide) rfl (fun ls hl => ?_)
    refine lv_goto (tgt := 23) hx hb dX7_boxes_39 (by decide) ?_
    refine lv_iload_n hx hb dX7_boxes_23 rfl (lv_at hl 0 rfl) ?_
    refine lv_bipush (v := 20) hx hb dX7_boxes_24 (by decide) ?_
    refine lv_icmp_ge (tgt := 42) hx hb dX7_boxes_26 (by decide) (fun c9 => absurd c9 (by decide)) (fun _ => ?_)
    refine lv_aload_n hx hb dX7_boxes_29 rfl (lv_at hl 1 rfl) ?_
    refine mw_get (ci := 6) (C := RX7) (T := TX7) (N := 28) (v := .ref (ad 12)) hx hb hts hinX7 hown hK hP 0 (by decide) mF_0 rfl 15 (by decide) kf51 (fun _ h9 => h9) rfl dX7_boxes_30 ?_
    refine lv_iload_n hx hb dX7_boxes_33 rfl (lv_at hl 0 rfl) ?_
    refine lv_iconst (v := (-1)) hx hb dX7_boxes_34 (by decide) ?_
    refine mw_ist hx hb hK hj hP hS 12 (by decide) 0 mF_12 rfl 9 (by decide) (by decide) rfl dX7_boxes_35 (fun H locs hP hS => ?_)
    refine lv_iinc (v := 10) (lv' := [(3, .int 10), (0, .ref (ad 0)), (1, .int z), (2, .int w)]) hx hb dX7_boxes_36 hl (k := 0) rfl (by decide) (by decide) rfl (fun ls hl => ?_)
    refine lv_goto (tgt := 23) hx hb dX7_boxes_39 (by decide) ?_
    refine lv_iload_n hx hb dX7_boxes_23 rfl (lv_at hl 0 rfl) ?_
    refine lv_bipush (v := 20) hx hb dX7_boxes_24 (by decide) ?_
    refine lv_icmp_ge (tgt := 42) hx hb dX7_boxes_26 (by decide) (fun c9 => absurd c9 (by decide)) (fun _ => ?_)
    refine lv_aload_n hx hb dX7_boxes_29 rfl (lv_at hl 1 rfl) ?_
    refine mw_get (ci := 6) (C := RX7) (T := TX7) (N := 28) (v := .ref (ad 12)) hx hb hts hinX7 hown hK hP 0 (by decide) mF_0 rfl 15 (by decide) kf51 (fun _ h9 => h9) rfl dX7_boxes_30 ?_
    refine lv_iload_n hx hb dX7_boxes_33 rfl (lv_at hl 0 rfl) ?_
    refine lv_iconst (v := (-1)) hx hb dX7_boxes_34 (by decide) ?_
    refine mw_ist hx hb hK hj hP hS 12 (by decide) 0 mF_12 rfl 10 (by decide) (by decide) rfl dX7_boxes_35 (fun H locs hP hS => ?_)
    refine lv_iinc (v := 11) (lv' := [(3, .int 11), (0, .ref (ad 0)), (1, .int z), (2, .int w)]) hx hb dX7_boxes_36 hl (k := 0) rfl (by decide) (by decide) rfl (fun ls hl => ?_)
    refine lv_goto (tgt := 23) hx hb dX7_boxes_39 (by decide) ?_
    refine lv_iload_n hx hb dX7_boxes_23 rfl (lv_at hl 0 rfl) ?_
    refine lv_bipush (v := 20) hx hb dX7_boxes_24 (by decide) ?_
    refine lv_icmp_ge (tgt := 42) hx hb dX7_boxes_26 (by decide) (fun c9 => absurd c9 (by decide)) (fun _ => ?_)
    refine lv_aload_n hx hb dX7_boxes_29 rfl (lv_at hl 1 rfl) ?_
    refine mw_get (ci := 6) (C := RX7) (T := TX7) (N := 28) (v := .ref (ad 12)) hx hb hts hinX7 hown hK hP 0 (by decide) mF_0 rfl 15 (by decide) kf51 (fun _ h9 => h9) rfl dX7_boxes_30 ?_
    refine lv_iload_n hx hb dX7_boxes_33 rfl (lv_at hl 0 rfl) ?_
    refine lv_iconst (v := (-1)) hx hb dX7_boxes_34 (by decide) ?_
    refine mw_ist hx hb hK hj hP hS 12 (by decide) 0 mF_12 rfl 11 (by decide) (by decide) rfl dX7_boxes_35 (fun H locs hP hS => ?_)
    refine lv_iinc (v := 12) (lv' := [(3, .int 12), (0, .ref (ad 0)), (1, .int z), (2, .int w)]) hx hb dX7_boxes_36 hl (k := 0) rfl (by decide) (by decide) rfl (fun ls hl => ?_)
    refine lv_goto (tgt := 23) hx hb dX7_boxes_39 (by decide) ?_
    refine lv_iload_n hx hb dX7_boxes_23 rfl (lv_at hl 0 rfl) ?_
    refine lv_bipush (v := 20) hx hb dX7_boxes_24 (by decide) ?_
    refine lv_icmp_ge (tgt := 42) hx hb dX7_boxes_26 (by decide) (fun c9 => absurd c9 (by decide)) (fun _ => ?_)
    refine lv_aload_n hx hb dX7_boxes_29 rfl (lv_at hl 1 rfl) ?_
    refine mw_get (ci := 6) (C := RX7) (T := TX7) (N := 28) (v := .ref (ad 12)) hx hb hts hinX7 hown hK hP 0 (by decide) mF_0 rfl 15 (by decide) kf51 (fun _ h9 => h9) rfl dX7_boxes_30 ?_
    refine lv_iload_n hx hb dX7_boxes_33 rfl (lv_at hl 0 rfl) ?_
    refine lv_iconst (v := (-1)) hx hb dX7_boxes_34 (by decide) ?_
    refine mw_ist hx hb hK hj hP hS 12 (by decide) 0 mF_12 rfl 12 (by decide) (by decide) rfl dX7_boxes_35 (fun H locs hP hS => ?_)
    refine lv_iinc (v := 13) (lv' := [(3, .int 13), (0, .ref (ad 0)), (1, .int z), (2, .int w)]) hx hb dX7_boxes_36 hl (k := 0) rfl (by decide) (by decide) rfl (fun ls hl => ?_)
    refine lv_goto (tgt := 23) hx hb dX7_boxes_39 (by decide) ?_
    refine lv_iload_n hx hb dX7_boxes_23 rfl (lv_at hl 0 rfl) ?_
    refine lv_bipush (v := 20) hx hb dX7_boxes_24 (by decide) ?_
    refine lv_icmp_ge (tgt := 42) hx hb dX7_boxes_26 (by decide) (fun c9 => absurd c9 (by decide)) (fun _ => ?_)
    refine lv_aload_n hx hb dX7_boxes_29 rfl (lv_at hl 1 rfl) ?_
    refine mw_get (ci := 6) (C := RX7) (T := TX7) (N := 28) (v := .ref (ad 12)) hx hb hts hinX7 hown hK hP 0 (by decide) mF_0 rfl 15 (by decide) kf51 (fun _ h9 => h9) rfl dX7_boxes_30 ?_
    refine lv_iload_n hx hb dX7_boxes_33 rfl (lv_at hl 0 rfl) ?_
    refine lv_iconst (v := (-1)) hx hb dX7_boxes_34 (by decide) ?_
    refine mw_ist hx hb hK hj hP hS 12 (by decide) 0 mF_12 rfl 13 (by decide) (by decide) rfl dX7_boxes_35 (fun H locs hP hS => ?_)
    refine lv_iinc (v := 14) (lv' := [(3, .int 14), (0, .ref (ad 0)), (1, .int z), (2, .int w)]) hx hb dX7_boxes_36 hl (k := 0) rfl (by decide) (by decide) rfl (fun ls hl => ?_)
    refine lv_goto (tgt := 23) hx hb dX7_boxes_39 (by decide) ?_
    refine lv_iload_n hx hb dX7_boxes_23 rfl (lv_at hl 0 rfl) ?_
    refine lv_bipush (v := 20) hx hb dX7_boxes_24 (by decide) ?_
    refine lv_icmp_ge (tgt := 42) hx hb dX7_boxes_26 (by decide) (fun c9 => absurd c9 (by decide)) (fun _ => ?_)
    refine lv_aload_n hx hb dX7_boxes_29 rfl (lv_at hl 1 rfl) ?_
    refine mw_get (ci := 6) (C := RX7) (T := TX7) (N := 28) (v := .ref (ad 12)) hx hb hts hinX7 hown hK hP 0 (by decide) mF_0 rfl 15 (by decide) kf51 (fun _ h9 => h9) rfl dX7_boxes_30 ?_
    refine lv_iload_n hx hb dX7_boxes_33 rfl (lv_at hl 0 rfl) ?_
    refine lv_iconst (v := (-1)) hx hb dX7_boxes_34 (by decide) ?_
    refine mw_ist hx hb hK hj hP hS 12 (by decide) 0 mF_12 rfl 14 (by decide) (by decide) rfl dX7_boxes_35 (fun H locs hP hS => ?_)
    refine lv_iinc (v := 15) (lv' := [(3, .int 15), (0, .ref (ad 0)), (1, .int z), (2, .int w)]) hx hb dX7_boxes_36 hl (k := 0) rfl (by decide) (by decide) rfl (fun ls hl => ?_)
    refine lv_goto (tgt := 23) hx hb dX7_boxes_39 (by decide) ?_
    refine lv_iload_n hx hb dX7_boxes_23 rfl (lv_at hl 0 rfl) ?_
    refine lv_bipush (v := 20) hx hb dX7_boxes_24 (by decide) ?_
    refine lv_icmp_ge (tgt := 42) hx hb dX7_boxes_26 (by decide) (fun c9 => absurd c9 (by decide)) (fun _ => ?_)
    refine lv_aload_n hx hb dX7_boxes_29 rfl (lv_at hl 1 rfl) ?_
    refine mw_get (ci := 6) (C := RX7) (T := TX7) (N := 28) (v := .ref (ad 12)) hx hb hts hinX7 hown hK hP 0 (by decide) mF_0 rfl 15 (by decide) kf51 (fun _ h9 => h9) rfl dX7_boxes_30 ?_
    refine lv_iload_n hx hb dX7_boxes_33 rfl (lv_at hl 0 rfl) ?_
    refine lv_iconst (v := (-1)) hx hb dX7_boxes_34 (by decide) ?_
    refine mw_ist hx hb hK hj hP hS 12 (by decide) 0 mF_12 rfl 15 (by decide) (by decide) rfl dX7_boxes_35 (fun H locs hP hS => ?_)
    refine lv_iinc (v := 16) (lv' := [(3, .int 16), (0, .ref (ad 0)), (1, .int z), (2, .int w)]) hx hb dX7_boxes_36 hl (k := 0) rfl (by decide) (by decide) rfl (fun ls hl => ?_)
    refine lv_goto (tgt := 23) hx hb dX7_boxes_39 (by decide) ?_
    refine lv_iload_n hx hb dX7_boxes_23 rfl (lv_at hl 0 rfl) ?_
    refine lv_bipush (v := 20) hx hb dX7_boxes_24 (by decide) ?_
    refine lv_icmp_ge (tgt := 42) hx hb dX7_boxes_26 (by decide) (fun c9 => absurd c9 (by decide)) (fun _ => ?_)
    refine lv_aload_n hx hb dX7_boxes_29 rfl (lv_at hl 1 rfl) ?_
    refine mw_get (ci := 6) (C := RX7) (T := TX7) (N := 28) (v := .ref (ad 12)) hx hb hts hinX7 hown hK hP 0 (by decide) mF_0 rfl 15 (by decide) kf51 (fun _ h9 => h9) rfl dX7_boxes_30 ?_
    refine lv_iload_n hx hb dX7_boxes_33 rfl (lv_at hl 0 rfl) ?_
    refine lv_iconst (v := (-1)) hx hb dX7_boxes_34 (by decide) ?_
    refine mw_ist hx hb hK hj hP hS 12 (by decide) 0 mF_12 rfl 16 (by decide) (by decide) rfl dX7_boxes_35 (fun H locs hP hS => ?_)
    refine lv_iinc (v := 17) (lv' := [(3, .int 17), (0, .ref (ad 0)), (1, .int z), (2, .int w)]) hx hb dX7_boxes_36 hl (k := 0) rfl (by decide) (by decide) rfl (fun ls hl => ?_)
    refine lv_goto (tgt := 23) hx hb dX7_boxes_39 (by decide) ?_
    refine lv_iload_n hx hb dX7_boxes_23 rfl (lv_at hl 0 rfl) ?_
    refine lv_bipush (v := 20) hx hb dX7_boxes_24 (by decide) ?_
    refine lv_icmp_ge (tgt := 42) hx hb dX7_boxes_26 (by decide) (fun c9 => absurd c9 (by decide)) (fun _ => ?_)
    refine lv_aload_n hx hb dX7_boxes_29 rfl (lv_at hl 1 rfl) ?_
    refine mw_get (ci := 6) (C := RX7) (T := TX7) (N := 28) (v := .ref (ad 12)) hx hb hts hinX7 hown hK hP 0 (by decide) mF_0 rfl 15 (by decide) kf51 (fun _ h9 => h9) rfl dX7_boxes_30 ?_
    refine lv_iload_n hx hb dX7_boxes_33 rfl (lv_at hl 0 rfl) ?_
    refine lv_iconst (v := (-1)) hx hb dX7_boxes_34 (by decide) ?_
    refine mw_ist hx hb hK hj hP hS 12 (by decide) 0 mF_12 rfl 17 (by decide) (by decide) rfl dX7_boxes_35 (fun H locs hP hS => ?_)
    refine lv_iinc (v := 18) (lv' := [(3, .int 18), (0, .ref (ad 0)), (1, .int z), (2, .int w)]) hx hb dX7_boxes_36 hl (k := 0) rfl (by decide) (by decide) rfl (fun ls hl => ?_)
    refine lv_goto (tgt := 23) hx hb dX7_boxes_39 (by decide) ?_
    refine lv_iload_n hx hb dX7_boxes_23 rfl (lv_at hl 0 rfl) ?_
    refine lv_bipush (v := 20) hx hb dX7_boxes_24 (by decide) ?_
    refine lv_icmp_ge (tgt := 42) hx hb dX7_boxes_26 (by decide) (fun c9 => absurd c9 (by decide)) (fun _ => ?_)
    refine lv_aload_n hx hb dX7_boxes_29 rfl (lv_at hl 1 rfl) ?_
    refine mw_get (ci := 6) (C := RX7) (T := TX7) (N := 28) (v := .ref (ad 12)) hx hb hts hinX7 hown hK hP 0 (by decide) mF_0 rfl 15 (by decide) kf51 (fun _ h9 => h9) rfl dX7_boxes_30 ?_
    refine lv_iload_n hx hb dX7_boxes_33 rfl (lv_at hl 0 rfl) ?_
    refine lv_iconst (v := (-1)) hx hb dX7_boxes_34 (by decide) ?_
    refine mw_ist hx hb hK hj hP hS 12 (by decide) 0 mF_12 rfl 18 (by decide) (by decide) rfl dX7_boxes_35 (fun H locs hP hS => ?_)
    refine lv_iinc (v := 19) (lv' := [(3, .int 19), (0, .ref (ad 0)), (1, .int z), (2, .int w)]) hx hb dX7_boxes_36 hl (k := 0) rfl (by decide) (by decide) rfl (fun ls hl => ?_)
    refine lv_goto (tgt := 23) hx hb dX7_boxes_39 (by decide) ?_
    refine lv_iload_n hx hb dX7_boxes_23 rfl (lv_at hl 0 rfl) ?_
    refine lv_bipush (v := 20) hx hb dX7_boxes_24 (by decide) ?_
    refine lv_icmp_ge (tgt := 42) hx hb dX7_boxes_26 (by decide) (fun c9 => absurd c9 (by decide)) (fun _ => ?_)
    refine lv_aload_n hx hb dX7_boxes_29 rfl (lv_at hl 1 rfl) ?_
    refine mw_get (ci := 6) (C := RX7) (T := TX7) (N := 28) (v := .ref (ad 12)) hx hb hts hinX7 hown hK hP 0 (by decide) mF_0 rfl 15 (by decide) kf51 (fun _ h9 => h9) rfl dX7_boxes_30 ?_
    refine lv_iload_n hx hb dX7_boxes_33 rfl (lv_at hl 0 rfl) ?_
    refine lv_iconst (v := (-1)) hx hb dX7_boxes_34 (by decide) ?_
    refine mw_ist hx hb hK hj hP hS 12 (by decide) 0 mF_12 rfl 19 (by decide) (by decide) rfl dX7_boxes_35 (fun H locs hP hS => ?_)
    refine lv_iinc (v := 20) (lv' := [(3, .int 20), (0, .ref (ad 0)), (1, .int z), (2, .int w)]) hx hb dX7_boxes_36 hl (k := 0) rfl (by decide) (by decide) rfl (fun ls hl => ?_)
    refine lv_goto (tgt := 23) hx hb dX7_boxes_39 (by decide) ?_
    refine lv_iload_n hx hb dX7_boxes_23 rfl (lv_at hl 0 rfl) ?_
    refine lv_bipush (v := 20) hx hb dX7_boxes_24 (by decide) ?_
    refine lv_icmp_ge (tgt := 42) hx hb dX7_boxes_26 (by decide) (fun _ => ?_) (fun c9 => absurd c9 (by decide))
    refine lv_iconst (v := 0) hx hb dX7_boxes_42 (by decide) ?_
    exact g_iret hx hb hr hlocks hP hS dX7_boxes_43 (by unfold mBoxes; rw [if_pos c_1] <;> rfl)
  · skip
    refine lv_aload_n hx hb dX7_boxes_4 rfl (lv_at hl 0 rfl) ?_
    refine lv_bipush (v := 6) hx hb dX7_boxes_5 (by decide) ?_
    refine g_callV (As := [.int 6]) (rest := []) (N := 28) (T := TX7) (ci := 6) ⟨hx, hb, hml, hown, hts⟩ 0 (m_fails l D cy ad wy mt hj σ 6 ) (cwV 1 hts gX7_boxes_X7_fails rfl rfl rfl (by decide +kernel) ⟨by decide, by decide⟩) h0 hP hS (by decide) mF_0 rfl rfl rfl hl.1 (Nat.le_of_ble_eq_true rfl) dX7_boxes_7 ⟨Nat.zero_le _, Nat.zero_le _⟩ (fun H locs hP hS => ?_)
    exact g_iret hx hb hr hlocks hP hS dX7_boxes_10 (by unfold mBoxes; rw [if_neg c_1] <;> rfl)

def mGrids (σ : Mem) (z w : Int32) : Int32 × Mem :=
  if z < 0 then mFail σ 6
  else if 0 ≤ w then (0, mset (mset σ 0 16 z) 0 17 w)
  else mFail σ 6
set_option maxHeartbeats 4000000 in
set_option maxRecDepth 100000 in
theorem m_grids (l : Launch) (D : va_G) (cy : Nat → ClassId) (ad wy : Nat → Nat) (mt : Nat) (hj : mJ 18 ad) (σ : Mem) (z w : Int32)  : Met l yX7_grids wsX7_grids ({ frames := 2, cells := 0, slots := 0, locals := 43 }) (va_Pc [.ref (ad 0), .int z, .int w] (gPre 18 ad (mF ad cy) D cy wy mt σ)) (gQ 18 ad (mF ad cy) D (some (.int (mGrids σ z w).1)) (mGrids σ z w).2) 0 0 (mA 18 ad) := by
  refine g_met (cc := cX7_grids) (maxL := 3) (ret := (some .int)) (by decide) rfl (Nat.le_of_ble_eq_true rfl) ?_
  intro p e s m below meth c S hr hlocks h0 ls hl
  obtain ⟨hx, hb, hml, hown, hts⟩ := S
  have hP := h0.1
  have hK := h0.2.1
  have hS : va_S (mA 18 ad) s.heap s.heap [] := va_S.rf
  have hl : lv_has ls 3 [(0, .ref (ad 0)), (1, .int z), (2, .int w)] := hl
  have kf54 : (Cond.fieldLink RX7 54 "BenchRunsModel" "gridRows" "I").before (#[.ref (ad 0), .int z, .int w] : Array Value) s = true := hts _ (by decide +kernel)
  have hinX7 : ∀ w ∈ u_ws RX7 TX7 28, w ∈ wsX7_grids := by decide +kernel
  have kf87 : (Cond.fieldLink RX7 87 "BenchRunsModel" "gridWide" "I").before (#[.ref (ad 0), .int z, .int w] : Array Value) s = true := hts _ (by decide +kernel)
  refine lv_iload_n hx hb dX7_grids_0 rfl (lv_at hl 1 rfl) ?_
  refine lv_if_lt (tgt := 8) hx hb dX7_grids_1 (by decide) (fun c_1 => ?_) (fun c_1 => ?_)
  · skip
    refine lv_aload_n hx hb dX7_grids_8 rfl (lv_at hl 0 rfl) ?_
    refine lv_bipush (v := 6) hx hb dX7_grids_9 (by decide) ?_
    refine g_callV (As := [.int 6]) (rest := []) (N := 28) (T := TX7) (ci := 6) ⟨hx, hb, hml, hown, hts⟩ 0 (m_fails l D cy ad wy mt hj σ 6 ) (cwV 1 hts gX7_grids_X7_fails rfl rfl rfl (by decide +kernel) ⟨by decide, by decide⟩) h0 hP hS (by decide) mF_0 rfl rfl rfl hl.1 (Nat.le_of_ble_eq_true rfl) dX7_grids_11 ⟨Nat.zero_le _, Nat.zero_le _⟩ (fun H locs hP hS => ?_)
    exact g_iret hx hb hr hlocks hP hS dX7_grids_14 (by unfold mGrids; rw [if_pos c_1] <;> rfl)
  · skip
    refine lv_iload_n hx hb dX7_grids_4 rfl (lv_at hl 2 rfl) ?_
    refine lv_if_ge (tgt := 15) hx hb dX7_grids_5 (by decide) (fun c_2 => ?_) (fun c_2 => ?_)
    · skip
      refine lv_aload_n hx hb dX7_grids_15 rfl (lv_at hl 0 rfl) ?_
      refine lv_iload_n hx hb dX7_grids_16 rfl (lv_at hl 1 rfl) ?_
      refine mw_put (ci := 6) (C := RX7) (T := TX7) (N := 28) (v := z) (ty := .int) hx hb hts hinX7 tyX7 tyX7_ok nmX7 hown hK hj hP hS 0 (by decide) mF_0 rfl 16 (by decide) kf54 (fun _ h9 => h9) rfl (by decide +kernel) rfl rfl (Nat.le_of_ble_eq_true rfl) rfl dX7_grids_17 (fun H locs hP hS => ?_)
      refine lv_aload_n hx hb dX7_grids_20 rfl (lv_at hl 0 rfl) ?_
      refine lv_iload_n hx hb dX7_grids_21 rfl (lv_at hl 2 rfl) ?_
      refine mw_put (ci := 6) (C := RX7) (T := TX7) (N := 28) (v := w) (ty := .int) hx hb hts hinX7 tyX7 tyX7_ok nmX7 hown hK hj hP hS 0 (by decide) mF_0 rfl 17 (by decide) kf87 (fun _ h9 => h9) rfl (by decide +kernel) rfl rfl (Nat.le_of_ble_eq_true rfl) rfl dX7_grids_22 (fun H locs hP hS => ?_)
      refine lv_iconst (v := 0) hx hb dX7_grids_25 (by decide) ?_
      exact g_iret hx hb hr hlocks hP hS dX7_grids_26 (by unfold mGrids; rw [if_neg c_1, if_pos c_2] <;> rfl)
    · skip
      refine lv_aload_n hx hb dX7_grids_8 rfl (lv_at hl 0 rfl) ?_
      refine lv_bipush (v := 6) hx hb dX7_grids_9 (by decide) ?_
      refine g_callV (As := [.int 6]) (rest := []) (N := 28) (T := TX7) (ci := 6) ⟨hx, hb, hml, hown, hts⟩ 0 (m_fails l D cy ad wy mt hj σ 6 ) (cwV 1 hts gX7_grids_X7_fails rfl rfl rfl (by decide +kernel) ⟨by decide, by decide⟩) h0 hP hS (by decide) mF_0 rfl rfl rfl hl.1 (Nat.le_of_ble_eq_true rfl) dX7_grids_11 ⟨Nat.zero_le _, Nat.zero_le _⟩ (fun H locs hP hS => ?_)
      exact g_iret hx hb hr hlocks hP hS dX7_grids_14 (by unfold mGrids; rw [if_neg c_1, if_neg c_2] <;> rfl)

def mPut (σ : Mem) (t pl : Nat) : Int32 × Mem :=
  if nI t ≤ 5 then (if 0 ≤ σ 0 13 then (if nI pl < σ 0 13 then (if σ 9 t < 0 then (if 0 ≤ σ 9 t then (0, mset σ 12 pl (nI t))
          else (0, mset σ 12 pl (-1)))
        else if 2 ≤ σ 0 14 then (if 0 ≤ σ 9 t then (0, mset σ 12 pl (nI t))
          else (0, mset σ 12 pl (-1)))
        else if σ 9 t = σ 0 14 then (if 0 ≤ σ 9 t then (0, mset σ 12 pl (nI t))
          else (0, mset σ 12 pl (-1)))
        else mFail σ 8)
      else mFail σ 4)
    else mFail σ 5)
  else mFail σ 4
set_option maxHeartbeats 4000000 in
set_option maxRecDepth 100000 in
theorem m_puts (l : Launch) (D : va_G) (cy : Nat → ClassId) (ad wy : Nat → Nat) (mt : Nat) (hj : mJ 18 ad) (σ : Mem) (t pl : Nat) (ht : t ≤ 200) (hpl : pl ≤ 200) (hbx : nI pl < σ 0 13 → pl < 18) : Met l yX7_puts wsX7_puts ({ frames := 2, cells := 0, slots := 0, locals := 43 }) (va_Pc [.ref (ad 0), .int (nI t), .int (nI pl)] (gPre 18 ad (mF ad cy) D cy wy mt σ)) (gQ 18 ad (mF ad cy) D (some (.int (mPut σ t pl).1)) (mPut σ t pl).2) 0 0 (mA 18 ad) := by
  refine g_met (cc := cX7_puts) (maxL := 3) (ret := (some .int)) (by decide) rfl (Nat.le_of_ble_eq_true rfl) ?_
  intro p e s m below meth c S hr hlocks h0 ls hl
  obtain ⟨hx, hb, hml, hown, hts⟩ := S
  have hP := h0.1
  have hK := h0.2.1
  have hS : va_S (mA 18 ad) s.heap s.heap [] := va_S.rf
  have hl : lv_has ls 3 [(0, .ref (ad 0)), (1, .int (nI t)), (2, .int (nI pl))] := hl
  have kf48 : (Cond.fieldLink RX7 48 "BenchRunsModel" "boxSize" "I").before (#[.ref (ad 0), .int (nI t), .int (nI pl)] : Array Value) s = true := hts _ (by decide +kernel)
  have hinX7 : ∀ w ∈ u_ws RX7 TX7 28, w ∈ wsX7_puts := by decide +kernel
  have kf35 : (Cond.fieldLink RX7 35 "BenchRunsModel" "sort" "[I").before (#[.ref (ad 0), .int (nI t), .int (nI pl)] : Array Value) s = true := hts _ (by decide +kernel)
  have kf51 : (Cond.fieldLink RX7 51 "BenchRunsModel" "box" "[I").before (#[.ref (ad 0), .int (nI t), .int (nI pl)] : Array Value) s = true := hts _ (by decide +kernel)
  have kf100 : (Cond.fieldLink RX7 100 "BenchRunsModel" "boxSort" "I").before (#[.ref (ad 0), .int (nI t), .int (nI pl)] : Array Value) s = true := hts _ (by decide +kernel)
  refine lv_iload_n hx hb dX7_puts_0 rfl (lv_at hl 1 rfl) ?_
  refine lv_iconst (v := 5) hx hb dX7_puts_1 (by decide) ?_
  refine lv_icmp_le (tgt := 11) hx hb dX7_puts_2 (by decide) (fun c_1 => ?_) (fun c_1 => ?_)
  · skip
    have ht6 : t ≤ 5 := (nI_leI (b := 5) (by omega) (by decide)).mp c_1
    refine lv_aload_n hx hb dX7_puts_11 rfl (lv_at hl 0 rfl) ?_
    refine mw_get (ci := 6) (C := RX7) (T := TX7) (N := 28) (v := .int (σ 0 13)) hx hb hts hinX7 hown hK hP 0 (by decide) mF_0 rfl 13 (by decide) kf48 (fun _ h9 => h9) rfl dX7_puts_12 ?_
    refine lv_if_ge (tgt := 24) hx hb dX7_puts_15 (by decide) (fun c_2 => ?_) (fun c_2 => ?_)
    · skip
      refine lv_iload_n hx hb dX7_puts_24 rfl (lv_at hl 2 rfl) ?_
      refine lv_aload_n hx hb dX7_puts_25 rfl (lv_at hl 0 rfl) ?_
      refine mw_get (ci := 6) (C := RX7) (T := TX7) (N := 28) (v := .int (σ 0 13)) hx hb hts hinX7 hown hK hP 0 (by decide) mF_0 rfl 13 (by decide) kf48 (fun _ h9 => h9) rfl dX7_puts_26 ?_
      refine lv_icmp_lt (tgt := 38) hx hb dX7_puts_29 (by decide) (fun c_3 => ?_) (fun c_3 => ?_)
      · skip
        have hp18 : pl < 18 := hbx c_3
        refine lv_aload_n hx hb dX7_puts_38 rfl (lv_at hl 0 rfl) ?_
        refine mw_get (ci := 6) (C := RX7) (T := TX7) (N := 28) (v := .ref (ad 9)) hx hb hts hinX7 hown hK hP 0 (by decide) mF_0 rfl 9 (by decide) kf35 (fun _ h9 => h9) rfl dX7_puts_39 ?_
        refine lv_iload_n hx hb dX7_puts_42 rfl (lv_at hl 1 rfl) ?_
        refine mw_ild hx hb hK hP 9 (by decide) 0 mF_9 rfl t (by omega) (by decide) rfl dX7_puts_43 ?_
        refine lv_if_lt (tgt := 75) hx hb dX7_puts_44 (by decide) (fun c_4 => ?_) (fun c_4 => ?_)
        · skip
          refine lv_aload_n hx hb dX7_puts_75 rfl (lv_at hl 0 rfl) ?_
          refine mw_get (ci := 6) (C := RX7) (T := TX7) (N := 28) (v := .ref (ad 12)) hx hb hts hinX7 hown hK hP 0 (by decide) mF_0 rfl 15 (by decide) kf51 (fun _ h9 => h9) rfl dX7_puts_76 ?_
          refine lv_iload_n hx hb dX7_puts_79 rfl (lv_at hl 2 rfl) ?_
          refine lv_aload_n hx hb dX7_puts_80 rfl (lv_at hl 0 rfl) ?_
          refine mw_get (ci := 6) (C := RX7) (T := TX7) (N := 28) (v := .ref (ad 9)) hx hb hts hinX7 hown hK hP 0 (by decide) mF_0 rfl 9 (by decide) kf35 (fun _ h9 => h9) rfl dX7_puts_81 ?_
          refine lv_iload_n hx hb dX7_puts_84 rfl (lv_at hl 1 rfl) ?_
          refine mw_ild hx hb hK hP 9 (by decide) 0 mF_9 rfl t (by omega) (by decide) rfl dX7_puts_85 ?_
          refine lv_if_ge (tgt := 93) hx hb dX7_puts_86 (by decide) (fun c_5 => ?_) (fun c_5 => ?_)
          · skip
            refine lv_iload_n hx hb dX7_puts_93 rfl (lv_at hl 1 rfl) ?_
            refine mw_ist hx hb hK hj hP hS 12 (by decide) 0 mF_12 rfl pl (by omega) (by decide) rfl dX7_puts_94 (fun H locs hP hS => ?_)
            refine lv_iconst (v := 0) hx hb dX7_puts_95 (by decide) ?_
            exact g_iret hx hb hr hlocks hP hS dX7_puts_96 (by unfold mPut; rw [if_pos c_1, if_pos c_2, if_pos c_3, if_pos c_4, if_pos c_5] <;> rfl)
          · skip
            refine lv_iconst (v := (-1)) hx hb dX7_puts_89 (by decide) ?_
            refine lv_goto (tgt := 94) hx hb dX7_puts_90 (by decide) ?_
            refine mw_ist hx hb hK hj hP hS 12 (by decide) 0 mF_12 rfl pl (by omega) (by decide) rfl dX7_puts_94 (fun H locs hP hS => ?_)
            refine lv_iconst (v := 0) hx hb dX7_puts_95 (by decide) ?_
            exact g_iret hx hb hr hlocks hP hS dX7_puts_96 (by unfold mPut; rw [if_pos c_1, if_pos c_2, if_pos c_3, if_pos c_4, if_neg c_5] <;> rfl)
        · skip
          refine lv_aload_n hx hb dX7_puts_47 rfl (lv_at hl 0 rfl) ?_
          refine mw_get (ci := 6) (C := RX7) (T := TX7) (N := 28) (v := .int (σ 0 14)) hx hb hts hinX7 hown hK hP 0 (by decide) mF_0 rfl 14 (by decide) kf100 (fun _ h9 => h9) rfl dX7_puts_48 ?_
          refine lv_iconst (v := 2) hx hb dX7_puts_51 (by decide) ?_
          refine lv_icmp_ge (tgt := 75) hx hb dX7_puts_52 (by decide) (fun c_6 => ?_) (fun c_6 => ?_)
          · skip
            refine lv_aload_n hx hb dX7_puts_75 rfl (lv_at hl 0 rfl) ?_
            refine mw_get (ci := 6) (C := RX7) (T := TX7) (N := 28) (v := .ref (ad 12)) hx hb hts hinX7 hown hK hP 0 (by decide) mF_0 rfl 15 (by decide) kf51 (fun _ h9 => h9) rfl dX7_puts_76 ?_
            refine lv_iload_n hx hb dX7_puts_79 rfl (lv_at hl 2 rfl) ?_
            refine lv_aload_n hx hb dX7_puts_80 rfl (lv_at hl 0 rfl) ?_
            refine mw_get (ci := 6) (C := RX7) (T := TX7) (N := 28) (v := .ref (ad 9)) hx hb hts hinX7 hown hK hP 0 (by decide) mF_0 rfl 9 (by decide) kf35 (fun _ h9 => h9) rfl dX7_puts_81 ?_
            refine lv_iload_n hx hb dX7_puts_84 rfl (lv_at hl 1 rfl) ?_
            refine mw_ild hx hb hK hP 9 (by decide) 0 mF_9 rfl t (by omega) (by decide) rfl dX7_puts_85 ?_
            refine lv_if_ge (tgt := 93) hx hb dX7_puts_86 (by decide) (fun c_7 => ?_) (fun c_7 => ?_)
            · skip
              refine lv_iload_n hx hb dX7_puts_93 rfl (lv_at hl 1 rfl) ?_
              refine mw_ist hx hb hK hj hP hS 12 (by decide) 0 mF_12 rfl pl (by omega) (by decide) rfl dX7_puts_94 (fun H locs hP hS => ?_)
              refine lv_iconst (v := 0) hx hb dX7_puts_95 (by decide) ?_
              exact g_iret hx hb hr hlocks hP hS dX7_puts_96 (by unfold mPut; rw [if_pos c_1, if_pos c_2, if_pos c_3, if_neg c_4, if_pos c_6, if_pos c_7] <;> rfl)
            · skip
              refine lv_iconst (v := (-1)) hx hb dX7_puts_89 (by decide) ?_
              refine lv_goto (tgt := 94) hx hb dX7_puts_90 (by decide) ?_
              refine mw_ist hx hb hK hj hP hS 12 (by decide) 0 mF_12 rfl pl (by omega) (by decide) rfl dX7_puts_94 (fun H locs hP hS => ?_)
              refine lv_iconst (v := 0) hx hb dX7_puts_95 (by decide) ?_
              exact g_iret hx hb hr hlocks hP hS dX7_puts_96 (by unfold mPut; rw [if_pos c_1, if_pos c_2, if_pos c_3, if_neg c_4, if_pos c_6, if_neg c_7] <;> rfl)
          · skip
            refine lv_aload_n hx hb dX7_puts_55 rfl (lv_at hl 0 rfl) ?_
            refine mw_get (ci := 6) (C := RX7) (T := TX7) (N := 28) (v := .ref (ad 9)) hx hb hts hinX7 hown hK hP 0 (by decide) mF_0 rfl 9 (by decide) kf35 (fun _ h9 => h9) rfl dX7_puts_56 ?_
            refine lv_iload_n hx hb dX7_puts_59 rfl (lv_at hl 1 rfl) ?_
            refine mw_ild hx hb hK hP 9 (by decide) 0 mF_9 rfl t (by omega) (by decide) rfl dX7_puts_60 ?_
            refine lv_aload_n hx hb dX7_puts_61 rfl (lv_at hl 0 rfl) ?_
            refine mw_get (ci := 6) (C := RX7) (T := TX7) (N := 28) (v := .int (σ 0 14)) hx hb hts hinX7 hown hK hP 0 (by decide) mF_0 rfl 14 (by decide) kf100 (fun _ h9 => h9) rfl dX7_puts_62 ?_
            refine lv_icmp_eq (tgt := 75) hx hb dX7_puts_65 (by decide) (fun c_8 => ?_) (fun c_8 => ?_)
            · skip
              refine lv_aload_n hx hb dX7_puts_75 rfl (lv_at hl 0 rfl) ?_
              refine mw_get (ci := 6) (C := RX7) (T := TX7) (N := 28) (v := .ref (ad 12)) hx hb hts hinX7 hown hK hP 0 (by decide) mF_0 rfl 15 (by decide) kf51 (fun _ h9 => h9) rfl dX7_puts_76 ?_
              refine lv_iload_n hx hb dX7_puts_79 rfl (lv_at hl 2 rfl) ?_
              refine lv_aload_n hx hb dX7_puts_80 rfl (lv_at hl 0 rfl) ?_
              refine mw_get (ci := 6) (C := RX7) (T := TX7) (N := 28) (v := .ref (ad 9)) hx hb hts hinX7 hown hK hP 0 (by decide) mF_0 rfl 9 (by decide) kf35 (fun _ h9 => h9) rfl dX7_puts_81 ?_
              refine lv_iload_n hx hb dX7_puts_84 rfl (lv_at hl 1 rfl) ?_
              refine mw_ild hx hb hK hP 9 (by decide) 0 mF_9 rfl t (by omega) (by decide) rfl dX7_puts_85 ?_
              refine lv_if_ge (tgt := 93) hx hb dX7_puts_86 (by decide) (fun c_9 => ?_) (fun c_9 => ?_)
              · skip
                refine lv_iload_n hx hb dX7_puts_93 rfl (lv_at hl 1 rfl) ?_
                refine mw_ist hx hb hK hj hP hS 12 (by decide) 0 mF_12 rfl pl (by omega) (by decide) rfl dX7_puts_94 (fun H locs hP hS => ?_)
                refine lv_iconst (v := 0) hx hb dX7_puts_95 (by decide) ?_
                exact g_iret hx hb hr hlocks hP hS dX7_puts_96 (by unfold mPut; rw [if_pos c_1, if_pos c_2, if_pos c_3, if_neg c_4, if_neg c_6, if_pos c_8, if_pos c_9] <;> rfl)
              · skip
                refine lv_iconst (v := (-1)) hx hb dX7_puts_89 (by decide) ?_
                refine lv_goto (tgt := 94) hx hb dX7_puts_90 (by decide) ?_
                refine mw_ist hx hb hK hj hP hS 12 (by decide) 0 mF_12 rfl pl (by omega) (by decide) rfl dX7_puts_94 (fun H locs hP hS => ?_)
                refine lv_iconst (v := 0) hx hb dX7_puts_95 (by decide) ?_
                exact g_iret hx hb hr hlocks hP hS dX7_puts_96 (by unfold mPut; rw [if_pos c_1, if_pos c_2, if_pos c_3, if_neg c_4, if_neg c_6, if_pos c_8, if_neg c_9] <;> rfl)
            · skip
              refine lv_aload_n hx hb dX7_puts_68 rfl (lv_at hl 0 rfl) ?_
              refine lv_bipush (v := 8) hx hb dX7_puts_69 (by decide) ?_
              refine g_callV (As := [.int 8]) (rest := []) (N := 28) (T := TX7) (ci := 6) ⟨hx, hb, hml, hown, hts⟩ 0 (m_fails l D cy ad wy mt hj σ 8 ) (cwV 1 hts gX7_puts_X7_fails rfl rfl rfl (by decide +kernel) ⟨by decide, by decide⟩) h0 hP hS (by decide) mF_0 rfl rfl rfl hl.1 (Nat.le_of_ble_eq_true rfl) dX7_puts_71 ⟨Nat.zero_le _, Nat.zero_le _⟩ (fun H locs hP hS => ?_)
              exact g_iret hx hb hr hlocks hP hS dX7_puts_74 (by unfold mPut; rw [if_pos c_1, if_pos c_2, if_pos c_3, if_neg c_4, if_neg c_6, if_neg c_8] <;> rfl)
      · skip
        refine lv_aload_n hx hb dX7_puts_32 rfl (lv_at hl 0 rfl) ?_
        refine lv_iconst (v := 4) hx hb dX7_puts_33 (by decide) ?_
        refine g_callV (As := [.int 4]) (rest := []) (N := 28) (T := TX7) (ci := 6) ⟨hx, hb, hml, hown, hts⟩ 0 (m_fails l D cy ad wy mt hj σ 4 ) (cwV 1 hts gX7_puts_X7_fails rfl rfl rfl (by decide +kernel) ⟨by decide, by decide⟩) h0 hP hS (by decide) mF_0 rfl rfl rfl hl.1 (Nat.le_of_ble_eq_true rfl) dX7_puts_34 ⟨Nat.zero_le _, Nat.zero_le _⟩ (fun H locs hP hS => ?_)
        exact g_iret hx hb hr hlocks hP hS dX7_puts_37 (by unfold mPut; rw [if_pos c_1, if_pos c_2, if_neg c_3] <;> rfl)
    · skip
      refine lv_aload_n hx hb dX7_puts_18 rfl (lv_at hl 0 rfl) ?_
      refine lv_iconst (v := 5) hx hb dX7_puts_19 (by decide) ?_
      refine g_callV (As := [.int 5]) (rest := []) (N := 28) (T := TX7) (ci := 6) ⟨hx, hb, hml, hown, hts⟩ 0 (m_fails l D cy ad wy mt hj σ 5 ) (cwV 1 hts gX7_puts_X7_fails rfl rfl rfl (by decide +kernel) ⟨by decide, by decide⟩) h0 hP hS (by decide) mF_0 rfl rfl rfl hl.1 (Nat.le_of_ble_eq_true rfl) dX7_puts_20 ⟨Nat.zero_le _, Nat.zero_le _⟩ (fun H locs hP hS => ?_)
      exact g_iret hx hb hr hlocks hP hS dX7_puts_23 (by unfold mPut; rw [if_pos c_1, if_neg c_2] <;> rfl)
  · skip
    refine lv_aload_n hx hb dX7_puts_5 rfl (lv_at hl 0 rfl) ?_
    refine lv_iconst (v := 4) hx hb dX7_puts_6 (by decide) ?_
    refine g_callV (As := [.int 4]) (rest := []) (N := 28) (T := TX7) (ci := 6) ⟨hx, hb, hml, hown, hts⟩ 0 (m_fails l D cy ad wy mt hj σ 4 ) (cwV 1 hts gX7_puts_X7_fails rfl rfl rfl (by decide +kernel) ⟨by decide, by decide⟩) h0 hP hS (by decide) mF_0 rfl rfl rfl hl.1 (Nat.le_of_ble_eq_true rfl) dX7_puts_7 ⟨Nat.zero_le _, Nat.zero_le _⟩ (fun H locs hP hS => ?_)
    exact g_iret hx hb hr hlocks hP hS dX7_puts_10 (by unfold mPut; rw [if_neg c_1] <;> rfl)

def mCount (σ : Mem) (v : Nat) (n : Int32) : Int32 × Mem :=
  if n = 0 then (if 0 ≤ σ 0 12 then mMore σ v (σ 0 12)
    else mFail σ 5)
  else if n = 1 then (if 0 ≤ σ 0 13 then mMore σ v (σ 0 13)
    else mFail σ 5)
  else if 0 ≤ σ 0 16 then mMore σ v (σ 0 16)
  else mFail σ 5
set_option maxHeartbeats 4000000 in
set_option maxRecDepth 100000 in
theorem m_counts (l : Launch) (D : va_G) (cy : Nat → ClassId) (ad wy : Nat → Nat) (mt : Nat) (hj : mJ 18 ad) (σ : Mem) (v : Nat) (hv : v < 8) (n : Int32)  : Met l yX7_counts wsX7_counts ({ frames := 3, cells := 0, slots := 0, locals := 65 }) (va_Pc [.ref (ad 0), .int (nI v), .int n] (gPre 18 ad (mF ad cy) D cy wy mt σ)) (gQ 18 ad (mF ad cy) D (some (.int (mCount σ v n).1)) (mCount σ v n).2) 0 0 (mA 18 ad) := by
  refine g_met (cc := cX7_counts) (maxL := 4) (ret := (some .int)) (by decide) rfl (Nat.le_of_ble_eq_true rfl) ?_
  intro p e s m below meth c S hr hlocks h0 ls hl
  obtain ⟨hx, hb, hml, hown, hts⟩ := S
  have hP := h0.1
  have hK := h0.2.1
  have hS : va_S (mA 18 ad) s.heap s.heap [] := va_S.rf
  have hl : lv_has ls 4 [(0, .ref (ad 0)), (1, .int (nI v)), (2, .int n)] := hl
  have kf54 : (Cond.fieldLink RX7 54 "BenchRunsModel" "gridRows" "I").before (#[.ref (ad 0), .int (nI v), .int n] : Array Value) s = true := hts _ (by decide +kernel)
  have hinX7 : ∀ w ∈ u_ws RX7 TX7 28, w ∈ wsX7_counts := by decide +kernel
  have kf48 : (Cond.fieldLink RX7 48 "BenchRunsModel" "boxSize" "I").before (#[.ref (ad 0), .int (nI v), .int n] : Array Value) s = true := hts _ (by decide +kernel)
  have kf44 : (Cond.fieldLink RX7 44 "BenchRunsModel" "rack" "I").before (#[.ref (ad 0), .int (nI v), .int n] : Array Value) s = true := hts _ (by decide +kernel)
  refine lv_iload_n hx hb dX7_counts_0 rfl (lv_at hl 2 rfl) ?_
  refine lv_if_ne (tgt := 11) hx hb dX7_counts_1 (by decide) (fun c_1 => ?_) (fun c_1 => ?_)
  · skip
    refine lv_iload_n hx hb dX7_counts_11 rfl (lv_at hl 2 rfl) ?_
    refine lv_iconst (v := 1) hx hb dX7_counts_12 (by decide) ?_
    refine lv_icmp_ne (tgt := 23) hx hb dX7_counts_13 (by decide) (fun c_2 => ?_) (fun c_2 => ?_)
    · skip
      refine lv_aload_n hx hb dX7_counts_23 rfl (lv_at hl 0 rfl) ?_
      refine mw_get (ci := 6) (C := RX7) (T := TX7) (N := 28) (v := .int (σ 0 16)) hx hb hts hinX7 hown hK hP 0 (by decide) mF_0 rfl 16 (by decide) kf54 (fun _ h9 => h9) rfl dX7_counts_24 ?_
      refine lv_istore_n (lv' := [(3, .int (σ 0 16)), (0, .ref (ad 0)), (1, .int (nI v)), (2, .int n)]) hx hb dX7_counts_27 rfl hl (by decide) rfl (fun ls hl => ?_)
      refine lv_iload_n hx hb dX7_counts_28 rfl (lv_at hl 0 rfl) ?_
      refine lv_if_ge (tgt := 40) hx hb dX7_counts_29 (by decide) (fun c_3 => ?_) (fun c_3 => ?_)
      · skip
        refine lv_aload_n hx hb dX7_counts_40 rfl (lv_at hl 1 rfl) ?_
        refine lv_iload_n hx hb dX7_counts_41 rfl (lv_at hl 2 rfl) ?_
        refine lv_iload_n hx hb dX7_counts_42 rfl (lv_at hl 0 rfl) ?_
        refine g_callV (As := [.int (nI v), .int (σ 0 16)]) (rest := []) (N := 28) (T := TX7) (ci := 6) ⟨hx, hb, hml, hown, hts⟩ 0 (m_more l D cy ad wy mt hj σ v (by omega) (σ 0 16)) (cwV 2 hts gX7_counts_X7_more rfl rfl rfl (by decide +kernel) ⟨by decide, by decide⟩) h0 hP hS (by decide) mF_0 rfl rfl rfl hl.1 (Nat.le_of_ble_eq_true rfl) dX7_counts_43 ⟨Nat.zero_le _, Nat.zero_le _⟩ (fun H locs hP hS => ?_)
        exact g_iret hx hb hr hlocks hP hS dX7_counts_46 (by unfold mCount; rw [if_neg c_1, if_neg c_2, if_pos c_3] <;> rfl)
      · skip
        refine lv_aload_n hx hb dX7_counts_32 rfl (lv_at hl 1 rfl) ?_
        refine lv_iconst (v := 5) hx hb dX7_counts_33 (by decide) ?_
        refine g_callV (As := [.int 5]) (rest := []) (N := 28) (T := TX7) (ci := 6) ⟨hx, hb, hml, hown, hts⟩ 0 (m_fails l D cy ad wy mt hj σ 5 ) (cwV 1 hts gX7_counts_X7_fails rfl rfl rfl (by decide +kernel) ⟨by decide, by decide⟩) h0 hP hS (by decide) mF_0 rfl rfl rfl hl.1 (Nat.le_of_ble_eq_true rfl) dX7_counts_34 ⟨Nat.zero_le _, Nat.zero_le _⟩ (fun H locs hP hS => ?_)
        refine lv_goto (tgt := 46) hx hb dX7_counts_37 (by decide) ?_
        exact g_iret hx hb hr hlocks hP hS dX7_counts_46 (by unfold mCount; rw [if_neg c_1, if_neg c_2, if_neg c_3] <;> rfl)
    · skip
      refine lv_aload_n hx hb dX7_counts_16 rfl (lv_at hl 0 rfl) ?_
      refine mw_get (ci := 6) (C := RX7) (T := TX7) (N := 28) (v := .int (σ 0 13)) hx hb hts hinX7 hown hK hP 0 (by decide) mF_0 rfl 13 (by decide) kf48 (fun _ h9 => h9) rfl dX7_counts_17 ?_
      refine lv_goto (tgt := 27) hx hb dX7_counts_20 (by decide) ?_
      refine lv_istore_n (lv' := [(3, .int (σ 0 13)), (0, .ref (ad 0)), (1, .int (nI v)), (2, .int n)]) hx hb dX7_counts_27 rfl hl (by decide) rfl (fun ls hl => ?_)
      refine lv_iload_n hx hb dX7_counts_28 rfl (lv_at hl 0 rfl) ?_
      refine lv_if_ge (tgt := 40) hx hb dX7_counts_29 (by decide) (fun c_4 => ?_) (fun c_4 => ?_)
      · skip
        refine lv_aload_n hx hb dX7_counts_40 rfl (lv_at hl 1 rfl) ?_
        refine lv_iload_n hx hb dX7_counts_41 rfl (lv_at hl 2 rfl) ?_
        refine lv_iload_n hx hb dX7_counts_42 rfl (lv_at hl 0 rfl) ?_
        refine g_callV (As := [.int (nI v), .int (σ 0 13)]) (rest := []) (N := 28) (T := TX7) (ci := 6) ⟨hx, hb, hml, hown, hts⟩ 0 (m_more l D cy ad wy mt hj σ v (by omega) (σ 0 13)) (cwV 2 hts gX7_counts_X7_more rfl rfl rfl (by decide +kernel) ⟨by decide, by decide⟩) h0 hP hS (by decide) mF_0 rfl rfl rfl hl.1 (Nat.le_of_ble_eq_true rfl) dX7_counts_43 ⟨Nat.zero_le _, Nat.zero_le _⟩ (fun H locs hP hS => ?_)
        exact g_iret hx hb hr hlocks hP hS dX7_counts_46 (by unfold mCount; rw [if_neg c_1, if_pos c_2, if_pos c_4] <;> rfl)
      · skip
        refine lv_aload_n hx hb dX7_counts_32 rfl (lv_at hl 1 rfl) ?_
        refine lv_iconst (v := 5) hx hb dX7_counts_33 (by decide) ?_
        refine g_callV (As := [.int 5]) (rest := []) (N := 28) (T := TX7) (ci := 6) ⟨hx, hb, hml, hown, hts⟩ 0 (m_fails l D cy ad wy mt hj σ 5 ) (cwV 1 hts gX7_counts_X7_fails rfl rfl rfl (by decide +kernel) ⟨by decide, by decide⟩) h0 hP hS (by decide) mF_0 rfl rfl rfl hl.1 (Nat.le_of_ble_eq_true rfl) dX7_counts_34 ⟨Nat.zero_le _, Nat.zero_le _⟩ (fun H locs hP hS => ?_)
        refine lv_goto (tgt := 46) hx hb dX7_counts_37 (by decide) ?_
        exact g_iret hx hb hr hlocks hP hS dX7_counts_46 (by unfold mCount; rw [if_neg c_1, if_pos c_2, if_neg c_4] <;> rfl)
  · skip
    refine lv_aload_n hx hb dX7_counts_4 rfl (lv_at hl 0 rfl) ?_
    refine mw_get (ci := 6) (C := RX7) (T := TX7) (N := 28) (v := .int (σ 0 12)) hx hb hts hinX7 hown hK hP 0 (by decide) mF_0 rfl 12 (by decide) kf44 (fun _ h9 => h9) rfl dX7_counts_5 ?_
    refine lv_goto (tgt := 27) hx hb dX7_counts_8 (by decide) ?_
    refine lv_istore_n (lv' := [(3, .int (σ 0 12)), (0, .ref (ad 0)), (1, .int (nI v)), (2, .int n)]) hx hb dX7_counts_27 rfl hl (by decide) rfl (fun ls hl => ?_)
    refine lv_iload_n hx hb dX7_counts_28 rfl (lv_at hl 0 rfl) ?_
    refine lv_if_ge (tgt := 40) hx hb dX7_counts_29 (by decide) (fun c_5 => ?_) (fun c_5 => ?_)
    · skip
      refine lv_aload_n hx hb dX7_counts_40 rfl (lv_at hl 1 rfl) ?_
      refine lv_iload_n hx hb dX7_counts_41 rfl (lv_at hl 2 rfl) ?_
      refine lv_iload_n hx hb dX7_counts_42 rfl (lv_at hl 0 rfl) ?_
      refine g_callV (As := [.int (nI v), .int (σ 0 12)]) (rest := []) (N := 28) (T := TX7) (ci := 6) ⟨hx, hb, hml, hown, hts⟩ 0 (m_more l D cy ad wy mt hj σ v (by omega) (σ 0 12)) (cwV 2 hts gX7_counts_X7_more rfl rfl rfl (by decide +kernel) ⟨by decide, by decide⟩) h0 hP hS (by decide) mF_0 rfl rfl rfl hl.1 (Nat.le_of_ble_eq_true rfl) dX7_counts_43 ⟨Nat.zero_le _, Nat.zero_le _⟩ (fun H locs hP hS => ?_)
      exact g_iret hx hb hr hlocks hP hS dX7_counts_46 (by unfold mCount; rw [if_pos c_1, if_pos c_5] <;> rfl)
    · skip
      refine lv_aload_n hx hb dX7_counts_32 rfl (lv_at hl 1 rfl) ?_
      refine lv_iconst (v := 5) hx hb dX7_counts_33 (by decide) ?_
      refine g_callV (As := [.int 5]) (rest := []) (N := 28) (T := TX7) (ci := 6) ⟨hx, hb, hml, hown, hts⟩ 0 (m_fails l D cy ad wy mt hj σ 5 ) (cwV 1 hts gX7_counts_X7_fails rfl rfl rfl (by decide +kernel) ⟨by decide, by decide⟩) h0 hP hS (by decide) mF_0 rfl rfl rfl hl.1 (Nat.le_of_ble_eq_true rfl) dX7_counts_34 ⟨Nat.zero_le _, Nat.zero_le _⟩ (fun H locs hP hS => ?_)
      refine lv_goto (tgt := 46) hx hb dX7_counts_37 (by decide) ?_
      exact g_iret hx hb hr hlocks hP hS dX7_counts_46 (by unfold mCount; rw [if_pos c_1, if_neg c_5] <;> rfl)

def mRaise (σ : Mem) (t : Nat) : Int32 × Mem :=
  if σ 13 t = 0 then mFail σ 5
  else (5, mset (mset σ 0 24 (σ 13 t)) 0 25 0)
set_option maxHeartbeats 4000000 in
set_option maxRecDepth 100000 in
theorem m_raises (l : Launch) (D : va_G) (cy : Nat → ClassId) (ad wy : Nat → Nat) (mt : Nat) (hj : mJ 18 ad) (σ : Mem) (t : Nat) (ht : t < 4)  : Met l yX7_raises wsX7_raises ({ frames := 2, cells := 0, slots := 0, locals := 43 }) (va_Pc [.ref (ad 0), .int (nI t)] (gPre 18 ad (mF ad cy) D cy wy mt σ)) (gQ 18 ad (mF ad cy) D (some (.int (mRaise σ t).1)) (mRaise σ t).2) 0 0 (mA 18 ad) := by
  refine g_met (cc := cX7_raises) (maxL := 2) (ret := (some .int)) (by decide) rfl (Nat.le_of_ble_eq_true rfl) ?_
  intro p e s m below meth c S hr hlocks h0 ls hl
  obtain ⟨hx, hb, hml, hown, hts⟩ := S
  have hP := h0.1
  have hK := h0.2.1
  have hS : va_S (mA 18 ad) s.heap s.heap [] := va_S.rf
  have hl : lv_has ls 2 [(0, .ref (ad 0)), (1, .int (nI t))] := hl
  have kf57 : (Cond.fieldLink RX7 57 "BenchRunsModel" "laid" "[I").before (#[.ref (ad 0), .int (nI t)] : Array Value) s = true := hts _ (by decide +kernel)
  have hinX7 : ∀ w ∈ u_ws RX7 TX7 28, w ∈ wsX7_raises := by decide +kernel
  have kf90 : (Cond.fieldLink RX7 90 "BenchRunsModel" "failure" "I").before (#[.ref (ad 0), .int (nI t)] : Array Value) s = true := hts _ (by decide +kernel)
  have kf93 : (Cond.fieldLink RX7 93 "BenchRunsModel" "isMachines" "Z").before (#[.ref (ad 0), .int (nI t)] : Array Value) s = true := hts _ (by decide +kernel)
  refine lv_aload_n hx hb dX7_raises_0 rfl (lv_at hl 0 rfl) ?_
  refine mw_get (ci := 6) (C := RX7) (T := TX7) (N := 28) (v := .ref (ad 13)) hx hb hts hinX7 hown hK hP 0 (by decide) mF_0 rfl 18 (by decide) kf57 (fun _ h9 => h9) rfl dX7_raises_1 ?_
  refine lv_iload_n hx hb dX7_raises_4 rfl (lv_at hl 1 rfl) ?_
  refine mw_ild hx hb hK hP 13 (by decide) 0 mF_13 rfl t (by omega) (by decide) rfl dX7_raises_5 ?_
  refine lv_if_ne (tgt := 15) hx hb dX7_raises_6 (by decide) (fun c_1 => ?_) (fun c_1 => ?_)
  · skip
    refine lv_aload_n hx hb dX7_raises_15 rfl (lv_at hl 0 rfl) ?_
    refine lv_aload_n hx hb dX7_raises_16 rfl (lv_at hl 0 rfl) ?_
    refine mw_get (ci := 6) (C := RX7) (T := TX7) (N := 28) (v := .ref (ad 13)) hx hb hts hinX7 hown hK hP 0 (by decide) mF_0 rfl 18 (by decide) kf57 (fun _ h9 => h9) rfl dX7_raises_17 ?_
    refine lv_iload_n hx hb dX7_raises_20 rfl (lv_at hl 1 rfl) ?_
    refine mw_ild hx hb hK hP 13 (by decide) 0 mF_13 rfl t (by omega) (by decide) rfl dX7_raises_21 ?_
    refine mw_put (ci := 6) (C := RX7) (T := TX7) (N := 28) (v := σ 13 t) (ty := .int) hx hb hts hinX7 tyX7 tyX7_ok nmX7 hown hK hj hP hS 0 (by decide) mF_0 rfl 24 (by decide) kf90 (fun _ h9 => h9) rfl (by decide +kernel) rfl rfl (Nat.le_of_ble_eq_true rfl) rfl dX7_raises_22 (fun H locs hP hS => ?_)
    refine lv_aload_n hx hb dX7_raises_25 rfl (lv_at hl 0 rfl) ?_
    refine lv_iconst (v := 0) hx hb dX7_raises_26 (by decide) ?_
    refine mw_put (ci := 6) (C := RX7) (T := TX7) (N := 28) (v := 0) (ty := .boolean) hx hb hts hinX7 tyX7 tyX7_ok nmX7 hown hK hj hP hS 0 (by decide) mF_0 rfl 25 (by decide) kf93 (fun _ h9 => h9) rfl (by decide +kernel) (by decide) (by decide) (Nat.le_of_ble_eq_true rfl) rfl dX7_raises_27 (fun H locs hP hS => ?_)
    refine lv_iconst (v := 5) hx hb dX7_raises_30 (by decide) ?_
    exact g_iret hx hb hr hlocks hP hS dX7_raises_31 (by unfold mRaise; rw [if_neg c_1] <;> rfl)
  · skip
    refine lv_aload_n hx hb dX7_raises_9 rfl (lv_at hl 0 rfl) ?_
    refine lv_iconst (v := 5) hx hb dX7_raises_10 (by decide) ?_
    refine g_callV (As := [.int 5]) (rest := []) (N := 28) (T := TX7) (ci := 6) ⟨hx, hb, hml, hown, hts⟩ 0 (m_fails l D cy ad wy mt hj σ 5 ) (cwV 1 hts gX7_raises_X7_fails rfl rfl rfl (by decide +kernel) ⟨by decide, by decide⟩) h0 hP hS (by decide) mF_0 rfl rfl rfl hl.1 (Nat.le_of_ble_eq_true rfl) dX7_raises_11 ⟨Nat.zero_le _, Nat.zero_le _⟩ (fun H locs hP hS => ?_)
    exact g_iret hx hb hr hlocks hP hS dX7_raises_14 (by unfold mRaise; rw [if_pos c_1] <;> rfl)
