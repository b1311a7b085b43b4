/-! The shapes of the two worlds. Class: 0 root, 1 vialDrops, 2 batches, 3 tools, 4 laid, 5 stock, 6 boxTools, 7 log, 8 countOf, 9 events, 10 notedNumbers, 11 chain, 12+b batch, 16+b its rounds, 20+t tool, 26+q round, 50+q kinds, 74+q numbers (q = 6 b + r). Reference: 0 root, 1 isVial .. 17 why. -/
abbrev ci (x : Int32) : Nat := x.toNatClampNeg
theorem ci_lt {x : Int32} {N : Nat} (h : vp_in x N) : ci x < N := Nat.not_le.mp fun q => h (Or.inr q)
theorem ci_eq {x : Int32} {N : Nat} (h : vp_in x N) (hN : N < 2 ^ 31) : x = nI (ci x) := by
  obtain ⟨j, hj, rfl⟩ := vp_in_of h hN
  unfold ci
  rw [nI_clamp (by omega)]
def cF (ad : Nat → Nat) (cy : Nat → ClassId) (i : Nat) (y : Nat → Int32) : va_E :=
  if i = 0 then .inr (5, [.ref (ad 1), .ref (ad 2), .ref (ad 3), .ref (ad 4), .ref (ad 5), .ref (ad 7), .int (y 6)])
  else if i = 1 then .inl (cy 0, 8, .inl y)
  else if i = 2 then .inl (cy 2, 4, .inr (.inr (.inr (.inr (fun q => some (ad (12 + q)))))))
  else if i = 3 then .inl (cy 4, 6, .inr (.inr (.inr (.inr (fun q => some (ad (20 + q)))))))
  else if i = 4 then .inl (cy 0, 4, .inl y)
  else if i = 5 then .inr (3, [.ref (ad 6), .int (y 1), .int (y 2), .int (y 3), .int (y 4), .int (y 5)])
  else if i = 6 then .inl (cy 0, 18, .inl y)
  else if i = 7 then .inr (1, [.ref (ad 8), .ref (ad 9), .int (y 2), .ref (ad 10), .int (y 4), .ref (ad 11), .int (y 6)])
  else if i = 8 then .inl (cy 0, 7, .inl y)
  else if i = 9 then .inl (cy 0, 400, .inl y)
  else if i = 10 then .inl (cy 0, 24, .inl y)
  else if i = 11 then .inl (cy 0, 4, .inl y)
  else if i < 16 then .inr (0, [.ref (ad (i + 4)), .int (y 1), .int (y 2)])
  else if i < 20 then .inl (cy 3, 6, .inr (.inr (.inr (.inr (fun q => some (ad (26 + (6 * (i - 16) + q))))))))
  else if i < 26 then .inr (4, [.int (y 0), .int (y 1), .int (y 2)])
  else if i < 50 then .inr (2, [.ref (ad (i + 24)), .ref (ad (i + 48)), .int (y 2), .int (y 3)])
  else .inl (cy 0, 8, .inl y)
section SH
variable {ad : Nat → Nat} {cy : Nat → ClassId}
theorem cF_0 : ∀ y, cF ad cy 0 y = .inr (5, [.ref (ad 1), .ref (ad 2), .ref (ad 3), .ref (ad 4), .ref (ad 5), .ref (ad 7), .int (y 6)]) := fun _ => rfl
theorem cF_1 : ∀ y, cF ad cy 1 y = .inl (cy 0, 8, .inl y) := fun _ => rfl
theorem cF_2 : ∀ y, cF ad cy 2 y = .inl (cy 2, 4, .inr (.inr (.inr (.inr (fun q => some (ad (12 + q))))))) := fun _ => rfl
theorem cF_3 : ∀ y, cF ad cy 3 y = .inl (cy 4, 6, .inr (.inr (.inr (.inr (fun q => some (ad (20 + q))))))) := fun _ => rfl
theorem cF_4 : ∀ y, cF ad cy 4 y = .inl (cy 0, 4, .inl y) := fun _ => rfl
theorem cF_5 : ∀ y, cF ad cy 5 y = .inr (3, [.ref (ad 6), .int (y 1), .int (y 2), .int (y 3), .int (y 4), .int (y 5)]) := fun _ => rfl
theorem cF_6 : ∀ y, cF ad cy 6 y = .inl (cy 0, 18, .inl y) := fun _ => rfl
theorem cF_7 : ∀ y, cF ad cy 7 y = .inr (1, [.ref (ad 8), .ref (ad 9), .int (y 2), .ref (ad 10), .int (y 4), .ref (ad 11), .int (y 6)]) := fun _ => rfl
theorem cF_8 : ∀ y, cF ad cy 8 y = .inl (cy 0, 7, .inl y) := fun _ => rfl
theorem cF_9 : ∀ y, cF ad cy 9 y = .inl (cy 0, 400, .inl y) := fun _ => rfl
theorem cF_10 : ∀ y, cF ad cy 10 y = .inl (cy 0, 24, .inl y) := fun _ => rfl
theorem cF_11 : ∀ y, cF ad cy 11 y = .inl (cy 0, 4, .inl y) := fun _ => rfl
theorem cB_bat {b : Nat} (h : b < 4) : 12 + b < 98 := by omega
theorem cB_row {b : Nat} (h : b < 4) : 16 + b < 98 := by omega
theorem cB_tool {b : Nat} (h : b < 6) : 20 + b < 98 := by omega
theorem cB_rnd {b : Nat} (h : b < 24) : 26 + b < 98 := by omega
theorem cB_kin {b : Nat} (h : b < 24) : 50 + b < 98 := by omega
theorem cB_num {b : Nat} (h : b < 24) : 74 + b < 98 := by omega
theorem cB_q {b r : Nat} (h : b < 4) (hr : r < 6) : 6 * b + r < 24 := by omega
theorem cF_bat {b : Nat} (h : b < 4) : ∀ y, cF ad cy (12 + b) y = .inr (0, [.ref (ad (16 + b)), .int (y 1), .int (y 2)]) := by
  intro y
  unfold cF
  rw [if_neg (by omega), if_neg (by omega), if_neg (by omega), if_neg (by omega), if_neg (by omega), if_neg (by omega), if_neg (by omega), if_neg (by omega), if_neg (by omega), if_neg (by omega), if_neg (by omega), if_neg (by omega), if_pos (by omega), show 12 + b + 4 = 16 + b by omega]
theorem cF_row {b : Nat} (h : b < 4) : ∀ y, cF ad cy (16 + b) y = .inl (cy 3, 6, .inr (.inr (.inr (.inr (fun q => some (ad (26 + (6 * b + q)))))))) := by
  intro y
  unfold cF
  rw [if_neg (by omega), if_neg (by omega), if_neg (by omega), if_neg (by omega), if_neg (by omega), if_neg (by omega), if_neg (by omega), if_neg (by omega), if_neg (by omega), if_neg (by omega), if_neg (by omega), if_neg (by omega), if_neg (by omega), if_pos (by omega), show 16 + b - 16 = b by omega]
theorem cF_tool {b : Nat} (h : b < 6) : ∀ y, cF ad cy (20 + b) y = .inr (4, [.int (y 0), .int (y 1), .int (y 2)]) := by
  intro y
  unfold cF
  rw [if_neg (by omega), if_neg (by omega), if_neg (by omega), if_neg (by omega), if_neg (by omega), if_neg (by omega), if_neg (by omega), if_neg (by omega), if_neg (by omega), if_neg (by omega), if_neg (by omega), if_neg (by omega), if_neg (by omega), if_neg (by omega), if_pos (by omega)]
theorem cF_rnd {b : Nat} (h : b < 24) : ∀ y, cF ad cy (26 + b) y = .inr (2, [.ref (ad (50 + b)), .ref (ad (74 + b)), .int (y 2), .int (y 3)]) := by
  intro y
  unfold cF
  rw [if_neg (by omega), if_neg (by omega), if_neg (by omega), if_neg (by omega), if_neg (by omega), if_neg (by omega), if_neg (by omega), if_neg (by omega), if_neg (by omega), if_neg (by omega), if_neg (by omega), if_neg (by omega), if_neg (by omega), if_neg (by omega), if_neg (by omega), if_pos (by omega), show 26 + b + 24 = 50 + b by omega, show 26 + b + 48 = 74 + b by omega]
theorem cF_kin {b : Nat} (h : b < 24) : ∀ y, cF ad cy (50 + b) y = .inl (cy 0, 8, .inl y) := by
  intro y
  unfold cF
  rw [if_neg (by omega), if_neg (by omega), if_neg (by omega), if_neg (by omega), if_neg (by omega), if_neg (by omega), if_neg (by omega), if_neg (by omega), if_neg (by omega), if_neg (by omega), if_neg (by omega), if_neg (by omega), if_neg (by omega), if_neg (by omega), if_neg (by omega), if_neg (by omega)]
theorem cF_num {b : Nat} (h : b < 24) : ∀ y, cF ad cy (74 + b) y = .inl (cy 0, 8, .inl y) := by
  intro y
  unfold cF
  rw [if_neg (by omega), if_neg (by omega), if_neg (by omega), if_neg (by omega), if_neg (by omega), if_neg (by omega), if_neg (by omega), if_neg (by omega), if_neg (by omega), if_neg (by omega), if_neg (by omega), if_neg (by omega), if_neg (by omega), if_neg (by omega), if_neg (by omega), if_neg (by omega)]
end SH
def mF (ad : Nat → Nat) (cy : Nat → ClassId) (i : Nat) (y : Nat → Int32) : va_E :=
  if i = 0 then .inr (6, [.int (y 0), .ref (ad 1), .ref (ad 2), .ref (ad 3), .ref (ad 4), .ref (ad 5), .ref (ad 6), .ref (ad 7), .ref (ad 8), .ref (ad 9), .ref (ad 10), .ref (ad 11), .int (y 12), .int (y 13), .int (y 14), .ref (ad 12), .int (y 16), .int (y 17), .ref (ad 13), .ref (ad 14), .ref (ad 15), .ref (ad 16), .ref (ad 17), .int (y 23), .int (y 24), .int (y 25), .int (y 26), .int (y 27)])
  else if i = 1 then .inl (cy 1, 8, .inl y)
  else .inl (cy 0, (if i = 2 then 8 else if i = 3 then 4 else if i = 4 then 4 else if i = 5 then 24 else if i = 6 then 24 else if i = 7 then 192 else if i = 8 then 192 else if i = 9 then 6 else if i = 10 then 6 else if i = 11 then 6 else if i = 12 then 20 else if i = 13 then 4 else if i = 14 then 8 else if i = 15 then 400 else if i = 16 then 24 else 5), .inl y)
section SM
variable {ad : Nat → Nat} {cy : Nat → ClassId}
theorem mF_0 : ∀ y, mF ad cy 0 y = .inr (6, [.int (y 0), .ref (ad 1), .ref (ad 2), .ref (ad 3), .ref (ad 4), .ref (ad 5), .ref (ad 6), .ref (ad 7), .ref (ad 8), .ref (ad 9), .ref (ad 10), .ref (ad 11), .int (y 12), .int (y 13), .int (y 14), .ref (ad 12), .int (y 16), .int (y 17), .ref (ad 13), .ref (ad 14), .ref (ad 15), .ref (ad 16), .ref (ad 17), .int (y 23), .int (y 24), .int (y 25), .int (y 26), .int (y 27)]) := fun _ => rfl
theorem mF_1 : ∀ y, mF ad cy 1 y = .inl (cy 1, 8, .inl y) := fun _ => rfl
theorem mF_2 : ∀ y, mF ad cy 2 y = .inl (cy 0, 8, .inl y) := fun _ => rfl
theorem mF_3 : ∀ y, mF ad cy 3 y = .inl (cy 0, 4, .inl y) := fun _ => rfl
theorem mF_4 : ∀ y, mF ad cy 4 y = .inl (cy 0, 4, .inl y) := fun _ => rfl
theorem mF_5 : ∀ y, mF ad cy 5 y = .inl (cy 0, 24, .inl y) := fun _ => rfl
theorem mF_6 : ∀ y, mF ad cy 6 y = .inl (cy 0, 24, .inl y) := fun _ => rfl
theorem mF_7 : ∀ y, mF ad cy 7 y = .inl (cy 0, 192, .inl y) := fun _ => rfl
theorem mF_8 : ∀ y, mF ad cy 8 y = .inl (cy 0, 192, .inl y) := fun _ => rfl
theorem mF_9 : ∀ y, mF ad cy 9 y = .inl (cy 0, 6, .inl y) := fun _ => rfl
theorem mF_10 : ∀ y, mF ad cy 10 y = .inl (cy 0, 6, .inl y) := fun _ => rfl
theorem mF_11 : ∀ y, mF ad cy 11 y = .inl (cy 0, 6, .inl y) := fun _ => rfl
theorem mF_12 : ∀ y, mF ad cy 12 y = .inl (cy 0, 20, .inl y) := fun _ => rfl
theorem mF_13 : ∀ y, mF ad cy 13 y = .inl (cy 0, 4, .inl y) := fun _ => rfl
theorem mF_14 : ∀ y, mF ad cy 14 y = .inl (cy 0, 8, .inl y) := fun _ => rfl
theorem mF_15 : ∀ y, mF ad cy 15 y = .inl (cy 0, 400, .inl y) := fun _ => rfl
theorem mF_16 : ∀ y, mF ad cy 16 y = .inl (cy 0, 24, .inl y) := fun _ => rfl
theorem mF_17 : ∀ y, mF ad cy 17 y = .inl (cy 0, 5, .inl y) := fun _ => rfl
end SM
