/-! THE CLASS'S CELLS, in the order in which the constructor makes them -/
def txO (i : Nat) : Nat := 2 + 3 * i
def blO (i : Nat) : Nat := 24 + 2 * i
def prO (f : Nat) : Nat := 40 + 9 * f
def frO (i : Nat) : Nat := 95 + 2 * i
def sX (k : Nat) : tm_Sh :=
  if k = 0 then .inl (0, [some 1, some 20, some 22, some 34])
  else if k = 1 then .inr (.inr (1, 6, txO))
  else if k < 20 then (if (k - 2) % 3 = 0 then .inl (8, [some (k + 1), some (k + 2), none]) else .inr (.inl 20))
  else if k = 20 then .inl (2, [some 21, none])
  else if k = 21 then .inr (.inl 5)
  else if k = 22 then .inl (3, [some 23, none])
  else if k = 23 then .inr (.inr (2, 5, blO))
  else if k < 34 then (if (k - 24) % 2 = 0 then .inl (1, [none, none, none, none, none, some (k + 1), none]) else .inr (.inl 20))
  else if k = 34 then .inl (5, [some 35, some 39, some 37, some 94, none, none, none, none, none])
  else if k = 35 then .inl (9, [some 36, none])
  else if k = 36 then .inr (.inl 8)
  else if k = 37 then .inl (7, [some 38, none, none, none, none, none, none])
  else if k = 38 then .inr (.inl 60)
  else if k = 39 then .inr (.inr (3, 6, prO))
  else if k < 94 then (if (k - 40) % 9 = 0 then .inl (6, [some (k + 1), some (k + 2), none, some (k + 3), some (k + 4), some (k + 5), none, some (k + 6), some (k + 7), some (k + 8), none]) else if (k - 40) % 9 < 3 then .inr (.inl 81) else if (k - 40) % 9 < 6 then .inr (.inl 40) else .inr (.inl 20))
  else if k = 94 then .inr (.inr (4, 8, frO))
  else if (k - 95) % 2 = 0 then .inl (4, [none, none, some (k + 1), none]) else .inr (.inl 5)
/-- keys: 0 the object; 1 texts; 2 checker; 3 compiler; 4 blocks; 5 machine, types, parents, tally, numbers; 6 programs; 7 frames' array; 8 frames -/
def kX (k : Nat) : tm_K :=
  if k < 2 then (0, 0, k)
  else if k < 20 then (1, (k - 2) / 3, (k - 2) % 3)
  else if k < 22 then (2, 0, k - 20)
  else if k < 24 then (3, 0, k - 22)
  else if k < 34 then (4, (k - 24) / 2, (k - 24) % 2)
  else if k < 40 then (5, 0, k - 34)
  else if k < 94 then (6, (k - 40) / 9, (k - 40) % 9)
  else if k < 95 then (7, 0, 0)
  else (8, (k - 95) / 2, (k - 95) % 2)
def kX_back (K : tm_K) : Nat :=
  if K.1 = 0 then K.2.2 else if K.1 = 1 then 2 + 3 * K.2.1 + K.2.2 else if K.1 = 2 then 20 + K.2.2 else if K.1 = 3 then 22 + K.2.2 else if K.1 = 4 then 24 + 2 * K.2.1 + K.2.2 else if K.1 = 5 then 34 + K.2.2 else if K.1 = 6 then 40 + 9 * K.2.1 + K.2.2 else if K.1 = 7 then 94 else 95 + 2 * K.2.1 + K.2.2
theorem kX_bk (k : Nat) : kX_back (kX k) = k := by
  unfold kX
  repeat' split
  all_goals simp only [kX_back]
  all_goals simp
  all_goals omega
theorem kX_inj : ∀ a b, kX a = kX b → a = b := fun a b h => by rw [← kX_bk a, ← kX_bk b, h]
theorem q_tx {i : Nat} (hi : i < 6) : (txO i) < 111 ∧ sX (txO i) = .inl (8, [some (txO i + 1), some (txO i + 2), none]) ∧ kX (txO i) = (1, i, 0) := by
  match i, hi with
  | 0, _ => exact ⟨by decide, rfl, rfl⟩
  | 1, _ => exact ⟨by decide, rfl, rfl⟩
  | 2, _ => exact ⟨by decide, rfl, rfl⟩
  | 3, _ => exact ⟨by decide, rfl, rfl⟩
  | 4, _ => exact ⟨by decide, rfl, rfl⟩
  | 5, _ => exact ⟨by decide, rfl, rfl⟩
  | a + 6, h => omega
theorem q_tx1 {i : Nat} (hi : i < 6) : (txO i + 1) < 111 ∧ sX (txO i + 1) = .inr (.inl 20) ∧ kX (txO i + 1) = (1, i, 1) := by
  match i, hi with
  | 0, _ => exact ⟨by decide, rfl, rfl⟩
  | 1, _ => exact ⟨by decide, rfl, rfl⟩
  | 2, _ => exact ⟨by decide, rfl, rfl⟩
  | 3, _ => exact ⟨by decide, rfl, rfl⟩
  | 4, _ => exact ⟨by decide, rfl, rfl⟩
  | 5, _ => exact ⟨by decide, rfl, rfl⟩
  | a + 6, h => omega
theorem q_tx2 {i : Nat} (hi : i < 6) : (txO i + 2) < 111 ∧ sX (txO i + 2) = .inr (.inl 20) ∧ kX (txO i + 2) = (1, i, 2) := by
  match i, hi with
  | 0, _ => exact ⟨by decide, rfl, rfl⟩
  | 1, _ => exact ⟨by decide, rfl, rfl⟩
  | 2, _ => exact ⟨by decide, rfl, rfl⟩
  | 3, _ => exact ⟨by decide, rfl, rfl⟩
  | 4, _ => exact ⟨by decide, rfl, rfl⟩
  | 5, _ => exact ⟨by decide, rfl, rfl⟩
  | a + 6, h => omega
theorem q_bl {i : Nat} (hi : i < 5) : (blO i) < 111 ∧ sX (blO i) = .inl (1, [none, none, none, none, none, some (blO i + 1), none]) ∧ kX (blO i) = (4, i, 0) := by
  match i, hi with
  | 0, _ => exact ⟨by decide, rfl, rfl⟩
  | 1, _ => exact ⟨by decide, rfl, rfl⟩
  | 2, _ => exact ⟨by decide, rfl, rfl⟩
  | 3, _ => exact ⟨by decide, rfl, rfl⟩
  | 4, _ => exact ⟨by decide, rfl, rfl⟩
  | a + 5, h => omega
theorem q_bl1 {i : Nat} (hi : i < 5) : (blO i + 1) < 111 ∧ sX (blO i + 1) = .inr (.inl 20) ∧ kX (blO i + 1) = (4, i, 1) := by
  match i, hi with
  | 0, _ => exact ⟨by decide, rfl, rfl⟩
  | 1, _ => exact ⟨by decide, rfl, rfl⟩
  | 2, _ => exact ⟨by decide, rfl, rfl⟩
  | 3, _ => exact ⟨by decide, rfl, rfl⟩
  | 4, _ => exact ⟨by decide, rfl, rfl⟩
  | a + 5, h => omega
theorem q_pr {i : Nat} (hi : i < 6) : (prO i) < 111 ∧ sX (prO i) = .inl (6, [some (prO i + 1), some (prO i + 2), none, some (prO i + 3), some (prO i + 4), some (prO i + 5), none, some (prO i + 6), some (prO i + 7), some (prO i + 8), none]) ∧ kX (prO i) = (6, i, 0) := by
  match i, hi with
  | 0, _ => exact ⟨by decide, rfl, rfl⟩
  | 1, _ => exact ⟨by decide, rfl, rfl⟩
  | 2, _ => exact ⟨by decide, rfl, rfl⟩
  | 3, _ => exact ⟨by decide, rfl, rfl⟩
  | 4, _ => exact ⟨by decide, rfl, rfl⟩
  | 5, _ => exact ⟨by decide, rfl, rfl⟩
  | a + 6, h => omega
theorem q_pr1 {i : Nat} (hi : i < 6) : (prO i + 1) < 111 ∧ sX (prO i + 1) = .inr (.inl 81) ∧ kX (prO i + 1) = (6, i, 1) := by
  match i, hi with
  | 0, _ => exact ⟨by decide, rfl, rfl⟩
  | 1, _ => exact ⟨by decide, rfl, rfl⟩
  | 2, _ => exact ⟨by decide, rfl, rfl⟩
  | 3, _ => exact ⟨by decide, rfl, rfl⟩
  | 4, _ => exact ⟨by decide, rfl, rfl⟩
  | 5, _ => exact ⟨by decide, rfl, rfl⟩
  | a + 6, h => omega
theorem q_pr2 {i : Nat} (hi : i < 6) : (prO i + 2) < 111 ∧ sX (prO i + 2) = .inr (.inl 81) ∧ kX (prO i + 2) = (6, i, 2) := by
  match i, hi with
  | 0, _ => exact ⟨by decide, rfl, rfl⟩
  | 1, _ => exact ⟨by decide, rfl, rfl⟩
  | 2, _ => exact ⟨by decide, rfl, rfl⟩
  | 3, _ => exact ⟨by decide, rfl, rfl⟩
  | 4, _ => exact ⟨by decide, rfl, rfl⟩
  | 5, _ => exact ⟨by decide, rfl, rfl⟩
  | a + 6, h => omega
theorem q_pr3 {i : Nat} (hi : i < 6) : (prO i + 3) < 111 ∧ sX (prO i + 3) = .inr (.inl 40) ∧ kX (prO i + 3) = (6, i, 3) := by
  match i, hi with
  | 0, _ => exact ⟨by decide, rfl, rfl⟩
  | 1, _ => exact ⟨by decide, rfl, rfl⟩
  | 2, _ => exact ⟨by decide, rfl, rfl⟩
  | 3, _ => exact ⟨by decide, rfl, rfl⟩
  | 4, _ => exact ⟨by decide, rfl, rfl⟩
  | 5, _ => exact ⟨by decide, rfl, rfl⟩
  | a + 6, h => omega
theorem q_pr4 {i : Nat} (hi : i < 6) : (prO i + 4) < 111 ∧ sX (prO i + 4) = .inr (.inl 40) ∧ kX (prO i + 4) = (6, i, 4) := by
  match i, hi with
  | 0, _ => exact ⟨by decide, rfl, rfl⟩
  | 1, _ => exact ⟨by decide, rfl, rfl⟩
  | 2, _ => exact ⟨by decide, rfl, rfl⟩
  | 3, _ => exact ⟨by decide, rfl, rfl⟩
  | 4, _ => exact ⟨by decide, rfl, rfl⟩
  | 5, _ => exact ⟨by decide, rfl, rfl⟩
  | a + 6, h => omega
theorem q_pr5 {i : Nat} (hi : i < 6) : (prO i + 5) < 111 ∧ sX (prO i + 5) = .inr (.inl 40) ∧ kX (prO i + 5) = (6, i, 5) := by
  match i, hi with
  | 0, _ => exact ⟨by decide, rfl, rfl⟩
  | 1, _ => exact ⟨by decide, rfl, rfl⟩
  | 2, _ => exact ⟨by decide, rfl, rfl⟩
  | 3, _ => exact ⟨by decide, rfl, rfl⟩
  | 4, _ => exact ⟨by decide, rfl, rfl⟩
  | 5, _ => exact ⟨by decide, rfl, rfl⟩
  | a + 6, h => omega
theorem q_pr6 {i : Nat} (hi : i < 6) : (prO i + 6) < 111 ∧ sX (prO i + 6) = .inr (.inl 20) ∧ kX (prO i + 6) = (6, i, 6) := by
  match i, hi with
  | 0, _ => exact ⟨by decide, rfl, rfl⟩
  | 1, _ => exact ⟨by decide, rfl, rfl⟩
  | 2, _ => exact ⟨by decide, rfl, rfl⟩
  | 3, _ => exact ⟨by decide, rfl, rfl⟩
  | 4, _ => exact ⟨by decide, rfl, rfl⟩
  | 5, _ => exact ⟨by decide, rfl, rfl⟩
  | a + 6, h => omega
theorem q_pr7 {i : Nat} (hi : i < 6) : (prO i + 7) < 111 ∧ sX (prO i + 7) = .inr (.inl 20) ∧ kX (prO i + 7) = (6, i, 7) := by
  match i, hi with
  | 0, _ => exact ⟨by decide, rfl, rfl⟩
  | 1, _ => exact ⟨by decide, rfl, rfl⟩
  | 2, _ => exact ⟨by decide, rfl, rfl⟩
  | 3, _ => exact ⟨by decide, rfl, rfl⟩
  | 4, _ => exact ⟨by decide, rfl, rfl⟩
  | 5, _ => exact ⟨by decide, rfl, rfl⟩
  | a + 6, h => omega
theorem q_pr8 {i : Nat} (hi : i < 6) : (prO i + 8) < 111 ∧ sX (prO i + 8) = .inr (.inl 20) ∧ kX (prO i + 8) = (6, i, 8) := by
  match i, hi with
  | 0, _ => exact ⟨by decide, rfl, rfl⟩
  | 1, _ => exact ⟨by decide, rfl, rfl⟩
  | 2, _ => exact ⟨by decide, rfl, rfl⟩
  | 3, _ => exact ⟨by decide, rfl, rfl⟩
  | 4, _ => exact ⟨by decide, rfl, rfl⟩
  | 5, _ => exact ⟨by decide, rfl, rfl⟩
  | a + 6, h => omega
theorem q_fr {i : Nat} (hi : i < 8) : (frO i) < 111 ∧ sX (frO i) = .inl (4, [none, none, some (frO i + 1), none]) ∧ kX (frO i) = (8, i, 0) := by
  match i, hi with
  | 0, _ => exact ⟨by decide, rfl, rfl⟩
  | 1, _ => exact ⟨by decide, rfl, rfl⟩
  | 2, _ => exact ⟨by decide, rfl, rfl⟩
  | 3, _ => exact ⟨by decide, rfl, rfl⟩
  | 4, _ => exact ⟨by decide, rfl, rfl⟩
  | 5, _ => exact ⟨by decide, rfl, rfl⟩
  | 6, _ => exact ⟨by decide, rfl, rfl⟩
  | 7, _ => exact ⟨by decide, rfl, rfl⟩
  | a + 8, h => omega
theorem q_fr1 {i : Nat} (hi : i < 8) : (frO i + 1) < 111 ∧ sX (frO i + 1) = .inr (.inl 5) ∧ kX (frO i + 1) = (8, i, 1) := by
  match i, hi with
  | 0, _ => exact ⟨by decide, rfl, rfl⟩
  | 1, _ => exact ⟨by decide, rfl, rfl⟩
  | 2, _ => exact ⟨by decide, rfl, rfl⟩
  | 3, _ => exact ⟨by decide, rfl, rfl⟩
  | 4, _ => exact ⟨by decide, rfl, rfl⟩
  | 5, _ => exact ⟨by decide, rfl, rfl⟩
  | 6, _ => exact ⟨by decide, rfl, rfl⟩
  | 7, _ => exact ⟨by decide, rfl, rfl⟩
  | a + 8, h => omega
theorem q_0 : 0 < 111 ∧ sX 0 = .inl (0, [some 1, some 20, some 22, some 34]) ∧ kX 0 = (0, 0, 0) := ⟨by decide, rfl, rfl⟩
theorem q_1 : 1 < 111 ∧ sX 1 = .inr (.inr (1, 6, txO)) ∧ kX 1 = (0, 0, 1) := ⟨by decide, rfl, rfl⟩
theorem q_20 : 20 < 111 ∧ sX 20 = .inl (2, [some 21, none]) ∧ kX 20 = (2, 0, 0) := ⟨by decide, rfl, rfl⟩
theorem q_21 : 21 < 111 ∧ sX 21 = .inr (.inl 5) ∧ kX 21 = (2, 0, 1) := ⟨by decide, rfl, rfl⟩
theorem q_22 : 22 < 111 ∧ sX 22 = .inl (3, [some 23, none]) ∧ kX 22 = (3, 0, 0) := ⟨by decide, rfl, rfl⟩
theorem q_23 : 23 < 111 ∧ sX 23 = .inr (.inr (2, 5, blO)) ∧ kX 23 = (3, 0, 1) := ⟨by decide, rfl, rfl⟩
theorem q_34 : 34 < 111 ∧ sX 34 = .inl (5, [some 35, some 39, some 37, some 94, none, none, none, none, none]) ∧ kX 34 = (5, 0, 0) := ⟨by decide, rfl, rfl⟩
theorem q_35 : 35 < 111 ∧ sX 35 = .inl (9, [some 36, none]) ∧ kX 35 = (5, 0, 1) := ⟨by decide, rfl, rfl⟩
theorem q_36 : 36 < 111 ∧ sX 36 = .inr (.inl 8) ∧ kX 36 = (5, 0, 2) := ⟨by decide, rfl, rfl⟩
theorem q_37 : 37 < 111 ∧ sX 37 = .inl (7, [some 38, none, none, none, none, none, none]) ∧ kX 37 = (5, 0, 3) := ⟨by decide, rfl, rfl⟩
theorem q_38 : 38 < 111 ∧ sX 38 = .inr (.inl 60) ∧ kX 38 = (5, 0, 4) := ⟨by decide, rfl, rfl⟩
theorem q_39 : 39 < 111 ∧ sX 39 = .inr (.inr (3, 6, prO)) ∧ kX 39 = (5, 0, 5) := ⟨by decide, rfl, rfl⟩
theorem q_94 : 94 < 111 ∧ sX 94 = .inr (.inr (4, 8, frO)) ∧ kX 94 = (7, 0, 0) := ⟨by decide, rfl, rfl⟩
def bI (b : Prop) [Decidable b] : Int32 := if b then 1 else 0
theorem bI_t {b : Prop} [Decidable b] (h : b) : bI b = 1 := if_pos h
theorem bI_f {b : Prop} [Decidable b] (h : ¬ b) : bI b = 0 := if_neg h
/-- the class's world -/
abbrev wX (ad : Nat → Nat) (aC : Nat → ClassId) (x : tm_M) : Nat → va_E := tw ad aC sX kX x
/-- a contract of the class -/
abbrev OkX (l : Launch) (y : MethodName) (b : ByteArray) (mL : Nat) (ret : Option FieldType) (rm : Room) (D : va_G) (aC : Nat → ClassId) (ad : Nat → Nat) (av : List Value) (x : tm_M) (o : Option Value) (x' : tm_M) : Prop := Ok l y b mL ret rm D aC 111 ad av (wX ad aC x) o (wX ad aC x')
