def adh (b0 k : Nat) : Nat := if k < 111 then b0 + k else b0 + 141
def x0 : tm_M := (fun K j => if K = (5, 0, 1) then (if j = 1 then 1 else 0) else if K = (5, 0, 3) then (if j = 6 then -1 else 0) else 0, fun K => if K = (5, 0, 2) then upd (fun _ => 0) 0 (-1) else fun _ => 0)
def m0 : tm_M := (fun _ j => if j = 1 then 1 else 0, fun K => if K = (0, 0, 1) then upd (upd (upd (upd (upd (upd (upd (upd (fun _ => 0) 0 (-1)) 1 0) 2 0) 3 0) 4 0) 5 0) 6 0) 7 0 else if K = (0, 0, 28) then upd (upd (upd (upd (upd (upd (fun _ => 0) 0 0) 1 0) 2 0) 3 0) 4 0) 5 (-1) else fun _ => 0)
theorem xe_0 {aC : Nat → ClassId} {b0 : Nat} : c_Lp aC b0 0 = wX (adh b0) aC x0 0 := rfl
theorem xe_2 {aC : Nat → ClassId} {b0 : Nat} : c_Lp aC b0 2 = wX (adh b0) aC x0 2 := rfl
theorem xe_3 {aC : Nat → ClassId} {b0 : Nat} : c_Lp aC b0 3 = wX (adh b0) aC x0 3 := rfl
theorem xe_4 {aC : Nat → ClassId} {b0 : Nat} : c_Lp aC b0 4 = wX (adh b0) aC x0 4 := rfl
theorem xe_5 {aC : Nat → ClassId} {b0 : Nat} : c_Lp aC b0 5 = wX (adh b0) aC x0 5 := rfl
theorem xe_6 {aC : Nat → ClassId} {b0 : Nat} : c_Lp aC b0 6 = wX (adh b0) aC x0 6 := rfl
theorem xe_7 {aC : Nat → ClassId} {b0 : Nat} : c_Lp aC b0 7 = wX (adh b0) aC x0 7 := rfl
theorem xe_8 {aC : Nat → ClassId} {b0 : Nat} : c_Lp aC b0 8 = wX (adh b0) aC x0 8 := rfl
theorem xe_9 {aC : Nat → ClassId} {b0 : Nat} : c_Lp aC b0 9 = wX (adh b0) aC x0 9 := rfl
theorem xe_10 {aC : Nat → ClassId} {b0 : Nat} : c_Lp aC b0 10 = wX (adh b0) aC x0 10 := rfl
theorem xe_11 {aC : Nat → ClassId} {b0 : Nat} : c_Lp aC b0 11 = wX (adh b0) aC x0 11 := rfl
theorem xe_12 {aC : Nat → ClassId} {b0 : Nat} : c_Lp aC b0 12 = wX (adh b0) aC x0 12 := rfl
theorem xe_13 {aC : Nat → ClassId} {b0 : Nat} : c_Lp aC b0 13 = wX (adh b0) aC x0 13 := rfl
theorem xe_14 {aC : Nat → ClassId} {b0 : Nat} : c_Lp aC b0 14 = wX (adh b0) aC x0 14 := rfl
theorem xe_15 {aC : Nat → ClassId} {b0 : Nat} : c_Lp aC b0 15 = wX (adh b0) aC x0 15 := rfl
theorem xe_16 {aC : Nat → ClassId} {b0 : Nat} : c_Lp aC b0 16 = wX (adh b0) aC x0 16 := rfl
theorem xe_17 {aC : Nat → ClassId} {b0 : Nat} : c_Lp aC b0 17 = wX (adh b0) aC x0 17 := rfl
theorem xe_18 {aC : Nat → ClassId} {b0 : Nat} : c_Lp aC b0 18 = wX (adh b0) aC x0 18 := rfl
theorem xe_19 {aC : Nat → ClassId} {b0 : Nat} : c_Lp aC b0 19 = wX (adh b0) aC x0 19 := rfl
theorem xe_20 {aC : Nat → ClassId} {b0 : Nat} : c_Lp aC b0 20 = wX (adh b0) aC x0 20 := rfl
theorem xe_21 {aC : Nat → ClassId} {b0 : Nat} : c_Lp aC b0 21 = wX (adh b0) aC x0 21 := rfl
theorem xe_22 {aC : Nat → ClassId} {b0 : Nat} : c_Lp aC b0 22 = wX (adh b0) aC x0 22 := rfl
theorem xe_24 {aC : Nat → ClassId} {b0 : Nat} : c_Lp aC b0 24 = wX (adh b0) aC x0 24 := rfl
theorem xe_25 {aC : Nat → ClassId} {b0 : Nat} : c_Lp aC b0 25 = wX (adh b0) aC x0 25 := rfl
theorem xe_26 {aC : Nat → ClassId} {b0 : Nat} : c_Lp aC b0 26 = wX (adh b0) aC x0 26 := rfl
theorem xe_27 {aC : Nat → ClassId} {b0 : Nat} : c_Lp aC b0 27 = wX (adh b0) aC x0 27 := rfl
theorem xe_28 {aC : Nat → ClassId} {b0 : Nat} : c_Lp aC b0 28 = wX (adh b0) aC x0 28 := rfl
theorem xe_29 {aC : Nat → ClassId} {b0 : Nat} : c_Lp aC b0 29 = wX (adh b0) aC x0 29 := rfl
theorem xe_30 {aC : Nat → ClassId} {b0 : Nat} : c_Lp aC b0 30 = wX (adh b0) aC x0 30 := rfl
theorem xe_31 {aC : Nat → ClassId} {b0 : Nat} : c_Lp aC b0 31 = wX (adh b0) aC x0 31 := rfl
theorem xe_32 {aC : Nat → ClassId} {b0 : Nat} : c_Lp aC b0 32 = wX (adh b0) aC x0 32 := rfl
theorem xe_33 {aC : Nat → ClassId} {b0 : Nat} : c_Lp aC b0 33 = wX (adh b0) aC x0 33 := rfl
theorem xe_34 {aC : Nat → ClassId} {b0 : Nat} : c_Lp aC b0 34 = wX (adh b0) aC x0 34 := rfl
theorem xe_35 {aC : Nat → ClassId} {b0 : Nat} : c_Lp aC b0 35 = wX (adh b0) aC x0 35 := rfl
theorem xe_36 {aC : Nat → ClassId} {b0 : Nat} : c_Lp aC b0 36 = wX (adh b0) aC x0 36 := rfl
theorem xe_37 {aC : Nat → ClassId} {b0 : Nat} : c_Lp aC b0 37 = wX (adh b0) aC x0 37 := rfl
theorem xe_38 {aC : Nat → ClassId} {b0 : Nat} : c_Lp aC b0 38 = wX (adh b0) aC x0 38 := rfl
theorem xe_40 {aC : Nat → ClassId} {b0 : Nat} : c_Lp aC b0 40 = wX (adh b0) aC x0 40 := rfl
theorem xe_41 {aC : Nat → ClassId} {b0 : Nat} : c_Lp aC b0 41 = wX (adh b0) aC x0 41 := rfl
theorem xe_42 {aC : Nat → ClassId} {b0 : Nat} : c_Lp aC b0 42 = wX (adh b0) aC x0 42 := rfl
theorem xe_43 {aC : Nat → ClassId} {b0 : Nat} : c_Lp aC b0 43 = wX (adh b0) aC x0 43 := rfl
theorem xe_44 {aC : Nat → ClassId} {b0 : Nat} : c_Lp aC b0 44 = wX (adh b0) aC x0 44 := rfl
theorem xe_45 {aC : Nat → ClassId} {b0 : Nat} : c_Lp aC b0 45 = wX (adh b0) aC x0 45 := rfl
theorem xe_46 {aC : Nat → ClassId} {b0 : Nat} : c_Lp aC b0 46 = wX (adh b0) aC x0 46 := rfl
theorem xe_47 {aC : Nat → ClassId} {b0 : Nat} : c_Lp aC b0 47 = wX (adh b0) aC x0 47 := rfl
theorem xe_48 {aC : Nat → ClassId} {b0 : Nat} : c_Lp aC b0 48 = wX (adh b0) aC x0 48 := rfl
theorem xe_49 {aC : Nat → ClassId} {b0 : Nat} : c_Lp aC b0 49 = wX (adh b0) aC x0 49 := rfl
theorem xe_50 {aC : Nat → ClassId} {b0 : Nat} : c_Lp aC b0 50 = wX (adh b0) aC x0 50 := rfl
theorem xe_51 {aC : Nat → ClassId} {b0 : Nat} : c_Lp aC b0 51 = wX (adh b0) aC x0 51 := rfl
theorem xe_52 {aC : Nat → ClassId} {b0 : Nat} : c_Lp aC b0 52 = wX (adh b0) aC x0 52 := rfl
theorem xe_53 {aC : Nat → ClassId} {b0 : Nat} : c_Lp aC b0 53 = wX (adh b0) aC x0 53 := rfl
theorem xe_54 {aC : Nat → ClassId} {b0 : Nat} : c_Lp aC b0 54 = wX (adh b0) aC x0 54 := rfl
theorem xe_55 {aC : Nat → ClassId} {b0 : Nat} : c_Lp aC b0 55 = wX (adh b0) aC x0 55 := rfl
theorem xe_56 {aC : Nat → ClassId} {b0 : Nat} : c_Lp aC b0 56 = wX (adh b0) aC x0 56 := rfl
theorem xe_57 {aC : Nat → ClassId} {b0 : Nat} : c_Lp aC b0 57 = wX (adh b0) aC x0 57 := rfl
theorem xe_58 {aC : Nat → ClassId} {b0 : Nat} : c_Lp aC b0 58 = wX (adh b0) aC x0 58 := rfl
theorem xe_59 {aC : Nat → ClassId} {b0 : Nat} : c_Lp aC b0 59 = wX (adh b0) aC x0 59 := rfl
theorem xe_60 {aC : Nat → ClassId} {b0 : Nat} : c_Lp aC b0 60 = wX (adh b0) aC x0 60 := rfl
theorem xe_61 {aC : Nat → ClassId} {b0 : Nat} : c_Lp aC b0 61 = wX (adh b0) aC x0 61 := rfl
theorem xe_62 {aC : Nat → ClassId} {b0 : Nat} : c_Lp aC b0 62 = wX (adh b0) aC x0 62 := rfl
theorem xe_63 {aC : Nat → ClassId} {b0 : Nat} : c_Lp aC b0 63 = wX (adh b0) aC x0 63 := rfl
theorem xe_64 {aC : Nat → ClassId} {b0 : Nat} : c_Lp aC b0 64 = wX (adh b0) aC x0 64 := rfl
theorem xe_65 {aC : Nat → ClassId} {b0 : Nat} : c_Lp aC b0 65 = wX (adh b0) aC x0 65 := rfl
theorem xe_66 {aC : Nat → ClassId} {b0 : Nat} : c_Lp aC b0 66 = wX (adh b0) aC x0 66 := rfl
theorem xe_67 {aC : Nat → ClassId} {b0 : Nat} : c_Lp aC b0 67 = wX (adh b0) aC x0 67 := rfl
theorem xe_68 {aC : Nat → ClassId} {b0 : Nat} : c_Lp aC b0 68 = wX (adh b0) aC x0 68 := rfl
theorem xe_69 {aC : Nat → ClassId} {b0 : Nat} : c_Lp aC b0 69 = wX (adh b0) aC x0 69 := rfl
theorem xe_70 {aC : Nat → ClassId} {b0 : Nat} : c_Lp aC b0 70 = wX (adh b0) aC x0 70 := rfl
theorem xe_71 {aC : Nat → ClassId} {b0 : Nat} : c_Lp aC b0 71 = wX (adh b0) aC x0 71 := rfl
theorem xe_72 {aC : Nat → ClassId} {b0 : Nat} : c_Lp aC b0 72 = wX (adh b0) aC x0 72 := rfl
theorem xe_73 {aC : Nat → ClassId} {b0 : Nat} : c_Lp aC b0 73 = wX (adh b0) aC x0 73 := rfl
theorem xe_74 {aC : Nat → ClassId} {b0 : Nat} : c_Lp aC b0 74 = wX (adh b0) aC x0 74 := rfl
theorem xe_75 {aC : Nat → ClassId} {b0 : Nat} : c_Lp aC b0 75 = wX (adh b0) aC x0 75 := rfl
theorem xe_76 {aC : Nat → ClassId} {b0 : Nat} : c_Lp aC b0 76 = wX (adh b0) aC x0 76 := rfl
theorem xe_77 {aC : Nat → ClassId} {b0 : Nat} : c_Lp aC b0 77 = wX (adh b0) aC x0 77 := rfl
theorem xe_78 {aC : Nat → ClassId} {b0 : Nat} : c_Lp aC b0 78 = wX (adh b0) aC x0 78 := rfl
theorem xe_79 {aC : Nat → ClassId} {b0 : Nat} : c_Lp aC b0 79 = wX (adh b0) aC x0 79 := rfl
theorem xe_80 {aC : Nat → ClassId} {b0 : Nat} : c_Lp aC b0 80 = wX (adh b0) aC x0 80 := rfl
theorem xe_81 {aC : Nat → ClassId} {b0 : Nat} : c_Lp aC b0 81 = wX (adh b0) aC x0 81 := rfl
theorem xe_82 {aC : Nat → ClassId} {b0 : Nat} : c_Lp aC b0 82 = wX (adh b0) aC x0 82 := rfl
theorem xe_83 {aC : Nat → ClassId} {b0 : Nat} : c_Lp aC b0 83 = wX (adh b0) aC x0 83 := rfl
theorem xe_84 {aC : Nat → ClassId} {b0 : Nat} : c_Lp aC b0 84 = wX (adh b0) aC x0 84 := rfl
theorem xe_85 {aC : Nat → ClassId} {b0 : Nat} : c_Lp aC b0 85 = wX (adh b0) aC x0 85 := rfl
theorem xe_86 {aC : Nat → ClassId} {b0 : Nat} : c_Lp aC b0 86 = wX (adh b0) aC x0 86 := rfl
theorem xe_87 {aC : Nat → ClassId} {b0 : Nat} : c_Lp aC b0 87 = wX (adh b0) aC x0 87 := rfl
theorem xe_88 {aC : Nat → ClassId} {b0 : Nat} : c_Lp aC b0 88 = wX (adh b0) aC x0 88 := rfl
theorem xe_89 {aC : Nat → ClassId} {b0 : Nat} : c_Lp aC b0 89 = wX (adh b0) aC x0 89 := rfl
theorem xe_90 {aC : Nat → ClassId} {b0 : Nat} : c_Lp aC b0 90 = wX (adh b0) aC x0 90 := rfl
theorem xe_91 {aC : Nat → ClassId} {b0 : Nat} : c_Lp aC b0 91 = wX (adh b0) aC x0 91 := rfl
theorem xe_92 {aC : Nat → ClassId} {b0 : Nat} : c_Lp aC b0 92 = wX (adh b0) aC x0 92 := rfl
theorem xe_93 {aC : Nat → ClassId} {b0 : Nat} : c_Lp aC b0 93 = wX (adh b0) aC x0 93 := rfl
theorem xe_95 {aC : Nat → ClassId} {b0 : Nat} : c_Lp aC b0 95 = wX (adh b0) aC x0 95 := rfl
theorem xe_96 {aC : Nat → ClassId} {b0 : Nat} : c_Lp aC b0 96 = wX (adh b0) aC x0 96 := rfl
theorem xe_97 {aC : Nat → ClassId} {b0 : Nat} : c_Lp aC b0 97 = wX (adh b0) aC x0 97 := rfl
theorem xe_98 {aC : Nat → ClassId} {b0 : Nat} : c_Lp aC b0 98 = wX (adh b0) aC x0 98 := rfl
theorem xe_99 {aC : Nat → ClassId} {b0 : Nat} : c_Lp aC b0 99 = wX (adh b0) aC x0 99 := rfl
theorem xe_100 {aC : Nat → ClassId} {b0 : Nat} : c_Lp aC b0 100 = wX (adh b0) aC x0 100 := rfl
theorem xe_101 {aC : Nat → ClassId} {b0 : Nat} : c_Lp aC b0 101 = wX (adh b0) aC x0 101 := rfl
theorem xe_102 {aC : Nat → ClassId} {b0 : Nat} : c_Lp aC b0 102 = wX (adh b0) aC x0 102 := rfl
theorem xe_103 {aC : Nat → ClassId} {b0 : Nat} : c_Lp aC b0 103 = wX (adh b0) aC x0 103 := rfl
theorem xe_104 {aC : Nat → ClassId} {b0 : Nat} : c_Lp aC b0 104 = wX (adh b0) aC x0 104 := rfl
theorem xe_105 {aC : Nat → ClassId} {b0 : Nat} : c_Lp aC b0 105 = wX (adh b0) aC x0 105 := rfl
theorem xe_106 {aC : Nat → ClassId} {b0 : Nat} : c_Lp aC b0 106 = wX (adh b0) aC x0 106 := rfl
theorem xe_107 {aC : Nat → ClassId} {b0 : Nat} : c_Lp aC b0 107 = wX (adh b0) aC x0 107 := rfl
theorem xe_108 {aC : Nat → ClassId} {b0 : Nat} : c_Lp aC b0 108 = wX (adh b0) aC x0 108 := rfl
theorem xe_109 {aC : Nat → ClassId} {b0 : Nat} : c_Lp aC b0 109 = wX (adh b0) aC x0 109 := rfl
theorem xe_110 {aC : Nat → ClassId} {b0 : Nat} : c_Lp aC b0 110 = wX (adh b0) aC x0 110 := rfl
theorem me_0 {aC : Nat → ClassId} {b1 : Nat} : c_Mo aC b1 0 = wM (fun j => b1 + j) aC m0 0 := rfl
theorem me_1 {aC : Nat → ClassId} {b1 : Nat} : c_Mo aC b1 1 = wM (fun j => b1 + j) aC m0 1 := rfl
theorem me_2 {aC : Nat → ClassId} {b1 : Nat} : c_Mo aC b1 2 = wM (fun j => b1 + j) aC m0 2 := rfl
theorem me_3 {aC : Nat → ClassId} {b1 : Nat} : c_Mo aC b1 3 = wM (fun j => b1 + j) aC m0 3 := rfl
theorem me_4 {aC : Nat → ClassId} {b1 : Nat} : c_Mo aC b1 4 = wM (fun j => b1 + j) aC m0 4 := rfl
theorem me_5 {aC : Nat → ClassId} {b1 : Nat} : c_Mo aC b1 5 = wM (fun j => b1 + j) aC m0 5 := rfl
theorem me_6 {aC : Nat → ClassId} {b1 : Nat} : c_Mo aC b1 6 = wM (fun j => b1 + j) aC m0 6 := rfl
theorem me_7 {aC : Nat → ClassId} {b1 : Nat} : c_Mo aC b1 7 = wM (fun j => b1 + j) aC m0 7 := rfl
theorem me_8 {aC : Nat → ClassId} {b1 : Nat} : c_Mo aC b1 8 = wM (fun j => b1 + j) aC m0 8 := rfl
theorem me_9 {aC : Nat → ClassId} {b1 : Nat} : c_Mo aC b1 9 = wM (fun j => b1 + j) aC m0 9 := rfl
theorem me_10 {aC : Nat → ClassId} {b1 : Nat} : c_Mo aC b1 10 = wM (fun j => b1 + j) aC m0 10 := rfl
theorem me_11 {aC : Nat → ClassId} {b1 : Nat} : c_Mo aC b1 11 = wM (fun j => b1 + j) aC m0 11 := rfl
theorem me_12 {aC : Nat → ClassId} {b1 : Nat} : c_Mo aC b1 12 = wM (fun j => b1 + j) aC m0 12 := rfl
theorem me_13 {aC : Nat → ClassId} {b1 : Nat} : c_Mo aC b1 13 = wM (fun j => b1 + j) aC m0 13 := rfl
theorem me_14 {aC : Nat → ClassId} {b1 : Nat} : c_Mo aC b1 14 = wM (fun j => b1 + j) aC m0 14 := rfl
theorem me_15 {aC : Nat → ClassId} {b1 : Nat} : c_Mo aC b1 15 = wM (fun j => b1 + j) aC m0 15 := rfl
theorem me_16 {aC : Nat → ClassId} {b1 : Nat} : c_Mo aC b1 16 = wM (fun j => b1 + j) aC m0 16 := rfl
theorem me_17 {aC : Nat → ClassId} {b1 : Nat} : c_Mo aC b1 17 = wM (fun j => b1 + j) aC m0 17 := rfl
theorem me_18 {aC : Nat → ClassId} {b1 : Nat} : c_Mo aC b1 18 = wM (fun j => b1 + j) aC m0 18 := rfl
theorem me_19 {aC : Nat → ClassId} {b1 : Nat} : c_Mo aC b1 19 = wM (fun j => b1 + j) aC m0 19 := rfl
theorem me_20 {aC : Nat → ClassId} {b1 : Nat} : c_Mo aC b1 20 = wM (fun j => b1 + j) aC m0 20 := rfl
theorem me_21 {aC : Nat → ClassId} {b1 : Nat} : c_Mo aC b1 21 = wM (fun j => b1 + j) aC m0 21 := rfl
theorem me_22 {aC : Nat → ClassId} {b1 : Nat} : c_Mo aC b1 22 = wM (fun j => b1 + j) aC m0 22 := rfl
theorem me_23 {aC : Nat → ClassId} {b1 : Nat} : c_Mo aC b1 23 = wM (fun j => b1 + j) aC m0 23 := rfl
theorem me_24 {aC : Nat → ClassId} {b1 : Nat} : c_Mo aC b1 24 = wM (fun j => b1 + j) aC m0 24 := rfl
theorem me_25 {aC : Nat → ClassId} {b1 : Nat} : c_Mo aC b1 25 = wM (fun j => b1 + j) aC m0 25 := rfl
theorem me_26 {aC : Nat → ClassId} {b1 : Nat} : c_Mo aC b1 26 = wM (fun j => b1 + j) aC m0 26 := rfl
theorem me_27 {aC : Nat → ClassId} {b1 : Nat} : c_Mo aC b1 27 = wM (fun j => b1 + j) aC m0 27 := rfl
theorem me_28 {aC : Nat → ClassId} {b1 : Nat} : c_Mo aC b1 28 = wM (fun j => b1 + j) aC m0 28 := rfl
theorem me_29 {aC : Nat → ClassId} {b1 : Nat} : c_Mo aC b1 29 = wM (fun j => b1 + j) aC m0 29 := rfl
theorem xq_1 {aC : Nat → ClassId} {b0 : Nat} : eqE (c_Lp aC b0 1) (wX (adh b0) aC x0 1) := by
  refine Or.inr ⟨aC 1, 6, fAr (b0 + 2) 3 6, fun i => some (adh b0 (txO i)), rfl, rfl, fun j hj => ?_⟩
  unfold fAr adh txO
  rw [if_pos hj]
  simp only
  rw [if_pos (by omega)]
  congr 1
  omega
theorem xq_23 {aC : Nat → ClassId} {b0 : Nat} : eqE (c_Lp aC b0 23) (wX (adh b0) aC x0 23) := by
  refine Or.inr ⟨aC 2, 5, fAr (b0 + 22 + 2) 2 5, fun i => some (adh b0 (blO i)), rfl, rfl, fun j hj => ?_⟩
  unfold fAr adh blO
  rw [if_pos hj]
  simp only
  rw [if_pos (by omega)]
  congr 1
  omega
theorem xq_39 {aC : Nat → ClassId} {b0 : Nat} : eqE (c_Lp aC b0 39) (wX (adh b0) aC x0 39) := by
  refine Or.inr ⟨aC 3, 6, fAr (b0 + 34 + 6) 9 6, fun i => some (adh b0 (prO i)), rfl, rfl, fun j hj => ?_⟩
  unfold fAr adh prO
  rw [if_pos hj]
  simp only
  rw [if_pos (by omega)]
  congr 1
  omega
theorem xq_94 {aC : Nat → ClassId} {b0 : Nat} : eqE (c_Lp aC b0 94) (wX (adh b0) aC x0 94) := by
  refine Or.inr ⟨aC 4, 8, fAr (b0 + 34 + 61) 2 8, fun i => some (adh b0 (frO i)), rfl, rfl, fun j hj => ?_⟩
  unfold fAr adh frO
  rw [if_pos hj]
  simp only
  rw [if_pos (by omega)]
  congr 1
  omega
theorem xe_all {aC : Nat → ClassId} {b0 : Nat} : ∀ k, k < 111 → eqE (c_Lp aC b0 k) (wX (adh b0) aC x0 k) := by
  intro k hk
  match k, hk with
  | 0, _ => exact Or.inl xe_0
  | 1, _ => exact xq_1
  | 2, _ => exact Or.inl xe_2
  | 3, _ => exact Or.inl xe_3
  | 4, _ => exact Or.inl xe_4
  | 5, _ => exact Or.inl xe_5
  | 6, _ => exact Or.inl xe_6
  | 7, _ => exact Or.inl xe_7
  | 8, _ => exact Or.inl xe_8
  | 9, _ => exact Or.inl xe_9
  | 10, _ => exact Or.inl xe_10
  | 11, _ => exact Or.inl xe_11
  | 12, _ => exact Or.inl xe_12
  | 13, _ => exact Or.inl xe_13
  | 14, _ => exact Or.inl xe_14
  | 15, _ => exact Or.inl xe_15
  | 16, _ => exact Or.inl xe_16
  | 17, _ => exact Or.inl xe_17
  | 18, _ => exact Or.inl xe_18
  | 19, _ => exact Or.inl xe_19
  | 20, _ => exact Or.inl xe_20
  | 21, _ => exact Or.inl xe_21
  | 22, _ => exact Or.inl xe_22
  | 23, _ => exact xq_23
  | 24, _ => exact Or.inl xe_24
  | 25, _ => exact Or.inl xe_25
  | 26, _ => exact Or.inl xe_26
  | 27, _ => exact Or.inl xe_27
  | 28, _ => exact Or.inl xe_28
  | 29, _ => exact Or.inl xe_29
  | 30, _ => exact Or.inl xe_30
  | 31, _ => exact Or.inl xe_31
  | 32, _ => exact Or.inl xe_32
  | 33, _ => exact Or.inl xe_33
  | 34, _ => exact Or.inl xe_34
  | 35, _ => exact Or.inl xe_35
  | 36, _ => exact Or.inl xe_36
  | 37, _ => exact Or.inl xe_37
  | 38, _ => exact Or.inl xe_38
  | 39, _ => exact xq_39
  | 40, _ => exact Or.inl xe_40
  | 41, _ => exact Or.inl xe_41
  | 42, _ => exact Or.inl xe_42
  | 43, _ => exact Or.inl xe_43
  | 44, _ => exact Or.inl xe_44
  | 45, _ => exact Or.inl xe_45
  | 46, _ => exact Or.inl xe_46
  | 47, _ => exact Or.inl xe_47
  | 48, _ => exact Or.inl xe_48
  | 49, _ => exact Or.inl xe_49
  | 50, _ => exact Or.inl xe_50
  | 51, _ => exact Or.inl xe_51
  | 52, _ => exact Or.inl xe_52
  | 53, _ => exact Or.inl xe_53
  | 54, _ => exact Or.inl xe_54
  | 55, _ => exact Or.inl xe_55
  | 56, _ => exact Or.inl xe_56
  | 57, _ => exact Or.inl xe_57
  | 58, _ => exact Or.inl xe_58
  | 59, _ => exact Or.inl xe_59
  | 60, _ => exact Or.inl xe_60
  | 61, _ => exact Or.inl xe_61
  | 62, _ => exact Or.inl xe_62
  | 63, _ => exact Or.inl xe_63
  | 64, _ => exact Or.inl xe_64
  | 65, _ => exact Or.inl xe_65
  | 66, _ => exact Or.inl xe_66
  | 67, _ => exact Or.inl xe_67
  | 68, _ => exact Or.inl xe_68
  | 69, _ => exact Or.inl xe_69
  | 70, _ => exact Or.inl xe_70
  | 71, _ => exact Or.inl xe_71
  | 72, _ => exact Or.inl xe_72
  | 73, _ => exact Or.inl xe_73
  | 74, _ => exact Or.inl xe_74
  | 75, _ => exact Or.inl xe_75
  | 76, _ => exact Or.inl xe_76
  | 77, _ => exact Or.inl xe_77
  | 78, _ => exact Or.inl xe_78
  | 79, _ => exact Or.inl xe_79
  | 80, _ => exact Or.inl xe_80
  | 81, _ => exact Or.inl xe_81
  | 82, _ => exact Or.inl xe_82
  | 83, _ => exact Or.inl xe_83
  | 84, _ => exact Or.inl xe_84
  | 85, _ => exact Or.inl xe_85
  | 86, _ => exact Or.inl xe_86
  | 87, _ => exact Or.inl xe_87
  | 88, _ => exact Or.inl xe_88
  | 89, _ => exact Or.inl xe_89
  | 90, _ => exact Or.inl xe_90
  | 91, _ => exact Or.inl xe_91
  | 92, _ => exact Or.inl xe_92
  | 93, _ => exact Or.inl xe_93
  | 94, _ => exact xq_94
  | 95, _ => exact Or.inl xe_95
  | 96, _ => exact Or.inl xe_96
  | 97, _ => exact Or.inl xe_97
  | 98, _ => exact Or.inl xe_98
  | 99, _ => exact Or.inl xe_99
  | 100, _ => exact Or.inl xe_100
  | 101, _ => exact Or.inl xe_101
  | 102, _ => exact Or.inl xe_102
  | 103, _ => exact Or.inl xe_103
  | 104, _ => exact Or.inl xe_104
  | 105, _ => exact Or.inl xe_105
  | 106, _ => exact Or.inl xe_106
  | 107, _ => exact Or.inl xe_107
  | 108, _ => exact Or.inl xe_108
  | 109, _ => exact Or.inl xe_109
  | 110, _ => exact Or.inl xe_110
  | k + 111, h => exact absurd h (by omega)
theorem me_all {aC : Nat → ClassId} {b1 : Nat} : ∀ k, k < 30 → c_Mo aC b1 k = wM (fun j => b1 + j) aC m0 k := by
  intro k hk
  match k, hk with
  | 0, _ => exact me_0
  | 1, _ => exact me_1
  | 2, _ => exact me_2
  | 3, _ => exact me_3
  | 4, _ => exact me_4
  | 5, _ => exact me_5
  | 6, _ => exact me_6
  | 7, _ => exact me_7
  | 8, _ => exact me_8
  | 9, _ => exact me_9
  | 10, _ => exact me_10
  | 11, _ => exact me_11
  | 12, _ => exact me_12
  | 13, _ => exact me_13
  | 14, _ => exact me_14
  | 15, _ => exact me_15
  | 16, _ => exact me_16
  | 17, _ => exact me_17
  | 18, _ => exact me_18
  | 19, _ => exact me_19
  | 20, _ => exact me_20
  | 21, _ => exact me_21
  | 22, _ => exact me_22
  | 23, _ => exact me_23
  | 24, _ => exact me_24
  | 25, _ => exact me_25
  | 26, _ => exact me_26
  | 27, _ => exact me_27
  | 28, _ => exact me_28
  | 29, _ => exact me_29
  | k + 30, h => exact absurd h (by omega)
def WL (b0 : Nat) (aC : Nat → ClassId) (x m : tm_M) (f : Nat → Int64) : Nat → va_E := fun k => if k < 111 then wX (adh b0) aC x k else if k < 141 then wM (fun j => b0 + 111 + j) aC m (k - 111) else oL aC f
theorem WL_start {aC : Nat → ClassId} {b0 : Nat} {w0 : Nat → va_E} : ∀ k, k < 142 → eqE (va_up (ap 111 (ap 0 w0 (c_Lp aC (b0 + 0))) (c_Mo aC (b0 + 111))) 141 (.inl (aC 5, 1, .inr (.inl (fun _ => 0)))) k) (WL b0 aC x0 m0 (fun _ => 0) k) := by
  intro k hk
  unfold va_up WL
  by_cases h1 : k = 141
  · rw [if_pos h1, if_neg (by omega), if_neg (by omega)]
    exact Or.inl rfl
  · rw [if_neg h1]
    by_cases h2 : k < 111
    · rw [if_pos h2, ap_lt h2, ap_ge (Nat.zero_le _)]
      exact xe_all k h2
    · rw [if_neg h2, if_pos (by omega), ap_ge (by omega)]
      exact Or.inl (me_all (k - 111) (by omega))
theorem Rel_0 : Rel x0 m0 := by
  refine ⟨1, fun _ => 0, fun _ => 0, fun _ _ => 0, fun _ _ => 0, fun _ f _ => if f = 6 then 1000 else 0, 0, ⟨by omega, by omega, rfl, rfl⟩, fun k hk => ?_, fun f hf => ⟨⟨?_, fun k hk => absurd hk (Nat.not_lt_zero _)⟩, ⟨?_, fun k hk => absurd hk (Nat.not_lt_zero _)⟩, ?_⟩, fun f hf => ⟨?_, ?_, ?_, ?_⟩, by omega, rfl, rfl, fun k hk => absurd hk (Nat.not_lt_zero _), fun j h1 h2 => ?_⟩
  · obtain rfl : k = 0 := by omega
    exact ⟨Nat.le_refl _, rfl, rfl⟩
  · show x0.1 (1, f, 0) 2 = nI 0
    unfold x0
    simp
    rfl
  · show m0.2 (0, 0, 2) f = nI 0
    unfold m0
    simp
    rfl
  · exact ⟨Nat.zero_le _, fun k hk => absurd hk (Nat.not_lt_zero _), fun k hk => absurd hk (Nat.not_lt_zero _), fun k hk => absurd hk (Nat.not_lt_zero _), fun k hk => absurd hk (Nat.not_lt_zero _), fun k h => by simp at h⟩
  · refine ⟨?_, ?_, ?_, fun k hk => by simp at hk, fun k hk => by simp at hk, fun k hk => by simp at hk⟩ <;> (unfold x0; simp; rfl)
  · refine ⟨?_, ?_, fun k hk => by simp at hk, fun k hk => by simp at hk⟩ <;> (unfold m0; simp; rfl)
  · refine ⟨?_, fun k hk => by simp at hk⟩
    unfold m0; simp; rfl
  · refine ⟨by simp, by simp, by simp, fun k hk => by simp at hk, fun k hk => by simp at hk, ⟨fun k hk => by simp at hk, fun k hk => by simp at hk, fun k hk => by simp at hk⟩, fun h => by simp at h, by simp, fun k hk => by simp at hk⟩
  · have : j = 1 ∨ j = 2 ∨ j = 3 ∨ j = 4 ∨ j = 5 := by omega
    rcases this with h | h | h | h | h <;> (subst h; rfl)
def sgh (k : Nat) : Nat := if k < 111 then k else 141
theorem sub_h {b0 : Nat} : SubW 142 112 (fun k => b0 + k) (adh b0) sgh := by
  intro k hk
  unfold sgh adh
  by_cases h : k < 111
  · rw [if_pos h, if_pos h]; exact ⟨by omega, rfl⟩
  · rw [if_neg h, if_neg h]; exact ⟨by omega, rfl⟩
theorem inj_h : ∀ i j, i < 112 → j < 112 → sgh i = sgh j → i = j := by
  intro i j hi hj h
  unfold sgh at h
  split at h <;> split at h <;> omega
theorem sub_m {b0 : Nat} : SubW 142 30 (fun k => b0 + k) (fun j => b0 + 111 + j) (fun k => 111 + k) := by
  intro k hk
  exact ⟨by show 111 + k < 142; omega, by show b0 + 111 + k = b0 + (111 + k); omega⟩
theorem inj_m : ∀ i j, i < 30 → j < 30 → 111 + i = 111 + j → i = j := fun i j _ _ h => by omega
theorem see_h {b0 : Nat} {aC : Nat → ClassId} {x m : tm_M} {f : Nat → Int64} : ∀ k, k < 112 → WL b0 aC x m f (sgh k) = wL (adh b0) aC x f k := by
  intro k hk
  unfold WL sgh wL
  by_cases h : k < 111
  · rw [if_pos h, if_pos h, if_pos h]
  · rw [if_neg h, if_neg (by omega), if_neg (by omega), if_neg h, if_pos (by omega)]
theorem put_h {b0 : Nat} {aC : Nat → ClassId} {x x' m : tm_M} {f f' : Nat → Int64} : PutW 142 112 sgh (WL b0 aC x m f) (WL b0 aC x' m f') (wL (adh b0) aC x' f') := by
  refine ⟨see_h, fun i hi h => ?_⟩
  have h1 : ¬ i < 111 := fun z => h i (by omega) (by unfold sgh; rw [if_pos z])
  have h2 : i < 141 := by
    rcases Nat.lt_or_ge i 141 with z | z
    · exact z
    · exact absurd (show i = sgh 111 by unfold sgh; rw [if_neg (by omega)]; omega) (h 111 (by omega))
  unfold WL
  rw [if_neg h1, if_neg h1, if_pos h2, if_pos h2]
theorem see_m {b0 : Nat} {aC : Nat → ClassId} {x m : tm_M} {f : Nat → Int64} : ∀ k, k < 30 → WL b0 aC x m f (111 + k) = wM (fun j => b0 + 111 + j) aC m k := by
  intro k hk
  unfold WL
  rw [if_neg (by omega), if_pos (by omega), show 111 + k - 111 = k by omega]
theorem put_m {b0 : Nat} {aC : Nat → ClassId} {x m m' : tm_M} {f : Nat → Int64} : PutW 142 30 (fun k => 111 + k) (WL b0 aC x m f) (WL b0 aC x m' f) (wM (fun j => b0 + 111 + j) aC m') := by
  refine ⟨see_m, fun i hi h => ?_⟩
  unfold WL
  by_cases h1 : i < 111
  · rw [if_pos h1, if_pos h1]
  · rw [if_neg h1, if_neg h1]
    by_cases h2 : i < 141
    · exact absurd (show i = 111 + (i - 111) by omega) (h (i - 111) (by omega))
    · rw [if_neg h2, if_neg h2]
theorem WL_o {b0 : Nat} {aC : Nat → ClassId} {x m : tm_M} {f : Nat → Int64} : WL b0 aC x m f 141 = .inl (aC 5, 1, .inr (.inl f)) := rfl
theorem fo_0 {r : Int32} {f : Nat → Int64} : fo 0 r f 0 = r.toInt64 := by
  unfold fo vp_updL
  simp
