/-! THE REFERENCE'S CELLS: the object, its 29 arrays: 1 parent, 2 texts, 3 statement, 4 number, 5 codes, 6 letter, 7 operand, 8 headOf, 9 actions, 10 filter, 11 landing, 12 next, 13 sites, 14 siteFirst, 15 siteLast, 16 siteHead, 17 rowKind, 18 rowHead, 19 around, 20 nextCatch, 21 ending, 22 rowNumber, 23 function, 24 at, 25 place, 26 caughts, 27 caught, 28 counts, 29 outs -/
def lenM : List Nat := [8, 6, 120, 120, 6, 768, 768, 768, 6, 288, 288, 288, 6, 384, 384, 384, 7, 7, 7, 7, 7, 7, 8, 8, 8, 8, 192, 6, 60]
def sM (k : Nat) : tm_Sh := if k = 0 then .inl (10, [none, none, some 1, some 2, some 3, some 4, some 5, some 6, some 7, some 8, some 9, some 10, some 11, some 12, some 13, some 14, some 15, some 16, none, some 17, some 18, some 19, some 20, some 21, some 22, none, some 23, some 24, some 25, some 26, some 27, none, none, none, none, none, some 28, some 29]) else .inr (.inl (lenM.getD (k - 1) 0))
def kM (k : Nat) : tm_K := (0, 0, k)
theorem kM_inj : ∀ a b, kM a = kM b → a = b := fun a b h => by simpa [kM] using h
abbrev wM (ad : Nat → Nat) (aC : Nat → ClassId) (x : tm_M) : Nat → va_E := tw ad aC sM kM x
/-- a contract of the reference -/
abbrev OkM (l : Launch) (y : MethodName) (b : ByteArray) (mL : Nat) (ret : Option FieldType) (rm : Room) (D : va_G) (aC : Nat → ClassId) (ad : Nat → Nat) (av : List Value) (x : tm_M) (o : Option Value) (x' : tm_M) : Prop := Ok l y b mL ret rm D aC 30 ad av (wM ad aC x) o (wM ad aC x')
theorem m_0 : 0 < 30 ∧ sM 0 = .inl (10, [none, none, some 1, some 2, some 3, some 4, some 5, some 6, some 7, some 8, some 9, some 10, some 11, some 12, some 13, some 14, some 15, some 16, none, some 17, some 18, some 19, some 20, some 21, some 22, none, some 23, some 24, some 25, some 26, some 27, none, none, none, none, none, some 28, some 29]) ∧ kM 0 = (0, 0, 0) := ⟨by decide, rfl, rfl⟩
theorem m_1 : 1 < 30 ∧ sM 1 = .inr (.inl 8) ∧ kM 1 = (0, 0, 1) := ⟨by decide, rfl, rfl⟩
theorem m_2 : 2 < 30 ∧ sM 2 = .inr (.inl 6) ∧ kM 2 = (0, 0, 2) := ⟨by decide, rfl, rfl⟩
theorem m_3 : 3 < 30 ∧ sM 3 = .inr (.inl 120) ∧ kM 3 = (0, 0, 3) := ⟨by decide, rfl, rfl⟩
theorem m_4 : 4 < 30 ∧ sM 4 = .inr (.inl 120) ∧ kM 4 = (0, 0, 4) := ⟨by decide, rfl, rfl⟩
theorem m_5 : 5 < 30 ∧ sM 5 = .inr (.inl 6) ∧ kM 5 = (0, 0, 5) := ⟨by decide, rfl, rfl⟩
theorem m_6 : 6 < 30 ∧ sM 6 = .inr (.inl 768) ∧ kM 6 = (0, 0, 6) := ⟨by decide, rfl, rfl⟩
theorem m_7 : 7 < 30 ∧ sM 7 = .inr (.inl 768) ∧ kM 7 = (0, 0, 7) := ⟨by decide, rfl, rfl⟩
theorem m_8 : 8 < 30 ∧ sM 8 = .inr (.inl 768) ∧ kM 8 = (0, 0, 8) := ⟨by decide, rfl, rfl⟩
theorem m_9 : 9 < 30 ∧ sM 9 = .inr (.inl 6) ∧ kM 9 = (0, 0, 9) := ⟨by decide, rfl, rfl⟩
theorem m_10 : 10 < 30 ∧ sM 10 = .inr (.inl 288) ∧ kM 10 = (0, 0, 10) := ⟨by decide, rfl, rfl⟩
theorem m_11 : 11 < 30 ∧ sM 11 = .inr (.inl 288) ∧ kM 11 = (0, 0, 11) := ⟨by decide, rfl, rfl⟩
theorem m_12 : 12 < 30 ∧ sM 12 = .inr (.inl 288) ∧ kM 12 = (0, 0, 12) := ⟨by decide, rfl, rfl⟩
theorem m_13 : 13 < 30 ∧ sM 13 = .inr (.inl 6) ∧ kM 13 = (0, 0, 13) := ⟨by decide, rfl, rfl⟩
theorem m_14 : 14 < 30 ∧ sM 14 = .inr (.inl 384) ∧ kM 14 = (0, 0, 14) := ⟨by decide, rfl, rfl⟩
theorem m_15 : 15 < 30 ∧ sM 15 = .inr (.inl 384) ∧ kM 15 = (0, 0, 15) := ⟨by decide, rfl, rfl⟩
theorem m_16 : 16 < 30 ∧ sM 16 = .inr (.inl 384) ∧ kM 16 = (0, 0, 16) := ⟨by decide, rfl, rfl⟩
theorem m_17 : 17 < 30 ∧ sM 17 = .inr (.inl 7) ∧ kM 17 = (0, 0, 17) := ⟨by decide, rfl, rfl⟩
theorem m_18 : 18 < 30 ∧ sM 18 = .inr (.inl 7) ∧ kM 18 = (0, 0, 18) := ⟨by decide, rfl, rfl⟩
theorem m_19 : 19 < 30 ∧ sM 19 = .inr (.inl 7) ∧ kM 19 = (0, 0, 19) := ⟨by decide, rfl, rfl⟩
theorem m_20 : 20 < 30 ∧ sM 20 = .inr (.inl 7) ∧ kM 20 = (0, 0, 20) := ⟨by decide, rfl, rfl⟩
theorem m_21 : 21 < 30 ∧ sM 21 = .inr (.inl 7) ∧ kM 21 = (0, 0, 21) := ⟨by decide, rfl, rfl⟩
theorem m_22 : 22 < 30 ∧ sM 22 = .inr (.inl 7) ∧ kM 22 = (0, 0, 22) := ⟨by decide, rfl, rfl⟩
theorem m_23 : 23 < 30 ∧ sM 23 = .inr (.inl 8) ∧ kM 23 = (0, 0, 23) := ⟨by decide, rfl, rfl⟩
theorem m_24 : 24 < 30 ∧ sM 24 = .inr (.inl 8) ∧ kM 24 = (0, 0, 24) := ⟨by decide, rfl, rfl⟩
theorem m_25 : 25 < 30 ∧ sM 25 = .inr (.inl 8) ∧ kM 25 = (0, 0, 25) := ⟨by decide, rfl, rfl⟩
theorem m_26 : 26 < 30 ∧ sM 26 = .inr (.inl 8) ∧ kM 26 = (0, 0, 26) := ⟨by decide, rfl, rfl⟩
theorem m_27 : 27 < 30 ∧ sM 27 = .inr (.inl 192) ∧ kM 27 = (0, 0, 27) := ⟨by decide, rfl, rfl⟩
theorem m_28 : 28 < 30 ∧ sM 28 = .inr (.inl 6) ∧ kM 28 = (0, 0, 28) := ⟨by decide, rfl, rfl⟩
theorem m_29 : 29 < 30 ∧ sM 29 = .inr (.inl 60) ∧ kM 29 = (0, 0, 29) := ⟨by decide, rfl, rfl⟩
set_option maxRecDepth 100000 in
theorem ok_Mo_thrown {l : Launch} {D : va_G} {aC : Nat → ClassId} {ad : Nat → Nat} (x : tm_M) :
    OkM l y_Mo_thrown b_Mo_thrown 1 (some .int) (rom 0 0) D aC ad [.ref (ad 0)] x (some (.int (x.1 (0, 0, 0) 0))) x := by
  refine ok_start (by decide) (Nat.le_of_ble_eq_true rfl) rfl ?_
  intro p e s m args below meth c B hr hlk hml
  have B : Cx p s m c args b_Mo_thrown R_Mo D aC (rg 30 ad) 30 ad := B
  refine j_aloadn B d_Mo_thrown_0 rfl ?_
  refine j_geti B fl_Mo_101 (m_0) rfl d_Mo_thrown_1 ?_
  exact j_iret B hr hlk d_Mo_thrown_4 (rfl) (rfl)
def fv (b1 b2 : Int32) : Int32 := if b1 = 0 then (if b2 = 0 then 0 else 2) else 1
set_option maxRecDepth 100000 in
theorem ok_Mo_fails {l : Launch} {D : va_G} {aC : Nat → ClassId} {ad : Nat → Nat} (x : tm_M) (u v : Int32) :
    OkM l y_Mo_fails b_Mo_fails 3 (some .boolean) (rom 0 0) D aC ad [.ref (ad 0), .int u, .int v] x (some (.int (bI (0 < fv u v)))) (sI x (0, 0, 0) 0 (fv u v)) := by
  refine ok_start (by decide) (Nat.le_of_ble_eq_true rfl) rfl ?_
  intro p e s m args below meth c B hr hlk hml
  have B : Cx p s m c args b_Mo_fails R_Mo D aC (rg 30 ad) 30 ad := B
  refine j_aloadn B d_Mo_fails_0 rfl ?_
  refine j_iloadn B d_Mo_fails_1 rfl ?_
  refine j_if_eq (tgt := 9) B d_Mo_fails_2 (by decide) (fun h2 => ?_) (fun h2 => ?_)
  · -- yes
    refine j_iloadn B d_Mo_fails_9 rfl ?_
    refine j_if_eq (tgt := 17) B d_Mo_fails_10 (by decide) (fun h10 => ?_) (fun h10 => ?_)
    · -- yes
      refine j_iconst (v := 0) B d_Mo_fails_17 (by decide) ?_
      refine j_topi (fv u v) (by unfold fv; first | (rw [if_neg h2]) | (rw [if_pos h2, if_neg h10]) | (rw [if_pos h2, if_pos h10])) ?_
      refine j_puti B kM_inj fs_Mo_101 (m_0) rfl d_Mo_fails_18 ?_
      refine j_aloadn B d_Mo_fails_21 rfl ?_
      refine j_geti B fl_Mo_101 (m_0) rfl d_Mo_fails_22 ?_
      refine j_topi (fv u v) rI ?_
      refine j_if_le (tgt := 32) B d_Mo_fails_25 (by decide) (fun h25 => ?_) (fun h25 => ?_)
      · -- yes
        refine j_iconst (v := 0) B d_Mo_fails_32 (by decide) ?_
        exact j_zret B hr hlk d_Mo_fails_33 (by first | exact Or.inl rfl | exact Or.inr rfl) (by first | exact sv (bI_f (Int32.not_lt.mpr h25)) | exact sv (bI_t (Int32.not_le.mp h25))) (rfl)
      · -- no
        refine j_iconst (v := 1) B d_Mo_fails_28 (by decide) ?_
        refine j_goto (tgt := 33) B d_Mo_fails_29 (by decide) ?_
        exact j_zret B hr hlk d_Mo_fails_33 (by first | exact Or.inl rfl | exact Or.inr rfl) (by first | exact sv (bI_f (Int32.not_lt.mpr h25)) | exact sv (bI_t (Int32.not_le.mp h25))) (rfl)
    · -- no
      refine j_iconst (v := 2) B d_Mo_fails_13 (by decide) ?_
      refine j_goto (tgt := 18) B d_Mo_fails_14 (by decide) ?_
      refine j_topi (fv u v) (by unfold fv; first | (rw [if_neg h2]) | (rw [if_pos h2, if_neg h10]) | (rw [if_pos h2, if_pos h10])) ?_
      refine j_puti B kM_inj fs_Mo_101 (m_0) rfl d_Mo_fails_18 ?_
      refine j_aloadn B d_Mo_fails_21 rfl ?_
      refine j_geti B fl_Mo_101 (m_0) rfl d_Mo_fails_22 ?_
      refine j_topi (fv u v) rI ?_
      refine j_if_le (tgt := 32) B d_Mo_fails_25 (by decide) (fun h25 => ?_) (fun h25 => ?_)
      · -- yes
        refine j_iconst (v := 0) B d_Mo_fails_32 (by decide) ?_
        exact j_zret B hr hlk d_Mo_fails_33 (by first | exact Or.inl rfl | exact Or.inr rfl) (by first | exact sv (bI_f (Int32.not_lt.mpr h25)) | exact sv (bI_t (Int32.not_le.mp h25))) (rfl)
      · -- no
        refine j_iconst (v := 1) B d_Mo_fails_28 (by decide) ?_
        refine j_goto (tgt := 33) B d_Mo_fails_29 (by decide) ?_
        exact j_zret B hr hlk d_Mo_fails_33 (by first | exact Or.inl rfl | exact Or.inr rfl) (by first | exact sv (bI_f (Int32.not_lt.mpr h25)) | exact sv (bI_t (Int32.not_le.mp h25))) (rfl)
  · -- no
    refine j_iconst (v := 1) B d_Mo_fails_5 (by decide) ?_
    refine j_goto (tgt := 18) B d_Mo_fails_6 (by decide) ?_
    refine j_topi (fv u v) (by unfold fv; first | (rw [if_neg h2]) | (rw [if_pos h2, if_neg h10]) | (rw [if_pos h2, if_pos h10])) ?_
    refine j_puti B kM_inj fs_Mo_101 (m_0) rfl d_Mo_fails_18 ?_
    refine j_aloadn B d_Mo_fails_21 rfl ?_
    refine j_geti B fl_Mo_101 (m_0) rfl d_Mo_fails_22 ?_
    refine j_topi (fv u v) rI ?_
    refine j_if_le (tgt := 32) B d_Mo_fails_25 (by decide) (fun h25 => ?_) (fun h25 => ?_)
    · -- yes
      refine j_iconst (v := 0) B d_Mo_fails_32 (by decide) ?_
      exact j_zret B hr hlk d_Mo_fails_33 (by first | exact Or.inl rfl | exact Or.inr rfl) (by first | exact sv (bI_f (Int32.not_lt.mpr h25)) | exact sv (bI_t (Int32.not_le.mp h25))) (rfl)
    · -- no
      refine j_iconst (v := 1) B d_Mo_fails_28 (by decide) ?_
      refine j_goto (tgt := 33) B d_Mo_fails_29 (by decide) ?_
      exact j_zret B hr hlk d_Mo_fails_33 (by first | exact Or.inl rfl | exact Or.inr rfl) (by first | exact sv (bI_f (Int32.not_lt.mpr h25)) | exact sv (bI_t (Int32.not_le.mp h25))) (rfl)
set_option maxRecDepth 100000 in
theorem ok_Mo_outside {l : Launch} {D : va_G} {aC : Nat → ClassId} {ad : Nat → Nat} (x : tm_M) (v lo hi : Int32) :
    OkM l y_Mo_outside b_Mo_outside 3 (some .boolean) (rom 0 0) D aC ad [.int v, .int lo, .int hi] x (some (.int (bI (v < lo ∨ hi < v)))) x := by
  refine ok_start (by decide) (Nat.le_of_ble_eq_true rfl) rfl ?_
  intro p e s m args below meth c B hr hlk hml
  have B : Cx p s m c args b_Mo_outside R_Mo D aC (rg 30 ad) 30 ad := B
  refine j_iloadn B d_Mo_outside_0 rfl ?_
  refine j_iloadn B d_Mo_outside_1 rfl ?_
  refine j_icmp_lt (tgt := 10) B d_Mo_outside_2 (by decide) (fun h2 => ?_) (fun h2 => ?_)
  · -- yes
    refine j_iconst (v := 1) B d_Mo_outside_10 (by decide) ?_
    refine j_goto (tgt := 15) B d_Mo_outside_11 (by decide) ?_
    exact j_zret B hr hlk d_Mo_outside_15 (by first | exact Or.inl rfl | exact Or.inr rfl) (by first | exact sv (bI_t (Or.inl h2)) | exact sv (bI_t (Or.inr (Int32.not_le.mp h7))) | exact sv (bI_f (fun z => z.elim h2 (Int32.not_lt.mpr h7)))) (rfl)
  · -- no
    refine j_iloadn B d_Mo_outside_5 rfl ?_
    refine j_iloadn B d_Mo_outside_6 rfl ?_
    refine j_icmp_le (tgt := 14) B d_Mo_outside_7 (by decide) (fun h7 => ?_) (fun h7 => ?_)
    · -- yes
      refine j_iconst (v := 0) B d_Mo_outside_14 (by decide) ?_
      exact j_zret B hr hlk d_Mo_outside_15 (by first | exact Or.inl rfl | exact Or.inr rfl) (by first | exact sv (bI_t (Or.inl h2)) | exact sv (bI_t (Or.inr (Int32.not_le.mp h7))) | exact sv (bI_f (fun z => z.elim h2 (Int32.not_lt.mpr h7)))) (rfl)
    · -- no
      refine j_iconst (v := 1) B d_Mo_outside_10 (by decide) ?_
      refine j_goto (tgt := 15) B d_Mo_outside_11 (by decide) ?_
      exact j_zret B hr hlk d_Mo_outside_15 (by first | exact Or.inl rfl | exact Or.inr rfl) (by first | exact sv (bI_t (Or.inl h2)) | exact sv (bI_t (Or.inr (Int32.not_le.mp h7))) | exact sv (bI_f (fun z => z.elim h2 (Int32.not_lt.mpr h7)))) (rfl)
theorem fv1 {u v : Int32} (h : ¬ u = 0) : fv u v = 1 := if_neg h
theorem fv2 {u v : Int32} (h : u = 0) (h2 : ¬ v = 0) : fv u v = 2 := (if_pos h).trans (if_neg h2)
theorem fv0 {u v : Int32} (h : u = 0) (h2 : v = 0) : fv u v = 0 := (if_pos h).trans (if_pos h2)
theorem bI1 {b : Prop} [Decidable b] (h : b) : ¬ bI b = 0 := by rw [bI_t h]; decide
set_option maxRecDepth 100000 in
theorem ok_Mo_type_1 {l : Launch} {D : va_G} {aC : Nat → ClassId} {ad : Nat → Nat} (x : tm_M) (k : Int32) (h1 : (k < -1 ∨ x.1 (0, 0, 0) 1 - 1 < k)) :
    OkM l y_Mo_type b_Mo_type 2 (some .int) (rom 1 22) D aC ad [.ref (ad 0), .int k] x (some (.int 0)) (sI x (0, 0, 0) 0 1) := by
  refine ok_start (by decide) (Nat.le_of_ble_eq_true rfl) rfl ?_
  intro p e s m args below meth c B hr hlk hml
  have B : Cx p s m c args b_Mo_type R_Mo D aC (rg 30 ad) 30 ad := B
  refine j_aloadn B d_Mo_type_0 rfl ?_
  refine j_iloadn B d_Mo_type_1 rfl ?_
  refine j_iconst (v := (-1)) B d_Mo_type_2 (by decide) ?_
  refine j_aloadn B d_Mo_type_3 rfl ?_
  refine j_geti B fl_Mo_7 (m_0) rfl d_Mo_type_4 ?_
  refine j_iconst (v := 1) B d_Mo_type_7 (by decide) ?_
  refine j_isub B d_Mo_type_8 ?_
  refine j_cS B (ok_Mo_outside x k (-1) (x.1 (0, 0, 0) 1 - 1)) cs_Mo_outside ml_Mo_104 rfl ⟨rfl, rfl, by decide, by decide⟩ ⟨Nat.zero_le _, Nat.zero_le _⟩ hml (Nat.le_of_ble_eq_true rfl) rfl d_Mo_type_9 ?_
  refine j_aloadn B d_Mo_type_12 rfl ?_
  refine j_geti B fl_Mo_7 (m_0) rfl d_Mo_type_13 ?_
  refine j_bipush (v := 8) B d_Mo_type_16 (by decide) ?_
  refine j_icmp_ne (tgt := 25) B d_Mo_type_18 (by decide) (fun h18 => ?_) (fun h18 => ?_)
  · -- yes
    refine j_iconst (v := 0) B d_Mo_type_25 (by decide) ?_
    refine j_cVt B (ok_Mo_fails x (bI (k < -1 ∨ x.1 (0, 0, 0) 1 - 1 < k)) _) cv_Mo_fails ml_Mo_108 (m_0) rfl rfl ⟨rfl, rfl, by decide, by decide⟩ ⟨Nat.zero_le _, Nat.zero_le _⟩ hml (Nat.le_of_ble_eq_true rfl) rfl d_Mo_type_26 ?_
    refine j_if_eq (tgt := 34) B d_Mo_type_29 (by decide) (fun h29 => (show False from bI_e h29 (by rw [fv1 (bI1 h1)]; decide)).elim) (fun h29 => ?_)
    refine j_iconst (v := 0) B d_Mo_type_32 (by decide) ?_
    exact j_iret B hr hlk d_Mo_type_33 (rfl) (by rw [fv1 (bI1 h1)])
  · -- no
    refine j_iconst (v := 1) B d_Mo_type_21 (by decide) ?_
    refine j_goto (tgt := 26) B d_Mo_type_22 (by decide) ?_
    refine j_cVt B (ok_Mo_fails x (bI (k < -1 ∨ x.1 (0, 0, 0) 1 - 1 < k)) _) cv_Mo_fails ml_Mo_108 (m_0) rfl rfl ⟨rfl, rfl, by decide, by decide⟩ ⟨Nat.zero_le _, Nat.zero_le _⟩ hml (Nat.le_of_ble_eq_true rfl) rfl d_Mo_type_26 ?_
    refine j_if_eq (tgt := 34) B d_Mo_type_29 (by decide) (fun h29 => (show False from bI_e h29 (by rw [fv1 (bI1 h1)]; decide)).elim) (fun h29 => ?_)
    refine j_iconst (v := 0) B d_Mo_type_32 (by decide) ?_
    exact j_iret B hr hlk d_Mo_type_33 (rfl) (by rw [fv1 (bI1 h1)])
set_option maxRecDepth 100000 in
theorem ok_Mo_type_2 {l : Launch} {D : va_G} {aC : Nat → ClassId} {ad : Nat → Nat} (x : tm_M) (k : Int32) (ht : x.1 (0, 0, 0) 1 = nI 8) (h1 : ¬ (k < -1 ∨ x.1 (0, 0, 0) 1 - 1 < k)) :
    OkM l y_Mo_type b_Mo_type 2 (some .int) (rom 1 22) D aC ad [.ref (ad 0), .int k] x (some (.int 0)) (sI x (0, 0, 0) 0 2) := by
  refine ok_start (by decide) (Nat.le_of_ble_eq_true rfl) rfl ?_
  intro p e s m args below meth c B hr hlk hml
  have B : Cx p s m c args b_Mo_type R_Mo D aC (rg 30 ad) 30 ad := B
  refine j_aloadn B d_Mo_type_0 rfl ?_
  refine j_iloadn B d_Mo_type_1 rfl ?_
  refine j_iconst (v := (-1)) B d_Mo_type_2 (by decide) ?_
  refine j_aloadn B d_Mo_type_3 rfl ?_
  refine j_geti B fl_Mo_7 (m_0) rfl d_Mo_type_4 ?_
  refine j_iconst (v := 1) B d_Mo_type_7 (by decide) ?_
  refine j_isub B d_Mo_type_8 ?_
  refine j_cS B (ok_Mo_outside x k (-1) (x.1 (0, 0, 0) 1 - 1)) cs_Mo_outside ml_Mo_104 rfl ⟨rfl, rfl, by decide, by decide⟩ ⟨Nat.zero_le _, Nat.zero_le _⟩ hml (Nat.le_of_ble_eq_true rfl) rfl d_Mo_type_9 ?_
  refine j_aloadn B d_Mo_type_12 rfl ?_
  refine j_geti B fl_Mo_7 (m_0) rfl d_Mo_type_13 ?_
  refine j_bipush (v := 8) B d_Mo_type_16 (by decide) ?_
  refine j_icmp_ne (tgt := 25) B d_Mo_type_18 (by decide) (fun h18 => (show False from h18 (by rw [ht]; rfl)).elim) (fun h18 => ?_)
  refine j_iconst (v := 1) B d_Mo_type_21 (by decide) ?_
  refine j_goto (tgt := 26) B d_Mo_type_22 (by decide) ?_
  refine j_cVt B (ok_Mo_fails x (bI (k < -1 ∨ x.1 (0, 0, 0) 1 - 1 < k)) 1) cv_Mo_fails ml_Mo_108 (m_0) rfl rfl ⟨rfl, rfl, by decide, by decide⟩ ⟨Nat.zero_le _, Nat.zero_le _⟩ hml (Nat.le_of_ble_eq_true rfl) rfl d_Mo_type_26 ?_
  refine j_if_eq (tgt := 34) B d_Mo_type_29 (by decide) (fun h29 => (show False from bI_e h29 (by rw [fv2 (bI_f h1) (by decide)]; decide)).elim) (fun h29 => ?_)
  refine j_iconst (v := 0) B d_Mo_type_32 (by decide) ?_
  exact j_iret B hr hlk d_Mo_type_33 (rfl) (by rw [fv2 (bI_f h1) (by decide)])
set_option maxRecDepth 100000 in
theorem ok_Mo_type_0 {l : Launch} {D : va_G} {aC : Nat → ClassId} {ad : Nat → Nat} (x : tm_M) (k : Int32) {t : Nat} (ht : x.1 (0, 0, 0) 1 = nI t) (h8 : t < 8) (h1 : ¬ (k < -1 ∨ x.1 (0, 0, 0) 1 - 1 < k)) :
    OkM l y_Mo_type b_Mo_type 2 (some .int) (rom 1 22) D aC ad [.ref (ad 0), .int k] x (some (.int (nI t))) (sI (sA (sI x (0, 0, 0) 0 0) (0, 0, 1) t k) (0, 0, 0) 1 (nI (t + 1))) := by
  refine ok_start (by decide) (Nat.le_of_ble_eq_true rfl) rfl ?_
  intro p e s m args below meth c B hr hlk hml
  have B : Cx p s m c args b_Mo_type R_Mo D aC (rg 30 ad) 30 ad := B
  refine j_aloadn B d_Mo_type_0 rfl ?_
  refine j_iloadn B d_Mo_type_1 rfl ?_
  refine j_iconst (v := (-1)) B d_Mo_type_2 (by decide) ?_
  refine j_aloadn B d_Mo_type_3 rfl ?_
  refine j_geti B fl_Mo_7 (m_0) rfl d_Mo_type_4 ?_
  refine j_iconst (v := 1) B d_Mo_type_7 (by decide) ?_
  refine j_isub B d_Mo_type_8 ?_
  refine j_cS B (ok_Mo_outside x k (-1) (x.1 (0, 0, 0) 1 - 1)) cs_Mo_outside ml_Mo_104 rfl ⟨rfl, rfl, by decide, by decide⟩ ⟨Nat.zero_le _, Nat.zero_le _⟩ hml (Nat.le_of_ble_eq_true rfl) rfl d_Mo_type_9 ?_
  refine j_aloadn B d_Mo_type_12 rfl ?_
  refine j_geti B fl_Mo_7 (m_0) rfl d_Mo_type_13 ?_
  refine j_bipush (v := 8) B d_Mo_type_16 (by decide) ?_
  refine j_icmp_ne (tgt := 25) B d_Mo_type_18 (by decide) (fun h18 => ?_) (fun h18 => (show False from absurd ((nI_eq (a := t) (b := 8) (by omega) (by decide)).mp (ht ▸ h18)) (by omega)).elim)
  refine j_iconst (v := 0) B d_Mo_type_25 (by decide) ?_
  refine j_cVt B (ok_Mo_fails x (bI (k < -1 ∨ x.1 (0, 0, 0) 1 - 1 < k)) 0) cv_Mo_fails ml_Mo_108 (m_0) rfl rfl ⟨rfl, rfl, by decide, by decide⟩ ⟨Nat.zero_le _, Nat.zero_le _⟩ hml (Nat.le_of_ble_eq_true rfl) rfl d_Mo_type_26 ?_
  refine j_if_eq (tgt := 34) B d_Mo_type_29 (by decide) (fun h29 => ?_) (fun h29 => (show False from absurd (bI_ne h29) (by rw [fv0 (bI_f h1) rfl]; decide)).elim)
  refine j_x (sI x (0, 0, 0) 0 0) (by rw [fv0 (bI_f h1) rfl]) ?_
  refine j_aloadn B d_Mo_type_34 rfl ?_
  refine j_getr B fl_Mo_13 (m_0) rfl d_Mo_type_35 ?_
  refine j_aloadn B d_Mo_type_38 rfl ?_
  refine j_geti B fl_Mo_7 (m_0) rfl d_Mo_type_39 ?_
  refine j_iloadn B d_Mo_type_42 rfl ?_
  refine j_iast B kM_inj (m_1) (⟨by rw [rIj (by decide)]; exact ht, h8, by decide⟩) d_Mo_type_43 ?_
  refine j_aloadn B d_Mo_type_44 rfl ?_
  refine j_dup B d_Mo_type_45 rfl ?_
  refine j_geti B fl_Mo_7 (m_0) rfl d_Mo_type_46 ?_
  refine j_iconst (v := 1) B d_Mo_type_49 (by decide) ?_
  refine j_iadd B d_Mo_type_50 ?_
  refine j_topi (nI (t + 1)) (by rw [rAI, rIj (by decide), ht, nI_1]) ?_
  refine j_puti B kM_inj fs_Mo_7 (m_0) rfl d_Mo_type_51 ?_
  refine j_aloadn B d_Mo_type_54 rfl ?_
  refine j_geti B fl_Mo_7 (m_0) rfl d_Mo_type_55 ?_
  refine j_iconst (v := 1) B d_Mo_type_58 (by decide) ?_
  refine j_isub B d_Mo_type_59 ?_
  exact j_iret B hr hlk d_Mo_type_60 (sv (by rw [rI, nI_pred])) (rfl)
/-- the climb of the reference -/
def amF (P : Nat → Int32) (o : Int32) : Nat → Int32 → Int32
  | 0, t => bI (t = o)
  | r + 1, t => if t < 0 ∨ t = o then bI (t = o) else amF P o r (P t.toNatClampNeg)
set_option maxRecDepth 100000 in
theorem ok_Mo_isAnother {l : Launch} {D : va_G} {aC : Nat → ClassId} {ad : Nat → Nat} (x : tm_M) (u v : Int32) {t : Nat} (h8 : t ≤ 8) (hu : u = -1 ∨ ∃ a, a < t ∧ u = nI a) (hP : ∀ a, a < t → x.2 (0, 0, 1) a = -1 ∨ ∃ j, j < a ∧ x.2 (0, 0, 1) a = nI j) :
    OkM l y_Mo_isAnother b_Mo_isAnother 4 (some .boolean) (rom 0 0) D aC ad [.ref (ad 0), .int u, .int v] x (some (.int (amF (x.2 (0, 0, 1)) v 9 u))) x := by
  refine ok_start (by decide) (Nat.le_of_ble_eq_true rfl) rfl ?_
  intro p e s m args below meth c B hr hlk hml
  have B : Cx p s m c args b_Mo_isAnother R_Mo D aC (rg 30 ad) 30 ad := B
  have h8t := h8
  have fin : ∀ (k : Int32), bI (k = v) = (amF (x.2 (0, 0, 1)) v 9 u) → J p l e (rom 0 0) s m args below meth c D (rg 30 ad) 0 0 (MQ below (Qk D aC 30 ad (some (.int (amF (x.2 (0, 0, 1)) v 9 u))) (wM ad aC x)) args s 0 0 (rg 30 ad)) 30 ad (wM ad aC x) 4 21 [(3, .int k), (0, .ref (ad 0)), (1, .int u), (2, .int v)] [] := by
    intro k hB
    have hB := hB.symm
    refine j_iloadn B d_Mo_isAnother_21 rfl ?_
    refine j_iloadn B d_Mo_isAnother_22 rfl ?_
    refine j_icmp_ne (tgt := 30) B d_Mo_isAnother_23 (by decide) (fun h23 => ?_) (fun h23 => ?_)
    · -- yes
      refine j_iconst (v := 0) B d_Mo_isAnother_30 (by decide) ?_
      exact j_zret B hr hlk d_Mo_isAnother_31 (by first | exact Or.inl rfl | exact Or.inr rfl) (by first | exact sv (hB.trans (bI_f h23)) | exact sv (hB.trans (bI_t h23))) (rfl)
    · -- no
      refine j_iconst (v := 1) B d_Mo_isAnother_26 (by decide) ?_
      refine j_goto (tgt := 31) B d_Mo_isAnother_27 (by decide) ?_
      exact j_zret B hr hlk d_Mo_isAnother_31 (by first | exact Or.inl rfl | exact Or.inr rfl) (by first | exact sv (hB.trans (bI_f h23)) | exact sv (hB.trans (bI_t h23))) (rfl)
  have loop : ∀ (r : Nat) (k : Int32), (k = -1 ∨ ∃ a, a < r ∧ a < t ∧ k = nI a) → r ≤ 9 → amF (x.2 (0, 0, 1)) v r k = (amF (x.2 (0, 0, 1)) v 9 u) → J p l e (rom 0 0) s m args below meth c D (rg 30 ad) 0 0 (MQ below (Qk D aC 30 ad (some (.int (amF (x.2 (0, 0, 1)) v 9 u))) (wM ad aC x)) args s 0 0 (rg 30 ad)) 30 ad (wM ad aC x) 4 2 [(3, .int k), (0, .ref (ad 0)), (1, .int u), (2, .int v)] [] := by
    intro r
    induction r with
    | zero =>
      intro k hk hr9 hR
      rcases hk with rfl | ⟨a, h0, -⟩
      · have r := 0
        refine j_iloadn B d_Mo_isAnother_2 rfl ?_
        refine j_if_lt (tgt := 21) B d_Mo_isAnother_3 (by decide) (fun h3 => ?_) (fun h3 => (show False from h3 (by decide)).elim)
        exact fin (-1) hR
      · omega
    | succ r ih =>
      intro k hk hr9 hR
      rcases hk with rfl | ⟨a, h0, hat, rfl⟩
      · skip
        refine j_iloadn B d_Mo_isAnother_2 rfl ?_
        refine j_if_lt (tgt := 21) B d_Mo_isAnother_3 (by decide) (fun h3 => ?_) (fun h3 => (show False from h3 (by decide)).elim)
        exact fin (-1) (by rw [← hR]; unfold amF; rw [if_pos (Or.inl (by decide))])
      · skip
        refine j_iloadn B d_Mo_isAnother_2 rfl ?_
        refine j_if_lt (tgt := 21) B d_Mo_isAnother_3 (by decide) (fun h3 => (show False from nI_pos (by omega) h3).elim) (fun h3 => ?_)
        refine j_iloadn B d_Mo_isAnother_6 rfl ?_
        refine j_iloadn B d_Mo_isAnother_7 rfl ?_
        refine j_icmp_eq (tgt := 21) B d_Mo_isAnother_8 (by decide) (fun h8 => ?_) (fun h8 => ?_)
        · -- yes
          exact fin _ (by rw [← hR]; unfold amF; rw [if_pos (Or.inr h8)])
        · -- no
          refine j_aloadn B d_Mo_isAnother_11 rfl ?_
          refine j_getr B fl_Mo_13 (m_0) rfl d_Mo_isAnother_12 ?_
          refine j_iloadn B d_Mo_isAnother_15 rfl ?_
          refine j_iald B (m_1) (⟨rfl, by omega, by decide⟩) d_Mo_isAnother_16 ?_
          refine j_istoren B d_Mo_isAnother_17 (by decide) ?_
          refine j_goto (tgt := 2) B d_Mo_isAnother_18 (by decide) ?_
          refine j_loc [(3, .int (x.2 (0, 0, 1) a)), (0, .ref (ad 0)), (1, .int u), (2, .int v)] ⟨rfl, rfl, rfl, rfl, trivial⟩ ?_
          exact ih _ (by rcases hP a hat with h | ⟨j, hj, h⟩; exact Or.inl h; exact Or.inr ⟨j, by omega, by omega, h⟩) (by omega) (by rw [← hR]; exact (((if_neg (fun z => z.elim (nI_pos (by omega)) h8)).trans (by rw [nI_clamp (by omega)])).symm))
  refine j_iloadn B d_Mo_isAnother_0 rfl ?_
  refine j_istoren B d_Mo_isAnother_1 (by decide) ?_
  refine j_loc [(3, .int u), (0, .ref (ad 0)), (1, .int u), (2, .int v)] ⟨rfl, rfl, rfl, rfl, trivial⟩ ?_
  exact loop 9 u (by rcases hu with h | ⟨a, h1, h2⟩; exact Or.inl h; exact Or.inr ⟨a, by omega, h1, h2⟩) (by omega) rfl
def fitF (t s v : Int32) : Int32 := if s = 0 ∨ s = 6 then bI (¬ (v < 0 ∨ 99 < v)) else if s = 1 then bI (¬ (v < 0 ∨ 5 < v)) else if s = 2 then bI (¬ (v < 0 ∨ t - 1 < v)) else if s = 4 then bI (¬ (v < -1 ∨ t - 1 < v)) else if s = 3 ∨ s = 5 ∨ s = 7 then bI (v = 0) else 0
theorem sw07 {s : Int32} (h0 : ¬ s = 0) (h1 : ¬ s = 1) (h2 : ¬ s = 2) (h3 : ¬ s = 3) (h4 : ¬ s = 4) (h5 : ¬ s = 5) (h6 : ¬ s = 6) (h7 : ¬ s = 7) : s.toInt < 0 ∨ 7 < s.toInt := by
  have a0 : s.toInt ≠ 0 := fun q => h0 (Int32.toInt_inj.mp q)
  have a1 : s.toInt ≠ 1 := fun q => h1 (Int32.toInt_inj.mp q)
  have a2 : s.toInt ≠ 2 := fun q => h2 (Int32.toInt_inj.mp q)
  have a3 : s.toInt ≠ 3 := fun q => h3 (Int32.toInt_inj.mp q)
  have a4 : s.toInt ≠ 4 := fun q => h4 (Int32.toInt_inj.mp q)
  have a5 : s.toInt ≠ 5 := fun q => h5 (Int32.toInt_inj.mp q)
  have a6 : s.toInt ≠ 6 := fun q => h6 (Int32.toInt_inj.mp q)
  have a7 : s.toInt ≠ 7 := fun q => h7 (Int32.toInt_inj.mp q)
  omega
theorem bIn {b : Prop} [Decidable b] (h : ¬ bI b = 0) : bI (¬ b) = 0 := bI_f (fun z => z (bI_ne h))
theorem bIy {b : Prop} [Decidable b] (h : bI b = 0) : bI (¬ b) = 1 := bI_t (bI_e h)
set_option maxRecDepth 100000 in
theorem ok_Mo_fits {l : Launch} {D : va_G} {aC : Nat → ClassId} {ad : Nat → Nat} (x : tm_M) (k v : Int32) :
    OkM l y_Mo_fits b_Mo_fits 3 (some .boolean) (rom 1 22) D aC ad [.ref (ad 0), .int k, .int v] x (some (.int (fitF (x.1 (0, 0, 0) 1) k v))) x := by
  refine ok_start (by decide) (Nat.le_of_ble_eq_true rfl) rfl ?_
  intro p e s m args below meth c B hr hlk hml
  have B : Cx p s m c args b_Mo_fits R_Mo D aC (rg 30 ad) 30 ad := B
  by_cases e0 : k = 0
  · subst e0
    refine j_iloadn B d_Mo_fits_0 rfl ?_
    refine j_tabIn (tgt := 48) (off := 47) B d_Mo_fits_1 (by decide) (by decide) (by decide) (by decide) ?_
    refine j_iloadn B d_Mo_fits_48 rfl ?_
    refine j_iconst (v := 0) B d_Mo_fits_49 (by decide) ?_
    refine j_bipush (v := 99) B d_Mo_fits_50 (by decide) ?_
    refine j_cS B (ok_Mo_outside x v 0 99) cs_Mo_outside ml_Mo_104 rfl ⟨rfl, rfl, by decide, by decide⟩ ⟨Nat.zero_le _, Nat.zero_le _⟩ hml (Nat.le_of_ble_eq_true rfl) rfl d_Mo_fits_52 ?_
    refine j_if_ne (tgt := 62) B d_Mo_fits_55 (by decide) (fun h55 => ?_) (fun h55 => ?_)
    · -- yes
      refine j_iconst (v := 0) B d_Mo_fits_62 (by decide) ?_
      exact j_zret B hr hlk d_Mo_fits_63 (by first | exact Or.inl rfl | exact Or.inr rfl) (by first | exact sv ((show fitF (x.1 (0, 0, 0) 1) 0 v = bI (¬ (v < 0 ∨ 99 < v)) from by simp [fitF]).trans (bIn h55)) | exact sv ((show fitF (x.1 (0, 0, 0) 1) 0 v = bI (¬ (v < 0 ∨ 99 < v)) from by simp [fitF]).trans (bIy h55))) (rfl)
    · -- no
      refine j_iconst (v := 1) B d_Mo_fits_58 (by decide) ?_
      refine j_goto (tgt := 63) B d_Mo_fits_59 (by decide) ?_
      exact j_zret B hr hlk d_Mo_fits_63 (by first | exact Or.inl rfl | exact Or.inr rfl) (by first | exact sv ((show fitF (x.1 (0, 0, 0) 1) 0 v = bI (¬ (v < 0 ∨ 99 < v)) from by simp [fitF]).trans (bIn h55)) | exact sv ((show fitF (x.1 (0, 0, 0) 1) 0 v = bI (¬ (v < 0 ∨ 99 < v)) from by simp [fitF]).trans (bIy h55))) (rfl)
  by_cases e6 : k = 6
  · subst e6
    refine j_iloadn B d_Mo_fits_0 rfl ?_
    refine j_tabIn (tgt := 48) (off := 47) B d_Mo_fits_1 (by decide) (by decide) (by decide) (by decide) ?_
    refine j_iloadn B d_Mo_fits_48 rfl ?_
    refine j_iconst (v := 0) B d_Mo_fits_49 (by decide) ?_
    refine j_bipush (v := 99) B d_Mo_fits_50 (by decide) ?_
    refine j_cS B (ok_Mo_outside x v 0 99) cs_Mo_outside ml_Mo_104 rfl ⟨rfl, rfl, by decide, by decide⟩ ⟨Nat.zero_le _, Nat.zero_le _⟩ hml (Nat.le_of_ble_eq_true rfl) rfl d_Mo_fits_52 ?_
    refine j_if_ne (tgt := 62) B d_Mo_fits_55 (by decide) (fun h55 => ?_) (fun h55 => ?_)
    · -- yes
      refine j_iconst (v := 0) B d_Mo_fits_62 (by decide) ?_
      exact j_zret B hr hlk d_Mo_fits_63 (by first | exact Or.inl rfl | exact Or.inr rfl) (by first | exact sv ((show fitF (x.1 (0, 0, 0) 1) 6 v = bI (¬ (v < 0 ∨ 99 < v)) from by simp [fitF]).trans (bIn h55)) | exact sv ((show fitF (x.1 (0, 0, 0) 1) 6 v = bI (¬ (v < 0 ∨ 99 < v)) from by simp [fitF]).trans (bIy h55))) (rfl)
    · -- no
      refine j_iconst (v := 1) B d_Mo_fits_58 (by decide) ?_
      refine j_goto (tgt := 63) B d_Mo_fits_59 (by decide) ?_
      exact j_zret B hr hlk d_Mo_fits_63 (by first | exact Or.inl rfl | exact Or.inr rfl) (by first | exact sv ((show fitF (x.1 (0, 0, 0) 1) 6 v = bI (¬ (v < 0 ∨ 99 < v)) from by simp [fitF]).trans (bIn h55)) | exact sv ((show fitF (x.1 (0, 0, 0) 1) 6 v = bI (¬ (v < 0 ∨ 99 < v)) from by simp [fitF]).trans (bIy h55))) (rfl)
  by_cases e1 : k = 1
  · subst e1
    refine j_iloadn B d_Mo_fits_0 rfl ?_
    refine j_tabIn (tgt := 64) (off := 63) B d_Mo_fits_1 (by decide) (by decide) (by decide) (by decide) ?_
    refine j_iloadn B d_Mo_fits_64 rfl ?_
    refine j_iconst (v := 0) B d_Mo_fits_65 (by decide) ?_
    refine j_iconst (v := 5) B d_Mo_fits_66 (by decide) ?_
    refine j_cS B (ok_Mo_outside x v 0 5) cs_Mo_outside ml_Mo_104 rfl ⟨rfl, rfl, by decide, by decide⟩ ⟨Nat.zero_le _, Nat.zero_le _⟩ hml (Nat.le_of_ble_eq_true rfl) rfl d_Mo_fits_67 ?_
    refine j_if_ne (tgt := 77) B d_Mo_fits_70 (by decide) (fun h70 => ?_) (fun h70 => ?_)
    · -- yes
      refine j_iconst (v := 0) B d_Mo_fits_77 (by decide) ?_
      exact j_zret B hr hlk d_Mo_fits_78 (by first | exact Or.inl rfl | exact Or.inr rfl) (by first | exact sv ((show fitF (x.1 (0, 0, 0) 1) 1 v = bI (¬ (v < 0 ∨ 5 < v)) from by simp [fitF]).trans (bIn h70)) | exact sv ((show fitF (x.1 (0, 0, 0) 1) 1 v = bI (¬ (v < 0 ∨ 5 < v)) from by simp [fitF]).trans (bIy h70))) (rfl)
    · -- no
      refine j_iconst (v := 1) B d_Mo_fits_73 (by decide) ?_
      refine j_goto (tgt := 78) B d_Mo_fits_74 (by decide) ?_
      exact j_zret B hr hlk d_Mo_fits_78 (by first | exact Or.inl rfl | exact Or.inr rfl) (by first | exact sv ((show fitF (x.1 (0, 0, 0) 1) 1 v = bI (¬ (v < 0 ∨ 5 < v)) from by simp [fitF]).trans (bIn h70)) | exact sv ((show fitF (x.1 (0, 0, 0) 1) 1 v = bI (¬ (v < 0 ∨ 5 < v)) from by simp [fitF]).trans (bIy h70))) (rfl)
  by_cases e2 : k = 2
  · subst e2
    refine j_iloadn B d_Mo_fits_0 rfl ?_
    refine j_tabIn (tgt := 79) (off := 78) B d_Mo_fits_1 (by decide) (by decide) (by decide) (by decide) ?_
    refine j_iloadn B d_Mo_fits_79 rfl ?_
    refine j_iconst (v := 0) B d_Mo_fits_80 (by decide) ?_
    refine j_aloadn B d_Mo_fits_81 rfl ?_
    refine j_geti B fl_Mo_7 (m_0) rfl d_Mo_fits_82 ?_
    refine j_iconst (v := 1) B d_Mo_fits_85 (by decide) ?_
    refine j_isub B d_Mo_fits_86 ?_
    refine j_cS B (ok_Mo_outside x v 0 (x.1 (0, 0, 0) 1 - 1)) cs_Mo_outside ml_Mo_104 rfl ⟨rfl, rfl, by decide, by decide⟩ ⟨Nat.zero_le _, Nat.zero_le _⟩ hml (Nat.le_of_ble_eq_true rfl) rfl d_Mo_fits_87 ?_
    refine j_if_ne (tgt := 97) B d_Mo_fits_90 (by decide) (fun h90 => ?_) (fun h90 => ?_)
    · -- yes
      refine j_iconst (v := 0) B d_Mo_fits_97 (by decide) ?_
      exact j_zret B hr hlk d_Mo_fits_98 (by first | exact Or.inl rfl | exact Or.inr rfl) (by first | exact sv ((show fitF (x.1 (0, 0, 0) 1) 2 v = bI (¬ (v < 0 ∨ x.1 (0, 0, 0) 1 - 1 < v)) from by simp [fitF]).trans (bIn h90)) | exact sv ((show fitF (x.1 (0, 0, 0) 1) 2 v = bI (¬ (v < 0 ∨ x.1 (0, 0, 0) 1 - 1 < v)) from by simp [fitF]).trans (bIy h90))) (rfl)
    · -- no
      refine j_iconst (v := 1) B d_Mo_fits_93 (by decide) ?_
      refine j_goto (tgt := 98) B d_Mo_fits_94 (by decide) ?_
      exact j_zret B hr hlk d_Mo_fits_98 (by first | exact Or.inl rfl | exact Or.inr rfl) (by first | exact sv ((show fitF (x.1 (0, 0, 0) 1) 2 v = bI (¬ (v < 0 ∨ x.1 (0, 0, 0) 1 - 1 < v)) from by simp [fitF]).trans (bIn h90)) | exact sv ((show fitF (x.1 (0, 0, 0) 1) 2 v = bI (¬ (v < 0 ∨ x.1 (0, 0, 0) 1 - 1 < v)) from by simp [fitF]).trans (bIy h90))) (rfl)
  by_cases e4 : k = 4
  · subst e4
    refine j_iloadn B d_Mo_fits_0 rfl ?_
    refine j_tabIn (tgt := 99) (off := 98) B d_Mo_fits_1 (by decide) (by decide) (by decide) (by decide) ?_
    refine j_iloadn B d_Mo_fits_99 rfl ?_
    refine j_iconst (v := (-1)) B d_Mo_fits_100 (by decide) ?_
    refine j_aloadn B d_Mo_fits_101 rfl ?_
    refine j_geti B fl_Mo_7 (m_0) rfl d_Mo_fits_102 ?_
    refine j_iconst (v := 1) B d_Mo_fits_105 (by decide) ?_
    refine j_isub B d_Mo_fits_106 ?_
    refine j_cS B (ok_Mo_outside x v (-1) (x.1 (0, 0, 0) 1 - 1)) cs_Mo_outside ml_Mo_104 rfl ⟨rfl, rfl, by decide, by decide⟩ ⟨Nat.zero_le _, Nat.zero_le _⟩ hml (Nat.le_of_ble_eq_true rfl) rfl d_Mo_fits_107 ?_
    refine j_if_ne (tgt := 117) B d_Mo_fits_110 (by decide) (fun h110 => ?_) (fun h110 => ?_)
    · -- yes
      refine j_iconst (v := 0) B d_Mo_fits_117 (by decide) ?_
      exact j_zret B hr hlk d_Mo_fits_118 (by first | exact Or.inl rfl | exact Or.inr rfl) (by first | exact sv ((show fitF (x.1 (0, 0, 0) 1) 4 v = bI (¬ (v < -1 ∨ x.1 (0, 0, 0) 1 - 1 < v)) from by simp [fitF]).trans (bIn h110)) | exact sv ((show fitF (x.1 (0, 0, 0) 1) 4 v = bI (¬ (v < -1 ∨ x.1 (0, 0, 0) 1 - 1 < v)) from by simp [fitF]).trans (bIy h110))) (rfl)
    · -- no
      refine j_iconst (v := 1) B d_Mo_fits_113 (by decide) ?_
      refine j_goto (tgt := 118) B d_Mo_fits_114 (by decide) ?_
      exact j_zret B hr hlk d_Mo_fits_118 (by first | exact Or.inl rfl | exact Or.inr rfl) (by first | exact sv ((show fitF (x.1 (0, 0, 0) 1) 4 v = bI (¬ (v < -1 ∨ x.1 (0, 0, 0) 1 - 1 < v)) from by simp [fitF]).trans (bIn h110)) | exact sv ((show fitF (x.1 (0, 0, 0) 1) 4 v = bI (¬ (v < -1 ∨ x.1 (0, 0, 0) 1 - 1 < v)) from by simp [fitF]).trans (bIy h110))) (rfl)
  by_cases e3 : k = 3
  · subst e3
    refine j_iloadn B d_Mo_fits_0 rfl ?_
    refine j_tabIn (tgt := 119) (off := 118) B d_Mo_fits_1 (by decide) (by decide) (by decide) (by decide) ?_
    refine j_iloadn B d_Mo_fits_119 rfl ?_
    refine j_if_ne (tgt := 127) B d_Mo_fits_120 (by decide) (fun h120 => ?_) (fun h120 => ?_)
    · -- yes
      refine j_iconst (v := 0) B d_Mo_fits_127 (by decide) ?_
      exact j_zret B hr hlk d_Mo_fits_128 (by first | exact Or.inl rfl | exact Or.inr rfl) (by first | exact sv ((show fitF (x.1 (0, 0, 0) 1) 3 v = bI (v = 0) from by simp [fitF]).trans (bI_f h120)) | exact sv ((show fitF (x.1 (0, 0, 0) 1) 3 v = bI (v = 0) from by simp [fitF]).trans (bI_t h120))) (rfl)
    · -- no
      refine j_iconst (v := 1) B d_Mo_fits_123 (by decide) ?_
      refine j_goto (tgt := 128) B d_Mo_fits_124 (by decide) ?_
      exact j_zret B hr hlk d_Mo_fits_128 (by first | exact Or.inl rfl | exact Or.inr rfl) (by first | exact sv ((show fitF (x.1 (0, 0, 0) 1) 3 v = bI (v = 0) from by simp [fitF]).trans (bI_f h120)) | exact sv ((show fitF (x.1 (0, 0, 0) 1) 3 v = bI (v = 0) from by simp [fitF]).trans (bI_t h120))) (rfl)
  by_cases e5 : k = 5
  · subst e5
    refine j_iloadn B d_Mo_fits_0 rfl ?_
    refine j_tabIn (tgt := 119) (off := 118) B d_Mo_fits_1 (by decide) (by decide) (by decide) (by decide) ?_
    refine j_iloadn B d_Mo_fits_119 rfl ?_
    refine j_if_ne (tgt := 127) B d_Mo_fits_120 (by decide) (fun h120 => ?_) (fun h120 => ?_)
    · -- yes
      refine j_iconst (v := 0) B d_Mo_fits_127 (by decide) ?_
      exact j_zret B hr hlk d_Mo_fits_128 (by first | exact Or.inl rfl | exact Or.inr rfl) (by first | exact sv ((show fitF (x.1 (0, 0, 0) 1) 5 v = bI (v = 0) from by simp [fitF]).trans (bI_f h120)) | exact sv ((show fitF (x.1 (0, 0, 0) 1) 5 v = bI (v = 0) from by simp [fitF]).trans (bI_t h120))) (rfl)
    · -- no
      refine j_iconst (v := 1) B d_Mo_fits_123 (by decide) ?_
      refine j_goto (tgt := 128) B d_Mo_fits_124 (by decide) ?_
      exact j_zret B hr hlk d_Mo_fits_128 (by first | exact Or.inl rfl | exact Or.inr rfl) (by first | exact sv ((show fitF (x.1 (0, 0, 0) 1) 5 v = bI (v = 0) from by simp [fitF]).trans (bI_f h120)) | exact sv ((show fitF (x.1 (0, 0, 0) 1) 5 v = bI (v = 0) from by simp [fitF]).trans (bI_t h120))) (rfl)
  by_cases e7 : k = 7
  · subst e7
    refine j_iloadn B d_Mo_fits_0 rfl ?_
    refine j_tabIn (tgt := 119) (off := 118) B d_Mo_fits_1 (by decide) (by decide) (by decide) (by decide) ?_
    refine j_iloadn B d_Mo_fits_119 rfl ?_
    refine j_if_ne (tgt := 127) B d_Mo_fits_120 (by decide) (fun h120 => ?_) (fun h120 => ?_)
    · -- yes
      refine j_iconst (v := 0) B d_Mo_fits_127 (by decide) ?_
      exact j_zret B hr hlk d_Mo_fits_128 (by first | exact Or.inl rfl | exact Or.inr rfl) (by first | exact sv ((show fitF (x.1 (0, 0, 0) 1) 7 v = bI (v = 0) from by simp [fitF]).trans (bI_f h120)) | exact sv ((show fitF (x.1 (0, 0, 0) 1) 7 v = bI (v = 0) from by simp [fitF]).trans (bI_t h120))) (rfl)
    · -- no
      refine j_iconst (v := 1) B d_Mo_fits_123 (by decide) ?_
      refine j_goto (tgt := 128) B d_Mo_fits_124 (by decide) ?_
      exact j_zret B hr hlk d_Mo_fits_128 (by first | exact Or.inl rfl | exact Or.inr rfl) (by first | exact sv ((show fitF (x.1 (0, 0, 0) 1) 7 v = bI (v = 0) from by simp [fitF]).trans (bI_f h120)) | exact sv ((show fitF (x.1 (0, 0, 0) 1) 7 v = bI (v = 0) from by simp [fitF]).trans (bI_t h120))) (rfl)
  refine j_iloadn B d_Mo_fits_0 rfl ?_
  refine j_tabOut (tgt := 129) B d_Mo_fits_1 (sw07 e0 e1 e2 e3 e4 e5 e6 e7) (by decide) ?_
  refine j_iconst (v := 0) B d_Mo_fits_129 (by decide) ?_
  exact j_zret B hr hlk d_Mo_fits_130 (by first | exact Or.inl rfl | exact Or.inr rfl) (sv (by simp [fitF, e0, e1, e2, e3, e4, e5, e6, e7])) (rfl)
set_option maxRecDepth 100000 in
theorem ok_Mo_wipe_1 {l : Launch} {D : va_G} {aC : Nat → ClassId} {ad : Nat → Nat} (x : tm_M) (k : Int32) (h1 : (k < 0 ∨ 5 < k)) :
    OkM l y_Mo_wipe b_Mo_wipe 2 none (rom 1 22) D aC ad [.ref (ad 0), .int k] x none (sI x (0, 0, 0) 0 1) := by
  refine ok_start (by decide) (Nat.le_of_ble_eq_true rfl) rfl ?_
  intro p e s m args below meth c B hr hlk hml
  have B : Cx p s m c args b_Mo_wipe R_Mo D aC (rg 30 ad) 30 ad := B
  refine j_aloadn B d_Mo_wipe_0 rfl ?_
  refine j_iloadn B d_Mo_wipe_1 rfl ?_
  refine j_iconst (v := 0) B d_Mo_wipe_2 (by decide) ?_
  refine j_iconst (v := 5) B d_Mo_wipe_3 (by decide) ?_
  refine j_cS B (ok_Mo_outside x k 0 5) cs_Mo_outside ml_Mo_104 rfl ⟨rfl, rfl, by decide, by decide⟩ ⟨Nat.zero_le _, Nat.zero_le _⟩ hml (Nat.le_of_ble_eq_true rfl) rfl d_Mo_wipe_4 ?_
  refine j_iconst (v := 0) B d_Mo_wipe_7 (by decide) ?_
  refine j_cVt B (ok_Mo_fails x (bI (k < 0 ∨ 5 < k)) 0) cv_Mo_fails ml_Mo_108 (m_0) rfl rfl ⟨rfl, rfl, by decide, by decide⟩ ⟨Nat.zero_le _, Nat.zero_le _⟩ hml (Nat.le_of_ble_eq_true rfl) rfl d_Mo_wipe_8 ?_
  refine j_if_ne (tgt := 21) B d_Mo_wipe_11 (by decide) (fun h11 => ?_) (fun h11 => (show False from bI_e h11 (by rw [fv1 (bI1 h1)]; decide)).elim)
  exact j_vret B hr hlk d_Mo_wipe_21 (rfl) (by rw [fv1 (bI1 h1)])
theorem f_in {f : Nat} (hf : f < 6) : ¬ (nI f < 0 ∨ 5 < nI f) := fun z => z.elim (nI_pos (by omega)) (fun q => absurd (nIlt (c := 5) q (by decide) (by omega)) (by omega))
set_option maxRecDepth 100000 in
theorem ok_Mo_wipe_0 {l : Launch} {D : va_G} {aC : Nat → ClassId} {ad : Nat → Nat} {f : Nat} (hf : f < 6) (x : tm_M) :
    OkM l y_Mo_wipe b_Mo_wipe 2 none (rom 1 22) D aC ad [.ref (ad 0), .int (nI f)] x none (sA (sI x (0, 0, 0) 0 0) (0, 0, 2) f 0) := by
  refine ok_start (by decide) (Nat.le_of_ble_eq_true rfl) rfl ?_
  intro p e s m args below meth c B hr hlk hml
  have B : Cx p s m c args b_Mo_wipe R_Mo D aC (rg 30 ad) 30 ad := B
  refine j_aloadn B d_Mo_wipe_0 rfl ?_
  refine j_iloadn B d_Mo_wipe_1 rfl ?_
  refine j_iconst (v := 0) B d_Mo_wipe_2 (by decide) ?_
  refine j_iconst (v := 5) B d_Mo_wipe_3 (by decide) ?_
  refine j_cS B (ok_Mo_outside x (nI f) 0 5) cs_Mo_outside ml_Mo_104 rfl ⟨rfl, rfl, by decide, by decide⟩ ⟨Nat.zero_le _, Nat.zero_le _⟩ hml (Nat.le_of_ble_eq_true rfl) rfl d_Mo_wipe_4 ?_
  refine j_iconst (v := 0) B d_Mo_wipe_7 (by decide) ?_
  refine j_cVt B (ok_Mo_fails x (bI (nI f < 0 ∨ 5 < nI f)) 0) cv_Mo_fails ml_Mo_108 (m_0) rfl rfl ⟨rfl, rfl, by decide, by decide⟩ ⟨Nat.zero_le _, Nat.zero_le _⟩ hml (Nat.le_of_ble_eq_true rfl) rfl d_Mo_wipe_8 ?_
  refine j_if_ne (tgt := 21) B d_Mo_wipe_11 (by decide) (fun h11 => (show False from absurd (bI_ne h11) (by rw [fv0 (bI_f (f_in hf)) rfl]; decide)).elim) (fun h11 => ?_)
  refine j_x (sI x (0, 0, 0) 0 0) (by rw [fv0 (bI_f (f_in hf)) rfl]) ?_
  refine j_aloadn B d_Mo_wipe_14 rfl ?_
  refine j_getr B fl_Mo_17 (m_0) rfl d_Mo_wipe_15 ?_
  refine j_iloadn B d_Mo_wipe_18 rfl ?_
  refine j_iconst (v := 0) B d_Mo_wipe_19 (by decide) ?_
  refine j_iast B kM_inj (m_2) (⟨rfl, hf, by decide⟩) d_Mo_wipe_20 ?_
  exact j_vret B hr hlk d_Mo_wipe_21 (rfl) (rfl)
