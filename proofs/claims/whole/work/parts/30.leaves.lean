set_option maxRecDepth 100000 in
theorem ok_Pr_hasInstruction {l : Launch} {D : va_G} {aC : Nat → ClassId} {ad : Nat → Nat} {f : Nat} (hf : f < 6) (x : tm_M) (k : Int32) :
    OkX l y_Pr_hasInstruction b_Pr_hasInstruction 2 (some .boolean) (rom 0 0) D aC ad [.ref (ad (prO f)), .int k] x (some (.int (bI (0 ≤ k ∧ k < x.1 (6, f, 0) 2)))) x := by
  refine ok_start (by decide) (Nat.le_of_ble_eq_true rfl) rfl ?_
  intro p e s m args below meth c B hr hlk hml
  have B : Cx p s m c args b_Pr_hasInstruction R_Pr D aC (rg 111 ad) 111 ad := B
  refine j_iloadn B d_Pr_hasInstruction_0 rfl ?_
  refine j_if_lt (tgt := 16) B d_Pr_hasInstruction_1 (by decide) (fun h1 => ?_) (fun h1 => ?_)
  · -- yes
    refine j_iconst (v := 0) B d_Pr_hasInstruction_16 (by decide) ?_
    exact j_zret B hr hlk d_Pr_hasInstruction_17 (by first | exact Or.inl rfl | exact Or.inr rfl) (by first | exact (congrArg (fun v => some (Value.int v)) (bI_f (fun h => absurd h.1 (Int32.not_le.mpr h1)))).symm | exact (congrArg (fun v => some (Value.int v)) (bI_f (fun h => absurd h.2 (Int32.not_lt.mpr h9)))).symm | exact (congrArg (fun v => some (Value.int v)) (bI_t ⟨Int32.not_lt.mp h1, Int32.not_le.mp h9⟩)).symm) (rfl)
  · -- no
    refine j_iloadn B d_Pr_hasInstruction_4 rfl ?_
    refine j_aloadn B d_Pr_hasInstruction_5 rfl ?_
    refine j_geti B fl_Pr_36 (q_pr hf) rfl d_Pr_hasInstruction_6 ?_
    refine j_icmp_ge (tgt := 16) B d_Pr_hasInstruction_9 (by decide) (fun h9 => ?_) (fun h9 => ?_)
    · -- yes
      refine j_iconst (v := 0) B d_Pr_hasInstruction_16 (by decide) ?_
      exact j_zret B hr hlk d_Pr_hasInstruction_17 (by first | exact Or.inl rfl | exact Or.inr rfl) (by first | exact (congrArg (fun v => some (Value.int v)) (bI_f (fun h => absurd h.1 (Int32.not_le.mpr h1)))).symm | exact (congrArg (fun v => some (Value.int v)) (bI_f (fun h => absurd h.2 (Int32.not_lt.mpr h9)))).symm | exact (congrArg (fun v => some (Value.int v)) (bI_t ⟨Int32.not_lt.mp h1, Int32.not_le.mp h9⟩)).symm) (rfl)
    · -- no
      refine j_iconst (v := 1) B d_Pr_hasInstruction_12 (by decide) ?_
      refine j_goto (tgt := 17) B d_Pr_hasInstruction_13 (by decide) ?_
      exact j_zret B hr hlk d_Pr_hasInstruction_17 (by first | exact Or.inl rfl | exact Or.inr rfl) (by first | exact (congrArg (fun v => some (Value.int v)) (bI_f (fun h => absurd h.1 (Int32.not_le.mpr h1)))).symm | exact (congrArg (fun v => some (Value.int v)) (bI_f (fun h => absurd h.2 (Int32.not_lt.mpr h9)))).symm | exact (congrArg (fun v => some (Value.int v)) (bI_t ⟨Int32.not_lt.mp h1, Int32.not_le.mp h9⟩)).symm) (rfl)
set_option maxRecDepth 100000 in
theorem ok_Pr_hasAction {l : Launch} {D : va_G} {aC : Nat → ClassId} {ad : Nat → Nat} {f : Nat} (hf : f < 6) (x : tm_M) (k : Int32) :
    OkX l y_Pr_hasAction b_Pr_hasAction 2 (some .boolean) (rom 0 0) D aC ad [.ref (ad (prO f)), .int k] x (some (.int (bI (0 ≤ k ∧ k < x.1 (6, f, 0) 6)))) x := by
  refine ok_start (by decide) (Nat.le_of_ble_eq_true rfl) rfl ?_
  intro p e s m args below meth c B hr hlk hml
  have B : Cx p s m c args b_Pr_hasAction R_Pr D aC (rg 111 ad) 111 ad := B
  refine j_iloadn B d_Pr_hasAction_0 rfl ?_
  refine j_if_lt (tgt := 16) B d_Pr_hasAction_1 (by decide) (fun h1 => ?_) (fun h1 => ?_)
  · -- yes
    refine j_iconst (v := 0) B d_Pr_hasAction_16 (by decide) ?_
    exact j_zret B hr hlk d_Pr_hasAction_17 (by first | exact Or.inl rfl | exact Or.inr rfl) (by first | exact (congrArg (fun v => some (Value.int v)) (bI_f (fun h => absurd h.1 (Int32.not_le.mpr h1)))).symm | exact (congrArg (fun v => some (Value.int v)) (bI_f (fun h => absurd h.2 (Int32.not_lt.mpr h9)))).symm | exact (congrArg (fun v => some (Value.int v)) (bI_t ⟨Int32.not_lt.mp h1, Int32.not_le.mp h9⟩)).symm) (rfl)
  · -- no
    refine j_iloadn B d_Pr_hasAction_4 rfl ?_
    refine j_aloadn B d_Pr_hasAction_5 rfl ?_
    refine j_geti B fl_Pr_40 (q_pr hf) rfl d_Pr_hasAction_6 ?_
    refine j_icmp_ge (tgt := 16) B d_Pr_hasAction_9 (by decide) (fun h9 => ?_) (fun h9 => ?_)
    · -- yes
      refine j_iconst (v := 0) B d_Pr_hasAction_16 (by decide) ?_
      exact j_zret B hr hlk d_Pr_hasAction_17 (by first | exact Or.inl rfl | exact Or.inr rfl) (by first | exact (congrArg (fun v => some (Value.int v)) (bI_f (fun h => absurd h.1 (Int32.not_le.mpr h1)))).symm | exact (congrArg (fun v => some (Value.int v)) (bI_f (fun h => absurd h.2 (Int32.not_lt.mpr h9)))).symm | exact (congrArg (fun v => some (Value.int v)) (bI_t ⟨Int32.not_lt.mp h1, Int32.not_le.mp h9⟩)).symm) (rfl)
    · -- no
      refine j_iconst (v := 1) B d_Pr_hasAction_12 (by decide) ?_
      refine j_goto (tgt := 17) B d_Pr_hasAction_13 (by decide) ?_
      exact j_zret B hr hlk d_Pr_hasAction_17 (by first | exact Or.inl rfl | exact Or.inr rfl) (by first | exact (congrArg (fun v => some (Value.int v)) (bI_f (fun h => absurd h.1 (Int32.not_le.mpr h1)))).symm | exact (congrArg (fun v => some (Value.int v)) (bI_f (fun h => absurd h.2 (Int32.not_lt.mpr h9)))).symm | exact (congrArg (fun v => some (Value.int v)) (bI_t ⟨Int32.not_lt.mp h1, Int32.not_le.mp h9⟩)).symm) (rfl)
set_option maxRecDepth 100000 in
theorem ok_Pr_hasSite {l : Launch} {D : va_G} {aC : Nat → ClassId} {ad : Nat → Nat} {f : Nat} (hf : f < 6) (x : tm_M) (k : Int32) :
    OkX l y_Pr_hasSite b_Pr_hasSite 2 (some .boolean) (rom 0 0) D aC ad [.ref (ad (prO f)), .int k] x (some (.int (bI (0 ≤ k ∧ k < x.1 (6, f, 0) 10)))) x := by
  refine ok_start (by decide) (Nat.le_of_ble_eq_true rfl) rfl ?_
  intro p e s m args below meth c B hr hlk hml
  have B : Cx p s m c args b_Pr_hasSite R_Pr D aC (rg 111 ad) 111 ad := B
  refine j_iloadn B d_Pr_hasSite_0 rfl ?_
  refine j_if_lt (tgt := 16) B d_Pr_hasSite_1 (by decide) (fun h1 => ?_) (fun h1 => ?_)
  · -- yes
    refine j_iconst (v := 0) B d_Pr_hasSite_16 (by decide) ?_
    exact j_zret B hr hlk d_Pr_hasSite_17 (by first | exact Or.inl rfl | exact Or.inr rfl) (by first | exact (congrArg (fun v => some (Value.int v)) (bI_f (fun h => absurd h.1 (Int32.not_le.mpr h1)))).symm | exact (congrArg (fun v => some (Value.int v)) (bI_f (fun h => absurd h.2 (Int32.not_lt.mpr h9)))).symm | exact (congrArg (fun v => some (Value.int v)) (bI_t ⟨Int32.not_lt.mp h1, Int32.not_le.mp h9⟩)).symm) (rfl)
  · -- no
    refine j_iloadn B d_Pr_hasSite_4 rfl ?_
    refine j_aloadn B d_Pr_hasSite_5 rfl ?_
    refine j_geti B fl_Pr_43 (q_pr hf) rfl d_Pr_hasSite_6 ?_
    refine j_icmp_ge (tgt := 16) B d_Pr_hasSite_9 (by decide) (fun h9 => ?_) (fun h9 => ?_)
    · -- yes
      refine j_iconst (v := 0) B d_Pr_hasSite_16 (by decide) ?_
      exact j_zret B hr hlk d_Pr_hasSite_17 (by first | exact Or.inl rfl | exact Or.inr rfl) (by first | exact (congrArg (fun v => some (Value.int v)) (bI_f (fun h => absurd h.1 (Int32.not_le.mpr h1)))).symm | exact (congrArg (fun v => some (Value.int v)) (bI_f (fun h => absurd h.2 (Int32.not_lt.mpr h9)))).symm | exact (congrArg (fun v => some (Value.int v)) (bI_t ⟨Int32.not_lt.mp h1, Int32.not_le.mp h9⟩)).symm) (rfl)
    · -- no
      refine j_iconst (v := 1) B d_Pr_hasSite_12 (by decide) ?_
      refine j_goto (tgt := 17) B d_Pr_hasSite_13 (by decide) ?_
      exact j_zret B hr hlk d_Pr_hasSite_17 (by first | exact Or.inl rfl | exact Or.inr rfl) (by first | exact (congrArg (fun v => some (Value.int v)) (bI_f (fun h => absurd h.1 (Int32.not_le.mpr h1)))).symm | exact (congrArg (fun v => some (Value.int v)) (bI_f (fun h => absurd h.2 (Int32.not_lt.mpr h9)))).symm | exact (congrArg (fun v => some (Value.int v)) (bI_t ⟨Int32.not_lt.mp h1, Int32.not_le.mp h9⟩)).symm) (rfl)
set_option maxRecDepth 100000 in
theorem ok_Ty_has {l : Launch} {D : va_G} {aC : Nat → ClassId} {ad : Nat → Nat}  (x : tm_M) (k : Int32) :
    OkX l y_Ty_has b_Ty_has 2 (some .boolean) (rom 0 0) D aC ad [.ref (ad 35), .int k] x (some (.int (bI (0 ≤ k ∧ k < x.1 (5, 0, 1) 1)))) x := by
  refine ok_start (by decide) (Nat.le_of_ble_eq_true rfl) rfl ?_
  intro p e s m args below meth c B hr hlk hml
  have B : Cx p s m c args b_Ty_has R_Ty D aC (rg 111 ad) 111 ad := B
  refine j_iloadn B d_Ty_has_0 rfl ?_
  refine j_if_lt (tgt := 16) B d_Ty_has_1 (by decide) (fun h1 => ?_) (fun h1 => ?_)
  · -- yes
    refine j_iconst (v := 0) B d_Ty_has_16 (by decide) ?_
    exact j_zret B hr hlk d_Ty_has_17 (by first | exact Or.inl rfl | exact Or.inr rfl) (by first | exact (congrArg (fun v => some (Value.int v)) (bI_f (fun h => absurd h.1 (Int32.not_le.mpr h1)))).symm | exact (congrArg (fun v => some (Value.int v)) (bI_f (fun h => absurd h.2 (Int32.not_lt.mpr h9)))).symm | exact (congrArg (fun v => some (Value.int v)) (bI_t ⟨Int32.not_lt.mp h1, Int32.not_le.mp h9⟩)).symm) (rfl)
  · -- no
    refine j_iloadn B d_Ty_has_4 rfl ?_
    refine j_aloadn B d_Ty_has_5 rfl ?_
    refine j_geti B fl_Ty_15 (q_35) rfl d_Ty_has_6 ?_
    refine j_icmp_ge (tgt := 16) B d_Ty_has_9 (by decide) (fun h9 => ?_) (fun h9 => ?_)
    · -- yes
      refine j_iconst (v := 0) B d_Ty_has_16 (by decide) ?_
      exact j_zret B hr hlk d_Ty_has_17 (by first | exact Or.inl rfl | exact Or.inr rfl) (by first | exact (congrArg (fun v => some (Value.int v)) (bI_f (fun h => absurd h.1 (Int32.not_le.mpr h1)))).symm | exact (congrArg (fun v => some (Value.int v)) (bI_f (fun h => absurd h.2 (Int32.not_lt.mpr h9)))).symm | exact (congrArg (fun v => some (Value.int v)) (bI_t ⟨Int32.not_lt.mp h1, Int32.not_le.mp h9⟩)).symm) (rfl)
    · -- no
      refine j_iconst (v := 1) B d_Ty_has_12 (by decide) ?_
      refine j_goto (tgt := 17) B d_Ty_has_13 (by decide) ?_
      exact j_zret B hr hlk d_Ty_has_17 (by first | exact Or.inl rfl | exact Or.inr rfl) (by first | exact (congrArg (fun v => some (Value.int v)) (bI_f (fun h => absurd h.1 (Int32.not_le.mpr h1)))).symm | exact (congrArg (fun v => some (Value.int v)) (bI_f (fun h => absurd h.2 (Int32.not_lt.mpr h9)))).symm | exact (congrArg (fun v => some (Value.int v)) (bI_t ⟨Int32.not_lt.mp h1, Int32.not_le.mp h9⟩)).symm) (rfl)
set_option maxRecDepth 100000 in
theorem ok_Tx_has {l : Launch} {D : va_G} {aC : Nat → ClassId} {ad : Nat → Nat} {f : Nat} (hf : f < 6) (x : tm_M) (k : Int32) :
    OkX l y_Tx_has b_Tx_has 2 (some .boolean) (rom 0 0) D aC ad [.ref (ad (txO f)), .int k] x (some (.int (bI (0 ≤ k ∧ k < x.1 (1, f, 0) 2)))) x := by
  refine ok_start (by decide) (Nat.le_of_ble_eq_true rfl) rfl ?_
  intro p e s m args below meth c B hr hlk hml
  have B : Cx p s m c args b_Tx_has R_Tx D aC (rg 111 ad) 111 ad := B
  refine j_iloadn B d_Tx_has_0 rfl ?_
  refine j_if_lt (tgt := 16) B d_Tx_has_1 (by decide) (fun h1 => ?_) (fun h1 => ?_)
  · -- yes
    refine j_iconst (v := 0) B d_Tx_has_16 (by decide) ?_
    exact j_zret B hr hlk d_Tx_has_17 (by first | exact Or.inl rfl | exact Or.inr rfl) (by first | exact (congrArg (fun v => some (Value.int v)) (bI_f (fun h => absurd h.1 (Int32.not_le.mpr h1)))).symm | exact (congrArg (fun v => some (Value.int v)) (bI_f (fun h => absurd h.2 (Int32.not_lt.mpr h9)))).symm | exact (congrArg (fun v => some (Value.int v)) (bI_t ⟨Int32.not_lt.mp h1, Int32.not_le.mp h9⟩)).symm) (rfl)
  · -- no
    refine j_iloadn B d_Tx_has_4 rfl ?_
    refine j_aloadn B d_Tx_has_5 rfl ?_
    refine j_geti B fl_Tx_18 (q_tx hf) rfl d_Tx_has_6 ?_
    refine j_icmp_ge (tgt := 16) B d_Tx_has_9 (by decide) (fun h9 => ?_) (fun h9 => ?_)
    · -- yes
      refine j_iconst (v := 0) B d_Tx_has_16 (by decide) ?_
      exact j_zret B hr hlk d_Tx_has_17 (by first | exact Or.inl rfl | exact Or.inr rfl) (by first | exact (congrArg (fun v => some (Value.int v)) (bI_f (fun h => absurd h.1 (Int32.not_le.mpr h1)))).symm | exact (congrArg (fun v => some (Value.int v)) (bI_f (fun h => absurd h.2 (Int32.not_lt.mpr h9)))).symm | exact (congrArg (fun v => some (Value.int v)) (bI_t ⟨Int32.not_lt.mp h1, Int32.not_le.mp h9⟩)).symm) (rfl)
    · -- no
      refine j_iconst (v := 1) B d_Tx_has_12 (by decide) ?_
      refine j_goto (tgt := 17) B d_Tx_has_13 (by decide) ?_
      exact j_zret B hr hlk d_Tx_has_17 (by first | exact Or.inl rfl | exact Or.inr rfl) (by first | exact (congrArg (fun v => some (Value.int v)) (bI_f (fun h => absurd h.1 (Int32.not_le.mpr h1)))).symm | exact (congrArg (fun v => some (Value.int v)) (bI_f (fun h => absurd h.2 (Int32.not_lt.mpr h9)))).symm | exact (congrArg (fun v => some (Value.int v)) (bI_t ⟨Int32.not_lt.mp h1, Int32.not_le.mp h9⟩)).symm) (rfl)
set_option maxRecDepth 100000 in
theorem ok_Ta_hasNumber {l : Launch} {D : va_G} {aC : Nat → ClassId} {ad : Nat → Nat}  (x : tm_M) (k : Int32) :
    OkX l y_Ta_hasNumber b_Ta_hasNumber 2 (some .boolean) (rom 0 0) D aC ad [.ref (ad 37), .int k] x (some (.int (bI (0 ≤ k ∧ k < x.1 (5, 0, 3) 1)))) x := by
  refine ok_start (by decide) (Nat.le_of_ble_eq_true rfl) rfl ?_
  intro p e s m args below meth c B hr hlk hml
  have B : Cx p s m c args b_Ta_hasNumber R_Ta D aC (rg 111 ad) 111 ad := B
  refine j_iloadn B d_Ta_hasNumber_0 rfl ?_
  refine j_if_lt (tgt := 16) B d_Ta_hasNumber_1 (by decide) (fun h1 => ?_) (fun h1 => ?_)
  · -- yes
    refine j_iconst (v := 0) B d_Ta_hasNumber_16 (by decide) ?_
    exact j_zret B hr hlk d_Ta_hasNumber_17 (by first | exact Or.inl rfl | exact Or.inr rfl) (by first | exact (congrArg (fun v => some (Value.int v)) (bI_f (fun h => absurd h.1 (Int32.not_le.mpr h1)))).symm | exact (congrArg (fun v => some (Value.int v)) (bI_f (fun h => absurd h.2 (Int32.not_lt.mpr h9)))).symm | exact (congrArg (fun v => some (Value.int v)) (bI_t ⟨Int32.not_lt.mp h1, Int32.not_le.mp h9⟩)).symm) (rfl)
  · -- no
    refine j_iloadn B d_Ta_hasNumber_4 rfl ?_
    refine j_aloadn B d_Ta_hasNumber_5 rfl ?_
    refine j_geti B fl_Ta_19 (q_37) rfl d_Ta_hasNumber_6 ?_
    refine j_icmp_ge (tgt := 16) B d_Ta_hasNumber_9 (by decide) (fun h9 => ?_) (fun h9 => ?_)
    · -- yes
      refine j_iconst (v := 0) B d_Ta_hasNumber_16 (by decide) ?_
      exact j_zret B hr hlk d_Ta_hasNumber_17 (by first | exact Or.inl rfl | exact Or.inr rfl) (by first | exact (congrArg (fun v => some (Value.int v)) (bI_f (fun h => absurd h.1 (Int32.not_le.mpr h1)))).symm | exact (congrArg (fun v => some (Value.int v)) (bI_f (fun h => absurd h.2 (Int32.not_lt.mpr h9)))).symm | exact (congrArg (fun v => some (Value.int v)) (bI_t ⟨Int32.not_lt.mp h1, Int32.not_le.mp h9⟩)).symm) (rfl)
    · -- no
      refine j_iconst (v := 1) B d_Ta_hasNumber_12 (by decide) ?_
      refine j_goto (tgt := 17) B d_Ta_hasNumber_13 (by decide) ?_
      exact j_zret B hr hlk d_Ta_hasNumber_17 (by first | exact Or.inl rfl | exact Or.inr rfl) (by first | exact (congrArg (fun v => some (Value.int v)) (bI_f (fun h => absurd h.1 (Int32.not_le.mpr h1)))).symm | exact (congrArg (fun v => some (Value.int v)) (bI_f (fun h => absurd h.2 (Int32.not_lt.mpr h9)))).symm | exact (congrArg (fun v => some (Value.int v)) (bI_t ⟨Int32.not_lt.mp h1, Int32.not_le.mp h9⟩)).symm) (rfl)
theorem bI_ne {b : Prop} [Decidable b] (h : ¬ bI b = 0) : b := by
  by_cases hb : b
  · exact hb
  · exact absurd (bI_f hb) h
theorem bI_e {b : Prop} [Decidable b] (h : bI b = 0) : ¬ b := fun hb => by rw [bI_t hb] at h; exact absurd h (by decide)
/-- a guarded index is a number in range -/
theorem ixg {k c : Int32} {a N : Nat} (h : 0 ≤ k ∧ k < c) (hc : c = nI a) (ha : a ≤ N) (hN : N < 2 ^ 31) : k = nI k.toNatClampNeg ∧ k.toNatClampNeg < N ∧ N < 2 ^ 31 := by
  obtain ⟨j, hj, rfl⟩ := nI_of (x := k) (Int32.not_lt.mpr h.1)
  rw [nI_clamp hj]
  refine ⟨rfl, ?_, hN⟩
  have h2 := h.2
  rw [hc] at h2
  have := (nI_ltI hj (by omega)).mp h2
  omega
set_option maxRecDepth 100000 in
theorem ok_Pr_letterAt {l : Launch} {D : va_G} {aC : Nat → ClassId} {ad : Nat → Nat} {f : Nat} (hf : f < 6) (x : tm_M) (k : Int32) {a : Nat} (hc : x.1 (6, f, 0) 2 = nI a) (hN : a ≤ 81) :
    OkX l y_Pr_letterAt b_Pr_letterAt 2 (some .int) (rom 1 21) D aC ad [.ref (ad (prO f)), .int k] x (some (.int (if 0 ≤ k ∧ k < x.1 (6, f, 0) 2 then x.2 (6, f, 1) k.toNatClampNeg else 8))) x := by
  refine ok_start (by decide) (Nat.le_of_ble_eq_true rfl) rfl ?_
  intro p e s m args below meth c B hr hlk hml
  have B : Cx p s m c args b_Pr_letterAt R_Pr D aC (rg 111 ad) 111 ad := B
  refine j_aloadn B d_Pr_letterAt_0 rfl ?_
  refine j_iloadn B d_Pr_letterAt_1 rfl ?_
  refine j_cVt B (ok_Pr_hasInstruction hf x k) cv_Pr_hasInstruction ml_Pr_46 (q_pr hf) rfl rfl ⟨rfl, rfl, by decide, by decide⟩ ⟨Nat.zero_le _, Nat.zero_le _⟩ hml (Nat.le_of_ble_eq_true rfl) rfl d_Pr_letterAt_2 ?_
  refine j_if_eq (tgt := 17) B d_Pr_letterAt_5 (by decide) (fun h5 => ?_) (fun h5 => ?_)
  · -- yes
    refine j_bipush (v := 8) B d_Pr_letterAt_17 (by decide) ?_
    exact j_iret B hr hlk d_Pr_letterAt_19 (by first | rw [if_pos (bI_ne h5)] | rw [if_neg (bI_e h5)]) (rfl)
  · -- no
    refine j_aloadn B d_Pr_letterAt_8 rfl ?_
    refine j_getr B fl_Pr_9 (q_pr hf) rfl d_Pr_letterAt_9 ?_
    refine j_iloadn B d_Pr_letterAt_12 rfl ?_
    refine j_iald B (q_pr1 hf) (ixg (bI_ne h5) hc hN (by decide)) d_Pr_letterAt_13 ?_
    refine j_goto (tgt := 19) B d_Pr_letterAt_14 (by decide) ?_
    exact j_iret B hr hlk d_Pr_letterAt_19 (by first | rw [if_pos (bI_ne h5)] | rw [if_neg (bI_e h5)]) (rfl)
set_option maxRecDepth 100000 in
theorem ok_Pr_valueAt {l : Launch} {D : va_G} {aC : Nat → ClassId} {ad : Nat → Nat} {f : Nat} (hf : f < 6) (x : tm_M) (k : Int32) {a : Nat} (hc : x.1 (6, f, 0) 2 = nI a) (hN : a ≤ 81) :
    OkX l y_Pr_valueAt b_Pr_valueAt 2 (some .int) (rom 1 21) D aC ad [.ref (ad (prO f)), .int k] x (some (.int (if 0 ≤ k ∧ k < x.1 (6, f, 0) 2 then x.2 (6, f, 2) k.toNatClampNeg else 0))) x := by
  refine ok_start (by decide) (Nat.le_of_ble_eq_true rfl) rfl ?_
  intro p e s m args below meth c B hr hlk hml
  have B : Cx p s m c args b_Pr_valueAt R_Pr D aC (rg 111 ad) 111 ad := B
  refine j_aloadn B d_Pr_valueAt_0 rfl ?_
  refine j_iloadn B d_Pr_valueAt_1 rfl ?_
  refine j_cVt B (ok_Pr_hasInstruction hf x k) cv_Pr_hasInstruction ml_Pr_46 (q_pr hf) rfl rfl ⟨rfl, rfl, by decide, by decide⟩ ⟨Nat.zero_le _, Nat.zero_le _⟩ hml (Nat.le_of_ble_eq_true rfl) rfl d_Pr_valueAt_2 ?_
  refine j_if_eq (tgt := 17) B d_Pr_valueAt_5 (by decide) (fun h5 => ?_) (fun h5 => ?_)
  · -- yes
    refine j_iconst (v := 0) B d_Pr_valueAt_17 (by decide) ?_
    exact j_iret B hr hlk d_Pr_valueAt_18 (by first | rw [if_pos (bI_ne h5)] | rw [if_neg (bI_e h5)]) (rfl)
  · -- no
    refine j_aloadn B d_Pr_valueAt_8 rfl ?_
    refine j_getr B fl_Pr_15 (q_pr hf) rfl d_Pr_valueAt_9 ?_
    refine j_iloadn B d_Pr_valueAt_12 rfl ?_
    refine j_iald B (q_pr2 hf) (ixg (bI_ne h5) hc hN (by decide)) d_Pr_valueAt_13 ?_
    refine j_goto (tgt := 18) B d_Pr_valueAt_14 (by decide) ?_
    exact j_iret B hr hlk d_Pr_valueAt_18 (by first | rw [if_pos (bI_ne h5)] | rw [if_neg (bI_e h5)]) (rfl)
set_option maxRecDepth 100000 in
theorem ok_Pr_filterOf {l : Launch} {D : va_G} {aC : Nat → ClassId} {ad : Nat → Nat} {f : Nat} (hf : f < 6) (x : tm_M) (k : Int32) {a : Nat} (hc : x.1 (6, f, 0) 6 = nI a) (hN : a ≤ 40) :
    OkX l y_Pr_filterOf b_Pr_filterOf 2 (some .int) (rom 1 21) D aC ad [.ref (ad (prO f)), .int k] x (some (.int (if 0 ≤ k ∧ k < x.1 (6, f, 0) 6 then x.2 (6, f, 3) k.toNatClampNeg else -2))) x := by
  refine ok_start (by decide) (Nat.le_of_ble_eq_true rfl) rfl ?_
  intro p e s m args below meth c B hr hlk hml
  have B : Cx p s m c args b_Pr_filterOf R_Pr D aC (rg 111 ad) 111 ad := B
  refine j_aloadn B d_Pr_filterOf_0 rfl ?_
  refine j_iloadn B d_Pr_filterOf_1 rfl ?_
  refine j_cVt B (ok_Pr_hasAction hf x k) cv_Pr_hasAction ml_Pr_50 (q_pr hf) rfl rfl ⟨rfl, rfl, by decide, by decide⟩ ⟨Nat.zero_le _, Nat.zero_le _⟩ hml (Nat.le_of_ble_eq_true rfl) rfl d_Pr_filterOf_2 ?_
  refine j_if_eq (tgt := 17) B d_Pr_filterOf_5 (by decide) (fun h5 => ?_) (fun h5 => ?_)
  · -- yes
    refine j_bipush (v := (-2)) B d_Pr_filterOf_17 (by decide) ?_
    exact j_iret B hr hlk d_Pr_filterOf_19 (by first | rw [if_pos (bI_ne h5)] | rw [if_neg (bI_e h5)]) (rfl)
  · -- no
    refine j_aloadn B d_Pr_filterOf_8 rfl ?_
    refine j_getr B fl_Pr_18 (q_pr hf) rfl d_Pr_filterOf_9 ?_
    refine j_iloadn B d_Pr_filterOf_12 rfl ?_
    refine j_iald B (q_pr3 hf) (ixg (bI_ne h5) hc hN (by decide)) d_Pr_filterOf_13 ?_
    refine j_goto (tgt := 19) B d_Pr_filterOf_14 (by decide) ?_
    exact j_iret B hr hlk d_Pr_filterOf_19 (by first | rw [if_pos (bI_ne h5)] | rw [if_neg (bI_e h5)]) (rfl)
set_option maxRecDepth 100000 in
theorem ok_Pr_landingOf {l : Launch} {D : va_G} {aC : Nat → ClassId} {ad : Nat → Nat} {f : Nat} (hf : f < 6) (x : tm_M) (k : Int32) {a : Nat} (hc : x.1 (6, f, 0) 6 = nI a) (hN : a ≤ 40) :
    OkX l y_Pr_landingOf b_Pr_landingOf 2 (some .int) (rom 1 21) D aC ad [.ref (ad (prO f)), .int k] x (some (.int (if 0 ≤ k ∧ k < x.1 (6, f, 0) 6 then x.2 (6, f, 4) k.toNatClampNeg else 0))) x := by
  refine ok_start (by decide) (Nat.le_of_ble_eq_true rfl) rfl ?_
  intro p e s m args below meth c B hr hlk hml
  have B : Cx p s m c args b_Pr_landingOf R_Pr D aC (rg 111 ad) 111 ad := B
  refine j_aloadn B d_Pr_landingOf_0 rfl ?_
  refine j_iloadn B d_Pr_landingOf_1 rfl ?_
  refine j_cVt B (ok_Pr_hasAction hf x k) cv_Pr_hasAction ml_Pr_50 (q_pr hf) rfl rfl ⟨rfl, rfl, by decide, by decide⟩ ⟨Nat.zero_le _, Nat.zero_le _⟩ hml (Nat.le_of_ble_eq_true rfl) rfl d_Pr_landingOf_2 ?_
  refine j_if_eq (tgt := 17) B d_Pr_landingOf_5 (by decide) (fun h5 => ?_) (fun h5 => ?_)
  · -- yes
    refine j_iconst (v := 0) B d_Pr_landingOf_17 (by decide) ?_
    exact j_iret B hr hlk d_Pr_landingOf_18 (by first | rw [if_pos (bI_ne h5)] | rw [if_neg (bI_e h5)]) (rfl)
  · -- no
    refine j_aloadn B d_Pr_landingOf_8 rfl ?_
    refine j_getr B fl_Pr_21 (q_pr hf) rfl d_Pr_landingOf_9 ?_
    refine j_iloadn B d_Pr_landingOf_12 rfl ?_
    refine j_iald B (q_pr4 hf) (ixg (bI_ne h5) hc hN (by decide)) d_Pr_landingOf_13 ?_
    refine j_goto (tgt := 18) B d_Pr_landingOf_14 (by decide) ?_
    exact j_iret B hr hlk d_Pr_landingOf_18 (by first | rw [if_pos (bI_ne h5)] | rw [if_neg (bI_e h5)]) (rfl)
set_option maxRecDepth 100000 in
theorem ok_Pr_nextOf {l : Launch} {D : va_G} {aC : Nat → ClassId} {ad : Nat → Nat} {f : Nat} (hf : f < 6) (x : tm_M) (k : Int32) {a : Nat} (hc : x.1 (6, f, 0) 6 = nI a) (hN : a ≤ 40) :
    OkX l y_Pr_nextOf b_Pr_nextOf 2 (some .int) (rom 1 21) D aC ad [.ref (ad (prO f)), .int k] x (some (.int (if 0 ≤ k ∧ k < x.1 (6, f, 0) 6 then x.2 (6, f, 5) k.toNatClampNeg else -1))) x := by
  refine ok_start (by decide) (Nat.le_of_ble_eq_true rfl) rfl ?_
  intro p e s m args below meth c B hr hlk hml
  have B : Cx p s m c args b_Pr_nextOf R_Pr D aC (rg 111 ad) 111 ad := B
  refine j_aloadn B d_Pr_nextOf_0 rfl ?_
  refine j_iloadn B d_Pr_nextOf_1 rfl ?_
  refine j_cVt B (ok_Pr_hasAction hf x k) cv_Pr_hasAction ml_Pr_50 (q_pr hf) rfl rfl ⟨rfl, rfl, by decide, by decide⟩ ⟨Nat.zero_le _, Nat.zero_le _⟩ hml (Nat.le_of_ble_eq_true rfl) rfl d_Pr_nextOf_2 ?_
  refine j_if_eq (tgt := 17) B d_Pr_nextOf_5 (by decide) (fun h5 => ?_) (fun h5 => ?_)
  · -- yes
    refine j_iconst (v := (-1)) B d_Pr_nextOf_17 (by decide) ?_
    exact j_iret B hr hlk d_Pr_nextOf_18 (by first | rw [if_pos (bI_ne h5)] | rw [if_neg (bI_e h5)]) (rfl)
  · -- no
    refine j_aloadn B d_Pr_nextOf_8 rfl ?_
    refine j_getr B fl_Pr_24 (q_pr hf) rfl d_Pr_nextOf_9 ?_
    refine j_iloadn B d_Pr_nextOf_12 rfl ?_
    refine j_iald B (q_pr5 hf) (ixg (bI_ne h5) hc hN (by decide)) d_Pr_nextOf_13 ?_
    refine j_goto (tgt := 18) B d_Pr_nextOf_14 (by decide) ?_
    exact j_iret B hr hlk d_Pr_nextOf_18 (by first | rw [if_pos (bI_ne h5)] | rw [if_neg (bI_e h5)]) (rfl)
set_option maxRecDepth 100000 in
theorem ok_Pr_firstPlaceOf {l : Launch} {D : va_G} {aC : Nat → ClassId} {ad : Nat → Nat} {f : Nat} (hf : f < 6) (x : tm_M) (k : Int32) {a : Nat} (hc : x.1 (6, f, 0) 10 = nI a) (hN : a ≤ 20) :
    OkX l y_Pr_firstPlaceOf b_Pr_firstPlaceOf 2 (some .int) (rom 1 21) D aC ad [.ref (ad (prO f)), .int k] x (some (.int (if 0 ≤ k ∧ k < x.1 (6, f, 0) 10 then x.2 (6, f, 6) k.toNatClampNeg else -1))) x := by
  refine ok_start (by decide) (Nat.le_of_ble_eq_true rfl) rfl ?_
  intro p e s m args below meth c B hr hlk hml
  have B : Cx p s m c args b_Pr_firstPlaceOf R_Pr D aC (rg 111 ad) 111 ad := B
  refine j_aloadn B d_Pr_firstPlaceOf_0 rfl ?_
  refine j_iloadn B d_Pr_firstPlaceOf_1 rfl ?_
  refine j_cVt B (ok_Pr_hasSite hf x k) cv_Pr_hasSite ml_Pr_53 (q_pr hf) rfl rfl ⟨rfl, rfl, by decide, by decide⟩ ⟨Nat.zero_le _, Nat.zero_le _⟩ hml (Nat.le_of_ble_eq_true rfl) rfl d_Pr_firstPlaceOf_2 ?_
  refine j_if_eq (tgt := 17) B d_Pr_firstPlaceOf_5 (by decide) (fun h5 => ?_) (fun h5 => ?_)
  · -- yes
    refine j_iconst (v := (-1)) B d_Pr_firstPlaceOf_17 (by decide) ?_
    exact j_iret B hr hlk d_Pr_firstPlaceOf_18 (by first | rw [if_pos (bI_ne h5)] | rw [if_neg (bI_e h5)]) (rfl)
  · -- no
    refine j_aloadn B d_Pr_firstPlaceOf_8 rfl ?_
    refine j_getr B fl_Pr_27 (q_pr hf) rfl d_Pr_firstPlaceOf_9 ?_
    refine j_iloadn B d_Pr_firstPlaceOf_12 rfl ?_
    refine j_iald B (q_pr6 hf) (ixg (bI_ne h5) hc hN (by decide)) d_Pr_firstPlaceOf_13 ?_
    refine j_goto (tgt := 18) B d_Pr_firstPlaceOf_14 (by decide) ?_
    exact j_iret B hr hlk d_Pr_firstPlaceOf_18 (by first | rw [if_pos (bI_ne h5)] | rw [if_neg (bI_e h5)]) (rfl)
set_option maxRecDepth 100000 in
theorem ok_Pr_lastPlaceOf {l : Launch} {D : va_G} {aC : Nat → ClassId} {ad : Nat → Nat} {f : Nat} (hf : f < 6) (x : tm_M) (k : Int32) {a : Nat} (hc : x.1 (6, f, 0) 10 = nI a) (hN : a ≤ 20) :
    OkX l y_Pr_lastPlaceOf b_Pr_lastPlaceOf 2 (some .int) (rom 1 21) D aC ad [.ref (ad (prO f)), .int k] x (some (.int (if 0 ≤ k ∧ k < x.1 (6, f, 0) 10 then x.2 (6, f, 7) k.toNatClampNeg else -1))) x := by
  refine ok_start (by decide) (Nat.le_of_ble_eq_true rfl) rfl ?_
  intro p e s m args below meth c B hr hlk hml
  have B : Cx p s m c args b_Pr_lastPlaceOf R_Pr D aC (rg 111 ad) 111 ad := B
  refine j_aloadn B d_Pr_lastPlaceOf_0 rfl ?_
  refine j_iloadn B d_Pr_lastPlaceOf_1 rfl ?_
  refine j_cVt B (ok_Pr_hasSite hf x k) cv_Pr_hasSite ml_Pr_53 (q_pr hf) rfl rfl ⟨rfl, rfl, by decide, by decide⟩ ⟨Nat.zero_le _, Nat.zero_le _⟩ hml (Nat.le_of_ble_eq_true rfl) rfl d_Pr_lastPlaceOf_2 ?_
  refine j_if_eq (tgt := 17) B d_Pr_lastPlaceOf_5 (by decide) (fun h5 => ?_) (fun h5 => ?_)
  · -- yes
    refine j_iconst (v := (-1)) B d_Pr_lastPlaceOf_17 (by decide) ?_
    exact j_iret B hr hlk d_Pr_lastPlaceOf_18 (by first | rw [if_pos (bI_ne h5)] | rw [if_neg (bI_e h5)]) (rfl)
  · -- no
    refine j_aloadn B d_Pr_lastPlaceOf_8 rfl ?_
    refine j_getr B fl_Pr_30 (q_pr hf) rfl d_Pr_lastPlaceOf_9 ?_
    refine j_iloadn B d_Pr_lastPlaceOf_12 rfl ?_
    refine j_iald B (q_pr7 hf) (ixg (bI_ne h5) hc hN (by decide)) d_Pr_lastPlaceOf_13 ?_
    refine j_goto (tgt := 18) B d_Pr_lastPlaceOf_14 (by decide) ?_
    exact j_iret B hr hlk d_Pr_lastPlaceOf_18 (by first | rw [if_pos (bI_ne h5)] | rw [if_neg (bI_e h5)]) (rfl)
set_option maxRecDepth 100000 in
theorem ok_Pr_siteHeadOf {l : Launch} {D : va_G} {aC : Nat → ClassId} {ad : Nat → Nat} {f : Nat} (hf : f < 6) (x : tm_M) (k : Int32) {a : Nat} (hc : x.1 (6, f, 0) 10 = nI a) (hN : a ≤ 20) :
    OkX l y_Pr_siteHeadOf b_Pr_siteHeadOf 2 (some .int) (rom 1 21) D aC ad [.ref (ad (prO f)), .int k] x (some (.int (if 0 ≤ k ∧ k < x.1 (6, f, 0) 10 then x.2 (6, f, 8) k.toNatClampNeg else -1))) x := by
  refine ok_start (by decide) (Nat.le_of_ble_eq_true rfl) rfl ?_
  intro p e s m args below meth c B hr hlk hml
  have B : Cx p s m c args b_Pr_siteHeadOf R_Pr D aC (rg 111 ad) 111 ad := B
  refine j_aloadn B d_Pr_siteHeadOf_0 rfl ?_
  refine j_iloadn B d_Pr_siteHeadOf_1 rfl ?_
  refine j_cVt B (ok_Pr_hasSite hf x k) cv_Pr_hasSite ml_Pr_53 (q_pr hf) rfl rfl ⟨rfl, rfl, by decide, by decide⟩ ⟨Nat.zero_le _, Nat.zero_le _⟩ hml (Nat.le_of_ble_eq_true rfl) rfl d_Pr_siteHeadOf_2 ?_
  refine j_if_eq (tgt := 17) B d_Pr_siteHeadOf_5 (by decide) (fun h5 => ?_) (fun h5 => ?_)
  · -- yes
    refine j_iconst (v := (-1)) B d_Pr_siteHeadOf_17 (by decide) ?_
    exact j_iret B hr hlk d_Pr_siteHeadOf_18 (by first | rw [if_pos (bI_ne h5)] | rw [if_neg (bI_e h5)]) (rfl)
  · -- no
    refine j_aloadn B d_Pr_siteHeadOf_8 rfl ?_
    refine j_getr B fl_Pr_33 (q_pr hf) rfl d_Pr_siteHeadOf_9 ?_
    refine j_iloadn B d_Pr_siteHeadOf_12 rfl ?_
    refine j_iald B (q_pr8 hf) (ixg (bI_ne h5) hc hN (by decide)) d_Pr_siteHeadOf_13 ?_
    refine j_goto (tgt := 18) B d_Pr_siteHeadOf_14 (by decide) ?_
    exact j_iret B hr hlk d_Pr_siteHeadOf_18 (by first | rw [if_pos (bI_ne h5)] | rw [if_neg (bI_e h5)]) (rfl)
set_option maxRecDepth 100000 in
theorem ok_Tx_statementAt {l : Launch} {D : va_G} {aC : Nat → ClassId} {ad : Nat → Nat} {f : Nat} (hf : f < 6) (x : tm_M) (k : Int32) {a : Nat} (hc : x.1 (1, f, 0) 2 = nI a) (hN : a ≤ 20) :
    OkX l y_Tx_statementAt b_Tx_statementAt 2 (some .int) (rom 1 21) D aC ad [.ref (ad (txO f)), .int k] x (some (.int (if 0 ≤ k ∧ k < x.1 (1, f, 0) 2 then x.2 (1, f, 1) k.toNatClampNeg else -1))) x := by
  refine ok_start (by decide) (Nat.le_of_ble_eq_true rfl) rfl ?_
  intro p e s m args below meth c B hr hlk hml
  have B : Cx p s m c args b_Tx_statementAt R_Tx D aC (rg 111 ad) 111 ad := B
  refine j_aloadn B d_Tx_statementAt_0 rfl ?_
  refine j_iloadn B d_Tx_statementAt_1 rfl ?_
  refine j_cVt B (ok_Tx_has hf x k) cv_Tx_has ml_Tx_26 (q_tx hf) rfl rfl ⟨rfl, rfl, by decide, by decide⟩ ⟨Nat.zero_le _, Nat.zero_le _⟩ hml (Nat.le_of_ble_eq_true rfl) rfl d_Tx_statementAt_2 ?_
  refine j_if_eq (tgt := 17) B d_Tx_statementAt_5 (by decide) (fun h5 => ?_) (fun h5 => ?_)
  · -- yes
    refine j_iconst (v := (-1)) B d_Tx_statementAt_17 (by decide) ?_
    exact j_iret B hr hlk d_Tx_statementAt_18 (by first | rw [if_pos (bI_ne h5)] | rw [if_neg (bI_e h5)]) (rfl)
  · -- no
    refine j_aloadn B d_Tx_statementAt_8 rfl ?_
    refine j_getr B fl_Tx_9 (q_tx hf) rfl d_Tx_statementAt_9 ?_
    refine j_iloadn B d_Tx_statementAt_12 rfl ?_
    refine j_iald B (q_tx1 hf) (ixg (bI_ne h5) hc hN (by decide)) d_Tx_statementAt_13 ?_
    refine j_goto (tgt := 18) B d_Tx_statementAt_14 (by decide) ?_
    exact j_iret B hr hlk d_Tx_statementAt_18 (by first | rw [if_pos (bI_ne h5)] | rw [if_neg (bI_e h5)]) (rfl)
set_option maxRecDepth 100000 in
theorem ok_Tx_operandAt {l : Launch} {D : va_G} {aC : Nat → ClassId} {ad : Nat → Nat} {f : Nat} (hf : f < 6) (x : tm_M) (k : Int32) {a : Nat} (hc : x.1 (1, f, 0) 2 = nI a) (hN : a ≤ 20) :
    OkX l y_Tx_operandAt b_Tx_operandAt 2 (some .int) (rom 1 21) D aC ad [.ref (ad (txO f)), .int k] x (some (.int (if 0 ≤ k ∧ k < x.1 (1, f, 0) 2 then x.2 (1, f, 2) k.toNatClampNeg else -1))) x := by
  refine ok_start (by decide) (Nat.le_of_ble_eq_true rfl) rfl ?_
  intro p e s m args below meth c B hr hlk hml
  have B : Cx p s m c args b_Tx_operandAt R_Tx D aC (rg 111 ad) 111 ad := B
  refine j_aloadn B d_Tx_operandAt_0 rfl ?_
  refine j_iloadn B d_Tx_operandAt_1 rfl ?_
  refine j_cVt B (ok_Tx_has hf x k) cv_Tx_has ml_Tx_26 (q_tx hf) rfl rfl ⟨rfl, rfl, by decide, by decide⟩ ⟨Nat.zero_le _, Nat.zero_le _⟩ hml (Nat.le_of_ble_eq_true rfl) rfl d_Tx_operandAt_2 ?_
  refine j_if_eq (tgt := 17) B d_Tx_operandAt_5 (by decide) (fun h5 => ?_) (fun h5 => ?_)
  · -- yes
    refine j_iconst (v := (-1)) B d_Tx_operandAt_17 (by decide) ?_
    exact j_iret B hr hlk d_Tx_operandAt_18 (by first | rw [if_pos (bI_ne h5)] | rw [if_neg (bI_e h5)]) (rfl)
  · -- no
    refine j_aloadn B d_Tx_operandAt_8 rfl ?_
    refine j_getr B fl_Tx_15 (q_tx hf) rfl d_Tx_operandAt_9 ?_
    refine j_iloadn B d_Tx_operandAt_12 rfl ?_
    refine j_iald B (q_tx2 hf) (ixg (bI_ne h5) hc hN (by decide)) d_Tx_operandAt_13 ?_
    refine j_goto (tgt := 18) B d_Tx_operandAt_14 (by decide) ?_
    exact j_iret B hr hlk d_Tx_operandAt_18 (by first | rw [if_pos (bI_ne h5)] | rw [if_neg (bI_e h5)]) (rfl)
set_option maxRecDepth 100000 in
theorem ok_Ta_numberAt {l : Launch} {D : va_G} {aC : Nat → ClassId} {ad : Nat → Nat}  (x : tm_M) (k : Int32) {a : Nat} (hc : x.1 (5, 0, 3) 1 = nI a) (hN : a ≤ 60) :
    OkX l y_Ta_numberAt b_Ta_numberAt 2 (some .int) (rom 1 21) D aC ad [.ref (ad 37), .int k] x (some (.int (if 0 ≤ k ∧ k < x.1 (5, 0, 3) 1 then x.2 (5, 0, 4) k.toNatClampNeg else -1))) x := by
  refine ok_start (by decide) (Nat.le_of_ble_eq_true rfl) rfl ?_
  intro p e s m args below meth c B hr hlk hml
  have B : Cx p s m c args b_Ta_numberAt R_Ta D aC (rg 111 ad) 111 ad := B
  refine j_aloadn B d_Ta_numberAt_0 rfl ?_
  refine j_iloadn B d_Ta_numberAt_1 rfl ?_
  refine j_cVt B (ok_Ta_hasNumber x k) cv_Ta_hasNumber ml_Ta_38 (q_37) rfl rfl ⟨rfl, rfl, by decide, by decide⟩ ⟨Nat.zero_le _, Nat.zero_le _⟩ hml (Nat.le_of_ble_eq_true rfl) rfl d_Ta_numberAt_2 ?_
  refine j_if_eq (tgt := 17) B d_Ta_numberAt_5 (by decide) (fun h5 => ?_) (fun h5 => ?_)
  · -- yes
    refine j_iconst (v := (-1)) B d_Ta_numberAt_17 (by decide) ?_
    exact j_iret B hr hlk d_Ta_numberAt_18 (by first | rw [if_pos (bI_ne h5)] | rw [if_neg (bI_e h5)]) (rfl)
  · -- no
    refine j_aloadn B d_Ta_numberAt_8 rfl ?_
    refine j_getr B fl_Ta_9 (q_37) rfl d_Ta_numberAt_9 ?_
    refine j_iloadn B d_Ta_numberAt_12 rfl ?_
    refine j_iald B (q_38) (ixg (bI_ne h5) hc hN (by decide)) d_Ta_numberAt_13 ?_
    refine j_goto (tgt := 18) B d_Ta_numberAt_14 (by decide) ?_
    exact j_iret B hr hlk d_Ta_numberAt_18 (by first | rw [if_pos (bI_ne h5)] | rw [if_neg (bI_e h5)]) (rfl)
