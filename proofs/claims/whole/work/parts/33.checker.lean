theorem nIp {o : Nat} (h : 0 < o) : nI o - 1 = nI (o - 1) := by
  cases o with
  | zero => omega
  | succ o => exact nI_pred o
/-- a whole array is set -/
def sAA (x : tm_M) (K : tm_K) (g : Nat → Int32) : tm_M := (x.1, fun K' => if K' = K then g else x.2 K')
theorem sAA_self {x : tm_M} {K : tm_K} : sAA x K (x.2 K) = x := by
  unfold sAA
  refine Prod.ext rfl ?_
  funext K'
  by_cases h : K' = K
  · simp [h]
  · simp [h]
/-- the checker's own cells: rows open, their kinds -/
def ckX (o : Nat) (K : Nat → Int32) (x : tm_M) : tm_M := sI (sAA x (2, 0, 1) K) (2, 0, 0) 1 (nI o)
theorem ckX_o {o : Nat} {K : Nat → Int32} {x : tm_M} : (ckX o K x).1 (2, 0, 0) 1 = nI o := rI
theorem ckX_K {o : Nat} {K : Nat → Int32} {x : tm_M} : (ckX o K x).2 (2, 0, 1) = K := by simp [ckX, sI, sAA]
theorem ckX_1 {o : Nat} {K : Nat → Int32} {x : tm_M} {K' : tm_K} (h : K' ≠ (2, 0, 0)) : (ckX o K x).1 K' = x.1 K' := by simp [ckX, sI, sAA, h]
theorem ckX_2 {o : Nat} {K : Nat → Int32} {x : tm_M} {K' : tm_K} (h : K' ≠ (2, 0, 1)) : (ckX o K x).2 K' = x.2 K' := by simp [ckX, sI, sAA, h]
theorem ckX_A {o i : Nat} {v : Int32} {K : Nat → Int32} {x : tm_M} : sA (ckX o K x) (2, 0, 1) i v = ckX o (upd K i v) x := by
  unfold ckX sA sI sAA
  refine Prod.ext rfl ?_
  funext K'
  by_cases h : K' = (2, 0, 1)
  · simp [h]
  · simp [h]
theorem ckX_I {o o' : Nat} {K : Nat → Int32} {x : tm_M} : sI (ckX o K x) (2, 0, 0) 1 (nI o') = ckX o' K x := by
  unfold ckX sI sAA
  refine Prod.ext ?_ rfl
  funext K' j
  by_cases h : K' = (2, 0, 0)
  · by_cases hj : j = 1
    · simp [h, hj, upd]
    · simp [h, hj, upd]
  · simp [h]
theorem ckX_0 {x : tm_M} : sI x (2, 0, 0) 1 0 = ckX 0 (x.2 (2, 0, 1)) x := by
  unfold ckX
  rw [sAA_self]
  rfl
def inCF (K : Nat → Int32) : Nat → Nat → Int32
  | 0, _ => 0
  | r + 1, i => if K i = 4 then 1 else inCF K r (i + 1)
theorem inCF_b {K : Nat → Int32} : ∀ r i, inCF K r i = 0 ∨ inCF K r i = 1
  | 0, _ => Or.inl rfl
  | r + 1, i => by
    unfold inCF
    split
    · exact Or.inr rfl
    · exact inCF_b r _
/-- a statement is looked at: accepted or not, rows open, their kinds -/
def ckS (o : Nat) (K : Nat → Int32) (s : Int32) : Int32 × Nat × (Nat → Int32) :=
  if s = 3 ∨ s = 6 then (if o < 5 then (1, o + 1, upd K o s) else (0, o, K))
  else if s = 4 then (if 0 < o ∧ K (o - 1) ≠ 6 then (1, o, upd K (o - 1) 4) else (0, o, K))
  else if s = 5 then (if 0 < o ∧ K (o - 1) ≠ 3 then (1, o - 1, K) else (0, o, K))
  else if s = 7 then (inCF K o 0, o, K)
  else (1, o, K)
theorem ckS_le {o : Nat} {K : Nat → Int32} {s : Int32} (h : o ≤ 5) : (ckS o K s).2.1 ≤ 5 := by
  unfold ckS
  repeat' split
  all_goals simp only []
  all_goals omega
/-- the whole text, from statement i on -/
def wfF (S : Nat → Int32) : Nat → Nat → Nat → (Nat → Int32) → Int32 × Nat × (Nat → Int32)
  | 0, _, o, K => (if o = 0 then 1 else 0, o, K)
  | r + 1, i, o, K => if (ckS o K (S i)).1 = 0 then (0, (ckS o K (S i)).2) else wfF S r (i + 1) (ckS o K (S i)).2.1 (ckS o K (S i)).2.2
theorem wfF_b {S : Nat → Int32} : ∀ r i o K, (wfF S r i o K).1 = 0 ∨ (wfF S r i o K).1 = 1
  | 0, _, o, K => by
    unfold wfF
    by_cases h : o = 0
    · simp [h]
    · simp [h]
  | r + 1, i, o, K => by
    unfold wfF
    split
    · exact Or.inl rfl
    · exact wfF_b r _ _ _
set_option maxRecDepth 100000 in
theorem ok_Ck_opensRow {l : Launch} {D : va_G} {aC : Nat → ClassId} {ad : Nat → Nat} (x : tm_M) {o : Nat} {K : Nat → Int32} (ho : o ≤ 5) (v : Int32) :
    OkX l y_Ck_opensRow b_Ck_opensRow 2 (some .boolean) (rom 0 0) D aC ad [.ref (ad 20), .int v] (ckX o K x) (some (.int (if o < 5 then 1 else 0))) (if o < 5 then ckX (o + 1) (upd K o v) x else ckX o K x) := by
  refine ok_start (by decide) (Nat.le_of_ble_eq_true rfl) rfl ?_
  intro p e s m args below meth c B hr hlk hml
  have B : Cx p s m c args b_Ck_opensRow R_Ck D aC (rg 111 ad) 111 ad := B
  refine j_aloadn B d_Ck_opensRow_0 rfl ?_
  refine j_geti B fl_Ck_15 (q_20) rfl d_Ck_opensRow_1 ?_
  refine j_topi (nI o) ckX_o ?_
  refine j_iconst (v := 5) B d_Ck_opensRow_4 (by decide) ?_
  refine j_icmp_lt (tgt := 10) B d_Ck_opensRow_5 (by decide) (fun h5 => ?_) (fun h5 => ?_)
  · -- yes
    have ho5 : o < 5 := nIlt (t := 5) h5 (by omega) (by decide)
    refine j_aloadn B d_Ck_opensRow_10 rfl ?_
    refine j_getr B fl_Ck_9 (q_20) rfl d_Ck_opensRow_11 ?_
    refine j_aloadn B d_Ck_opensRow_14 rfl ?_
    refine j_geti B fl_Ck_15 (q_20) rfl d_Ck_opensRow_15 ?_
    refine j_topi (nI o) ckX_o ?_
    refine j_iloadn B d_Ck_opensRow_18 rfl ?_
    refine j_iast B kX_inj (q_21) (⟨rfl, ho5, by decide⟩) d_Ck_opensRow_19 ?_
    refine j_x (ckX o (upd K o v) x) ckX_A ?_
    refine j_aloadn B d_Ck_opensRow_20 rfl ?_
    refine j_dup B d_Ck_opensRow_21 rfl ?_
    refine j_geti B fl_Ck_15 (q_20) rfl d_Ck_opensRow_22 ?_
    refine j_iconst (v := 1) B d_Ck_opensRow_25 (by decide) ?_
    refine j_iadd B d_Ck_opensRow_26 ?_
    refine j_topi (nI (o + 1)) (by rw [ckX_o, nI_1]) ?_
    refine j_puti B kX_inj fs_Ck_15 (q_20) rfl d_Ck_opensRow_27 ?_
    refine j_iconst (v := 1) B d_Ck_opensRow_30 (by decide) ?_
    exact j_zret B hr hlk d_Ck_opensRow_31 (by first | exact Or.inl rfl | exact Or.inr rfl) (sv (if_pos ho5)) (congrArg (tw ad aC sX kX) (ckX_I.trans (if_pos ho5).symm))
  · -- no
    refine j_iconst (v := 0) B d_Ck_opensRow_8 (by decide) ?_
    exact j_zret B hr hlk d_Ck_opensRow_9 (by first | exact Or.inl rfl | exact Or.inr rfl) (sv (if_neg (fun z => h5 (nI_lt (b := 5) z (by decide))))) (congrArg (tw ad aC sX kX) (if_neg (fun z => h5 (nI_lt (b := 5) z (by decide)))).symm)
set_option maxRecDepth 100000 in
theorem ok_Ck_turnsToCatch {l : Launch} {D : va_G} {aC : Nat → ClassId} {ad : Nat → Nat} (x : tm_M) {o : Nat} {K : Nat → Int32} (ho : o ≤ 5) :
    OkX l y_Ck_turnsToCatch b_Ck_turnsToCatch 1 (some .boolean) (rom 0 0) D aC ad [.ref (ad 20)] (ckX o K x) (some (.int (if 0 < o ∧ K (o - 1) ≠ 6 then 1 else 0))) (if 0 < o ∧ K (o - 1) ≠ 6 then ckX o (upd K (o - 1) 4) x else ckX o K x) := by
  refine ok_start (by decide) (Nat.le_of_ble_eq_true rfl) rfl ?_
  intro p e s m args below meth c B hr hlk hml
  have B : Cx p s m c args b_Ck_turnsToCatch R_Ck D aC (rg 111 ad) 111 ad := B
  refine j_aloadn B d_Ck_turnsToCatch_0 rfl ?_
  refine j_geti B fl_Ck_15 (q_20) rfl d_Ck_turnsToCatch_1 ?_
  refine j_topi (nI o) ckX_o ?_
  refine j_iconst (v := 1) B d_Ck_turnsToCatch_4 (by decide) ?_
  refine j_icmp_lt (tgt := 24) B d_Ck_turnsToCatch_5 (by decide) (fun h5 => ?_) (fun h5 => ?_)
  · -- yes
    refine j_iconst (v := 0) B d_Ck_turnsToCatch_24 (by decide) ?_
    exact j_zret B hr hlk d_Ck_turnsToCatch_25 (by first | exact Or.inl rfl | exact Or.inr rfl) (by first | exact sv (if_neg (fun z => absurd (nIlt (t := 1) h5 (by omega) (by decide)) (by omega))) | exact sv (if_neg (fun z => z.2 h21))) (by first | exact congrArg (tw ad aC sX kX) (if_neg (fun z => absurd (nIlt (t := 1) h5 (by omega) (by decide)) (by omega))).symm | exact congrArg (tw ad aC sX kX) (if_neg (fun z => z.2 h21)).symm)
  · -- no
    have ho1 : 0 < o := by have := nInlt (t := 1) h5 (by omega) (by decide); omega
    refine j_aloadn B d_Ck_turnsToCatch_8 rfl ?_
    refine j_getr B fl_Ck_9 (q_20) rfl d_Ck_turnsToCatch_9 ?_
    refine j_aloadn B d_Ck_turnsToCatch_12 rfl ?_
    refine j_geti B fl_Ck_15 (q_20) rfl d_Ck_turnsToCatch_13 ?_
    refine j_topi (nI o) ckX_o ?_
    refine j_iconst (v := 1) B d_Ck_turnsToCatch_16 (by decide) ?_
    refine j_isub B d_Ck_turnsToCatch_17 ?_
    refine j_iald B (q_21) (⟨nIp ho1, by omega, by decide⟩) d_Ck_turnsToCatch_18 ?_
    refine j_topi (K (o - 1)) (by rw [ckX_K]) ?_
    refine j_bipush (v := 6) B d_Ck_turnsToCatch_19 (by decide) ?_
    refine j_icmp_ne (tgt := 26) B d_Ck_turnsToCatch_21 (by decide) (fun h21 => ?_) (fun h21 => ?_)
    · -- yes
      refine j_aloadn B d_Ck_turnsToCatch_26 rfl ?_
      refine j_getr B fl_Ck_9 (q_20) rfl d_Ck_turnsToCatch_27 ?_
      refine j_aloadn B d_Ck_turnsToCatch_30 rfl ?_
      refine j_geti B fl_Ck_15 (q_20) rfl d_Ck_turnsToCatch_31 ?_
      refine j_topi (nI o) ckX_o ?_
      refine j_iconst (v := 1) B d_Ck_turnsToCatch_34 (by decide) ?_
      refine j_isub B d_Ck_turnsToCatch_35 ?_
      refine j_iconst (v := 4) B d_Ck_turnsToCatch_36 (by decide) ?_
      refine j_iast B kX_inj (q_21) (⟨nIp ho1, by omega, by decide⟩) d_Ck_turnsToCatch_37 ?_
      refine j_iconst (v := 1) B d_Ck_turnsToCatch_38 (by decide) ?_
      exact j_zret B hr hlk d_Ck_turnsToCatch_39 (by first | exact Or.inl rfl | exact Or.inr rfl) (sv (if_pos ⟨ho1, h21⟩)) (congrArg (tw ad aC sX kX) (ckX_A.trans (if_pos ⟨ho1, h21⟩).symm))
    · -- no
      refine j_iconst (v := 0) B d_Ck_turnsToCatch_24 (by decide) ?_
      exact j_zret B hr hlk d_Ck_turnsToCatch_25 (by first | exact Or.inl rfl | exact Or.inr rfl) (by first | exact sv (if_neg (fun z => absurd (nIlt (t := 1) h5 (by omega) (by decide)) (by omega))) | exact sv (if_neg (fun z => z.2 h21))) (by first | exact congrArg (tw ad aC sX kX) (if_neg (fun z => absurd (nIlt (t := 1) h5 (by omega) (by decide)) (by omega))).symm | exact congrArg (tw ad aC sX kX) (if_neg (fun z => z.2 h21)).symm)
set_option maxRecDepth 100000 in
theorem ok_Ck_closesRow {l : Launch} {D : va_G} {aC : Nat → ClassId} {ad : Nat → Nat} (x : tm_M) {o : Nat} {K : Nat → Int32} (ho : o ≤ 5) :
    OkX l y_Ck_closesRow b_Ck_closesRow 1 (some .boolean) (rom 0 0) D aC ad [.ref (ad 20)] (ckX o K x) (some (.int (if 0 < o ∧ K (o - 1) ≠ 3 then 1 else 0))) (if 0 < o ∧ K (o - 1) ≠ 3 then ckX (o - 1) K x else ckX o K x) := by
  refine ok_start (by decide) (Nat.le_of_ble_eq_true rfl) rfl ?_
  intro p e s m args below meth c B hr hlk hml
  have B : Cx p s m c args b_Ck_closesRow R_Ck D aC (rg 111 ad) 111 ad := B
  refine j_aloadn B d_Ck_closesRow_0 rfl ?_
  refine j_geti B fl_Ck_15 (q_20) rfl d_Ck_closesRow_1 ?_
  refine j_topi (nI o) ckX_o ?_
  refine j_iconst (v := 1) B d_Ck_closesRow_4 (by decide) ?_
  refine j_icmp_lt (tgt := 23) B d_Ck_closesRow_5 (by decide) (fun h5 => ?_) (fun h5 => ?_)
  · -- yes
    refine j_iconst (v := 0) B d_Ck_closesRow_23 (by decide) ?_
    exact j_zret B hr hlk d_Ck_closesRow_24 (by first | exact Or.inl rfl | exact Or.inr rfl) (by first | exact sv (if_neg (fun z => absurd (nIlt (t := 1) h5 (by omega) (by decide)) (by omega))) | exact sv (if_neg (fun z => z.2 h20))) (by first | exact congrArg (tw ad aC sX kX) (if_neg (fun z => absurd (nIlt (t := 1) h5 (by omega) (by decide)) (by omega))).symm | exact congrArg (tw ad aC sX kX) (if_neg (fun z => z.2 h20)).symm)
  · -- no
    have ho1 : 0 < o := by have := nInlt (t := 1) h5 (by omega) (by decide); omega
    refine j_aloadn B d_Ck_closesRow_8 rfl ?_
    refine j_getr B fl_Ck_9 (q_20) rfl d_Ck_closesRow_9 ?_
    refine j_aloadn B d_Ck_closesRow_12 rfl ?_
    refine j_geti B fl_Ck_15 (q_20) rfl d_Ck_closesRow_13 ?_
    refine j_topi (nI o) ckX_o ?_
    refine j_iconst (v := 1) B d_Ck_closesRow_16 (by decide) ?_
    refine j_isub B d_Ck_closesRow_17 ?_
    refine j_iald B (q_21) (⟨nIp ho1, by omega, by decide⟩) d_Ck_closesRow_18 ?_
    refine j_topi (K (o - 1)) (by rw [ckX_K]) ?_
    refine j_iconst (v := 3) B d_Ck_closesRow_19 (by decide) ?_
    refine j_icmp_ne (tgt := 25) B d_Ck_closesRow_20 (by decide) (fun h20 => ?_) (fun h20 => ?_)
    · -- yes
      refine j_aloadn B d_Ck_closesRow_25 rfl ?_
      refine j_dup B d_Ck_closesRow_26 rfl ?_
      refine j_geti B fl_Ck_15 (q_20) rfl d_Ck_closesRow_27 ?_
      refine j_iconst (v := 1) B d_Ck_closesRow_30 (by decide) ?_
      refine j_isub B d_Ck_closesRow_31 ?_
      refine j_topi (nI (o - 1)) (by rw [ckX_o]; exact nIp ho1) ?_
      refine j_puti B kX_inj fs_Ck_15 (q_20) rfl d_Ck_closesRow_32 ?_
      refine j_iconst (v := 1) B d_Ck_closesRow_35 (by decide) ?_
      exact j_zret B hr hlk d_Ck_closesRow_36 (by first | exact Or.inl rfl | exact Or.inr rfl) (sv (if_pos ⟨ho1, h20⟩)) (congrArg (tw ad aC sX kX) (ckX_I.trans (if_pos ⟨ho1, h20⟩).symm))
    · -- no
      refine j_iconst (v := 0) B d_Ck_closesRow_23 (by decide) ?_
      exact j_zret B hr hlk d_Ck_closesRow_24 (by first | exact Or.inl rfl | exact Or.inr rfl) (by first | exact sv (if_neg (fun z => absurd (nIlt (t := 1) h5 (by omega) (by decide)) (by omega))) | exact sv (if_neg (fun z => z.2 h20))) (by first | exact congrArg (tw ad aC sX kX) (if_neg (fun z => absurd (nIlt (t := 1) h5 (by omega) (by decide)) (by omega))).symm | exact congrArg (tw ad aC sX kX) (if_neg (fun z => z.2 h20)).symm)
set_option maxRecDepth 100000 in
theorem ok_Ck_isInCatch {l : Launch} {D : va_G} {aC : Nat → ClassId} {ad : Nat → Nat} (x : tm_M) {o : Nat} {K : Nat → Int32} (ho : o ≤ 5) :
    OkX l y_Ck_isInCatch b_Ck_isInCatch 2 (some .boolean) (rom 0 0) D aC ad [.ref (ad 20)] (ckX o K x) (some (.int (inCF K o 0))) (ckX o K x) := by
  refine ok_start (by decide) (Nat.le_of_ble_eq_true rfl) rfl ?_
  intro p e s m args below meth c B hr hlk hml
  have B : Cx p s m c args b_Ck_isInCatch R_Ck D aC (rg 111 ad) 111 ad := B
  have loop : ∀ (r k : Nat), k + r = o → inCF K r k = (inCF K o 0) → J p l e (rom 0 0) s m args below meth c D (rg 111 ad) 0 0 (MQ below (Qk D aC 111 ad (some (.int (inCF K o 0))) (wX ad aC (ckX o K x))) args s 0 0 (rg 111 ad)) 111 ad (wX ad aC (ckX o K x)) 2 2 [(1, .int (nI k)), (0, .ref (ad 20))] [] := by
    intro r
    induction r with
    | zero =>
      intro k hk hR
      refine j_iloadn B d_Ck_isInCatch_2 rfl ?_
      refine j_aloadn B d_Ck_isInCatch_3 rfl ?_
      refine j_geti B fl_Ck_15 (q_20) rfl d_Ck_isInCatch_4 ?_
      refine j_topi (nI o) ckX_o ?_
      refine j_icmp_ge (tgt := 28) B d_Ck_isInCatch_7 (by decide) (fun h7 => ?_) (fun h7 => (show False from h7 (nI_le (by omega) (by omega))).elim)
      refine j_iconst (v := 0) B d_Ck_isInCatch_28 (by decide) ?_
      exact j_zret B hr hlk d_Ck_isInCatch_29 (by first | exact Or.inl rfl | exact Or.inr rfl) (sv hR.symm) (rfl)
    | succ r ih =>
      intro k hk hR
      refine j_iloadn B d_Ck_isInCatch_2 rfl ?_
      refine j_aloadn B d_Ck_isInCatch_3 rfl ?_
      refine j_geti B fl_Ck_15 (q_20) rfl d_Ck_isInCatch_4 ?_
      refine j_topi (nI o) ckX_o ?_
      refine j_icmp_ge (tgt := 28) B d_Ck_isInCatch_7 (by decide) (fun h7 => (show False from absurd (nIle h7 (by omega) (by omega)) (by omega)).elim) (fun h7 => ?_)
      refine j_aloadn B d_Ck_isInCatch_10 rfl ?_
      refine j_getr B fl_Ck_9 (q_20) rfl d_Ck_isInCatch_11 ?_
      refine j_iloadn B d_Ck_isInCatch_14 rfl ?_
      refine j_iald B (q_21) (⟨rfl, by omega, by decide⟩) d_Ck_isInCatch_15 ?_
      refine j_topi (K k) (by rw [ckX_K]) ?_
      refine j_iconst (v := 4) B d_Ck_isInCatch_16 (by decide) ?_
      refine j_icmp_ne (tgt := 22) B d_Ck_isInCatch_17 (by decide) (fun h17 => ?_) (fun h17 => ?_)
      · -- yes
        refine j_iinc B d_Ck_isInCatch_22 rfl (by decide) (nI_1 k) ?_
        refine j_goto (tgt := 2) B d_Ck_isInCatch_25 (by decide) ?_
        refine j_loc [(1, .int (nI (k + 1))), (0, .ref (ad 20))] ⟨rfl, rfl, trivial⟩ ?_
        exact ih (k + 1) (by omega) (by rw [← hR]; exact (if_neg h17).symm)
      · -- no
        refine j_iconst (v := 1) B d_Ck_isInCatch_20 (by decide) ?_
        exact j_zret B hr hlk d_Ck_isInCatch_21 (by first | exact Or.inl rfl | exact Or.inr rfl) (sv (by rw [← hR]; exact if_pos h17)) (rfl)
  refine j_iconst (v := 0) B d_Ck_isInCatch_0 (by decide) ?_
  refine j_istoren B d_Ck_isInCatch_1 (by decide) ?_
  refine j_loc [(1, .int (nI 0)), (0, .ref (ad 20))] ⟨rfl, rfl, trivial⟩ ?_
  exact loop o 0 (by omega) rfl
theorem sw37 {s : Int32} (h3 : ¬ s = 3) (h4 : ¬ s = 4) (h5 : ¬ s = 5) (h6 : ¬ s = 6) (h7 : ¬ s = 7) : s.toInt < 3 ∨ 7 < s.toInt := by
  have a3 : s.toInt ≠ 3 := fun q => h3 (Int32.toInt_inj.mp q)
  have a4 : s.toInt ≠ 4 := fun q => h4 (Int32.toInt_inj.mp q)
  have a5 : s.toInt ≠ 5 := fun q => h5 (Int32.toInt_inj.mp q)
  have a6 : s.toInt ≠ 6 := fun q => h6 (Int32.toInt_inj.mp q)
  have a7 : s.toInt ≠ 7 := fun q => h7 (Int32.toInt_inj.mp q)
  omega
set_option maxRecDepth 100000 in
theorem ok_Ck_accepts {l : Launch} {D : va_G} {aC : Nat → ClassId} {ad : Nat → Nat} (x : tm_M) {o : Nat} {K : Nat → Int32} (ho : o ≤ 5) (v : Int32) :
    OkX l y_Ck_accepts b_Ck_accepts 2 (some .boolean) (rom 1 21) D aC ad [.ref (ad 20), .int v] (ckX o K x) (some (.int (ckS o K v).1)) (ckX (ckS o K v).2.1 (ckS o K v).2.2 x) := by
  refine ok_start (by decide) (Nat.le_of_ble_eq_true rfl) rfl ?_
  intro p e s m args below meth c B hr hlk hml
  have B : Cx p s m c args b_Ck_accepts R_Ck D aC (rg 111 ad) 111 ad := B
  by_cases h3 : v = 3
  · subst h3
    refine j_iloadn B d_Ck_accepts_0 rfl ?_
    refine j_tabIn (tgt := 36) (off := 35) B d_Ck_accepts_1 (by decide) (by decide) (by decide) (by decide) ?_
    refine j_aloadn B d_Ck_accepts_36 rfl ?_
    refine j_iloadn B d_Ck_accepts_37 rfl ?_
    refine j_cVt B (ok_Ck_opensRow x ho 3) cv_Ck_opensRow ml_Ck_32 (q_20) rfl rfl ⟨rfl, rfl, by decide, by decide⟩ ⟨Nat.zero_le _, Nat.zero_le _⟩ hml (Nat.le_of_ble_eq_true rfl) rfl d_Ck_accepts_38 ?_
    exact j_zret B hr hlk d_Ck_accepts_41 (by by_cases h : o < 5 <;> simp [h]) (by by_cases h : o < 5 <;> simp [ckS, h]) (by by_cases h : o < 5 <;> simp [ckS, h])
  by_cases h6 : v = 6
  · subst h6
    refine j_iloadn B d_Ck_accepts_0 rfl ?_
    refine j_tabIn (tgt := 36) (off := 35) B d_Ck_accepts_1 (by decide) (by decide) (by decide) (by decide) ?_
    refine j_aloadn B d_Ck_accepts_36 rfl ?_
    refine j_iloadn B d_Ck_accepts_37 rfl ?_
    refine j_cVt B (ok_Ck_opensRow x ho 6) cv_Ck_opensRow ml_Ck_32 (q_20) rfl rfl ⟨rfl, rfl, by decide, by decide⟩ ⟨Nat.zero_le _, Nat.zero_le _⟩ hml (Nat.le_of_ble_eq_true rfl) rfl d_Ck_accepts_38 ?_
    exact j_zret B hr hlk d_Ck_accepts_41 (by by_cases h : o < 5 <;> simp [h]) (by by_cases h : o < 5 <;> simp [ckS, h]) (by by_cases h : o < 5 <;> simp [ckS, h])
  by_cases h4 : v = 4
  · subst h4
    refine j_iloadn B d_Ck_accepts_0 rfl ?_
    refine j_tabIn (tgt := 42) (off := 41) B d_Ck_accepts_1 (by decide) (by decide) (by decide) (by decide) ?_
    refine j_aloadn B d_Ck_accepts_42 rfl ?_
    refine j_cVt B (ok_Ck_turnsToCatch x ho) cv_Ck_turnsToCatch ml_Ck_35 (q_20) rfl rfl ⟨rfl, rfl, by decide, by decide⟩ ⟨Nat.zero_le _, Nat.zero_le _⟩ hml (Nat.le_of_ble_eq_true rfl) rfl d_Ck_accepts_43 ?_
    exact j_zret B hr hlk d_Ck_accepts_46 (by by_cases h : 0 < o ∧ K (o - 1) ≠ 6 <;> simp [h]) (by by_cases h : 0 < o ∧ K (o - 1) ≠ 6 <;> simp [ckS, h]) (by by_cases h : 0 < o ∧ K (o - 1) ≠ 6 <;> simp [ckS, h])
  by_cases h5 : v = 5
  · subst h5
    refine j_iloadn B d_Ck_accepts_0 rfl ?_
    refine j_tabIn (tgt := 47) (off := 46) B d_Ck_accepts_1 (by decide) (by decide) (by decide) (by decide) ?_
    refine j_aloadn B d_Ck_accepts_47 rfl ?_
    refine j_cVt B (ok_Ck_closesRow x ho) cv_Ck_closesRow ml_Ck_39 (q_20) rfl rfl ⟨rfl, rfl, by decide, by decide⟩ ⟨Nat.zero_le _, Nat.zero_le _⟩ hml (Nat.le_of_ble_eq_true rfl) rfl d_Ck_accepts_48 ?_
    exact j_zret B hr hlk d_Ck_accepts_51 (by by_cases h : 0 < o ∧ K (o - 1) ≠ 3 <;> simp [h]) (by by_cases h : 0 < o ∧ K (o - 1) ≠ 3 <;> simp [ckS, h]) (by by_cases h : 0 < o ∧ K (o - 1) ≠ 3 <;> simp [ckS, h])
  by_cases h7 : v = 7
  · subst h7
    refine j_iloadn B d_Ck_accepts_0 rfl ?_
    refine j_tabIn (tgt := 52) (off := 51) B d_Ck_accepts_1 (by decide) (by decide) (by decide) (by decide) ?_
    refine j_aloadn B d_Ck_accepts_52 rfl ?_
    refine j_cVt B (ok_Ck_isInCatch x ho) cv_Ck_isInCatch ml_Ck_42 (q_20) rfl rfl ⟨rfl, rfl, by decide, by decide⟩ ⟨Nat.zero_le _, Nat.zero_le _⟩ hml (Nat.le_of_ble_eq_true rfl) rfl d_Ck_accepts_53 ?_
    exact j_zret B hr hlk d_Ck_accepts_56 (inCF_b _ _) (by simp [ckS]) (by simp [ckS])
  · skip
    refine j_iloadn B d_Ck_accepts_0 rfl ?_
    refine j_tabOut (tgt := 57) B d_Ck_accepts_1 (sw37 h3 h4 h5 h6 h7) (by decide) ?_
    refine j_iconst (v := 1) B d_Ck_accepts_57 (by decide) ?_
    exact j_zret B hr hlk d_Ck_accepts_58 (by first | exact Or.inl rfl | exact Or.inr rfl) (by simp [ckS, h3, h4, h5, h6, h7]) (by simp [ckS, h3, h4, h5, h6, h7])
set_option maxRecDepth 100000 in
theorem ok_Ck_isWellFormed {l : Launch} {D : va_G} {aC : Nat → ClassId} {ad : Nat → Nat} {f : Nat} (hf : f < 6) (x : tm_M) {t : Nat} (ht : x.1 (1, f, 0) 2 = nI t) (h20 : t ≤ 20) :
    OkX l y_Ck_isWellFormed b_Ck_isWellFormed 3 (some .boolean) (rom 2 43) D aC ad [.ref (ad 20), .ref (ad (txO f))] x (some (.int (wfF (x.2 (1, f, 1)) t 0 0 (x.2 (2, 0, 1))).1)) (ckX (wfF (x.2 (1, f, 1)) t 0 0 (x.2 (2, 0, 1))).2.1 (wfF (x.2 (1, f, 1)) t 0 0 (x.2 (2, 0, 1))).2.2 x) := by
  refine ok_start (by decide) (Nat.le_of_ble_eq_true rfl) rfl ?_
  intro p e s m args below meth c B hr hlk hml
  have B : Cx p s m c args b_Ck_isWellFormed R_Ck D aC (rg 111 ad) 111 ad := B
  have loop : ∀ (r k o : Nat) (K : Nat → Int32), o ≤ 5 → k + r = t → wfF (x.2 (1, f, 1)) r k o K = (wfF (x.2 (1, f, 1)) t 0 0 (x.2 (2, 0, 1))) → J p l e (rom 2 43) s m args below meth c D (rg 111 ad) 0 0 (MQ below (Qk D aC 111 ad (some (.int (wfF (x.2 (1, f, 1)) t 0 0 (x.2 (2, 0, 1))).1)) (wX ad aC (ckX (wfF (x.2 (1, f, 1)) t 0 0 (x.2 (2, 0, 1))).2.1 (wfF (x.2 (1, f, 1)) t 0 0 (x.2 (2, 0, 1))).2.2 x))) args s 0 0 (rg 111 ad)) 111 ad (wX ad aC (ckX o K x)) 3 7 [(2, .int (nI k)), (0, .ref (ad 20)), (1, .ref (ad (txO f)))] [] := by
    intro r
    induction r with
    | zero =>
      intro k o K ho hk hR
      refine j_iloadn B d_Ck_isWellFormed_7 rfl ?_
      refine j_aloadn B d_Ck_isWellFormed_8 rfl ?_
      refine j_geti B fl_Ck_19 (q_tx hf) rfl d_Ck_isWellFormed_9 ?_
      refine j_topi (nI t) (by rw [ckX_1 (by simp)]; exact ht) ?_
      refine j_icmp_ge (tgt := 35) B d_Ck_isWellFormed_12 (by decide) (fun h12 => ?_) (fun h12 => (show False from h12 (nI_le (by omega) (by omega))).elim)
      refine j_aloadn B d_Ck_isWellFormed_35 rfl ?_
      refine j_geti B fl_Ck_15 (q_20) rfl d_Ck_isWellFormed_36 ?_
      refine j_topi (nI o) ckX_o ?_
      refine j_if_ne (tgt := 46) B d_Ck_isWellFormed_39 (by decide) (fun h39 => ?_) (fun h39 => ?_)
      · -- yes
        refine j_iconst (v := 0) B d_Ck_isWellFormed_46 (by decide) ?_
        exact j_zret B hr hlk d_Ck_isWellFormed_47 (by first | exact Or.inl rfl | exact Or.inr rfl) (by first | exact sv (by rw [← hR]; exact if_neg (fun z => h39 (by rw [z]; rfl))) | exact sv (by rw [← hR]; exact if_pos (Nat.eq_zero_of_not_pos (fun z => nI_ne0 z (by omega) h39)))) (congrArg (tw ad aC sX kX) (by rw [← hR]; rfl))
      · -- no
        refine j_iconst (v := 1) B d_Ck_isWellFormed_42 (by decide) ?_
        refine j_goto (tgt := 47) B d_Ck_isWellFormed_43 (by decide) ?_
        exact j_zret B hr hlk d_Ck_isWellFormed_47 (by first | exact Or.inl rfl | exact Or.inr rfl) (by first | exact sv (by rw [← hR]; exact if_neg (fun z => h39 (by rw [z]; rfl))) | exact sv (by rw [← hR]; exact if_pos (Nat.eq_zero_of_not_pos (fun z => nI_ne0 z (by omega) h39)))) (congrArg (tw ad aC sX kX) (by rw [← hR]; rfl))
    | succ r ih =>
      intro k o K ho hk hR
      refine j_iloadn B d_Ck_isWellFormed_7 rfl ?_
      refine j_aloadn B d_Ck_isWellFormed_8 rfl ?_
      refine j_geti B fl_Ck_19 (q_tx hf) rfl d_Ck_isWellFormed_9 ?_
      refine j_topi (nI t) (by rw [ckX_1 (by simp)]; exact ht) ?_
      refine j_icmp_ge (tgt := 35) B d_Ck_isWellFormed_12 (by decide) (fun h12 => (show False from absurd (nIle h12 (by omega) (by omega)) (by omega)).elim) (fun h12 => ?_)
      refine j_aloadn B d_Ck_isWellFormed_15 rfl ?_
      refine j_aloadn B d_Ck_isWellFormed_16 rfl ?_
      refine j_iloadn B d_Ck_isWellFormed_17 rfl ?_
      refine j_cVt B (ok_Tx_statementAt hf (ckX o K x) (nI k) (a := t) (by rw [ckX_1 (by simp)]; exact ht) h20) cv_Tx_statementAt ml_Ck_24 (q_tx hf) rfl rfl ⟨rfl, rfl, by decide, by decide⟩ ⟨Nat.zero_le _, Nat.zero_le _⟩ hml (Nat.le_of_ble_eq_true rfl) rfl d_Ck_isWellFormed_18 ?_
      refine j_topi (x.2 (1, f, 1) k) (by rw [ckX_1 (by simp), ckX_2 (by simp), if_pos ⟨nI_pos' (by omega), by rw [ht]; exact nI_lt (by omega) (by omega)⟩, nI_clamp (by omega)]) ?_
      refine j_cVt B (ok_Ck_accepts x ho (x.2 (1, f, 1) k)) cv_Ck_accepts ml_Ck_28 (q_20) rfl rfl ⟨rfl, rfl, by decide, by decide⟩ ⟨Nat.zero_le _, Nat.zero_le _⟩ hml (Nat.le_of_ble_eq_true rfl) rfl d_Ck_isWellFormed_21 ?_
      refine j_if_ne (tgt := 29) B d_Ck_isWellFormed_24 (by decide) (fun h24 => ?_) (fun h24 => ?_)
      · -- yes
        refine j_iinc B d_Ck_isWellFormed_29 rfl (by decide) (nI_1 k) ?_
        refine j_goto (tgt := 7) B d_Ck_isWellFormed_32 (by decide) ?_
        refine j_loc [(2, .int (nI (k + 1))), (0, .ref (ad 20)), (1, .ref (ad (txO f)))] ⟨rfl, rfl, rfl, trivial⟩ ?_
        exact ih (k + 1) _ _ (ckS_le ho) (by omega) (by rw [← hR]; exact (if_neg h24).symm)
      · -- no
        refine j_iconst (v := 0) B d_Ck_isWellFormed_27 (by decide) ?_
        exact j_zret B hr hlk d_Ck_isWellFormed_28 (by first | exact Or.inl rfl | exact Or.inr rfl) (sv (by rw [← hR]; unfold wfF; rw [if_pos h24])) (congrArg (tw ad aC sX kX) (by rw [← hR]; unfold wfF; rw [if_pos h24]))
  refine j_aloadn B d_Ck_isWellFormed_0 rfl ?_
  refine j_iconst (v := 0) B d_Ck_isWellFormed_1 (by decide) ?_
  refine j_puti B kX_inj fs_Ck_15 (q_20) rfl d_Ck_isWellFormed_2 ?_
  refine j_iconst (v := 0) B d_Ck_isWellFormed_5 (by decide) ?_
  refine j_istoren B d_Ck_isWellFormed_6 (by decide) ?_
  refine j_x (ckX 0 (x.2 (2, 0, 1)) x) ckX_0 ?_
  refine j_loc [(2, .int (nI 0)), (0, .ref (ad 20)), (1, .ref (ad (txO f)))] ⟨rfl, rfl, rfl, trivial⟩ ?_
  exact loop t 0 0 _ (by omega) (by omega) rfl
