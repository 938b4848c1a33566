theorem ixm (q f k : Nat) : nI q * nI f + nI k = nI (q * f + k) := by rw [pk_mul, nI_add]
set_option maxRecDepth 100000 in
theorem ok_Mo_add_1 {l : Launch} {D : va_G} {aC : Nat → ClassId} {ad : Nat → Nat} (x : tm_M) (g k v : Int32) (h1 : (g < 0 ∨ 5 < g) ∨ fitF (x.1 (0, 0, 0) 1) k v = 0) :
    OkM l y_Mo_add b_Mo_add 5 (some .int) (rom 2 45) D aC ad [.ref (ad 0), .int g, .int k, .int v] x (some (.int 0)) (sI x (0, 0, 0) 0 1) := by
  refine ok_start (by decide) (Nat.le_of_ble_eq_true rfl) rfl ?_
  intro p e s m args below meth c B hr hlk hml
  have B : Cx p s m c args b_Mo_add R_Mo D aC (rg 30 ad) 30 ad := B
  refine j_iloadn B d_Mo_add_0 rfl ?_
  refine j_iconst (v := 0) B d_Mo_add_1 (by decide) ?_
  refine j_iconst (v := 5) B d_Mo_add_2 (by decide) ?_
  refine j_cS B (ok_Mo_outside x g 0 5) cs_Mo_outside ml_Mo_104 rfl ⟨rfl, rfl, by decide, by decide⟩ ⟨Nat.zero_le _, Nat.zero_le _⟩ hml (Nat.le_of_ble_eq_true rfl) rfl d_Mo_add_3 ?_
  refine j_if_ne (tgt := 18) B d_Mo_add_6 (by decide) (fun h6 => ?_) (fun h6 => ?_)
  · -- yes
    refine j_iconst (v := 1) B d_Mo_add_18 (by decide) ?_
    refine j_goto (tgt := 23) B d_Mo_add_19 (by decide) ?_
    refine j_istore B d_Mo_add_23 (by decide) ?_
    refine j_aloadn B d_Mo_add_25 rfl ?_
    refine j_iload B d_Mo_add_26 rfl ?_
    refine j_iload B d_Mo_add_28 rfl ?_
    refine j_if_ne (tgt := 48) B d_Mo_add_30 (by decide) (fun h30 => ?_) (fun h30 => (show False from absurd h30 (by decide)).elim)
    refine j_iconst (v := 0) B d_Mo_add_48 (by decide) ?_
    refine j_cVt B (ok_Mo_fails x 1 0) cv_Mo_fails ml_Mo_108 (m_0) rfl rfl ⟨rfl, rfl, by decide, by decide⟩ ⟨Nat.zero_le _, Nat.zero_le _⟩ hml (Nat.le_of_ble_eq_true rfl) rfl d_Mo_add_49 ?_
    refine j_if_eq (tgt := 57) B d_Mo_add_52 (by decide) (fun h52 => (show False from bI_e h52 (by decide)).elim) (fun h52 => ?_)
    refine j_iconst (v := 0) B d_Mo_add_55 (by decide) ?_
    exact j_iret B hr hlk d_Mo_add_56 (rfl) (rfl)
  · -- no
    refine j_aloadn B d_Mo_add_9 rfl ?_
    refine j_iloadn B d_Mo_add_10 rfl ?_
    refine j_iloadn B d_Mo_add_11 rfl ?_
    refine j_cVt B (ok_Mo_fits x k v) cv_Mo_fits ml_Mo_112 (m_0) rfl rfl ⟨rfl, rfl, by decide, by decide⟩ ⟨Nat.zero_le _, Nat.zero_le _⟩ hml (Nat.le_of_ble_eq_true rfl) rfl d_Mo_add_12 ?_
    refine j_if_ne (tgt := 22) B d_Mo_add_15 (by decide) (fun h15 => (show False from h1.elim (bI_e h6) h15).elim) (fun h15 => ?_)
    refine j_iconst (v := 1) B d_Mo_add_18 (by decide) ?_
    refine j_goto (tgt := 23) B d_Mo_add_19 (by decide) ?_
    refine j_istore B d_Mo_add_23 (by decide) ?_
    refine j_aloadn B d_Mo_add_25 rfl ?_
    refine j_iload B d_Mo_add_26 rfl ?_
    refine j_iload B d_Mo_add_28 rfl ?_
    refine j_if_ne (tgt := 48) B d_Mo_add_30 (by decide) (fun h30 => ?_) (fun h30 => (show False from absurd h30 (by decide)).elim)
    refine j_iconst (v := 0) B d_Mo_add_48 (by decide) ?_
    refine j_cVt B (ok_Mo_fails x 1 0) cv_Mo_fails ml_Mo_108 (m_0) rfl rfl ⟨rfl, rfl, by decide, by decide⟩ ⟨Nat.zero_le _, Nat.zero_le _⟩ hml (Nat.le_of_ble_eq_true rfl) rfl d_Mo_add_49 ?_
    refine j_if_eq (tgt := 57) B d_Mo_add_52 (by decide) (fun h52 => (show False from bI_e h52 (by decide)).elim) (fun h52 => ?_)
    refine j_iconst (v := 0) B d_Mo_add_55 (by decide) ?_
    exact j_iret B hr hlk d_Mo_add_56 (rfl) (rfl)
set_option maxRecDepth 100000 in
theorem ok_Mo_add_2 {l : Launch} {D : va_G} {aC : Nat → ClassId} {ad : Nat → Nat} {f t : Nat} (hf : f < 6) (x : tm_M) (k v : Int32) (ht : x.2 (0, 0, 2) f = nI t) (h1 : ¬ fitF (x.1 (0, 0, 0) 1) k v = 0) (h20 : t = 20) :
    OkM l y_Mo_add b_Mo_add 5 (some .int) (rom 2 45) D aC ad [.ref (ad 0), .int (nI f), .int k, .int v] x (some (.int 0)) (sI x (0, 0, 0) 0 2) := by
  refine ok_start (by decide) (Nat.le_of_ble_eq_true rfl) rfl ?_
  intro p e s m args below meth c B hr hlk hml
  have B : Cx p s m c args b_Mo_add R_Mo D aC (rg 30 ad) 30 ad := B
  refine j_iloadn B d_Mo_add_0 rfl ?_
  refine j_iconst (v := 0) B d_Mo_add_1 (by decide) ?_
  refine j_iconst (v := 5) B d_Mo_add_2 (by decide) ?_
  refine j_cS B (ok_Mo_outside x (nI f) 0 5) cs_Mo_outside ml_Mo_104 rfl ⟨rfl, rfl, by decide, by decide⟩ ⟨Nat.zero_le _, Nat.zero_le _⟩ hml (Nat.le_of_ble_eq_true rfl) rfl d_Mo_add_3 ?_
  refine j_if_ne (tgt := 18) B d_Mo_add_6 (by decide) (fun h6 => (show False from f_in hf (bI_ne h6)).elim) (fun h6 => ?_)
  refine j_aloadn B d_Mo_add_9 rfl ?_
  refine j_iloadn B d_Mo_add_10 rfl ?_
  refine j_iloadn B d_Mo_add_11 rfl ?_
  refine j_cVt B (ok_Mo_fits x k v) cv_Mo_fits ml_Mo_112 (m_0) rfl rfl ⟨rfl, rfl, by decide, by decide⟩ ⟨Nat.zero_le _, Nat.zero_le _⟩ hml (Nat.le_of_ble_eq_true rfl) rfl d_Mo_add_12 ?_
  refine j_if_ne (tgt := 22) B d_Mo_add_15 (by decide) (fun h15 => ?_) (fun h15 => (show False from h1 h15).elim)
  refine j_iconst (v := 0) B d_Mo_add_22 (by decide) ?_
  refine j_istore B d_Mo_add_23 (by decide) ?_
  refine j_aloadn B d_Mo_add_25 rfl ?_
  refine j_iload B d_Mo_add_26 rfl ?_
  refine j_iload B d_Mo_add_28 rfl ?_
  refine j_if_ne (tgt := 48) B d_Mo_add_30 (by decide) (fun h30 => (show False from h30 rfl).elim) (fun h30 => ?_)
  refine j_aloadn B d_Mo_add_33 rfl ?_
  refine j_getr B fl_Mo_17 (m_0) rfl d_Mo_add_34 ?_
  refine j_iloadn B d_Mo_add_37 rfl ?_
  refine j_iald B (m_2) (⟨rfl, hf, by decide⟩) d_Mo_add_38 ?_
  refine j_bipush (v := 20) B d_Mo_add_39 (by decide) ?_
  refine j_icmp_ne (tgt := 48) B d_Mo_add_41 (by decide) (fun h41 => (show False from h41 (by rw [ht, h20]; rfl)).elim) (fun h41 => ?_)
  refine j_iconst (v := 1) B d_Mo_add_44 (by decide) ?_
  refine j_goto (tgt := 49) B d_Mo_add_45 (by decide) ?_
  refine j_cVt B (ok_Mo_fails x 0 1) cv_Mo_fails ml_Mo_108 (m_0) rfl rfl ⟨rfl, rfl, by decide, by decide⟩ ⟨Nat.zero_le _, Nat.zero_le _⟩ hml (Nat.le_of_ble_eq_true rfl) rfl d_Mo_add_49 ?_
  refine j_if_eq (tgt := 57) B d_Mo_add_52 (by decide) (fun h52 => (show False from bI_e h52 (by decide)).elim) (fun h52 => ?_)
  refine j_iconst (v := 0) B d_Mo_add_55 (by decide) ?_
  exact j_iret B hr hlk d_Mo_add_56 (rfl) (rfl)
set_option maxRecDepth 100000 in
theorem ok_Mo_add_0 {l : Launch} {D : va_G} {aC : Nat → ClassId} {ad : Nat → Nat} {f t : Nat} (hf : f < 6) (x : tm_M) (k v : Int32) (ht : x.2 (0, 0, 2) f = nI t) (h1 : ¬ fitF (x.1 (0, 0, 0) 1) k v = 0) (h20 : t < 20) :
    OkM l y_Mo_add b_Mo_add 5 (some .int) (rom 2 45) D aC ad [.ref (ad 0), .int (nI f), .int k, .int v] x (some (.int (nI (t + 1)))) (sA (sA (sA (sI x (0, 0, 0) 0 0) (0, 0, 3) (20 * f + t) k) (0, 0, 4) (20 * f + t) v) (0, 0, 2) f (nI (t + 1))) := by
  refine ok_start (by decide) (Nat.le_of_ble_eq_true rfl) rfl ?_
  intro p e s m args below meth c B hr hlk hml
  have B : Cx p s m c args b_Mo_add R_Mo D aC (rg 30 ad) 30 ad := B
  refine j_iloadn B d_Mo_add_0 rfl ?_
  refine j_iconst (v := 0) B d_Mo_add_1 (by decide) ?_
  refine j_iconst (v := 5) B d_Mo_add_2 (by decide) ?_
  refine j_cS B (ok_Mo_outside x (nI f) 0 5) cs_Mo_outside ml_Mo_104 rfl ⟨rfl, rfl, by decide, by decide⟩ ⟨Nat.zero_le _, Nat.zero_le _⟩ hml (Nat.le_of_ble_eq_true rfl) rfl d_Mo_add_3 ?_
  refine j_if_ne (tgt := 18) B d_Mo_add_6 (by decide) (fun h6 => (show False from f_in hf (bI_ne h6)).elim) (fun h6 => ?_)
  refine j_aloadn B d_Mo_add_9 rfl ?_
  refine j_iloadn B d_Mo_add_10 rfl ?_
  refine j_iloadn B d_Mo_add_11 rfl ?_
  refine j_cVt B (ok_Mo_fits x k v) cv_Mo_fits ml_Mo_112 (m_0) rfl rfl ⟨rfl, rfl, by decide, by decide⟩ ⟨Nat.zero_le _, Nat.zero_le _⟩ hml (Nat.le_of_ble_eq_true rfl) rfl d_Mo_add_12 ?_
  refine j_if_ne (tgt := 22) B d_Mo_add_15 (by decide) (fun h15 => ?_) (fun h15 => (show False from h1 h15).elim)
  refine j_iconst (v := 0) B d_Mo_add_22 (by decide) ?_
  refine j_istore B d_Mo_add_23 (by decide) ?_
  refine j_aloadn B d_Mo_add_25 rfl ?_
  refine j_iload B d_Mo_add_26 rfl ?_
  refine j_iload B d_Mo_add_28 rfl ?_
  refine j_if_ne (tgt := 48) B d_Mo_add_30 (by decide) (fun h30 => (show False from h30 rfl).elim) (fun h30 => ?_)
  refine j_aloadn B d_Mo_add_33 rfl ?_
  refine j_getr B fl_Mo_17 (m_0) rfl d_Mo_add_34 ?_
  refine j_iloadn B d_Mo_add_37 rfl ?_
  refine j_iald B (m_2) (⟨rfl, hf, by decide⟩) d_Mo_add_38 ?_
  refine j_bipush (v := 20) B d_Mo_add_39 (by decide) ?_
  refine j_icmp_ne (tgt := 48) B d_Mo_add_41 (by decide) (fun h41 => ?_) (fun h41 => (show False from absurd ((nI_eq (a := t) (b := 20) (by omega) (by decide)).mp (ht ▸ h41)) (by omega)).elim)
  refine j_iconst (v := 0) B d_Mo_add_48 (by decide) ?_
  refine j_cVt B (ok_Mo_fails x 0 0) cv_Mo_fails ml_Mo_108 (m_0) rfl rfl ⟨rfl, rfl, by decide, by decide⟩ ⟨Nat.zero_le _, Nat.zero_le _⟩ hml (Nat.le_of_ble_eq_true rfl) rfl d_Mo_add_49 ?_
  refine j_if_eq (tgt := 57) B d_Mo_add_52 (by decide) (fun h52 => ?_) (fun h52 => (show False from absurd (bI_ne h52) (by decide)).elim)
  refine j_x (sI x (0, 0, 0) 0 0) rfl ?_
  refine j_aloadn B d_Mo_add_57 rfl ?_
  refine j_getr B fl_Mo_20 (m_0) rfl d_Mo_add_58 ?_
  refine j_bipush (v := 20) B d_Mo_add_61 (by decide) ?_
  refine j_iloadn B d_Mo_add_63 rfl ?_
  refine j_imul B d_Mo_add_64 ?_
  refine j_aloadn B d_Mo_add_65 rfl ?_
  refine j_getr B fl_Mo_17 (m_0) rfl d_Mo_add_66 ?_
  refine j_iloadn B d_Mo_add_69 rfl ?_
  refine j_iald B (m_2) (⟨rfl, hf, by decide⟩) d_Mo_add_70 ?_
  refine j_topi (nI t) ht ?_
  refine j_iadd B d_Mo_add_71 ?_
  refine j_iloadn B d_Mo_add_72 rfl ?_
  refine j_iast B kM_inj (m_3) (⟨ixm 20 f t, by omega, by decide⟩) d_Mo_add_73 ?_
  refine j_aloadn B d_Mo_add_74 rfl ?_
  refine j_getr B fl_Mo_23 (m_0) rfl d_Mo_add_75 ?_
  refine j_bipush (v := 20) B d_Mo_add_78 (by decide) ?_
  refine j_iloadn B d_Mo_add_80 rfl ?_
  refine j_imul B d_Mo_add_81 ?_
  refine j_aloadn B d_Mo_add_82 rfl ?_
  refine j_getr B fl_Mo_17 (m_0) rfl d_Mo_add_83 ?_
  refine j_iloadn B d_Mo_add_86 rfl ?_
  refine j_iald B (m_2) (⟨rfl, hf, by decide⟩) d_Mo_add_87 ?_
  refine j_topi (nI t) (by rw [rAK (by decide)]; exact ht) ?_
  refine j_iadd B d_Mo_add_88 ?_
  refine j_iloadn B d_Mo_add_89 rfl ?_
  refine j_iast B kM_inj (m_4) (⟨ixm 20 f t, by omega, by decide⟩) d_Mo_add_90 ?_
  refine j_aloadn B d_Mo_add_91 rfl ?_
  refine j_getr B fl_Mo_17 (m_0) rfl d_Mo_add_92 ?_
  refine j_iloadn B d_Mo_add_95 rfl ?_
  refine j_dup2 B d_Mo_add_96 rfl rfl ?_
  refine j_iald B (m_2) (⟨rfl, hf, by decide⟩) d_Mo_add_97 ?_
  refine j_iconst (v := 1) B d_Mo_add_98 (by decide) ?_
  refine j_iadd B d_Mo_add_99 ?_
  refine j_topi (nI (t + 1)) (by rw [rAK (by decide), rAK (by decide)]; show x.2 _ f + 1 = _; rw [ht, nI_1]) ?_
  refine j_iast B kM_inj (m_2) (⟨rfl, hf, by decide⟩) d_Mo_add_100 ?_
  refine j_aloadn B d_Mo_add_101 rfl ?_
  refine j_getr B fl_Mo_17 (m_0) rfl d_Mo_add_102 ?_
  refine j_iloadn B d_Mo_add_105 rfl ?_
  refine j_iald B (m_2) (⟨rfl, hf, by decide⟩) d_Mo_add_106 ?_
  exact j_iret B hr hlk d_Mo_add_107 (sv rA.symm) (rfl)
/-- the reference's rows: how many are open, their kinds -/
def ckM (q : Nat) (K : Nat → Int32) (x : tm_M) : tm_M := sI (sAA x (0, 0, 17) K) (0, 0, 0) 18 (nI q)
theorem ckM_o {q : Nat} {K : Nat → Int32} {x : tm_M} : (ckM q K x).1 (0, 0, 0) 18 = nI q := rI
theorem ckM_K {q : Nat} {K : Nat → Int32} {x : tm_M} : (ckM q K x).2 (0, 0, 17) = K := by simp [ckM, sI, sAA]
theorem ckM_j {q j : Nat} {K : Nat → Int32} {x : tm_M} (h : j ≠ 18) : (ckM q K x).1 (0, 0, 0) j = x.1 (0, 0, 0) j := by simp [ckM, sI, sAA, upd, h]
theorem ckM_2 {q : Nat} {K : Nat → Int32} {x : tm_M} {K' : tm_K} (h : K' ≠ (0, 0, 17)) : (ckM q K x).2 K' = x.2 K' := by simp [ckM, sI, sAA, h]
theorem ckM_A {q i : Nat} {v : Int32} {K : Nat → Int32} {x : tm_M} : sA (ckM q K x) (0, 0, 17) i v = ckM q (upd K i v) x := by
  unfold ckM sA sI sAA
  refine Prod.ext rfl ?_
  funext K'
  by_cases h : K' = (0, 0, 17)
  · simp [h]
  · simp [h]
theorem ckM_I {q q' : Nat} {K : Nat → Int32} {x : tm_M} : sI (ckM q K x) (0, 0, 0) 18 (nI q') = ckM q' K x := by
  unfold ckM sI sAA
  refine Prod.ext ?_ rfl
  funext K' j
  by_cases h : K' = (0, 0, 0)
  · by_cases hj : j = 18
    · simp [h, hj, upd]
    · simp [h, hj, upd]
  · simp [h]
theorem ckM_0 {x : tm_M} : sI x (0, 0, 0) 18 0 = ckM 0 (x.2 (0, 0, 17)) x := by
  unfold ckM
  rw [sAA_self]
  rfl
/-- is a CATCH among the rows 1 .. q -/
def inMF (K : Nat → Int32) : Nat → Nat → Int32 → Int32
  | 0, _, b => b
  | r + 1, k, b => inMF K r (k + 1) (if ¬ b = 0 ∨ K k = 4 then 1 else 0)
theorem inMF_b {K : Nat → Int32} : ∀ r k b, (b = 0 ∨ b = 1) → inMF K r k b = 0 ∨ inMF K r k b = 1
  | 0, _, _, h => h
  | r + 1, k, b, h => by
    unfold inMF
    apply inMF_b
    split
    · exact Or.inr rfl
    · exact Or.inl rfl
set_option maxRecDepth 100000 in
theorem ok_Mo_inCatch {l : Launch} {D : va_G} {aC : Nat → ClassId} {ad : Nat → Nat} (x : tm_M) {q : Nat} {K : Nat → Int32} (hq : q ≤ 5) :
    OkM l y_Mo_inCatch b_Mo_inCatch 3 (some .boolean) (rom 0 0) D aC ad [.ref (ad 0)] (ckM q K x) (some (.int (inMF K q 1 0))) (ckM q K x) := by
  refine ok_start (by decide) (Nat.le_of_ble_eq_true rfl) rfl ?_
  intro p e s m args below meth c B hr hlk hml
  have B : Cx p s m c args b_Mo_inCatch R_Mo D aC (rg 30 ad) 30 ad := B
  have loop : ∀ (r k : Nat) (b : Int32), k + r = q + 1 → 0 < k → inMF K r k b = (inMF K q 1 0) → J p l e (rom 0 0) s m args below meth c D (rg 30 ad) 0 0 (MQ below (Qk D aC 30 ad (some (.int (inMF K q 1 0))) (wM ad aC (ckM q K x))) args s 0 0 (rg 30 ad)) 30 ad (wM ad aC (ckM q K x)) 3 4 [(2, .int (nI k)), (1, .int b), (0, .ref (ad 0))] [] := by
    intro r
    induction r with
    | zero =>
      intro k b hk hk0 hR
      refine j_iloadn B d_Mo_inCatch_4 rfl ?_
      refine j_aloadn B d_Mo_inCatch_5 rfl ?_
      refine j_geti B fl_Mo_116 (m_0) rfl d_Mo_inCatch_6 ?_
      refine j_topi (nI q) ckM_o ?_
      refine j_icmp_gt (tgt := 38) B d_Mo_inCatch_9 (by decide) (fun h9 => ?_) (fun h9 => (show False from h9 (nI_lt (by omega) (by omega))).elim)
      refine j_iloadn B d_Mo_inCatch_38 rfl ?_
      exact j_zret B hr hlk d_Mo_inCatch_39 (by rw [show b = _ from hR]; exact inMF_b _ _ _ (Or.inl rfl)) (sv hR.symm) (rfl)
    | succ r ih =>
      intro k b hk hk0 hR
      refine j_iloadn B d_Mo_inCatch_4 rfl ?_
      refine j_aloadn B d_Mo_inCatch_5 rfl ?_
      refine j_geti B fl_Mo_116 (m_0) rfl d_Mo_inCatch_6 ?_
      refine j_topi (nI q) ckM_o ?_
      refine j_icmp_gt (tgt := 38) B d_Mo_inCatch_9 (by decide) (fun h9 => (show False from absurd (nIlt h9 (by omega) (by omega)) (by omega)).elim) (fun h9 => ?_)
      refine j_iloadn B d_Mo_inCatch_12 rfl ?_
      refine j_if_ne (tgt := 26) B d_Mo_inCatch_13 (by decide) (fun h13 => ?_) (fun h13 => ?_)
      · -- yes
        refine j_iconst (v := 1) B d_Mo_inCatch_26 (by decide) ?_
        refine j_goto (tgt := 31) B d_Mo_inCatch_27 (by decide) ?_
        refine j_topi (if ¬ b = 0 ∨ K k = 4 then 1 else 0) (by first | exact (if_pos (Or.inl h13)).symm | exact (if_pos (Or.inr h23)).symm | exact (if_neg (fun z => z.elim (fun y => y h13) h23)).symm) ?_
        refine j_istoren B d_Mo_inCatch_31 (by decide) ?_
        refine j_iinc B d_Mo_inCatch_32 rfl (by decide) (nI_1 k) ?_
        refine j_goto (tgt := 4) B d_Mo_inCatch_35 (by decide) ?_
        refine j_loc [(2, .int (nI (k + 1))), (1, .int (if ¬ b = 0 ∨ K k = 4 then 1 else 0)), (0, .ref (ad 0))] ⟨rfl, rfl, rfl, trivial⟩ ?_
        exact ih (k + 1) _ (by omega) (by omega) hR
      · -- no
        refine j_aloadn B d_Mo_inCatch_16 rfl ?_
        refine j_getr B fl_Mo_62 (m_0) rfl d_Mo_inCatch_17 ?_
        refine j_iloadn B d_Mo_inCatch_20 rfl ?_
        refine j_iald B (m_17) (⟨rfl, by omega, by decide⟩) d_Mo_inCatch_21 ?_
        refine j_topi (K k) (by rw [ckM_K]) ?_
        refine j_iconst (v := 4) B d_Mo_inCatch_22 (by decide) ?_
        refine j_icmp_ne (tgt := 30) B d_Mo_inCatch_23 (by decide) (fun h23 => ?_) (fun h23 => ?_)
        · -- yes
          refine j_iconst (v := 0) B d_Mo_inCatch_30 (by decide) ?_
          refine j_topi (if ¬ b = 0 ∨ K k = 4 then 1 else 0) (by first | exact (if_pos (Or.inl h13)).symm | exact (if_pos (Or.inr h23)).symm | exact (if_neg (fun z => z.elim (fun y => y h13) h23)).symm) ?_
          refine j_istoren B d_Mo_inCatch_31 (by decide) ?_
          refine j_iinc B d_Mo_inCatch_32 rfl (by decide) (nI_1 k) ?_
          refine j_goto (tgt := 4) B d_Mo_inCatch_35 (by decide) ?_
          refine j_loc [(2, .int (nI (k + 1))), (1, .int (if ¬ b = 0 ∨ K k = 4 then 1 else 0)), (0, .ref (ad 0))] ⟨rfl, rfl, rfl, trivial⟩ ?_
          exact ih (k + 1) _ (by omega) (by omega) hR
        · -- no
          refine j_iconst (v := 1) B d_Mo_inCatch_26 (by decide) ?_
          refine j_goto (tgt := 31) B d_Mo_inCatch_27 (by decide) ?_
          refine j_topi (if ¬ b = 0 ∨ K k = 4 then 1 else 0) (by first | exact (if_pos (Or.inl h13)).symm | exact (if_pos (Or.inr h23)).symm | exact (if_neg (fun z => z.elim (fun y => y h13) h23)).symm) ?_
          refine j_istoren B d_Mo_inCatch_31 (by decide) ?_
          refine j_iinc B d_Mo_inCatch_32 rfl (by decide) (nI_1 k) ?_
          refine j_goto (tgt := 4) B d_Mo_inCatch_35 (by decide) ?_
          refine j_loc [(2, .int (nI (k + 1))), (1, .int (if ¬ b = 0 ∨ K k = 4 then 1 else 0)), (0, .ref (ad 0))] ⟨rfl, rfl, rfl, trivial⟩ ?_
          exact ih (k + 1) _ (by omega) (by omega) hR
  refine j_iconst (v := 0) B d_Mo_inCatch_0 (by decide) ?_
  refine j_istoren B d_Mo_inCatch_1 (by decide) ?_
  refine j_iconst (v := 1) B d_Mo_inCatch_2 (by decide) ?_
  refine j_istoren B d_Mo_inCatch_3 (by decide) ?_
  refine j_loc [(2, .int (nI 1)), (1, .int 0), (0, .ref (ad 0))] ⟨rfl, rfl, rfl, trivial⟩ ?_
  exact loop q 1 0 (by omega) (by omega) rfl
def mkS (q : Nat) (K : Nat → Int32) (s : Int32) : Int32 × Nat × (Nat → Int32) :=
  if s = 3 ∨ s = 6 then (if q = 5 then (0, q, K) else (1, q + 1, upd K (q + 1) s))
  else if s = 4 then (if q = 0 ∨ K q = 6 then (0, q, K) else (1, q, upd K q 4))
  else if s = 5 then (if q = 0 ∨ K q = 3 then (0, q, K) else (1, q - 1, K))
  else if s = 7 then (if inMF K q 1 0 = 0 then 0 else 1, q, K)
  else (1, q, K)
theorem mkS_le {q : Nat} {K : Nat → Int32} {s : Int32} (h : q ≤ 5) : (mkS q K s).2.1 ≤ 5 := by
  unfold mkS
  repeat' split
  all_goals simp only []
  all_goals omega
set_option maxRecDepth 100000 in
theorem ok_Mo_mayStand {l : Launch} {D : va_G} {aC : Nat → ClassId} {ad : Nat → Nat} (x : tm_M) {q : Nat} {K : Nat → Int32} (hq : q ≤ 5) (v : Int32) :
    OkM l y_Mo_mayStand b_Mo_mayStand 2 (some .boolean) (rom 1 22) D aC ad [.ref (ad 0), .int v] (ckM q K x) (some (.int (mkS q K v).1)) (ckM (mkS q K v).2.1 (mkS q K v).2.2 x) := by
  refine ok_start (by decide) (Nat.le_of_ble_eq_true rfl) rfl ?_
  intro p e s m args below meth c B hr hlk hml
  have B : Cx p s m c args b_Mo_mayStand R_Mo D aC (rg 30 ad) 30 ad := B
  refine j_iloadn B d_Mo_mayStand_0 rfl ?_
  refine j_iconst (v := 3) B d_Mo_mayStand_1 (by decide) ?_
  refine j_icmp_eq (tgt := 11) B d_Mo_mayStand_2 (by decide) (fun h2 => ?_) (fun h2 => ?_)
  · -- yes
    refine j_aloadn B d_Mo_mayStand_11 rfl ?_
    refine j_geti B fl_Mo_116 (m_0) rfl d_Mo_mayStand_12 ?_
    refine j_topi (nI q) ckM_o ?_
    refine j_iconst (v := 5) B d_Mo_mayStand_15 (by decide) ?_
    refine j_icmp_ne (tgt := 21) B d_Mo_mayStand_16 (by decide) (fun h16 => ?_) (fun h16 => ?_)
    · -- yes
      have q5 : ¬ q = 5 := fun z => h16 (by rw [z]; rfl)
      refine j_aloadn B d_Mo_mayStand_21 rfl ?_
      refine j_dup B d_Mo_mayStand_22 rfl ?_
      refine j_geti B fl_Mo_116 (m_0) rfl d_Mo_mayStand_23 ?_
      refine j_iconst (v := 1) B d_Mo_mayStand_26 (by decide) ?_
      refine j_iadd B d_Mo_mayStand_27 ?_
      refine j_topi (nI (q + 1)) (by rw [ckM_o, nI_1]) ?_
      refine j_puti B kM_inj fs_Mo_116 (m_0) rfl d_Mo_mayStand_28 ?_
      refine j_x (ckM (q + 1) K x) ckM_I ?_
      refine j_aloadn B d_Mo_mayStand_31 rfl ?_
      refine j_getr B fl_Mo_62 (m_0) rfl d_Mo_mayStand_32 ?_
      refine j_aloadn B d_Mo_mayStand_35 rfl ?_
      refine j_geti B fl_Mo_116 (m_0) rfl d_Mo_mayStand_36 ?_
      refine j_topi (nI (q + 1)) ckM_o ?_
      refine j_iloadn B d_Mo_mayStand_39 rfl ?_
      refine j_iast B kM_inj (m_17) (⟨rfl, by omega, by decide⟩) d_Mo_mayStand_40 ?_
      refine j_iconst (v := 1) B d_Mo_mayStand_41 (by decide) ?_
      exact j_zret B hr hlk d_Mo_mayStand_42 (by first | exact Or.inl rfl | exact Or.inr rfl) (by first | (simp [mkS, h2, q5]; done) | (simp [mkS, h8, q5]; done)) (by rw [ckM_A]; first | (simp [mkS, h2, q5]; done) | (simp [mkS, h8, q5]; done))
    · -- no
      have q5 : q = 5 := (nI_eq (a := q) (b := 5) (by omega) (by decide)).mp h16
      refine j_iconst (v := 0) B d_Mo_mayStand_19 (by decide) ?_
      exact j_zret B hr hlk d_Mo_mayStand_20 (by first | exact Or.inl rfl | exact Or.inr rfl) (by first | (simp [mkS, h2, q5]; done) | (simp [mkS, h8, q5]; done)) (by first | (simp [mkS, h2, q5]; done) | (simp [mkS, h8, q5]; done))
  · -- no
    refine j_iloadn B d_Mo_mayStand_5 rfl ?_
    refine j_bipush (v := 6) B d_Mo_mayStand_6 (by decide) ?_
    refine j_icmp_ne (tgt := 43) B d_Mo_mayStand_8 (by decide) (fun h8 => ?_) (fun h8 => ?_)
    · -- yes
      refine j_iloadn B d_Mo_mayStand_43 rfl ?_
      refine j_iconst (v := 4) B d_Mo_mayStand_44 (by decide) ?_
      refine j_icmp_ne (tgt := 83) B d_Mo_mayStand_45 (by decide) (fun h45 => ?_) (fun h45 => ?_)
      · -- yes
        refine j_iloadn B d_Mo_mayStand_83 rfl ?_
        refine j_iconst (v := 5) B d_Mo_mayStand_84 (by decide) ?_
        refine j_icmp_ne (tgt := 122) B d_Mo_mayStand_85 (by decide) (fun h85 => ?_) (fun h85 => ?_)
        · -- yes
          refine j_iloadn B d_Mo_mayStand_122 rfl ?_
          refine j_bipush (v := 7) B d_Mo_mayStand_123 (by decide) ?_
          refine j_icmp_ne (tgt := 135) B d_Mo_mayStand_125 (by decide) (fun h125 => ?_) (fun h125 => ?_)
          · -- yes
            refine j_iconst (v := 1) B d_Mo_mayStand_135 (by decide) ?_
            refine j_goto (tgt := 140) B d_Mo_mayStand_136 (by decide) ?_
            exact j_zret B hr hlk d_Mo_mayStand_140 (by first | exact Or.inl rfl | exact Or.inr rfl) (by first | (simp [mkS, h2, h8, h45, h85, h125]; done) | (simp [mkS, h125, h132]; done)) (by first | (simp [mkS, h2, h8, h45, h85, h125]; done) | (simp [mkS, h125, h132]; done))
          · -- no
            refine j_aloadn B d_Mo_mayStand_128 rfl ?_
            refine j_cVt B (ok_Mo_inCatch x hq) cv_Mo_inCatch ml_Mo_119 (m_0) rfl rfl ⟨rfl, rfl, by decide, by decide⟩ ⟨Nat.zero_le _, Nat.zero_le _⟩ hml (Nat.le_of_ble_eq_true rfl) rfl d_Mo_mayStand_129 ?_
            refine j_if_eq (tgt := 139) B d_Mo_mayStand_132 (by decide) (fun h132 => ?_) (fun h132 => ?_)
            · -- yes
              refine j_iconst (v := 0) B d_Mo_mayStand_139 (by decide) ?_
              exact j_zret B hr hlk d_Mo_mayStand_140 (by first | exact Or.inl rfl | exact Or.inr rfl) (by first | (simp [mkS, h2, h8, h45, h85, h125]; done) | (simp [mkS, h125, h132]; done)) (by first | (simp [mkS, h2, h8, h45, h85, h125]; done) | (simp [mkS, h125, h132]; done))
            · -- no
              refine j_iconst (v := 1) B d_Mo_mayStand_135 (by decide) ?_
              refine j_goto (tgt := 140) B d_Mo_mayStand_136 (by decide) ?_
              exact j_zret B hr hlk d_Mo_mayStand_140 (by first | exact Or.inl rfl | exact Or.inr rfl) (by first | (simp [mkS, h2, h8, h45, h85, h125]; done) | (simp [mkS, h125, h132]; done)) (by first | (simp [mkS, h2, h8, h45, h85, h125]; done) | (simp [mkS, h125, h132]; done))
        · -- no
          refine j_aloadn B d_Mo_mayStand_88 rfl ?_
          refine j_geti B fl_Mo_116 (m_0) rfl d_Mo_mayStand_89 ?_
          refine j_topi (nI q) ckM_o ?_
          refine j_if_eq (tgt := 108) B d_Mo_mayStand_92 (by decide) (fun h92 => ?_) (fun h92 => ?_)
          · -- yes
            have q0 : q = 0 := (nI_eq (a := q) (b := 0) (by omega) (by decide)).mp h92
            refine j_iconst (v := 0) B d_Mo_mayStand_108 (by decide) ?_
            exact j_zret B hr hlk d_Mo_mayStand_109 (by first | exact Or.inl rfl | exact Or.inr rfl) (by first | (simp [mkS, h85, q0]; done) | (simp [mkS, h85, q0, h105]; done)) (by first | (simp [mkS, h85, q0]; done) | (simp [mkS, h85, q0, h105]; done))
          · -- no
            have q0 : ¬ q = 0 := fun z => h92 (by rw [z]; rfl)
            refine j_aloadn B d_Mo_mayStand_95 rfl ?_
            refine j_getr B fl_Mo_62 (m_0) rfl d_Mo_mayStand_96 ?_
            refine j_aloadn B d_Mo_mayStand_99 rfl ?_
            refine j_geti B fl_Mo_116 (m_0) rfl d_Mo_mayStand_100 ?_
            refine j_topi (nI q) ckM_o ?_
            refine j_iald B (m_17) (⟨rfl, by omega, by decide⟩) d_Mo_mayStand_103 ?_
            refine j_topi (K q) (by rw [ckM_K]) ?_
            refine j_iconst (v := 3) B d_Mo_mayStand_104 (by decide) ?_
            refine j_icmp_ne (tgt := 110) B d_Mo_mayStand_105 (by decide) (fun h105 => ?_) (fun h105 => ?_)
            · -- yes
              refine j_aloadn B d_Mo_mayStand_110 rfl ?_
              refine j_dup B d_Mo_mayStand_111 rfl ?_
              refine j_geti B fl_Mo_116 (m_0) rfl d_Mo_mayStand_112 ?_
              refine j_iconst (v := 1) B d_Mo_mayStand_115 (by decide) ?_
              refine j_isub B d_Mo_mayStand_116 ?_
              refine j_topi (nI (q - 1)) (by rw [ckM_o]; exact nIp (by omega)) ?_
              refine j_puti B kM_inj fs_Mo_116 (m_0) rfl d_Mo_mayStand_117 ?_
              refine j_iconst (v := 1) B d_Mo_mayStand_120 (by decide) ?_
              exact j_zret B hr hlk d_Mo_mayStand_121 (by first | exact Or.inl rfl | exact Or.inr rfl) (by simp [mkS, h85, q0, h105]) (by rw [ckM_I]; simp [mkS, h85, q0, h105])
            · -- no
              refine j_iconst (v := 0) B d_Mo_mayStand_108 (by decide) ?_
              exact j_zret B hr hlk d_Mo_mayStand_109 (by first | exact Or.inl rfl | exact Or.inr rfl) (by first | (simp [mkS, h85, q0]; done) | (simp [mkS, h85, q0, h105]; done)) (by first | (simp [mkS, h85, q0]; done) | (simp [mkS, h85, q0, h105]; done))
      · -- no
        refine j_aloadn B d_Mo_mayStand_48 rfl ?_
        refine j_geti B fl_Mo_116 (m_0) rfl d_Mo_mayStand_49 ?_
        refine j_topi (nI q) ckM_o ?_
        refine j_if_eq (tgt := 69) B d_Mo_mayStand_52 (by decide) (fun h52 => ?_) (fun h52 => ?_)
        · -- yes
          have q0 : q = 0 := (nI_eq (a := q) (b := 0) (by omega) (by decide)).mp h52
          refine j_iconst (v := 0) B d_Mo_mayStand_69 (by decide) ?_
          exact j_zret B hr hlk d_Mo_mayStand_70 (by first | exact Or.inl rfl | exact Or.inr rfl) (by first | (simp [mkS, h45, q0]; done) | (simp [mkS, h45, q0, h66]; done)) (by first | (simp [mkS, h45, q0]; done) | (simp [mkS, h45, q0, h66]; done))
        · -- no
          have q0 : ¬ q = 0 := fun z => h52 (by rw [z]; rfl)
          refine j_aloadn B d_Mo_mayStand_55 rfl ?_
          refine j_getr B fl_Mo_62 (m_0) rfl d_Mo_mayStand_56 ?_
          refine j_aloadn B d_Mo_mayStand_59 rfl ?_
          refine j_geti B fl_Mo_116 (m_0) rfl d_Mo_mayStand_60 ?_
          refine j_topi (nI q) ckM_o ?_
          refine j_iald B (m_17) (⟨rfl, by omega, by decide⟩) d_Mo_mayStand_63 ?_
          refine j_topi (K q) (by rw [ckM_K]) ?_
          refine j_bipush (v := 6) B d_Mo_mayStand_64 (by decide) ?_
          refine j_icmp_ne (tgt := 71) B d_Mo_mayStand_66 (by decide) (fun h66 => ?_) (fun h66 => ?_)
          · -- yes
            refine j_aloadn B d_Mo_mayStand_71 rfl ?_
            refine j_getr B fl_Mo_62 (m_0) rfl d_Mo_mayStand_72 ?_
            refine j_aloadn B d_Mo_mayStand_75 rfl ?_
            refine j_geti B fl_Mo_116 (m_0) rfl d_Mo_mayStand_76 ?_
            refine j_topi (nI q) ckM_o ?_
            refine j_iconst (v := 4) B d_Mo_mayStand_79 (by decide) ?_
            refine j_iast B kM_inj (m_17) (⟨rfl, by omega, by decide⟩) d_Mo_mayStand_80 ?_
            refine j_iconst (v := 1) B d_Mo_mayStand_81 (by decide) ?_
            exact j_zret B hr hlk d_Mo_mayStand_82 (by first | exact Or.inl rfl | exact Or.inr rfl) (by simp [mkS, h45, q0, h66]) (by rw [ckM_A]; simp [mkS, h45, q0, h66])
          · -- no
            refine j_iconst (v := 0) B d_Mo_mayStand_69 (by decide) ?_
            exact j_zret B hr hlk d_Mo_mayStand_70 (by first | exact Or.inl rfl | exact Or.inr rfl) (by first | (simp [mkS, h45, q0]; done) | (simp [mkS, h45, q0, h66]; done)) (by first | (simp [mkS, h45, q0]; done) | (simp [mkS, h45, q0, h66]; done))
    · -- no
      refine j_aloadn B d_Mo_mayStand_11 rfl ?_
      refine j_geti B fl_Mo_116 (m_0) rfl d_Mo_mayStand_12 ?_
      refine j_topi (nI q) ckM_o ?_
      refine j_iconst (v := 5) B d_Mo_mayStand_15 (by decide) ?_
      refine j_icmp_ne (tgt := 21) B d_Mo_mayStand_16 (by decide) (fun h16 => ?_) (fun h16 => ?_)
      · -- yes
        have q5 : ¬ q = 5 := fun z => h16 (by rw [z]; rfl)
        refine j_aloadn B d_Mo_mayStand_21 rfl ?_
        refine j_dup B d_Mo_mayStand_22 rfl ?_
        refine j_geti B fl_Mo_116 (m_0) rfl d_Mo_mayStand_23 ?_
        refine j_iconst (v := 1) B d_Mo_mayStand_26 (by decide) ?_
        refine j_iadd B d_Mo_mayStand_27 ?_
        refine j_topi (nI (q + 1)) (by rw [ckM_o, nI_1]) ?_
        refine j_puti B kM_inj fs_Mo_116 (m_0) rfl d_Mo_mayStand_28 ?_
        refine j_x (ckM (q + 1) K x) ckM_I ?_
        refine j_aloadn B d_Mo_mayStand_31 rfl ?_
        refine j_getr B fl_Mo_62 (m_0) rfl d_Mo_mayStand_32 ?_
        refine j_aloadn B d_Mo_mayStand_35 rfl ?_
        refine j_geti B fl_Mo_116 (m_0) rfl d_Mo_mayStand_36 ?_
        refine j_topi (nI (q + 1)) ckM_o ?_
        refine j_iloadn B d_Mo_mayStand_39 rfl ?_
        refine j_iast B kM_inj (m_17) (⟨rfl, by omega, by decide⟩) d_Mo_mayStand_40 ?_
        refine j_iconst (v := 1) B d_Mo_mayStand_41 (by decide) ?_
        exact j_zret B hr hlk d_Mo_mayStand_42 (by first | exact Or.inl rfl | exact Or.inr rfl) (by first | (simp [mkS, h2, q5]; done) | (simp [mkS, h8, q5]; done)) (by rw [ckM_A]; first | (simp [mkS, h2, q5]; done) | (simp [mkS, h8, q5]; done))
      · -- no
        have q5 : q = 5 := (nI_eq (a := q) (b := 5) (by omega) (by decide)).mp h16
        refine j_iconst (v := 0) B d_Mo_mayStand_19 (by decide) ?_
        exact j_zret B hr hlk d_Mo_mayStand_20 (by first | exact Or.inl rfl | exact Or.inr rfl) (by first | (simp [mkS, h2, q5]; done) | (simp [mkS, h8, q5]; done)) (by first | (simp [mkS, h2, q5]; done) | (simp [mkS, h8, q5]; done))
def wmF (S : Nat → Int32) : Nat → Nat → Nat → (Nat → Int32) → Int32 × Nat × (Nat → Int32)
  | 0, _, q, K => (if q = 0 then 1 else 0, q, K)
  | r + 1, i, q, K => if (mkS q K (S i)).1 = 0 then (0, (mkS q K (S i)).2) else wmF S r (i + 1) (mkS q K (S i)).2.1 (mkS q K (S i)).2.2
set_option maxRecDepth 100000 in
theorem ok_Mo_wellFormed {l : Launch} {D : va_G} {aC : Nat → ClassId} {ad : Nat → Nat} {f : Nat} (hf : f < 6) (x : tm_M) {t : Nat} (ht : x.2 (0, 0, 2) f = nI t) (h20 : t ≤ 20) :
    OkM l y_Mo_wellFormed b_Mo_wellFormed 3 (some .boolean) (rom 2 43) D aC ad [.ref (ad 0), .int (nI f)] x (some (.int (wmF (fun j => x.2 (0, 0, 3) (20 * f + j)) t 0 0 (x.2 (0, 0, 17))).1)) (ckM (wmF (fun j => x.2 (0, 0, 3) (20 * f + j)) t 0 0 (x.2 (0, 0, 17))).2.1 (wmF (fun j => x.2 (0, 0, 3) (20 * f + j)) t 0 0 (x.2 (0, 0, 17))).2.2 x) := by
  refine ok_start (by decide) (Nat.le_of_ble_eq_true rfl) rfl ?_
  intro p e s m args below meth c B hr hlk hml
  have B : Cx p s m c args b_Mo_wellFormed R_Mo D aC (rg 30 ad) 30 ad := B
  have loop : ∀ (r k q : Nat) (K : Nat → Int32), q ≤ 5 → k + r = t → wmF (fun j => x.2 (0, 0, 3) (20 * f + j)) r k q K = (wmF (fun j => x.2 (0, 0, 3) (20 * f + j)) t 0 0 (x.2 (0, 0, 17))) → J p l e (rom 2 43) s m args below meth c D (rg 30 ad) 0 0 (MQ below (Qk D aC 30 ad (some (.int (wmF (fun j => x.2 (0, 0, 3) (20 * f + j)) t 0 0 (x.2 (0, 0, 17))).1)) (wM ad aC (ckM (wmF (fun j => x.2 (0, 0, 3) (20 * f + j)) t 0 0 (x.2 (0, 0, 17))).2.1 (wmF (fun j => x.2 (0, 0, 3) (20 * f + j)) t 0 0 (x.2 (0, 0, 17))).2.2 x))) args s 0 0 (rg 30 ad)) 30 ad (wM ad aC (ckM q K x)) 3 7 [(2, .int (nI k)), (0, .ref (ad 0)), (1, .int (nI f))] [] := by
    intro r
    induction r with
    | zero =>
      intro k q K hq hk hR
      refine j_iloadn B d_Mo_wellFormed_7 rfl ?_
      refine j_aloadn B d_Mo_wellFormed_8 rfl ?_
      refine j_getr B fl_Mo_17 (m_0) rfl d_Mo_wellFormed_9 ?_
      refine j_iloadn B d_Mo_wellFormed_12 rfl ?_
      refine j_iald B (m_2) (⟨rfl, hf, by decide⟩) d_Mo_wellFormed_13 ?_
      refine j_topi (nI t) (by rw [ckM_2 (by decide)]; exact ht) ?_
      refine j_icmp_ge (tgt := 43) B d_Mo_wellFormed_14 (by decide) (fun h14 => ?_) (fun h14 => (show False from h14 (nI_le (by omega) (by omega))).elim)
      refine j_aloadn B d_Mo_wellFormed_43 rfl ?_
      refine j_geti B fl_Mo_116 (m_0) rfl d_Mo_wellFormed_44 ?_
      refine j_topi (nI q) ckM_o ?_
      refine j_if_ne (tgt := 54) B d_Mo_wellFormed_47 (by decide) (fun h47 => ?_) (fun h47 => ?_)
      · -- yes
        refine j_iconst (v := 0) B d_Mo_wellFormed_54 (by decide) ?_
        exact j_zret B hr hlk d_Mo_wellFormed_55 (by first | exact Or.inl rfl | exact Or.inr rfl) (by first | exact sv (by rw [← hR]; exact if_neg (fun z => h47 (by rw [z]; rfl))) | exact sv (by rw [← hR]; exact if_pos (Nat.eq_zero_of_not_pos (fun z => nI_ne0 z (by omega) h47)))) (congrArg (tw ad aC sM kM) (by rw [← hR]; rfl))
      · -- no
        refine j_iconst (v := 1) B d_Mo_wellFormed_50 (by decide) ?_
        refine j_goto (tgt := 55) B d_Mo_wellFormed_51 (by decide) ?_
        exact j_zret B hr hlk d_Mo_wellFormed_55 (by first | exact Or.inl rfl | exact Or.inr rfl) (by first | exact sv (by rw [← hR]; exact if_neg (fun z => h47 (by rw [z]; rfl))) | exact sv (by rw [← hR]; exact if_pos (Nat.eq_zero_of_not_pos (fun z => nI_ne0 z (by omega) h47)))) (congrArg (tw ad aC sM kM) (by rw [← hR]; rfl))
    | succ r ih =>
      intro k q K hq hk hR
      refine j_iloadn B d_Mo_wellFormed_7 rfl ?_
      refine j_aloadn B d_Mo_wellFormed_8 rfl ?_
      refine j_getr B fl_Mo_17 (m_0) rfl d_Mo_wellFormed_9 ?_
      refine j_iloadn B d_Mo_wellFormed_12 rfl ?_
      refine j_iald B (m_2) (⟨rfl, hf, by decide⟩) d_Mo_wellFormed_13 ?_
      refine j_topi (nI t) (by rw [ckM_2 (by decide)]; exact ht) ?_
      refine j_icmp_ge (tgt := 43) B d_Mo_wellFormed_14 (by decide) (fun h14 => (show False from absurd (nIle h14 (by omega) (by omega)) (by omega)).elim) (fun h14 => ?_)
      refine j_aloadn B d_Mo_wellFormed_17 rfl ?_
      refine j_aloadn B d_Mo_wellFormed_18 rfl ?_
      refine j_getr B fl_Mo_20 (m_0) rfl d_Mo_wellFormed_19 ?_
      refine j_bipush (v := 20) B d_Mo_wellFormed_22 (by decide) ?_
      refine j_iloadn B d_Mo_wellFormed_24 rfl ?_
      refine j_imul B d_Mo_wellFormed_25 ?_
      refine j_iloadn B d_Mo_wellFormed_26 rfl ?_
      refine j_iadd B d_Mo_wellFormed_27 ?_
      refine j_iald B (m_3) (⟨ixm 20 f k, by omega, by decide⟩) d_Mo_wellFormed_28 ?_
      refine j_topi (x.2 (0, 0, 3) (20 * f + k)) (by rw [ckM_2 (by decide)]) ?_
      refine j_cVt B (ok_Mo_mayStand x hq (x.2 (0, 0, 3) (20 * f + k))) cv_Mo_mayStand ml_Mo_123 (m_0) rfl rfl ⟨rfl, rfl, by decide, by decide⟩ ⟨Nat.zero_le _, Nat.zero_le _⟩ hml (Nat.le_of_ble_eq_true rfl) rfl d_Mo_wellFormed_29 ?_
      refine j_if_ne (tgt := 37) B d_Mo_wellFormed_32 (by decide) (fun h32 => ?_) (fun h32 => ?_)
      · -- yes
        refine j_iinc B d_Mo_wellFormed_37 rfl (by decide) (nI_1 k) ?_
        refine j_goto (tgt := 7) B d_Mo_wellFormed_40 (by decide) ?_
        refine j_loc [(2, .int (nI (k + 1))), (0, .ref (ad 0)), (1, .int (nI f))] ⟨rfl, rfl, rfl, trivial⟩ ?_
        exact ih (k + 1) _ _ (mkS_le hq) (by omega) (by rw [← hR]; exact (if_neg h32).symm)
      · -- no
        refine j_iconst (v := 0) B d_Mo_wellFormed_35 (by decide) ?_
        exact j_zret B hr hlk d_Mo_wellFormed_36 (by first | exact Or.inl rfl | exact Or.inr rfl) (sv (by rw [← hR]; exact congrArg Prod.fst (if_pos h32))) (congrArg (tw ad aC sM kM) (by rw [← hR, show wmF (fun j => x.2 (0, 0, 3) (20 * f + j)) (r + 1) k q K = _ from if_pos h32]))
  refine j_aloadn B d_Mo_wellFormed_0 rfl ?_
  refine j_iconst (v := 0) B d_Mo_wellFormed_1 (by decide) ?_
  refine j_puti B kM_inj fs_Mo_116 (m_0) rfl d_Mo_wellFormed_2 ?_
  refine j_iconst (v := 0) B d_Mo_wellFormed_5 (by decide) ?_
  refine j_istoren B d_Mo_wellFormed_6 (by decide) ?_
  refine j_x (ckM 0 (x.2 (0, 0, 17)) x) ckM_0 ?_
  refine j_loc [(2, .int (nI 0)), (0, .ref (ad 0)), (1, .int (nI f))] ⟨rfl, rfl, rfl, trivial⟩ ?_
  exact loop t 0 0 _ (by omega) (by omega) rfl
