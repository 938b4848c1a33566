/-- an instruction; an action; a landing; a row opened -/
def emM (f n q : Nat) (a v : Int32) (x : tm_M) : tm_M := sA (sA (sA (sA x (0, 0, 6) (128 * f + n) a) (0, 0, 7) (128 * f + n) v) (0, 0, 8) (128 * f + n) (x.2 (0, 0, 18) q)) (0, 0, 5) f (nI (n + 1))
def acM (f a : Nat) (k h : Int32) (x : tm_M) : tm_M := sA (sA (sA (sA x (0, 0, 10) (48 * f + a) k) (0, 0, 11) (48 * f + a) 0) (0, 0, 12) (48 * f + a) h) (0, 0, 9) f (nI (a + 1))
def laM (f k n : Nat) (x : tm_M) : tm_M := sA x (0, 0, 11) (48 * f + k) (nI n)
def opM (q : Nat) (a h : Int32) (x : tm_M) : tm_M := sA (sA (sI (sA x (0, 0, 19) (q + 1) (x.2 (0, 0, 18) q)) (0, 0, 0) 18 (nI (q + 1))) (0, 0, 17) (q + 1) a) (0, 0, 18) (q + 1) h
/-- the end of a row of a CATCH, of a LOCAL -/
def ceM (f n q k : Nat) (x : tm_M) : tm_M := emM f (n + 3) q 7 0 (emM f (n + 2) q 6 0 (laM f k (n + 2) (emM f (n + 1) q 4 (-(nI q)) (emM f n q 6 0 x))))
def leM (f n q k : Nat) (w : Int32) (x : tm_M) : tm_M := emM f (n + 3) q 7 0 (emM f (n + 2) q 5 w (laM f k (n + 2) (emM f (n + 1) q 4 (-(nI q)) (emM f n q 5 w x))))
/-- the first k instructions: the Gs of row q are aimed at n -/
def clF (f n q : Nat) (x : tm_M) : Nat → tm_M
  | 0 => x
  | k + 1 => if (clF f n q x k).2 (0, 0, 6) (128 * f + k) = 4 ∧ (clF f n q x k).2 (0, 0, 7) (128 * f + k) = -(nI q) then sA (clF f n q x k) (0, 0, 7) (128 * f + k) (nI n) else clF f n q x k
theorem clF_1 {f n q : Nat} {x : tm_M} : ∀ k, (clF f n q x k).1 = x.1
  | 0 => rfl
  | k + 1 => by
    unfold clF
    split
    · rw [rAI]; exact clF_1 k
    · exact clF_1 k
theorem clF_2 {f n q : Nat} {x : tm_M} {K : tm_K} (h : K ≠ (0, 0, 7)) : ∀ k, (clF f n q x k).2 K = x.2 K
  | 0 => rfl
  | k + 1 => by
    unfold clF
    split
    · rw [rAK h]; exact clF_2 h k
    · exact clF_2 h k
set_option maxRecDepth 100000 in
theorem ok_Mo_emit {l : Launch} {D : va_G} {aC : Nat → ClassId} {ad : Nat → Nat} {f : Nat} (hf : f < 6) (x : tm_M) (a v : Int32) {n : Nat} (hn : x.2 (0, 0, 5) f = nI n) (h128 : n < 128) {q : Nat} (hq : x.1 (0, 0, 0) 18 = nI q) (hq6 : q ≤ 6) :
    OkM l y_Mo_emit b_Mo_emit 5 none (rom 0 0) D aC ad [.ref (ad 0), .int (nI f), .int a, .int v] x none (emM f n q a v x) := by
  refine ok_start (by decide) (Nat.le_of_ble_eq_true rfl) rfl ?_
  intro p e s m args below meth c B hr hlk hml
  have B : Cx p s m c args b_Mo_emit R_Mo D aC (rg 30 ad) 30 ad := B
  refine j_sipush (v := 128) B d_Mo_emit_0 (by decide) ?_
  refine j_iloadn B d_Mo_emit_3 rfl ?_
  refine j_imul B d_Mo_emit_4 ?_
  refine j_aloadn B d_Mo_emit_5 rfl ?_
  refine j_getr B fl_Mo_26 (m_0) rfl d_Mo_emit_6 ?_
  refine j_iloadn B d_Mo_emit_9 rfl ?_
  refine j_iald B (m_5) (⟨rfl, hf, by decide⟩) d_Mo_emit_10 ?_
  refine j_topi (nI n) hn ?_
  refine j_iadd B d_Mo_emit_11 ?_
  refine j_topi (nI (128 * f + n)) (ixm 128 f n) ?_
  refine j_istore B d_Mo_emit_12 (by decide) ?_
  refine j_aloadn B d_Mo_emit_14 rfl ?_
  refine j_getr B fl_Mo_29 (m_0) rfl d_Mo_emit_15 ?_
  refine j_iload B d_Mo_emit_18 rfl ?_
  refine j_iloadn B d_Mo_emit_20 rfl ?_
  refine j_iast B kM_inj (m_6) (⟨rfl, by omega, by decide⟩) d_Mo_emit_21 ?_
  refine j_aloadn B d_Mo_emit_22 rfl ?_
  refine j_getr B fl_Mo_32 (m_0) rfl d_Mo_emit_23 ?_
  refine j_iload B d_Mo_emit_26 rfl ?_
  refine j_iloadn B d_Mo_emit_28 rfl ?_
  refine j_iast B kM_inj (m_7) (⟨rfl, by omega, by decide⟩) d_Mo_emit_29 ?_
  refine j_aloadn B d_Mo_emit_30 rfl ?_
  refine j_getr B fl_Mo_35 (m_0) rfl d_Mo_emit_31 ?_
  refine j_iload B d_Mo_emit_34 rfl ?_
  refine j_aloadn B d_Mo_emit_36 rfl ?_
  refine j_getr B fl_Mo_65 (m_0) rfl d_Mo_emit_37 ?_
  refine j_aloadn B d_Mo_emit_40 rfl ?_
  refine j_geti B fl_Mo_116 (m_0) rfl d_Mo_emit_41 ?_
  refine j_topi (nI q) hq ?_
  refine j_iald B (m_18) (⟨rfl, by omega, by decide⟩) d_Mo_emit_44 ?_
  refine j_topi (x.2 (0, 0, 18) q) (by rw [rAK (by decide), rAK (by decide)]) ?_
  refine j_iast B kM_inj (m_8) (⟨rfl, by omega, by decide⟩) d_Mo_emit_45 ?_
  refine j_aloadn B d_Mo_emit_46 rfl ?_
  refine j_getr B fl_Mo_26 (m_0) rfl d_Mo_emit_47 ?_
  refine j_iloadn B d_Mo_emit_50 rfl ?_
  refine j_dup2 B d_Mo_emit_51 rfl rfl ?_
  refine j_iald B (m_5) (⟨rfl, hf, by decide⟩) d_Mo_emit_52 ?_
  refine j_iconst (v := 1) B d_Mo_emit_53 (by decide) ?_
  refine j_iadd B d_Mo_emit_54 ?_
  refine j_topi (nI (n + 1)) (by rw [rAK (by decide), rAK (by decide), rAK (by decide), hn, nI_1]) ?_
  refine j_iast B kM_inj (m_5) (⟨rfl, hf, by decide⟩) d_Mo_emit_55 ?_
  exact j_vret B hr hlk d_Mo_emit_56 (rfl) (rfl)
set_option maxRecDepth 100000 in
theorem ok_Mo_newAction {l : Launch} {D : va_G} {aC : Nat → ClassId} {ad : Nat → Nat} {f : Nat} (hf : f < 6) (x : tm_M) (k h : Int32) {a : Nat} (ha : x.2 (0, 0, 9) f = nI a) (h48 : a < 48) :
    OkM l y_Mo_newAction b_Mo_newAction 5 (some .int) (rom 0 0) D aC ad [.ref (ad 0), .int (nI f), .int k, .int h] x (some (.int (nI a))) (acM f a k h x) := by
  refine ok_start (by decide) (Nat.le_of_ble_eq_true rfl) rfl ?_
  intro p e s m args below meth c B hr hlk hml
  have B : Cx p s m c args b_Mo_newAction R_Mo D aC (rg 30 ad) 30 ad := B
  refine j_bipush (v := 48) B d_Mo_newAction_0 (by decide) ?_
  refine j_iloadn B d_Mo_newAction_2 rfl ?_
  refine j_imul B d_Mo_newAction_3 ?_
  refine j_aloadn B d_Mo_newAction_4 rfl ?_
  refine j_getr B fl_Mo_38 (m_0) rfl d_Mo_newAction_5 ?_
  refine j_iloadn B d_Mo_newAction_8 rfl ?_
  refine j_iald B (m_9) (⟨rfl, hf, by decide⟩) d_Mo_newAction_9 ?_
  refine j_topi (nI a) ha ?_
  refine j_iadd B d_Mo_newAction_10 ?_
  refine j_topi (nI (48 * f + a)) (ixm 48 f a) ?_
  refine j_istore B d_Mo_newAction_11 (by decide) ?_
  refine j_aloadn B d_Mo_newAction_13 rfl ?_
  refine j_getr B fl_Mo_41 (m_0) rfl d_Mo_newAction_14 ?_
  refine j_iload B d_Mo_newAction_17 rfl ?_
  refine j_iloadn B d_Mo_newAction_19 rfl ?_
  refine j_iast B kM_inj (m_10) (⟨rfl, by omega, by decide⟩) d_Mo_newAction_20 ?_
  refine j_aloadn B d_Mo_newAction_21 rfl ?_
  refine j_getr B fl_Mo_44 (m_0) rfl d_Mo_newAction_22 ?_
  refine j_iload B d_Mo_newAction_25 rfl ?_
  refine j_iconst (v := 0) B d_Mo_newAction_27 (by decide) ?_
  refine j_iast B kM_inj (m_11) (⟨rfl, by omega, by decide⟩) d_Mo_newAction_28 ?_
  refine j_aloadn B d_Mo_newAction_29 rfl ?_
  refine j_getr B fl_Mo_47 (m_0) rfl d_Mo_newAction_30 ?_
  refine j_iload B d_Mo_newAction_33 rfl ?_
  refine j_iloadn B d_Mo_newAction_35 rfl ?_
  refine j_iast B kM_inj (m_12) (⟨rfl, by omega, by decide⟩) d_Mo_newAction_36 ?_
  refine j_aloadn B d_Mo_newAction_37 rfl ?_
  refine j_getr B fl_Mo_38 (m_0) rfl d_Mo_newAction_38 ?_
  refine j_iloadn B d_Mo_newAction_41 rfl ?_
  refine j_dup2 B d_Mo_newAction_42 rfl rfl ?_
  refine j_iald B (m_9) (⟨rfl, hf, by decide⟩) d_Mo_newAction_43 ?_
  refine j_iconst (v := 1) B d_Mo_newAction_44 (by decide) ?_
  refine j_iadd B d_Mo_newAction_45 ?_
  refine j_topi (nI (a + 1)) (by rw [rAK (by decide), rAK (by decide), rAK (by decide), ha, nI_1]) ?_
  refine j_iast B kM_inj (m_9) (⟨rfl, hf, by decide⟩) d_Mo_newAction_46 ?_
  refine j_aloadn B d_Mo_newAction_47 rfl ?_
  refine j_getr B fl_Mo_38 (m_0) rfl d_Mo_newAction_48 ?_
  refine j_iloadn B d_Mo_newAction_51 rfl ?_
  refine j_iald B (m_9) (⟨rfl, hf, by decide⟩) d_Mo_newAction_52 ?_
  refine j_iconst (v := 1) B d_Mo_newAction_53 (by decide) ?_
  refine j_isub B d_Mo_newAction_54 ?_
  exact j_iret B hr hlk d_Mo_newAction_55 (sv (by rw [rA, nI_pred])) (rfl)
set_option maxRecDepth 100000 in
theorem ok_Mo_lands {l : Launch} {D : va_G} {aC : Nat → ClassId} {ad : Nat → Nat} {f : Nat} (hf : f < 6) (x : tm_M) {k n : Nat} (hk : k < 48) (hn : x.2 (0, 0, 5) f = nI n) :
    OkM l y_Mo_lands b_Mo_lands 3 none (rom 0 0) D aC ad [.ref (ad 0), .int (nI f), .int (nI k)] x none (laM f k n x) := by
  refine ok_start (by decide) (Nat.le_of_ble_eq_true rfl) rfl ?_
  intro p e s m args below meth c B hr hlk hml
  have B : Cx p s m c args b_Mo_lands R_Mo D aC (rg 30 ad) 30 ad := B
  refine j_aloadn B d_Mo_lands_0 rfl ?_
  refine j_getr B fl_Mo_44 (m_0) rfl d_Mo_lands_1 ?_
  refine j_bipush (v := 48) B d_Mo_lands_4 (by decide) ?_
  refine j_iloadn B d_Mo_lands_6 rfl ?_
  refine j_imul B d_Mo_lands_7 ?_
  refine j_iloadn B d_Mo_lands_8 rfl ?_
  refine j_iadd B d_Mo_lands_9 ?_
  refine j_aloadn B d_Mo_lands_10 rfl ?_
  refine j_getr B fl_Mo_26 (m_0) rfl d_Mo_lands_11 ?_
  refine j_iloadn B d_Mo_lands_14 rfl ?_
  refine j_iald B (m_5) (⟨rfl, hf, by decide⟩) d_Mo_lands_15 ?_
  refine j_topi (nI n) hn ?_
  refine j_iast B kM_inj (m_11) (⟨ixm 48 f k, by omega, by decide⟩) d_Mo_lands_16 ?_
  exact j_vret B hr hlk d_Mo_lands_17 (rfl) (rfl)
set_option maxRecDepth 100000 in
theorem ok_Mo_opens {l : Launch} {D : va_G} {aC : Nat → ClassId} {ad : Nat → Nat} (x : tm_M) (a h : Int32) {q : Nat} (hq : x.1 (0, 0, 0) 18 = nI q) (hq5 : q ≤ 5) :
    OkM l y_Mo_opens b_Mo_opens 3 none (rom 0 0) D aC ad [.ref (ad 0), .int a, .int h] x none (opM q a h x) := by
  refine ok_start (by decide) (Nat.le_of_ble_eq_true rfl) rfl ?_
  intro p e s m args below meth c B hr hlk hml
  have B : Cx p s m c args b_Mo_opens R_Mo D aC (rg 30 ad) 30 ad := B
  refine j_aloadn B d_Mo_opens_0 rfl ?_
  refine j_getr B fl_Mo_68 (m_0) rfl d_Mo_opens_1 ?_
  refine j_aloadn B d_Mo_opens_4 rfl ?_
  refine j_geti B fl_Mo_116 (m_0) rfl d_Mo_opens_5 ?_
  refine j_topi (nI q) hq ?_
  refine j_iconst (v := 1) B d_Mo_opens_8 (by decide) ?_
  refine j_iadd B d_Mo_opens_9 ?_
  refine j_aloadn B d_Mo_opens_10 rfl ?_
  refine j_getr B fl_Mo_65 (m_0) rfl d_Mo_opens_11 ?_
  refine j_aloadn B d_Mo_opens_14 rfl ?_
  refine j_geti B fl_Mo_116 (m_0) rfl d_Mo_opens_15 ?_
  refine j_topi (nI q) hq ?_
  refine j_iald B (m_18) (⟨rfl, by omega, by decide⟩) d_Mo_opens_18 ?_
  refine j_iast B kM_inj (m_19) (⟨nI_1 q, by omega, by decide⟩) d_Mo_opens_19 ?_
  refine j_aloadn B d_Mo_opens_20 rfl ?_
  refine j_dup B d_Mo_opens_21 rfl ?_
  refine j_geti B fl_Mo_116 (m_0) rfl d_Mo_opens_22 ?_
  refine j_iconst (v := 1) B d_Mo_opens_25 (by decide) ?_
  refine j_iadd B d_Mo_opens_26 ?_
  refine j_topi (nI (q + 1)) (by show x.1 _ _ + 1 = _; rw [hq, nI_1]) ?_
  refine j_puti B kM_inj fs_Mo_116 (m_0) rfl d_Mo_opens_27 ?_
  refine j_aloadn B d_Mo_opens_30 rfl ?_
  refine j_getr B fl_Mo_62 (m_0) rfl d_Mo_opens_31 ?_
  refine j_aloadn B d_Mo_opens_34 rfl ?_
  refine j_geti B fl_Mo_116 (m_0) rfl d_Mo_opens_35 ?_
  refine j_topi (nI (q + 1)) rI ?_
  refine j_iloadn B d_Mo_opens_38 rfl ?_
  refine j_iast B kM_inj (m_17) (⟨rfl, by omega, by decide⟩) d_Mo_opens_39 ?_
  refine j_aloadn B d_Mo_opens_40 rfl ?_
  refine j_getr B fl_Mo_65 (m_0) rfl d_Mo_opens_41 ?_
  refine j_aloadn B d_Mo_opens_44 rfl ?_
  refine j_geti B fl_Mo_116 (m_0) rfl d_Mo_opens_45 ?_
  refine j_topi (nI (q + 1)) (by rw [rAI]; exact rI) ?_
  refine j_iloadn B d_Mo_opens_48 rfl ?_
  refine j_iast B kM_inj (m_18) (⟨rfl, by omega, by decide⟩) d_Mo_opens_49 ?_
  exact j_vret B hr hlk d_Mo_opens_50 (rfl) (rfl)
set_option maxRecDepth 100000 in
theorem ok_Mo_closes {l : Launch} {D : va_G} {aC : Nat → ClassId} {ad : Nat → Nat} {f : Nat} (hf : f < 6) (x : tm_M) {n q : Nat} (hn : x.2 (0, 0, 5) f = nI n) (h128 : n ≤ 128) (hq : x.1 (0, 0, 0) 18 = nI q) (hq0 : 0 < q) (hq6 : q ≤ 6) :
    OkM l y_Mo_closes b_Mo_closes 4 none (rom 0 0) D aC ad [.ref (ad 0), .int (nI f)] x none (sI (clF f n q x n) (0, 0, 0) 18 (nI (q - 1))) := by
  refine ok_start (by decide) (Nat.le_of_ble_eq_true rfl) rfl ?_
  intro p e s m args below meth c B hr hlk hml
  have B : Cx p s m c args b_Mo_closes R_Mo D aC (rg 30 ad) 30 ad := B
  have loop : ∀ (r k : Nat), k + r = n → J p l e (rom 0 0) s m args below meth c D (rg 30 ad) 0 0 (MQ below (Qk D aC 30 ad none (wM ad aC (sI (clF f n q x n) (0, 0, 0) 18 (nI (q - 1))))) args s 0 0 (rg 30 ad)) 30 ad (wM ad aC (clF f n q x k)) 4 2 [(2, .int (nI k)), (0, .ref (ad 0)), (1, .int (nI f))] [] := by
    intro r
    induction r with
    | zero =>
      intro k hk
      refine j_iloadn B d_Mo_closes_2 rfl ?_
      refine j_aloadn B d_Mo_closes_3 rfl ?_
      refine j_getr B fl_Mo_26 (m_0) rfl d_Mo_closes_4 ?_
      refine j_iloadn B d_Mo_closes_7 rfl ?_
      refine j_iald B (m_5) (⟨rfl, hf, by decide⟩) d_Mo_closes_8 ?_
      refine j_topi (nI n) (by rw [clF_2 (by decide)]; exact hn) ?_
      refine j_icmp_ge (tgt := 62) B d_Mo_closes_9 (by decide) (fun h9 => ?_) (fun h9 => (show False from h9 (nI_le (by omega) (by omega))).elim)
      refine j_aloadn B d_Mo_closes_62 rfl ?_
      refine j_dup B d_Mo_closes_63 rfl ?_
      refine j_geti B fl_Mo_116 (m_0) rfl d_Mo_closes_64 ?_
      refine j_iconst (v := 1) B d_Mo_closes_67 (by decide) ?_
      refine j_isub B d_Mo_closes_68 ?_
      refine j_topi (nI (q - 1)) (by rw [clF_1, hq]; exact nIp hq0) ?_
      refine j_puti B kM_inj fs_Mo_116 (m_0) rfl d_Mo_closes_69 ?_
      exact j_vret B hr hlk d_Mo_closes_72 (rfl) (by rw [show k = n by omega])
    | succ r ih =>
      intro k hk
      refine j_iloadn B d_Mo_closes_2 rfl ?_
      refine j_aloadn B d_Mo_closes_3 rfl ?_
      refine j_getr B fl_Mo_26 (m_0) rfl d_Mo_closes_4 ?_
      refine j_iloadn B d_Mo_closes_7 rfl ?_
      refine j_iald B (m_5) (⟨rfl, hf, by decide⟩) d_Mo_closes_8 ?_
      refine j_topi (nI n) (by rw [clF_2 (by decide)]; exact hn) ?_
      refine j_icmp_ge (tgt := 62) B d_Mo_closes_9 (by decide) (fun h9 => (show False from absurd (nIle h9 (by omega) (by omega)) (by omega)).elim) (fun h9 => ?_)
      refine j_sipush (v := 128) B d_Mo_closes_12 (by decide) ?_
      refine j_iloadn B d_Mo_closes_15 rfl ?_
      refine j_imul B d_Mo_closes_16 ?_
      refine j_iloadn B d_Mo_closes_17 rfl ?_
      refine j_iadd B d_Mo_closes_18 ?_
      refine j_topi (nI (128 * f + k)) (ixm 128 f k) ?_
      refine j_istoren B d_Mo_closes_19 (by decide) ?_
      refine j_aloadn B d_Mo_closes_20 rfl ?_
      refine j_getr B fl_Mo_29 (m_0) rfl d_Mo_closes_21 ?_
      refine j_iloadn B d_Mo_closes_24 rfl ?_
      refine j_iald B (m_6) (⟨rfl, by omega, by decide⟩) d_Mo_closes_25 ?_
      refine j_iconst (v := 4) B d_Mo_closes_26 (by decide) ?_
      refine j_icmp_ne (tgt := 56) B d_Mo_closes_27 (by decide) (fun h27 => ?_) (fun h27 => ?_)
      · -- yes
        refine j_iinc B d_Mo_closes_56 rfl (by decide) (nI_1 k) ?_
        refine j_goto (tgt := 2) B d_Mo_closes_59 (by decide) ?_
        refine j_x (clF f n q x (k + 1)) (by first | exact (if_pos ⟨h27, h41⟩).symm | exact (if_neg (fun z => h27 z.1)).symm | exact (if_neg (fun z => h41 z.2)).symm) ?_
        refine j_loc [(2, .int (nI (k + 1))), (0, .ref (ad 0)), (1, .int (nI f))] ⟨rfl, rfl, rfl, trivial⟩ ?_
        exact ih (k + 1) (by omega)
      · -- no
        refine j_aloadn B d_Mo_closes_30 rfl ?_
        refine j_getr B fl_Mo_32 (m_0) rfl d_Mo_closes_31 ?_
        refine j_iloadn B d_Mo_closes_34 rfl ?_
        refine j_iald B (m_7) (⟨rfl, by omega, by decide⟩) d_Mo_closes_35 ?_
        refine j_aloadn B d_Mo_closes_36 rfl ?_
        refine j_geti B fl_Mo_116 (m_0) rfl d_Mo_closes_37 ?_
        refine j_topi (nI q) (by rw [clF_1]; exact hq) ?_
        refine j_ineg B d_Mo_closes_40 ?_
        refine j_icmp_ne (tgt := 56) B d_Mo_closes_41 (by decide) (fun h41 => ?_) (fun h41 => ?_)
        · -- yes
          refine j_iinc B d_Mo_closes_56 rfl (by decide) (nI_1 k) ?_
          refine j_goto (tgt := 2) B d_Mo_closes_59 (by decide) ?_
          refine j_x (clF f n q x (k + 1)) (by first | exact (if_pos ⟨h27, h41⟩).symm | exact (if_neg (fun z => h27 z.1)).symm | exact (if_neg (fun z => h41 z.2)).symm) ?_
          refine j_loc [(2, .int (nI (k + 1))), (0, .ref (ad 0)), (1, .int (nI f))] ⟨rfl, rfl, rfl, trivial⟩ ?_
          exact ih (k + 1) (by omega)
        · -- no
          refine j_aloadn B d_Mo_closes_44 rfl ?_
          refine j_getr B fl_Mo_32 (m_0) rfl d_Mo_closes_45 ?_
          refine j_iloadn B d_Mo_closes_48 rfl ?_
          refine j_aloadn B d_Mo_closes_49 rfl ?_
          refine j_getr B fl_Mo_26 (m_0) rfl d_Mo_closes_50 ?_
          refine j_iloadn B d_Mo_closes_53 rfl ?_
          refine j_iald B (m_5) (⟨rfl, hf, by decide⟩) d_Mo_closes_54 ?_
          refine j_topi (nI n) (by rw [clF_2 (by decide)]; exact hn) ?_
          refine j_iast B kM_inj (m_7) (⟨rfl, by omega, by decide⟩) d_Mo_closes_55 ?_
          refine j_iinc B d_Mo_closes_56 rfl (by decide) (nI_1 k) ?_
          refine j_goto (tgt := 2) B d_Mo_closes_59 (by decide) ?_
          refine j_x (clF f n q x (k + 1)) (by first | exact (if_pos ⟨h27, h41⟩).symm | exact (if_neg (fun z => h27 z.1)).symm | exact (if_neg (fun z => h41 z.2)).symm) ?_
          refine j_loc [(2, .int (nI (k + 1))), (0, .ref (ad 0)), (1, .int (nI f))] ⟨rfl, rfl, rfl, trivial⟩ ?_
          exact ih (k + 1) (by omega)
  refine j_iconst (v := 0) B d_Mo_closes_0 (by decide) ?_
  refine j_istoren B d_Mo_closes_1 (by decide) ?_
  refine j_loc [(2, .int (nI 0)), (0, .ref (ad 0)), (1, .int (nI f))] ⟨rfl, rfl, rfl, trivial⟩ ?_
  exact loop n 0 (by omega)
set_option maxRecDepth 100000 in
theorem ok_Mo_caughtRowEnds {l : Launch} {D : va_G} {aC : Nat → ClassId} {ad : Nat → Nat} {f : Nat} (hf : f < 6) (x : tm_M) {n q k : Nat} (hn : x.2 (0, 0, 5) f = nI n) (h128 : n + 4 ≤ 128) (hq : x.1 (0, 0, 0) 18 = nI q) (hq6 : q ≤ 6) (hk : x.2 (0, 0, 21) q = nI k) (hk48 : k < 48) :
    OkM l y_Mo_caughtRowEnds b_Mo_caughtRowEnds 2 none (rom 1 24) D aC ad [.ref (ad 0), .int (nI f)] x none (ceM f n q k x) := by
  refine ok_start (by decide) (Nat.le_of_ble_eq_true rfl) rfl ?_
  intro p e s m args below meth c B hr hlk hml
  have B : Cx p s m c args b_Mo_caughtRowEnds R_Mo D aC (rg 30 ad) 30 ad := B
  refine j_aloadn B d_Mo_caughtRowEnds_0 rfl ?_
  refine j_iloadn B d_Mo_caughtRowEnds_1 rfl ?_
  refine j_bipush (v := 6) B d_Mo_caughtRowEnds_2 (by decide) ?_
  refine j_iconst (v := 0) B d_Mo_caughtRowEnds_4 (by decide) ?_
  refine j_cVt B (ok_Mo_emit hf x 6 0 hn (by omega) hq hq6) cv_Mo_emit ml_Mo_135 (m_0) rfl rfl ⟨rfl, rfl, by decide, by decide⟩ ⟨Nat.zero_le _, Nat.zero_le _⟩ hml (Nat.le_of_ble_eq_true rfl) rfl d_Mo_caughtRowEnds_5 ?_
  refine j_aloadn B d_Mo_caughtRowEnds_8 rfl ?_
  refine j_iloadn B d_Mo_caughtRowEnds_9 rfl ?_
  refine j_iconst (v := 4) B d_Mo_caughtRowEnds_10 (by decide) ?_
  refine j_aloadn B d_Mo_caughtRowEnds_11 rfl ?_
  refine j_geti B fl_Mo_116 (m_0) rfl d_Mo_caughtRowEnds_12 ?_
  refine j_topi (nI q) (by simp [ceM, leM, emM, acM, laM, opM, sI, sA, upd, hq]) ?_
  refine j_ineg B d_Mo_caughtRowEnds_15 ?_
  refine j_cVt B (ok_Mo_emit hf (emM f n q 6 0 x) 4 (-(nI q)) (n := n + 1) (q := q) (by simp [ceM, leM, emM, acM, laM, opM, sI, sA, upd, hn]) (by omega) (by simp [ceM, leM, emM, acM, laM, opM, sI, sA, upd, hq]) hq6) cv_Mo_emit ml_Mo_135 (m_0) rfl rfl ⟨rfl, rfl, by decide, by decide⟩ ⟨Nat.zero_le _, Nat.zero_le _⟩ hml (Nat.le_of_ble_eq_true rfl) rfl d_Mo_caughtRowEnds_16 ?_
  refine j_aloadn B d_Mo_caughtRowEnds_19 rfl ?_
  refine j_iloadn B d_Mo_caughtRowEnds_20 rfl ?_
  refine j_aloadn B d_Mo_caughtRowEnds_21 rfl ?_
  refine j_getr B fl_Mo_74 (m_0) rfl d_Mo_caughtRowEnds_22 ?_
  refine j_aloadn B d_Mo_caughtRowEnds_25 rfl ?_
  refine j_geti B fl_Mo_116 (m_0) rfl d_Mo_caughtRowEnds_26 ?_
  refine j_topi (nI q) (by simp [ceM, leM, emM, acM, laM, opM, sI, sA, upd, hq]) ?_
  refine j_iald B (m_21) (⟨rfl, by omega, by decide⟩) d_Mo_caughtRowEnds_29 ?_
  refine j_topi (nI k) (by simp [ceM, leM, emM, acM, laM, opM, sI, sA, upd, hk]) ?_
  refine j_cVt B (ok_Mo_lands hf (emM f (n + 1) q 4 (-(nI q)) (emM f n q 6 0 x)) (k := k) (n := n + 2) (by omega) (by simp [ceM, leM, emM, acM, laM, opM, sI, sA, upd, hn])) cv_Mo_lands ml_Mo_139 (m_0) rfl rfl ⟨rfl, rfl, by decide, by decide⟩ ⟨Nat.zero_le _, Nat.zero_le _⟩ hml (Nat.le_of_ble_eq_true rfl) rfl d_Mo_caughtRowEnds_30 ?_
  refine j_aloadn B d_Mo_caughtRowEnds_33 rfl ?_
  refine j_iloadn B d_Mo_caughtRowEnds_34 rfl ?_
  refine j_bipush (v := 6) B d_Mo_caughtRowEnds_35 (by decide) ?_
  refine j_iconst (v := 0) B d_Mo_caughtRowEnds_37 (by decide) ?_
  refine j_cVt B (ok_Mo_emit hf (laM f k (n + 2) (emM f (n + 1) q 4 (-(nI q)) (emM f n q 6 0 x))) 6 0 (n := n + 2) (q := q) (by simp [ceM, leM, emM, acM, laM, opM, sI, sA, upd, hn]) (by omega) (by simp [ceM, leM, emM, acM, laM, opM, sI, sA, upd, hq]) hq6) cv_Mo_emit ml_Mo_135 (m_0) rfl rfl ⟨rfl, rfl, by decide, by decide⟩ ⟨Nat.zero_le _, Nat.zero_le _⟩ hml (Nat.le_of_ble_eq_true rfl) rfl d_Mo_caughtRowEnds_38 ?_
  refine j_aloadn B d_Mo_caughtRowEnds_41 rfl ?_
  refine j_iloadn B d_Mo_caughtRowEnds_42 rfl ?_
  refine j_bipush (v := 7) B d_Mo_caughtRowEnds_43 (by decide) ?_
  refine j_iconst (v := 0) B d_Mo_caughtRowEnds_45 (by decide) ?_
  refine j_cVt B (ok_Mo_emit hf (emM f (n + 2) q 6 0 (laM f k (n + 2) (emM f (n + 1) q 4 (-(nI q)) (emM f n q 6 0 x)))) 7 0 (n := n + 3) (q := q) (by simp [ceM, leM, emM, acM, laM, opM, sI, sA, upd, hn]) (by omega) (by simp [ceM, leM, emM, acM, laM, opM, sI, sA, upd, hq]) hq6) cv_Mo_emit ml_Mo_135 (m_0) rfl rfl ⟨rfl, rfl, by decide, by decide⟩ ⟨Nat.zero_le _, Nat.zero_le _⟩ hml (Nat.le_of_ble_eq_true rfl) rfl d_Mo_caughtRowEnds_46 ?_
  exact j_vret B hr hlk d_Mo_caughtRowEnds_49 (rfl) (rfl)
/-- a CATCH begins: what stands ahead of it stands already (memory x, n instructions) -/
def bcM (f n q k a : Nat) (u : Int32) (x : tm_M) : tm_M := sA (sA (acM f a (-2) u (sA (laM f k n (sA x (0, 0, 17) q 4)) (0, 0, 20) q (nI (k + 1)))) (0, 0, 21) q (nI a)) (0, 0, 18) q (nI a)
set_option maxRecDepth 100000 in
theorem ok_Mo_catches_t {l : Launch} {D : va_G} {aC : Nat → ClassId} {ad : Nat → Nat} {f : Nat} (hf : f < 6) (x : tm_M) {n q k a : Nat} {u : Int32} (hn : x.2 (0, 0, 5) f = nI n) (h128 : n + 4 ≤ 128) (hq : x.1 (0, 0, 0) 18 = nI q) (hq6 : q ≤ 6) (hnc : x.2 (0, 0, 20) q = nI k) (hka : k < 48) (ha : x.2 (0, 0, 9) f = nI a) (h48 : a < 48) (hu : x.2 (0, 0, 19) q = u) (hkd : x.2 (0, 0, 17) q = 3) :
    OkM l y_Mo_catches b_Mo_catches 2 none (rom 2 45) D aC ad [.ref (ad 0), .int (nI f)] x none (bcM f (n + 1) q k a u (emM f n q 4 (-(nI q)) x)) := by
  refine ok_start (by decide) (Nat.le_of_ble_eq_true rfl) rfl ?_
  intro p e s m args below meth c B hr hlk hml
  have B : Cx p s m c args b_Mo_catches R_Mo D aC (rg 30 ad) 30 ad := B
  refine j_aloadn B d_Mo_catches_0 rfl ?_
  refine j_getr B fl_Mo_62 (m_0) rfl d_Mo_catches_1 ?_
  refine j_aloadn B d_Mo_catches_4 rfl ?_
  refine j_geti B fl_Mo_116 (m_0) rfl d_Mo_catches_5 ?_
  refine j_topi (nI q) hq ?_
  refine j_iald B (m_17) (⟨rfl, by omega, by decide⟩) d_Mo_catches_8 ?_
  refine j_iconst (v := 3) B d_Mo_catches_9 (by decide) ?_
  refine j_icmp_ne (tgt := 27) B d_Mo_catches_10 (by decide) (fun h10 => (show False from h10 hkd).elim) (fun h10 => ?_)
  refine j_aloadn B d_Mo_catches_13 rfl ?_
  refine j_iloadn B d_Mo_catches_14 rfl ?_
  refine j_iconst (v := 4) B d_Mo_catches_15 (by decide) ?_
  refine j_aloadn B d_Mo_catches_16 rfl ?_
  refine j_geti B fl_Mo_116 (m_0) rfl d_Mo_catches_17 ?_
  refine j_topi (nI q) hq ?_
  refine j_ineg B d_Mo_catches_20 ?_
  refine j_cVt B (ok_Mo_emit hf x 4 (-(nI q)) hn (by omega) hq hq6) cv_Mo_emit ml_Mo_135 (m_0) rfl rfl ⟨rfl, rfl, by decide, by decide⟩ ⟨Nat.zero_le _, Nat.zero_le _⟩ hml (Nat.le_of_ble_eq_true rfl) rfl d_Mo_catches_21 ?_
  refine j_goto (tgt := 32) B d_Mo_catches_24 (by decide) ?_
  refine j_aloadn B d_Mo_catches_32 rfl ?_
  refine j_getr B fl_Mo_62 (m_0) rfl d_Mo_catches_33 ?_
  refine j_aloadn B d_Mo_catches_36 rfl ?_
  refine j_geti B fl_Mo_116 (m_0) rfl d_Mo_catches_37 ?_
  refine j_topi (nI q) (by simp [ceM, leM, emM, acM, laM, opM, sI, sA, upd, hq]) ?_
  refine j_iconst (v := 4) B d_Mo_catches_40 (by decide) ?_
  refine j_iast B kM_inj (m_17) (⟨rfl, by omega, by decide⟩) d_Mo_catches_41 ?_
  refine j_aloadn B d_Mo_catches_42 rfl ?_
  refine j_iloadn B d_Mo_catches_43 rfl ?_
  refine j_aloadn B d_Mo_catches_44 rfl ?_
  refine j_getr B fl_Mo_71 (m_0) rfl d_Mo_catches_45 ?_
  refine j_aloadn B d_Mo_catches_48 rfl ?_
  refine j_geti B fl_Mo_116 (m_0) rfl d_Mo_catches_49 ?_
  refine j_topi (nI q) (by simp [ceM, leM, emM, acM, laM, opM, sI, sA, upd, hq]) ?_
  refine j_iald B (m_20) (⟨rfl, by omega, by decide⟩) d_Mo_catches_52 ?_
  refine j_topi (nI k) (by simp [ceM, leM, emM, acM, laM, opM, sI, sA, upd, hnc]) ?_
  refine j_cVt B (ok_Mo_lands hf (sA (emM f n q 4 (-(nI q)) x) (0, 0, 17) q 4) (k := k) (n := (n + 1)) (by omega) (by simp [ceM, leM, emM, acM, laM, opM, sI, sA, upd, hn])) cv_Mo_lands ml_Mo_139 (m_0) rfl rfl ⟨rfl, rfl, by decide, by decide⟩ ⟨Nat.zero_le _, Nat.zero_le _⟩ hml (Nat.le_of_ble_eq_true rfl) rfl d_Mo_catches_53 ?_
  refine j_aloadn B d_Mo_catches_56 rfl ?_
  refine j_getr B fl_Mo_71 (m_0) rfl d_Mo_catches_57 ?_
  refine j_aloadn B d_Mo_catches_60 rfl ?_
  refine j_geti B fl_Mo_116 (m_0) rfl d_Mo_catches_61 ?_
  refine j_topi (nI q) (by simp [ceM, leM, emM, acM, laM, opM, sI, sA, upd, hq]) ?_
  refine j_dup2 B d_Mo_catches_64 rfl rfl ?_
  refine j_iald B (m_20) (⟨rfl, by omega, by decide⟩) d_Mo_catches_65 ?_
  refine j_iconst (v := 1) B d_Mo_catches_66 (by decide) ?_
  refine j_iadd B d_Mo_catches_67 ?_
  refine j_topi (nI (k + 1)) (by rw [show (laM f k (n + 1) (sA (emM f n q 4 (-(nI q)) x) (0, 0, 17) q 4)).2 (0, 0, 20) q = nI k from by simp [ceM, leM, emM, acM, laM, opM, sI, sA, upd, hnc], nI_1]) ?_
  refine j_iast B kM_inj (m_20) (⟨rfl, by omega, by decide⟩) d_Mo_catches_68 ?_
  refine j_aloadn B d_Mo_catches_69 rfl ?_
  refine j_getr B fl_Mo_74 (m_0) rfl d_Mo_catches_70 ?_
  refine j_aloadn B d_Mo_catches_73 rfl ?_
  refine j_geti B fl_Mo_116 (m_0) rfl d_Mo_catches_74 ?_
  refine j_topi (nI q) (by simp [ceM, leM, emM, acM, laM, opM, sI, sA, upd, hq]) ?_
  refine j_aloadn B d_Mo_catches_77 rfl ?_
  refine j_iloadn B d_Mo_catches_78 rfl ?_
  refine j_bipush (v := (-2)) B d_Mo_catches_79 (by decide) ?_
  refine j_aloadn B d_Mo_catches_81 rfl ?_
  refine j_getr B fl_Mo_68 (m_0) rfl d_Mo_catches_82 ?_
  refine j_aloadn B d_Mo_catches_85 rfl ?_
  refine j_geti B fl_Mo_116 (m_0) rfl d_Mo_catches_86 ?_
  refine j_topi (nI q) (by simp [ceM, leM, emM, acM, laM, opM, sI, sA, upd, hq]) ?_
  refine j_iald B (m_19) (⟨rfl, by omega, by decide⟩) d_Mo_catches_89 ?_
  refine j_topi u (by simp [ceM, leM, emM, acM, laM, opM, sI, sA, upd, hu]) ?_
  refine j_cVt B (ok_Mo_newAction hf (sA (laM f k (n + 1) (sA (emM f n q 4 (-(nI q)) x) (0, 0, 17) q 4)) (0, 0, 20) q (nI (k + 1))) (-2) u (a := a) (by simp [ceM, leM, emM, acM, laM, opM, sI, sA, upd, ha]) (by omega)) cv_Mo_newAction ml_Mo_127 (m_0) rfl rfl ⟨rfl, rfl, by decide, by decide⟩ ⟨Nat.zero_le _, Nat.zero_le _⟩ hml (Nat.le_of_ble_eq_true rfl) rfl d_Mo_catches_90 ?_
  refine j_iast B kM_inj (m_21) (⟨rfl, by omega, by decide⟩) d_Mo_catches_93 ?_
  refine j_aloadn B d_Mo_catches_94 rfl ?_
  refine j_getr B fl_Mo_65 (m_0) rfl d_Mo_catches_95 ?_
  refine j_aloadn B d_Mo_catches_98 rfl ?_
  refine j_geti B fl_Mo_116 (m_0) rfl d_Mo_catches_99 ?_
  refine j_topi (nI q) (by simp [ceM, leM, emM, acM, laM, opM, sI, sA, upd, hq]) ?_
  refine j_aloadn B d_Mo_catches_102 rfl ?_
  refine j_getr B fl_Mo_74 (m_0) rfl d_Mo_catches_103 ?_
  refine j_aloadn B d_Mo_catches_106 rfl ?_
  refine j_geti B fl_Mo_116 (m_0) rfl d_Mo_catches_107 ?_
  refine j_topi (nI q) (by simp [ceM, leM, emM, acM, laM, opM, sI, sA, upd, hq]) ?_
  refine j_iald B (m_21) (⟨rfl, by omega, by decide⟩) d_Mo_catches_110 ?_
  refine j_topi (nI a) rA ?_
  refine j_iast B kM_inj (m_18) (⟨rfl, by omega, by decide⟩) d_Mo_catches_111 ?_
  exact j_vret B hr hlk d_Mo_catches_112 (rfl) (rfl)
set_option maxRecDepth 100000 in
theorem ok_Mo_catches_c {l : Launch} {D : va_G} {aC : Nat → ClassId} {ad : Nat → Nat} {f : Nat} (hf : f < 6) (x : tm_M) {n q k a : Nat} {u : Int32} (hn : x.2 (0, 0, 5) f = nI n) (h128 : n + 4 ≤ 128) (hq : x.1 (0, 0, 0) 18 = nI q) (hq6 : q ≤ 6) (hnc : x.2 (0, 0, 20) q = nI k) (hka : k < 48) (ha : x.2 (0, 0, 9) f = nI a) (h48 : a < 48) (hu : x.2 (0, 0, 19) q = u) {k2 : Nat} (hkd : ¬ x.2 (0, 0, 17) q = 3) (hk2 : x.2 (0, 0, 21) q = nI k2) (hk48 : k2 < 48) :
    OkM l y_Mo_catches b_Mo_catches 2 none (rom 2 45) D aC ad [.ref (ad 0), .int (nI f)] x none (bcM f (n + 4) q k a u (ceM f n q k2 x)) := by
  refine ok_start (by decide) (Nat.le_of_ble_eq_true rfl) rfl ?_
  intro p e s m args below meth c B hr hlk hml
  have B : Cx p s m c args b_Mo_catches R_Mo D aC (rg 30 ad) 30 ad := B
  refine j_aloadn B d_Mo_catches_0 rfl ?_
  refine j_getr B fl_Mo_62 (m_0) rfl d_Mo_catches_1 ?_
  refine j_aloadn B d_Mo_catches_4 rfl ?_
  refine j_geti B fl_Mo_116 (m_0) rfl d_Mo_catches_5 ?_
  refine j_topi (nI q) hq ?_
  refine j_iald B (m_17) (⟨rfl, by omega, by decide⟩) d_Mo_catches_8 ?_
  refine j_iconst (v := 3) B d_Mo_catches_9 (by decide) ?_
  refine j_icmp_ne (tgt := 27) B d_Mo_catches_10 (by decide) (fun h10 => ?_) (fun h10 => (show False from hkd h10).elim)
  refine j_aloadn B d_Mo_catches_27 rfl ?_
  refine j_iloadn B d_Mo_catches_28 rfl ?_
  refine j_cVt B (ok_Mo_caughtRowEnds hf x hn h128 hq hq6 hk2 hk48) cv_Mo_caughtRowEnds ml_Mo_142 (m_0) rfl rfl ⟨rfl, rfl, by decide, by decide⟩ ⟨Nat.zero_le _, Nat.zero_le _⟩ hml (Nat.le_of_ble_eq_true rfl) rfl d_Mo_catches_29 ?_
  refine j_aloadn B d_Mo_catches_32 rfl ?_
  refine j_getr B fl_Mo_62 (m_0) rfl d_Mo_catches_33 ?_
  refine j_aloadn B d_Mo_catches_36 rfl ?_
  refine j_geti B fl_Mo_116 (m_0) rfl d_Mo_catches_37 ?_
  refine j_topi (nI q) (by simp [ceM, leM, emM, acM, laM, opM, sI, sA, upd, hq]) ?_
  refine j_iconst (v := 4) B d_Mo_catches_40 (by decide) ?_
  refine j_iast B kM_inj (m_17) (⟨rfl, by omega, by decide⟩) d_Mo_catches_41 ?_
  refine j_aloadn B d_Mo_catches_42 rfl ?_
  refine j_iloadn B d_Mo_catches_43 rfl ?_
  refine j_aloadn B d_Mo_catches_44 rfl ?_
  refine j_getr B fl_Mo_71 (m_0) rfl d_Mo_catches_45 ?_
  refine j_aloadn B d_Mo_catches_48 rfl ?_
  refine j_geti B fl_Mo_116 (m_0) rfl d_Mo_catches_49 ?_
  refine j_topi (nI q) (by simp [ceM, leM, emM, acM, laM, opM, sI, sA, upd, hq]) ?_
  refine j_iald B (m_20) (⟨rfl, by omega, by decide⟩) d_Mo_catches_52 ?_
  refine j_topi (nI k) (by simp [ceM, leM, emM, acM, laM, opM, sI, sA, upd, hnc]) ?_
  refine j_cVt B (ok_Mo_lands hf (sA (ceM f n q k2 x) (0, 0, 17) q 4) (k := k) (n := (n + 4)) (by omega) (by simp [ceM, leM, emM, acM, laM, opM, sI, sA, upd, hn])) cv_Mo_lands ml_Mo_139 (m_0) rfl rfl ⟨rfl, rfl, by decide, by decide⟩ ⟨Nat.zero_le _, Nat.zero_le _⟩ hml (Nat.le_of_ble_eq_true rfl) rfl d_Mo_catches_53 ?_
  refine j_aloadn B d_Mo_catches_56 rfl ?_
  refine j_getr B fl_Mo_71 (m_0) rfl d_Mo_catches_57 ?_
  refine j_aloadn B d_Mo_catches_60 rfl ?_
  refine j_geti B fl_Mo_116 (m_0) rfl d_Mo_catches_61 ?_
  refine j_topi (nI q) (by simp [ceM, leM, emM, acM, laM, opM, sI, sA, upd, hq]) ?_
  refine j_dup2 B d_Mo_catches_64 rfl rfl ?_
  refine j_iald B (m_20) (⟨rfl, by omega, by decide⟩) d_Mo_catches_65 ?_
  refine j_iconst (v := 1) B d_Mo_catches_66 (by decide) ?_
  refine j_iadd B d_Mo_catches_67 ?_
  refine j_topi (nI (k + 1)) (by rw [show (laM f k (n + 4) (sA (ceM f n q k2 x) (0, 0, 17) q 4)).2 (0, 0, 20) q = nI k from by simp [ceM, leM, emM, acM, laM, opM, sI, sA, upd, hnc], nI_1]) ?_
  refine j_iast B kM_inj (m_20) (⟨rfl, by omega, by decide⟩) d_Mo_catches_68 ?_
  refine j_aloadn B d_Mo_catches_69 rfl ?_
  refine j_getr B fl_Mo_74 (m_0) rfl d_Mo_catches_70 ?_
  refine j_aloadn B d_Mo_catches_73 rfl ?_
  refine j_geti B fl_Mo_116 (m_0) rfl d_Mo_catches_74 ?_
  refine j_topi (nI q) (by simp [ceM, leM, emM, acM, laM, opM, sI, sA, upd, hq]) ?_
  refine j_aloadn B d_Mo_catches_77 rfl ?_
  refine j_iloadn B d_Mo_catches_78 rfl ?_
  refine j_bipush (v := (-2)) B d_Mo_catches_79 (by decide) ?_
  refine j_aloadn B d_Mo_catches_81 rfl ?_
  refine j_getr B fl_Mo_68 (m_0) rfl d_Mo_catches_82 ?_
  refine j_aloadn B d_Mo_catches_85 rfl ?_
  refine j_geti B fl_Mo_116 (m_0) rfl d_Mo_catches_86 ?_
  refine j_topi (nI q) (by simp [ceM, leM, emM, acM, laM, opM, sI, sA, upd, hq]) ?_
  refine j_iald B (m_19) (⟨rfl, by omega, by decide⟩) d_Mo_catches_89 ?_
  refine j_topi u (by simp [ceM, leM, emM, acM, laM, opM, sI, sA, upd, hu]) ?_
  refine j_cVt B (ok_Mo_newAction hf (sA (laM f k (n + 4) (sA (ceM f n q k2 x) (0, 0, 17) q 4)) (0, 0, 20) q (nI (k + 1))) (-2) u (a := a) (by simp [ceM, leM, emM, acM, laM, opM, sI, sA, upd, ha]) (by omega)) cv_Mo_newAction ml_Mo_127 (m_0) rfl rfl ⟨rfl, rfl, by decide, by decide⟩ ⟨Nat.zero_le _, Nat.zero_le _⟩ hml (Nat.le_of_ble_eq_true rfl) rfl d_Mo_catches_90 ?_
  refine j_iast B kM_inj (m_21) (⟨rfl, by omega, by decide⟩) d_Mo_catches_93 ?_
  refine j_aloadn B d_Mo_catches_94 rfl ?_
  refine j_getr B fl_Mo_65 (m_0) rfl d_Mo_catches_95 ?_
  refine j_aloadn B d_Mo_catches_98 rfl ?_
  refine j_geti B fl_Mo_116 (m_0) rfl d_Mo_catches_99 ?_
  refine j_topi (nI q) (by simp [ceM, leM, emM, acM, laM, opM, sI, sA, upd, hq]) ?_
  refine j_aloadn B d_Mo_catches_102 rfl ?_
  refine j_getr B fl_Mo_74 (m_0) rfl d_Mo_catches_103 ?_
  refine j_aloadn B d_Mo_catches_106 rfl ?_
  refine j_geti B fl_Mo_116 (m_0) rfl d_Mo_catches_107 ?_
  refine j_topi (nI q) (by simp [ceM, leM, emM, acM, laM, opM, sI, sA, upd, hq]) ?_
  refine j_iald B (m_21) (⟨rfl, by omega, by decide⟩) d_Mo_catches_110 ?_
  refine j_topi (nI a) rA ?_
  refine j_iast B kM_inj (m_18) (⟨rfl, by omega, by decide⟩) d_Mo_catches_111 ?_
  exact j_vret B hr hlk d_Mo_catches_112 (rfl) (rfl)
set_option maxRecDepth 100000 in
theorem ok_Mo_ends_c {l : Launch} {D : va_G} {aC : Nat → ClassId} {ad : Nat → Nat} {f : Nat} (hf : f < 6) (x : tm_M) {n q k : Nat} (hn : x.2 (0, 0, 5) f = nI n) (h128 : n + 4 ≤ 128) (hq : x.1 (0, 0, 0) 18 = nI q) (hq6 : q ≤ 6) (hq0 : 0 < q) (hk48 : k < 48) (hkd : x.2 (0, 0, 17) q = 4) (hk : x.2 (0, 0, 21) q = nI k) :
    OkM l y_Mo_ends b_Mo_ends 2 none (rom 2 45) D aC ad [.ref (ad 0), .int (nI f)] x none (sI (clF f (n + 4) q (ceM f n q k x) (n + 4)) (0, 0, 0) 18 (nI (q - 1))) := by
  refine ok_start (by decide) (Nat.le_of_ble_eq_true rfl) rfl ?_
  intro p e s m args below meth c B hr hlk hml
  have B : Cx p s m c args b_Mo_ends R_Mo D aC (rg 30 ad) 30 ad := B
  refine j_aloadn B d_Mo_ends_0 rfl ?_
  refine j_getr B fl_Mo_62 (m_0) rfl d_Mo_ends_1 ?_
  refine j_aloadn B d_Mo_ends_4 rfl ?_
  refine j_geti B fl_Mo_116 (m_0) rfl d_Mo_ends_5 ?_
  refine j_topi (nI q) hq ?_
  refine j_iald B (m_17) (⟨rfl, by omega, by decide⟩) d_Mo_ends_8 ?_
  refine j_iconst (v := 4) B d_Mo_ends_9 (by decide) ?_
  refine j_icmp_ne (tgt := 21) B d_Mo_ends_10 (by decide) (fun h10 => (show False from h10 hkd).elim) (fun h10 => ?_)
  refine j_aloadn B d_Mo_ends_13 rfl ?_
  refine j_iloadn B d_Mo_ends_14 rfl ?_
  refine j_cVt B (ok_Mo_caughtRowEnds hf x hn h128 hq hq6 hk hk48) cv_Mo_caughtRowEnds ml_Mo_142 (m_0) rfl rfl ⟨rfl, rfl, by decide, by decide⟩ ⟨Nat.zero_le _, Nat.zero_le _⟩ hml (Nat.le_of_ble_eq_true rfl) rfl d_Mo_ends_15 ?_
  refine j_goto (tgt := 84) B d_Mo_ends_18 (by decide) ?_
  refine j_aloadn B d_Mo_ends_84 rfl ?_
  refine j_iloadn B d_Mo_ends_85 rfl ?_
  refine j_cVt B (ok_Mo_closes hf (ceM f n q k x) (n := n + 4) (q := q) (by simp [ceM, leM, emM, acM, laM, opM, sI, sA, upd, hn]) h128 (by simp [ceM, leM, emM, acM, laM, opM, sI, sA, upd, hq]) hq0 hq6) cv_Mo_closes ml_Mo_146 (m_0) rfl rfl ⟨rfl, rfl, by decide, by decide⟩ ⟨Nat.zero_le _, Nat.zero_le _⟩ hml (Nat.le_of_ble_eq_true rfl) rfl d_Mo_ends_86 ?_
  exact j_vret B hr hlk d_Mo_ends_89 (rfl) (rfl)
set_option maxRecDepth 100000 in
theorem ok_Mo_ends_l {l : Launch} {D : va_G} {aC : Nat → ClassId} {ad : Nat → Nat} {f : Nat} (hf : f < 6) (x : tm_M) {n q k : Nat} (hn : x.2 (0, 0, 5) f = nI n) (h128 : n + 4 ≤ 128) (hq : x.1 (0, 0, 0) 18 = nI q) (hq6 : q ≤ 6) (hq0 : 0 < q) (hk48 : k < 48) {w : Int32} (hkd : ¬ x.2 (0, 0, 17) q = 4) (hk : x.2 (0, 0, 18) q = nI k) (hw : x.2 (0, 0, 22) q = w) :
    OkM l y_Mo_ends b_Mo_ends 2 none (rom 2 45) D aC ad [.ref (ad 0), .int (nI f)] x none (sI (clF f (n + 4) q (leM f n q k w x) (n + 4)) (0, 0, 0) 18 (nI (q - 1))) := by
  refine ok_start (by decide) (Nat.le_of_ble_eq_true rfl) rfl ?_
  intro p e s m args below meth c B hr hlk hml
  have B : Cx p s m c args b_Mo_ends R_Mo D aC (rg 30 ad) 30 ad := B
  refine j_aloadn B d_Mo_ends_0 rfl ?_
  refine j_getr B fl_Mo_62 (m_0) rfl d_Mo_ends_1 ?_
  refine j_aloadn B d_Mo_ends_4 rfl ?_
  refine j_geti B fl_Mo_116 (m_0) rfl d_Mo_ends_5 ?_
  refine j_topi (nI q) hq ?_
  refine j_iald B (m_17) (⟨rfl, by omega, by decide⟩) d_Mo_ends_8 ?_
  refine j_iconst (v := 4) B d_Mo_ends_9 (by decide) ?_
  refine j_icmp_ne (tgt := 21) B d_Mo_ends_10 (by decide) (fun h10 => ?_) (fun h10 => (show False from hkd h10).elim)
  refine j_aloadn B d_Mo_ends_21 rfl ?_
  refine j_iloadn B d_Mo_ends_22 rfl ?_
  refine j_iconst (v := 5) B d_Mo_ends_23 (by decide) ?_
  refine j_aloadn B d_Mo_ends_24 rfl ?_
  refine j_getr B fl_Mo_77 (m_0) rfl d_Mo_ends_25 ?_
  refine j_aloadn B d_Mo_ends_28 rfl ?_
  refine j_geti B fl_Mo_116 (m_0) rfl d_Mo_ends_29 ?_
  refine j_topi (nI q) (by simp [ceM, leM, emM, acM, laM, opM, sI, sA, upd, hq]) ?_
  refine j_iald B (m_22) (⟨rfl, by omega, by decide⟩) d_Mo_ends_32 ?_
  refine j_topi w (by simp [ceM, leM, emM, acM, laM, opM, sI, sA, upd, hw]) ?_
  refine j_cVt B (ok_Mo_emit hf x 5 w hn (by omega) hq hq6) cv_Mo_emit ml_Mo_135 (m_0) rfl rfl ⟨rfl, rfl, by decide, by decide⟩ ⟨Nat.zero_le _, Nat.zero_le _⟩ hml (Nat.le_of_ble_eq_true rfl) rfl d_Mo_ends_33 ?_
  refine j_aloadn B d_Mo_ends_36 rfl ?_
  refine j_iloadn B d_Mo_ends_37 rfl ?_
  refine j_iconst (v := 4) B d_Mo_ends_38 (by decide) ?_
  refine j_aloadn B d_Mo_ends_39 rfl ?_
  refine j_geti B fl_Mo_116 (m_0) rfl d_Mo_ends_40 ?_
  refine j_topi (nI q) (by simp [ceM, leM, emM, acM, laM, opM, sI, sA, upd, hq]) ?_
  refine j_ineg B d_Mo_ends_43 ?_
  refine j_cVt B (ok_Mo_emit hf (emM f n q 5 w x) 4 (-(nI q)) (n := n + 1) (q := q) (by simp [ceM, leM, emM, acM, laM, opM, sI, sA, upd, hn]) (by omega) (by simp [ceM, leM, emM, acM, laM, opM, sI, sA, upd, hq]) hq6) cv_Mo_emit ml_Mo_135 (m_0) rfl rfl ⟨rfl, rfl, by decide, by decide⟩ ⟨Nat.zero_le _, Nat.zero_le _⟩ hml (Nat.le_of_ble_eq_true rfl) rfl d_Mo_ends_44 ?_
  refine j_aloadn B d_Mo_ends_47 rfl ?_
  refine j_iloadn B d_Mo_ends_48 rfl ?_
  refine j_aloadn B d_Mo_ends_49 rfl ?_
  refine j_getr B fl_Mo_65 (m_0) rfl d_Mo_ends_50 ?_
  refine j_aloadn B d_Mo_ends_53 rfl ?_
  refine j_geti B fl_Mo_116 (m_0) rfl d_Mo_ends_54 ?_
  refine j_topi (nI q) (by simp [ceM, leM, emM, acM, laM, opM, sI, sA, upd, hq]) ?_
  refine j_iald B (m_18) (⟨rfl, by omega, by decide⟩) d_Mo_ends_57 ?_
  refine j_topi (nI k) (by simp [ceM, leM, emM, acM, laM, opM, sI, sA, upd, hk]) ?_
  refine j_cVt B (ok_Mo_lands hf (emM f (n + 1) q 4 (-(nI q)) (emM f n q 5 w x)) (k := k) (n := n + 2) (by omega) (by simp [ceM, leM, emM, acM, laM, opM, sI, sA, upd, hn])) cv_Mo_lands ml_Mo_139 (m_0) rfl rfl ⟨rfl, rfl, by decide, by decide⟩ ⟨Nat.zero_le _, Nat.zero_le _⟩ hml (Nat.le_of_ble_eq_true rfl) rfl d_Mo_ends_58 ?_
  refine j_aloadn B d_Mo_ends_61 rfl ?_
  refine j_iloadn B d_Mo_ends_62 rfl ?_
  refine j_iconst (v := 5) B d_Mo_ends_63 (by decide) ?_
  refine j_aloadn B d_Mo_ends_64 rfl ?_
  refine j_getr B fl_Mo_77 (m_0) rfl d_Mo_ends_65 ?_
  refine j_aloadn B d_Mo_ends_68 rfl ?_
  refine j_geti B fl_Mo_116 (m_0) rfl d_Mo_ends_69 ?_
  refine j_topi (nI q) (by simp [ceM, leM, emM, acM, laM, opM, sI, sA, upd, hq]) ?_
  refine j_iald B (m_22) (⟨rfl, by omega, by decide⟩) d_Mo_ends_72 ?_
  refine j_topi w (by simp [ceM, leM, emM, acM, laM, opM, sI, sA, upd, hw]) ?_
  refine j_cVt B (ok_Mo_emit hf (laM f k (n + 2) (emM f (n + 1) q 4 (-(nI q)) (emM f n q 5 w x))) 5 w (n := n + 2) (q := q) (by simp [ceM, leM, emM, acM, laM, opM, sI, sA, upd, hn]) (by omega) (by simp [ceM, leM, emM, acM, laM, opM, sI, sA, upd, hq]) hq6) cv_Mo_emit ml_Mo_135 (m_0) rfl rfl ⟨rfl, rfl, by decide, by decide⟩ ⟨Nat.zero_le _, Nat.zero_le _⟩ hml (Nat.le_of_ble_eq_true rfl) rfl d_Mo_ends_73 ?_
  refine j_aloadn B d_Mo_ends_76 rfl ?_
  refine j_iloadn B d_Mo_ends_77 rfl ?_
  refine j_bipush (v := 7) B d_Mo_ends_78 (by decide) ?_
  refine j_iconst (v := 0) B d_Mo_ends_80 (by decide) ?_
  refine j_cVt B (ok_Mo_emit hf (emM f (n + 2) q 5 w (laM f k (n + 2) (emM f (n + 1) q 4 (-(nI q)) (emM f n q 5 w x)))) 7 0 (n := n + 3) (q := q) (by simp [ceM, leM, emM, acM, laM, opM, sI, sA, upd, hn]) (by omega) (by simp [ceM, leM, emM, acM, laM, opM, sI, sA, upd, hq]) hq6) cv_Mo_emit ml_Mo_135 (m_0) rfl rfl ⟨rfl, rfl, by decide, by decide⟩ ⟨Nat.zero_le _, Nat.zero_le _⟩ hml (Nat.le_of_ble_eq_true rfl) rfl d_Mo_ends_81 ?_
  refine j_aloadn B d_Mo_ends_84 rfl ?_
  refine j_iloadn B d_Mo_ends_85 rfl ?_
  refine j_cVt B (ok_Mo_closes hf (leM f n q k w x) (n := n + 4) (q := q) (by simp [ceM, leM, emM, acM, laM, opM, sI, sA, upd, hn]) h128 (by simp [ceM, leM, emM, acM, laM, opM, sI, sA, upd, hq]) hq0 hq6) cv_Mo_closes ml_Mo_146 (m_0) rfl rfl ⟨rfl, rfl, by decide, by decide⟩ ⟨Nat.zero_le _, Nat.zero_le _⟩ hml (Nat.le_of_ble_eq_true rfl) rfl d_Mo_ends_86 ?_
  exact j_vret B hr hlk d_Mo_ends_89 (rfl) (rfl)
