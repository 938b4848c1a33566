/-- an exit is noted; an exit's G; a landing -/
def nxX (i t : Nat) (v : Int32) (x : tm_M) : tm_M := sI (sA x (4, i, 1) t v) (4, i, 0) 6 (nI (t + 1))
def exX (f i n t : Nat) (x : tm_M) : tm_M := emX f n 4 0 (nxX i t (nI n) x)
def laX (f k n : Nat) (x : tm_M) : tm_M := sA x (6, f, 4) k (nI n)
/-- the end of a row of a LOCAL, of a CATCH -/
def flX (f i n t k : Nat) (w : Int32) (x : tm_M) : tm_M := emX f (n + 3) 7 0 (emX f (n + 2) 5 w (laX f k (n + 2) (exX f i (n + 1) t (emX f n 5 w x))))
def fcX (f i n t k : Nat) (x : tm_M) : tm_M := emX f (n + 3) 7 0 (emX f (n + 2) 6 0 (laX f k (n + 2) (exX f i (n + 1) t (emX f n 6 0 x))))
/-- the head of the row that is open -/
def hdC (o : Nat) (x : tm_M) : Int32 := if 0 < o then x.1 (4, o - 1, 0) 2 else -1
/-- a row is opened -/
def opX (o : Nat) (a b h u : Int32) (x : tm_M) : tm_M := sI (sI (sI (sI (sI (sI (sI x (4, o, 0) 0 a) (4, o, 0) 1 b) (4, o, 0) 2 h) (4, o, 0) 3 u) (4, o, 0) 4 h) (4, o, 0) 6 0) (3, 0, 0) 1 (nI (o + 1))
set_option maxRecDepth 100000 in
theorem ok_Co_currentHead {l : Launch} {D : va_G} {aC : Nat → ClassId} {ad : Nat → Nat} (x : tm_M) {o : Nat} (ho : x.1 (3, 0, 0) 1 = nI o) (h5 : o ≤ 5) :
    OkX l y_Co_currentHead b_Co_currentHead 1 (some .int) (rom 0 0) D aC ad [.ref (ad 22)] x (some (.int (hdC o x))) x := by
  refine ok_start (by decide) (Nat.le_of_ble_eq_true rfl) rfl ?_
  intro p e s m args below meth c B hr hlk hml
  have B : Cx p s m c args b_Co_currentHead R_Co D aC (rg 111 ad) 111 ad := B
  refine j_aloadn B d_Co_currentHead_0 rfl ?_
  refine j_geti B fl_Co_23 (q_22) rfl d_Co_currentHead_1 ?_
  refine j_topi (nI o) ho ?_
  refine j_if_le (tgt := 24) B d_Co_currentHead_4 (by decide) (fun h4 => ?_) (fun h4 => ?_)
  · -- yes
    refine j_iconst (v := (-1)) B d_Co_currentHead_24 (by decide) ?_
    exact j_iret B hr hlk d_Co_currentHead_25 (by first | exact sv (if_pos ho1) | exact sv (if_neg (fun z => absurd (nIle (t := 0) h4 (by omega) (by decide)) (by omega)))) (rfl)
  · -- no
    have ho1 : 0 < o := Nat.pos_of_ne_zero (fun e0 => h4 (by rw [e0]; decide))
    have hot : o - 1 < 5 := by omega
    refine j_aloadn B d_Co_currentHead_7 rfl ?_
    refine j_getr B fl_Co_11 (q_22) rfl d_Co_currentHead_8 ?_
    refine j_aloadn B d_Co_currentHead_11 rfl ?_
    refine j_geti B fl_Co_23 (q_22) rfl d_Co_currentHead_12 ?_
    refine j_topi (nI o) ho ?_
    refine j_iconst (v := 1) B d_Co_currentHead_15 (by decide) ?_
    refine j_isub B d_Co_currentHead_16 ?_
    refine j_aald B ⟨(q_23).1, (q_23).2.1⟩ rfl (⟨nIp ho1, hot, by decide⟩) d_Co_currentHead_17 ?_
    refine j_geti B fl_Co_73 (q_bl hot) rfl d_Co_currentHead_18 ?_
    refine j_goto (tgt := 25) B d_Co_currentHead_21 (by decide) ?_
    exact j_iret B hr hlk d_Co_currentHead_25 (by first | exact sv (if_pos ho1) | exact sv (if_neg (fun z => absurd (nIle (t := 0) h4 (by omega) (by decide)) (by omega)))) (rfl)
set_option maxRecDepth 100000 in
theorem ok_Co_openBlock {l : Launch} {D : va_G} {aC : Nat → ClassId} {ad : Nat → Nat} (x : tm_M) (a b h : Int32) {o : Nat} (ho : x.1 (3, 0, 0) 1 = nI o) (ho5 : o < 5) :
    OkX l y_Co_openBlock b_Co_openBlock 4 none (rom 1 24) D aC ad [.ref (ad 22), .int a, .int b, .int h] x none (opX o a b h (hdC o x) x) := by
  refine ok_start (by decide) (Nat.le_of_ble_eq_true rfl) rfl ?_
  intro p e s m args below meth c B hr hlk hml
  have B : Cx p s m c args b_Co_openBlock R_Co D aC (rg 111 ad) 111 ad := B
  refine j_aloadn B d_Co_openBlock_0 rfl ?_
  refine j_geti B fl_Co_23 (q_22) rfl d_Co_openBlock_1 ?_
  refine j_topi (nI o) ho ?_
  refine j_iconst (v := 5) B d_Co_openBlock_4 (by decide) ?_
  refine j_icmp_ge (tgt := 37) B d_Co_openBlock_5 (by decide) (fun h5 => (show False from absurd (nIle (c := 5) h5 (by decide) (by omega)) (by omega)).elim) (fun h5 => ?_)
  refine j_aloadn B d_Co_openBlock_8 rfl ?_
  refine j_getr B fl_Co_11 (q_22) rfl d_Co_openBlock_9 ?_
  refine j_aloadn B d_Co_openBlock_12 rfl ?_
  refine j_geti B fl_Co_23 (q_22) rfl d_Co_openBlock_13 ?_
  refine j_topi (nI o) ho ?_
  refine j_aald B ⟨(q_23).1, (q_23).2.1⟩ rfl (⟨rfl, ho5, by decide⟩) d_Co_openBlock_16 ?_
  refine j_iloadn B d_Co_openBlock_17 rfl ?_
  refine j_iloadn B d_Co_openBlock_18 rfl ?_
  refine j_iloadn B d_Co_openBlock_19 rfl ?_
  refine j_aloadn B d_Co_openBlock_20 rfl ?_
  refine j_cVt B (ok_Co_currentHead x ho (by omega)) cv_Co_currentHead ml_Co_47 (q_22) rfl rfl ⟨rfl, rfl, by decide, by decide⟩ ⟨Nat.zero_le _, Nat.zero_le _⟩ hml (Nat.le_of_ble_eq_true rfl) rfl d_Co_openBlock_21 ?_
  refine j_cVt B (ok_Bl_begin ho5 x a b h (hdC o x)) cv_Bl_begin ml_Co_76 (q_bl ho5) rfl rfl ⟨rfl, rfl, by decide, by decide⟩ ⟨Nat.zero_le _, Nat.zero_le _⟩ hml (Nat.le_of_ble_eq_true rfl) rfl d_Co_openBlock_24 ?_
  refine j_aloadn B d_Co_openBlock_27 rfl ?_
  refine j_dup B d_Co_openBlock_28 rfl ?_
  refine j_geti B fl_Co_23 (q_22) rfl d_Co_openBlock_29 ?_
  refine j_iconst (v := 1) B d_Co_openBlock_32 (by decide) ?_
  refine j_iadd B d_Co_openBlock_33 ?_
  refine j_topi (nI (o + 1)) (by rw [rIK (by simp), rIK (by simp), rIK (by simp), rIK (by simp), rIK (by simp), rIK (by simp), ho, nI_1]) ?_
  refine j_puti B kX_inj fs_Co_23 (q_22) rfl d_Co_openBlock_34 ?_
  exact j_vret B hr hlk d_Co_openBlock_37 (rfl) (rfl)
set_option maxRecDepth 100000 in
theorem ok_Co_emitExit {l : Launch} {D : va_G} {aC : Nat → ClassId} {ad : Nat → Nat} {i : Nat} (hi : i < 5) {f : Nat} (hf : f < 6) (x : tm_M) {n t : Nat} (hn : x.1 (6, f, 0) 2 = nI n) (h81 : n < 81) (ht : x.1 (4, i, 0) 6 = nI t) (h20 : t < 20) :
    OkX l y_Co_emitExit b_Co_emitExit 3 none (rom 1 22) D aC ad [.ref (ad 22), .ref (ad (blO i)), .ref (ad (prO f))] x none (exX f i n t x) := by
  refine ok_start (by decide) (Nat.le_of_ble_eq_true rfl) rfl ?_
  intro p e s m args below meth c B hr hlk hml
  have B : Cx p s m c args b_Co_emitExit R_Co D aC (rg 111 ad) 111 ad := B
  refine j_aloadn B d_Co_emitExit_0 rfl ?_
  refine j_aloadn B d_Co_emitExit_1 rfl ?_
  refine j_geti B fl_Co_115 (q_pr hf) rfl d_Co_emitExit_2 ?_
  refine j_topi (nI n) hn ?_
  refine j_cVt B (ok_Bl_noteExit hi x (nI n) ht h20) cv_Bl_noteExit ml_Co_118 (q_bl hi) rfl rfl ⟨rfl, rfl, by decide, by decide⟩ ⟨Nat.zero_le _, Nat.zero_le _⟩ hml (Nat.le_of_ble_eq_true rfl) rfl d_Co_emitExit_5 ?_
  refine j_aloadn B d_Co_emitExit_8 rfl ?_
  refine j_iconst (v := 4) B d_Co_emitExit_9 (by decide) ?_
  refine j_iconst (v := 0) B d_Co_emitExit_10 (by decide) ?_
  refine j_cVt B (ok_Pr_emit hf (nxX i t (nI n) x) 4 0 (n := n) (by simp [exX, emX, nxX, laX, acX, sI, sA, upd, hn]) h81) cv_Pr_emit ml_Co_36 (q_pr hf) rfl rfl ⟨rfl, rfl, by decide, by decide⟩ ⟨Nat.zero_le _, Nat.zero_le _⟩ hml (Nat.le_of_ble_eq_true rfl) rfl d_Co_emitExit_11 ?_
  exact j_vret B hr hlk d_Co_emitExit_14 (rfl) (rfl)
set_option maxRecDepth 100000 in
theorem ok_Co_finishLocal {l : Launch} {D : va_G} {aC : Nat → ClassId} {ad : Nat → Nat} {i : Nat} (hi : i < 5) {f : Nat} (hf : f < 6) (x : tm_M) {n t k a : Nat} (hn : x.1 (6, f, 0) 2 = nI n) (h81 : n + 4 ≤ 81) (ht : x.1 (4, i, 0) 6 = nI t) (h20 : t < 20) (hk : x.1 (4, i, 0) 2 = nI k) (hka : k < a) (ha : x.1 (6, f, 0) 6 = nI a) (h40 : a ≤ 40) {w : Int32} (hw : x.1 (4, i, 0) 1 = w) :
    OkX l y_Co_finishLocal b_Co_finishLocal 3 none (rom 2 44) D aC ad [.ref (ad 22), .ref (ad (blO i)), .ref (ad (prO f))] x none (flX f i n t k w x) := by
  refine ok_start (by decide) (Nat.le_of_ble_eq_true rfl) rfl ?_
  intro p e s m args below meth c B hr hlk hml
  have B : Cx p s m c args b_Co_finishLocal R_Co D aC (rg 111 ad) 111 ad := B
  refine j_aloadn B d_Co_finishLocal_0 rfl ?_
  refine j_iconst (v := 5) B d_Co_finishLocal_1 (by decide) ?_
  refine j_aloadn B d_Co_finishLocal_2 rfl ?_
  refine j_geti B fl_Co_112 (q_bl hi) rfl d_Co_finishLocal_3 ?_
  refine j_topi w hw ?_
  refine j_cVt B (ok_Pr_emit hf x 5 w hn (by omega)) cv_Pr_emit ml_Co_36 (q_pr hf) rfl rfl ⟨rfl, rfl, by decide, by decide⟩ ⟨Nat.zero_le _, Nat.zero_le _⟩ hml (Nat.le_of_ble_eq_true rfl) rfl d_Co_finishLocal_6 ?_
  refine j_aloadn B d_Co_finishLocal_9 rfl ?_
  refine j_aloadn B d_Co_finishLocal_10 rfl ?_
  refine j_aloadn B d_Co_finishLocal_11 rfl ?_
  refine j_cVt B (ok_Co_emitExit hi hf (emX f n 5 w x) (n := n + 1) (t := t) (by simp [exX, emX, nxX, laX, acX, sI, sA, upd, hn]) (by omega) (by simp [exX, emX, nxX, laX, acX, sI, sA, upd, ht]) h20) cv_Co_emitExit ml_Co_89 (q_22) rfl rfl ⟨rfl, rfl, by decide, by decide⟩ ⟨Nat.zero_le _, Nat.zero_le _⟩ hml (Nat.le_of_ble_eq_true rfl) rfl d_Co_finishLocal_12 ?_
  refine j_aloadn B d_Co_finishLocal_15 rfl ?_
  refine j_aloadn B d_Co_finishLocal_16 rfl ?_
  refine j_geti B fl_Co_73 (q_bl hi) rfl d_Co_finishLocal_17 ?_
  refine j_topi (nI k) (by simp [exX, emX, nxX, laX, acX, sI, sA, upd, hk]) ?_
  refine j_cVt B (ok_Pr_landHere hf (exX f i (n + 1) t (emX f n 5 w x)) (k := k) (a := a) (by simp [exX, emX, nxX, laX, acX, sI, sA, upd, ha]) h40 hka) cv_Pr_landHere ml_Co_99 (q_pr hf) rfl rfl ⟨rfl, rfl, by decide, by decide⟩ ⟨Nat.zero_le _, Nat.zero_le _⟩ hml (Nat.le_of_ble_eq_true rfl) rfl d_Co_finishLocal_20 ?_
  refine j_x (laX f k (n + 2) (exX f i (n + 1) t (emX f n 5 w x))) (by show sA _ _ _ _ = sA _ _ _ _; rw [show (exX f i (n + 1) t (emX f n 5 w x)).1 (6, f, 0) 2 = nI (n + 2) from by simp [exX, emX, nxX, laX, acX, sI, sA, upd, hn]]) ?_
  refine j_aloadn B d_Co_finishLocal_23 rfl ?_
  refine j_iconst (v := 5) B d_Co_finishLocal_24 (by decide) ?_
  refine j_aloadn B d_Co_finishLocal_25 rfl ?_
  refine j_geti B fl_Co_112 (q_bl hi) rfl d_Co_finishLocal_26 ?_
  refine j_topi w (by simp [exX, emX, nxX, laX, acX, sI, sA, upd, hw]) ?_
  refine j_cVt B (ok_Pr_emit hf (laX f k (n + 2) (exX f i (n + 1) t (emX f n 5 w x))) 5 w (n := n + 2) (by simp [exX, emX, nxX, laX, acX, sI, sA, upd, hn]) (by omega)) cv_Pr_emit ml_Co_36 (q_pr hf) rfl rfl ⟨rfl, rfl, by decide, by decide⟩ ⟨Nat.zero_le _, Nat.zero_le _⟩ hml (Nat.le_of_ble_eq_true rfl) rfl d_Co_finishLocal_29 ?_
  refine j_aloadn B d_Co_finishLocal_32 rfl ?_
  refine j_bipush (v := 7) B d_Co_finishLocal_33 (by decide) ?_
  refine j_iconst (v := 0) B d_Co_finishLocal_35 (by decide) ?_
  refine j_cVt B (ok_Pr_emit hf (emX f (n + 2) 5 w (laX f k (n + 2) (exX f i (n + 1) t (emX f n 5 w x)))) 7 0 (n := n + 3) (by simp [exX, emX, nxX, laX, acX, sI, sA, upd, hn]) (by omega)) cv_Pr_emit ml_Co_36 (q_pr hf) rfl rfl ⟨rfl, rfl, by decide, by decide⟩ ⟨Nat.zero_le _, Nat.zero_le _⟩ hml (Nat.le_of_ble_eq_true rfl) rfl d_Co_finishLocal_36 ?_
  exact j_vret B hr hlk d_Co_finishLocal_39 (rfl) (rfl)
set_option maxRecDepth 100000 in
theorem ok_Co_finishCatch {l : Launch} {D : va_G} {aC : Nat → ClassId} {ad : Nat → Nat} {i : Nat} (hi : i < 5) {f : Nat} (hf : f < 6) (x : tm_M) {n t k a : Nat} (hn : x.1 (6, f, 0) 2 = nI n) (h81 : n + 4 ≤ 81) (ht : x.1 (4, i, 0) 6 = nI t) (h20 : t < 20) (hk : x.1 (4, i, 0) 2 = nI k) (hka : k < a) (ha : x.1 (6, f, 0) 6 = nI a) (h40 : a ≤ 40) :
    OkX l y_Co_finishCatch b_Co_finishCatch 3 none (rom 2 44) D aC ad [.ref (ad 22), .ref (ad (blO i)), .ref (ad (prO f))] x none (fcX f i n t k x) := by
  refine ok_start (by decide) (Nat.le_of_ble_eq_true rfl) rfl ?_
  intro p e s m args below meth c B hr hlk hml
  have B : Cx p s m c args b_Co_finishCatch R_Co D aC (rg 111 ad) 111 ad := B
  refine j_aloadn B d_Co_finishCatch_0 rfl ?_
  refine j_bipush (v := 6) B d_Co_finishCatch_1 (by decide) ?_
  refine j_iconst (v := 0) B d_Co_finishCatch_3 (by decide) ?_
  refine j_cVt B (ok_Pr_emit hf x 6 0 hn (by omega)) cv_Pr_emit ml_Co_36 (q_pr hf) rfl rfl ⟨rfl, rfl, by decide, by decide⟩ ⟨Nat.zero_le _, Nat.zero_le _⟩ hml (Nat.le_of_ble_eq_true rfl) rfl d_Co_finishCatch_4 ?_
  refine j_aloadn B d_Co_finishCatch_7 rfl ?_
  refine j_aloadn B d_Co_finishCatch_8 rfl ?_
  refine j_aloadn B d_Co_finishCatch_9 rfl ?_
  refine j_cVt B (ok_Co_emitExit hi hf (emX f n 6 0 x) (n := n + 1) (t := t) (by simp [exX, emX, nxX, laX, acX, sI, sA, upd, hn]) (by omega) (by simp [exX, emX, nxX, laX, acX, sI, sA, upd, ht]) h20) cv_Co_emitExit ml_Co_89 (q_22) rfl rfl ⟨rfl, rfl, by decide, by decide⟩ ⟨Nat.zero_le _, Nat.zero_le _⟩ hml (Nat.le_of_ble_eq_true rfl) rfl d_Co_finishCatch_10 ?_
  refine j_aloadn B d_Co_finishCatch_13 rfl ?_
  refine j_aloadn B d_Co_finishCatch_14 rfl ?_
  refine j_geti B fl_Co_73 (q_bl hi) rfl d_Co_finishCatch_15 ?_
  refine j_topi (nI k) (by simp [exX, emX, nxX, laX, acX, sI, sA, upd, hk]) ?_
  refine j_cVt B (ok_Pr_landHere hf (exX f i (n + 1) t (emX f n 6 0 x)) (k := k) (a := a) (by simp [exX, emX, nxX, laX, acX, sI, sA, upd, ha]) h40 hka) cv_Pr_landHere ml_Co_99 (q_pr hf) rfl rfl ⟨rfl, rfl, by decide, by decide⟩ ⟨Nat.zero_le _, Nat.zero_le _⟩ hml (Nat.le_of_ble_eq_true rfl) rfl d_Co_finishCatch_18 ?_
  refine j_x (laX f k (n + 2) (exX f i (n + 1) t (emX f n 6 0 x))) (by show sA _ _ _ _ = sA _ _ _ _; rw [show (exX f i (n + 1) t (emX f n 6 0 x)).1 (6, f, 0) 2 = nI (n + 2) from by simp [exX, emX, nxX, laX, acX, sI, sA, upd, hn]]) ?_
  refine j_aloadn B d_Co_finishCatch_21 rfl ?_
  refine j_bipush (v := 6) B d_Co_finishCatch_22 (by decide) ?_
  refine j_iconst (v := 0) B d_Co_finishCatch_24 (by decide) ?_
  refine j_cVt B (ok_Pr_emit hf (laX f k (n + 2) (exX f i (n + 1) t (emX f n 6 0 x))) 6 0 (n := n + 2) (by simp [exX, emX, nxX, laX, acX, sI, sA, upd, hn]) (by omega)) cv_Pr_emit ml_Co_36 (q_pr hf) rfl rfl ⟨rfl, rfl, by decide, by decide⟩ ⟨Nat.zero_le _, Nat.zero_le _⟩ hml (Nat.le_of_ble_eq_true rfl) rfl d_Co_finishCatch_25 ?_
  refine j_aloadn B d_Co_finishCatch_28 rfl ?_
  refine j_bipush (v := 7) B d_Co_finishCatch_29 (by decide) ?_
  refine j_iconst (v := 0) B d_Co_finishCatch_31 (by decide) ?_
  refine j_cVt B (ok_Pr_emit hf (emX f (n + 2) 6 0 (laX f k (n + 2) (exX f i (n + 1) t (emX f n 6 0 x)))) 7 0 (n := n + 3) (by simp [exX, emX, nxX, laX, acX, sI, sA, upd, hn]) (by omega)) cv_Pr_emit ml_Co_36 (q_pr hf) rfl rfl ⟨rfl, rfl, by decide, by decide⟩ ⟨Nat.zero_le _, Nat.zero_le _⟩ hml (Nat.le_of_ble_eq_true rfl) rfl d_Co_finishCatch_32 ?_
  exact j_vret B hr hlk d_Co_finishCatch_35 (rfl) (rfl)
