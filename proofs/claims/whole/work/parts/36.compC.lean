set_option maxRecDepth 100000 in
theorem ok_Co_translateStatement_print {l : Launch} {D : va_G} {aC : Nat → ClassId} {ad : Nat → Nat} {g f : Nat} (hg : g < 6) (hf : f < 6) (x : tm_M) {i len : Nat} (hlen : x.1 (1, g, 0) 2 = nI len) (hl20 : len ≤ 20) (hil : i < len) (hS : x.2 (1, g, 1) i = 0) {n : Nat} (hn : x.1 (6, f, 0) 2 = nI n) (h81 : n < 81) :
    OkX l y_Co_translateStatement b_Co_translateStatement 5 none (rom 4 90) D aC ad [.ref (ad 22), .ref (ad (txO g)), .int (nI i), .ref (ad (prO f))] x none (emX f n 0 (x.2 (1, g, 2) i) x) := by
  refine ok_start (by decide) (Nat.le_of_ble_eq_true rfl) rfl ?_
  intro p e s m args below meth c B hr hlk hml
  have B : Cx p s m c args b_Co_translateStatement R_Co D aC (rg 111 ad) 111 ad := B
  refine j_aloadn B d_Co_translateStatement_0 rfl ?_
  refine j_iloadn B d_Co_translateStatement_1 rfl ?_
  refine j_cVt B (ok_Tx_operandAt hg x (nI i) (a := len) hlen hl20) cv_Tx_operandAt ml_Co_40 (q_tx hg) rfl rfl ⟨rfl, rfl, by decide, by decide⟩ ⟨Nat.zero_le _, Nat.zero_le _⟩ hml (Nat.le_of_ble_eq_true rfl) rfl d_Co_translateStatement_2 ?_
  refine j_topi (x.2 (1, g, 2) i) (by rw [if_pos ⟨nI_pos' (by omega), by rw [hlen]; exact nI_lt (by omega) (by omega)⟩, nI_clamp (by omega)]) ?_
  refine j_istore B d_Co_translateStatement_5 (by decide) ?_
  refine j_aloadn B d_Co_translateStatement_7 rfl ?_
  refine j_iloadn B d_Co_translateStatement_8 rfl ?_
  refine j_cVt B (ok_Tx_statementAt hg x (nI i) (a := len) hlen hl20) cv_Tx_statementAt ml_Co_44 (q_tx hg) rfl rfl ⟨rfl, rfl, by decide, by decide⟩ ⟨Nat.zero_le _, Nat.zero_le _⟩ hml (Nat.le_of_ble_eq_true rfl) rfl d_Co_translateStatement_9 ?_
  refine j_topi 0 (by rw [if_pos ⟨nI_pos' (by omega), by rw [hlen]; exact nI_lt (by omega) (by omega)⟩, nI_clamp (by omega)]; exact hS) ?_
  refine j_tabIn (tgt := 60) (off := 48) B d_Co_translateStatement_12 (by decide) (by decide) (by decide) (by decide) ?_
  refine j_aloadn B d_Co_translateStatement_60 rfl ?_
  refine j_iconst (v := 0) B d_Co_translateStatement_61 (by decide) ?_
  refine j_iload B d_Co_translateStatement_62 rfl ?_
  refine j_cVt B (ok_Pr_emit hf x 0 (x.2 (1, g, 2) i) hn h81) cv_Pr_emit ml_Co_36 (q_pr hf) rfl rfl ⟨rfl, rfl, by decide, by decide⟩ ⟨Nat.zero_le _, Nat.zero_le _⟩ hml (Nat.le_of_ble_eq_true rfl) rfl d_Co_translateStatement_64 ?_
  refine j_goto (tgt := 164) B d_Co_translateStatement_67 (by decide) ?_
  exact j_vret B hr hlk d_Co_translateStatement_164 (rfl) (rfl)
set_option maxRecDepth 100000 in
theorem ok_Co_translateStatement_call {l : Launch} {D : va_G} {aC : Nat → ClassId} {ad : Nat → Nat} {g f : Nat} (hg : g < 6) (hf : f < 6) (x : tm_M) {i len : Nat} (hlen : x.1 (1, g, 0) 2 = nI len) (hl20 : len ≤ 20) (hil : i < len) (hS : x.2 (1, g, 1) i = 1) {n : Nat} (hn : x.1 (6, f, 0) 2 = nI n) (h81 : n < 81) {o : Nat} (ho : x.1 (3, 0, 0) 1 = nI o) (h5 : o ≤ 5) {q : Nat} (hq : x.1 (6, f, 0) 10 = nI q) (hq20 : q < 20) :
    OkX l y_Co_translateStatement b_Co_translateStatement 5 none (rom 4 90) D aC ad [.ref (ad 22), .ref (ad (txO g)), .int (nI i), .ref (ad (prO f))] x none (emX f n 1 (x.2 (1, g, 2) i) (siX f n q (hdC o x) x)) := by
  refine ok_start (by decide) (Nat.le_of_ble_eq_true rfl) rfl ?_
  intro p e s m args below meth c B hr hlk hml
  have B : Cx p s m c args b_Co_translateStatement R_Co D aC (rg 111 ad) 111 ad := B
  refine j_aloadn B d_Co_translateStatement_0 rfl ?_
  refine j_iloadn B d_Co_translateStatement_1 rfl ?_
  refine j_cVt B (ok_Tx_operandAt hg x (nI i) (a := len) hlen hl20) cv_Tx_operandAt ml_Co_40 (q_tx hg) rfl rfl ⟨rfl, rfl, by decide, by decide⟩ ⟨Nat.zero_le _, Nat.zero_le _⟩ hml (Nat.le_of_ble_eq_true rfl) rfl d_Co_translateStatement_2 ?_
  refine j_topi (x.2 (1, g, 2) i) (by rw [if_pos ⟨nI_pos' (by omega), by rw [hlen]; exact nI_lt (by omega) (by omega)⟩, nI_clamp (by omega)]) ?_
  refine j_istore B d_Co_translateStatement_5 (by decide) ?_
  refine j_aloadn B d_Co_translateStatement_7 rfl ?_
  refine j_iloadn B d_Co_translateStatement_8 rfl ?_
  refine j_cVt B (ok_Tx_statementAt hg x (nI i) (a := len) hlen hl20) cv_Tx_statementAt ml_Co_44 (q_tx hg) rfl rfl ⟨rfl, rfl, by decide, by decide⟩ ⟨Nat.zero_le _, Nat.zero_le _⟩ hml (Nat.le_of_ble_eq_true rfl) rfl d_Co_translateStatement_9 ?_
  refine j_topi 1 (by rw [if_pos ⟨nI_pos' (by omega), by rw [hlen]; exact nI_lt (by omega) (by omega)⟩, nI_clamp (by omega)]; exact hS) ?_
  refine j_tabIn (tgt := 70) (off := 58) B d_Co_translateStatement_12 (by decide) (by decide) (by decide) (by decide) ?_
  refine j_aloadn B d_Co_translateStatement_70 rfl ?_
  refine j_iconst (v := 1) B d_Co_translateStatement_71 (by decide) ?_
  refine j_iload B d_Co_translateStatement_72 rfl ?_
  refine j_aloadn B d_Co_translateStatement_74 rfl ?_
  refine j_cVt B (ok_Co_currentHead x ho h5) cv_Co_currentHead ml_Co_47 (q_22) rfl rfl ⟨rfl, rfl, by decide, by decide⟩ ⟨Nat.zero_le _, Nat.zero_le _⟩ hml (Nat.le_of_ble_eq_true rfl) rfl d_Co_translateStatement_75 ?_
  refine j_cVt B (ok_Pr_emitAtSite hf x 1 (x.2 (1, g, 2) i) (hdC o x) hn h81 hq hq20) cv_Pr_emitAtSite ml_Co_51 (q_pr hf) rfl rfl ⟨rfl, rfl, by decide, by decide⟩ ⟨Nat.zero_le _, Nat.zero_le _⟩ hml (Nat.le_of_ble_eq_true rfl) rfl d_Co_translateStatement_78 ?_
  refine j_goto (tgt := 164) B d_Co_translateStatement_81 (by decide) ?_
  exact j_vret B hr hlk d_Co_translateStatement_164 (rfl) (rfl)
set_option maxRecDepth 100000 in
theorem ok_Co_translateStatement_throw {l : Launch} {D : va_G} {aC : Nat → ClassId} {ad : Nat → Nat} {g f : Nat} (hg : g < 6) (hf : f < 6) (x : tm_M) {i len : Nat} (hlen : x.1 (1, g, 0) 2 = nI len) (hl20 : len ≤ 20) (hil : i < len) (hS : x.2 (1, g, 1) i = 2) {n : Nat} (hn : x.1 (6, f, 0) 2 = nI n) (h81 : n < 81) {o : Nat} (ho : x.1 (3, 0, 0) 1 = nI o) (h5 : o ≤ 5) {q : Nat} (hq : x.1 (6, f, 0) 10 = nI q) (hq20 : q < 20) :
    OkX l y_Co_translateStatement b_Co_translateStatement 5 none (rom 4 90) D aC ad [.ref (ad 22), .ref (ad (txO g)), .int (nI i), .ref (ad (prO f))] x none (emX f n 2 (x.2 (1, g, 2) i) (siX f n q (hdC o x) x)) := by
  refine ok_start (by decide) (Nat.le_of_ble_eq_true rfl) rfl ?_
  intro p e s m args below meth c B hr hlk hml
  have B : Cx p s m c args b_Co_translateStatement R_Co D aC (rg 111 ad) 111 ad := B
  refine j_aloadn B d_Co_translateStatement_0 rfl ?_
  refine j_iloadn B d_Co_translateStatement_1 rfl ?_
  refine j_cVt B (ok_Tx_operandAt hg x (nI i) (a := len) hlen hl20) cv_Tx_operandAt ml_Co_40 (q_tx hg) rfl rfl ⟨rfl, rfl, by decide, by decide⟩ ⟨Nat.zero_le _, Nat.zero_le _⟩ hml (Nat.le_of_ble_eq_true rfl) rfl d_Co_translateStatement_2 ?_
  refine j_topi (x.2 (1, g, 2) i) (by rw [if_pos ⟨nI_pos' (by omega), by rw [hlen]; exact nI_lt (by omega) (by omega)⟩, nI_clamp (by omega)]) ?_
  refine j_istore B d_Co_translateStatement_5 (by decide) ?_
  refine j_aloadn B d_Co_translateStatement_7 rfl ?_
  refine j_iloadn B d_Co_translateStatement_8 rfl ?_
  refine j_cVt B (ok_Tx_statementAt hg x (nI i) (a := len) hlen hl20) cv_Tx_statementAt ml_Co_44 (q_tx hg) rfl rfl ⟨rfl, rfl, by decide, by decide⟩ ⟨Nat.zero_le _, Nat.zero_le _⟩ hml (Nat.le_of_ble_eq_true rfl) rfl d_Co_translateStatement_9 ?_
  refine j_topi 2 (by rw [if_pos ⟨nI_pos' (by omega), by rw [hlen]; exact nI_lt (by omega) (by omega)⟩, nI_clamp (by omega)]; exact hS) ?_
  refine j_tabIn (tgt := 84) (off := 72) B d_Co_translateStatement_12 (by decide) (by decide) (by decide) (by decide) ?_
  refine j_aloadn B d_Co_translateStatement_84 rfl ?_
  refine j_iconst (v := 2) B d_Co_translateStatement_85 (by decide) ?_
  refine j_iload B d_Co_translateStatement_86 rfl ?_
  refine j_aloadn B d_Co_translateStatement_88 rfl ?_
  refine j_cVt B (ok_Co_currentHead x ho h5) cv_Co_currentHead ml_Co_47 (q_22) rfl rfl ⟨rfl, rfl, by decide, by decide⟩ ⟨Nat.zero_le _, Nat.zero_le _⟩ hml (Nat.le_of_ble_eq_true rfl) rfl d_Co_translateStatement_89 ?_
  refine j_cVt B (ok_Pr_emitAtSite hf x 2 (x.2 (1, g, 2) i) (hdC o x) hn h81 hq hq20) cv_Pr_emitAtSite ml_Co_51 (q_pr hf) rfl rfl ⟨rfl, rfl, by decide, by decide⟩ ⟨Nat.zero_le _, Nat.zero_le _⟩ hml (Nat.le_of_ble_eq_true rfl) rfl d_Co_translateStatement_92 ?_
  refine j_goto (tgt := 164) B d_Co_translateStatement_95 (by decide) ?_
  exact j_vret B hr hlk d_Co_translateStatement_164 (rfl) (rfl)
set_option maxRecDepth 100000 in
theorem ok_Co_translateStatement_rethrow {l : Launch} {D : va_G} {aC : Nat → ClassId} {ad : Nat → Nat} {g f : Nat} (hg : g < 6) (hf : f < 6) (x : tm_M) {i len : Nat} (hlen : x.1 (1, g, 0) 2 = nI len) (hl20 : len ≤ 20) (hil : i < len) (hS : x.2 (1, g, 1) i = 7) {n : Nat} (hn : x.1 (6, f, 0) 2 = nI n) (h81 : n < 81) {o : Nat} (ho : x.1 (3, 0, 0) 1 = nI o) (h5 : o ≤ 5) {q : Nat} (hq : x.1 (6, f, 0) 10 = nI q) (hq20 : q < 20) :
    OkX l y_Co_translateStatement b_Co_translateStatement 5 none (rom 4 90) D aC ad [.ref (ad 22), .ref (ad (txO g)), .int (nI i), .ref (ad (prO f))] x none (emX f n 3 0 (siX f n q (hdC o x) x)) := by
  refine ok_start (by decide) (Nat.le_of_ble_eq_true rfl) rfl ?_
  intro p e s m args below meth c B hr hlk hml
  have B : Cx p s m c args b_Co_translateStatement R_Co D aC (rg 111 ad) 111 ad := B
  refine j_aloadn B d_Co_translateStatement_0 rfl ?_
  refine j_iloadn B d_Co_translateStatement_1 rfl ?_
  refine j_cVt B (ok_Tx_operandAt hg x (nI i) (a := len) hlen hl20) cv_Tx_operandAt ml_Co_40 (q_tx hg) rfl rfl ⟨rfl, rfl, by decide, by decide⟩ ⟨Nat.zero_le _, Nat.zero_le _⟩ hml (Nat.le_of_ble_eq_true rfl) rfl d_Co_translateStatement_2 ?_
  refine j_topi (x.2 (1, g, 2) i) (by rw [if_pos ⟨nI_pos' (by omega), by rw [hlen]; exact nI_lt (by omega) (by omega)⟩, nI_clamp (by omega)]) ?_
  refine j_istore B d_Co_translateStatement_5 (by decide) ?_
  refine j_aloadn B d_Co_translateStatement_7 rfl ?_
  refine j_iloadn B d_Co_translateStatement_8 rfl ?_
  refine j_cVt B (ok_Tx_statementAt hg x (nI i) (a := len) hlen hl20) cv_Tx_statementAt ml_Co_44 (q_tx hg) rfl rfl ⟨rfl, rfl, by decide, by decide⟩ ⟨Nat.zero_le _, Nat.zero_le _⟩ hml (Nat.le_of_ble_eq_true rfl) rfl d_Co_translateStatement_9 ?_
  refine j_topi 7 (by rw [if_pos ⟨nI_pos' (by omega), by rw [hlen]; exact nI_lt (by omega) (by omega)⟩, nI_clamp (by omega)]; exact hS) ?_
  refine j_tabIn (tgt := 98) (off := 86) B d_Co_translateStatement_12 (by decide) (by decide) (by decide) (by decide) ?_
  refine j_aloadn B d_Co_translateStatement_98 rfl ?_
  refine j_iconst (v := 3) B d_Co_translateStatement_99 (by decide) ?_
  refine j_iconst (v := 0) B d_Co_translateStatement_100 (by decide) ?_
  refine j_aloadn B d_Co_translateStatement_101 rfl ?_
  refine j_cVt B (ok_Co_currentHead x ho h5) cv_Co_currentHead ml_Co_47 (q_22) rfl rfl ⟨rfl, rfl, by decide, by decide⟩ ⟨Nat.zero_le _, Nat.zero_le _⟩ hml (Nat.le_of_ble_eq_true rfl) rfl d_Co_translateStatement_102 ?_
  refine j_cVt B (ok_Pr_emitAtSite hf x 3 0 (hdC o x) hn h81 hq hq20) cv_Pr_emitAtSite ml_Co_51 (q_pr hf) rfl rfl ⟨rfl, rfl, by decide, by decide⟩ ⟨Nat.zero_le _, Nat.zero_le _⟩ hml (Nat.le_of_ble_eq_true rfl) rfl d_Co_translateStatement_105 ?_
  refine j_goto (tgt := 164) B d_Co_translateStatement_108 (by decide) ?_
  exact j_vret B hr hlk d_Co_translateStatement_164 (rfl) (rfl)
theorem hdC_ac {f a o : Nat} {k h : Int32} {x : tm_M} : hdC o (acX f a k h x) = hdC o x := by simp [hdC, acX, sI, sA]
set_option maxRecDepth 100000 in
theorem ok_Co_translateStatement_local {l : Launch} {D : va_G} {aC : Nat → ClassId} {ad : Nat → Nat} {g f : Nat} (hg : g < 6) (hf : f < 6) (x : tm_M) {i len : Nat} (hlen : x.1 (1, g, 0) 2 = nI len) (hl20 : len ≤ 20) (hil : i < len) (hS : x.2 (1, g, 1) i = 6) {o : Nat} (ho : x.1 (3, 0, 0) 1 = nI o) (h5 : o < 5) {a : Nat} (ha : x.1 (6, f, 0) 6 = nI a) (h40 : a < 40) :
    OkX l y_Co_translateStatement b_Co_translateStatement 5 none (rom 4 90) D aC ad [.ref (ad 22), .ref (ad (txO g)), .int (nI i), .ref (ad (prO f))] x none (opX o 6 (x.2 (1, g, 2) i) (nI a) (hdC o x) (acX f a (-2) (hdC o x) x)) := by
  refine ok_start (by decide) (Nat.le_of_ble_eq_true rfl) rfl ?_
  intro p e s m args below meth c B hr hlk hml
  have B : Cx p s m c args b_Co_translateStatement R_Co D aC (rg 111 ad) 111 ad := B
  refine j_aloadn B d_Co_translateStatement_0 rfl ?_
  refine j_iloadn B d_Co_translateStatement_1 rfl ?_
  refine j_cVt B (ok_Tx_operandAt hg x (nI i) (a := len) hlen hl20) cv_Tx_operandAt ml_Co_40 (q_tx hg) rfl rfl ⟨rfl, rfl, by decide, by decide⟩ ⟨Nat.zero_le _, Nat.zero_le _⟩ hml (Nat.le_of_ble_eq_true rfl) rfl d_Co_translateStatement_2 ?_
  refine j_topi (x.2 (1, g, 2) i) (by rw [if_pos ⟨nI_pos' (by omega), by rw [hlen]; exact nI_lt (by omega) (by omega)⟩, nI_clamp (by omega)]) ?_
  refine j_istore B d_Co_translateStatement_5 (by decide) ?_
  refine j_aloadn B d_Co_translateStatement_7 rfl ?_
  refine j_iloadn B d_Co_translateStatement_8 rfl ?_
  refine j_cVt B (ok_Tx_statementAt hg x (nI i) (a := len) hlen hl20) cv_Tx_statementAt ml_Co_44 (q_tx hg) rfl rfl ⟨rfl, rfl, by decide, by decide⟩ ⟨Nat.zero_le _, Nat.zero_le _⟩ hml (Nat.le_of_ble_eq_true rfl) rfl d_Co_translateStatement_9 ?_
  refine j_topi 6 (by rw [if_pos ⟨nI_pos' (by omega), by rw [hlen]; exact nI_lt (by omega) (by omega)⟩, nI_clamp (by omega)]; exact hS) ?_
  refine j_tabIn (tgt := 111) (off := 99) B d_Co_translateStatement_12 (by decide) (by decide) (by decide) (by decide) ?_
  refine j_aloadn B d_Co_translateStatement_111 rfl ?_
  refine j_bipush (v := 6) B d_Co_translateStatement_112 (by decide) ?_
  refine j_iload B d_Co_translateStatement_114 rfl ?_
  refine j_aloadn B d_Co_translateStatement_116 rfl ?_
  refine j_bipush (v := (-2)) B d_Co_translateStatement_117 (by decide) ?_
  refine j_aloadn B d_Co_translateStatement_119 rfl ?_
  refine j_cVt B (ok_Co_currentHead x ho (by omega)) cv_Co_currentHead ml_Co_47 (q_22) rfl rfl ⟨rfl, rfl, by decide, by decide⟩ ⟨Nat.zero_le _, Nat.zero_le _⟩ hml (Nat.le_of_ble_eq_true rfl) rfl d_Co_translateStatement_120 ?_
  refine j_cVt B (ok_Pr_makeAction hf x (-2) (hdC o x) ha h40) cv_Pr_makeAction ml_Co_55 (q_pr hf) rfl rfl ⟨rfl, rfl, by decide, by decide⟩ ⟨Nat.zero_le _, Nat.zero_le _⟩ hml (Nat.le_of_ble_eq_true rfl) rfl d_Co_translateStatement_123 ?_
  refine j_cVt B (ok_Co_openBlock (acX f a (-2) (hdC o x) x) 6 (x.2 (1, g, 2) i) (nI a) (o := o) (by simp [acX, sI, sA, ho]) h5) cv_Co_openBlock ml_Co_59 (q_22) rfl rfl ⟨rfl, rfl, by decide, by decide⟩ ⟨Nat.zero_le _, Nat.zero_le _⟩ hml (Nat.le_of_ble_eq_true rfl) rfl d_Co_translateStatement_126 ?_
  refine j_goto (tgt := 164) B d_Co_translateStatement_129 (by decide) ?_
  exact j_vret B hr hlk d_Co_translateStatement_164 (rfl) (by rw [hdC_ac])
theorem mcF_1 {f : Nat} {S O : Nat → Int32} {K : tm_K} (hK : K ≠ (6, f, 0)) : ∀ (r k d a : Nat) (x : tm_M), (mcF f S O r k d a x).2.1 K = x.1 K
  | 0, _, _, _, _ => rfl
  | r + 1, k, d, a, x => by
    unfold mcF
    split
    · exact mcF_1 hK r _ _ _ _
    · split
      · split
        · rfl
        · exact mcF_1 hK r _ _ _ _
      · split
        · rw [mcF_1 hK r]; simp [acX, sI, sA, hK]
        · exact mcF_1 hK r _ _ _ _
theorem hdC_mt {f o r k a : Nat} {S O : Nat → Int32} {h : Int32} {x : tm_M} : hdC o (mtX f S O r k a h x) = hdC o x := by
  unfold hdC mtX
  rw [rAI, mcF_1 (by simp)]
set_option maxRecDepth 100000 in
theorem ok_Co_translateStatement_try {l : Launch} {D : va_G} {aC : Nat → ClassId} {ad : Nat → Nat} {g f : Nat} (hg : g < 6) (hf : f < 6) (x : tm_M) {i len : Nat} (hlen : x.1 (1, g, 0) 2 = nI len) (hl20 : len ≤ 20) (hil : i < len) (hS : x.2 (1, g, 1) i = 3) {o : Nat} (ho : x.1 (3, 0, 0) 1 = nI o) (h5 : o < 5) {a : Nat} (ha : x.1 (6, f, 0) 6 = nI a) (h40 : a + crF (x.2 (1, g, 1)) (len - (i + 1)) (i + 1) 0 ≤ 40) (hc1 : 0 < crF (x.2 (1, g, 1)) (len - (i + 1)) (i + 1) 0) :
    OkX l y_Co_translateStatement b_Co_translateStatement 5 none (rom 4 90) D aC ad [.ref (ad 22), .ref (ad (txO g)), .int (nI i), .ref (ad (prO f))] x none (opX o 3 0 (nI a) (hdC o x) (mtX f (x.2 (1, g, 1)) (x.2 (1, g, 2)) (len - (i + 1)) (i + 1) a (hdC o x) x)) := by
  refine ok_start (by decide) (Nat.le_of_ble_eq_true rfl) rfl ?_
  intro p e s m args below meth c B hr hlk hml
  have B : Cx p s m c args b_Co_translateStatement R_Co D aC (rg 111 ad) 111 ad := B
  refine j_aloadn B d_Co_translateStatement_0 rfl ?_
  refine j_iloadn B d_Co_translateStatement_1 rfl ?_
  refine j_cVt B (ok_Tx_operandAt hg x (nI i) (a := len) hlen hl20) cv_Tx_operandAt ml_Co_40 (q_tx hg) rfl rfl ⟨rfl, rfl, by decide, by decide⟩ ⟨Nat.zero_le _, Nat.zero_le _⟩ hml (Nat.le_of_ble_eq_true rfl) rfl d_Co_translateStatement_2 ?_
  refine j_topi (x.2 (1, g, 2) i) (by rw [if_pos ⟨nI_pos' (by omega), by rw [hlen]; exact nI_lt (by omega) (by omega)⟩, nI_clamp (by omega)]) ?_
  refine j_istore B d_Co_translateStatement_5 (by decide) ?_
  refine j_aloadn B d_Co_translateStatement_7 rfl ?_
  refine j_iloadn B d_Co_translateStatement_8 rfl ?_
  refine j_cVt B (ok_Tx_statementAt hg x (nI i) (a := len) hlen hl20) cv_Tx_statementAt ml_Co_44 (q_tx hg) rfl rfl ⟨rfl, rfl, by decide, by decide⟩ ⟨Nat.zero_le _, Nat.zero_le _⟩ hml (Nat.le_of_ble_eq_true rfl) rfl d_Co_translateStatement_9 ?_
  refine j_topi 3 (by rw [if_pos ⟨nI_pos' (by omega), by rw [hlen]; exact nI_lt (by omega) (by omega)⟩, nI_clamp (by omega)]; exact hS) ?_
  refine j_tabIn (tgt := 132) (off := 120) B d_Co_translateStatement_12 (by decide) (by decide) (by decide) (by decide) ?_
  refine j_aloadn B d_Co_translateStatement_132 rfl ?_
  refine j_iconst (v := 3) B d_Co_translateStatement_133 (by decide) ?_
  refine j_iconst (v := 0) B d_Co_translateStatement_134 (by decide) ?_
  refine j_aloadn B d_Co_translateStatement_135 rfl ?_
  refine j_aloadn B d_Co_translateStatement_136 rfl ?_
  refine j_iloadn B d_Co_translateStatement_137 rfl ?_
  refine j_aloadn B d_Co_translateStatement_138 rfl ?_
  refine j_cVt B (ok_Co_makeCatchActions hg hf x hlen hl20 hil ho (by omega) ha h40 hc1) cv_Co_makeCatchActions ml_Co_62 (q_22) rfl rfl ⟨rfl, rfl, by decide, by decide⟩ ⟨Nat.zero_le _, Nat.zero_le _⟩ hml (Nat.le_of_ble_eq_true rfl) rfl d_Co_translateStatement_139 ?_
  refine j_cVt B (ok_Co_openBlock (mtX f (x.2 (1, g, 1)) (x.2 (1, g, 2)) (len - (i + 1)) (i + 1) a (hdC o x) x) 3 0 (nI a) (o := o) (by unfold mtX; rw [rAI, mcF_1 (by simp)]; exact ho) h5) cv_Co_openBlock ml_Co_59 (q_22) rfl rfl ⟨rfl, rfl, by decide, by decide⟩ ⟨Nat.zero_le _, Nat.zero_le _⟩ hml (Nat.le_of_ble_eq_true rfl) rfl d_Co_translateStatement_142 ?_
  refine j_goto (tgt := 164) B d_Co_translateStatement_145 (by decide) ?_
  exact j_vret B hr hlk d_Co_translateStatement_164 (rfl) (by rw [hdC_mt])
set_option maxRecDepth 100000 in
theorem ok_Co_translateStatement_catch_t {l : Launch} {D : va_G} {aC : Nat → ClassId} {ad : Nat → Nat} {g f : Nat} (hg : g < 6) (hf : f < 6) (x : tm_M) {i len : Nat} (hlen : x.1 (1, g, 0) 2 = nI len) (hl20 : len ≤ 20) (hil : i < len) (hS : x.2 (1, g, 1) i = 4) {o n t nc a : Nat} {u : Int32} (ho : x.1 (3, 0, 0) 1 = nI o) (ho1 : 0 < o) (h5 : o ≤ 5) (hn : x.1 (6, f, 0) 2 = nI n) (h81 : n + 4 ≤ 81) (ht : x.1 (4, o - 1, 0) 6 = nI t) (h20 : t < 20) (hc : x.1 (4, o - 1, 0) 4 = nI nc) (hca : nc < a) (ha : x.1 (6, f, 0) 6 = nI a) (h40 : a < 40) (hu : x.1 (4, o - 1, 0) 3 = u) (hkd : x.1 (4, o - 1, 0) 0 = 3) :
    OkX l y_Co_translateStatement b_Co_translateStatement 5 none (rom 4 90) D aC ad [.ref (ad 22), .ref (ad (txO g)), .int (nI i), .ref (ad (prO f))] x none (bcX f (o - 1) (n + 1) nc a u (exX f (o - 1) n t x)) := by
  refine ok_start (by decide) (Nat.le_of_ble_eq_true rfl) rfl ?_
  intro p e s m args below meth c B hr hlk hml
  have B : Cx p s m c args b_Co_translateStatement R_Co D aC (rg 111 ad) 111 ad := B
  refine j_aloadn B d_Co_translateStatement_0 rfl ?_
  refine j_iloadn B d_Co_translateStatement_1 rfl ?_
  refine j_cVt B (ok_Tx_operandAt hg x (nI i) (a := len) hlen hl20) cv_Tx_operandAt ml_Co_40 (q_tx hg) rfl rfl ⟨rfl, rfl, by decide, by decide⟩ ⟨Nat.zero_le _, Nat.zero_le _⟩ hml (Nat.le_of_ble_eq_true rfl) rfl d_Co_translateStatement_2 ?_
  refine j_topi (x.2 (1, g, 2) i) (by rw [if_pos ⟨nI_pos' (by omega), by rw [hlen]; exact nI_lt (by omega) (by omega)⟩, nI_clamp (by omega)]) ?_
  refine j_istore B d_Co_translateStatement_5 (by decide) ?_
  refine j_aloadn B d_Co_translateStatement_7 rfl ?_
  refine j_iloadn B d_Co_translateStatement_8 rfl ?_
  refine j_cVt B (ok_Tx_statementAt hg x (nI i) (a := len) hlen hl20) cv_Tx_statementAt ml_Co_44 (q_tx hg) rfl rfl ⟨rfl, rfl, by decide, by decide⟩ ⟨Nat.zero_le _, Nat.zero_le _⟩ hml (Nat.le_of_ble_eq_true rfl) rfl d_Co_translateStatement_9 ?_
  refine j_topi 4 (by rw [if_pos ⟨nI_pos' (by omega), by rw [hlen]; exact nI_lt (by omega) (by omega)⟩, nI_clamp (by omega)]; exact hS) ?_
  refine j_tabIn (tgt := 148) (off := 136) B d_Co_translateStatement_12 (by decide) (by decide) (by decide) (by decide) ?_
  refine j_aloadn B d_Co_translateStatement_148 rfl ?_
  refine j_aloadn B d_Co_translateStatement_149 rfl ?_
  refine j_cVt B (ok_Co_beginCatch_t hf x ho ho1 h5 hn h81 ht h20 hc hca ha h40 hu hkd) cv_Co_beginCatch ml_Co_66 (q_22) rfl rfl ⟨rfl, rfl, by decide, by decide⟩ ⟨Nat.zero_le _, Nat.zero_le _⟩ hml (Nat.le_of_ble_eq_true rfl) rfl d_Co_translateStatement_150 ?_
  refine j_goto (tgt := 164) B d_Co_translateStatement_153 (by decide) ?_
  exact j_vret B hr hlk d_Co_translateStatement_164 (rfl) (rfl)
set_option maxRecDepth 100000 in
theorem ok_Co_translateStatement_catch_c {l : Launch} {D : va_G} {aC : Nat → ClassId} {ad : Nat → Nat} {g f : Nat} (hg : g < 6) (hf : f < 6) (x : tm_M) {i len : Nat} (hlen : x.1 (1, g, 0) 2 = nI len) (hl20 : len ≤ 20) (hil : i < len) (hS : x.2 (1, g, 1) i = 4) {o n t nc a : Nat} {u : Int32} (ho : x.1 (3, 0, 0) 1 = nI o) (ho1 : 0 < o) (h5 : o ≤ 5) (hn : x.1 (6, f, 0) 2 = nI n) (h81 : n + 4 ≤ 81) (ht : x.1 (4, o - 1, 0) 6 = nI t) (h20 : t < 20) (hc : x.1 (4, o - 1, 0) 4 = nI nc) (hca : nc < a) (ha : x.1 (6, f, 0) 6 = nI a) (h40 : a < 40) (hu : x.1 (4, o - 1, 0) 3 = u) {k : Nat} (hkd : ¬ x.1 (4, o - 1, 0) 0 = 3) (hk : x.1 (4, o - 1, 0) 2 = nI k) (hka : k < a) :
    OkX l y_Co_translateStatement b_Co_translateStatement 5 none (rom 4 90) D aC ad [.ref (ad 22), .ref (ad (txO g)), .int (nI i), .ref (ad (prO f))] x none (bcX f (o - 1) (n + 4) nc a u (fcX f (o - 1) n t k x)) := by
  refine ok_start (by decide) (Nat.le_of_ble_eq_true rfl) rfl ?_
  intro p e s m args below meth c B hr hlk hml
  have B : Cx p s m c args b_Co_translateStatement R_Co D aC (rg 111 ad) 111 ad := B
  refine j_aloadn B d_Co_translateStatement_0 rfl ?_
  refine j_iloadn B d_Co_translateStatement_1 rfl ?_
  refine j_cVt B (ok_Tx_operandAt hg x (nI i) (a := len) hlen hl20) cv_Tx_operandAt ml_Co_40 (q_tx hg) rfl rfl ⟨rfl, rfl, by decide, by decide⟩ ⟨Nat.zero_le _, Nat.zero_le _⟩ hml (Nat.le_of_ble_eq_true rfl) rfl d_Co_translateStatement_2 ?_
  refine j_topi (x.2 (1, g, 2) i) (by rw [if_pos ⟨nI_pos' (by omega), by rw [hlen]; exact nI_lt (by omega) (by omega)⟩, nI_clamp (by omega)]) ?_
  refine j_istore B d_Co_translateStatement_5 (by decide) ?_
  refine j_aloadn B d_Co_translateStatement_7 rfl ?_
  refine j_iloadn B d_Co_translateStatement_8 rfl ?_
  refine j_cVt B (ok_Tx_statementAt hg x (nI i) (a := len) hlen hl20) cv_Tx_statementAt ml_Co_44 (q_tx hg) rfl rfl ⟨rfl, rfl, by decide, by decide⟩ ⟨Nat.zero_le _, Nat.zero_le _⟩ hml (Nat.le_of_ble_eq_true rfl) rfl d_Co_translateStatement_9 ?_
  refine j_topi 4 (by rw [if_pos ⟨nI_pos' (by omega), by rw [hlen]; exact nI_lt (by omega) (by omega)⟩, nI_clamp (by omega)]; exact hS) ?_
  refine j_tabIn (tgt := 148) (off := 136) B d_Co_translateStatement_12 (by decide) (by decide) (by decide) (by decide) ?_
  refine j_aloadn B d_Co_translateStatement_148 rfl ?_
  refine j_aloadn B d_Co_translateStatement_149 rfl ?_
  refine j_cVt B (ok_Co_beginCatch_c hf x ho ho1 h5 hn h81 ht h20 hc hca ha h40 hu hkd hk hka) cv_Co_beginCatch ml_Co_66 (q_22) rfl rfl ⟨rfl, rfl, by decide, by decide⟩ ⟨Nat.zero_le _, Nat.zero_le _⟩ hml (Nat.le_of_ble_eq_true rfl) rfl d_Co_translateStatement_150 ?_
  refine j_goto (tgt := 164) B d_Co_translateStatement_153 (by decide) ?_
  exact j_vret B hr hlk d_Co_translateStatement_164 (rfl) (rfl)
set_option maxRecDepth 100000 in
theorem ok_Co_translateStatement_end_l {l : Launch} {D : va_G} {aC : Nat → ClassId} {ad : Nat → Nat} {g f : Nat} (hg : g < 6) (hf : f < 6) (x : tm_M) {i len : Nat} (hlen : x.1 (1, g, 0) 2 = nI len) (hl20 : len ≤ 20) (hil : i < len) (hS : x.2 (1, g, 1) i = 5) {o n t k a : Nat} (E : Nat → Nat) (ho : x.1 (3, 0, 0) 1 = nI o) (ho1 : 0 < o) (h5 : o ≤ 5) (hn : x.1 (6, f, 0) 2 = nI n) (h81 : n + 4 ≤ 81) (ht : x.1 (4, o - 1, 0) 6 = nI t) (h20 : t < 20) (hk : x.1 (4, o - 1, 0) 2 = nI k) (hka : k < a) (ha : x.1 (6, f, 0) 6 = nI a) (h40 : a ≤ 40) (hE : ∀ j, j < t → x.2 (4, o - 1, 1) j = nI (E j) ∧ E j < n) (hEt : E t = n + 1) {w : Int32} (hkd : x.1 (4, o - 1, 0) 0 = 6) (hw : x.1 (4, o - 1, 0) 1 = w) :
    OkX l y_Co_translateStatement b_Co_translateStatement 5 none (rom 4 90) D aC ad [.ref (ad 22), .ref (ad (txO g)), .int (nI i), .ref (ad (prO f))] x none (clX f (n + 4) (t + 1) o E (flX f (o - 1) n t k w x)) := by
  refine ok_start (by decide) (Nat.le_of_ble_eq_true rfl) rfl ?_
  intro p e s m args below meth c B hr hlk hml
  have B : Cx p s m c args b_Co_translateStatement R_Co D aC (rg 111 ad) 111 ad := B
  refine j_aloadn B d_Co_translateStatement_0 rfl ?_
  refine j_iloadn B d_Co_translateStatement_1 rfl ?_
  refine j_cVt B (ok_Tx_operandAt hg x (nI i) (a := len) hlen hl20) cv_Tx_operandAt ml_Co_40 (q_tx hg) rfl rfl ⟨rfl, rfl, by decide, by decide⟩ ⟨Nat.zero_le _, Nat.zero_le _⟩ hml (Nat.le_of_ble_eq_true rfl) rfl d_Co_translateStatement_2 ?_
  refine j_topi (x.2 (1, g, 2) i) (by rw [if_pos ⟨nI_pos' (by omega), by rw [hlen]; exact nI_lt (by omega) (by omega)⟩, nI_clamp (by omega)]) ?_
  refine j_istore B d_Co_translateStatement_5 (by decide) ?_
  refine j_aloadn B d_Co_translateStatement_7 rfl ?_
  refine j_iloadn B d_Co_translateStatement_8 rfl ?_
  refine j_cVt B (ok_Tx_statementAt hg x (nI i) (a := len) hlen hl20) cv_Tx_statementAt ml_Co_44 (q_tx hg) rfl rfl ⟨rfl, rfl, by decide, by decide⟩ ⟨Nat.zero_le _, Nat.zero_le _⟩ hml (Nat.le_of_ble_eq_true rfl) rfl d_Co_translateStatement_9 ?_
  refine j_topi 5 (by rw [if_pos ⟨nI_pos' (by omega), by rw [hlen]; exact nI_lt (by omega) (by omega)⟩, nI_clamp (by omega)]; exact hS) ?_
  refine j_tabIn (tgt := 156) (off := 144) B d_Co_translateStatement_12 (by decide) (by decide) (by decide) (by decide) ?_
  refine j_aloadn B d_Co_translateStatement_156 rfl ?_
  refine j_aloadn B d_Co_translateStatement_157 rfl ?_
  refine j_cVt B (ok_Co_closeBlock_l hf x E ho ho1 h5 hn h81 ht h20 hk hka ha h40 hE hEt hkd hw) cv_Co_closeBlock ml_Co_70 (q_22) rfl rfl ⟨rfl, rfl, by decide, by decide⟩ ⟨Nat.zero_le _, Nat.zero_le _⟩ hml (Nat.le_of_ble_eq_true rfl) rfl d_Co_translateStatement_158 ?_
  refine j_goto (tgt := 164) B d_Co_translateStatement_161 (by decide) ?_
  exact j_vret B hr hlk d_Co_translateStatement_164 (rfl) (rfl)
set_option maxRecDepth 100000 in
theorem ok_Co_translateStatement_end_c {l : Launch} {D : va_G} {aC : Nat → ClassId} {ad : Nat → Nat} {g f : Nat} (hg : g < 6) (hf : f < 6) (x : tm_M) {i len : Nat} (hlen : x.1 (1, g, 0) 2 = nI len) (hl20 : len ≤ 20) (hil : i < len) (hS : x.2 (1, g, 1) i = 5) {o n t k a : Nat} (E : Nat → Nat) (ho : x.1 (3, 0, 0) 1 = nI o) (ho1 : 0 < o) (h5 : o ≤ 5) (hn : x.1 (6, f, 0) 2 = nI n) (h81 : n + 4 ≤ 81) (ht : x.1 (4, o - 1, 0) 6 = nI t) (h20 : t < 20) (hk : x.1 (4, o - 1, 0) 2 = nI k) (hka : k < a) (ha : x.1 (6, f, 0) 6 = nI a) (h40 : a ≤ 40) (hE : ∀ j, j < t → x.2 (4, o - 1, 1) j = nI (E j) ∧ E j < n) (hEt : E t = n + 1) (hkd : ¬ x.1 (4, o - 1, 0) 0 = 6) :
    OkX l y_Co_translateStatement b_Co_translateStatement 5 none (rom 4 90) D aC ad [.ref (ad 22), .ref (ad (txO g)), .int (nI i), .ref (ad (prO f))] x none (clX f (n + 4) (t + 1) o E (fcX f (o - 1) n t k x)) := by
  refine ok_start (by decide) (Nat.le_of_ble_eq_true rfl) rfl ?_
  intro p e s m args below meth c B hr hlk hml
  have B : Cx p s m c args b_Co_translateStatement R_Co D aC (rg 111 ad) 111 ad := B
  refine j_aloadn B d_Co_translateStatement_0 rfl ?_
  refine j_iloadn B d_Co_translateStatement_1 rfl ?_
  refine j_cVt B (ok_Tx_operandAt hg x (nI i) (a := len) hlen hl20) cv_Tx_operandAt ml_Co_40 (q_tx hg) rfl rfl ⟨rfl, rfl, by decide, by decide⟩ ⟨Nat.zero_le _, Nat.zero_le _⟩ hml (Nat.le_of_ble_eq_true rfl) rfl d_Co_translateStatement_2 ?_
  refine j_topi (x.2 (1, g, 2) i) (by rw [if_pos ⟨nI_pos' (by omega), by rw [hlen]; exact nI_lt (by omega) (by omega)⟩, nI_clamp (by omega)]) ?_
  refine j_istore B d_Co_translateStatement_5 (by decide) ?_
  refine j_aloadn B d_Co_translateStatement_7 rfl ?_
  refine j_iloadn B d_Co_translateStatement_8 rfl ?_
  refine j_cVt B (ok_Tx_statementAt hg x (nI i) (a := len) hlen hl20) cv_Tx_statementAt ml_Co_44 (q_tx hg) rfl rfl ⟨rfl, rfl, by decide, by decide⟩ ⟨Nat.zero_le _, Nat.zero_le _⟩ hml (Nat.le_of_ble_eq_true rfl) rfl d_Co_translateStatement_9 ?_
  refine j_topi 5 (by rw [if_pos ⟨nI_pos' (by omega), by rw [hlen]; exact nI_lt (by omega) (by omega)⟩, nI_clamp (by omega)]; exact hS) ?_
  refine j_tabIn (tgt := 156) (off := 144) B d_Co_translateStatement_12 (by decide) (by decide) (by decide) (by decide) ?_
  refine j_aloadn B d_Co_translateStatement_156 rfl ?_
  refine j_aloadn B d_Co_translateStatement_157 rfl ?_
  refine j_cVt B (ok_Co_closeBlock_c hf x E ho ho1 h5 hn h81 ht h20 hk hka ha h40 hE hEt hkd) cv_Co_closeBlock ml_Co_70 (q_22) rfl rfl ⟨rfl, rfl, by decide, by decide⟩ ⟨Nat.zero_le _, Nat.zero_le _⟩ hml (Nat.le_of_ble_eq_true rfl) rfl d_Co_translateStatement_158 ?_
  refine j_goto (tgt := 164) B d_Co_translateStatement_161 (by decide) ?_
  exact j_vret B hr hlk d_Co_translateStatement_164 (rfl) (rfl)
set_option maxRecDepth 100000 in
theorem ok_Co_translate {l : Launch} {D : va_G} {aC : Nat → ClassId} {ad : Nat → Nat} {g f : Nat} (hg : g < 6) (hf : f < 6) (x : tm_M) {len n : Nat} (X : Nat → tm_M) (hX : X 0 = (sI (sI (sI (sI x (6, f, 0) 2 0) (6, f, 0) 6 0) (6, f, 0) 10 0) (3, 0, 0) 1 0)) (hlen : ∀ k, k ≤ len → (X k).1 (1, g, 0) 2 = nI len) (hl20 : len ≤ 20) (hs : ∀ k, k < len → OkX l y_Co_translateStatement b_Co_translateStatement 5 none (rom 4 90) D aC ad [.ref (ad 22), .ref (ad (txO g)), .int (nI k), .ref (ad (prO f))] (X k) none (X (k + 1))) (hn : (X len).1 (6, f, 0) 2 = nI n) (h81 : n < 81) :
    OkX l y_Co_translate b_Co_translate 4 none (rom 5 114) D aC ad [.ref (ad 22), .ref (ad (txO g)), .ref (ad (prO f))] x none (emX f n 8 0 (X len)) := by
  refine ok_start (by decide) (Nat.le_of_ble_eq_true rfl) rfl ?_
  intro p e s m args below meth c B hr hlk hml
  have B : Cx p s m c args b_Co_translate R_Co D aC (rg 111 ad) 111 ad := B
  have loop : ∀ (r k : Nat), k + r = len → J p l e (rom 5 114) s m args below meth c D (rg 111 ad) 0 0 (MQ below (Qk D aC 111 ad none (wX ad aC (emX f n 8 0 (X len)))) args s 0 0 (rg 111 ad)) 111 ad (wX ad aC (X k)) 4 11 [(3, .int (nI k)), (0, .ref (ad 22)), (1, .ref (ad (txO g))), (2, .ref (ad (prO f)))] [] := by
    intro r
    induction r with
    | zero =>
      intro k hk
      refine j_iloadn B d_Co_translate_11 rfl ?_
      refine j_aloadn B d_Co_translate_12 rfl ?_
      refine j_geti B fl_Co_27 (q_tx hg) rfl d_Co_translate_13 ?_
      refine j_topi (nI len) (hlen k (by omega)) ?_
      refine j_icmp_ge (tgt := 32) B d_Co_translate_16 (by decide) (fun h16 => ?_) (fun h16 => (show False from h16 (nI_le (by omega) (by omega))).elim)
      refine j_aloadn B d_Co_translate_32 rfl ?_
      refine j_bipush (v := 8) B d_Co_translate_33 (by decide) ?_
      refine j_iconst (v := 0) B d_Co_translate_35 (by decide) ?_
      refine j_cVt B (ok_Pr_emit hf (X k) 8 0 (n := n) (by rw [show k = len by omega]; exact hn) h81) cv_Pr_emit ml_Co_36 (q_pr hf) rfl rfl ⟨rfl, rfl, by decide, by decide⟩ ⟨Nat.zero_le _, Nat.zero_le _⟩ hml (Nat.le_of_ble_eq_true rfl) rfl d_Co_translate_36 ?_
      exact j_vret B hr hlk d_Co_translate_39 (rfl) (by rw [show k = len by omega])
    | succ r ih =>
      intro k hk
      refine j_iloadn B d_Co_translate_11 rfl ?_
      refine j_aloadn B d_Co_translate_12 rfl ?_
      refine j_geti B fl_Co_27 (q_tx hg) rfl d_Co_translate_13 ?_
      refine j_topi (nI len) (hlen k (by omega)) ?_
      refine j_icmp_ge (tgt := 32) B d_Co_translate_16 (by decide) (fun h16 => (show False from absurd (nIle h16 (by omega) (by omega)) (by omega)).elim) (fun h16 => ?_)
      refine j_aloadn B d_Co_translate_19 rfl ?_
      refine j_aloadn B d_Co_translate_20 rfl ?_
      refine j_iloadn B d_Co_translate_21 rfl ?_
      refine j_aloadn B d_Co_translate_22 rfl ?_
      refine j_cVt B (hs k (by omega)) cv_Co_translateStatement ml_Co_32 (q_22) rfl rfl ⟨rfl, rfl, by decide, by decide⟩ ⟨Nat.zero_le _, Nat.zero_le _⟩ hml (Nat.le_of_ble_eq_true rfl) rfl d_Co_translate_23 ?_
      refine j_iinc B d_Co_translate_26 rfl (by decide) (nI_1 k) ?_
      refine j_goto (tgt := 11) B d_Co_translate_29 (by decide) ?_
      refine j_loc [(3, .int (nI (k + 1))), (0, .ref (ad 22)), (1, .ref (ad (txO g))), (2, .ref (ad (prO f)))] ⟨rfl, rfl, rfl, rfl, trivial⟩ ?_
      exact ih (k + 1) (by omega)
  refine j_aloadn B d_Co_translate_0 rfl ?_
  refine j_cVt B (ok_Pr_clear hf x) cv_Pr_clear ml_Co_18 (q_pr hf) rfl rfl ⟨rfl, rfl, by decide, by decide⟩ ⟨Nat.zero_le _, Nat.zero_le _⟩ hml (Nat.le_of_ble_eq_true rfl) rfl d_Co_translate_1 ?_
  refine j_aloadn B d_Co_translate_4 rfl ?_
  refine j_iconst (v := 0) B d_Co_translate_5 (by decide) ?_
  refine j_puti B kX_inj fs_Co_23 (q_22) rfl d_Co_translate_6 ?_
  refine j_iconst (v := 0) B d_Co_translate_9 (by decide) ?_
  refine j_istoren B d_Co_translate_10 (by decide) ?_
  refine j_x (X 0) hX.symm ?_
  refine j_loc [(3, .int (nI 0)), (0, .ref (ad 22)), (1, .ref (ad (txO g))), (2, .ref (ad (prO f)))] ⟨rfl, rfl, rfl, rfl, trivial⟩ ?_
  exact loop len 0 (by omega)
