set_option maxRecDepth 100000 in
theorem ok_Mo_raises_n {l : Launch} {D : va_G} {aC : Nat → ClassId} {ad : Nat → Nat} (x : tm_M) (u : Int32) {d t : Nat} (hd : x.1 (0, 0, 0) 25 = nI d) (hd0 : 0 < d) (hd8 : d ≤ 8) (hM : MR x d) (h8 : t ≤ 8) (hu : u = -1 ∨ ∃ a, a < t ∧ u = nI a) (hP : ∀ a, a < t → x.2 (0, 0, 1) a = -1 ∨ ∃ j, j < a ∧ x.2 (0, 0, 1) a = nI j) (hF : (fsR (sI x (0, 0, 0) 31 u) u d).1 = 0) :
    OkM l y_Mo_raises b_Mo_raises 2 none (rom 2 50) D aC ad [.ref (ad 0), .int u] x none (sI (sA (sI x (0, 0, 0) 31 u) (0, 0, 28) 5 u) (0, 0, 0) 35 1) := by
  refine ok_start (by decide) (Nat.le_of_ble_eq_true rfl) rfl ?_
  intro p e s m args below meth c B hr hlk hml
  have B : Cx p s m c args b_Mo_raises R_Mo D aC (rg 30 ad) 30 ad := B
  refine j_aloadn B d_Mo_raises_0 rfl ?_
  refine j_iloadn B d_Mo_raises_1 rfl ?_
  refine j_puti B kM_inj fs_Mo_171 (m_0) rfl d_Mo_raises_2 ?_
  refine j_aloadn B d_Mo_raises_5 rfl ?_
  refine j_cVt B (ok_Mo_searches (sI x (0, 0, 0) 31 u) u (d := d) (by rw [rIj (by decide)]; exact hd) hd8 ((MR_eq (fun _ _ _ _ _ => rfl)).1 hM) rI h8 hu hP) cv_Mo_searches ml_Mo_186 (m_0) rfl rfl ⟨rfl, rfl, by decide, by decide⟩ ⟨Nat.zero_le _, Nat.zero_le _⟩ hml (Nat.le_of_ble_eq_true rfl) rfl d_Mo_raises_6 ?_
  refine j_if_ne (tgt := 25) B d_Mo_raises_9 (by decide) (fun h9 => (show False from h9 (if_pos hF)).elim) (fun h9 => ?_)
  refine j_x (sI x (0, 0, 0) 31 u) (if_pos hF) ?_
  refine j_aloadn B d_Mo_raises_12 rfl ?_
  refine j_getr B fl_Mo_95 (m_0) rfl d_Mo_raises_13 ?_
  refine j_iconst (v := 5) B d_Mo_raises_16 (by decide) ?_
  refine j_iloadn B d_Mo_raises_17 rfl ?_
  refine j_iast B kM_inj (m_28) (⟨(rfl : (5 : Int32) = nI 5), by decide, by decide⟩) d_Mo_raises_18 ?_
  refine j_aloadn B d_Mo_raises_19 rfl ?_
  refine j_iconst (v := 1) B d_Mo_raises_20 (by decide) ?_
  refine j_puti B kM_inj fs_Mo_189 (m_0) rfl d_Mo_raises_21 ?_
  exact j_vret B hr hlk d_Mo_raises_24 (rfl) (rfl)
/-- a handler is found -/
def rsR (L : Nat) (k u : Int32) (x : tm_M) : tm_M := sA (sI (sI (sI x (0, 0, 0) 31 u) (0, 0, 0) 32 (nI (L - 1))) (0, 0, 0) 33 k) (0, 0, 28) 3 (x.2 (0, 0, 28) 3 + 1)
theorem rsR_2 {L : Nat} {k u : Int32} {x : tm_M} (K : tm_K) (h : K ≠ (0, 0, 28)) : (rsR L k u x).2 K = x.2 K := by unfold rsR; rw [rAK h]; rfl
set_option maxRecDepth 100000 in
theorem ok_Mo_raises_y {l : Launch} {D : va_G} {aC : Nat → ClassId} {ad : Nat → Nat} (x : tm_M) (u : Int32) {d t : Nat} (hd : x.1 (0, 0, 0) 25 = nI d) (hd0 : 0 < d) (hd8 : d ≤ 8) (hM : MR x d) (h8 : t ≤ 8) (hu : u = -1 ∨ ∃ a, a < t ∧ u = nI a) (hP : ∀ a, a < t → x.2 (0, 0, 1) a = -1 ∨ ∃ j, j < a ∧ x.2 (0, 0, 1) a = nI j) {L : Nat} {k : Int32} {x4 : tm_M} (hF : fsR (sI x (0, 0, 0) 31 u) u d = (L, k)) (hL : ¬ L = 0) (hU : OkM l y_Mo_unwinds b_Mo_unwinds 6 none (rom 1 25) D aC ad [.ref (ad 0), .int (hdR x (d - 1))] (rsR L k u x) none x4) :
    OkM l y_Mo_raises b_Mo_raises 2 none (rom 2 50) D aC ad [.ref (ad 0), .int u] x none x4 := by
  refine ok_start (by decide) (Nat.le_of_ble_eq_true rfl) rfl ?_
  intro p e s m args below meth c B hr hlk hml
  have B : Cx p s m c args b_Mo_raises R_Mo D aC (rg 30 ad) 30 ad := B
  refine j_aloadn B d_Mo_raises_0 rfl ?_
  refine j_iloadn B d_Mo_raises_1 rfl ?_
  refine j_puti B kM_inj fs_Mo_171 (m_0) rfl d_Mo_raises_2 ?_
  refine j_aloadn B d_Mo_raises_5 rfl ?_
  refine j_cVt B (ok_Mo_searches (sI x (0, 0, 0) 31 u) u (d := d) (by rw [rIj (by decide)]; exact hd) hd8 ((MR_eq (fun _ _ _ _ _ => rfl)).1 hM) rI h8 hu hP) cv_Mo_searches ml_Mo_186 (m_0) rfl rfl ⟨rfl, rfl, by decide, by decide⟩ ⟨Nat.zero_le _, Nat.zero_le _⟩ hml (Nat.le_of_ble_eq_true rfl) rfl d_Mo_raises_6 ?_
  refine j_if_ne (tgt := 25) B d_Mo_raises_9 (by decide) (fun h9 => ?_) (fun h9 => (show False from absurd h9 (by rw [hF, if_neg hL]; decide)).elim)
  refine j_x (sI (sI (sI x (0, 0, 0) 31 u) (0, 0, 0) 32 (nI (L - 1))) (0, 0, 0) 33 k) (by rw [hF]; exact if_neg hL) ?_
  refine j_aloadn B d_Mo_raises_25 rfl ?_
  refine j_getr B fl_Mo_95 (m_0) rfl d_Mo_raises_26 ?_
  refine j_iconst (v := 3) B d_Mo_raises_29 (by decide) ?_
  refine j_dup2 B d_Mo_raises_30 rfl rfl ?_
  refine j_iald B (m_28) (⟨(rfl : (3 : Int32) = nI 3), by decide, by decide⟩) d_Mo_raises_31 ?_
  refine j_iconst (v := 1) B d_Mo_raises_32 (by decide) ?_
  refine j_iadd B d_Mo_raises_33 ?_
  refine j_iast B kM_inj (m_28) (⟨(rfl : (3 : Int32) = nI 3), by decide, by decide⟩) d_Mo_raises_34 ?_
  refine j_x (rsR L k u x) rfl ?_
  refine j_aloadn B d_Mo_raises_35 rfl ?_
  refine j_aloadn B d_Mo_raises_36 rfl ?_
  refine j_aloadn B d_Mo_raises_37 rfl ?_
  refine j_geti B fl_Mo_164 (m_0) rfl d_Mo_raises_38 ?_
  refine j_iconst (v := 1) B d_Mo_raises_41 (by decide) ?_
  refine j_isub B d_Mo_raises_42 ?_
  refine j_topi (nI (d - 1)) (by rw [show (rsR L k u x).1 (0, 0, 0) 25 = nI d from by simp [rsR, sI, sA, upd, hd]]; exact nIp hd0) ?_
  refine j_cVt B (ok_hdR (i := d - 1) (by omega) (rsR L k u x) (d := d) ((MR_eq (fun K h _ _ _ => rsR_2 K h)).1 hM) (by omega)) cv_Mo_headAt ml_Mo_167 (m_0) rfl rfl ⟨rfl, rfl, by decide, by decide⟩ ⟨Nat.zero_le _, Nat.zero_le _⟩ hml (Nat.le_of_ble_eq_true rfl) rfl d_Mo_raises_43 ?_
  refine j_topi (hdR x (d - 1)) (by rw [(MR_eq (x := x) (d := d) (fun K h _ _ _ => rsR_2 (L := L) (k := k) (u := u) K h)).2.2.2.2.2]) ?_
  refine j_cVt B (hU) cv_Mo_unwinds ml_Mo_192 (m_0) rfl rfl ⟨rfl, rfl, by decide, by decide⟩ ⟨Nat.zero_le _, Nat.zero_le _⟩ hml (Nat.le_of_ble_eq_true rfl) rfl d_Mo_raises_46 ?_
  exact j_vret B hr hlk d_Mo_raises_49 (rfl) (rfl)
/-- the step's frame is at its place, and goes to the next -/
abbrev npR (d pp : Nat) (x : tm_M) : tm_M := sA (sA x (0, 0, 24) (d - 1) (nI pp)) (0, 0, 25) (d - 1) (nI (pp + 1))
set_option maxRecDepth 100000 in
theorem ok_Mo_step_P {l : Launch} {D : va_G} {aC : Nat → ClassId} {ad : Nat → Nat} (x : tm_M) {d g pp : Nat} (hd : x.1 (0, 0, 0) 25 = nI d) (hd0 : 0 < d) (hd8 : d ≤ 8) (hg : g < 6) (hfn : x.2 (0, 0, 23) (d - 1) = nI g) (hpl : x.2 (0, 0, 25) (d - 1) = nI pp) (hpn : pp < 128) (hlt : x.2 (0, 0, 6) (128 * g + pp) = 0) {x2 : tm_M} (hC : OkM l y_Mo_puts b_Mo_puts 2 none (rom 0 0) D aC ad [.ref (ad 0), .int (x.2 (0, 0, 7) (128 * g + pp))] (npR d pp x) none x2) :
    OkM l y_Mo_step b_Mo_step 4 none (rom 3 71) D aC ad [.ref (ad 0)] x none x2 := by
  refine ok_start (by decide) (Nat.le_of_ble_eq_true rfl) rfl ?_
  intro p e s m args below meth c B hr hlk hml
  have B : Cx p s m c args b_Mo_step R_Mo D aC (rg 30 ad) 30 ad := B
  refine j_aloadn B d_Mo_step_0 rfl ?_
  refine j_geti B fl_Mo_164 (m_0) rfl d_Mo_step_1 ?_
  refine j_iconst (v := 1) B d_Mo_step_4 (by decide) ?_
  refine j_isub B d_Mo_step_5 ?_
  refine j_topi (nI (d - 1)) (by rw [hd]; exact nIp hd0) ?_
  refine j_istoren B d_Mo_step_6 (by decide) ?_
  refine j_sipush (v := 128) B d_Mo_step_7 (by decide) ?_
  refine j_aloadn B d_Mo_step_10 rfl ?_
  refine j_getr B fl_Mo_80 (m_0) rfl d_Mo_step_11 ?_
  refine j_iloadn B d_Mo_step_14 rfl ?_
  refine j_iald B (m_23) (⟨rfl, by omega, by decide⟩) d_Mo_step_15 ?_
  refine j_topi (nI g) hfn ?_
  refine j_imul B d_Mo_step_16 ?_
  refine j_aloadn B d_Mo_step_17 rfl ?_
  refine j_getr B fl_Mo_86 (m_0) rfl d_Mo_step_18 ?_
  refine j_iloadn B d_Mo_step_21 rfl ?_
  refine j_iald B (m_25) (⟨rfl, by omega, by decide⟩) d_Mo_step_22 ?_
  refine j_topi (nI pp) hpl ?_
  refine j_iadd B d_Mo_step_23 ?_
  refine j_topi (nI (128 * g + pp)) (ixm 128 g pp) ?_
  refine j_istoren B d_Mo_step_24 (by decide) ?_
  refine j_aloadn B d_Mo_step_25 rfl ?_
  refine j_getr B fl_Mo_32 (m_0) rfl d_Mo_step_26 ?_
  refine j_iloadn B d_Mo_step_29 rfl ?_
  refine j_iald B (m_7) (⟨rfl, by omega, by decide⟩) d_Mo_step_30 ?_
  refine j_istoren B d_Mo_step_31 (by decide) ?_
  refine j_aloadn B d_Mo_step_32 rfl ?_
  refine j_getr B fl_Mo_83 (m_0) rfl d_Mo_step_33 ?_
  refine j_iloadn B d_Mo_step_36 rfl ?_
  refine j_aloadn B d_Mo_step_37 rfl ?_
  refine j_getr B fl_Mo_86 (m_0) rfl d_Mo_step_38 ?_
  refine j_iloadn B d_Mo_step_41 rfl ?_
  refine j_iald B (m_25) (⟨rfl, by omega, by decide⟩) d_Mo_step_42 ?_
  refine j_topi (nI pp) hpl ?_
  refine j_iast B kM_inj (m_24) (⟨rfl, by omega, by decide⟩) d_Mo_step_43 ?_
  refine j_aloadn B d_Mo_step_44 rfl ?_
  refine j_getr B fl_Mo_86 (m_0) rfl d_Mo_step_45 ?_
  refine j_iloadn B d_Mo_step_48 rfl ?_
  refine j_dup2 B d_Mo_step_49 rfl rfl ?_
  refine j_iald B (m_25) (⟨rfl, by omega, by decide⟩) d_Mo_step_50 ?_
  refine j_topi (nI pp) (by rw [rAK (by decide)]; exact hpl) ?_
  refine j_iconst (v := 1) B d_Mo_step_51 (by decide) ?_
  refine j_iadd B d_Mo_step_52 ?_
  refine j_topi (nI (pp + 1)) (nI_1 pp) ?_
  refine j_iast B kM_inj (m_25) (⟨rfl, by omega, by decide⟩) d_Mo_step_53 ?_
  refine j_aloadn B d_Mo_step_54 rfl ?_
  refine j_getr B fl_Mo_29 (m_0) rfl d_Mo_step_55 ?_
  refine j_iloadn B d_Mo_step_58 rfl ?_
  refine j_iald B (m_6) (⟨rfl, by omega, by decide⟩) d_Mo_step_59 ?_
  refine j_topi 0 (by rw [rAK (by decide), rAK (by decide)]; exact hlt) ?_
  refine j_tabIn (tgt := 108) (off := 48) B d_Mo_step_60 (by decide) (by decide) (by decide) (by decide) ?_
  refine j_aloadn B d_Mo_step_108 rfl ?_
  refine j_iloadn B d_Mo_step_109 rfl ?_
  refine j_cVt B (hC) cv_Mo_puts ml_Mo_198 (m_0) rfl rfl ⟨rfl, rfl, by decide, by decide⟩ ⟨Nat.zero_le _, Nat.zero_le _⟩ hml (Nat.le_of_ble_eq_true rfl) rfl d_Mo_step_110 ?_
  refine j_goto (tgt := 260) B d_Mo_step_113 (by decide) ?_
  exact j_vret B hr hlk d_Mo_step_260 (rfl) (rfl)
set_option maxRecDepth 100000 in
theorem ok_Mo_step_C {l : Launch} {D : va_G} {aC : Nat → ClassId} {ad : Nat → Nat} (x : tm_M) {d g pp : Nat} (hd : x.1 (0, 0, 0) 25 = nI d) (hd0 : 0 < d) (hd8 : d ≤ 8) (hg : g < 6) (hfn : x.2 (0, 0, 23) (d - 1) = nI g) (hpl : x.2 (0, 0, 25) (d - 1) = nI pp) (hpn : pp < 128) (hlt : x.2 (0, 0, 6) (128 * g + pp) = 1) {x2 : tm_M} (hC : OkM l y_Mo_calls b_Mo_calls 2 none (rom 1 22) D aC ad [.ref (ad 0), .int (x.2 (0, 0, 7) (128 * g + pp))] (npR d pp x) none x2) :
    OkM l y_Mo_step b_Mo_step 4 none (rom 3 71) D aC ad [.ref (ad 0)] x none x2 := by
  refine ok_start (by decide) (Nat.le_of_ble_eq_true rfl) rfl ?_
  intro p e s m args below meth c B hr hlk hml
  have B : Cx p s m c args b_Mo_step R_Mo D aC (rg 30 ad) 30 ad := B
  refine j_aloadn B d_Mo_step_0 rfl ?_
  refine j_geti B fl_Mo_164 (m_0) rfl d_Mo_step_1 ?_
  refine j_iconst (v := 1) B d_Mo_step_4 (by decide) ?_
  refine j_isub B d_Mo_step_5 ?_
  refine j_topi (nI (d - 1)) (by rw [hd]; exact nIp hd0) ?_
  refine j_istoren B d_Mo_step_6 (by decide) ?_
  refine j_sipush (v := 128) B d_Mo_step_7 (by decide) ?_
  refine j_aloadn B d_Mo_step_10 rfl ?_
  refine j_getr B fl_Mo_80 (m_0) rfl d_Mo_step_11 ?_
  refine j_iloadn B d_Mo_step_14 rfl ?_
  refine j_iald B (m_23) (⟨rfl, by omega, by decide⟩) d_Mo_step_15 ?_
  refine j_topi (nI g) hfn ?_
  refine j_imul B d_Mo_step_16 ?_
  refine j_aloadn B d_Mo_step_17 rfl ?_
  refine j_getr B fl_Mo_86 (m_0) rfl d_Mo_step_18 ?_
  refine j_iloadn B d_Mo_step_21 rfl ?_
  refine j_iald B (m_25) (⟨rfl, by omega, by decide⟩) d_Mo_step_22 ?_
  refine j_topi (nI pp) hpl ?_
  refine j_iadd B d_Mo_step_23 ?_
  refine j_topi (nI (128 * g + pp)) (ixm 128 g pp) ?_
  refine j_istoren B d_Mo_step_24 (by decide) ?_
  refine j_aloadn B d_Mo_step_25 rfl ?_
  refine j_getr B fl_Mo_32 (m_0) rfl d_Mo_step_26 ?_
  refine j_iloadn B d_Mo_step_29 rfl ?_
  refine j_iald B (m_7) (⟨rfl, by omega, by decide⟩) d_Mo_step_30 ?_
  refine j_istoren B d_Mo_step_31 (by decide) ?_
  refine j_aloadn B d_Mo_step_32 rfl ?_
  refine j_getr B fl_Mo_83 (m_0) rfl d_Mo_step_33 ?_
  refine j_iloadn B d_Mo_step_36 rfl ?_
  refine j_aloadn B d_Mo_step_37 rfl ?_
  refine j_getr B fl_Mo_86 (m_0) rfl d_Mo_step_38 ?_
  refine j_iloadn B d_Mo_step_41 rfl ?_
  refine j_iald B (m_25) (⟨rfl, by omega, by decide⟩) d_Mo_step_42 ?_
  refine j_topi (nI pp) hpl ?_
  refine j_iast B kM_inj (m_24) (⟨rfl, by omega, by decide⟩) d_Mo_step_43 ?_
  refine j_aloadn B d_Mo_step_44 rfl ?_
  refine j_getr B fl_Mo_86 (m_0) rfl d_Mo_step_45 ?_
  refine j_iloadn B d_Mo_step_48 rfl ?_
  refine j_dup2 B d_Mo_step_49 rfl rfl ?_
  refine j_iald B (m_25) (⟨rfl, by omega, by decide⟩) d_Mo_step_50 ?_
  refine j_topi (nI pp) (by rw [rAK (by decide)]; exact hpl) ?_
  refine j_iconst (v := 1) B d_Mo_step_51 (by decide) ?_
  refine j_iadd B d_Mo_step_52 ?_
  refine j_topi (nI (pp + 1)) (nI_1 pp) ?_
  refine j_iast B kM_inj (m_25) (⟨rfl, by omega, by decide⟩) d_Mo_step_53 ?_
  refine j_aloadn B d_Mo_step_54 rfl ?_
  refine j_getr B fl_Mo_29 (m_0) rfl d_Mo_step_55 ?_
  refine j_iloadn B d_Mo_step_58 rfl ?_
  refine j_iald B (m_6) (⟨rfl, by omega, by decide⟩) d_Mo_step_59 ?_
  refine j_topi 1 (by rw [rAK (by decide), rAK (by decide)]; exact hlt) ?_
  refine j_tabIn (tgt := 116) (off := 56) B d_Mo_step_60 (by decide) (by decide) (by decide) (by decide) ?_
  refine j_aloadn B d_Mo_step_116 rfl ?_
  refine j_iloadn B d_Mo_step_117 rfl ?_
  refine j_cVt B (hC) cv_Mo_calls ml_Mo_201 (m_0) rfl rfl ⟨rfl, rfl, by decide, by decide⟩ ⟨Nat.zero_le _, Nat.zero_le _⟩ hml (Nat.le_of_ble_eq_true rfl) rfl d_Mo_step_118 ?_
  refine j_goto (tgt := 260) B d_Mo_step_121 (by decide) ?_
  exact j_vret B hr hlk d_Mo_step_260 (rfl) (rfl)
set_option maxRecDepth 100000 in
theorem ok_Mo_step_T {l : Launch} {D : va_G} {aC : Nat → ClassId} {ad : Nat → Nat} (x : tm_M) {d g pp : Nat} (hd : x.1 (0, 0, 0) 25 = nI d) (hd0 : 0 < d) (hd8 : d ≤ 8) (hg : g < 6) (hfn : x.2 (0, 0, 23) (d - 1) = nI g) (hpl : x.2 (0, 0, 25) (d - 1) = nI pp) (hpn : pp < 128) (hlt : x.2 (0, 0, 6) (128 * g + pp) = 2) {x2 : tm_M} (hC : OkM l y_Mo_raises b_Mo_raises 2 none (rom 2 50) D aC ad [.ref (ad 0), .int (x.2 (0, 0, 7) (128 * g + pp))] (npR d pp x) none x2) :
    OkM l y_Mo_step b_Mo_step 4 none (rom 3 71) D aC ad [.ref (ad 0)] x none x2 := by
  refine ok_start (by decide) (Nat.le_of_ble_eq_true rfl) rfl ?_
  intro p e s m args below meth c B hr hlk hml
  have B : Cx p s m c args b_Mo_step R_Mo D aC (rg 30 ad) 30 ad := B
  refine j_aloadn B d_Mo_step_0 rfl ?_
  refine j_geti B fl_Mo_164 (m_0) rfl d_Mo_step_1 ?_
  refine j_iconst (v := 1) B d_Mo_step_4 (by decide) ?_
  refine j_isub B d_Mo_step_5 ?_
  refine j_topi (nI (d - 1)) (by rw [hd]; exact nIp hd0) ?_
  refine j_istoren B d_Mo_step_6 (by decide) ?_
  refine j_sipush (v := 128) B d_Mo_step_7 (by decide) ?_
  refine j_aloadn B d_Mo_step_10 rfl ?_
  refine j_getr B fl_Mo_80 (m_0) rfl d_Mo_step_11 ?_
  refine j_iloadn B d_Mo_step_14 rfl ?_
  refine j_iald B (m_23) (⟨rfl, by omega, by decide⟩) d_Mo_step_15 ?_
  refine j_topi (nI g) hfn ?_
  refine j_imul B d_Mo_step_16 ?_
  refine j_aloadn B d_Mo_step_17 rfl ?_
  refine j_getr B fl_Mo_86 (m_0) rfl d_Mo_step_18 ?_
  refine j_iloadn B d_Mo_step_21 rfl ?_
  refine j_iald B (m_25) (⟨rfl, by omega, by decide⟩) d_Mo_step_22 ?_
  refine j_topi (nI pp) hpl ?_
  refine j_iadd B d_Mo_step_23 ?_
  refine j_topi (nI (128 * g + pp)) (ixm 128 g pp) ?_
  refine j_istoren B d_Mo_step_24 (by decide) ?_
  refine j_aloadn B d_Mo_step_25 rfl ?_
  refine j_getr B fl_Mo_32 (m_0) rfl d_Mo_step_26 ?_
  refine j_iloadn B d_Mo_step_29 rfl ?_
  refine j_iald B (m_7) (⟨rfl, by omega, by decide⟩) d_Mo_step_30 ?_
  refine j_istoren B d_Mo_step_31 (by decide) ?_
  refine j_aloadn B d_Mo_step_32 rfl ?_
  refine j_getr B fl_Mo_83 (m_0) rfl d_Mo_step_33 ?_
  refine j_iloadn B d_Mo_step_36 rfl ?_
  refine j_aloadn B d_Mo_step_37 rfl ?_
  refine j_getr B fl_Mo_86 (m_0) rfl d_Mo_step_38 ?_
  refine j_iloadn B d_Mo_step_41 rfl ?_
  refine j_iald B (m_25) (⟨rfl, by omega, by decide⟩) d_Mo_step_42 ?_
  refine j_topi (nI pp) hpl ?_
  refine j_iast B kM_inj (m_24) (⟨rfl, by omega, by decide⟩) d_Mo_step_43 ?_
  refine j_aloadn B d_Mo_step_44 rfl ?_
  refine j_getr B fl_Mo_86 (m_0) rfl d_Mo_step_45 ?_
  refine j_iloadn B d_Mo_step_48 rfl ?_
  refine j_dup2 B d_Mo_step_49 rfl rfl ?_
  refine j_iald B (m_25) (⟨rfl, by omega, by decide⟩) d_Mo_step_50 ?_
  refine j_topi (nI pp) (by rw [rAK (by decide)]; exact hpl) ?_
  refine j_iconst (v := 1) B d_Mo_step_51 (by decide) ?_
  refine j_iadd B d_Mo_step_52 ?_
  refine j_topi (nI (pp + 1)) (nI_1 pp) ?_
  refine j_iast B kM_inj (m_25) (⟨rfl, by omega, by decide⟩) d_Mo_step_53 ?_
  refine j_aloadn B d_Mo_step_54 rfl ?_
  refine j_getr B fl_Mo_29 (m_0) rfl d_Mo_step_55 ?_
  refine j_iloadn B d_Mo_step_58 rfl ?_
  refine j_iald B (m_6) (⟨rfl, by omega, by decide⟩) d_Mo_step_59 ?_
  refine j_topi 2 (by rw [rAK (by decide), rAK (by decide)]; exact hlt) ?_
  refine j_tabIn (tgt := 124) (off := 64) B d_Mo_step_60 (by decide) (by decide) (by decide) (by decide) ?_
  refine j_aloadn B d_Mo_step_124 rfl ?_
  refine j_iloadn B d_Mo_step_125 rfl ?_
  refine j_cVt B (hC) cv_Mo_raises ml_Mo_204 (m_0) rfl rfl ⟨rfl, rfl, by decide, by decide⟩ ⟨Nat.zero_le _, Nat.zero_le _⟩ hml (Nat.le_of_ble_eq_true rfl) rfl d_Mo_step_126 ?_
  refine j_goto (tgt := 260) B d_Mo_step_129 (by decide) ?_
  exact j_vret B hr hlk d_Mo_step_260 (rfl) (rfl)
set_option maxRecDepth 100000 in
theorem ok_Mo_step_R {l : Launch} {D : va_G} {aC : Nat → ClassId} {ad : Nat → Nat} (x : tm_M) {d g pp : Nat} (hd : x.1 (0, 0, 0) 25 = nI d) (hd0 : 0 < d) (hd8 : d ≤ 8) (hg : g < 6) (hfn : x.2 (0, 0, 23) (d - 1) = nI g) (hpl : x.2 (0, 0, 25) (d - 1) = nI pp) (hpn : pp < 128) (hlt : x.2 (0, 0, 6) (128 * g + pp) = 3) {t : Nat} (hct : x.2 (0, 0, 26) (d - 1) = nI (t + 1)) (h24 : t < 24) {x2 : tm_M} (hC : OkM l y_Mo_raises b_Mo_raises 2 none (rom 2 50) D aC ad [.ref (ad 0), .int (x.2 (0, 0, 27) (24 * (d - 1) + t))] (npR d pp x) none x2) :
    OkM l y_Mo_step b_Mo_step 4 none (rom 3 71) D aC ad [.ref (ad 0)] x none x2 := by
  refine ok_start (by decide) (Nat.le_of_ble_eq_true rfl) rfl ?_
  intro p e s m args below meth c B hr hlk hml
  have B : Cx p s m c args b_Mo_step R_Mo D aC (rg 30 ad) 30 ad := B
  refine j_aloadn B d_Mo_step_0 rfl ?_
  refine j_geti B fl_Mo_164 (m_0) rfl d_Mo_step_1 ?_
  refine j_iconst (v := 1) B d_Mo_step_4 (by decide) ?_
  refine j_isub B d_Mo_step_5 ?_
  refine j_topi (nI (d - 1)) (by rw [hd]; exact nIp hd0) ?_
  refine j_istoren B d_Mo_step_6 (by decide) ?_
  refine j_sipush (v := 128) B d_Mo_step_7 (by decide) ?_
  refine j_aloadn B d_Mo_step_10 rfl ?_
  refine j_getr B fl_Mo_80 (m_0) rfl d_Mo_step_11 ?_
  refine j_iloadn B d_Mo_step_14 rfl ?_
  refine j_iald B (m_23) (⟨rfl, by omega, by decide⟩) d_Mo_step_15 ?_
  refine j_topi (nI g) hfn ?_
  refine j_imul B d_Mo_step_16 ?_
  refine j_aloadn B d_Mo_step_17 rfl ?_
  refine j_getr B fl_Mo_86 (m_0) rfl d_Mo_step_18 ?_
  refine j_iloadn B d_Mo_step_21 rfl ?_
  refine j_iald B (m_25) (⟨rfl, by omega, by decide⟩) d_Mo_step_22 ?_
  refine j_topi (nI pp) hpl ?_
  refine j_iadd B d_Mo_step_23 ?_
  refine j_topi (nI (128 * g + pp)) (ixm 128 g pp) ?_
  refine j_istoren B d_Mo_step_24 (by decide) ?_
  refine j_aloadn B d_Mo_step_25 rfl ?_
  refine j_getr B fl_Mo_32 (m_0) rfl d_Mo_step_26 ?_
  refine j_iloadn B d_Mo_step_29 rfl ?_
  refine j_iald B (m_7) (⟨rfl, by omega, by decide⟩) d_Mo_step_30 ?_
  refine j_istoren B d_Mo_step_31 (by decide) ?_
  refine j_aloadn B d_Mo_step_32 rfl ?_
  refine j_getr B fl_Mo_83 (m_0) rfl d_Mo_step_33 ?_
  refine j_iloadn B d_Mo_step_36 rfl ?_
  refine j_aloadn B d_Mo_step_37 rfl ?_
  refine j_getr B fl_Mo_86 (m_0) rfl d_Mo_step_38 ?_
  refine j_iloadn B d_Mo_step_41 rfl ?_
  refine j_iald B (m_25) (⟨rfl, by omega, by decide⟩) d_Mo_step_42 ?_
  refine j_topi (nI pp) hpl ?_
  refine j_iast B kM_inj (m_24) (⟨rfl, by omega, by decide⟩) d_Mo_step_43 ?_
  refine j_aloadn B d_Mo_step_44 rfl ?_
  refine j_getr B fl_Mo_86 (m_0) rfl d_Mo_step_45 ?_
  refine j_iloadn B d_Mo_step_48 rfl ?_
  refine j_dup2 B d_Mo_step_49 rfl rfl ?_
  refine j_iald B (m_25) (⟨rfl, by omega, by decide⟩) d_Mo_step_50 ?_
  refine j_topi (nI pp) (by rw [rAK (by decide)]; exact hpl) ?_
  refine j_iconst (v := 1) B d_Mo_step_51 (by decide) ?_
  refine j_iadd B d_Mo_step_52 ?_
  refine j_topi (nI (pp + 1)) (nI_1 pp) ?_
  refine j_iast B kM_inj (m_25) (⟨rfl, by omega, by decide⟩) d_Mo_step_53 ?_
  refine j_aloadn B d_Mo_step_54 rfl ?_
  refine j_getr B fl_Mo_29 (m_0) rfl d_Mo_step_55 ?_
  refine j_iloadn B d_Mo_step_58 rfl ?_
  refine j_iald B (m_6) (⟨rfl, by omega, by decide⟩) d_Mo_step_59 ?_
  refine j_topi 3 (by rw [rAK (by decide), rAK (by decide)]; exact hlt) ?_
  refine j_tabIn (tgt := 132) (off := 72) B d_Mo_step_60 (by decide) (by decide) (by decide) (by decide) ?_
  refine j_aloadn B d_Mo_step_132 rfl ?_
  refine j_aloadn B d_Mo_step_133 rfl ?_
  refine j_getr B fl_Mo_92 (m_0) rfl d_Mo_step_134 ?_
  refine j_bipush (v := 24) B d_Mo_step_137 (by decide) ?_
  refine j_iloadn B d_Mo_step_139 rfl ?_
  refine j_imul B d_Mo_step_140 ?_
  refine j_topi (nI (24 * (d - 1))) (pk_mul 24 _) ?_
  refine j_aloadn B d_Mo_step_141 rfl ?_
  refine j_getr B fl_Mo_89 (m_0) rfl d_Mo_step_142 ?_
  refine j_iloadn B d_Mo_step_145 rfl ?_
  refine j_iald B (m_26) (⟨rfl, by omega, by decide⟩) d_Mo_step_146 ?_
  refine j_topi (nI (t + 1)) (by rw [rAK (by decide), rAK (by decide)]; exact hct) ?_
  refine j_iadd B d_Mo_step_147 ?_
  refine j_iconst (v := 1) B d_Mo_step_148 (by decide) ?_
  refine j_isub B d_Mo_step_149 ?_
  refine j_iald B (m_27) (⟨(by rw [nI_add]; exact nI_pred (24 * (d - 1) + t) : _ = nI (24 * (d - 1) + t)), by omega, by decide⟩) d_Mo_step_150 ?_
  refine j_topi (x.2 (0, 0, 27) (24 * (d - 1) + t)) (by rw [rAK (by decide), rAK (by decide)]) ?_
  refine j_cVt B (hC) cv_Mo_raises ml_Mo_204 (m_0) rfl rfl ⟨rfl, rfl, by decide, by decide⟩ ⟨Nat.zero_le _, Nat.zero_le _⟩ hml (Nat.le_of_ble_eq_true rfl) rfl d_Mo_step_151 ?_
  refine j_goto (tgt := 260) B d_Mo_step_154 (by decide) ?_
  exact j_vret B hr hlk d_Mo_step_260 (rfl) (rfl)
set_option maxRecDepth 100000 in
theorem ok_Mo_step_G {l : Launch} {D : va_G} {aC : Nat → ClassId} {ad : Nat → Nat} (x : tm_M) {d g pp : Nat} (hd : x.1 (0, 0, 0) 25 = nI d) (hd0 : 0 < d) (hd8 : d ≤ 8) (hg : g < 6) (hfn : x.2 (0, 0, 23) (d - 1) = nI g) (hpl : x.2 (0, 0, 25) (d - 1) = nI pp) (hpn : pp < 128) (hlt : x.2 (0, 0, 6) (128 * g + pp) = 4)  :
    OkM l y_Mo_step b_Mo_step 4 none (rom 3 71) D aC ad [.ref (ad 0)] x none (sA (npR d pp x) (0, 0, 25) (d - 1) (x.2 (0, 0, 7) (128 * g + pp))) := by
  refine ok_start (by decide) (Nat.le_of_ble_eq_true rfl) rfl ?_
  intro p e s m args below meth c B hr hlk hml
  have B : Cx p s m c args b_Mo_step R_Mo D aC (rg 30 ad) 30 ad := B
  refine j_aloadn B d_Mo_step_0 rfl ?_
  refine j_geti B fl_Mo_164 (m_0) rfl d_Mo_step_1 ?_
  refine j_iconst (v := 1) B d_Mo_step_4 (by decide) ?_
  refine j_isub B d_Mo_step_5 ?_
  refine j_topi (nI (d - 1)) (by rw [hd]; exact nIp hd0) ?_
  refine j_istoren B d_Mo_step_6 (by decide) ?_
  refine j_sipush (v := 128) B d_Mo_step_7 (by decide) ?_
  refine j_aloadn B d_Mo_step_10 rfl ?_
  refine j_getr B fl_Mo_80 (m_0) rfl d_Mo_step_11 ?_
  refine j_iloadn B d_Mo_step_14 rfl ?_
  refine j_iald B (m_23) (⟨rfl, by omega, by decide⟩) d_Mo_step_15 ?_
  refine j_topi (nI g) hfn ?_
  refine j_imul B d_Mo_step_16 ?_
  refine j_aloadn B d_Mo_step_17 rfl ?_
  refine j_getr B fl_Mo_86 (m_0) rfl d_Mo_step_18 ?_
  refine j_iloadn B d_Mo_step_21 rfl ?_
  refine j_iald B (m_25) (⟨rfl, by omega, by decide⟩) d_Mo_step_22 ?_
  refine j_topi (nI pp) hpl ?_
  refine j_iadd B d_Mo_step_23 ?_
  refine j_topi (nI (128 * g + pp)) (ixm 128 g pp) ?_
  refine j_istoren B d_Mo_step_24 (by decide) ?_
  refine j_aloadn B d_Mo_step_25 rfl ?_
  refine j_getr B fl_Mo_32 (m_0) rfl d_Mo_step_26 ?_
  refine j_iloadn B d_Mo_step_29 rfl ?_
  refine j_iald B (m_7) (⟨rfl, by omega, by decide⟩) d_Mo_step_30 ?_
  refine j_istoren B d_Mo_step_31 (by decide) ?_
  refine j_aloadn B d_Mo_step_32 rfl ?_
  refine j_getr B fl_Mo_83 (m_0) rfl d_Mo_step_33 ?_
  refine j_iloadn B d_Mo_step_36 rfl ?_
  refine j_aloadn B d_Mo_step_37 rfl ?_
  refine j_getr B fl_Mo_86 (m_0) rfl d_Mo_step_38 ?_
  refine j_iloadn B d_Mo_step_41 rfl ?_
  refine j_iald B (m_25) (⟨rfl, by omega, by decide⟩) d_Mo_step_42 ?_
  refine j_topi (nI pp) hpl ?_
  refine j_iast B kM_inj (m_24) (⟨rfl, by omega, by decide⟩) d_Mo_step_43 ?_
  refine j_aloadn B d_Mo_step_44 rfl ?_
  refine j_getr B fl_Mo_86 (m_0) rfl d_Mo_step_45 ?_
  refine j_iloadn B d_Mo_step_48 rfl ?_
  refine j_dup2 B d_Mo_step_49 rfl rfl ?_
  refine j_iald B (m_25) (⟨rfl, by omega, by decide⟩) d_Mo_step_50 ?_
  refine j_topi (nI pp) (by rw [rAK (by decide)]; exact hpl) ?_
  refine j_iconst (v := 1) B d_Mo_step_51 (by decide) ?_
  refine j_iadd B d_Mo_step_52 ?_
  refine j_topi (nI (pp + 1)) (nI_1 pp) ?_
  refine j_iast B kM_inj (m_25) (⟨rfl, by omega, by decide⟩) d_Mo_step_53 ?_
  refine j_aloadn B d_Mo_step_54 rfl ?_
  refine j_getr B fl_Mo_29 (m_0) rfl d_Mo_step_55 ?_
  refine j_iloadn B d_Mo_step_58 rfl ?_
  refine j_iald B (m_6) (⟨rfl, by omega, by decide⟩) d_Mo_step_59 ?_
  refine j_topi 4 (by rw [rAK (by decide), rAK (by decide)]; exact hlt) ?_
  refine j_tabIn (tgt := 157) (off := 97) B d_Mo_step_60 (by decide) (by decide) (by decide) (by decide) ?_
  refine j_aloadn B d_Mo_step_157 rfl ?_
  refine j_getr B fl_Mo_86 (m_0) rfl d_Mo_step_158 ?_
  refine j_iloadn B d_Mo_step_161 rfl ?_
  refine j_iloadn B d_Mo_step_162 rfl ?_
  refine j_iast B kM_inj (m_25) (⟨rfl, by omega, by decide⟩) d_Mo_step_163 ?_
  refine j_goto (tgt := 260) B d_Mo_step_164 (by decide) ?_
  exact j_vret B hr hlk d_Mo_step_260 (rfl) (rfl)
set_option maxRecDepth 100000 in
theorem ok_Mo_step_D {l : Launch} {D : va_G} {aC : Nat → ClassId} {ad : Nat → Nat} (x : tm_M) {d g pp : Nat} (hd : x.1 (0, 0, 0) 25 = nI d) (hd0 : 0 < d) (hd8 : d ≤ 8) (hg : g < 6) (hfn : x.2 (0, 0, 23) (d - 1) = nI g) (hpl : x.2 (0, 0, 25) (d - 1) = nI pp) (hpn : pp < 128) (hlt : x.2 (0, 0, 6) (128 * g + pp) = 5) {x2 : tm_M} (hC : OkM l y_Mo_puts b_Mo_puts 2 none (rom 0 0) D aC ad [.ref (ad 0), .int (100 + (x.2 (0, 0, 7) (128 * g + pp)))] (npR d pp x) none x2) :
    OkM l y_Mo_step b_Mo_step 4 none (rom 3 71) D aC ad [.ref (ad 0)] x none (sA x2 (0, 0, 28) 2 (x2.2 (0, 0, 28) 2 + (if x2.1 (0, 0, 0) 35 < 0 then 1 else 0))) := by
  refine ok_start (by decide) (Nat.le_of_ble_eq_true rfl) rfl ?_
  intro p e s m args below meth c B hr hlk hml
  have B : Cx p s m c args b_Mo_step R_Mo D aC (rg 30 ad) 30 ad := B
  refine j_aloadn B d_Mo_step_0 rfl ?_
  refine j_geti B fl_Mo_164 (m_0) rfl d_Mo_step_1 ?_
  refine j_iconst (v := 1) B d_Mo_step_4 (by decide) ?_
  refine j_isub B d_Mo_step_5 ?_
  refine j_topi (nI (d - 1)) (by rw [hd]; exact nIp hd0) ?_
  refine j_istoren B d_Mo_step_6 (by decide) ?_
  refine j_sipush (v := 128) B d_Mo_step_7 (by decide) ?_
  refine j_aloadn B d_Mo_step_10 rfl ?_
  refine j_getr B fl_Mo_80 (m_0) rfl d_Mo_step_11 ?_
  refine j_iloadn B d_Mo_step_14 rfl ?_
  refine j_iald B (m_23) (⟨rfl, by omega, by decide⟩) d_Mo_step_15 ?_
  refine j_topi (nI g) hfn ?_
  refine j_imul B d_Mo_step_16 ?_
  refine j_aloadn B d_Mo_step_17 rfl ?_
  refine j_getr B fl_Mo_86 (m_0) rfl d_Mo_step_18 ?_
  refine j_iloadn B d_Mo_step_21 rfl ?_
  refine j_iald B (m_25) (⟨rfl, by omega, by decide⟩) d_Mo_step_22 ?_
  refine j_topi (nI pp) hpl ?_
  refine j_iadd B d_Mo_step_23 ?_
  refine j_topi (nI (128 * g + pp)) (ixm 128 g pp) ?_
  refine j_istoren B d_Mo_step_24 (by decide) ?_
  refine j_aloadn B d_Mo_step_25 rfl ?_
  refine j_getr B fl_Mo_32 (m_0) rfl d_Mo_step_26 ?_
  refine j_iloadn B d_Mo_step_29 rfl ?_
  refine j_iald B (m_7) (⟨rfl, by omega, by decide⟩) d_Mo_step_30 ?_
  refine j_istoren B d_Mo_step_31 (by decide) ?_
  refine j_aloadn B d_Mo_step_32 rfl ?_
  refine j_getr B fl_Mo_83 (m_0) rfl d_Mo_step_33 ?_
  refine j_iloadn B d_Mo_step_36 rfl ?_
  refine j_aloadn B d_Mo_step_37 rfl ?_
  refine j_getr B fl_Mo_86 (m_0) rfl d_Mo_step_38 ?_
  refine j_iloadn B d_Mo_step_41 rfl ?_
  refine j_iald B (m_25) (⟨rfl, by omega, by decide⟩) d_Mo_step_42 ?_
  refine j_topi (nI pp) hpl ?_
  refine j_iast B kM_inj (m_24) (⟨rfl, by omega, by decide⟩) d_Mo_step_43 ?_
  refine j_aloadn B d_Mo_step_44 rfl ?_
  refine j_getr B fl_Mo_86 (m_0) rfl d_Mo_step_45 ?_
  refine j_iloadn B d_Mo_step_48 rfl ?_
  refine j_dup2 B d_Mo_step_49 rfl rfl ?_
  refine j_iald B (m_25) (⟨rfl, by omega, by decide⟩) d_Mo_step_50 ?_
  refine j_topi (nI pp) (by rw [rAK (by decide)]; exact hpl) ?_
  refine j_iconst (v := 1) B d_Mo_step_51 (by decide) ?_
  refine j_iadd B d_Mo_step_52 ?_
  refine j_topi (nI (pp + 1)) (nI_1 pp) ?_
  refine j_iast B kM_inj (m_25) (⟨rfl, by omega, by decide⟩) d_Mo_step_53 ?_
  refine j_aloadn B d_Mo_step_54 rfl ?_
  refine j_getr B fl_Mo_29 (m_0) rfl d_Mo_step_55 ?_
  refine j_iloadn B d_Mo_step_58 rfl ?_
  refine j_iald B (m_6) (⟨rfl, by omega, by decide⟩) d_Mo_step_59 ?_
  refine j_topi 5 (by rw [rAK (by decide), rAK (by decide)]; exact hlt) ?_
  refine j_tabIn (tgt := 167) (off := 107) B d_Mo_step_60 (by decide) (by decide) (by decide) (by decide) ?_
  refine j_aloadn B d_Mo_step_167 rfl ?_
  refine j_bipush (v := 100) B d_Mo_step_168 (by decide) ?_
  refine j_iloadn B d_Mo_step_170 rfl ?_
  refine j_iadd B d_Mo_step_171 ?_
  refine j_cVt B (hC) cv_Mo_puts ml_Mo_198 (m_0) rfl rfl ⟨rfl, rfl, by decide, by decide⟩ ⟨Nat.zero_le _, Nat.zero_le _⟩ hml (Nat.le_of_ble_eq_true rfl) rfl d_Mo_step_172 ?_
  refine j_aloadn B d_Mo_step_175 rfl ?_
  refine j_getr B fl_Mo_95 (m_0) rfl d_Mo_step_176 ?_
  refine j_iconst (v := 2) B d_Mo_step_179 (by decide) ?_
  refine j_dup2 B d_Mo_step_180 rfl rfl ?_
  refine j_iald B (m_28) (⟨(rfl : (2 : Int32) = nI 2), by decide, by decide⟩) d_Mo_step_181 ?_
  refine j_aloadn B d_Mo_step_182 rfl ?_
  refine j_geti B fl_Mo_189 (m_0) rfl d_Mo_step_183 ?_
  refine j_if_ge (tgt := 193) B d_Mo_step_186 (by decide) (fun h186 => ?_) (fun h186 => ?_)
  · -- yes
    refine j_iconst (v := 0) B d_Mo_step_193 (by decide) ?_
    refine j_iadd B d_Mo_step_194 ?_
    refine j_iast B kM_inj (m_28) (⟨(rfl : (2 : Int32) = nI 2), by decide, by decide⟩) d_Mo_step_195 ?_
    refine j_goto (tgt := 260) B d_Mo_step_196 (by decide) ?_
    exact j_vret B hr hlk d_Mo_step_260 (rfl) (by first | (rw [if_pos (Int32.not_le.mp h186)]) | (rw [if_neg (Int32.not_lt.mpr h186)]))
  · -- no
    refine j_iconst (v := 1) B d_Mo_step_189 (by decide) ?_
    refine j_goto (tgt := 194) B d_Mo_step_190 (by decide) ?_
    refine j_iadd B d_Mo_step_194 ?_
    refine j_iast B kM_inj (m_28) (⟨(rfl : (2 : Int32) = nI 2), by decide, by decide⟩) d_Mo_step_195 ?_
    refine j_goto (tgt := 260) B d_Mo_step_196 (by decide) ?_
    exact j_vret B hr hlk d_Mo_step_260 (rfl) (by first | (rw [if_pos (Int32.not_le.mp h186)]) | (rw [if_neg (Int32.not_lt.mpr h186)]))
set_option maxRecDepth 100000 in
theorem ok_Mo_step_E {l : Launch} {D : va_G} {aC : Nat → ClassId} {ad : Nat → Nat} (x : tm_M) {d g pp : Nat} (hd : x.1 (0, 0, 0) 25 = nI d) (hd0 : 0 < d) (hd8 : d ≤ 8) (hg : g < 6) (hfn : x.2 (0, 0, 23) (d - 1) = nI g) (hpl : x.2 (0, 0, 25) (d - 1) = nI pp) (hpn : pp < 128) (hlt : x.2 (0, 0, 6) (128 * g + pp) = 6) {t : Nat} (hct : x.2 (0, 0, 26) (d - 1) = nI (t + 1)) (h24 : t < 24) :
    OkM l y_Mo_step b_Mo_step 4 none (rom 3 71) D aC ad [.ref (ad 0)] x none (sA (npR d pp x) (0, 0, 26) (d - 1) (nI t)) := by
  refine ok_start (by decide) (Nat.le_of_ble_eq_true rfl) rfl ?_
  intro p e s m args below meth c B hr hlk hml
  have B : Cx p s m c args b_Mo_step R_Mo D aC (rg 30 ad) 30 ad := B
  refine j_aloadn B d_Mo_step_0 rfl ?_
  refine j_geti B fl_Mo_164 (m_0) rfl d_Mo_step_1 ?_
  refine j_iconst (v := 1) B d_Mo_step_4 (by decide) ?_
  refine j_isub B d_Mo_step_5 ?_
  refine j_topi (nI (d - 1)) (by rw [hd]; exact nIp hd0) ?_
  refine j_istoren B d_Mo_step_6 (by decide) ?_
  refine j_sipush (v := 128) B d_Mo_step_7 (by decide) ?_
  refine j_aloadn B d_Mo_step_10 rfl ?_
  refine j_getr B fl_Mo_80 (m_0) rfl d_Mo_step_11 ?_
  refine j_iloadn B d_Mo_step_14 rfl ?_
  refine j_iald B (m_23) (⟨rfl, by omega, by decide⟩) d_Mo_step_15 ?_
  refine j_topi (nI g) hfn ?_
  refine j_imul B d_Mo_step_16 ?_
  refine j_aloadn B d_Mo_step_17 rfl ?_
  refine j_getr B fl_Mo_86 (m_0) rfl d_Mo_step_18 ?_
  refine j_iloadn B d_Mo_step_21 rfl ?_
  refine j_iald B (m_25) (⟨rfl, by omega, by decide⟩) d_Mo_step_22 ?_
  refine j_topi (nI pp) hpl ?_
  refine j_iadd B d_Mo_step_23 ?_
  refine j_topi (nI (128 * g + pp)) (ixm 128 g pp) ?_
  refine j_istoren B d_Mo_step_24 (by decide) ?_
  refine j_aloadn B d_Mo_step_25 rfl ?_
  refine j_getr B fl_Mo_32 (m_0) rfl d_Mo_step_26 ?_
  refine j_iloadn B d_Mo_step_29 rfl ?_
  refine j_iald B (m_7) (⟨rfl, by omega, by decide⟩) d_Mo_step_30 ?_
  refine j_istoren B d_Mo_step_31 (by decide) ?_
  refine j_aloadn B d_Mo_step_32 rfl ?_
  refine j_getr B fl_Mo_83 (m_0) rfl d_Mo_step_33 ?_
  refine j_iloadn B d_Mo_step_36 rfl ?_
  refine j_aloadn B d_Mo_step_37 rfl ?_
  refine j_getr B fl_Mo_86 (m_0) rfl d_Mo_step_38 ?_
  refine j_iloadn B d_Mo_step_41 rfl ?_
  refine j_iald B (m_25) (⟨rfl, by omega, by decide⟩) d_Mo_step_42 ?_
  refine j_topi (nI pp) hpl ?_
  refine j_iast B kM_inj (m_24) (⟨rfl, by omega, by decide⟩) d_Mo_step_43 ?_
  refine j_aloadn B d_Mo_step_44 rfl ?_
  refine j_getr B fl_Mo_86 (m_0) rfl d_Mo_step_45 ?_
  refine j_iloadn B d_Mo_step_48 rfl ?_
  refine j_dup2 B d_Mo_step_49 rfl rfl ?_
  refine j_iald B (m_25) (⟨rfl, by omega, by decide⟩) d_Mo_step_50 ?_
  refine j_topi (nI pp) (by rw [rAK (by decide)]; exact hpl) ?_
  refine j_iconst (v := 1) B d_Mo_step_51 (by decide) ?_
  refine j_iadd B d_Mo_step_52 ?_
  refine j_topi (nI (pp + 1)) (nI_1 pp) ?_
  refine j_iast B kM_inj (m_25) (⟨rfl, by omega, by decide⟩) d_Mo_step_53 ?_
  refine j_aloadn B d_Mo_step_54 rfl ?_
  refine j_getr B fl_Mo_29 (m_0) rfl d_Mo_step_55 ?_
  refine j_iloadn B d_Mo_step_58 rfl ?_
  refine j_iald B (m_6) (⟨rfl, by omega, by decide⟩) d_Mo_step_59 ?_
  refine j_topi 6 (by rw [rAK (by decide), rAK (by decide)]; exact hlt) ?_
  refine j_tabIn (tgt := 199) (off := 139) B d_Mo_step_60 (by decide) (by decide) (by decide) (by decide) ?_
  refine j_aloadn B d_Mo_step_199 rfl ?_
  refine j_getr B fl_Mo_89 (m_0) rfl d_Mo_step_200 ?_
  refine j_iloadn B d_Mo_step_203 rfl ?_
  refine j_dup2 B d_Mo_step_204 rfl rfl ?_
  refine j_iald B (m_26) (⟨rfl, by omega, by decide⟩) d_Mo_step_205 ?_
  refine j_iconst (v := 1) B d_Mo_step_206 (by decide) ?_
  refine j_isub B d_Mo_step_207 ?_
  refine j_topi (nI t) (by rw [rAK (by decide), rAK (by decide), hct]; exact nI_pred t) ?_
  refine j_iast B kM_inj (m_26) (⟨rfl, by omega, by decide⟩) d_Mo_step_208 ?_
  refine j_goto (tgt := 260) B d_Mo_step_209 (by decide) ?_
  exact j_vret B hr hlk d_Mo_step_260 (rfl) (rfl)
set_option maxRecDepth 100000 in
theorem ok_Mo_step_U {l : Launch} {D : va_G} {aC : Nat → ClassId} {ad : Nat → Nat} (x : tm_M) {d g pp : Nat} (hd : x.1 (0, 0, 0) 25 = nI d) (hd0 : 0 < d) (hd8 : d ≤ 8) (hg : g < 6) (hfn : x.2 (0, 0, 23) (d - 1) = nI g) (hpl : x.2 (0, 0, 25) (d - 1) = nI pp) (hpn : pp < 128) (hlt : x.2 (0, 0, 6) (128 * g + pp) = 7) {b : Nat} (hla : x.1 (0, 0, 0) 34 = nI b) (hb : b < 48) {x2 : tm_M} (hC : OkM l y_Mo_unwinds b_Mo_unwinds 6 none (rom 1 25) D aC ad [.ref (ad 0), .int (x.2 (0, 0, 12) (48 * g + b))] (npR d pp x) none x2) :
    OkM l y_Mo_step b_Mo_step 4 none (rom 3 71) D aC ad [.ref (ad 0)] x none x2 := by
  refine ok_start (by decide) (Nat.le_of_ble_eq_true rfl) rfl ?_
  intro p e s m args below meth c B hr hlk hml
  have B : Cx p s m c args b_Mo_step R_Mo D aC (rg 30 ad) 30 ad := B
  refine j_aloadn B d_Mo_step_0 rfl ?_
  refine j_geti B fl_Mo_164 (m_0) rfl d_Mo_step_1 ?_
  refine j_iconst (v := 1) B d_Mo_step_4 (by decide) ?_
  refine j_isub B d_Mo_step_5 ?_
  refine j_topi (nI (d - 1)) (by rw [hd]; exact nIp hd0) ?_
  refine j_istoren B d_Mo_step_6 (by decide) ?_
  refine j_sipush (v := 128) B d_Mo_step_7 (by decide) ?_
  refine j_aloadn B d_Mo_step_10 rfl ?_
  refine j_getr B fl_Mo_80 (m_0) rfl d_Mo_step_11 ?_
  refine j_iloadn B d_Mo_step_14 rfl ?_
  refine j_iald B (m_23) (⟨rfl, by omega, by decide⟩) d_Mo_step_15 ?_
  refine j_topi (nI g) hfn ?_
  refine j_imul B d_Mo_step_16 ?_
  refine j_aloadn B d_Mo_step_17 rfl ?_
  refine j_getr B fl_Mo_86 (m_0) rfl d_Mo_step_18 ?_
  refine j_iloadn B d_Mo_step_21 rfl ?_
  refine j_iald B (m_25) (⟨rfl, by omega, by decide⟩) d_Mo_step_22 ?_
  refine j_topi (nI pp) hpl ?_
  refine j_iadd B d_Mo_step_23 ?_
  refine j_topi (nI (128 * g + pp)) (ixm 128 g pp) ?_
  refine j_istoren B d_Mo_step_24 (by decide) ?_
  refine j_aloadn B d_Mo_step_25 rfl ?_
  refine j_getr B fl_Mo_32 (m_0) rfl d_Mo_step_26 ?_
  refine j_iloadn B d_Mo_step_29 rfl ?_
  refine j_iald B (m_7) (⟨rfl, by omega, by decide⟩) d_Mo_step_30 ?_
  refine j_istoren B d_Mo_step_31 (by decide) ?_
  refine j_aloadn B d_Mo_step_32 rfl ?_
  refine j_getr B fl_Mo_83 (m_0) rfl d_Mo_step_33 ?_
  refine j_iloadn B d_Mo_step_36 rfl ?_
  refine j_aloadn B d_Mo_step_37 rfl ?_
  refine j_getr B fl_Mo_86 (m_0) rfl d_Mo_step_38 ?_
  refine j_iloadn B d_Mo_step_41 rfl ?_
  refine j_iald B (m_25) (⟨rfl, by omega, by decide⟩) d_Mo_step_42 ?_
  refine j_topi (nI pp) hpl ?_
  refine j_iast B kM_inj (m_24) (⟨rfl, by omega, by decide⟩) d_Mo_step_43 ?_
  refine j_aloadn B d_Mo_step_44 rfl ?_
  refine j_getr B fl_Mo_86 (m_0) rfl d_Mo_step_45 ?_
  refine j_iloadn B d_Mo_step_48 rfl ?_
  refine j_dup2 B d_Mo_step_49 rfl rfl ?_
  refine j_iald B (m_25) (⟨rfl, by omega, by decide⟩) d_Mo_step_50 ?_
  refine j_topi (nI pp) (by rw [rAK (by decide)]; exact hpl) ?_
  refine j_iconst (v := 1) B d_Mo_step_51 (by decide) ?_
  refine j_iadd B d_Mo_step_52 ?_
  refine j_topi (nI (pp + 1)) (nI_1 pp) ?_
  refine j_iast B kM_inj (m_25) (⟨rfl, by omega, by decide⟩) d_Mo_step_53 ?_
  refine j_aloadn B d_Mo_step_54 rfl ?_
  refine j_getr B fl_Mo_29 (m_0) rfl d_Mo_step_55 ?_
  refine j_iloadn B d_Mo_step_58 rfl ?_
  refine j_iald B (m_6) (⟨rfl, by omega, by decide⟩) d_Mo_step_59 ?_
  refine j_topi 7 (by rw [rAK (by decide), rAK (by decide)]; exact hlt) ?_
  refine j_tabIn (tgt := 212) (off := 152) B d_Mo_step_60 (by decide) (by decide) (by decide) (by decide) ?_
  refine j_aloadn B d_Mo_step_212 rfl ?_
  refine j_aloadn B d_Mo_step_213 rfl ?_
  refine j_getr B fl_Mo_47 (m_0) rfl d_Mo_step_214 ?_
  refine j_bipush (v := 48) B d_Mo_step_217 (by decide) ?_
  refine j_aloadn B d_Mo_step_219 rfl ?_
  refine j_getr B fl_Mo_80 (m_0) rfl d_Mo_step_220 ?_
  refine j_iloadn B d_Mo_step_223 rfl ?_
  refine j_iald B (m_23) (⟨rfl, by omega, by decide⟩) d_Mo_step_224 ?_
  refine j_topi (nI g) (by rw [rAK (by decide), rAK (by decide)]; exact hfn) ?_
  refine j_imul B d_Mo_step_225 ?_
  refine j_aloadn B d_Mo_step_226 rfl ?_
  refine j_geti B fl_Mo_183 (m_0) rfl d_Mo_step_227 ?_
  refine j_iadd B d_Mo_step_230 ?_
  refine j_topi (nI (48 * g + b)) (by rw [show (npR d pp x).1 = x.1 from rfl, hla]; exact ixm 48 g b) ?_
  refine j_iald B (m_12) (⟨rfl, by omega, by decide⟩) d_Mo_step_231 ?_
  refine j_topi (x.2 (0, 0, 12) (48 * g + b)) (by rw [rAK (by decide), rAK (by decide)]) ?_
  refine j_cVt B (hC) cv_Mo_unwinds ml_Mo_192 (m_0) rfl rfl ⟨rfl, rfl, by decide, by decide⟩ ⟨Nat.zero_le _, Nat.zero_le _⟩ hml (Nat.le_of_ble_eq_true rfl) rfl d_Mo_step_232 ?_
  refine j_goto (tgt := 260) B d_Mo_step_235 (by decide) ?_
  exact j_vret B hr hlk d_Mo_step_260 (rfl) (rfl)
set_option maxRecDepth 100000 in
theorem ok_Mo_step_X {l : Launch} {D : va_G} {aC : Nat → ClassId} {ad : Nat → Nat} (x : tm_M) {d g pp : Nat} (hd : x.1 (0, 0, 0) 25 = nI d) (hd0 : 0 < d) (hd8 : d ≤ 8) (hg : g < 6) (hfn : x.2 (0, 0, 23) (d - 1) = nI g) (hpl : x.2 (0, 0, 25) (d - 1) = nI pp) (hpn : pp < 128) (hlt : x.2 (0, 0, 6) (128 * g + pp) = 8)  :
    OkM l y_Mo_step b_Mo_step 4 none (rom 3 71) D aC ad [.ref (ad 0)] x none (if d - 1 = 0 then sI (sI (npR d pp x) (0, 0, 0) 25 (nI (d - 1))) (0, 0, 0) 35 0 else (sI (npR d pp x) (0, 0, 0) 25 (nI (d - 1)))) := by
  refine ok_start (by decide) (Nat.le_of_ble_eq_true rfl) rfl ?_
  intro p e s m args below meth c B hr hlk hml
  have B : Cx p s m c args b_Mo_step R_Mo D aC (rg 30 ad) 30 ad := B
  refine j_aloadn B d_Mo_step_0 rfl ?_
  refine j_geti B fl_Mo_164 (m_0) rfl d_Mo_step_1 ?_
  refine j_iconst (v := 1) B d_Mo_step_4 (by decide) ?_
  refine j_isub B d_Mo_step_5 ?_
  refine j_topi (nI (d - 1)) (by rw [hd]; exact nIp hd0) ?_
  refine j_istoren B d_Mo_step_6 (by decide) ?_
  refine j_sipush (v := 128) B d_Mo_step_7 (by decide) ?_
  refine j_aloadn B d_Mo_step_10 rfl ?_
  refine j_getr B fl_Mo_80 (m_0) rfl d_Mo_step_11 ?_
  refine j_iloadn B d_Mo_step_14 rfl ?_
  refine j_iald B (m_23) (⟨rfl, by omega, by decide⟩) d_Mo_step_15 ?_
  refine j_topi (nI g) hfn ?_
  refine j_imul B d_Mo_step_16 ?_
  refine j_aloadn B d_Mo_step_17 rfl ?_
  refine j_getr B fl_Mo_86 (m_0) rfl d_Mo_step_18 ?_
  refine j_iloadn B d_Mo_step_21 rfl ?_
  refine j_iald B (m_25) (⟨rfl, by omega, by decide⟩) d_Mo_step_22 ?_
  refine j_topi (nI pp) hpl ?_
  refine j_iadd B d_Mo_step_23 ?_
  refine j_topi (nI (128 * g + pp)) (ixm 128 g pp) ?_
  refine j_istoren B d_Mo_step_24 (by decide) ?_
  refine j_aloadn B d_Mo_step_25 rfl ?_
  refine j_getr B fl_Mo_32 (m_0) rfl d_Mo_step_26 ?_
  refine j_iloadn B d_Mo_step_29 rfl ?_
  refine j_iald B (m_7) (⟨rfl, by omega, by decide⟩) d_Mo_step_30 ?_
  refine j_istoren B d_Mo_step_31 (by decide) ?_
  refine j_aloadn B d_Mo_step_32 rfl ?_
  refine j_getr B fl_Mo_83 (m_0) rfl d_Mo_step_33 ?_
  refine j_iloadn B d_Mo_step_36 rfl ?_
  refine j_aloadn B d_Mo_step_37 rfl ?_
  refine j_getr B fl_Mo_86 (m_0) rfl d_Mo_step_38 ?_
  refine j_iloadn B d_Mo_step_41 rfl ?_
  refine j_iald B (m_25) (⟨rfl, by omega, by decide⟩) d_Mo_step_42 ?_
  refine j_topi (nI pp) hpl ?_
  refine j_iast B kM_inj (m_24) (⟨rfl, by omega, by decide⟩) d_Mo_step_43 ?_
  refine j_aloadn B d_Mo_step_44 rfl ?_
  refine j_getr B fl_Mo_86 (m_0) rfl d_Mo_step_45 ?_
  refine j_iloadn B d_Mo_step_48 rfl ?_
  refine j_dup2 B d_Mo_step_49 rfl rfl ?_
  refine j_iald B (m_25) (⟨rfl, by omega, by decide⟩) d_Mo_step_50 ?_
  refine j_topi (nI pp) (by rw [rAK (by decide)]; exact hpl) ?_
  refine j_iconst (v := 1) B d_Mo_step_51 (by decide) ?_
  refine j_iadd B d_Mo_step_52 ?_
  refine j_topi (nI (pp + 1)) (nI_1 pp) ?_
  refine j_iast B kM_inj (m_25) (⟨rfl, by omega, by decide⟩) d_Mo_step_53 ?_
  refine j_aloadn B d_Mo_step_54 rfl ?_
  refine j_getr B fl_Mo_29 (m_0) rfl d_Mo_step_55 ?_
  refine j_iloadn B d_Mo_step_58 rfl ?_
  refine j_iald B (m_6) (⟨rfl, by omega, by decide⟩) d_Mo_step_59 ?_
  refine j_topi 8 (by rw [rAK (by decide), rAK (by decide)]; exact hlt) ?_
  refine j_tabOut (tgt := 238) B d_Mo_step_60 (Or.inr (by decide)) (by decide) ?_
  refine j_aloadn B d_Mo_step_238 rfl ?_
  refine j_dup B d_Mo_step_239 rfl ?_
  refine j_geti B fl_Mo_164 (m_0) rfl d_Mo_step_240 ?_
  refine j_iconst (v := 1) B d_Mo_step_243 (by decide) ?_
  refine j_isub B d_Mo_step_244 ?_
  refine j_topi (nI (d - 1)) (by rw [show (npR d pp x).1 = x.1 from rfl, hd]; exact nIp hd0) ?_
  refine j_puti B kM_inj fs_Mo_164 (m_0) rfl d_Mo_step_245 ?_
  refine j_aloadn B d_Mo_step_248 rfl ?_
  refine j_geti B fl_Mo_164 (m_0) rfl d_Mo_step_249 ?_
  refine j_topi (nI (d - 1)) rI ?_
  refine j_if_ne (tgt := 260) B d_Mo_step_252 (by decide) (fun h252 => ?_) (fun h252 => ?_)
  · -- yes
    exact j_vret B hr hlk d_Mo_step_260 (rfl) (congrArg (tw ad aC sM kM) (by first | exact (if_pos (Nat.eq_zero_of_not_pos (fun z => nI_ne0 z (by omega) h252))).symm | exact (if_neg (fun z => h252 (by rw [z]; rfl))).symm))
  · -- no
    refine j_aloadn B d_Mo_step_255 rfl ?_
    refine j_iconst (v := 0) B d_Mo_step_256 (by decide) ?_
    refine j_puti B kM_inj fs_Mo_189 (m_0) rfl d_Mo_step_257 ?_
    exact j_vret B hr hlk d_Mo_step_260 (rfl) (congrArg (tw ad aC sM kM) (by first | exact (if_pos (Nat.eq_zero_of_not_pos (fun z => nI_ne0 z (by omega) h252))).symm | exact (if_neg (fun z => h252 (by rw [z]; rfl))).symm))
set_option maxRecDepth 100000 in
theorem ok_Mo_run_1 {l : Launch} {D : va_G} {aC : Nat → ClassId} {ad : Nat → Nat} (x : tm_M) (k : Int32) (h1 : k < 0 ∨ 5 < k) :
    OkM l y_Mo_run b_Mo_run 4 (some .int) (rom 4 94) D aC ad [.ref (ad 0), .int k] x (some (.int 0)) (sI x (0, 0, 0) 0 1) := by
  refine ok_start (by decide) (Nat.le_of_ble_eq_true rfl) rfl ?_
  intro p e s m args below meth c B hr hlk hml
  have B : Cx p s m c args b_Mo_run R_Mo D aC (rg 30 ad) 30 ad := B
  refine j_iloadn B d_Mo_run_0 rfl ?_
  refine j_iconst (v := 0) B d_Mo_run_1 (by decide) ?_
  refine j_iconst (v := 5) B d_Mo_run_2 (by decide) ?_
  refine j_cS B (ok_Mo_outside x k 0 5) cs_Mo_outside ml_Mo_104 rfl ⟨rfl, rfl, by decide, by decide⟩ ⟨Nat.zero_le _, Nat.zero_le _⟩ hml (Nat.le_of_ble_eq_true rfl) rfl d_Mo_run_3 ?_
  refine j_istoren B d_Mo_run_6 (by decide) ?_
  refine j_aloadn B d_Mo_run_7 rfl ?_
  refine j_iloadn B d_Mo_run_8 rfl ?_
  refine j_iloadn B d_Mo_run_9 rfl ?_
  refine j_if_ne (tgt := 26) B d_Mo_run_10 (by decide) (fun h10 => ?_) (fun h10 => (show False from bI1 h1 h10).elim)
  refine j_iconst (v := 0) B d_Mo_run_26 (by decide) ?_
  refine j_cVt B (ok_Mo_fails x (bI (k < 0 ∨ 5 < k)) 0) cv_Mo_fails ml_Mo_108 (m_0) rfl rfl ⟨rfl, rfl, by decide, by decide⟩ ⟨Nat.zero_le _, Nat.zero_le _⟩ hml (Nat.le_of_ble_eq_true rfl) rfl d_Mo_run_27 ?_
  refine j_if_eq (tgt := 35) B d_Mo_run_30 (by decide) (fun h30 => (show False from bI_e h30 (by rw [fv1 (bI1 h1)]; decide)).elim) (fun h30 => ?_)
  refine j_iconst (v := 0) B d_Mo_run_33 (by decide) ?_
  exact j_iret B hr hlk d_Mo_run_34 (rfl) (by rw [fv1 (bI1 h1)])
set_option maxRecDepth 100000 in
theorem ok_Mo_run_2 {l : Launch} {D : va_G} {aC : Nat → ClassId} {ad : Nat → Nat} {f : Nat} (hf : f < 6) (x : tm_M) (h0 : x.2 (0, 0, 5) f = 0) :
    OkM l y_Mo_run b_Mo_run 4 (some .int) (rom 4 94) D aC ad [.ref (ad 0), .int (nI f)] x (some (.int 0)) (sI x (0, 0, 0) 0 2) := by
  refine ok_start (by decide) (Nat.le_of_ble_eq_true rfl) rfl ?_
  intro p e s m args below meth c B hr hlk hml
  have B : Cx p s m c args b_Mo_run R_Mo D aC (rg 30 ad) 30 ad := B
  refine j_iloadn B d_Mo_run_0 rfl ?_
  refine j_iconst (v := 0) B d_Mo_run_1 (by decide) ?_
  refine j_iconst (v := 5) B d_Mo_run_2 (by decide) ?_
  refine j_cS B (ok_Mo_outside x (nI f) 0 5) cs_Mo_outside ml_Mo_104 rfl ⟨rfl, rfl, by decide, by decide⟩ ⟨Nat.zero_le _, Nat.zero_le _⟩ hml (Nat.le_of_ble_eq_true rfl) rfl d_Mo_run_3 ?_
  refine j_istoren B d_Mo_run_6 (by decide) ?_
  refine j_aloadn B d_Mo_run_7 rfl ?_
  refine j_iloadn B d_Mo_run_8 rfl ?_
  refine j_iloadn B d_Mo_run_9 rfl ?_
  refine j_topi 0 (bI_f (f_in hf)) ?_
  refine j_if_ne (tgt := 26) B d_Mo_run_10 (by decide) (fun h10 => (show False from h10 rfl).elim) (fun h10 => ?_)
  refine j_aloadn B d_Mo_run_13 rfl ?_
  refine j_getr B fl_Mo_26 (m_0) rfl d_Mo_run_14 ?_
  refine j_iloadn B d_Mo_run_17 rfl ?_
  refine j_iald B (m_5) (⟨rfl, hf, by decide⟩) d_Mo_run_18 ?_
  refine j_if_ne (tgt := 26) B d_Mo_run_19 (by decide) (fun h19 => (show False from h19 h0).elim) (fun h19 => ?_)
  refine j_iconst (v := 1) B d_Mo_run_22 (by decide) ?_
  refine j_goto (tgt := 27) B d_Mo_run_23 (by decide) ?_
  refine j_cVt B (ok_Mo_fails x (bI (nI f < 0 ∨ 5 < nI f)) 1) cv_Mo_fails ml_Mo_108 (m_0) rfl rfl ⟨rfl, rfl, by decide, by decide⟩ ⟨Nat.zero_le _, Nat.zero_le _⟩ hml (Nat.le_of_ble_eq_true rfl) rfl d_Mo_run_27 ?_
  refine j_if_eq (tgt := 35) B d_Mo_run_30 (by decide) (fun h30 => (show False from bI_e h30 (by rw [fv2 (bI_f (f_in hf)) (by decide)]; decide)).elim) (fun h30 => ?_)
  refine j_iconst (v := 0) B d_Mo_run_33 (by decide) ?_
  exact j_iret B hr hlk d_Mo_run_34 (rfl) (by rw [fv2 (bI_f (f_in hf)) (by decide)])
set_option maxRecDepth 100000 in
theorem ok_Mo_run_0 {l : Launch} {D : va_G} {aC : Nat → ClassId} {ad : Nat → Nat} {f : Nat} (hf : f < 6) (x : tm_M) (h0 : ¬ x.2 (0, 0, 5) f = 0) {N : Nat} {r : Int32} (X : Nat → tm_M) (hX0 : X 0 = enM 0 f (sI (sI (sA (sA (sA (sA (sA (sA (sI x (0, 0, 0) 0 0) (0, 0, 28) 0 0) (0, 0, 28) 1 0) (0, 0, 28) 2 0) (0, 0, 28) 3 0) (0, 0, 28) 4 0) (0, 0, 28) 5 (-1)) (0, 0, 0) 25 0) (0, 0, 0) 35 (-1))) (hN : N ≤ 300) (hN0 : 0 < N) (hst : ∀ j, j ≤ N → (X j).2 (0, 0, 28) 1 = nI j) (hen : ∀ j, j < N → (X j).1 (0, 0, 0) 35 = -1) (hrN : (X N).1 (0, 0, 0) 35 = r) (hS : ∀ j, j < N → OkM l y_Mo_step b_Mo_step 4 none (rom 3 71) D aC ad [.ref (ad 0)] (sA (X j) (0, 0, 28) 1 (nI (j + 1))) none (X (j + 1))) (hr1 : r < 0 → N = 300) :
    OkM l y_Mo_run b_Mo_run 4 (some .int) (rom 4 94) D aC ad [.ref (ad 0), .int (nI f)] x (some (.int (if r < 0 then 3 else r))) (if r < 0 then sI (X N) (0, 0, 0) 35 3 else X N) := by
  refine ok_start (by decide) (Nat.le_of_ble_eq_true rfl) rfl ?_
  intro p e s m args below meth c B hr hlk hml
  have B : Cx p s m c args b_Mo_run R_Mo D aC (rg 30 ad) 30 ad := B
  have fin2 : r < 0 → J p l e (rom 4 94) s m args below meth c D (rg 30 ad) 0 0 (MQ below (Qk D aC 30 ad (some (.int (if r < 0 then 3 else r))) (wM ad aC (if r < 0 then sI (X N) (0, 0, 0) 35 3 else X N))) args s 0 0 (rg 30 ad)) 30 ad (wM ad aC (sI (X N) (0, 0, 0) 35 3)) 4 80 [(0, .ref (ad 0))] [] := by
    intro hr0
    refine j_aloadn B d_Mo_run_80 rfl ?_
    refine j_geti B fl_Mo_189 (m_0) rfl d_Mo_run_81 ?_
    refine j_topi 3 rI ?_
    refine j_if_ge (tgt := 124) B d_Mo_run_84 (by decide) (fun h84 => ?_) (fun h84 => (show False from h84 (by decide)).elim)
    refine j_aloadn B d_Mo_run_124 rfl ?_
    refine j_geti B fl_Mo_189 (m_0) rfl d_Mo_run_125 ?_
    exact j_iret B hr hlk d_Mo_run_128 (sv (by rw [rI]; exact if_pos hr0)) (congrArg (tw ad aC sM kM) (if_pos hr0).symm)
  have fin : J p l e (rom 4 94) s m args below meth c D (rg 30 ad) 0 0 (MQ below (Qk D aC 30 ad (some (.int (if r < 0 then 3 else r))) (wM ad aC (if r < 0 then sI (X N) (0, 0, 0) 35 3 else X N))) args s 0 0 (rg 30 ad)) 30 ad (wM ad aC (X N)) 4 80 [(0, .ref (ad 0))] [] := by
    refine j_aloadn B d_Mo_run_80 rfl ?_
    refine j_geti B fl_Mo_189 (m_0) rfl d_Mo_run_81 ?_
    refine j_topi r hrN ?_
    refine j_if_ge (tgt := 124) B d_Mo_run_84 (by decide) (fun h84 => ?_) (fun h84 => ?_)
    · -- yes
      refine j_aloadn B d_Mo_run_124 rfl ?_
      refine j_geti B fl_Mo_189 (m_0) rfl d_Mo_run_125 ?_
      exact j_iret B hr hlk d_Mo_run_128 (sv (by rw [hrN]; exact if_neg (Int32.not_lt.mpr h84))) (congrArg (tw ad aC sM kM) (if_neg (Int32.not_lt.mpr h84)).symm)
    · -- no
      refine j_aloadn B d_Mo_run_87 rfl ?_
      refine j_getr B fl_Mo_95 (m_0) rfl d_Mo_run_88 ?_
      refine j_iconst (v := 1) B d_Mo_run_91 (by decide) ?_
      refine j_iald B (m_28) (⟨(rfl : (1 : Int32) = nI 1), by decide, by decide⟩) d_Mo_run_92 ?_
      refine j_sipush (v := 300) B d_Mo_run_93 (by decide) ?_
      refine j_icmp_ne (tgt := 107) B d_Mo_run_96 (by decide) (fun h96 => (show False from h96 (by rw [hst N (Nat.le_refl N), hr1 (Int32.not_le.mp h84)]; rfl)).elim) (fun h96 => ?_)
      refine j_aloadn B d_Mo_run_99 rfl ?_
      refine j_iconst (v := 3) B d_Mo_run_100 (by decide) ?_
      refine j_puti B kM_inj fs_Mo_189 (m_0) rfl d_Mo_run_101 ?_
      refine j_goto (tgt := 80) B d_Mo_run_104 (by decide) ?_
      refine j_loc [(0, .ref (ad 0))] ⟨rfl, trivial⟩ ?_
      exact fin2 (Int32.not_le.mp h84)
  have loop : ∀ (q j : Nat), j + q = N → J p l e (rom 4 94) s m args below meth c D (rg 30 ad) 0 0 (MQ below (Qk D aC 30 ad (some (.int (if r < 0 then 3 else r))) (wM ad aC (if r < 0 then sI (X N) (0, 0, 0) 35 3 else X N))) args s 0 0 (rg 30 ad)) 30 ad (wM ad aC (X j)) 4 80 [(0, .ref (ad 0))] [] := by
    intro q
    induction q with
    | zero =>
      intro j hjN
      have hjN : j = N := hjN
      subst hjN
      exact fin
    | succ q ih =>
      intro j hjN
      have hj : j < N := by omega
      refine j_aloadn B d_Mo_run_80 rfl ?_
      refine j_geti B fl_Mo_189 (m_0) rfl d_Mo_run_81 ?_
      refine j_topi (-1) (hen j hj) ?_
      refine j_if_ge (tgt := 124) B d_Mo_run_84 (by decide) (fun h84 => (show False from absurd h84 (by decide)).elim) (fun h84 => ?_)
      refine j_aloadn B d_Mo_run_87 rfl ?_
      refine j_getr B fl_Mo_95 (m_0) rfl d_Mo_run_88 ?_
      refine j_iconst (v := 1) B d_Mo_run_91 (by decide) ?_
      refine j_iald B (m_28) (⟨(rfl : (1 : Int32) = nI 1), by decide, by decide⟩) d_Mo_run_92 ?_
      refine j_sipush (v := 300) B d_Mo_run_93 (by decide) ?_
      refine j_icmp_ne (tgt := 107) B d_Mo_run_96 (by decide) (fun h96 => ?_) (fun h96 => (show False from absurd ((nI_eq (a := j) (b := 300) (by omega) (by decide)).mp ((hst j (by omega)).symm.trans h96)) (by omega)).elim)
      refine j_aloadn B d_Mo_run_107 rfl ?_
      refine j_getr B fl_Mo_95 (m_0) rfl d_Mo_run_108 ?_
      refine j_iconst (v := 1) B d_Mo_run_111 (by decide) ?_
      refine j_dup2 B d_Mo_run_112 rfl rfl ?_
      refine j_iald B (m_28) (⟨(rfl : (1 : Int32) = nI 1), by decide, by decide⟩) d_Mo_run_113 ?_
      refine j_iconst (v := 1) B d_Mo_run_114 (by decide) ?_
      refine j_iadd B d_Mo_run_115 ?_
      refine j_topi (nI (j + 1)) (by rw [hst j (by omega), nI_1]) ?_
      refine j_iast B kM_inj (m_28) (⟨(rfl : (1 : Int32) = nI 1), by decide, by decide⟩) d_Mo_run_116 ?_
      refine j_aloadn B d_Mo_run_117 rfl ?_
      refine j_cVt B (hS j hj) cv_Mo_step ml_Mo_207 (m_0) rfl rfl ⟨rfl, rfl, by decide, by decide⟩ ⟨Nat.zero_le _, Nat.zero_le _⟩ hml (Nat.le_of_ble_eq_true rfl) rfl d_Mo_run_118 ?_
      refine j_goto (tgt := 80) B d_Mo_run_121 (by decide) ?_
      refine j_loc [(0, .ref (ad 0))] ⟨rfl, trivial⟩ ?_
      exact ih (j + 1) (by omega)
  have c6 : J p l e (rom 4 94) s m args below meth c D (rg 30 ad) 0 0 (MQ below (Qk D aC 30 ad (some (.int (if r < 0 then 3 else r))) (wM ad aC (if r < 0 then sI (X N) (0, 0, 0) 35 3 else X N))) args s 0 0 (rg 30 ad)) 30 ad (wM ad aC (sA (sA (sA (sA (sA (sA (sI x (0, 0, 0) 0 0) (0, 0, 28) 0 0) (0, 0, 28) 1 0) (0, 0, 28) 2 0) (0, 0, 28) 3 0) (0, 0, 28) 4 0) (0, 0, 28) 5 (-1))) 4 37 [(3, .int (nI 6)), (0, .ref (ad 0)), (1, .int (nI f))] [] := by
    refine j_iloadn B d_Mo_run_37 rfl ?_
    refine j_bipush (v := 6) B d_Mo_run_38 (by decide) ?_
    refine j_icmp_ge (tgt := 65) B d_Mo_run_40 (by decide) (fun h40 => ?_) (fun h40 => (show False from h40 (by decide)).elim)
    refine j_aloadn B d_Mo_run_65 rfl ?_
    refine j_iconst (v := 0) B d_Mo_run_66 (by decide) ?_
    refine j_puti B kM_inj fs_Mo_164 (m_0) rfl d_Mo_run_67 ?_
    refine j_aloadn B d_Mo_run_70 rfl ?_
    refine j_iconst (v := (-1)) B d_Mo_run_71 (by decide) ?_
    refine j_puti B kM_inj fs_Mo_189 (m_0) rfl d_Mo_run_72 ?_
    refine j_aloadn B d_Mo_run_75 rfl ?_
    refine j_iloadn B d_Mo_run_76 rfl ?_
    refine j_cVt B (ok_Mo_enters (sI (sI (sA (sA (sA (sA (sA (sA (sI x (0, 0, 0) 0 0) (0, 0, 28) 0 0) (0, 0, 28) 1 0) (0, 0, 28) 2 0) (0, 0, 28) 3 0) (0, 0, 28) 4 0) (0, 0, 28) 5 (-1)) (0, 0, 0) 25 0) (0, 0, 0) 35 (-1)) (d := 0) (by simp [sI, sA, upd]; rfl) (by decide)) cv_Mo_enters ml_Mo_195 (m_0) rfl rfl ⟨rfl, rfl, by decide, by decide⟩ ⟨Nat.zero_le _, Nat.zero_le _⟩ hml (Nat.le_of_ble_eq_true rfl) rfl d_Mo_run_77 ?_
    refine j_x (X 0) hX0.symm ?_
    refine j_loc [(0, .ref (ad 0))] ⟨rfl, trivial⟩ ?_
    exact loop N 0 (by omega)
  have c5 : J p l e (rom 4 94) s m args below meth c D (rg 30 ad) 0 0 (MQ below (Qk D aC 30 ad (some (.int (if r < 0 then 3 else r))) (wM ad aC (if r < 0 then sI (X N) (0, 0, 0) 35 3 else X N))) args s 0 0 (rg 30 ad)) 30 ad (wM ad aC (sA (sA (sA (sA (sA (sI x (0, 0, 0) 0 0) (0, 0, 28) 0 0) (0, 0, 28) 1 0) (0, 0, 28) 2 0) (0, 0, 28) 3 0) (0, 0, 28) 4 0)) 4 37 [(3, .int (nI 5)), (0, .ref (ad 0)), (1, .int (nI f))] [] := by
    refine j_iloadn B d_Mo_run_37 rfl ?_
    refine j_bipush (v := 6) B d_Mo_run_38 (by decide) ?_
    refine j_icmp_ge (tgt := 65) B d_Mo_run_40 (by decide) (fun h40 => (show False from absurd h40 (by decide)).elim) (fun h40 => ?_)
    refine j_aloadn B d_Mo_run_43 rfl ?_
    refine j_getr B fl_Mo_95 (m_0) rfl d_Mo_run_44 ?_
    refine j_iloadn B d_Mo_run_47 rfl ?_
    refine j_iloadn B d_Mo_run_48 rfl ?_
    refine j_iconst (v := 5) B d_Mo_run_49 (by decide) ?_
    refine j_icmp_ne (tgt := 57) B d_Mo_run_50 (by decide) (fun h50 => (show False from h50 rfl).elim) (fun h50 => ?_)
    refine j_iconst (v := (-1)) B d_Mo_run_53 (by decide) ?_
    refine j_goto (tgt := 58) B d_Mo_run_54 (by decide) ?_
    refine j_iast B kM_inj (m_28) (⟨(rfl : (5 : Int32) = nI 5), by decide, by decide⟩) d_Mo_run_58 ?_
    refine j_iinc B d_Mo_run_59 rfl (by decide) (nI_1 5) ?_
    refine j_goto (tgt := 37) B d_Mo_run_62 (by decide) ?_
    refine j_loc [(3, .int (nI 6)), (0, .ref (ad 0)), (1, .int (nI f))] ⟨rfl, rfl, rfl, trivial⟩ ?_
    exact c6
  have c4 : J p l e (rom 4 94) s m args below meth c D (rg 30 ad) 0 0 (MQ below (Qk D aC 30 ad (some (.int (if r < 0 then 3 else r))) (wM ad aC (if r < 0 then sI (X N) (0, 0, 0) 35 3 else X N))) args s 0 0 (rg 30 ad)) 30 ad (wM ad aC (sA (sA (sA (sA (sI x (0, 0, 0) 0 0) (0, 0, 28) 0 0) (0, 0, 28) 1 0) (0, 0, 28) 2 0) (0, 0, 28) 3 0)) 4 37 [(3, .int (nI 4)), (0, .ref (ad 0)), (1, .int (nI f))] [] := by
    refine j_iloadn B d_Mo_run_37 rfl ?_
    refine j_bipush (v := 6) B d_Mo_run_38 (by decide) ?_
    refine j_icmp_ge (tgt := 65) B d_Mo_run_40 (by decide) (fun h40 => (show False from absurd h40 (by decide)).elim) (fun h40 => ?_)
    refine j_aloadn B d_Mo_run_43 rfl ?_
    refine j_getr B fl_Mo_95 (m_0) rfl d_Mo_run_44 ?_
    refine j_iloadn B d_Mo_run_47 rfl ?_
    refine j_iloadn B d_Mo_run_48 rfl ?_
    refine j_iconst (v := 5) B d_Mo_run_49 (by decide) ?_
    refine j_icmp_ne (tgt := 57) B d_Mo_run_50 (by decide) (fun h50 => ?_) (fun h50 => (show False from absurd h50 (by decide)).elim)
    refine j_iconst (v := 0) B d_Mo_run_57 (by decide) ?_
    refine j_iast B kM_inj (m_28) (⟨(rfl : (4 : Int32) = nI 4), by decide, by decide⟩) d_Mo_run_58 ?_
    refine j_iinc B d_Mo_run_59 rfl (by decide) (nI_1 4) ?_
    refine j_goto (tgt := 37) B d_Mo_run_62 (by decide) ?_
    refine j_loc [(3, .int (nI 5)), (0, .ref (ad 0)), (1, .int (nI f))] ⟨rfl, rfl, rfl, trivial⟩ ?_
    exact c5
  have c3 : J p l e (rom 4 94) s m args below meth c D (rg 30 ad) 0 0 (MQ below (Qk D aC 30 ad (some (.int (if r < 0 then 3 else r))) (wM ad aC (if r < 0 then sI (X N) (0, 0, 0) 35 3 else X N))) args s 0 0 (rg 30 ad)) 30 ad (wM ad aC (sA (sA (sA (sI x (0, 0, 0) 0 0) (0, 0, 28) 0 0) (0, 0, 28) 1 0) (0, 0, 28) 2 0)) 4 37 [(3, .int (nI 3)), (0, .ref (ad 0)), (1, .int (nI f))] [] := by
    refine j_iloadn B d_Mo_run_37 rfl ?_
    refine j_bipush (v := 6) B d_Mo_run_38 (by decide) ?_
    refine j_icmp_ge (tgt := 65) B d_Mo_run_40 (by decide) (fun h40 => (show False from absurd h40 (by decide)).elim) (fun h40 => ?_)
    refine j_aloadn B d_Mo_run_43 rfl ?_
    refine j_getr B fl_Mo_95 (m_0) rfl d_Mo_run_44 ?_
    refine j_iloadn B d_Mo_run_47 rfl ?_
    refine j_iloadn B d_Mo_run_48 rfl ?_
    refine j_iconst (v := 5) B d_Mo_run_49 (by decide) ?_
    refine j_icmp_ne (tgt := 57) B d_Mo_run_50 (by decide) (fun h50 => ?_) (fun h50 => (show False from absurd h50 (by decide)).elim)
    refine j_iconst (v := 0) B d_Mo_run_57 (by decide) ?_
    refine j_iast B kM_inj (m_28) (⟨(rfl : (3 : Int32) = nI 3), by decide, by decide⟩) d_Mo_run_58 ?_
    refine j_iinc B d_Mo_run_59 rfl (by decide) (nI_1 3) ?_
    refine j_goto (tgt := 37) B d_Mo_run_62 (by decide) ?_
    refine j_loc [(3, .int (nI 4)), (0, .ref (ad 0)), (1, .int (nI f))] ⟨rfl, rfl, rfl, trivial⟩ ?_
    exact c4
  have c2 : J p l e (rom 4 94) s m args below meth c D (rg 30 ad) 0 0 (MQ below (Qk D aC 30 ad (some (.int (if r < 0 then 3 else r))) (wM ad aC (if r < 0 then sI (X N) (0, 0, 0) 35 3 else X N))) args s 0 0 (rg 30 ad)) 30 ad (wM ad aC (sA (sA (sI x (0, 0, 0) 0 0) (0, 0, 28) 0 0) (0, 0, 28) 1 0)) 4 37 [(3, .int (nI 2)), (0, .ref (ad 0)), (1, .int (nI f))] [] := by
    refine j_iloadn B d_Mo_run_37 rfl ?_
    refine j_bipush (v := 6) B d_Mo_run_38 (by decide) ?_
    refine j_icmp_ge (tgt := 65) B d_Mo_run_40 (by decide) (fun h40 => (show False from absurd h40 (by decide)).elim) (fun h40 => ?_)
    refine j_aloadn B d_Mo_run_43 rfl ?_
    refine j_getr B fl_Mo_95 (m_0) rfl d_Mo_run_44 ?_
    refine j_iloadn B d_Mo_run_47 rfl ?_
    refine j_iloadn B d_Mo_run_48 rfl ?_
    refine j_iconst (v := 5) B d_Mo_run_49 (by decide) ?_
    refine j_icmp_ne (tgt := 57) B d_Mo_run_50 (by decide) (fun h50 => ?_) (fun h50 => (show False from absurd h50 (by decide)).elim)
    refine j_iconst (v := 0) B d_Mo_run_57 (by decide) ?_
    refine j_iast B kM_inj (m_28) (⟨(rfl : (2 : Int32) = nI 2), by decide, by decide⟩) d_Mo_run_58 ?_
    refine j_iinc B d_Mo_run_59 rfl (by decide) (nI_1 2) ?_
    refine j_goto (tgt := 37) B d_Mo_run_62 (by decide) ?_
    refine j_loc [(3, .int (nI 3)), (0, .ref (ad 0)), (1, .int (nI f))] ⟨rfl, rfl, rfl, trivial⟩ ?_
    exact c3
  have c1 : J p l e (rom 4 94) s m args below meth c D (rg 30 ad) 0 0 (MQ below (Qk D aC 30 ad (some (.int (if r < 0 then 3 else r))) (wM ad aC (if r < 0 then sI (X N) (0, 0, 0) 35 3 else X N))) args s 0 0 (rg 30 ad)) 30 ad (wM ad aC (sA (sI x (0, 0, 0) 0 0) (0, 0, 28) 0 0)) 4 37 [(3, .int (nI 1)), (0, .ref (ad 0)), (1, .int (nI f))] [] := by
    refine j_iloadn B d_Mo_run_37 rfl ?_
    refine j_bipush (v := 6) B d_Mo_run_38 (by decide) ?_
    refine j_icmp_ge (tgt := 65) B d_Mo_run_40 (by decide) (fun h40 => (show False from absurd h40 (by decide)).elim) (fun h40 => ?_)
    refine j_aloadn B d_Mo_run_43 rfl ?_
    refine j_getr B fl_Mo_95 (m_0) rfl d_Mo_run_44 ?_
    refine j_iloadn B d_Mo_run_47 rfl ?_
    refine j_iloadn B d_Mo_run_48 rfl ?_
    refine j_iconst (v := 5) B d_Mo_run_49 (by decide) ?_
    refine j_icmp_ne (tgt := 57) B d_Mo_run_50 (by decide) (fun h50 => ?_) (fun h50 => (show False from absurd h50 (by decide)).elim)
    refine j_iconst (v := 0) B d_Mo_run_57 (by decide) ?_
    refine j_iast B kM_inj (m_28) (⟨(rfl : (1 : Int32) = nI 1), by decide, by decide⟩) d_Mo_run_58 ?_
    refine j_iinc B d_Mo_run_59 rfl (by decide) (nI_1 1) ?_
    refine j_goto (tgt := 37) B d_Mo_run_62 (by decide) ?_
    refine j_loc [(3, .int (nI 2)), (0, .ref (ad 0)), (1, .int (nI f))] ⟨rfl, rfl, rfl, trivial⟩ ?_
    exact c2
  have c0 : J p l e (rom 4 94) s m args below meth c D (rg 30 ad) 0 0 (MQ below (Qk D aC 30 ad (some (.int (if r < 0 then 3 else r))) (wM ad aC (if r < 0 then sI (X N) (0, 0, 0) 35 3 else X N))) args s 0 0 (rg 30 ad)) 30 ad (wM ad aC (sI x (0, 0, 0) 0 0)) 4 37 [(3, .int (nI 0)), (0, .ref (ad 0)), (1, .int (nI f))] [] := by
    refine j_iloadn B d_Mo_run_37 rfl ?_
    refine j_bipush (v := 6) B d_Mo_run_38 (by decide) ?_
    refine j_icmp_ge (tgt := 65) B d_Mo_run_40 (by decide) (fun h40 => (show False from absurd h40 (by decide)).elim) (fun h40 => ?_)
    refine j_aloadn B d_Mo_run_43 rfl ?_
    refine j_getr B fl_Mo_95 (m_0) rfl d_Mo_run_44 ?_
    refine j_iloadn B d_Mo_run_47 rfl ?_
    refine j_iloadn B d_Mo_run_48 rfl ?_
    refine j_iconst (v := 5) B d_Mo_run_49 (by decide) ?_
    refine j_icmp_ne (tgt := 57) B d_Mo_run_50 (by decide) (fun h50 => ?_) (fun h50 => (show False from absurd h50 (by decide)).elim)
    refine j_iconst (v := 0) B d_Mo_run_57 (by decide) ?_
    refine j_iast B kM_inj (m_28) (⟨(rfl : (0 : Int32) = nI 0), by decide, by decide⟩) d_Mo_run_58 ?_
    refine j_iinc B d_Mo_run_59 rfl (by decide) (nI_1 0) ?_
    refine j_goto (tgt := 37) B d_Mo_run_62 (by decide) ?_
    refine j_loc [(3, .int (nI 1)), (0, .ref (ad 0)), (1, .int (nI f))] ⟨rfl, rfl, rfl, trivial⟩ ?_
    exact c1
  refine j_iloadn B d_Mo_run_0 rfl ?_
  refine j_iconst (v := 0) B d_Mo_run_1 (by decide) ?_
  refine j_iconst (v := 5) B d_Mo_run_2 (by decide) ?_
  refine j_cS B (ok_Mo_outside x (nI f) 0 5) cs_Mo_outside ml_Mo_104 rfl ⟨rfl, rfl, by decide, by decide⟩ ⟨Nat.zero_le _, Nat.zero_le _⟩ hml (Nat.le_of_ble_eq_true rfl) rfl d_Mo_run_3 ?_
  refine j_istoren B d_Mo_run_6 (by decide) ?_
  refine j_aloadn B d_Mo_run_7 rfl ?_
  refine j_iloadn B d_Mo_run_8 rfl ?_
  refine j_iloadn B d_Mo_run_9 rfl ?_
  refine j_topi 0 (bI_f (f_in hf)) ?_
  refine j_if_ne (tgt := 26) B d_Mo_run_10 (by decide) (fun h10 => (show False from h10 rfl).elim) (fun h10 => ?_)
  refine j_aloadn B d_Mo_run_13 rfl ?_
  refine j_getr B fl_Mo_26 (m_0) rfl d_Mo_run_14 ?_
  refine j_iloadn B d_Mo_run_17 rfl ?_
  refine j_iald B (m_5) (⟨rfl, hf, by decide⟩) d_Mo_run_18 ?_
  refine j_if_ne (tgt := 26) B d_Mo_run_19 (by decide) (fun h19 => ?_) (fun h19 => (show False from h0 h19).elim)
  refine j_iconst (v := 0) B d_Mo_run_26 (by decide) ?_
  refine j_cVt B (ok_Mo_fails x (bI (nI f < 0 ∨ 5 < nI f)) 0) cv_Mo_fails ml_Mo_108 (m_0) rfl rfl ⟨rfl, rfl, by decide, by decide⟩ ⟨Nat.zero_le _, Nat.zero_le _⟩ hml (Nat.le_of_ble_eq_true rfl) rfl d_Mo_run_27 ?_
  refine j_if_eq (tgt := 35) B d_Mo_run_30 (by decide) (fun h30 => ?_) (fun h30 => (show False from absurd (bI_ne h30) (by rw [fv0 (bI_f (f_in hf)) rfl]; decide)).elim)
  refine j_x (sI x (0, 0, 0) 0 0) (by rw [fv0 (bI_f (f_in hf)) rfl]) ?_
  refine j_iconst (v := 0) B d_Mo_run_35 (by decide) ?_
  refine j_istoren B d_Mo_run_36 (by decide) ?_
  refine j_loc [(3, .int (nI 0)), (0, .ref (ad 0)), (1, .int (nI f))] ⟨rfl, rfl, rfl, trivial⟩ ?_
  exact c0
