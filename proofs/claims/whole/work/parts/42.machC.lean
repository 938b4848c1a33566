set_option maxRecDepth 100000 in
theorem ok_Ma_raise_n {l : Launch} {D : va_G} {aC : Nat → ClassId} {ad : Nat → Nat} (x : tm_M) (u : Int32) {d t : Nat} (hd : x.1 (5, 0, 0) 4 = nI d) (hd0 : 0 < d) (hd8 : d ≤ 8) (hM : MW x d) (ht : x.1 (5, 0, 1) 1 = nI t) (h8 : t ≤ 8) (hF : (fhM x u d).1 = 0) :
    OkX l y_Ma_raise b_Ma_raise 2 (some .int) (rom 4 96) D aC ad [.ref (ad 34), .int u] x (some (.int 1)) (sI x (5, 0, 3) 6 u) := by
  refine ok_start (by decide) (Nat.le_of_ble_eq_true rfl) rfl ?_
  intro p e s m args below meth c B hr hlk hml
  have B : Cx p s m c args b_Ma_raise R_Ma D aC (rg 111 ad) 111 ad := B
  refine j_aloadn B d_Ma_raise_0 rfl ?_
  refine j_iloadn B d_Ma_raise_1 rfl ?_
  refine j_cVt B (ok_Ma_findHandler x u hd hd8 hM ht h8) cv_Ma_findHandler ml_Ma_138 (q_34) rfl rfl ⟨rfl, rfl, by decide, by decide⟩ ⟨Nat.zero_le _, Nat.zero_le _⟩ hml (Nat.le_of_ble_eq_true rfl) rfl d_Ma_raise_2 ?_
  refine j_if_ne (tgt := 18) B d_Ma_raise_5 (by decide) (fun h5 => (show False from h5 (if_pos hF)).elim) (fun h5 => ?_)
  refine j_x x (if_pos hF) ?_
  refine j_aloadn B d_Ma_raise_8 rfl ?_
  refine j_getr B fl_Ma_21 (q_34) rfl d_Ma_raise_9 ?_
  refine j_iloadn B d_Ma_raise_12 rfl ?_
  refine j_puti B kX_inj fs_Ma_141 (q_37) rfl d_Ma_raise_13 ?_
  refine j_iconst (v := 1) B d_Ma_raise_16 (by decide) ?_
  exact j_iret B hr hlk d_Ma_raise_17 (rfl) (rfl)
/-- a handler is found: where, and that one more was; what is raised -/
def rsX (L : Nat) (k u : Int32) (x : tm_M) : tm_M := sI (sI (sI (sI x (5, 0, 0) 6 (nI L)) (5, 0, 0) 7 k) (5, 0, 3) 4 (x.1 (5, 0, 3) 4 + 1)) (5, 0, 0) 5 u
theorem rs_MW {L d : Nat} {k u : Int32} {x : tm_M} (h : MW x d) : MW (rsX L k u x) d := by
  refine ⟨fun i hi => ?_, fun g hg => ?_⟩
  · obtain ⟨g, hg, hf⟩ := h.1 i hi
    exact ⟨g, hg, by simp [rsX, sI, hf]⟩
  · obtain ⟨⟨a, h1, h2⟩, ⟨q, h3, h4⟩, nn, h5, h6⟩ := h.2 g hg
    exact ⟨⟨a, h1, by simp [rsX, sI, h2]⟩, ⟨q, h3, by simp [rsX, sI, h4]⟩, nn, h5, by simp [rsX, sI, h6]⟩
set_option maxRecDepth 100000 in
theorem ok_Ma_raise_y {l : Launch} {D : va_G} {aC : Nat → ClassId} {ad : Nat → Nat} (x : tm_M) (u : Int32) {d t : Nat} (hd : x.1 (5, 0, 0) 4 = nI d) (hd0 : 0 < d) (hd8 : d ≤ 8) (hM : MW x d) (ht : x.1 (5, 0, 1) 1 = nI t) (h8 : t ≤ 8) {L : Nat} {k : Int32} {x4 : tm_M} (hF : (fhM x u d) = (L, k)) (hL : ¬ L = 0) (hU : OkX l y_Ma_unwind b_Ma_unwind 3 (some .int) (rom 3 66) D aC ad [.ref (ad 34), .int (hdM (rsX L k u x) (d - 1))] (rsX L k u x) (some (.int (-1))) x4) :
    OkX l y_Ma_raise b_Ma_raise 2 (some .int) (rom 4 96) D aC ad [.ref (ad 34), .int u] x (some (.int (-1))) x4 := by
  refine ok_start (by decide) (Nat.le_of_ble_eq_true rfl) rfl ?_
  intro p e s m args below meth c B hr hlk hml
  have B : Cx p s m c args b_Ma_raise R_Ma D aC (rg 111 ad) 111 ad := B
  have hd1 : d - 1 < 8 := by omega
  refine j_aloadn B d_Ma_raise_0 rfl ?_
  refine j_iloadn B d_Ma_raise_1 rfl ?_
  refine j_cVt B (ok_Ma_findHandler x u hd hd8 hM ht h8) cv_Ma_findHandler ml_Ma_138 (q_34) rfl rfl ⟨rfl, rfl, by decide, by decide⟩ ⟨Nat.zero_le _, Nat.zero_le _⟩ hml (Nat.le_of_ble_eq_true rfl) rfl d_Ma_raise_2 ?_
  refine j_if_ne (tgt := 18) B d_Ma_raise_5 (by decide) (fun h5 => ?_) (fun h5 => (show False from absurd h5 (by rw [hF, if_neg hL]; decide)).elim)
  refine j_x (sI (sI x (5, 0, 0) 6 (nI L)) (5, 0, 0) 7 k) (by rw [hF]; exact if_neg hL) ?_
  refine j_aloadn B d_Ma_raise_18 rfl ?_
  refine j_getr B fl_Ma_21 (q_34) rfl d_Ma_raise_19 ?_
  refine j_dup B d_Ma_raise_22 rfl ?_
  refine j_geti B fl_Ma_144 (q_37) rfl d_Ma_raise_23 ?_
  refine j_iconst (v := 1) B d_Ma_raise_26 (by decide) ?_
  refine j_iadd B d_Ma_raise_27 ?_
  refine j_topi (x.1 (5, 0, 3) 4 + 1) (by rw [rIK (by decide), rIK (by decide)]) ?_
  refine j_puti B kX_inj fs_Ma_144 (q_37) rfl d_Ma_raise_28 ?_
  refine j_aloadn B d_Ma_raise_31 rfl ?_
  refine j_iloadn B d_Ma_raise_32 rfl ?_
  refine j_puti B kX_inj fs_Ma_147 (q_34) rfl d_Ma_raise_33 ?_
  refine j_x (rsX L k u x) rfl ?_
  refine j_aloadn B d_Ma_raise_36 rfl ?_
  refine j_aloadn B d_Ma_raise_37 rfl ?_
  refine j_aloadn B d_Ma_raise_38 rfl ?_
  refine j_cVt B (ok_Ma_top (rsX L k u x) (d := d) (by simp [rsX, sI, upd, hd]) hd0 hd8) cv_Ma_top ml_Ma_53 (q_34) rfl rfl ⟨rfl, rfl, by decide, by decide⟩ ⟨Nat.zero_le _, Nat.zero_le _⟩ hml (Nat.le_of_ble_eq_true rfl) rfl d_Ma_raise_39 ?_
  refine j_cVt B (ok_hdM hd1 (rsX L k u x) (rs_MW hM) (by omega)) cv_Ma_headOf ml_Ma_150 (q_34) rfl rfl ⟨rfl, rfl, by decide, by decide⟩ ⟨Nat.zero_le _, Nat.zero_le _⟩ hml (Nat.le_of_ble_eq_true rfl) rfl d_Ma_raise_42 ?_
  refine j_cVt B (hU) cv_Ma_unwind ml_Ma_99 (q_34) rfl rfl ⟨rfl, rfl, by decide, by decide⟩ ⟨Nat.zero_le _, Nat.zero_le _⟩ hml (Nat.le_of_ble_eq_true rfl) rfl d_Ma_raise_45 ?_
  exact j_iret B hr hlk d_Ma_raise_48 (rfl) (rfl)
/-- the step's frame goes to the next place -/
abbrev npX (d pp : Nat) (x : tm_M) : tm_M := sI x (8, d - 1, 0) 1 (nI (pp + 1))
set_option maxRecDepth 100000 in
theorem ok_Ma_step_P {l : Launch} {D : va_G} {aC : Nat → ClassId} {ad : Nat → Nat} (x : tm_M) {d g n pp : Nat} (hd1 : d - 1 < 8) (hg : g < 6) (hfn : x.1 (8, d - 1, 0) 0 = nI g) (hpl : x.1 (8, d - 1, 0) 1 = nI pp) (hn : x.1 (6, g, 0) 2 = nI n) (h81 : n ≤ 81) (hpn : pp < n) (hlt : x.2 (6, g, 1) pp = 0) {r : Int32} {x2 : tm_M} (hC : OkX l y_Ma_print b_Ma_print 2 (some .int) (rom 2 41) D aC ad [.ref (ad 34), .int (x.2 (6, g, 2) pp)] (npX d pp x) (some (.int r)) x2) :
    OkX l y_Ma_step b_Ma_step 5 (some .int) (rom 5 117) D aC ad [.ref (ad 34), .ref (ad (frO (d - 1)))] x (some (.int r)) x2 := by
  refine ok_start (by decide) (Nat.le_of_ble_eq_true rfl) rfl ?_
  intro p e s m args below meth c B hr hlk hml
  have B : Cx p s m c args b_Ma_step R_Ma D aC (rg 111 ad) 111 ad := B
  refine j_aloadn B d_Ma_step_0 rfl ?_
  refine j_getr B fl_Ma_27 (q_34) rfl d_Ma_step_1 ?_
  refine j_aloadn B d_Ma_step_4 rfl ?_
  refine j_geti B fl_Ma_61 (q_fr hd1) rfl d_Ma_step_5 ?_
  refine j_topi (nI g) hfn ?_
  refine j_aald B ⟨(q_39).1, (q_39).2.1⟩ rfl (⟨rfl, hg, by decide⟩) d_Ma_step_8 ?_
  refine j_astoren B d_Ma_step_9 (by decide) ?_
  refine j_aloadn B d_Ma_step_10 rfl ?_
  refine j_aloadn B d_Ma_step_11 rfl ?_
  refine j_geti B fl_Ma_64 (q_fr hd1) rfl d_Ma_step_12 ?_
  refine j_topi (nI pp) hpl ?_
  refine j_cVt B (ok_Pr_letterAt hg x (nI pp) hn h81) cv_Pr_letterAt ml_Ma_67 (q_pr hg) rfl rfl ⟨rfl, rfl, by decide, by decide⟩ ⟨Nat.zero_le _, Nat.zero_le _⟩ hml (Nat.le_of_ble_eq_true rfl) rfl d_Ma_step_15 ?_
  refine j_topi (x.2 (6, g, 1) pp) (by rw [if_pos ⟨nI_pos' (by omega), by rw [hn]; exact nI_lt hpn (by omega)⟩, nI_clamp (by omega)]) ?_
  refine j_istoren B d_Ma_step_18 (by decide) ?_
  refine j_aloadn B d_Ma_step_19 rfl ?_
  refine j_aloadn B d_Ma_step_20 rfl ?_
  refine j_geti B fl_Ma_64 (q_fr hd1) rfl d_Ma_step_21 ?_
  refine j_topi (nI pp) hpl ?_
  refine j_cVt B (ok_Pr_valueAt hg x (nI pp) hn h81) cv_Pr_valueAt ml_Ma_70 (q_pr hg) rfl rfl ⟨rfl, rfl, by decide, by decide⟩ ⟨Nat.zero_le _, Nat.zero_le _⟩ hml (Nat.le_of_ble_eq_true rfl) rfl d_Ma_step_24 ?_
  refine j_topi (x.2 (6, g, 2) pp) (by rw [if_pos ⟨nI_pos' (by omega), by rw [hn]; exact nI_lt hpn (by omega)⟩, nI_clamp (by omega)]) ?_
  refine j_istore B d_Ma_step_27 (by decide) ?_
  refine j_aloadn B d_Ma_step_29 rfl ?_
  refine j_dup B d_Ma_step_30 rfl ?_
  refine j_geti B fl_Ma_64 (q_fr hd1) rfl d_Ma_step_31 ?_
  refine j_iconst (v := 1) B d_Ma_step_34 (by decide) ?_
  refine j_iadd B d_Ma_step_35 ?_
  refine j_topi (nI (pp + 1)) (by rw [hpl, nI_1]) ?_
  refine j_puti B kX_inj fs_Ma_64 (q_fr hd1) rfl d_Ma_step_36 ?_
  refine j_iloadn B d_Ma_step_39 rfl ?_
  refine j_topi 0 hlt ?_
  refine j_tabIn (tgt := 88) (off := 48) B d_Ma_step_40 (by decide) (by decide) (by decide) (by decide) ?_
  refine j_aloadn B d_Ma_step_88 rfl ?_
  refine j_iload B d_Ma_step_89 rfl ?_
  refine j_cVt B (hC) cv_Ma_print ml_Ma_73 (q_34) rfl rfl ⟨rfl, rfl, by decide, by decide⟩ ⟨Nat.zero_le _, Nat.zero_le _⟩ hml (Nat.le_of_ble_eq_true rfl) rfl d_Ma_step_91 ?_
  exact j_iret B hr hlk d_Ma_step_94 (rfl) (rfl)
set_option maxRecDepth 100000 in
theorem ok_Ma_step_C {l : Launch} {D : va_G} {aC : Nat → ClassId} {ad : Nat → Nat} (x : tm_M) {d g n pp : Nat} (hd1 : d - 1 < 8) (hg : g < 6) (hfn : x.1 (8, d - 1, 0) 0 = nI g) (hpl : x.1 (8, d - 1, 0) 1 = nI pp) (hn : x.1 (6, g, 0) 2 = nI n) (h81 : n ≤ 81) (hpn : pp < n) (hlt : x.2 (6, g, 1) pp = 1) {r : Int32} {x2 : tm_M} (hC : OkX l y_Ma_enter b_Ma_enter 2 (some .int) (rom 1 26) D aC ad [.ref (ad 34), .int (x.2 (6, g, 2) pp)] (npX d pp x) (some (.int r)) x2) :
    OkX l y_Ma_step b_Ma_step 5 (some .int) (rom 5 117) D aC ad [.ref (ad 34), .ref (ad (frO (d - 1)))] x (some (.int r)) x2 := by
  refine ok_start (by decide) (Nat.le_of_ble_eq_true rfl) rfl ?_
  intro p e s m args below meth c B hr hlk hml
  have B : Cx p s m c args b_Ma_step R_Ma D aC (rg 111 ad) 111 ad := B
  refine j_aloadn B d_Ma_step_0 rfl ?_
  refine j_getr B fl_Ma_27 (q_34) rfl d_Ma_step_1 ?_
  refine j_aloadn B d_Ma_step_4 rfl ?_
  refine j_geti B fl_Ma_61 (q_fr hd1) rfl d_Ma_step_5 ?_
  refine j_topi (nI g) hfn ?_
  refine j_aald B ⟨(q_39).1, (q_39).2.1⟩ rfl (⟨rfl, hg, by decide⟩) d_Ma_step_8 ?_
  refine j_astoren B d_Ma_step_9 (by decide) ?_
  refine j_aloadn B d_Ma_step_10 rfl ?_
  refine j_aloadn B d_Ma_step_11 rfl ?_
  refine j_geti B fl_Ma_64 (q_fr hd1) rfl d_Ma_step_12 ?_
  refine j_topi (nI pp) hpl ?_
  refine j_cVt B (ok_Pr_letterAt hg x (nI pp) hn h81) cv_Pr_letterAt ml_Ma_67 (q_pr hg) rfl rfl ⟨rfl, rfl, by decide, by decide⟩ ⟨Nat.zero_le _, Nat.zero_le _⟩ hml (Nat.le_of_ble_eq_true rfl) rfl d_Ma_step_15 ?_
  refine j_topi (x.2 (6, g, 1) pp) (by rw [if_pos ⟨nI_pos' (by omega), by rw [hn]; exact nI_lt hpn (by omega)⟩, nI_clamp (by omega)]) ?_
  refine j_istoren B d_Ma_step_18 (by decide) ?_
  refine j_aloadn B d_Ma_step_19 rfl ?_
  refine j_aloadn B d_Ma_step_20 rfl ?_
  refine j_geti B fl_Ma_64 (q_fr hd1) rfl d_Ma_step_21 ?_
  refine j_topi (nI pp) hpl ?_
  refine j_cVt B (ok_Pr_valueAt hg x (nI pp) hn h81) cv_Pr_valueAt ml_Ma_70 (q_pr hg) rfl rfl ⟨rfl, rfl, by decide, by decide⟩ ⟨Nat.zero_le _, Nat.zero_le _⟩ hml (Nat.le_of_ble_eq_true rfl) rfl d_Ma_step_24 ?_
  refine j_topi (x.2 (6, g, 2) pp) (by rw [if_pos ⟨nI_pos' (by omega), by rw [hn]; exact nI_lt hpn (by omega)⟩, nI_clamp (by omega)]) ?_
  refine j_istore B d_Ma_step_27 (by decide) ?_
  refine j_aloadn B d_Ma_step_29 rfl ?_
  refine j_dup B d_Ma_step_30 rfl ?_
  refine j_geti B fl_Ma_64 (q_fr hd1) rfl d_Ma_step_31 ?_
  refine j_iconst (v := 1) B d_Ma_step_34 (by decide) ?_
  refine j_iadd B d_Ma_step_35 ?_
  refine j_topi (nI (pp + 1)) (by rw [hpl, nI_1]) ?_
  refine j_puti B kX_inj fs_Ma_64 (q_fr hd1) rfl d_Ma_step_36 ?_
  refine j_iloadn B d_Ma_step_39 rfl ?_
  refine j_topi 1 hlt ?_
  refine j_tabIn (tgt := 95) (off := 55) B d_Ma_step_40 (by decide) (by decide) (by decide) (by decide) ?_
  refine j_aloadn B d_Ma_step_95 rfl ?_
  refine j_iload B d_Ma_step_96 rfl ?_
  refine j_cVt B (hC) cv_Ma_enter ml_Ma_46 (q_34) rfl rfl ⟨rfl, rfl, by decide, by decide⟩ ⟨Nat.zero_le _, Nat.zero_le _⟩ hml (Nat.le_of_ble_eq_true rfl) rfl d_Ma_step_98 ?_
  exact j_iret B hr hlk d_Ma_step_101 (rfl) (rfl)
set_option maxRecDepth 100000 in
theorem ok_Ma_step_T {l : Launch} {D : va_G} {aC : Nat → ClassId} {ad : Nat → Nat} (x : tm_M) {d g n pp : Nat} (hd1 : d - 1 < 8) (hg : g < 6) (hfn : x.1 (8, d - 1, 0) 0 = nI g) (hpl : x.1 (8, d - 1, 0) 1 = nI pp) (hn : x.1 (6, g, 0) 2 = nI n) (h81 : n ≤ 81) (hpn : pp < n) (hlt : x.2 (6, g, 1) pp = 2) {r : Int32} {x2 : tm_M} (hC : OkX l y_Ma_raise b_Ma_raise 2 (some .int) (rom 4 96) D aC ad [.ref (ad 34), .int (x.2 (6, g, 2) pp)] (npX d pp x) (some (.int r)) x2) :
    OkX l y_Ma_step b_Ma_step 5 (some .int) (rom 5 117) D aC ad [.ref (ad 34), .ref (ad (frO (d - 1)))] x (some (.int r)) x2 := by
  refine ok_start (by decide) (Nat.le_of_ble_eq_true rfl) rfl ?_
  intro p e s m args below meth c B hr hlk hml
  have B : Cx p s m c args b_Ma_step R_Ma D aC (rg 111 ad) 111 ad := B
  refine j_aloadn B d_Ma_step_0 rfl ?_
  refine j_getr B fl_Ma_27 (q_34) rfl d_Ma_step_1 ?_
  refine j_aloadn B d_Ma_step_4 rfl ?_
  refine j_geti B fl_Ma_61 (q_fr hd1) rfl d_Ma_step_5 ?_
  refine j_topi (nI g) hfn ?_
  refine j_aald B ⟨(q_39).1, (q_39).2.1⟩ rfl (⟨rfl, hg, by decide⟩) d_Ma_step_8 ?_
  refine j_astoren B d_Ma_step_9 (by decide) ?_
  refine j_aloadn B d_Ma_step_10 rfl ?_
  refine j_aloadn B d_Ma_step_11 rfl ?_
  refine j_geti B fl_Ma_64 (q_fr hd1) rfl d_Ma_step_12 ?_
  refine j_topi (nI pp) hpl ?_
  refine j_cVt B (ok_Pr_letterAt hg x (nI pp) hn h81) cv_Pr_letterAt ml_Ma_67 (q_pr hg) rfl rfl ⟨rfl, rfl, by decide, by decide⟩ ⟨Nat.zero_le _, Nat.zero_le _⟩ hml (Nat.le_of_ble_eq_true rfl) rfl d_Ma_step_15 ?_
  refine j_topi (x.2 (6, g, 1) pp) (by rw [if_pos ⟨nI_pos' (by omega), by rw [hn]; exact nI_lt hpn (by omega)⟩, nI_clamp (by omega)]) ?_
  refine j_istoren B d_Ma_step_18 (by decide) ?_
  refine j_aloadn B d_Ma_step_19 rfl ?_
  refine j_aloadn B d_Ma_step_20 rfl ?_
  refine j_geti B fl_Ma_64 (q_fr hd1) rfl d_Ma_step_21 ?_
  refine j_topi (nI pp) hpl ?_
  refine j_cVt B (ok_Pr_valueAt hg x (nI pp) hn h81) cv_Pr_valueAt ml_Ma_70 (q_pr hg) rfl rfl ⟨rfl, rfl, by decide, by decide⟩ ⟨Nat.zero_le _, Nat.zero_le _⟩ hml (Nat.le_of_ble_eq_true rfl) rfl d_Ma_step_24 ?_
  refine j_topi (x.2 (6, g, 2) pp) (by rw [if_pos ⟨nI_pos' (by omega), by rw [hn]; exact nI_lt hpn (by omega)⟩, nI_clamp (by omega)]) ?_
  refine j_istore B d_Ma_step_27 (by decide) ?_
  refine j_aloadn B d_Ma_step_29 rfl ?_
  refine j_dup B d_Ma_step_30 rfl ?_
  refine j_geti B fl_Ma_64 (q_fr hd1) rfl d_Ma_step_31 ?_
  refine j_iconst (v := 1) B d_Ma_step_34 (by decide) ?_
  refine j_iadd B d_Ma_step_35 ?_
  refine j_topi (nI (pp + 1)) (by rw [hpl, nI_1]) ?_
  refine j_puti B kX_inj fs_Ma_64 (q_fr hd1) rfl d_Ma_step_36 ?_
  refine j_iloadn B d_Ma_step_39 rfl ?_
  refine j_topi 2 hlt ?_
  refine j_tabIn (tgt := 102) (off := 62) B d_Ma_step_40 (by decide) (by decide) (by decide) (by decide) ?_
  refine j_aloadn B d_Ma_step_102 rfl ?_
  refine j_iload B d_Ma_step_103 rfl ?_
  refine j_cVt B (hC) cv_Ma_raise ml_Ma_76 (q_34) rfl rfl ⟨rfl, rfl, by decide, by decide⟩ ⟨Nat.zero_le _, Nat.zero_le _⟩ hml (Nat.le_of_ble_eq_true rfl) rfl d_Ma_step_105 ?_
  exact j_iret B hr hlk d_Ma_step_108 (rfl) (rfl)
set_option maxRecDepth 100000 in
theorem ok_Ma_step_D {l : Launch} {D : va_G} {aC : Nat → ClassId} {ad : Nat → Nat} (x : tm_M) {d g n pp : Nat} (hd1 : d - 1 < 8) (hg : g < 6) (hfn : x.1 (8, d - 1, 0) 0 = nI g) (hpl : x.1 (8, d - 1, 0) 1 = nI pp) (hn : x.1 (6, g, 0) 2 = nI n) (h81 : n ≤ 81) (hpn : pp < n) (hlt : x.2 (6, g, 1) pp = 5) {r : Int32} {x2 : tm_M} (hC : OkX l y_Ma_clean b_Ma_clean 3 (some .int) (rom 3 62) D aC ad [.ref (ad 34), .int (x.2 (6, g, 2) pp)] (npX d pp x) (some (.int r)) x2) :
    OkX l y_Ma_step b_Ma_step 5 (some .int) (rom 5 117) D aC ad [.ref (ad 34), .ref (ad (frO (d - 1)))] x (some (.int r)) x2 := by
  refine ok_start (by decide) (Nat.le_of_ble_eq_true rfl) rfl ?_
  intro p e s m args below meth c B hr hlk hml
  have B : Cx p s m c args b_Ma_step R_Ma D aC (rg 111 ad) 111 ad := B
  refine j_aloadn B d_Ma_step_0 rfl ?_
  refine j_getr B fl_Ma_27 (q_34) rfl d_Ma_step_1 ?_
  refine j_aloadn B d_Ma_step_4 rfl ?_
  refine j_geti B fl_Ma_61 (q_fr hd1) rfl d_Ma_step_5 ?_
  refine j_topi (nI g) hfn ?_
  refine j_aald B ⟨(q_39).1, (q_39).2.1⟩ rfl (⟨rfl, hg, by decide⟩) d_Ma_step_8 ?_
  refine j_astoren B d_Ma_step_9 (by decide) ?_
  refine j_aloadn B d_Ma_step_10 rfl ?_
  refine j_aloadn B d_Ma_step_11 rfl ?_
  refine j_geti B fl_Ma_64 (q_fr hd1) rfl d_Ma_step_12 ?_
  refine j_topi (nI pp) hpl ?_
  refine j_cVt B (ok_Pr_letterAt hg x (nI pp) hn h81) cv_Pr_letterAt ml_Ma_67 (q_pr hg) rfl rfl ⟨rfl, rfl, by decide, by decide⟩ ⟨Nat.zero_le _, Nat.zero_le _⟩ hml (Nat.le_of_ble_eq_true rfl) rfl d_Ma_step_15 ?_
  refine j_topi (x.2 (6, g, 1) pp) (by rw [if_pos ⟨nI_pos' (by omega), by rw [hn]; exact nI_lt hpn (by omega)⟩, nI_clamp (by omega)]) ?_
  refine j_istoren B d_Ma_step_18 (by decide) ?_
  refine j_aloadn B d_Ma_step_19 rfl ?_
  refine j_aloadn B d_Ma_step_20 rfl ?_
  refine j_geti B fl_Ma_64 (q_fr hd1) rfl d_Ma_step_21 ?_
  refine j_topi (nI pp) hpl ?_
  refine j_cVt B (ok_Pr_valueAt hg x (nI pp) hn h81) cv_Pr_valueAt ml_Ma_70 (q_pr hg) rfl rfl ⟨rfl, rfl, by decide, by decide⟩ ⟨Nat.zero_le _, Nat.zero_le _⟩ hml (Nat.le_of_ble_eq_true rfl) rfl d_Ma_step_24 ?_
  refine j_topi (x.2 (6, g, 2) pp) (by rw [if_pos ⟨nI_pos' (by omega), by rw [hn]; exact nI_lt hpn (by omega)⟩, nI_clamp (by omega)]) ?_
  refine j_istore B d_Ma_step_27 (by decide) ?_
  refine j_aloadn B d_Ma_step_29 rfl ?_
  refine j_dup B d_Ma_step_30 rfl ?_
  refine j_geti B fl_Ma_64 (q_fr hd1) rfl d_Ma_step_31 ?_
  refine j_iconst (v := 1) B d_Ma_step_34 (by decide) ?_
  refine j_iadd B d_Ma_step_35 ?_
  refine j_topi (nI (pp + 1)) (by rw [hpl, nI_1]) ?_
  refine j_puti B kX_inj fs_Ma_64 (q_fr hd1) rfl d_Ma_step_36 ?_
  refine j_iloadn B d_Ma_step_39 rfl ?_
  refine j_topi 5 hlt ?_
  refine j_tabIn (tgt := 126) (off := 86) B d_Ma_step_40 (by decide) (by decide) (by decide) (by decide) ?_
  refine j_aloadn B d_Ma_step_126 rfl ?_
  refine j_iload B d_Ma_step_127 rfl ?_
  refine j_cVt B (hC) cv_Ma_clean ml_Ma_87 (q_34) rfl rfl ⟨rfl, rfl, by decide, by decide⟩ ⟨Nat.zero_le _, Nat.zero_le _⟩ hml (Nat.le_of_ble_eq_true rfl) rfl d_Ma_step_129 ?_
  exact j_iret B hr hlk d_Ma_step_132 (rfl) (rfl)
set_option maxRecDepth 100000 in
theorem ok_Ma_step_R {l : Launch} {D : va_G} {aC : Nat → ClassId} {ad : Nat → Nat} (x : tm_M) {d g n pp : Nat} (hd1 : d - 1 < 8) (hg : g < 6) (hfn : x.1 (8, d - 1, 0) 0 = nI g) (hpl : x.1 (8, d - 1, 0) 1 = nI pp) (hn : x.1 (6, g, 0) 2 = nI n) (h81 : n ≤ 81) (hpn : pp < n) (hlt : x.2 (6, g, 1) pp = 3) {t : Nat} (hct : x.1 (8, d - 1, 0) 3 = nI (t + 1)) (h5 : t < 5) {r : Int32} {x2 : tm_M} (hC : OkX l y_Ma_raise b_Ma_raise 2 (some .int) (rom 4 96) D aC ad [.ref (ad 34), .int (x.2 (8, d - 1, 1) t)] (npX d pp x) (some (.int r)) x2) :
    OkX l y_Ma_step b_Ma_step 5 (some .int) (rom 5 117) D aC ad [.ref (ad 34), .ref (ad (frO (d - 1)))] x (some (.int r)) x2 := by
  refine ok_start (by decide) (Nat.le_of_ble_eq_true rfl) rfl ?_
  intro p e s m args below meth c B hr hlk hml
  have B : Cx p s m c args b_Ma_step R_Ma D aC (rg 111 ad) 111 ad := B
  refine j_aloadn B d_Ma_step_0 rfl ?_
  refine j_getr B fl_Ma_27 (q_34) rfl d_Ma_step_1 ?_
  refine j_aloadn B d_Ma_step_4 rfl ?_
  refine j_geti B fl_Ma_61 (q_fr hd1) rfl d_Ma_step_5 ?_
  refine j_topi (nI g) hfn ?_
  refine j_aald B ⟨(q_39).1, (q_39).2.1⟩ rfl (⟨rfl, hg, by decide⟩) d_Ma_step_8 ?_
  refine j_astoren B d_Ma_step_9 (by decide) ?_
  refine j_aloadn B d_Ma_step_10 rfl ?_
  refine j_aloadn B d_Ma_step_11 rfl ?_
  refine j_geti B fl_Ma_64 (q_fr hd1) rfl d_Ma_step_12 ?_
  refine j_topi (nI pp) hpl ?_
  refine j_cVt B (ok_Pr_letterAt hg x (nI pp) hn h81) cv_Pr_letterAt ml_Ma_67 (q_pr hg) rfl rfl ⟨rfl, rfl, by decide, by decide⟩ ⟨Nat.zero_le _, Nat.zero_le _⟩ hml (Nat.le_of_ble_eq_true rfl) rfl d_Ma_step_15 ?_
  refine j_topi (x.2 (6, g, 1) pp) (by rw [if_pos ⟨nI_pos' (by omega), by rw [hn]; exact nI_lt hpn (by omega)⟩, nI_clamp (by omega)]) ?_
  refine j_istoren B d_Ma_step_18 (by decide) ?_
  refine j_aloadn B d_Ma_step_19 rfl ?_
  refine j_aloadn B d_Ma_step_20 rfl ?_
  refine j_geti B fl_Ma_64 (q_fr hd1) rfl d_Ma_step_21 ?_
  refine j_topi (nI pp) hpl ?_
  refine j_cVt B (ok_Pr_valueAt hg x (nI pp) hn h81) cv_Pr_valueAt ml_Ma_70 (q_pr hg) rfl rfl ⟨rfl, rfl, by decide, by decide⟩ ⟨Nat.zero_le _, Nat.zero_le _⟩ hml (Nat.le_of_ble_eq_true rfl) rfl d_Ma_step_24 ?_
  refine j_topi (x.2 (6, g, 2) pp) (by rw [if_pos ⟨nI_pos' (by omega), by rw [hn]; exact nI_lt hpn (by omega)⟩, nI_clamp (by omega)]) ?_
  refine j_istore B d_Ma_step_27 (by decide) ?_
  refine j_aloadn B d_Ma_step_29 rfl ?_
  refine j_dup B d_Ma_step_30 rfl ?_
  refine j_geti B fl_Ma_64 (q_fr hd1) rfl d_Ma_step_31 ?_
  refine j_iconst (v := 1) B d_Ma_step_34 (by decide) ?_
  refine j_iadd B d_Ma_step_35 ?_
  refine j_topi (nI (pp + 1)) (by rw [hpl, nI_1]) ?_
  refine j_puti B kX_inj fs_Ma_64 (q_fr hd1) rfl d_Ma_step_36 ?_
  refine j_iloadn B d_Ma_step_39 rfl ?_
  refine j_topi 3 hlt ?_
  refine j_tabIn (tgt := 109) (off := 69) B d_Ma_step_40 (by decide) (by decide) (by decide) (by decide) ?_
  refine j_aloadn B d_Ma_step_109 rfl ?_
  refine j_aloadn B d_Ma_step_110 rfl ?_
  refine j_cVt B (ok_Fr_latestCaught hd1 (npX d pp x) (t := t) (by rw [rIj (by decide)]; exact hct) h5) cv_Fr_latestCaught ml_Ma_79 (q_fr hd1) rfl rfl ⟨rfl, rfl, by decide, by decide⟩ ⟨Nat.zero_le _, Nat.zero_le _⟩ hml (Nat.le_of_ble_eq_true rfl) rfl d_Ma_step_111 ?_
  refine j_cVt B (hC) cv_Ma_raise ml_Ma_76 (q_34) rfl rfl ⟨rfl, rfl, by decide, by decide⟩ ⟨Nat.zero_le _, Nat.zero_le _⟩ hml (Nat.le_of_ble_eq_true rfl) rfl d_Ma_step_114 ?_
  exact j_iret B hr hlk d_Ma_step_117 (rfl) (rfl)
set_option maxRecDepth 100000 in
theorem ok_Ma_step_G {l : Launch} {D : va_G} {aC : Nat → ClassId} {ad : Nat → Nat} (x : tm_M) {d g n pp : Nat} (hd1 : d - 1 < 8) (hg : g < 6) (hfn : x.1 (8, d - 1, 0) 0 = nI g) (hpl : x.1 (8, d - 1, 0) 1 = nI pp) (hn : x.1 (6, g, 0) 2 = nI n) (h81 : n ≤ 81) (hpn : pp < n) (hlt : x.2 (6, g, 1) pp = 4)  :
    OkX l y_Ma_step b_Ma_step 5 (some .int) (rom 5 117) D aC ad [.ref (ad 34), .ref (ad (frO (d - 1)))] x (some (.int (-1))) (sI x (8, d - 1, 0) 1 (x.2 (6, g, 2) pp)) := by
  refine ok_start (by decide) (Nat.le_of_ble_eq_true rfl) rfl ?_
  intro p e s m args below meth c B hr hlk hml
  have B : Cx p s m c args b_Ma_step R_Ma D aC (rg 111 ad) 111 ad := B
  refine j_aloadn B d_Ma_step_0 rfl ?_
  refine j_getr B fl_Ma_27 (q_34) rfl d_Ma_step_1 ?_
  refine j_aloadn B d_Ma_step_4 rfl ?_
  refine j_geti B fl_Ma_61 (q_fr hd1) rfl d_Ma_step_5 ?_
  refine j_topi (nI g) hfn ?_
  refine j_aald B ⟨(q_39).1, (q_39).2.1⟩ rfl (⟨rfl, hg, by decide⟩) d_Ma_step_8 ?_
  refine j_astoren B d_Ma_step_9 (by decide) ?_
  refine j_aloadn B d_Ma_step_10 rfl ?_
  refine j_aloadn B d_Ma_step_11 rfl ?_
  refine j_geti B fl_Ma_64 (q_fr hd1) rfl d_Ma_step_12 ?_
  refine j_topi (nI pp) hpl ?_
  refine j_cVt B (ok_Pr_letterAt hg x (nI pp) hn h81) cv_Pr_letterAt ml_Ma_67 (q_pr hg) rfl rfl ⟨rfl, rfl, by decide, by decide⟩ ⟨Nat.zero_le _, Nat.zero_le _⟩ hml (Nat.le_of_ble_eq_true rfl) rfl d_Ma_step_15 ?_
  refine j_topi (x.2 (6, g, 1) pp) (by rw [if_pos ⟨nI_pos' (by omega), by rw [hn]; exact nI_lt hpn (by omega)⟩, nI_clamp (by omega)]) ?_
  refine j_istoren B d_Ma_step_18 (by decide) ?_
  refine j_aloadn B d_Ma_step_19 rfl ?_
  refine j_aloadn B d_Ma_step_20 rfl ?_
  refine j_geti B fl_Ma_64 (q_fr hd1) rfl d_Ma_step_21 ?_
  refine j_topi (nI pp) hpl ?_
  refine j_cVt B (ok_Pr_valueAt hg x (nI pp) hn h81) cv_Pr_valueAt ml_Ma_70 (q_pr hg) rfl rfl ⟨rfl, rfl, by decide, by decide⟩ ⟨Nat.zero_le _, Nat.zero_le _⟩ hml (Nat.le_of_ble_eq_true rfl) rfl d_Ma_step_24 ?_
  refine j_topi (x.2 (6, g, 2) pp) (by rw [if_pos ⟨nI_pos' (by omega), by rw [hn]; exact nI_lt hpn (by omega)⟩, nI_clamp (by omega)]) ?_
  refine j_istore B d_Ma_step_27 (by decide) ?_
  refine j_aloadn B d_Ma_step_29 rfl ?_
  refine j_dup B d_Ma_step_30 rfl ?_
  refine j_geti B fl_Ma_64 (q_fr hd1) rfl d_Ma_step_31 ?_
  refine j_iconst (v := 1) B d_Ma_step_34 (by decide) ?_
  refine j_iadd B d_Ma_step_35 ?_
  refine j_topi (nI (pp + 1)) (by rw [hpl, nI_1]) ?_
  refine j_puti B kX_inj fs_Ma_64 (q_fr hd1) rfl d_Ma_step_36 ?_
  refine j_iloadn B d_Ma_step_39 rfl ?_
  refine j_topi 4 hlt ?_
  refine j_tabIn (tgt := 118) (off := 78) B d_Ma_step_40 (by decide) (by decide) (by decide) (by decide) ?_
  refine j_aloadn B d_Ma_step_118 rfl ?_
  refine j_aloadn B d_Ma_step_119 rfl ?_
  refine j_iload B d_Ma_step_120 rfl ?_
  refine j_cVt B (ok_Ma_jump hd1 (npX d pp x) (x.2 (6, g, 2) pp)) cv_Ma_jump ml_Ma_83 (q_34) rfl rfl ⟨rfl, rfl, by decide, by decide⟩ ⟨Nat.zero_le _, Nat.zero_le _⟩ hml (Nat.le_of_ble_eq_true rfl) rfl d_Ma_step_122 ?_
  exact j_iret B hr hlk d_Ma_step_125 (rfl) (congrArg (tw ad aC sX kX) sI_sI)
set_option maxRecDepth 100000 in
theorem ok_Ma_step_E {l : Launch} {D : va_G} {aC : Nat → ClassId} {ad : Nat → Nat} (x : tm_M) {d g n pp : Nat} (hd1 : d - 1 < 8) (hg : g < 6) (hfn : x.1 (8, d - 1, 0) 0 = nI g) (hpl : x.1 (8, d - 1, 0) 1 = nI pp) (hn : x.1 (6, g, 0) 2 = nI n) (h81 : n ≤ 81) (hpn : pp < n) (hlt : x.2 (6, g, 1) pp = 6) {t : Nat} (hct : x.1 (8, d - 1, 0) 3 = nI (t + 1)) (h5 : t < 5) :
    OkX l y_Ma_step b_Ma_step 5 (some .int) (rom 5 117) D aC ad [.ref (ad 34), .ref (ad (frO (d - 1)))] x (some (.int (-1))) (sI (npX d pp x) (8, d - 1, 0) 3 (nI t)) := by
  refine ok_start (by decide) (Nat.le_of_ble_eq_true rfl) rfl ?_
  intro p e s m args below meth c B hr hlk hml
  have B : Cx p s m c args b_Ma_step R_Ma D aC (rg 111 ad) 111 ad := B
  refine j_aloadn B d_Ma_step_0 rfl ?_
  refine j_getr B fl_Ma_27 (q_34) rfl d_Ma_step_1 ?_
  refine j_aloadn B d_Ma_step_4 rfl ?_
  refine j_geti B fl_Ma_61 (q_fr hd1) rfl d_Ma_step_5 ?_
  refine j_topi (nI g) hfn ?_
  refine j_aald B ⟨(q_39).1, (q_39).2.1⟩ rfl (⟨rfl, hg, by decide⟩) d_Ma_step_8 ?_
  refine j_astoren B d_Ma_step_9 (by decide) ?_
  refine j_aloadn B d_Ma_step_10 rfl ?_
  refine j_aloadn B d_Ma_step_11 rfl ?_
  refine j_geti B fl_Ma_64 (q_fr hd1) rfl d_Ma_step_12 ?_
  refine j_topi (nI pp) hpl ?_
  refine j_cVt B (ok_Pr_letterAt hg x (nI pp) hn h81) cv_Pr_letterAt ml_Ma_67 (q_pr hg) rfl rfl ⟨rfl, rfl, by decide, by decide⟩ ⟨Nat.zero_le _, Nat.zero_le _⟩ hml (Nat.le_of_ble_eq_true rfl) rfl d_Ma_step_15 ?_
  refine j_topi (x.2 (6, g, 1) pp) (by rw [if_pos ⟨nI_pos' (by omega), by rw [hn]; exact nI_lt hpn (by omega)⟩, nI_clamp (by omega)]) ?_
  refine j_istoren B d_Ma_step_18 (by decide) ?_
  refine j_aloadn B d_Ma_step_19 rfl ?_
  refine j_aloadn B d_Ma_step_20 rfl ?_
  refine j_geti B fl_Ma_64 (q_fr hd1) rfl d_Ma_step_21 ?_
  refine j_topi (nI pp) hpl ?_
  refine j_cVt B (ok_Pr_valueAt hg x (nI pp) hn h81) cv_Pr_valueAt ml_Ma_70 (q_pr hg) rfl rfl ⟨rfl, rfl, by decide, by decide⟩ ⟨Nat.zero_le _, Nat.zero_le _⟩ hml (Nat.le_of_ble_eq_true rfl) rfl d_Ma_step_24 ?_
  refine j_topi (x.2 (6, g, 2) pp) (by rw [if_pos ⟨nI_pos' (by omega), by rw [hn]; exact nI_lt hpn (by omega)⟩, nI_clamp (by omega)]) ?_
  refine j_istore B d_Ma_step_27 (by decide) ?_
  refine j_aloadn B d_Ma_step_29 rfl ?_
  refine j_dup B d_Ma_step_30 rfl ?_
  refine j_geti B fl_Ma_64 (q_fr hd1) rfl d_Ma_step_31 ?_
  refine j_iconst (v := 1) B d_Ma_step_34 (by decide) ?_
  refine j_iadd B d_Ma_step_35 ?_
  refine j_topi (nI (pp + 1)) (by rw [hpl, nI_1]) ?_
  refine j_puti B kX_inj fs_Ma_64 (q_fr hd1) rfl d_Ma_step_36 ?_
  refine j_iloadn B d_Ma_step_39 rfl ?_
  refine j_topi 6 hlt ?_
  refine j_tabIn (tgt := 133) (off := 93) B d_Ma_step_40 (by decide) (by decide) (by decide) (by decide) ?_
  refine j_aloadn B d_Ma_step_133 rfl ?_
  refine j_aloadn B d_Ma_step_134 rfl ?_
  refine j_cVt B (ok_Ma_endCatch hd1 (npX d pp x) (t := t) (by rw [rIj (by decide)]; exact hct) h5) cv_Ma_endCatch ml_Ma_90 (q_34) rfl rfl ⟨rfl, rfl, by decide, by decide⟩ ⟨Nat.zero_le _, Nat.zero_le _⟩ hml (Nat.le_of_ble_eq_true rfl) rfl d_Ma_step_135 ?_
  exact j_iret B hr hlk d_Ma_step_138 (rfl) (rfl)
set_option maxRecDepth 100000 in
theorem ok_Ma_step_U {l : Launch} {D : va_G} {aC : Nat → ClassId} {ad : Nat → Nat} (x : tm_M) {d g n pp : Nat} (hd1 : d - 1 < 8) (hg : g < 6) (hfn : x.1 (8, d - 1, 0) 0 = nI g) (hpl : x.1 (8, d - 1, 0) 1 = nI pp) (hn : x.1 (6, g, 0) 2 = nI n) (h81 : n ≤ 81) (hpn : pp < n) (hlt : x.2 (6, g, 1) pp = 7) {a b : Nat} (ha : x.1 (6, g, 0) 6 = nI a) (h40 : a ≤ 40) (hla : x.1 (5, 0, 0) 8 = nI b) (hb : b < a) {r : Int32} {x2 : tm_M} (hC : OkX l y_Ma_unwind b_Ma_unwind 3 (some .int) (rom 3 66) D aC ad [.ref (ad 34), .int (x.2 (6, g, 5) b)] (npX d pp x) (some (.int r)) x2) :
    OkX l y_Ma_step b_Ma_step 5 (some .int) (rom 5 117) D aC ad [.ref (ad 34), .ref (ad (frO (d - 1)))] x (some (.int r)) x2 := by
  refine ok_start (by decide) (Nat.le_of_ble_eq_true rfl) rfl ?_
  intro p e s m args below meth c B hr hlk hml
  have B : Cx p s m c args b_Ma_step R_Ma D aC (rg 111 ad) 111 ad := B
  refine j_aloadn B d_Ma_step_0 rfl ?_
  refine j_getr B fl_Ma_27 (q_34) rfl d_Ma_step_1 ?_
  refine j_aloadn B d_Ma_step_4 rfl ?_
  refine j_geti B fl_Ma_61 (q_fr hd1) rfl d_Ma_step_5 ?_
  refine j_topi (nI g) hfn ?_
  refine j_aald B ⟨(q_39).1, (q_39).2.1⟩ rfl (⟨rfl, hg, by decide⟩) d_Ma_step_8 ?_
  refine j_astoren B d_Ma_step_9 (by decide) ?_
  refine j_aloadn B d_Ma_step_10 rfl ?_
  refine j_aloadn B d_Ma_step_11 rfl ?_
  refine j_geti B fl_Ma_64 (q_fr hd1) rfl d_Ma_step_12 ?_
  refine j_topi (nI pp) hpl ?_
  refine j_cVt B (ok_Pr_letterAt hg x (nI pp) hn h81) cv_Pr_letterAt ml_Ma_67 (q_pr hg) rfl rfl ⟨rfl, rfl, by decide, by decide⟩ ⟨Nat.zero_le _, Nat.zero_le _⟩ hml (Nat.le_of_ble_eq_true rfl) rfl d_Ma_step_15 ?_
  refine j_topi (x.2 (6, g, 1) pp) (by rw [if_pos ⟨nI_pos' (by omega), by rw [hn]; exact nI_lt hpn (by omega)⟩, nI_clamp (by omega)]) ?_
  refine j_istoren B d_Ma_step_18 (by decide) ?_
  refine j_aloadn B d_Ma_step_19 rfl ?_
  refine j_aloadn B d_Ma_step_20 rfl ?_
  refine j_geti B fl_Ma_64 (q_fr hd1) rfl d_Ma_step_21 ?_
  refine j_topi (nI pp) hpl ?_
  refine j_cVt B (ok_Pr_valueAt hg x (nI pp) hn h81) cv_Pr_valueAt ml_Ma_70 (q_pr hg) rfl rfl ⟨rfl, rfl, by decide, by decide⟩ ⟨Nat.zero_le _, Nat.zero_le _⟩ hml (Nat.le_of_ble_eq_true rfl) rfl d_Ma_step_24 ?_
  refine j_topi (x.2 (6, g, 2) pp) (by rw [if_pos ⟨nI_pos' (by omega), by rw [hn]; exact nI_lt hpn (by omega)⟩, nI_clamp (by omega)]) ?_
  refine j_istore B d_Ma_step_27 (by decide) ?_
  refine j_aloadn B d_Ma_step_29 rfl ?_
  refine j_dup B d_Ma_step_30 rfl ?_
  refine j_geti B fl_Ma_64 (q_fr hd1) rfl d_Ma_step_31 ?_
  refine j_iconst (v := 1) B d_Ma_step_34 (by decide) ?_
  refine j_iadd B d_Ma_step_35 ?_
  refine j_topi (nI (pp + 1)) (by rw [hpl, nI_1]) ?_
  refine j_puti B kX_inj fs_Ma_64 (q_fr hd1) rfl d_Ma_step_36 ?_
  refine j_iloadn B d_Ma_step_39 rfl ?_
  refine j_topi 7 hlt ?_
  refine j_tabIn (tgt := 139) (off := 99) B d_Ma_step_40 (by decide) (by decide) (by decide) (by decide) ?_
  refine j_aloadn B d_Ma_step_139 rfl ?_
  refine j_aloadn B d_Ma_step_140 rfl ?_
  refine j_aloadn B d_Ma_step_141 rfl ?_
  refine j_geti B fl_Ma_93 (q_34) rfl d_Ma_step_142 ?_
  refine j_topi (nI b) (by rw [rIK (by simp)]; exact hla) ?_
  refine j_cVt B (ok_Pr_nextOf hg (npX d pp x) (nI b) (a := a) (by rw [rIK (by simp)]; exact ha) h40) cv_Pr_nextOf ml_Ma_96 (q_pr hg) rfl rfl ⟨rfl, rfl, by decide, by decide⟩ ⟨Nat.zero_le _, Nat.zero_le _⟩ hml (Nat.le_of_ble_eq_true rfl) rfl d_Ma_step_145 ?_
  refine j_topi (x.2 (6, g, 5) b) (by rw [rIK (by simp), if_pos ⟨nI_pos' (by omega), by rw [ha]; exact nI_lt hb (by omega)⟩, nI_clamp (by omega)]; rfl) ?_
  refine j_cVt B (hC) cv_Ma_unwind ml_Ma_99 (q_34) rfl rfl ⟨rfl, rfl, by decide, by decide⟩ ⟨Nat.zero_le _, Nat.zero_le _⟩ hml (Nat.le_of_ble_eq_true rfl) rfl d_Ma_step_148 ?_
  exact j_iret B hr hlk d_Ma_step_151 (rfl) (rfl)
set_option maxRecDepth 100000 in
theorem ok_Ma_step_X {l : Launch} {D : va_G} {aC : Nat → ClassId} {ad : Nat → Nat} (x : tm_M) {d g n pp : Nat} (hd1 : d - 1 < 8) (hg : g < 6) (hfn : x.1 (8, d - 1, 0) 0 = nI g) (hpl : x.1 (8, d - 1, 0) 1 = nI pp) (hn : x.1 (6, g, 0) 2 = nI n) (h81 : n ≤ 81) (hpn : pp < n) (hlt : x.2 (6, g, 1) pp = 8) {e2 : Nat} (hde : x.1 (5, 0, 0) 4 = nI (e2 + 1)) (he8 : e2 < 8) :
    OkX l y_Ma_step b_Ma_step 5 (some .int) (rom 5 117) D aC ad [.ref (ad 34), .ref (ad (frO (d - 1)))] x (some (.int (if 0 < e2 then -1 else 0))) (sI (npX d pp x) (5, 0, 0) 4 (nI e2)) := by
  refine ok_start (by decide) (Nat.le_of_ble_eq_true rfl) rfl ?_
  intro p e s m args below meth c B hr hlk hml
  have B : Cx p s m c args b_Ma_step R_Ma D aC (rg 111 ad) 111 ad := B
  refine j_aloadn B d_Ma_step_0 rfl ?_
  refine j_getr B fl_Ma_27 (q_34) rfl d_Ma_step_1 ?_
  refine j_aloadn B d_Ma_step_4 rfl ?_
  refine j_geti B fl_Ma_61 (q_fr hd1) rfl d_Ma_step_5 ?_
  refine j_topi (nI g) hfn ?_
  refine j_aald B ⟨(q_39).1, (q_39).2.1⟩ rfl (⟨rfl, hg, by decide⟩) d_Ma_step_8 ?_
  refine j_astoren B d_Ma_step_9 (by decide) ?_
  refine j_aloadn B d_Ma_step_10 rfl ?_
  refine j_aloadn B d_Ma_step_11 rfl ?_
  refine j_geti B fl_Ma_64 (q_fr hd1) rfl d_Ma_step_12 ?_
  refine j_topi (nI pp) hpl ?_
  refine j_cVt B (ok_Pr_letterAt hg x (nI pp) hn h81) cv_Pr_letterAt ml_Ma_67 (q_pr hg) rfl rfl ⟨rfl, rfl, by decide, by decide⟩ ⟨Nat.zero_le _, Nat.zero_le _⟩ hml (Nat.le_of_ble_eq_true rfl) rfl d_Ma_step_15 ?_
  refine j_topi (x.2 (6, g, 1) pp) (by rw [if_pos ⟨nI_pos' (by omega), by rw [hn]; exact nI_lt hpn (by omega)⟩, nI_clamp (by omega)]) ?_
  refine j_istoren B d_Ma_step_18 (by decide) ?_
  refine j_aloadn B d_Ma_step_19 rfl ?_
  refine j_aloadn B d_Ma_step_20 rfl ?_
  refine j_geti B fl_Ma_64 (q_fr hd1) rfl d_Ma_step_21 ?_
  refine j_topi (nI pp) hpl ?_
  refine j_cVt B (ok_Pr_valueAt hg x (nI pp) hn h81) cv_Pr_valueAt ml_Ma_70 (q_pr hg) rfl rfl ⟨rfl, rfl, by decide, by decide⟩ ⟨Nat.zero_le _, Nat.zero_le _⟩ hml (Nat.le_of_ble_eq_true rfl) rfl d_Ma_step_24 ?_
  refine j_topi (x.2 (6, g, 2) pp) (by rw [if_pos ⟨nI_pos' (by omega), by rw [hn]; exact nI_lt hpn (by omega)⟩, nI_clamp (by omega)]) ?_
  refine j_istore B d_Ma_step_27 (by decide) ?_
  refine j_aloadn B d_Ma_step_29 rfl ?_
  refine j_dup B d_Ma_step_30 rfl ?_
  refine j_geti B fl_Ma_64 (q_fr hd1) rfl d_Ma_step_31 ?_
  refine j_iconst (v := 1) B d_Ma_step_34 (by decide) ?_
  refine j_iadd B d_Ma_step_35 ?_
  refine j_topi (nI (pp + 1)) (by rw [hpl, nI_1]) ?_
  refine j_puti B kX_inj fs_Ma_64 (q_fr hd1) rfl d_Ma_step_36 ?_
  refine j_iloadn B d_Ma_step_39 rfl ?_
  refine j_topi 8 hlt ?_
  refine j_tabOut (tgt := 152) B d_Ma_step_40 (Or.inr (by decide)) (by decide) ?_
  refine j_aloadn B d_Ma_step_152 rfl ?_
  refine j_cVt B (ok_Ma_leave (npX d pp x) (d := e2) (by rw [rIK (by simp)]; exact hde) he8) cv_Ma_leave ml_Ma_102 (q_34) rfl rfl ⟨rfl, rfl, by decide, by decide⟩ ⟨Nat.zero_le _, Nat.zero_le _⟩ hml (Nat.le_of_ble_eq_true rfl) rfl d_Ma_step_153 ?_
  exact j_iret B hr hlk d_Ma_step_156 (rfl) (rfl)
set_option maxRecDepth 100000 in
theorem ok_Ma_execute {l : Launch} {D : va_G} {aC : Nat → ClassId} {ad : Nat → Nat} (x : tm_M) {g N : Nat} {r : Int32} (X : Nat → tm_M) (dp : Nat → Nat) (hE : OkX l y_Ma_enter b_Ma_enter 2 (some .int) (rom 1 26) D aC ad [.ref (ad 34), .int (nI g)] (sI (sI (sI (sI (sI (sI (sI x (5, 0, 3) 1 0) (5, 0, 3) 2 0) (5, 0, 3) 3 0) (5, 0, 3) 4 0) (5, 0, 3) 5 0) (5, 0, 3) 6 (-1)) (5, 0, 0) 4 0) (some (.int (-1))) (X 0)) (hN : N ≤ 300) (hN0 : 0 < N) (hst : ∀ j, j ≤ N → (X j).1 (5, 0, 3) 2 = nI j) (hdp : ∀ j, j < N → (X j).1 (5, 0, 0) 4 = nI (dp j) ∧ 0 < dp j ∧ dp j ≤ 8) (hS : ∀ j, j < N → OkX l y_Ma_step b_Ma_step 5 (some .int) (rom 5 117) D aC ad [.ref (ad 34), .ref (ad (frO (dp j - 1)))] (sI (X j) (5, 0, 3) 2 (nI (j + 1))) (some (.int (if j + 1 = N then r else -1))) (X (j + 1))) (hr1 : r = -1 → N = 300) :
    OkX l y_Ma_execute b_Ma_execute 3 (some .int) (rom 6 141) D aC ad [.ref (ad 34), .int (nI g)] x (some (.int (if r = -1 then 3 else r))) (X N) := by
  refine ok_start (by decide) (Nat.le_of_ble_eq_true rfl) rfl ?_
  intro p e s m args below meth c B hr hlk hml
  have B : Cx p s m c args b_Ma_execute R_Ma D aC (rg 111 ad) 111 ad := B
  have fin : J p l e (rom 6 141) s m args below meth c D (rg 111 ad) 0 0 (MQ below (Qk D aC 111 ad (some (.int (if r = -1 then 3 else r))) (wX ad aC (X N))) args s 0 0 (rg 111 ad)) 111 ad (wX ad aC (X N)) 3 18 [(2, .int r), (0, .ref (ad 34))] [] := by
    refine j_iloadn B d_Ma_execute_18 rfl ?_
    refine j_iconst (v := (-1)) B d_Ma_execute_19 (by decide) ?_
    refine j_icmp_ne (tgt := 61) B d_Ma_execute_20 (by decide) (fun h20 => ?_) (fun h20 => ?_)
    · -- yes
      refine j_iloadn B d_Ma_execute_61 rfl ?_
      refine j_iconst (v := (-1)) B d_Ma_execute_62 (by decide) ?_
      refine j_icmp_ne (tgt := 70) B d_Ma_execute_63 (by decide) (fun h63 => ?_) (fun h63 => ?_)
      · -- yes
        refine j_iloadn B d_Ma_execute_70 rfl ?_
        exact j_iret B hr hlk d_Ma_execute_71 (by first | exact sv (if_pos h63) | exact sv (if_neg h63)) (rfl)
      · -- no
        refine j_iconst (v := 3) B d_Ma_execute_66 (by decide) ?_
        refine j_goto (tgt := 71) B d_Ma_execute_67 (by decide) ?_
        exact j_iret B hr hlk d_Ma_execute_71 (by first | exact sv (if_pos h63) | exact sv (if_neg h63)) (rfl)
    · -- no
      refine j_aloadn B d_Ma_execute_23 rfl ?_
      refine j_getr B fl_Ma_21 (q_34) rfl d_Ma_execute_24 ?_
      refine j_geti B fl_Ma_50 (q_37) rfl d_Ma_execute_27 ?_
      refine j_topi (nI 300) (by rw [hst N (Nat.le_refl N), hr1 h20]) ?_
      refine j_sipush (v := 300) B d_Ma_execute_30 (by decide) ?_
      refine j_icmp_ge (tgt := 61) B d_Ma_execute_33 (by decide) (fun h33 => ?_) (fun h33 => (show False from h33 (nI_le (a := 300) (Nat.le_refl _) (by decide))).elim)
      refine j_iloadn B d_Ma_execute_61 rfl ?_
      refine j_iconst (v := (-1)) B d_Ma_execute_62 (by decide) ?_
      refine j_icmp_ne (tgt := 70) B d_Ma_execute_63 (by decide) (fun h63 => ?_) (fun h63 => ?_)
      · -- yes
        refine j_iloadn B d_Ma_execute_70 rfl ?_
        exact j_iret B hr hlk d_Ma_execute_71 (by first | exact sv (if_pos h63) | exact sv (if_neg h63)) (rfl)
      · -- no
        refine j_iconst (v := 3) B d_Ma_execute_66 (by decide) ?_
        refine j_goto (tgt := 71) B d_Ma_execute_67 (by decide) ?_
        exact j_iret B hr hlk d_Ma_execute_71 (by first | exact sv (if_pos h63) | exact sv (if_neg h63)) (rfl)
  have loop : ∀ (q j : Nat), j + q + 1 = N → J p l e (rom 6 141) s m args below meth c D (rg 111 ad) 0 0 (MQ below (Qk D aC 111 ad (some (.int (if r = -1 then 3 else r))) (wX ad aC (X N))) args s 0 0 (rg 111 ad)) 111 ad (wX ad aC (X j)) 3 18 [(2, .int (-1)), (0, .ref (ad 34))] [] := by
    intro q
    induction q with
    | zero =>
      intro j hjN
      have hj : j < N := by omega
      have hdj : dp j - 1 < 8 := by have := (hdp j hj).2.2; omega
      refine j_iloadn B d_Ma_execute_18 rfl ?_
      refine j_iconst (v := (-1)) B d_Ma_execute_19 (by decide) ?_
      refine j_icmp_ne (tgt := 61) B d_Ma_execute_20 (by decide) (fun h20 => (show False from h20 rfl).elim) (fun h20 => ?_)
      refine j_aloadn B d_Ma_execute_23 rfl ?_
      refine j_getr B fl_Ma_21 (q_34) rfl d_Ma_execute_24 ?_
      refine j_geti B fl_Ma_50 (q_37) rfl d_Ma_execute_27 ?_
      refine j_topi (nI j) (hst j (by omega)) ?_
      refine j_sipush (v := 300) B d_Ma_execute_30 (by decide) ?_
      refine j_icmp_ge (tgt := 61) B d_Ma_execute_33 (by decide) (fun h33 => (show False from absurd (nIle (c := 300) h33 (by decide) (by omega)) (by omega)).elim) (fun h33 => ?_)
      refine j_aloadn B d_Ma_execute_36 rfl ?_
      refine j_getr B fl_Ma_21 (q_34) rfl d_Ma_execute_37 ?_
      refine j_dup B d_Ma_execute_40 rfl ?_
      refine j_geti B fl_Ma_50 (q_37) rfl d_Ma_execute_41 ?_
      refine j_iconst (v := 1) B d_Ma_execute_44 (by decide) ?_
      refine j_iadd B d_Ma_execute_45 ?_
      refine j_topi (nI (j + 1)) (by rw [hst j (by omega), nI_1]) ?_
      refine j_puti B kX_inj fs_Ma_50 (q_37) rfl d_Ma_execute_46 ?_
      refine j_aloadn B d_Ma_execute_49 rfl ?_
      refine j_aloadn B d_Ma_execute_50 rfl ?_
      refine j_cVt B (ok_Ma_top (sI (X j) (5, 0, 3) 2 (nI (j + 1))) (d := dp j) (by rw [rIK (by decide)]; exact (hdp j hj).1) (hdp j hj).2.1 (hdp j hj).2.2) cv_Ma_top ml_Ma_53 (q_34) rfl rfl ⟨rfl, rfl, by decide, by decide⟩ ⟨Nat.zero_le _, Nat.zero_le _⟩ hml (Nat.le_of_ble_eq_true rfl) rfl d_Ma_execute_51 ?_
      refine j_cVt B (hS j hj) cv_Ma_step ml_Ma_57 (q_34) rfl rfl ⟨rfl, rfl, by decide, by decide⟩ ⟨Nat.zero_le _, Nat.zero_le _⟩ hml (Nat.le_of_ble_eq_true rfl) rfl d_Ma_execute_54 ?_
      refine j_istoren B d_Ma_execute_57 (by decide) ?_
      refine j_goto (tgt := 18) B d_Ma_execute_58 (by decide) ?_
      refine j_loc [(2, .int (if j + 1 = N then r else -1)), (0, .ref (ad 34))] ⟨rfl, rfl, trivial⟩ ?_
      rw [if_pos (show j + 1 = N by omega), show j + 1 = N by omega]
      exact fin
    | succ q ih =>
      intro j hjN
      have hj : j < N := by omega
      have hdj : dp j - 1 < 8 := by have := (hdp j hj).2.2; omega
      refine j_iloadn B d_Ma_execute_18 rfl ?_
      refine j_iconst (v := (-1)) B d_Ma_execute_19 (by decide) ?_
      refine j_icmp_ne (tgt := 61) B d_Ma_execute_20 (by decide) (fun h20 => (show False from h20 rfl).elim) (fun h20 => ?_)
      refine j_aloadn B d_Ma_execute_23 rfl ?_
      refine j_getr B fl_Ma_21 (q_34) rfl d_Ma_execute_24 ?_
      refine j_geti B fl_Ma_50 (q_37) rfl d_Ma_execute_27 ?_
      refine j_topi (nI j) (hst j (by omega)) ?_
      refine j_sipush (v := 300) B d_Ma_execute_30 (by decide) ?_
      refine j_icmp_ge (tgt := 61) B d_Ma_execute_33 (by decide) (fun h33 => (show False from absurd (nIle (c := 300) h33 (by decide) (by omega)) (by omega)).elim) (fun h33 => ?_)
      refine j_aloadn B d_Ma_execute_36 rfl ?_
      refine j_getr B fl_Ma_21 (q_34) rfl d_Ma_execute_37 ?_
      refine j_dup B d_Ma_execute_40 rfl ?_
      refine j_geti B fl_Ma_50 (q_37) rfl d_Ma_execute_41 ?_
      refine j_iconst (v := 1) B d_Ma_execute_44 (by decide) ?_
      refine j_iadd B d_Ma_execute_45 ?_
      refine j_topi (nI (j + 1)) (by rw [hst j (by omega), nI_1]) ?_
      refine j_puti B kX_inj fs_Ma_50 (q_37) rfl d_Ma_execute_46 ?_
      refine j_aloadn B d_Ma_execute_49 rfl ?_
      refine j_aloadn B d_Ma_execute_50 rfl ?_
      refine j_cVt B (ok_Ma_top (sI (X j) (5, 0, 3) 2 (nI (j + 1))) (d := dp j) (by rw [rIK (by decide)]; exact (hdp j hj).1) (hdp j hj).2.1 (hdp j hj).2.2) cv_Ma_top ml_Ma_53 (q_34) rfl rfl ⟨rfl, rfl, by decide, by decide⟩ ⟨Nat.zero_le _, Nat.zero_le _⟩ hml (Nat.le_of_ble_eq_true rfl) rfl d_Ma_execute_51 ?_
      refine j_cVt B (hS j hj) cv_Ma_step ml_Ma_57 (q_34) rfl rfl ⟨rfl, rfl, by decide, by decide⟩ ⟨Nat.zero_le _, Nat.zero_le _⟩ hml (Nat.le_of_ble_eq_true rfl) rfl d_Ma_execute_54 ?_
      refine j_istoren B d_Ma_execute_57 (by decide) ?_
      refine j_goto (tgt := 18) B d_Ma_execute_58 (by decide) ?_
      refine j_loc [(2, .int (if j + 1 = N then r else -1)), (0, .ref (ad 34))] ⟨rfl, rfl, trivial⟩ ?_
      rw [if_neg (show ¬ j + 1 = N by omega)]
      exact ih (j + 1) (by omega)
  refine j_aloadn B d_Ma_execute_0 rfl ?_
  refine j_getr B fl_Ma_21 (q_34) rfl d_Ma_execute_1 ?_
  refine j_cVt B (ok_Ta_clear x) cv_Ta_clear ml_Ma_39 (q_37) rfl rfl ⟨rfl, rfl, by decide, by decide⟩ ⟨Nat.zero_le _, Nat.zero_le _⟩ hml (Nat.le_of_ble_eq_true rfl) rfl d_Ma_execute_4 ?_
  refine j_aloadn B d_Ma_execute_7 rfl ?_
  refine j_iconst (v := 0) B d_Ma_execute_8 (by decide) ?_
  refine j_puti B kX_inj fs_Ma_42 (q_34) rfl d_Ma_execute_9 ?_
  refine j_aloadn B d_Ma_execute_12 rfl ?_
  refine j_iloadn B d_Ma_execute_13 rfl ?_
  refine j_cVt B (hE) cv_Ma_enter ml_Ma_46 (q_34) rfl rfl ⟨rfl, rfl, by decide, by decide⟩ ⟨Nat.zero_le _, Nat.zero_le _⟩ hml (Nat.le_of_ble_eq_true rfl) rfl d_Ma_execute_14 ?_
  refine j_istoren B d_Ma_execute_17 (by decide) ?_
  refine j_loc [(2, .int (-1)), (0, .ref (ad 34))] ⟨rfl, rfl, trivial⟩ ?_
  exact loop (N - 1) 0 (by omega)
