set_option maxRecDepth 100000 in
theorem ok_Ty_isFull {l : Launch} {D : va_G} {aC : Nat → ClassId} {ad : Nat → Nat}  (x : tm_M) :
    OkX l y_Ty_isFull b_Ty_isFull 1 (some .boolean) (rom 0 0) D aC ad [.ref (ad 35)] x (some (.int (bI (8 ≤ x.1 (5, 0, 1) 1)))) x := by
  refine ok_start (by decide) (Nat.le_of_ble_eq_true rfl) rfl ?_
  intro p e s m args below meth c B hr hlk hml
  have B : Cx p s m c args b_Ty_isFull R_Ty D aC (rg 111 ad) 111 ad := B
  refine j_aloadn B d_Ty_isFull_0 rfl ?_
  refine j_geti B fl_Ty_15 (q_35) rfl d_Ty_isFull_1 ?_
  refine j_bipush (v := 8) B d_Ty_isFull_4 (by decide) ?_
  refine j_icmp_lt (tgt := 13) B d_Ty_isFull_6 (by decide) (fun h6 => ?_) (fun h6 => ?_)
  · -- yes
    refine j_iconst (v := 0) B d_Ty_isFull_13 (by decide) ?_
    exact j_zret B hr hlk d_Ty_isFull_14 (by first | exact Or.inl rfl | exact Or.inr rfl) (by first | exact sv (bI_f (Int32.not_le.mpr h6)) | exact sv (bI_t (Int32.not_lt.mp h6))) (rfl)
  · -- no
    refine j_iconst (v := 1) B d_Ty_isFull_9 (by decide) ?_
    refine j_goto (tgt := 14) B d_Ty_isFull_10 (by decide) ?_
    exact j_zret B hr hlk d_Ty_isFull_14 (by first | exact Or.inl rfl | exact Or.inr rfl) (by first | exact sv (bI_f (Int32.not_le.mpr h6)) | exact sv (bI_t (Int32.not_lt.mp h6))) (rfl)
set_option maxRecDepth 100000 in
theorem ok_Tx_isFull {l : Launch} {D : va_G} {aC : Nat → ClassId} {ad : Nat → Nat} {f : Nat} (hf : f < 6) (x : tm_M) :
    OkX l y_Tx_isFull b_Tx_isFull 1 (some .boolean) (rom 0 0) D aC ad [.ref (ad (txO f))] x (some (.int (bI (20 ≤ x.1 (1, f, 0) 2)))) x := by
  refine ok_start (by decide) (Nat.le_of_ble_eq_true rfl) rfl ?_
  intro p e s m args below meth c B hr hlk hml
  have B : Cx p s m c args b_Tx_isFull R_Tx D aC (rg 111 ad) 111 ad := B
  refine j_aloadn B d_Tx_isFull_0 rfl ?_
  refine j_geti B fl_Tx_18 (q_tx hf) rfl d_Tx_isFull_1 ?_
  refine j_bipush (v := 20) B d_Tx_isFull_4 (by decide) ?_
  refine j_icmp_lt (tgt := 13) B d_Tx_isFull_6 (by decide) (fun h6 => ?_) (fun h6 => ?_)
  · -- yes
    refine j_iconst (v := 0) B d_Tx_isFull_13 (by decide) ?_
    exact j_zret B hr hlk d_Tx_isFull_14 (by first | exact Or.inl rfl | exact Or.inr rfl) (by first | exact sv (bI_f (Int32.not_le.mpr h6)) | exact sv (bI_t (Int32.not_lt.mp h6))) (rfl)
  · -- no
    refine j_iconst (v := 1) B d_Tx_isFull_9 (by decide) ?_
    refine j_goto (tgt := 14) B d_Tx_isFull_10 (by decide) ?_
    exact j_zret B hr hlk d_Tx_isFull_14 (by first | exact Or.inl rfl | exact Or.inr rfl) (by first | exact sv (bI_f (Int32.not_le.mpr h6)) | exact sv (bI_t (Int32.not_lt.mp h6))) (rfl)
set_option maxRecDepth 100000 in
theorem ok_Ta_isFull {l : Launch} {D : va_G} {aC : Nat → ClassId} {ad : Nat → Nat}  (x : tm_M) :
    OkX l y_Ta_isFull b_Ta_isFull 1 (some .boolean) (rom 0 0) D aC ad [.ref (ad 37)] x (some (.int (bI (60 ≤ x.1 (5, 0, 3) 1)))) x := by
  refine ok_start (by decide) (Nat.le_of_ble_eq_true rfl) rfl ?_
  intro p e s m args below meth c B hr hlk hml
  have B : Cx p s m c args b_Ta_isFull R_Ta D aC (rg 111 ad) 111 ad := B
  refine j_aloadn B d_Ta_isFull_0 rfl ?_
  refine j_geti B fl_Ta_19 (q_37) rfl d_Ta_isFull_1 ?_
  refine j_bipush (v := 60) B d_Ta_isFull_4 (by decide) ?_
  refine j_icmp_lt (tgt := 13) B d_Ta_isFull_6 (by decide) (fun h6 => ?_) (fun h6 => ?_)
  · -- yes
    refine j_iconst (v := 0) B d_Ta_isFull_13 (by decide) ?_
    exact j_zret B hr hlk d_Ta_isFull_14 (by first | exact Or.inl rfl | exact Or.inr rfl) (by first | exact sv (bI_f (Int32.not_le.mpr h6)) | exact sv (bI_t (Int32.not_lt.mp h6))) (rfl)
  · -- no
    refine j_iconst (v := 1) B d_Ta_isFull_9 (by decide) ?_
    refine j_goto (tgt := 14) B d_Ta_isFull_10 (by decide) ?_
    exact j_zret B hr hlk d_Ta_isFull_14 (by first | exact Or.inl rfl | exact Or.inr rfl) (by first | exact sv (bI_f (Int32.not_le.mpr h6)) | exact sv (bI_t (Int32.not_lt.mp h6))) (rfl)
set_option maxRecDepth 100000 in
theorem ok_Ty_make {l : Launch} {D : va_G} {aC : Nat → ClassId} {ad : Nat → Nat} (x : tm_M) (k : Int32) {t : Nat} (ht : x.1 (5, 0, 1) 1 = nI t) (h8 : t < 8) :
    OkX l y_Ty_make b_Ty_make 3 (some .int) (rom 1 20) D aC ad [.ref (ad 35), .int k] x (some (.int (nI t))) (sI (sA x (5, 0, 2) t k) (5, 0, 1) 1 (nI (t + 1))) := by
  refine ok_start (by decide) (Nat.le_of_ble_eq_true rfl) rfl ?_
  intro p e s m args below meth c B hr hlk hml
  have B : Cx p s m c args b_Ty_make R_Ty D aC (rg 111 ad) 111 ad := B
  refine j_aloadn B d_Ty_make_0 rfl ?_
  refine j_cVt B (ok_Ty_isFull x) cv_Ty_isFull ml_Ty_19 (q_35) rfl rfl ⟨rfl, rfl, by decide, by decide⟩ ⟨Nat.zero_le _, Nat.zero_le _⟩ hml (Nat.le_of_ble_eq_true rfl) rfl d_Ty_make_1 ?_
  refine j_if_eq (tgt := 9) B d_Ty_make_4 (by decide) (fun h4 => ?_) (fun h4 => (show False from absurd (nIle (c := 8) (ht ▸ bI_ne h4) (by decide) (by omega)) (by omega)).elim)
  refine j_aloadn B d_Ty_make_9 rfl ?_
  refine j_geti B fl_Ty_15 (q_35) rfl d_Ty_make_10 ?_
  refine j_istoren B d_Ty_make_13 (by decide) ?_
  refine j_aloadn B d_Ty_make_14 rfl ?_
  refine j_getr B fl_Ty_9 (q_35) rfl d_Ty_make_15 ?_
  refine j_iloadn B d_Ty_make_18 rfl ?_
  refine j_iloadn B d_Ty_make_19 rfl ?_
  refine j_iast B kX_inj (q_36) (⟨ht, h8, by decide⟩) d_Ty_make_20 ?_
  refine j_aloadn B d_Ty_make_21 rfl ?_
  refine j_dup B d_Ty_make_22 rfl ?_
  refine j_geti B fl_Ty_15 (q_35) rfl d_Ty_make_23 ?_
  refine j_iconst (v := 1) B d_Ty_make_26 (by decide) ?_
  refine j_iadd B d_Ty_make_27 ?_
  refine j_topi (nI (t + 1)) (by show x.1 (5, 0, 1) 1 + 1 = _; rw [ht, nI_1]) ?_
  refine j_puti B kX_inj fs_Ty_15 (q_35) rfl d_Ty_make_28 ?_
  refine j_iloadn B d_Ty_make_31 rfl ?_
  exact j_iret B hr hlk d_Ty_make_32 (sv ht.symm) (rfl)
set_option maxRecDepth 100000 in
theorem ok_Tx_append {l : Launch} {D : va_G} {aC : Nat → ClassId} {ad : Nat → Nat} {f : Nat} (hf : f < 6) (x : tm_M) (u v : Int32) {t : Nat} (ht : x.1 (1, f, 0) 2 = nI t) (h20 : t < 20) :
    OkX l y_Tx_append b_Tx_append 3 (some .int) (rom 1 20) D aC ad [.ref (ad (txO f)), .int u, .int v] x (some (.int (nI (t + 1)))) (sI (sA (sA x (1, f, 1) t u) (1, f, 2) t v) (1, f, 0) 2 (nI (t + 1))) := by
  refine ok_start (by decide) (Nat.le_of_ble_eq_true rfl) rfl ?_
  intro p e s m args below meth c B hr hlk hml
  have B : Cx p s m c args b_Tx_append R_Tx D aC (rg 111 ad) 111 ad := B
  refine j_aloadn B d_Tx_append_0 rfl ?_
  refine j_cVt B (ok_Tx_isFull hf x) cv_Tx_isFull ml_Tx_22 (q_tx hf) rfl rfl ⟨rfl, rfl, by decide, by decide⟩ ⟨Nat.zero_le _, Nat.zero_le _⟩ hml (Nat.le_of_ble_eq_true rfl) rfl d_Tx_append_1 ?_
  refine j_if_ne (tgt := 37) B d_Tx_append_4 (by decide) (fun h4 => (show False from absurd (nIle (c := 20) (ht ▸ bI_ne h4) (by decide) (by omega)) (by omega)).elim) (fun h4 => ?_)
  refine j_aloadn B d_Tx_append_7 rfl ?_
  refine j_getr B fl_Tx_9 (q_tx hf) rfl d_Tx_append_8 ?_
  refine j_aloadn B d_Tx_append_11 rfl ?_
  refine j_geti B fl_Tx_18 (q_tx hf) rfl d_Tx_append_12 ?_
  refine j_iloadn B d_Tx_append_15 rfl ?_
  refine j_iast B kX_inj (q_tx1 hf) (⟨ht, h20, by decide⟩) d_Tx_append_16 ?_
  refine j_aloadn B d_Tx_append_17 rfl ?_
  refine j_getr B fl_Tx_15 (q_tx hf) rfl d_Tx_append_18 ?_
  refine j_aloadn B d_Tx_append_21 rfl ?_
  refine j_geti B fl_Tx_18 (q_tx hf) rfl d_Tx_append_22 ?_
  refine j_iloadn B d_Tx_append_25 rfl ?_
  refine j_iast B kX_inj (q_tx2 hf) (⟨ht, h20, by decide⟩) d_Tx_append_26 ?_
  refine j_aloadn B d_Tx_append_27 rfl ?_
  refine j_dup B d_Tx_append_28 rfl ?_
  refine j_geti B fl_Tx_18 (q_tx hf) rfl d_Tx_append_29 ?_
  refine j_iconst (v := 1) B d_Tx_append_32 (by decide) ?_
  refine j_iadd B d_Tx_append_33 ?_
  refine j_topi (nI (t + 1)) (by show x.1 (1, f, 0) 2 + 1 = _; rw [ht, nI_1]) ?_
  refine j_puti B kX_inj fs_Tx_18 (q_tx hf) rfl d_Tx_append_34 ?_
  refine j_aloadn B d_Tx_append_37 rfl ?_
  refine j_geti B fl_Tx_18 (q_tx hf) rfl d_Tx_append_38 ?_
  exact j_iret B hr hlk d_Tx_append_41 (sv rI.symm) (rfl)
set_option maxRecDepth 100000 in
theorem ok_Ta_put {l : Launch} {D : va_G} {aC : Nat → ClassId} {ad : Nat → Nat} (x : tm_M) (v : Int32) {t : Nat} (ht : x.1 (5, 0, 3) 1 = nI t) (h60 : t < 60) :
    OkX l y_Ta_put b_Ta_put 2 none (rom 1 20) D aC ad [.ref (ad 37), .int v] x none (sI (sA x (5, 0, 4) t v) (5, 0, 3) 1 (nI (t + 1))) := by
  refine ok_start (by decide) (Nat.le_of_ble_eq_true rfl) rfl ?_
  intro p e s m args below meth c B hr hlk hml
  have B : Cx p s m c args b_Ta_put R_Ta D aC (rg 111 ad) 111 ad := B
  refine j_aloadn B d_Ta_put_0 rfl ?_
  refine j_cVt B (ok_Ta_isFull x) cv_Ta_isFull ml_Ta_34 (q_37) rfl rfl ⟨rfl, rfl, by decide, by decide⟩ ⟨Nat.zero_le _, Nat.zero_le _⟩ hml (Nat.le_of_ble_eq_true rfl) rfl d_Ta_put_1 ?_
  refine j_if_ne (tgt := 27) B d_Ta_put_4 (by decide) (fun h4 => (show False from absurd (nIle (c := 60) (ht ▸ bI_ne h4) (by decide) (by omega)) (by omega)).elim) (fun h4 => ?_)
  refine j_aloadn B d_Ta_put_7 rfl ?_
  refine j_getr B fl_Ta_9 (q_37) rfl d_Ta_put_8 ?_
  refine j_aloadn B d_Ta_put_11 rfl ?_
  refine j_geti B fl_Ta_19 (q_37) rfl d_Ta_put_12 ?_
  refine j_iloadn B d_Ta_put_15 rfl ?_
  refine j_iast B kX_inj (q_38) (⟨ht, h60, by decide⟩) d_Ta_put_16 ?_
  refine j_aloadn B d_Ta_put_17 rfl ?_
  refine j_dup B d_Ta_put_18 rfl ?_
  refine j_geti B fl_Ta_19 (q_37) rfl d_Ta_put_19 ?_
  refine j_iconst (v := 1) B d_Ta_put_22 (by decide) ?_
  refine j_iadd B d_Ta_put_23 ?_
  refine j_topi (nI (t + 1)) (by show x.1 (5, 0, 3) 1 + 1 = _; rw [ht, nI_1]) ?_
  refine j_puti B kX_inj fs_Ta_19 (q_37) rfl d_Ta_put_24 ?_
  exact j_vret B hr hlk d_Ta_put_27 (rfl) (rfl)
set_option maxRecDepth 100000 in
theorem ok_Ta_clear {l : Launch} {D : va_G} {aC : Nat → ClassId} {ad : Nat → Nat} (x : tm_M) :
    OkX l y_Ta_clear b_Ta_clear 1 none (rom 0 0) D aC ad [.ref (ad 37)] x none (sI (sI (sI (sI (sI (sI x (5, 0, 3) 1 0) (5, 0, 3) 2 0) (5, 0, 3) 3 0) (5, 0, 3) 4 0) (5, 0, 3) 5 0) (5, 0, 3) 6 (-1)) := by
  refine ok_start (by decide) (Nat.le_of_ble_eq_true rfl) rfl ?_
  intro p e s m args below meth c B hr hlk hml
  have B : Cx p s m c args b_Ta_clear R_Ta D aC (rg 111 ad) 111 ad := B
  refine j_aloadn B d_Ta_clear_0 rfl ?_
  refine j_iconst (v := 0) B d_Ta_clear_1 (by decide) ?_
  refine j_puti B kX_inj fs_Ta_19 (q_37) rfl d_Ta_clear_2 ?_
  refine j_aloadn B d_Ta_clear_5 rfl ?_
  refine j_iconst (v := 0) B d_Ta_clear_6 (by decide) ?_
  refine j_puti B kX_inj fs_Ta_22 (q_37) rfl d_Ta_clear_7 ?_
  refine j_aloadn B d_Ta_clear_10 rfl ?_
  refine j_iconst (v := 0) B d_Ta_clear_11 (by decide) ?_
  refine j_puti B kX_inj fs_Ta_25 (q_37) rfl d_Ta_clear_12 ?_
  refine j_aloadn B d_Ta_clear_15 rfl ?_
  refine j_iconst (v := 0) B d_Ta_clear_16 (by decide) ?_
  refine j_puti B kX_inj fs_Ta_28 (q_37) rfl d_Ta_clear_17 ?_
  refine j_aloadn B d_Ta_clear_20 rfl ?_
  refine j_iconst (v := 0) B d_Ta_clear_21 (by decide) ?_
  refine j_puti B kX_inj fs_Ta_31 (q_37) rfl d_Ta_clear_22 ?_
  refine j_aloadn B d_Ta_clear_25 rfl ?_
  refine j_iconst (v := (-1)) B d_Ta_clear_26 (by decide) ?_
  refine j_puti B kX_inj fs_Ta_15 (q_37) rfl d_Ta_clear_27 ?_
  exact j_vret B hr hlk d_Ta_clear_30 (rfl) (rfl)
set_option maxRecDepth 100000 in
theorem ok_Fr_begin {l : Launch} {D : va_G} {aC : Nat → ClassId} {ad : Nat → Nat} {i : Nat} (hi : i < 8) (x : tm_M) (k : Int32) :
    OkX l y_Fr_begin b_Fr_begin 2 none (rom 0 0) D aC ad [.ref (ad (frO i)), .int k] x none (sI (sI (sI x (8, i, 0) 0 k) (8, i, 0) 1 0) (8, i, 0) 3 0) := by
  refine ok_start (by decide) (Nat.le_of_ble_eq_true rfl) rfl ?_
  intro p e s m args below meth c B hr hlk hml
  have B : Cx p s m c args b_Fr_begin R_Fr D aC (rg 111 ad) 111 ad := B
  refine j_aloadn B d_Fr_begin_0 rfl ?_
  refine j_iloadn B d_Fr_begin_1 rfl ?_
  refine j_puti B kX_inj fs_Fr_15 (q_fr hi) rfl d_Fr_begin_2 ?_
  refine j_aloadn B d_Fr_begin_5 rfl ?_
  refine j_iconst (v := 0) B d_Fr_begin_6 (by decide) ?_
  refine j_puti B kX_inj fs_Fr_19 (q_fr hi) rfl d_Fr_begin_7 ?_
  refine j_aloadn B d_Fr_begin_10 rfl ?_
  refine j_iconst (v := 0) B d_Fr_begin_11 (by decide) ?_
  refine j_puti B kX_inj fs_Fr_22 (q_fr hi) rfl d_Fr_begin_12 ?_
  exact j_vret B hr hlk d_Fr_begin_15 (rfl) (rfl)
set_option maxRecDepth 100000 in
theorem ok_Fr_currentPlace {l : Launch} {D : va_G} {aC : Nat → ClassId} {ad : Nat → Nat} {i : Nat} (hi : i < 8) (x : tm_M) :
    OkX l y_Fr_currentPlace b_Fr_currentPlace 1 (some .int) (rom 0 0) D aC ad [.ref (ad (frO i))] x (some (.int (x.1 (8, i, 0) 1 - 1))) x := by
  refine ok_start (by decide) (Nat.le_of_ble_eq_true rfl) rfl ?_
  intro p e s m args below meth c B hr hlk hml
  have B : Cx p s m c args b_Fr_currentPlace R_Fr D aC (rg 111 ad) 111 ad := B
  refine j_aloadn B d_Fr_currentPlace_0 rfl ?_
  refine j_geti B fl_Fr_19 (q_fr hi) rfl d_Fr_currentPlace_1 ?_
  refine j_iconst (v := 1) B d_Fr_currentPlace_4 (by decide) ?_
  refine j_isub B d_Fr_currentPlace_5 ?_
  exact j_iret B hr hlk d_Fr_currentPlace_6 (rfl) (rfl)
set_option maxRecDepth 100000 in
theorem ok_Fr_pushCaught {l : Launch} {D : va_G} {aC : Nat → ClassId} {ad : Nat → Nat} {i : Nat} (hi : i < 8) (x : tm_M) (k : Int32) {t : Nat} (ht : x.1 (8, i, 0) 3 = nI t) (h5 : t < 5) :
    OkX l y_Fr_pushCaught b_Fr_pushCaught 2 none (rom 0 0) D aC ad [.ref (ad (frO i)), .int k] x none (sI (sA x (8, i, 1) t k) (8, i, 0) 3 (nI (t + 1))) := by
  refine ok_start (by decide) (Nat.le_of_ble_eq_true rfl) rfl ?_
  intro p e s m args below meth c B hr hlk hml
  have B : Cx p s m c args b_Fr_pushCaught R_Fr D aC (rg 111 ad) 111 ad := B
  refine j_aloadn B d_Fr_pushCaught_0 rfl ?_
  refine j_geti B fl_Fr_22 (q_fr hi) rfl d_Fr_pushCaught_1 ?_
  refine j_iconst (v := 5) B d_Fr_pushCaught_4 (by decide) ?_
  refine j_icmp_ge (tgt := 28) B d_Fr_pushCaught_5 (by decide) (fun h_5 => (show False from absurd (nIle (c := 5) (ht ▸ h_5) (by decide) (by omega)) (by omega)).elim) (fun h_5 => ?_)
  refine j_aloadn B d_Fr_pushCaught_8 rfl ?_
  refine j_getr B fl_Fr_9 (q_fr hi) rfl d_Fr_pushCaught_9 ?_
  refine j_aloadn B d_Fr_pushCaught_12 rfl ?_
  refine j_geti B fl_Fr_22 (q_fr hi) rfl d_Fr_pushCaught_13 ?_
  refine j_iloadn B d_Fr_pushCaught_16 rfl ?_
  refine j_iast B kX_inj (q_fr1 hi) (⟨ht, h5, by decide⟩) d_Fr_pushCaught_17 ?_
  refine j_aloadn B d_Fr_pushCaught_18 rfl ?_
  refine j_dup B d_Fr_pushCaught_19 rfl ?_
  refine j_geti B fl_Fr_22 (q_fr hi) rfl d_Fr_pushCaught_20 ?_
  refine j_iconst (v := 1) B d_Fr_pushCaught_23 (by decide) ?_
  refine j_iadd B d_Fr_pushCaught_24 ?_
  refine j_topi (nI (t + 1)) (by show x.1 (8, i, 0) 3 + 1 = _; rw [ht, nI_1]) ?_
  refine j_puti B kX_inj fs_Fr_22 (q_fr hi) rfl d_Fr_pushCaught_25 ?_
  exact j_vret B hr hlk d_Fr_pushCaught_28 (rfl) (rfl)
set_option maxRecDepth 100000 in
theorem ok_Fr_dropCaught {l : Launch} {D : va_G} {aC : Nat → ClassId} {ad : Nat → Nat} {i : Nat} (hi : i < 8) (x : tm_M) {t : Nat} (ht : x.1 (8, i, 0) 3 = nI (t + 1)) (h5 : t < 5) :
    OkX l y_Fr_dropCaught b_Fr_dropCaught 1 none (rom 0 0) D aC ad [.ref (ad (frO i))] x none (sI x (8, i, 0) 3 (nI t)) := by
  refine ok_start (by decide) (Nat.le_of_ble_eq_true rfl) rfl ?_
  intro p e s m args below meth c B hr hlk hml
  have B : Cx p s m c args b_Fr_dropCaught R_Fr D aC (rg 111 ad) 111 ad := B
  refine j_aloadn B d_Fr_dropCaught_0 rfl ?_
  refine j_geti B fl_Fr_22 (q_fr hi) rfl d_Fr_dropCaught_1 ?_
  refine j_if_le (tgt := 17) B d_Fr_dropCaught_4 (by decide) (fun h4 => (show False from absurd (nIle (c := t + 1) (t := 0) (ht ▸ h4) (by omega) (by decide)) (by omega)).elim) (fun h4 => ?_)
  refine j_aloadn B d_Fr_dropCaught_7 rfl ?_
  refine j_dup B d_Fr_dropCaught_8 rfl ?_
  refine j_geti B fl_Fr_22 (q_fr hi) rfl d_Fr_dropCaught_9 ?_
  refine j_iconst (v := 1) B d_Fr_dropCaught_12 (by decide) ?_
  refine j_isub B d_Fr_dropCaught_13 ?_
  refine j_topi (nI t) (by rw [ht, nI_pred]) ?_
  refine j_puti B kX_inj fs_Fr_22 (q_fr hi) rfl d_Fr_dropCaught_14 ?_
  exact j_vret B hr hlk d_Fr_dropCaught_17 (rfl) (rfl)
set_option maxRecDepth 100000 in
theorem ok_Fr_latestCaught {l : Launch} {D : va_G} {aC : Nat → ClassId} {ad : Nat → Nat} {i : Nat} (hi : i < 8) (x : tm_M) {t : Nat} (ht : x.1 (8, i, 0) 3 = nI (t + 1)) (h5 : t < 5) :
    OkX l y_Fr_latestCaught b_Fr_latestCaught 1 (some .int) (rom 0 0) D aC ad [.ref (ad (frO i))] x (some (.int (x.2 (8, i, 1) t))) x := by
  refine ok_start (by decide) (Nat.le_of_ble_eq_true rfl) rfl ?_
  intro p e s m args below meth c B hr hlk hml
  have B : Cx p s m c args b_Fr_latestCaught R_Fr D aC (rg 111 ad) 111 ad := B
  refine j_aloadn B d_Fr_latestCaught_0 rfl ?_
  refine j_geti B fl_Fr_22 (q_fr hi) rfl d_Fr_latestCaught_1 ?_
  refine j_if_le (tgt := 21) B d_Fr_latestCaught_4 (by decide) (fun h4 => (show False from absurd (nIle (c := t + 1) (t := 0) (ht ▸ h4) (by omega) (by decide)) (by omega)).elim) (fun h4 => ?_)
  refine j_aloadn B d_Fr_latestCaught_7 rfl ?_
  refine j_getr B fl_Fr_9 (q_fr hi) rfl d_Fr_latestCaught_8 ?_
  refine j_aloadn B d_Fr_latestCaught_11 rfl ?_
  refine j_geti B fl_Fr_22 (q_fr hi) rfl d_Fr_latestCaught_12 ?_
  refine j_iconst (v := 1) B d_Fr_latestCaught_15 (by decide) ?_
  refine j_isub B d_Fr_latestCaught_16 ?_
  refine j_iald B (q_fr1 hi) (⟨by rw [ht, nI_pred], h5, by decide⟩) d_Fr_latestCaught_17 ?_
  refine j_goto (tgt := 22) B d_Fr_latestCaught_18 (by decide) ?_
  exact j_iret B hr hlk d_Fr_latestCaught_22 (rfl) (rfl)
set_option maxRecDepth 100000 in
theorem ok_Pr_clear {l : Launch} {D : va_G} {aC : Nat → ClassId} {ad : Nat → Nat} {f : Nat} (hf : f < 6) (x : tm_M) :
    OkX l y_Pr_clear b_Pr_clear 1 none (rom 0 0) D aC ad [.ref (ad (prO f))] x none (sI (sI (sI x (6, f, 0) 2 0) (6, f, 0) 6 0) (6, f, 0) 10 0) := by
  refine ok_start (by decide) (Nat.le_of_ble_eq_true rfl) rfl ?_
  intro p e s m args below meth c B hr hlk hml
  have B : Cx p s m c args b_Pr_clear R_Pr D aC (rg 111 ad) 111 ad := B
  refine j_aloadn B d_Pr_clear_0 rfl ?_
  refine j_iconst (v := 0) B d_Pr_clear_1 (by decide) ?_
  refine j_puti B kX_inj fs_Pr_36 (q_pr hf) rfl d_Pr_clear_2 ?_
  refine j_aloadn B d_Pr_clear_5 rfl ?_
  refine j_iconst (v := 0) B d_Pr_clear_6 (by decide) ?_
  refine j_puti B kX_inj fs_Pr_40 (q_pr hf) rfl d_Pr_clear_7 ?_
  refine j_aloadn B d_Pr_clear_10 rfl ?_
  refine j_iconst (v := 0) B d_Pr_clear_11 (by decide) ?_
  refine j_puti B kX_inj fs_Pr_43 (q_pr hf) rfl d_Pr_clear_12 ?_
  exact j_vret B hr hlk d_Pr_clear_15 (rfl) (rfl)
set_option maxRecDepth 100000 in
theorem ok_Pr_isMade {l : Launch} {D : va_G} {aC : Nat → ClassId} {ad : Nat → Nat} {f : Nat} (hf : f < 6) (x : tm_M) :
    OkX l y_Pr_isMade b_Pr_isMade 1 (some .boolean) (rom 0 0) D aC ad [.ref (ad (prO f))] x (some (.int (bI (0 < x.1 (6, f, 0) 2)))) x := by
  refine ok_start (by decide) (Nat.le_of_ble_eq_true rfl) rfl ?_
  intro p e s m args below meth c B hr hlk hml
  have B : Cx p s m c args b_Pr_isMade R_Pr D aC (rg 111 ad) 111 ad := B
  refine j_aloadn B d_Pr_isMade_0 rfl ?_
  refine j_geti B fl_Pr_36 (q_pr hf) rfl d_Pr_isMade_1 ?_
  refine j_if_le (tgt := 11) B d_Pr_isMade_4 (by decide) (fun h4 => ?_) (fun h4 => ?_)
  · -- yes
    refine j_iconst (v := 0) B d_Pr_isMade_11 (by decide) ?_
    exact j_zret B hr hlk d_Pr_isMade_12 (by first | exact Or.inl rfl | exact Or.inr rfl) (by first | exact sv (bI_f (Int32.not_lt.mpr h4)) | exact sv (bI_t (Int32.not_le.mp h4))) (rfl)
  · -- no
    refine j_iconst (v := 1) B d_Pr_isMade_7 (by decide) ?_
    refine j_goto (tgt := 12) B d_Pr_isMade_8 (by decide) ?_
    exact j_zret B hr hlk d_Pr_isMade_12 (by first | exact Or.inl rfl | exact Or.inr rfl) (by first | exact sv (bI_f (Int32.not_lt.mpr h4)) | exact sv (bI_t (Int32.not_le.mp h4))) (rfl)
/-- an instruction is put behind the code -/
def emX (f n : Nat) (a v : Int32) (x : tm_M) : tm_M := sI (sA (sA x (6, f, 1) n a) (6, f, 2) n v) (6, f, 0) 2 (nI (n + 1))
/-- the site of the next instruction -/
def siX (f n q : Nat) (h : Int32) (x : tm_M) : tm_M := if 0 < q ∧ x.2 (6, f, 8) (q - 1) = h then sA x (6, f, 7) (q - 1) (nI n) else sI (sA (sA (sA x (6, f, 6) q (nI n)) (6, f, 7) q (nI n)) (6, f, 8) q h) (6, f, 0) 10 (nI (q + 1))
def acX (f a : Nat) (k h : Int32) (x : tm_M) : tm_M := sI (sA (sA (sA x (6, f, 3) a k) (6, f, 4) a 0) (6, f, 5) a h) (6, f, 0) 6 (nI (a + 1))
set_option maxRecDepth 100000 in
theorem ok_Pr_emit {l : Launch} {D : va_G} {aC : Nat → ClassId} {ad : Nat → Nat} {f : Nat} (hf : f < 6) (x : tm_M) (a v : Int32) {n : Nat} (hn : x.1 (6, f, 0) 2 = nI n) (h81 : n < 81) :
    OkX l y_Pr_emit b_Pr_emit 3 none (rom 0 0) D aC ad [.ref (ad (prO f)), .int a, .int v] x none (emX f n a v x) := by
  refine ok_start (by decide) (Nat.le_of_ble_eq_true rfl) rfl ?_
  intro p e s m args below meth c B hr hlk hml
  have B : Cx p s m c args b_Pr_emit R_Pr D aC (rg 111 ad) 111 ad := B
  refine j_aloadn B d_Pr_emit_0 rfl ?_
  refine j_geti B fl_Pr_36 (q_pr hf) rfl d_Pr_emit_1 ?_
  refine j_bipush (v := 81) B d_Pr_emit_4 (by decide) ?_
  refine j_icmp_ge (tgt := 39) B d_Pr_emit_6 (by decide) (fun h6 => (show False from absurd (nIle (c := 81) (hn ▸ h6) (by decide) (by omega)) (by omega)).elim) (fun h6 => ?_)
  refine j_aloadn B d_Pr_emit_9 rfl ?_
  refine j_getr B fl_Pr_9 (q_pr hf) rfl d_Pr_emit_10 ?_
  refine j_aloadn B d_Pr_emit_13 rfl ?_
  refine j_geti B fl_Pr_36 (q_pr hf) rfl d_Pr_emit_14 ?_
  refine j_iloadn B d_Pr_emit_17 rfl ?_
  refine j_iast B kX_inj (q_pr1 hf) (⟨hn, h81, by decide⟩) d_Pr_emit_18 ?_
  refine j_aloadn B d_Pr_emit_19 rfl ?_
  refine j_getr B fl_Pr_15 (q_pr hf) rfl d_Pr_emit_20 ?_
  refine j_aloadn B d_Pr_emit_23 rfl ?_
  refine j_geti B fl_Pr_36 (q_pr hf) rfl d_Pr_emit_24 ?_
  refine j_iloadn B d_Pr_emit_27 rfl ?_
  refine j_iast B kX_inj (q_pr2 hf) (⟨hn, h81, by decide⟩) d_Pr_emit_28 ?_
  refine j_aloadn B d_Pr_emit_29 rfl ?_
  refine j_dup B d_Pr_emit_30 rfl ?_
  refine j_geti B fl_Pr_36 (q_pr hf) rfl d_Pr_emit_31 ?_
  refine j_iconst (v := 1) B d_Pr_emit_34 (by decide) ?_
  refine j_iadd B d_Pr_emit_35 ?_
  refine j_topi (nI (n + 1)) (by show x.1 (6, f, 0) 2 + 1 = _; rw [hn, nI_1]) ?_
  refine j_puti B kX_inj fs_Pr_36 (q_pr hf) rfl d_Pr_emit_36 ?_
  exact j_vret B hr hlk d_Pr_emit_39 (rfl) (rfl)
theorem siX_n {f n q : Nat} {h : Int32} {x : tm_M} : (siX f n q h x).1 (6, f, 0) 2 = x.1 (6, f, 0) 2 := by
  unfold siX
  split
  · rfl
  · rw [rIj (by decide)]; rfl
set_option maxRecDepth 100000 in
theorem ok_Pr_emitAtSite {l : Launch} {D : va_G} {aC : Nat → ClassId} {ad : Nat → Nat} {f : Nat} (hf : f < 6) (x : tm_M) (a v h : Int32) {n q : Nat} (hn : x.1 (6, f, 0) 2 = nI n) (h81 : n < 81) (hq : x.1 (6, f, 0) 10 = nI q) (h20 : q < 20) :
    OkX l y_Pr_emitAtSite b_Pr_emitAtSite 4 none (rom 1 22) D aC ad [.ref (ad (prO f)), .int a, .int v, .int h] x none (emX f n a v (siX f n q h x)) := by
  refine ok_start (by decide) (Nat.le_of_ble_eq_true rfl) rfl ?_
  intro p e s m args below meth c B hr hlk hml
  have B : Cx p s m c args b_Pr_emitAtSite R_Pr D aC (rg 111 ad) 111 ad := B
  refine j_aloadn B d_Pr_emitAtSite_0 rfl ?_
  refine j_geti B fl_Pr_43 (q_pr hf) rfl d_Pr_emitAtSite_1 ?_
  refine j_if_le (tgt := 40) B d_Pr_emitAtSite_4 (by decide) (fun h4 => ?_) (fun h4 => ?_)
  · -- yes
    refine j_aloadn B d_Pr_emitAtSite_40 rfl ?_
    refine j_geti B fl_Pr_43 (q_pr hf) rfl d_Pr_emitAtSite_41 ?_
    refine j_bipush (v := 20) B d_Pr_emitAtSite_44 (by decide) ?_
    refine j_icmp_ge (tgt := 95) B d_Pr_emitAtSite_46 (by decide) (fun h46 => (show False from absurd (nIle (c := 20) (hq ▸ h46) (by decide) (by omega)) (by omega)).elim) (fun h46 => ?_)
    refine j_aloadn B d_Pr_emitAtSite_49 rfl ?_
    refine j_getr B fl_Pr_27 (q_pr hf) rfl d_Pr_emitAtSite_50 ?_
    refine j_aloadn B d_Pr_emitAtSite_53 rfl ?_
    refine j_geti B fl_Pr_43 (q_pr hf) rfl d_Pr_emitAtSite_54 ?_
    refine j_aloadn B d_Pr_emitAtSite_57 rfl ?_
    refine j_geti B fl_Pr_36 (q_pr hf) rfl d_Pr_emitAtSite_58 ?_
    refine j_topi (nI n) hn ?_
    refine j_iast B kX_inj (q_pr6 hf) (⟨hq, h20, by decide⟩) d_Pr_emitAtSite_61 ?_
    refine j_aloadn B d_Pr_emitAtSite_62 rfl ?_
    refine j_getr B fl_Pr_30 (q_pr hf) rfl d_Pr_emitAtSite_63 ?_
    refine j_aloadn B d_Pr_emitAtSite_66 rfl ?_
    refine j_geti B fl_Pr_43 (q_pr hf) rfl d_Pr_emitAtSite_67 ?_
    refine j_aloadn B d_Pr_emitAtSite_70 rfl ?_
    refine j_geti B fl_Pr_36 (q_pr hf) rfl d_Pr_emitAtSite_71 ?_
    refine j_topi (nI n) hn ?_
    refine j_iast B kX_inj (q_pr7 hf) (⟨hq, h20, by decide⟩) d_Pr_emitAtSite_74 ?_
    refine j_aloadn B d_Pr_emitAtSite_75 rfl ?_
    refine j_getr B fl_Pr_33 (q_pr hf) rfl d_Pr_emitAtSite_76 ?_
    refine j_aloadn B d_Pr_emitAtSite_79 rfl ?_
    refine j_geti B fl_Pr_43 (q_pr hf) rfl d_Pr_emitAtSite_80 ?_
    refine j_iloadn B d_Pr_emitAtSite_83 rfl ?_
    refine j_iast B kX_inj (q_pr8 hf) (⟨hq, h20, by decide⟩) d_Pr_emitAtSite_84 ?_
    refine j_aloadn B d_Pr_emitAtSite_85 rfl ?_
    refine j_dup B d_Pr_emitAtSite_86 rfl ?_
    refine j_geti B fl_Pr_43 (q_pr hf) rfl d_Pr_emitAtSite_87 ?_
    refine j_iconst (v := 1) B d_Pr_emitAtSite_90 (by decide) ?_
    refine j_iadd B d_Pr_emitAtSite_91 ?_
    refine j_topi (nI (q + 1)) (by show x.1 (6, f, 0) 10 + 1 = _; rw [hq, nI_1]) ?_
    refine j_puti B kX_inj fs_Pr_43 (q_pr hf) rfl d_Pr_emitAtSite_92 ?_
    refine j_x (siX f n q h x) (by first | exact (if_pos ⟨hq0, h19⟩).symm | exact (if_neg (fun z => h19 z.2)).symm | exact (if_neg (fun z => absurd z.1 (by have := nIle (t := 0) (hq ▸ h4) (by omega) (by decide); omega))).symm) ?_
    refine j_aloadn B d_Pr_emitAtSite_95 rfl ?_
    refine j_iloadn B d_Pr_emitAtSite_96 rfl ?_
    refine j_iloadn B d_Pr_emitAtSite_97 rfl ?_
    refine j_cVt B (ok_Pr_emit hf (siX f n q h x) a v (n := n) (by rw [siX_n]; exact hn) h81) cv_Pr_emit ml_Pr_56 (q_pr hf) rfl rfl ⟨rfl, rfl, by decide, by decide⟩ ⟨Nat.zero_le _, Nat.zero_le _⟩ hml (Nat.le_of_ble_eq_true rfl) rfl d_Pr_emitAtSite_98 ?_
    exact j_vret B hr hlk d_Pr_emitAtSite_101 (rfl) (rfl)
  · -- no
    have hq0 : 0 < q := Nat.pos_of_ne_zero (fun e0 => h4 (by rw [hq, e0]; decide))
    refine j_aloadn B d_Pr_emitAtSite_7 rfl ?_
    refine j_getr B fl_Pr_33 (q_pr hf) rfl d_Pr_emitAtSite_8 ?_
    refine j_aloadn B d_Pr_emitAtSite_11 rfl ?_
    refine j_geti B fl_Pr_43 (q_pr hf) rfl d_Pr_emitAtSite_12 ?_
    refine j_iconst (v := 1) B d_Pr_emitAtSite_15 (by decide) ?_
    refine j_isub B d_Pr_emitAtSite_16 ?_
    refine j_iald B (q_pr8 hf) (⟨by rw [hq, show q = (q - 1) + 1 by omega, nI_pred], by omega, by decide⟩) d_Pr_emitAtSite_17 ?_
    refine j_iloadn B d_Pr_emitAtSite_18 rfl ?_
    refine j_icmp_ne (tgt := 40) B d_Pr_emitAtSite_19 (by decide) (fun h19 => ?_) (fun h19 => ?_)
    · -- yes
      refine j_aloadn B d_Pr_emitAtSite_40 rfl ?_
      refine j_geti B fl_Pr_43 (q_pr hf) rfl d_Pr_emitAtSite_41 ?_
      refine j_bipush (v := 20) B d_Pr_emitAtSite_44 (by decide) ?_
      refine j_icmp_ge (tgt := 95) B d_Pr_emitAtSite_46 (by decide) (fun h46 => (show False from absurd (nIle (c := 20) (hq ▸ h46) (by decide) (by omega)) (by omega)).elim) (fun h46 => ?_)
      refine j_aloadn B d_Pr_emitAtSite_49 rfl ?_
      refine j_getr B fl_Pr_27 (q_pr hf) rfl d_Pr_emitAtSite_50 ?_
      refine j_aloadn B d_Pr_emitAtSite_53 rfl ?_
      refine j_geti B fl_Pr_43 (q_pr hf) rfl d_Pr_emitAtSite_54 ?_
      refine j_aloadn B d_Pr_emitAtSite_57 rfl ?_
      refine j_geti B fl_Pr_36 (q_pr hf) rfl d_Pr_emitAtSite_58 ?_
      refine j_topi (nI n) hn ?_
      refine j_iast B kX_inj (q_pr6 hf) (⟨hq, h20, by decide⟩) d_Pr_emitAtSite_61 ?_
      refine j_aloadn B d_Pr_emitAtSite_62 rfl ?_
      refine j_getr B fl_Pr_30 (q_pr hf) rfl d_Pr_emitAtSite_63 ?_
      refine j_aloadn B d_Pr_emitAtSite_66 rfl ?_
      refine j_geti B fl_Pr_43 (q_pr hf) rfl d_Pr_emitAtSite_67 ?_
      refine j_aloadn B d_Pr_emitAtSite_70 rfl ?_
      refine j_geti B fl_Pr_36 (q_pr hf) rfl d_Pr_emitAtSite_71 ?_
      refine j_topi (nI n) hn ?_
      refine j_iast B kX_inj (q_pr7 hf) (⟨hq, h20, by decide⟩) d_Pr_emitAtSite_74 ?_
      refine j_aloadn B d_Pr_emitAtSite_75 rfl ?_
      refine j_getr B fl_Pr_33 (q_pr hf) rfl d_Pr_emitAtSite_76 ?_
      refine j_aloadn B d_Pr_emitAtSite_79 rfl ?_
      refine j_geti B fl_Pr_43 (q_pr hf) rfl d_Pr_emitAtSite_80 ?_
      refine j_iloadn B d_Pr_emitAtSite_83 rfl ?_
      refine j_iast B kX_inj (q_pr8 hf) (⟨hq, h20, by decide⟩) d_Pr_emitAtSite_84 ?_
      refine j_aloadn B d_Pr_emitAtSite_85 rfl ?_
      refine j_dup B d_Pr_emitAtSite_86 rfl ?_
      refine j_geti B fl_Pr_43 (q_pr hf) rfl d_Pr_emitAtSite_87 ?_
      refine j_iconst (v := 1) B d_Pr_emitAtSite_90 (by decide) ?_
      refine j_iadd B d_Pr_emitAtSite_91 ?_
      refine j_topi (nI (q + 1)) (by show x.1 (6, f, 0) 10 + 1 = _; rw [hq, nI_1]) ?_
      refine j_puti B kX_inj fs_Pr_43 (q_pr hf) rfl d_Pr_emitAtSite_92 ?_
      refine j_x (siX f n q h x) (by first | exact (if_pos ⟨hq0, h19⟩).symm | exact (if_neg (fun z => h19 z.2)).symm | exact (if_neg (fun z => absurd z.1 (by have := nIle (t := 0) (hq ▸ h4) (by omega) (by decide); omega))).symm) ?_
      refine j_aloadn B d_Pr_emitAtSite_95 rfl ?_
      refine j_iloadn B d_Pr_emitAtSite_96 rfl ?_
      refine j_iloadn B d_Pr_emitAtSite_97 rfl ?_
      refine j_cVt B (ok_Pr_emit hf (siX f n q h x) a v (n := n) (by rw [siX_n]; exact hn) h81) cv_Pr_emit ml_Pr_56 (q_pr hf) rfl rfl ⟨rfl, rfl, by decide, by decide⟩ ⟨Nat.zero_le _, Nat.zero_le _⟩ hml (Nat.le_of_ble_eq_true rfl) rfl d_Pr_emitAtSite_98 ?_
      exact j_vret B hr hlk d_Pr_emitAtSite_101 (rfl) (rfl)
    · -- no
      refine j_aloadn B d_Pr_emitAtSite_22 rfl ?_
      refine j_getr B fl_Pr_30 (q_pr hf) rfl d_Pr_emitAtSite_23 ?_
      refine j_aloadn B d_Pr_emitAtSite_26 rfl ?_
      refine j_geti B fl_Pr_43 (q_pr hf) rfl d_Pr_emitAtSite_27 ?_
      refine j_iconst (v := 1) B d_Pr_emitAtSite_30 (by decide) ?_
      refine j_isub B d_Pr_emitAtSite_31 ?_
      refine j_aloadn B d_Pr_emitAtSite_32 rfl ?_
      refine j_geti B fl_Pr_36 (q_pr hf) rfl d_Pr_emitAtSite_33 ?_
      refine j_topi (nI n) hn ?_
      refine j_iast B kX_inj (q_pr7 hf) (⟨by rw [hq, show q = (q - 1) + 1 by omega, nI_pred], by omega, by decide⟩) d_Pr_emitAtSite_36 ?_
      refine j_goto (tgt := 95) B d_Pr_emitAtSite_37 (by decide) ?_
      refine j_x (siX f n q h x) (by first | exact (if_pos ⟨hq0, h19⟩).symm | exact (if_neg (fun z => h19 z.2)).symm | exact (if_neg (fun z => absurd z.1 (by have := nIle (t := 0) (hq ▸ h4) (by omega) (by decide); omega))).symm) ?_
      refine j_aloadn B d_Pr_emitAtSite_95 rfl ?_
      refine j_iloadn B d_Pr_emitAtSite_96 rfl ?_
      refine j_iloadn B d_Pr_emitAtSite_97 rfl ?_
      refine j_cVt B (ok_Pr_emit hf (siX f n q h x) a v (n := n) (by rw [siX_n]; exact hn) h81) cv_Pr_emit ml_Pr_56 (q_pr hf) rfl rfl ⟨rfl, rfl, by decide, by decide⟩ ⟨Nat.zero_le _, Nat.zero_le _⟩ hml (Nat.le_of_ble_eq_true rfl) rfl d_Pr_emitAtSite_98 ?_
      exact j_vret B hr hlk d_Pr_emitAtSite_101 (rfl) (rfl)
set_option maxRecDepth 100000 in
theorem ok_Pr_aim {l : Launch} {D : va_G} {aC : Nat → ClassId} {ad : Nat → Nat} {f : Nat} (hf : f < 6) (x : tm_M) (v : Int32) {a n : Nat} (hn : x.1 (6, f, 0) 2 = nI n) (h81 : n ≤ 81) (ha : a < n) :
    OkX l y_Pr_aim b_Pr_aim 3 none (rom 1 21) D aC ad [.ref (ad (prO f)), .int (nI a), .int v] x none (sA x (6, f, 2) a v) := by
  refine ok_start (by decide) (Nat.le_of_ble_eq_true rfl) rfl ?_
  intro p e s m args below meth c B hr hlk hml
  have B : Cx p s m c args b_Pr_aim R_Pr D aC (rg 111 ad) 111 ad := B
  refine j_aloadn B d_Pr_aim_0 rfl ?_
  refine j_iloadn B d_Pr_aim_1 rfl ?_
  refine j_cVt B (ok_Pr_hasInstruction hf x (nI a)) cv_Pr_hasInstruction ml_Pr_46 (q_pr hf) rfl rfl ⟨rfl, rfl, by decide, by decide⟩ ⟨Nat.zero_le _, Nat.zero_le _⟩ hml (Nat.le_of_ble_eq_true rfl) rfl d_Pr_aim_2 ?_
  refine j_if_eq (tgt := 15) B d_Pr_aim_5 (by decide) (fun h5 => (show False from bI_e h5 ⟨nI_pos' (by omega), by rw [hn]; exact nI_lt ha (by omega)⟩).elim) (fun h5 => ?_)
  refine j_aloadn B d_Pr_aim_8 rfl ?_
  refine j_getr B fl_Pr_15 (q_pr hf) rfl d_Pr_aim_9 ?_
  refine j_iloadn B d_Pr_aim_12 rfl ?_
  refine j_iloadn B d_Pr_aim_13 rfl ?_
  refine j_iast B kX_inj (q_pr2 hf) (⟨rfl, by omega, by decide⟩) d_Pr_aim_14 ?_
  exact j_vret B hr hlk d_Pr_aim_15 (rfl) (rfl)
set_option maxRecDepth 100000 in
theorem ok_Pr_makeAction {l : Launch} {D : va_G} {aC : Nat → ClassId} {ad : Nat → Nat} {f : Nat} (hf : f < 6) (x : tm_M) (k h : Int32) {a : Nat} (ha : x.1 (6, f, 0) 6 = nI a) (h40 : a < 40) :
    OkX l y_Pr_makeAction b_Pr_makeAction 4 (some .int) (rom 0 0) D aC ad [.ref (ad (prO f)), .int k, .int h] x (some (.int (nI a))) (acX f a k h x) := by
  refine ok_start (by decide) (Nat.le_of_ble_eq_true rfl) rfl ?_
  intro p e s m args below meth c B hr hlk hml
  have B : Cx p s m c args b_Pr_makeAction R_Pr D aC (rg 111 ad) 111 ad := B
  refine j_aloadn B d_Pr_makeAction_0 rfl ?_
  refine j_geti B fl_Pr_40 (q_pr hf) rfl d_Pr_makeAction_1 ?_
  refine j_bipush (v := 40) B d_Pr_makeAction_4 (by decide) ?_
  refine j_icmp_lt (tgt := 11) B d_Pr_makeAction_6 (by decide) (fun h6 => ?_) (fun h6 => (show False from absurd (nInlt (c := a) (t := 40) (ha ▸ h6) (by omega) (by decide)) (by omega)).elim)
  refine j_aloadn B d_Pr_makeAction_11 rfl ?_
  refine j_geti B fl_Pr_40 (q_pr hf) rfl d_Pr_makeAction_12 ?_
  refine j_istoren B d_Pr_makeAction_15 (by decide) ?_
  refine j_aloadn B d_Pr_makeAction_16 rfl ?_
  refine j_getr B fl_Pr_18 (q_pr hf) rfl d_Pr_makeAction_17 ?_
  refine j_iloadn B d_Pr_makeAction_20 rfl ?_
  refine j_iloadn B d_Pr_makeAction_21 rfl ?_
  refine j_iast B kX_inj (q_pr3 hf) (⟨ha, h40, by decide⟩) d_Pr_makeAction_22 ?_
  refine j_aloadn B d_Pr_makeAction_23 rfl ?_
  refine j_getr B fl_Pr_21 (q_pr hf) rfl d_Pr_makeAction_24 ?_
  refine j_iloadn B d_Pr_makeAction_27 rfl ?_
  refine j_iconst (v := 0) B d_Pr_makeAction_28 (by decide) ?_
  refine j_iast B kX_inj (q_pr4 hf) (⟨ha, h40, by decide⟩) d_Pr_makeAction_29 ?_
  refine j_aloadn B d_Pr_makeAction_30 rfl ?_
  refine j_getr B fl_Pr_24 (q_pr hf) rfl d_Pr_makeAction_31 ?_
  refine j_iloadn B d_Pr_makeAction_34 rfl ?_
  refine j_iloadn B d_Pr_makeAction_35 rfl ?_
  refine j_iast B kX_inj (q_pr5 hf) (⟨ha, h40, by decide⟩) d_Pr_makeAction_36 ?_
  refine j_aloadn B d_Pr_makeAction_37 rfl ?_
  refine j_dup B d_Pr_makeAction_38 rfl ?_
  refine j_geti B fl_Pr_40 (q_pr hf) rfl d_Pr_makeAction_39 ?_
  refine j_iconst (v := 1) B d_Pr_makeAction_42 (by decide) ?_
  refine j_iadd B d_Pr_makeAction_43 ?_
  refine j_topi (nI (a + 1)) (by show x.1 (6, f, 0) 6 + 1 = _; rw [ha, nI_1]) ?_
  refine j_puti B kX_inj fs_Pr_40 (q_pr hf) rfl d_Pr_makeAction_44 ?_
  refine j_iloadn B d_Pr_makeAction_47 rfl ?_
  exact j_iret B hr hlk d_Pr_makeAction_48 (sv ha.symm) (rfl)
set_option maxRecDepth 100000 in
theorem ok_Pr_chain {l : Launch} {D : va_G} {aC : Nat → ClassId} {ad : Nat → Nat} {f : Nat} (hf : f < 6) (x : tm_M) (v : Int32) {k a : Nat} (hc : x.1 (6, f, 0) 6 = nI a) (h40 : a ≤ 40) (hk : k < a) :
    OkX l y_Pr_chain b_Pr_chain 3 none (rom 1 21) D aC ad [.ref (ad (prO f)), .int (nI k), .int v] x none (sA x (6, f, 5) k v) := by
  refine ok_start (by decide) (Nat.le_of_ble_eq_true rfl) rfl ?_
  intro p e s m args below meth c B hr hlk hml
  have B : Cx p s m c args b_Pr_chain R_Pr D aC (rg 111 ad) 111 ad := B
  refine j_aloadn B d_Pr_chain_0 rfl ?_
  refine j_iloadn B d_Pr_chain_1 rfl ?_
  refine j_cVt B (ok_Pr_hasAction hf x (nI k)) cv_Pr_hasAction ml_Pr_50 (q_pr hf) rfl rfl ⟨rfl, rfl, by decide, by decide⟩ ⟨Nat.zero_le _, Nat.zero_le _⟩ hml (Nat.le_of_ble_eq_true rfl) rfl d_Pr_chain_2 ?_
  refine j_if_eq (tgt := 15) B d_Pr_chain_5 (by decide) (fun h5 => (show False from bI_e h5 ⟨nI_pos' (by omega), by rw [hc]; exact nI_lt hk (by omega)⟩).elim) (fun h5 => ?_)
  refine j_aloadn B d_Pr_chain_8 rfl ?_
  refine j_getr B fl_Pr_24 (q_pr hf) rfl d_Pr_chain_9 ?_
  refine j_iloadn B d_Pr_chain_12 rfl ?_
  refine j_iloadn B d_Pr_chain_13 rfl ?_
  refine j_iast B kX_inj (q_pr5 hf) (⟨rfl, by omega, by decide⟩) d_Pr_chain_14 ?_
  exact j_vret B hr hlk d_Pr_chain_15 (rfl) (rfl)
set_option maxRecDepth 100000 in
theorem ok_Pr_landHere {l : Launch} {D : va_G} {aC : Nat → ClassId} {ad : Nat → Nat} {f : Nat} (hf : f < 6) (x : tm_M) {k a : Nat} (hc : x.1 (6, f, 0) 6 = nI a) (h40 : a ≤ 40) (hk : k < a) :
    OkX l y_Pr_landHere b_Pr_landHere 2 none (rom 1 21) D aC ad [.ref (ad (prO f)), .int (nI k)] x none (sA x (6, f, 4) k (x.1 (6, f, 0) 2)) := by
  refine ok_start (by decide) (Nat.le_of_ble_eq_true rfl) rfl ?_
  intro p e s m args below meth c B hr hlk hml
  have B : Cx p s m c args b_Pr_landHere R_Pr D aC (rg 111 ad) 111 ad := B
  refine j_aloadn B d_Pr_landHere_0 rfl ?_
  refine j_iloadn B d_Pr_landHere_1 rfl ?_
  refine j_cVt B (ok_Pr_hasAction hf x (nI k)) cv_Pr_hasAction ml_Pr_50 (q_pr hf) rfl rfl ⟨rfl, rfl, by decide, by decide⟩ ⟨Nat.zero_le _, Nat.zero_le _⟩ hml (Nat.le_of_ble_eq_true rfl) rfl d_Pr_landHere_2 ?_
  refine j_if_eq (tgt := 18) B d_Pr_landHere_5 (by decide) (fun h5 => (show False from bI_e h5 ⟨nI_pos' (by omega), by rw [hc]; exact nI_lt hk (by omega)⟩).elim) (fun h5 => ?_)
  refine j_aloadn B d_Pr_landHere_8 rfl ?_
  refine j_getr B fl_Pr_21 (q_pr hf) rfl d_Pr_landHere_9 ?_
  refine j_iloadn B d_Pr_landHere_12 rfl ?_
  refine j_aloadn B d_Pr_landHere_13 rfl ?_
  refine j_geti B fl_Pr_36 (q_pr hf) rfl d_Pr_landHere_14 ?_
  refine j_iast B kX_inj (q_pr4 hf) (⟨rfl, by omega, by decide⟩) d_Pr_landHere_17 ?_
  exact j_vret B hr hlk d_Pr_landHere_18 (rfl) (rfl)
set_option maxRecDepth 100000 in
theorem ok_Bl_begin {l : Launch} {D : va_G} {aC : Nat → ClassId} {ad : Nat → Nat} {i : Nat} (hi : i < 5) (x : tm_M) (a b c d : Int32) :
    OkX l y_Bl_begin b_Bl_begin 5 none (rom 0 0) D aC ad [.ref (ad (blO i)), .int a, .int b, .int c, .int d] x none (sI (sI (sI (sI (sI (sI x (4, i, 0) 0 a) (4, i, 0) 1 b) (4, i, 0) 2 c) (4, i, 0) 3 d) (4, i, 0) 4 c) (4, i, 0) 6 0) := by
  refine ok_start (by decide) (Nat.le_of_ble_eq_true rfl) rfl ?_
  intro p e s m args below meth c B hr hlk hml
  have B : Cx p s m c args b_Bl_begin R_Bl D aC (rg 111 ad) 111 ad := B
  refine j_aloadn B d_Bl_begin_0 rfl ?_
  refine j_iloadn B d_Bl_begin_1 rfl ?_
  refine j_puti B kX_inj fs_Bl_15 (q_bl hi) rfl d_Bl_begin_2 ?_
  refine j_aloadn B d_Bl_begin_5 rfl ?_
  refine j_iloadn B d_Bl_begin_6 rfl ?_
  refine j_puti B kX_inj fs_Bl_19 (q_bl hi) rfl d_Bl_begin_7 ?_
  refine j_aloadn B d_Bl_begin_10 rfl ?_
  refine j_iloadn B d_Bl_begin_11 rfl ?_
  refine j_puti B kX_inj fs_Bl_22 (q_bl hi) rfl d_Bl_begin_12 ?_
  refine j_aloadn B d_Bl_begin_15 rfl ?_
  refine j_iload B d_Bl_begin_16 rfl ?_
  refine j_puti B kX_inj fs_Bl_25 (q_bl hi) rfl d_Bl_begin_18 ?_
  refine j_aloadn B d_Bl_begin_21 rfl ?_
  refine j_iloadn B d_Bl_begin_22 rfl ?_
  refine j_puti B kX_inj fs_Bl_28 (q_bl hi) rfl d_Bl_begin_23 ?_
  refine j_aloadn B d_Bl_begin_26 rfl ?_
  refine j_iconst (v := 0) B d_Bl_begin_27 (by decide) ?_
  refine j_puti B kX_inj fs_Bl_31 (q_bl hi) rfl d_Bl_begin_28 ?_
  exact j_vret B hr hlk d_Bl_begin_31 (rfl) (rfl)
set_option maxRecDepth 100000 in
theorem ok_Bl_noteExit {l : Launch} {D : va_G} {aC : Nat → ClassId} {ad : Nat → Nat} {i : Nat} (hi : i < 5) (x : tm_M) (v : Int32) {t : Nat} (ht : x.1 (4, i, 0) 6 = nI t) (h20 : t < 20) :
    OkX l y_Bl_noteExit b_Bl_noteExit 2 none (rom 0 0) D aC ad [.ref (ad (blO i)), .int v] x none (sI (sA x (4, i, 1) t v) (4, i, 0) 6 (nI (t + 1))) := by
  refine ok_start (by decide) (Nat.le_of_ble_eq_true rfl) rfl ?_
  intro p e s m args below meth c B hr hlk hml
  have B : Cx p s m c args b_Bl_noteExit R_Bl D aC (rg 111 ad) 111 ad := B
  refine j_aloadn B d_Bl_noteExit_0 rfl ?_
  refine j_geti B fl_Bl_31 (q_bl hi) rfl d_Bl_noteExit_1 ?_
  refine j_bipush (v := 20) B d_Bl_noteExit_4 (by decide) ?_
  refine j_icmp_ge (tgt := 29) B d_Bl_noteExit_6 (by decide) (fun h6 => (show False from absurd (nIle (c := 20) (ht ▸ h6) (by decide) (by omega)) (by omega)).elim) (fun h6 => ?_)
  refine j_aloadn B d_Bl_noteExit_9 rfl ?_
  refine j_getr B fl_Bl_9 (q_bl hi) rfl d_Bl_noteExit_10 ?_
  refine j_aloadn B d_Bl_noteExit_13 rfl ?_
  refine j_geti B fl_Bl_31 (q_bl hi) rfl d_Bl_noteExit_14 ?_
  refine j_iloadn B d_Bl_noteExit_17 rfl ?_
  refine j_iast B kX_inj (q_bl1 hi) (⟨ht, h20, by decide⟩) d_Bl_noteExit_18 ?_
  refine j_aloadn B d_Bl_noteExit_19 rfl ?_
  refine j_dup B d_Bl_noteExit_20 rfl ?_
  refine j_geti B fl_Bl_31 (q_bl hi) rfl d_Bl_noteExit_21 ?_
  refine j_iconst (v := 1) B d_Bl_noteExit_24 (by decide) ?_
  refine j_iadd B d_Bl_noteExit_25 ?_
  refine j_topi (nI (t + 1)) (by show x.1 (4, i, 0) 6 + 1 = _; rw [ht, nI_1]) ?_
  refine j_puti B kX_inj fs_Bl_31 (q_bl hi) rfl d_Bl_noteExit_26 ?_
  exact j_vret B hr hlk d_Bl_noteExit_29 (rfl) (rfl)
