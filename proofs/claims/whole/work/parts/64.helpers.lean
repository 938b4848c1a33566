def oL (aC : Nat → ClassId) (f : Nat → Int64) : va_E := .inl (aC 5, 1, .inr (.inl f))
/-- the class's world, and the array of one long -/
def wL (ad : Nat → Nat) (aC : Nat → ClassId) (x : tm_M) (f : Nat → Int64) : Nat → va_E := fun k => if k < 111 then wX ad aC x k else if k = 111 then oL aC f else oL aC (fun _ => 0)
theorem wL_x {ad : Nat → Nat} {aC : Nat → ClassId} {x : tm_M} {f : Nat → Int64} : ∀ k, k < 111 → wL ad aC x f (id k) = wX ad aC x k := fun k hk => if_pos hk
theorem wL_o {ad : Nat → Nat} {aC : Nat → ClassId} {x : tm_M} {f : Nat → Int64} : wL ad aC x f 111 = .inl (aC 5, 1, .inr (.inl f)) := rfl
theorem wL_up {ad : Nat → Nat} {aC : Nat → ClassId} {x : tm_M} {f : Nat → Int64} {a : Int64} : wL ad aC x (vp_updL f 0 a) = va_up (wL ad aC x f) 111 (.inl (aC 5, 1, .inr (.inl (vp_updL f 0 a)))) := by
  funext k
  by_cases h : k = 111
  · subst h; simp [va_up, wL, oL]
  · simp [va_up, wL, h]
theorem wL_put {ad : Nat → Nat} {aC : Nat → ClassId} {x x2 : tm_M} {f : Nat → Int64} : PutW 112 111 id (wL ad aC x f) (wL ad aC x2 f) (wX ad aC x2) := by
  refine ⟨fun k hk => if_pos hk, fun i hi h => ?_⟩
  have : i = 111 := by
    apply Classical.byContradiction
    intro h1
    exact h i (by omega) rfl
  subst this
  rfl
theorem wL_0 {ad : Nat → Nat} {aC : Nat → ClassId} {x : tm_M} : wX ad aC x 0 = .inr (0, tm_fs ad (x.1 (0, 0, 0)) 0 [some 1, some 20, some 22, some 34]) := rfl
theorem sub_L {ad : Nat → Nat} : SubW 112 111 ad ad id := fun k hk => ⟨by show k < 112; omega, rfl⟩
abbrev OkL (l : Launch) (y : MethodName) (b : ByteArray) (mL : Nat) (hh : List (Nat × Nat × Nat × Nat)) (rm : Room) (D : va_G) (aC : Nat → ClassId) (ad : Nat → Nat) (av : List Value) (x : tm_M) (f : Nat → Int64) (r : Int32) (x' : tm_M) (f' : Nat → Int64) : Prop := OkW l y b mL hh rm D aC 112 ad av (wL ad aC x f) (some (.int r)) (wL ad aC x' f')
theorem cl_La_13 : Cond.classLink R_La 13 n_iae ∈ gw := by decide +kernel
theorem cl_La_15 : Cond.classLink R_La 15 n_ise ∈ gw := by decide +kernel
theorem cl_La_35 : Cond.classLink R_La 35 n_nse ∈ gw := by decide +kernel
def hh_type : List (Nat × Nat × Nat × Nat) := [(0, 9, 12, 13), (0, 9, 15, 15)]
set_option maxRecDepth 100000 in
theorem ok_La_type {l : Launch} {D : va_G} {aC : Nat → ClassId} {ad : Nat → Nat} (x : tm_M) (f : Nat → Int64) (a1 : Int32) {r : Int32} {x2 : tm_M} (hM : OkX l y_Lp_type b_Lp_type 2 (some .int) (rom 7 163) D aC ad [.ref (ad 0), .int a1] x (some (.int r)) x2) :
    OkL l y_La_type b_La_type 4 hh_type (romT 8 187) D aC ad [.ref (ad 0), .int a1, .ref (ad 111)] x f 0 x2 (vp_updL f 0 r.toInt64) := by
  refine la_start (by decide) (Nat.le_of_ble_eq_true rfl) rfl ?_
  intro p e s m args below meth c B hZ htab hr hlk hml
  have B : Cx p s m c args b_La_type R_La D aC (rg 112 ad) 112 ad := B
  refine j_wide (Nat.zero_le 1) (Nat.zero_le 6) ?_
  refine j_aloadn B d_La_type_0 rfl ?_
  refine j_iconst (v := 0) B d_La_type_1 (by decide) ?_
  refine j_aloadn B d_La_type_2 rfl ?_
  refine j_iloadn B d_La_type_3 rfl ?_
  refine j_cVs (k0 := 0) (st := [.int 0, .ref (ad 111)]) B sub_L (fun _ _ _ _ h => h) hM cv_Lp_type ml_La_7 rfl ⟨rfl, rfl, by decide, by decide⟩ ⟨by decide, by decide⟩ wL_x (by decide) wL_0 rfl wL_put hml (Nat.le_of_ble_eq_true rfl) rfl d_La_type_4 ?_
  refine j_i2l B d_La_type_7 ?_
  refine j_last (k := 111) B (by decide) wL_o (by decide) (by decide) d_La_type_8 wL_up ?_
  refine j_goto (tgt := 18) B d_La_type_9 (by decide) ?_
  refine j_iconst (v := 0) B d_La_type_18 (by decide) ?_
  exact j_ireg B hr hlk d_La_type_19 rfl rfl
set_option maxRecDepth 100000 in
theorem th_La_type_1 {l : Launch} {D : va_G} {aC : Nat → ClassId} {ad : Nat → Nat} (x : tm_M) (f : Nat → Int64) (a1 : Int32) {x2 : tm_M} (hM : ThX l y_Lp_type b_Lp_type 2 (some .int) (romT 7 163) D aC ad [.ref (ad 0), .int a1] x n_iae x2) :
    OkL l y_La_type b_La_type 4 hh_type (romT 8 187) D aC ad [.ref (ad 0), .int a1, .ref (ad 111)] x f 1 x2 f := by
  refine la_start (by decide) (Nat.le_of_ble_eq_true rfl) rfl ?_
  intro p e s m args below meth c B hZ htab hr hlk hml
  have B : Cx p s m c args b_La_type R_La D aC (rg 112 ad) 112 ad := B
  refine j_aloadn B d_La_type_0 rfl ?_
  refine j_iconst (v := 0) B d_La_type_1 (by decide) ?_
  refine j_aloadn B d_La_type_2 rfl ?_
  refine j_iloadn B d_La_type_3 rfl ?_
  refine j_catV (k0 := 0) (st := [.int 0, .ref (ad 111)]) B hZ htab hM cv_Lp_type ml_La_7 rfl ⟨rfl, rfl, by decide, by decide⟩ ⟨by decide, by decide⟩ (by decide) wL_x (by decide) wL_0 rfl wL_put hml (Nat.le_of_ble_eq_true rfl) rfl d_La_type_4 (Or.inl ⟨0, 9, 13, _, rfl, by decide, by decide, by decide, cl_La_13⟩) (by decide) (fun q => ?_)
  refine j_astoren B d_La_type_12 (by decide) ?_
  refine j_iconst (v := 1) B d_La_type_13 (by decide) ?_
  exact j_ireg B hr hlk d_La_type_14 rfl rfl
set_option maxRecDepth 100000 in
theorem th_La_type_2 {l : Launch} {D : va_G} {aC : Nat → ClassId} {ad : Nat → Nat} (x : tm_M) (f : Nat → Int64) (a1 : Int32) {x2 : tm_M} (hM : ThX l y_Lp_type b_Lp_type 2 (some .int) (romT 7 163) D aC ad [.ref (ad 0), .int a1] x n_ise x2) :
    OkL l y_La_type b_La_type 4 hh_type (romT 8 187) D aC ad [.ref (ad 0), .int a1, .ref (ad 111)] x f 2 x2 f := by
  refine la_start (by decide) (Nat.le_of_ble_eq_true rfl) rfl ?_
  intro p e s m args below meth c B hZ htab hr hlk hml
  have B : Cx p s m c args b_La_type R_La D aC (rg 112 ad) 112 ad := B
  refine j_aloadn B d_La_type_0 rfl ?_
  refine j_iconst (v := 0) B d_La_type_1 (by decide) ?_
  refine j_aloadn B d_La_type_2 rfl ?_
  refine j_iloadn B d_La_type_3 rfl ?_
  refine j_catV (k0 := 0) (st := [.int 0, .ref (ad 111)]) B hZ htab hM cv_Lp_type ml_La_7 rfl ⟨rfl, rfl, by decide, by decide⟩ ⟨by decide, by decide⟩ (by decide) wL_x (by decide) wL_0 rfl wL_put hml (Nat.le_of_ble_eq_true rfl) rfl d_La_type_4 (Or.inr ⟨rfl, 0, (9, 12, 13), 0, 9, 15, _, rfl, by decide, cl_La_13, by decide, by decide, by decide, cl_La_15⟩) (by decide) (fun q => ?_)
  refine j_astoren B d_La_type_15 (by decide) ?_
  refine j_iconst (v := 2) B d_La_type_16 (by decide) ?_
  exact j_ireg B hr hlk d_La_type_17 rfl rfl
def hh_add : List (Nat × Nat × Nat × Nat) := [(0, 12, 15, 13), (0, 12, 19, 15)]
set_option maxRecDepth 100000 in
theorem ok_La_add {l : Launch} {D : va_G} {aC : Nat → ClassId} {ad : Nat → Nat} (x : tm_M) (f : Nat → Int64) (a1 a2 a3 : Int32) {r : Int32} {x2 : tm_M} (hM : OkX l y_Lp_add b_Lp_add 4 (some .int) (rom 7 163) D aC ad [.ref (ad 0), .int a1, .int a2, .int a3] x (some (.int r)) x2) :
    OkL l y_La_add b_La_add 6 hh_add (romT 8 187) D aC ad [.ref (ad 0), .int a1, .int a2, .int a3, .ref (ad 111)] x f 0 x2 (vp_updL f 0 r.toInt64) := by
  refine la_start (by decide) (Nat.le_of_ble_eq_true rfl) rfl ?_
  intro p e s m args below meth c B hZ htab hr hlk hml
  have B : Cx p s m c args b_La_add R_La D aC (rg 112 ad) 112 ad := B
  refine j_wide (Nat.zero_le 1) (Nat.zero_le 6) ?_
  refine j_aload B d_La_add_0 rfl ?_
  refine j_iconst (v := 0) B d_La_add_2 (by decide) ?_
  refine j_aloadn B d_La_add_3 rfl ?_
  refine j_iloadn B d_La_add_4 rfl ?_
  refine j_iloadn B d_La_add_5 rfl ?_
  refine j_iloadn B d_La_add_6 rfl ?_
  refine j_cVs (k0 := 0) (st := [.int 0, .ref (ad 111)]) B sub_L (fun _ _ _ _ h => h) hM cv_Lp_add ml_La_17 rfl ⟨rfl, rfl, by decide, by decide⟩ ⟨by decide, by decide⟩ wL_x (by decide) wL_0 rfl wL_put hml (Nat.le_of_ble_eq_true rfl) rfl d_La_add_7 ?_
  refine j_i2l B d_La_add_10 ?_
  refine j_last (k := 111) B (by decide) wL_o (by decide) (by decide) d_La_add_11 wL_up ?_
  refine j_goto (tgt := 23) B d_La_add_12 (by decide) ?_
  refine j_iconst (v := 0) B d_La_add_23 (by decide) ?_
  exact j_ireg B hr hlk d_La_add_24 rfl rfl
set_option maxRecDepth 100000 in
theorem th_La_add_1 {l : Launch} {D : va_G} {aC : Nat → ClassId} {ad : Nat → Nat} (x : tm_M) (f : Nat → Int64) (a1 a2 a3 : Int32) {x2 : tm_M} (hM : ThX l y_Lp_add b_Lp_add 4 (some .int) (romT 7 163) D aC ad [.ref (ad 0), .int a1, .int a2, .int a3] x n_iae x2) :
    OkL l y_La_add b_La_add 6 hh_add (romT 8 187) D aC ad [.ref (ad 0), .int a1, .int a2, .int a3, .ref (ad 111)] x f 1 x2 f := by
  refine la_start (by decide) (Nat.le_of_ble_eq_true rfl) rfl ?_
  intro p e s m args below meth c B hZ htab hr hlk hml
  have B : Cx p s m c args b_La_add R_La D aC (rg 112 ad) 112 ad := B
  refine j_aload B d_La_add_0 rfl ?_
  refine j_iconst (v := 0) B d_La_add_2 (by decide) ?_
  refine j_aloadn B d_La_add_3 rfl ?_
  refine j_iloadn B d_La_add_4 rfl ?_
  refine j_iloadn B d_La_add_5 rfl ?_
  refine j_iloadn B d_La_add_6 rfl ?_
  refine j_catV (k0 := 0) (st := [.int 0, .ref (ad 111)]) B hZ htab hM cv_Lp_add ml_La_17 rfl ⟨rfl, rfl, by decide, by decide⟩ ⟨by decide, by decide⟩ (by decide) wL_x (by decide) wL_0 rfl wL_put hml (Nat.le_of_ble_eq_true rfl) rfl d_La_add_7 (Or.inl ⟨0, 12, 13, _, rfl, by decide, by decide, by decide, cl_La_13⟩) (by decide) (fun q => ?_)
  refine j_astore B d_La_add_15 (by decide) ?_
  refine j_iconst (v := 1) B d_La_add_17 (by decide) ?_
  exact j_ireg B hr hlk d_La_add_18 rfl rfl
set_option maxRecDepth 100000 in
theorem th_La_add_2 {l : Launch} {D : va_G} {aC : Nat → ClassId} {ad : Nat → Nat} (x : tm_M) (f : Nat → Int64) (a1 a2 a3 : Int32) {x2 : tm_M} (hM : ThX l y_Lp_add b_Lp_add 4 (some .int) (romT 7 163) D aC ad [.ref (ad 0), .int a1, .int a2, .int a3] x n_ise x2) :
    OkL l y_La_add b_La_add 6 hh_add (romT 8 187) D aC ad [.ref (ad 0), .int a1, .int a2, .int a3, .ref (ad 111)] x f 2 x2 f := by
  refine la_start (by decide) (Nat.le_of_ble_eq_true rfl) rfl ?_
  intro p e s m args below meth c B hZ htab hr hlk hml
  have B : Cx p s m c args b_La_add R_La D aC (rg 112 ad) 112 ad := B
  refine j_aload B d_La_add_0 rfl ?_
  refine j_iconst (v := 0) B d_La_add_2 (by decide) ?_
  refine j_aloadn B d_La_add_3 rfl ?_
  refine j_iloadn B d_La_add_4 rfl ?_
  refine j_iloadn B d_La_add_5 rfl ?_
  refine j_iloadn B d_La_add_6 rfl ?_
  refine j_catV (k0 := 0) (st := [.int 0, .ref (ad 111)]) B hZ htab hM cv_Lp_add ml_La_17 rfl ⟨rfl, rfl, by decide, by decide⟩ ⟨by decide, by decide⟩ (by decide) wL_x (by decide) wL_0 rfl wL_put hml (Nat.le_of_ble_eq_true rfl) rfl d_La_add_7 (Or.inr ⟨rfl, 0, (12, 15, 13), 0, 12, 15, _, rfl, by decide, cl_La_13, by decide, by decide, by decide, cl_La_15⟩) (by decide) (fun q => ?_)
  refine j_astore B d_La_add_19 (by decide) ?_
  refine j_iconst (v := 2) B d_La_add_21 (by decide) ?_
  exact j_ireg B hr hlk d_La_add_22 rfl rfl
def hh_wipe : List (Nat × Nat × Nat × Nat) := [(0, 5, 8, 13)]
set_option maxRecDepth 100000 in
theorem ok_La_wipe {l : Launch} {D : va_G} {aC : Nat → ClassId} {ad : Nat → Nat} (x : tm_M) (f : Nat → Int64) (a1 : Int32) {x2 : tm_M} (hM : OkX l y_Lp_wipe b_Lp_wipe 2 none (rom 7 163) D aC ad [.ref (ad 0), .int a1] x none x2) :
    OkL l y_La_wipe b_La_wipe 3 hh_wipe (romT 8 187) D aC ad [.ref (ad 0), .int a1] x f 0 x2 f := by
  refine la_start (by decide) (Nat.le_of_ble_eq_true rfl) rfl ?_
  intro p e s m args below meth c B hZ htab hr hlk hml
  have B : Cx p s m c args b_La_wipe R_La D aC (rg 112 ad) 112 ad := B
  refine j_wide (Nat.zero_le 1) (Nat.zero_le 6) ?_
  refine j_aloadn B d_La_wipe_0 rfl ?_
  refine j_iloadn B d_La_wipe_1 rfl ?_
  refine j_cVs (k0 := 0)  B sub_L (fun _ _ _ _ h => h) hM cv_Lp_wipe ml_La_21 rfl ⟨rfl, rfl, by decide, by decide⟩ ⟨by decide, by decide⟩ wL_x (by decide) wL_0 rfl wL_put hml (Nat.le_of_ble_eq_true rfl) rfl d_La_wipe_2 ?_
  refine j_goto (tgt := 11) B d_La_wipe_5 (by decide) ?_
  refine j_iconst (v := 0) B d_La_wipe_11 (by decide) ?_
  exact j_ireg B hr hlk d_La_wipe_12 rfl rfl
set_option maxRecDepth 100000 in
theorem th_La_wipe_1 {l : Launch} {D : va_G} {aC : Nat → ClassId} {ad : Nat → Nat} (x : tm_M) (f : Nat → Int64) (a1 : Int32) {x2 : tm_M} (hM : ThX l y_Lp_wipe b_Lp_wipe 2 none (romT 7 163) D aC ad [.ref (ad 0), .int a1] x n_iae x2) :
    OkL l y_La_wipe b_La_wipe 3 hh_wipe (romT 8 187) D aC ad [.ref (ad 0), .int a1] x f 1 x2 f := by
  refine la_start (by decide) (Nat.le_of_ble_eq_true rfl) rfl ?_
  intro p e s m args below meth c B hZ htab hr hlk hml
  have B : Cx p s m c args b_La_wipe R_La D aC (rg 112 ad) 112 ad := B
  refine j_aloadn B d_La_wipe_0 rfl ?_
  refine j_iloadn B d_La_wipe_1 rfl ?_
  refine j_catV (k0 := 0)  B hZ htab hM cv_Lp_wipe ml_La_21 rfl ⟨rfl, rfl, by decide, by decide⟩ ⟨by decide, by decide⟩ (by decide) wL_x (by decide) wL_0 rfl wL_put hml (Nat.le_of_ble_eq_true rfl) rfl d_La_wipe_2 (Or.inl ⟨0, 5, 13, _, rfl, by decide, by decide, by decide, cl_La_13⟩) (by decide) (fun q => ?_)
  refine j_astoren B d_La_wipe_8 (by decide) ?_
  refine j_iconst (v := 1) B d_La_wipe_9 (by decide) ?_
  exact j_ireg B hr hlk d_La_wipe_10 rfl rfl
def hh_compile : List (Nat × Nat × Nat × Nat) := [(0, 9, 12, 13), (0, 9, 15, 15)]
set_option maxRecDepth 100000 in
theorem ok_La_compile {l : Launch} {D : va_G} {aC : Nat → ClassId} {ad : Nat → Nat} (x : tm_M) (f : Nat → Int64) (a1 : Int32) {r : Int32} {x2 : tm_M} (hM : OkX l y_Lp_compile b_Lp_compile 4 (some .int) (rom 7 163) D aC ad [.ref (ad 0), .int a1] x (some (.int r)) x2) :
    OkL l y_La_compile b_La_compile 4 hh_compile (romT 8 187) D aC ad [.ref (ad 0), .int a1, .ref (ad 111)] x f 0 x2 (vp_updL f 0 r.toInt64) := by
  refine la_start (by decide) (Nat.le_of_ble_eq_true rfl) rfl ?_
  intro p e s m args below meth c B hZ htab hr hlk hml
  have B : Cx p s m c args b_La_compile R_La D aC (rg 112 ad) 112 ad := B
  refine j_wide (Nat.zero_le 1) (Nat.zero_le 6) ?_
  refine j_aloadn B d_La_compile_0 rfl ?_
  refine j_iconst (v := 0) B d_La_compile_1 (by decide) ?_
  refine j_aloadn B d_La_compile_2 rfl ?_
  refine j_iloadn B d_La_compile_3 rfl ?_
  refine j_cVs (k0 := 0) (st := [.int 0, .ref (ad 111)]) B sub_L (fun _ _ _ _ h => h) hM cv_Lp_compile ml_La_25 rfl ⟨rfl, rfl, by decide, by decide⟩ ⟨by decide, by decide⟩ wL_x (by decide) wL_0 rfl wL_put hml (Nat.le_of_ble_eq_true rfl) rfl d_La_compile_4 ?_
  refine j_i2l B d_La_compile_7 ?_
  refine j_last (k := 111) B (by decide) wL_o (by decide) (by decide) d_La_compile_8 wL_up ?_
  refine j_goto (tgt := 18) B d_La_compile_9 (by decide) ?_
  refine j_iconst (v := 0) B d_La_compile_18 (by decide) ?_
  exact j_ireg B hr hlk d_La_compile_19 rfl rfl
set_option maxRecDepth 100000 in
theorem th_La_compile_1 {l : Launch} {D : va_G} {aC : Nat → ClassId} {ad : Nat → Nat} (x : tm_M) (f : Nat → Int64) (a1 : Int32) {x2 : tm_M} (hM : ThX l y_Lp_compile b_Lp_compile 4 (some .int) (romT 7 163) D aC ad [.ref (ad 0), .int a1] x n_iae x2) :
    OkL l y_La_compile b_La_compile 4 hh_compile (romT 8 187) D aC ad [.ref (ad 0), .int a1, .ref (ad 111)] x f 1 x2 f := by
  refine la_start (by decide) (Nat.le_of_ble_eq_true rfl) rfl ?_
  intro p e s m args below meth c B hZ htab hr hlk hml
  have B : Cx p s m c args b_La_compile R_La D aC (rg 112 ad) 112 ad := B
  refine j_aloadn B d_La_compile_0 rfl ?_
  refine j_iconst (v := 0) B d_La_compile_1 (by decide) ?_
  refine j_aloadn B d_La_compile_2 rfl ?_
  refine j_iloadn B d_La_compile_3 rfl ?_
  refine j_catV (k0 := 0) (st := [.int 0, .ref (ad 111)]) B hZ htab hM cv_Lp_compile ml_La_25 rfl ⟨rfl, rfl, by decide, by decide⟩ ⟨by decide, by decide⟩ (by decide) wL_x (by decide) wL_0 rfl wL_put hml (Nat.le_of_ble_eq_true rfl) rfl d_La_compile_4 (Or.inl ⟨0, 9, 13, _, rfl, by decide, by decide, by decide, cl_La_13⟩) (by decide) (fun q => ?_)
  refine j_astoren B d_La_compile_12 (by decide) ?_
  refine j_iconst (v := 1) B d_La_compile_13 (by decide) ?_
  exact j_ireg B hr hlk d_La_compile_14 rfl rfl
set_option maxRecDepth 100000 in
theorem th_La_compile_2 {l : Launch} {D : va_G} {aC : Nat → ClassId} {ad : Nat → Nat} (x : tm_M) (f : Nat → Int64) (a1 : Int32) {x2 : tm_M} (hM : ThX l y_Lp_compile b_Lp_compile 4 (some .int) (romT 7 163) D aC ad [.ref (ad 0), .int a1] x n_ise x2) :
    OkL l y_La_compile b_La_compile 4 hh_compile (romT 8 187) D aC ad [.ref (ad 0), .int a1, .ref (ad 111)] x f 2 x2 f := by
  refine la_start (by decide) (Nat.le_of_ble_eq_true rfl) rfl ?_
  intro p e s m args below meth c B hZ htab hr hlk hml
  have B : Cx p s m c args b_La_compile R_La D aC (rg 112 ad) 112 ad := B
  refine j_aloadn B d_La_compile_0 rfl ?_
  refine j_iconst (v := 0) B d_La_compile_1 (by decide) ?_
  refine j_aloadn B d_La_compile_2 rfl ?_
  refine j_iloadn B d_La_compile_3 rfl ?_
  refine j_catV (k0 := 0) (st := [.int 0, .ref (ad 111)]) B hZ htab hM cv_Lp_compile ml_La_25 rfl ⟨rfl, rfl, by decide, by decide⟩ ⟨by decide, by decide⟩ (by decide) wL_x (by decide) wL_0 rfl wL_put hml (Nat.le_of_ble_eq_true rfl) rfl d_La_compile_4 (Or.inr ⟨rfl, 0, (9, 12, 13), 0, 9, 15, _, rfl, by decide, cl_La_13, by decide, by decide, by decide, cl_La_15⟩) (by decide) (fun q => ?_)
  refine j_astoren B d_La_compile_15 (by decide) ?_
  refine j_iconst (v := 2) B d_La_compile_16 (by decide) ?_
  exact j_ireg B hr hlk d_La_compile_17 rfl rfl
def hh_size : List (Nat × Nat × Nat × Nat) := [(0, 10, 13, 13)]
set_option maxRecDepth 100000 in
theorem ok_La_size {l : Launch} {D : va_G} {aC : Nat → ClassId} {ad : Nat → Nat} (x : tm_M) (f : Nat → Int64) (a1 a2 : Int32) {r : Int32} {x2 : tm_M} (hM : OkX l y_Lp_size b_Lp_size 4 (some .int) (rom 7 163) D aC ad [.ref (ad 0), .int a1, .int a2] x (some (.int r)) x2) :
    OkL l y_La_size b_La_size 5 hh_size (romT 8 187) D aC ad [.ref (ad 0), .int a1, .int a2, .ref (ad 111)] x f 0 x2 (vp_updL f 0 r.toInt64) := by
  refine la_start (by decide) (Nat.le_of_ble_eq_true rfl) rfl ?_
  intro p e s m args below meth c B hZ htab hr hlk hml
  have B : Cx p s m c args b_La_size R_La D aC (rg 112 ad) 112 ad := B
  refine j_wide (Nat.zero_le 1) (Nat.zero_le 6) ?_
  refine j_aloadn B d_La_size_0 rfl ?_
  refine j_iconst (v := 0) B d_La_size_1 (by decide) ?_
  refine j_aloadn B d_La_size_2 rfl ?_
  refine j_iloadn B d_La_size_3 rfl ?_
  refine j_iloadn B d_La_size_4 rfl ?_
  refine j_cVs (k0 := 0) (st := [.int 0, .ref (ad 111)]) B sub_L (fun _ _ _ _ h => h) hM cv_Lp_size ml_La_28 rfl ⟨rfl, rfl, by decide, by decide⟩ ⟨by decide, by decide⟩ wL_x (by decide) wL_0 rfl wL_put hml (Nat.le_of_ble_eq_true rfl) rfl d_La_size_5 ?_
  refine j_i2l B d_La_size_8 ?_
  refine j_last (k := 111) B (by decide) wL_o (by decide) (by decide) d_La_size_9 wL_up ?_
  refine j_goto (tgt := 17) B d_La_size_10 (by decide) ?_
  refine j_iconst (v := 0) B d_La_size_17 (by decide) ?_
  exact j_ireg B hr hlk d_La_size_18 rfl rfl
set_option maxRecDepth 100000 in
theorem th_La_size_1 {l : Launch} {D : va_G} {aC : Nat → ClassId} {ad : Nat → Nat} (x : tm_M) (f : Nat → Int64) (a1 a2 : Int32) {x2 : tm_M} (hM : ThX l y_Lp_size b_Lp_size 4 (some .int) (romT 7 163) D aC ad [.ref (ad 0), .int a1, .int a2] x n_iae x2) :
    OkL l y_La_size b_La_size 5 hh_size (romT 8 187) D aC ad [.ref (ad 0), .int a1, .int a2, .ref (ad 111)] x f 1 x2 f := by
  refine la_start (by decide) (Nat.le_of_ble_eq_true rfl) rfl ?_
  intro p e s m args below meth c B hZ htab hr hlk hml
  have B : Cx p s m c args b_La_size R_La D aC (rg 112 ad) 112 ad := B
  refine j_aloadn B d_La_size_0 rfl ?_
  refine j_iconst (v := 0) B d_La_size_1 (by decide) ?_
  refine j_aloadn B d_La_size_2 rfl ?_
  refine j_iloadn B d_La_size_3 rfl ?_
  refine j_iloadn B d_La_size_4 rfl ?_
  refine j_catV (k0 := 0) (st := [.int 0, .ref (ad 111)]) B hZ htab hM cv_Lp_size ml_La_28 rfl ⟨rfl, rfl, by decide, by decide⟩ ⟨by decide, by decide⟩ (by decide) wL_x (by decide) wL_0 rfl wL_put hml (Nat.le_of_ble_eq_true rfl) rfl d_La_size_5 (Or.inl ⟨0, 10, 13, _, rfl, by decide, by decide, by decide, cl_La_13⟩) (by decide) (fun q => ?_)
  refine j_astore B d_La_size_13 (by decide) ?_
  refine j_iconst (v := 1) B d_La_size_15 (by decide) ?_
  exact j_ireg B hr hlk d_La_size_16 rfl rfl
def hh_code : List (Nat × Nat × Nat × Nat) := [(0, 12, 15, 35)]
set_option maxRecDepth 100000 in
theorem ok_La_code {l : Launch} {D : va_G} {aC : Nat → ClassId} {ad : Nat → Nat} (x : tm_M) (f : Nat → Int64) (a1 a2 a3 : Int32) {r : Int32} {x2 : tm_M} (hM : OkX l y_Lp_code b_Lp_code 5 (some .int) (rom 7 163) D aC ad [.ref (ad 0), .int a1, .int a2, .int a3] x (some (.int r)) x2) :
    OkL l y_La_code b_La_code 6 hh_code (romT 8 187) D aC ad [.ref (ad 0), .int a1, .int a2, .int a3, .ref (ad 111)] x f 0 x2 (vp_updL f 0 r.toInt64) := by
  refine la_start (by decide) (Nat.le_of_ble_eq_true rfl) rfl ?_
  intro p e s m args below meth c B hZ htab hr hlk hml
  have B : Cx p s m c args b_La_code R_La D aC (rg 112 ad) 112 ad := B
  refine j_wide (Nat.zero_le 1) (Nat.zero_le 6) ?_
  refine j_aload B d_La_code_0 rfl ?_
  refine j_iconst (v := 0) B d_La_code_2 (by decide) ?_
  refine j_aloadn B d_La_code_3 rfl ?_
  refine j_iloadn B d_La_code_4 rfl ?_
  refine j_iloadn B d_La_code_5 rfl ?_
  refine j_iloadn B d_La_code_6 rfl ?_
  refine j_cVs (k0 := 0) (st := [.int 0, .ref (ad 111)]) B sub_L (fun _ _ _ _ h => h) hM cv_Lp_code ml_La_32 rfl ⟨rfl, rfl, by decide, by decide⟩ ⟨by decide, by decide⟩ wL_x (by decide) wL_0 rfl wL_put hml (Nat.le_of_ble_eq_true rfl) rfl d_La_code_7 ?_
  refine j_i2l B d_La_code_10 ?_
  refine j_last (k := 111) B (by decide) wL_o (by decide) (by decide) d_La_code_11 wL_up ?_
  refine j_goto (tgt := 19) B d_La_code_12 (by decide) ?_
  refine j_iconst (v := 0) B d_La_code_19 (by decide) ?_
  exact j_ireg B hr hlk d_La_code_20 rfl rfl
set_option maxRecDepth 100000 in
theorem th_La_code_1 {l : Launch} {D : va_G} {aC : Nat → ClassId} {ad : Nat → Nat} (x : tm_M) (f : Nat → Int64) (a1 a2 a3 : Int32) {x2 : tm_M} (hM : ThX l y_Lp_code b_Lp_code 5 (some .int) (romT 7 163) D aC ad [.ref (ad 0), .int a1, .int a2, .int a3] x n_nse x2) :
    OkL l y_La_code b_La_code 6 hh_code (romT 8 187) D aC ad [.ref (ad 0), .int a1, .int a2, .int a3, .ref (ad 111)] x f 1 x2 f := by
  refine la_start (by decide) (Nat.le_of_ble_eq_true rfl) rfl ?_
  intro p e s m args below meth c B hZ htab hr hlk hml
  have B : Cx p s m c args b_La_code R_La D aC (rg 112 ad) 112 ad := B
  refine j_aload B d_La_code_0 rfl ?_
  refine j_iconst (v := 0) B d_La_code_2 (by decide) ?_
  refine j_aloadn B d_La_code_3 rfl ?_
  refine j_iloadn B d_La_code_4 rfl ?_
  refine j_iloadn B d_La_code_5 rfl ?_
  refine j_iloadn B d_La_code_6 rfl ?_
  refine j_catV (k0 := 0) (st := [.int 0, .ref (ad 111)]) B hZ htab hM cv_Lp_code ml_La_32 rfl ⟨rfl, rfl, by decide, by decide⟩ ⟨by decide, by decide⟩ (by decide) wL_x (by decide) wL_0 rfl wL_put hml (Nat.le_of_ble_eq_true rfl) rfl d_La_code_7 (Or.inl ⟨0, 12, 35, _, rfl, by decide, by decide, by decide, cl_La_35⟩) (by decide) (fun q => ?_)
  refine j_astore B d_La_code_15 (by decide) ?_
  refine j_iconst (v := 1) B d_La_code_17 (by decide) ?_
  exact j_ireg B hr hlk d_La_code_18 rfl rfl
def hh_action : List (Nat × Nat × Nat × Nat) := [(0, 12, 15, 35)]
set_option maxRecDepth 100000 in
theorem ok_La_action {l : Launch} {D : va_G} {aC : Nat → ClassId} {ad : Nat → Nat} (x : tm_M) (f : Nat → Int64) (a1 a2 a3 : Int32) {r : Int32} {x2 : tm_M} (hM : OkX l y_Lp_action b_Lp_action 5 (some .int) (rom 7 163) D aC ad [.ref (ad 0), .int a1, .int a2, .int a3] x (some (.int r)) x2) :
    OkL l y_La_action b_La_action 6 hh_action (romT 8 187) D aC ad [.ref (ad 0), .int a1, .int a2, .int a3, .ref (ad 111)] x f 0 x2 (vp_updL f 0 r.toInt64) := by
  refine la_start (by decide) (Nat.le_of_ble_eq_true rfl) rfl ?_
  intro p e s m args below meth c B hZ htab hr hlk hml
  have B : Cx p s m c args b_La_action R_La D aC (rg 112 ad) 112 ad := B
  refine j_wide (Nat.zero_le 1) (Nat.zero_le 6) ?_
  refine j_aload B d_La_action_0 rfl ?_
  refine j_iconst (v := 0) B d_La_action_2 (by decide) ?_
  refine j_aloadn B d_La_action_3 rfl ?_
  refine j_iloadn B d_La_action_4 rfl ?_
  refine j_iloadn B d_La_action_5 rfl ?_
  refine j_iloadn B d_La_action_6 rfl ?_
  refine j_cVs (k0 := 0) (st := [.int 0, .ref (ad 111)]) B sub_L (fun _ _ _ _ h => h) hM cv_Lp_action ml_La_37 rfl ⟨rfl, rfl, by decide, by decide⟩ ⟨by decide, by decide⟩ wL_x (by decide) wL_0 rfl wL_put hml (Nat.le_of_ble_eq_true rfl) rfl d_La_action_7 ?_
  refine j_i2l B d_La_action_10 ?_
  refine j_last (k := 111) B (by decide) wL_o (by decide) (by decide) d_La_action_11 wL_up ?_
  refine j_goto (tgt := 19) B d_La_action_12 (by decide) ?_
  refine j_iconst (v := 0) B d_La_action_19 (by decide) ?_
  exact j_ireg B hr hlk d_La_action_20 rfl rfl
set_option maxRecDepth 100000 in
theorem th_La_action_1 {l : Launch} {D : va_G} {aC : Nat → ClassId} {ad : Nat → Nat} (x : tm_M) (f : Nat → Int64) (a1 a2 a3 : Int32) {x2 : tm_M} (hM : ThX l y_Lp_action b_Lp_action 5 (some .int) (romT 7 163) D aC ad [.ref (ad 0), .int a1, .int a2, .int a3] x n_nse x2) :
    OkL l y_La_action b_La_action 6 hh_action (romT 8 187) D aC ad [.ref (ad 0), .int a1, .int a2, .int a3, .ref (ad 111)] x f 1 x2 f := by
  refine la_start (by decide) (Nat.le_of_ble_eq_true rfl) rfl ?_
  intro p e s m args below meth c B hZ htab hr hlk hml
  have B : Cx p s m c args b_La_action R_La D aC (rg 112 ad) 112 ad := B
  refine j_aload B d_La_action_0 rfl ?_
  refine j_iconst (v := 0) B d_La_action_2 (by decide) ?_
  refine j_aloadn B d_La_action_3 rfl ?_
  refine j_iloadn B d_La_action_4 rfl ?_
  refine j_iloadn B d_La_action_5 rfl ?_
  refine j_iloadn B d_La_action_6 rfl ?_
  refine j_catV (k0 := 0) (st := [.int 0, .ref (ad 111)]) B hZ htab hM cv_Lp_action ml_La_37 rfl ⟨rfl, rfl, by decide, by decide⟩ ⟨by decide, by decide⟩ (by decide) wL_x (by decide) wL_0 rfl wL_put hml (Nat.le_of_ble_eq_true rfl) rfl d_La_action_7 (Or.inl ⟨0, 12, 35, _, rfl, by decide, by decide, by decide, cl_La_35⟩) (by decide) (fun q => ?_)
  refine j_astore B d_La_action_15 (by decide) ?_
  refine j_iconst (v := 1) B d_La_action_17 (by decide) ?_
  exact j_ireg B hr hlk d_La_action_18 rfl rfl
def hh_site : List (Nat × Nat × Nat × Nat) := [(0, 12, 15, 35)]
set_option maxRecDepth 100000 in
theorem ok_La_site {l : Launch} {D : va_G} {aC : Nat → ClassId} {ad : Nat → Nat} (x : tm_M) (f : Nat → Int64) (a1 a2 a3 : Int32) {r : Int32} {x2 : tm_M} (hM : OkX l y_Lp_site b_Lp_site 5 (some .int) (rom 7 163) D aC ad [.ref (ad 0), .int a1, .int a2, .int a3] x (some (.int r)) x2) :
    OkL l y_La_site b_La_site 6 hh_site (romT 8 187) D aC ad [.ref (ad 0), .int a1, .int a2, .int a3, .ref (ad 111)] x f 0 x2 (vp_updL f 0 r.toInt64) := by
  refine la_start (by decide) (Nat.le_of_ble_eq_true rfl) rfl ?_
  intro p e s m args below meth c B hZ htab hr hlk hml
  have B : Cx p s m c args b_La_site R_La D aC (rg 112 ad) 112 ad := B
  refine j_wide (Nat.zero_le 1) (Nat.zero_le 6) ?_
  refine j_aload B d_La_site_0 rfl ?_
  refine j_iconst (v := 0) B d_La_site_2 (by decide) ?_
  refine j_aloadn B d_La_site_3 rfl ?_
  refine j_iloadn B d_La_site_4 rfl ?_
  refine j_iloadn B d_La_site_5 rfl ?_
  refine j_iloadn B d_La_site_6 rfl ?_
  refine j_cVs (k0 := 0) (st := [.int 0, .ref (ad 111)]) B sub_L (fun _ _ _ _ h => h) hM cv_Lp_site ml_La_40 rfl ⟨rfl, rfl, by decide, by decide⟩ ⟨by decide, by decide⟩ wL_x (by decide) wL_0 rfl wL_put hml (Nat.le_of_ble_eq_true rfl) rfl d_La_site_7 ?_
  refine j_i2l B d_La_site_10 ?_
  refine j_last (k := 111) B (by decide) wL_o (by decide) (by decide) d_La_site_11 wL_up ?_
  refine j_goto (tgt := 19) B d_La_site_12 (by decide) ?_
  refine j_iconst (v := 0) B d_La_site_19 (by decide) ?_
  exact j_ireg B hr hlk d_La_site_20 rfl rfl
set_option maxRecDepth 100000 in
theorem th_La_site_1 {l : Launch} {D : va_G} {aC : Nat → ClassId} {ad : Nat → Nat} (x : tm_M) (f : Nat → Int64) (a1 a2 a3 : Int32) {x2 : tm_M} (hM : ThX l y_Lp_site b_Lp_site 5 (some .int) (romT 7 163) D aC ad [.ref (ad 0), .int a1, .int a2, .int a3] x n_nse x2) :
    OkL l y_La_site b_La_site 6 hh_site (romT 8 187) D aC ad [.ref (ad 0), .int a1, .int a2, .int a3, .ref (ad 111)] x f 1 x2 f := by
  refine la_start (by decide) (Nat.le_of_ble_eq_true rfl) rfl ?_
  intro p e s m args below meth c B hZ htab hr hlk hml
  have B : Cx p s m c args b_La_site R_La D aC (rg 112 ad) 112 ad := B
  refine j_aload B d_La_site_0 rfl ?_
  refine j_iconst (v := 0) B d_La_site_2 (by decide) ?_
  refine j_aloadn B d_La_site_3 rfl ?_
  refine j_iloadn B d_La_site_4 rfl ?_
  refine j_iloadn B d_La_site_5 rfl ?_
  refine j_iloadn B d_La_site_6 rfl ?_
  refine j_catV (k0 := 0) (st := [.int 0, .ref (ad 111)]) B hZ htab hM cv_Lp_site ml_La_40 rfl ⟨rfl, rfl, by decide, by decide⟩ ⟨by decide, by decide⟩ (by decide) wL_x (by decide) wL_0 rfl wL_put hml (Nat.le_of_ble_eq_true rfl) rfl d_La_site_7 (Or.inl ⟨0, 12, 35, _, rfl, by decide, by decide, by decide, cl_La_35⟩) (by decide) (fun q => ?_)
  refine j_astore B d_La_site_15 (by decide) ?_
  refine j_iconst (v := 1) B d_La_site_17 (by decide) ?_
  exact j_ireg B hr hlk d_La_site_18 rfl rfl
def hh_run : List (Nat × Nat × Nat × Nat) := [(0, 9, 12, 13), (0, 9, 15, 15)]
set_option maxRecDepth 100000 in
theorem ok_La_run {l : Launch} {D : va_G} {aC : Nat → ClassId} {ad : Nat → Nat} (x : tm_M) (f : Nat → Int64) (a1 : Int32) {r : Int32} {x2 : tm_M} (hM : OkX l y_Lp_run b_Lp_run 2 (some .int) (rom 7 163) D aC ad [.ref (ad 0), .int a1] x (some (.int r)) x2) :
    OkL l y_La_run b_La_run 4 hh_run (romT 8 187) D aC ad [.ref (ad 0), .int a1, .ref (ad 111)] x f 0 x2 (vp_updL f 0 r.toInt64) := by
  refine la_start (by decide) (Nat.le_of_ble_eq_true rfl) rfl ?_
  intro p e s m args below meth c B hZ htab hr hlk hml
  have B : Cx p s m c args b_La_run R_La D aC (rg 112 ad) 112 ad := B
  refine j_wide (Nat.zero_le 1) (Nat.zero_le 6) ?_
  refine j_aloadn B d_La_run_0 rfl ?_
  refine j_iconst (v := 0) B d_La_run_1 (by decide) ?_
  refine j_aloadn B d_La_run_2 rfl ?_
  refine j_iloadn B d_La_run_3 rfl ?_
  refine j_cVs (k0 := 0) (st := [.int 0, .ref (ad 111)]) B sub_L (fun _ _ _ _ h => h) hM cv_Lp_run ml_La_43 rfl ⟨rfl, rfl, by decide, by decide⟩ ⟨by decide, by decide⟩ wL_x (by decide) wL_0 rfl wL_put hml (Nat.le_of_ble_eq_true rfl) rfl d_La_run_4 ?_
  refine j_i2l B d_La_run_7 ?_
  refine j_last (k := 111) B (by decide) wL_o (by decide) (by decide) d_La_run_8 wL_up ?_
  refine j_goto (tgt := 18) B d_La_run_9 (by decide) ?_
  refine j_iconst (v := 0) B d_La_run_18 (by decide) ?_
  exact j_ireg B hr hlk d_La_run_19 rfl rfl
set_option maxRecDepth 100000 in
theorem th_La_run_1 {l : Launch} {D : va_G} {aC : Nat → ClassId} {ad : Nat → Nat} (x : tm_M) (f : Nat → Int64) (a1 : Int32) {x2 : tm_M} (hM : ThX l y_Lp_run b_Lp_run 2 (some .int) (romT 7 163) D aC ad [.ref (ad 0), .int a1] x n_iae x2) :
    OkL l y_La_run b_La_run 4 hh_run (romT 8 187) D aC ad [.ref (ad 0), .int a1, .ref (ad 111)] x f 1 x2 f := by
  refine la_start (by decide) (Nat.le_of_ble_eq_true rfl) rfl ?_
  intro p e s m args below meth c B hZ htab hr hlk hml
  have B : Cx p s m c args b_La_run R_La D aC (rg 112 ad) 112 ad := B
  refine j_aloadn B d_La_run_0 rfl ?_
  refine j_iconst (v := 0) B d_La_run_1 (by decide) ?_
  refine j_aloadn B d_La_run_2 rfl ?_
  refine j_iloadn B d_La_run_3 rfl ?_
  refine j_catV (k0 := 0) (st := [.int 0, .ref (ad 111)]) B hZ htab hM cv_Lp_run ml_La_43 rfl ⟨rfl, rfl, by decide, by decide⟩ ⟨by decide, by decide⟩ (by decide) wL_x (by decide) wL_0 rfl wL_put hml (Nat.le_of_ble_eq_true rfl) rfl d_La_run_4 (Or.inl ⟨0, 9, 13, _, rfl, by decide, by decide, by decide, cl_La_13⟩) (by decide) (fun q => ?_)
  refine j_astoren B d_La_run_12 (by decide) ?_
  refine j_iconst (v := 1) B d_La_run_13 (by decide) ?_
  exact j_ireg B hr hlk d_La_run_14 rfl rfl
set_option maxRecDepth 100000 in
theorem th_La_run_2 {l : Launch} {D : va_G} {aC : Nat → ClassId} {ad : Nat → Nat} (x : tm_M) (f : Nat → Int64) (a1 : Int32) {x2 : tm_M} (hM : ThX l y_Lp_run b_Lp_run 2 (some .int) (romT 7 163) D aC ad [.ref (ad 0), .int a1] x n_ise x2) :
    OkL l y_La_run b_La_run 4 hh_run (romT 8 187) D aC ad [.ref (ad 0), .int a1, .ref (ad 111)] x f 2 x2 f := by
  refine la_start (by decide) (Nat.le_of_ble_eq_true rfl) rfl ?_
  intro p e s m args below meth c B hZ htab hr hlk hml
  have B : Cx p s m c args b_La_run R_La D aC (rg 112 ad) 112 ad := B
  refine j_aloadn B d_La_run_0 rfl ?_
  refine j_iconst (v := 0) B d_La_run_1 (by decide) ?_
  refine j_aloadn B d_La_run_2 rfl ?_
  refine j_iloadn B d_La_run_3 rfl ?_
  refine j_catV (k0 := 0) (st := [.int 0, .ref (ad 111)]) B hZ htab hM cv_Lp_run ml_La_43 rfl ⟨rfl, rfl, by decide, by decide⟩ ⟨by decide, by decide⟩ (by decide) wL_x (by decide) wL_0 rfl wL_put hml (Nat.le_of_ble_eq_true rfl) rfl d_La_run_4 (Or.inr ⟨rfl, 0, (9, 12, 13), 0, 9, 15, _, rfl, by decide, cl_La_13, by decide, by decide, by decide, cl_La_15⟩) (by decide) (fun q => ?_)
  refine j_astoren B d_La_run_15 (by decide) ?_
  refine j_iconst (v := 2) B d_La_run_16 (by decide) ?_
  exact j_ireg B hr hlk d_La_run_17 rfl rfl
def hh_count : List (Nat × Nat × Nat × Nat) := [(0, 9, 12, 13)]
set_option maxRecDepth 100000 in
theorem ok_La_count {l : Launch} {D : va_G} {aC : Nat → ClassId} {ad : Nat → Nat} (x : tm_M) (f : Nat → Int64) (a1 : Int32) {r : Int32} {x2 : tm_M} (hM : OkX l y_Lp_count b_Lp_count 3 (some .int) (rom 7 163) D aC ad [.ref (ad 0), .int a1] x (some (.int r)) x2) :
    OkL l y_La_count b_La_count 4 hh_count (romT 8 187) D aC ad [.ref (ad 0), .int a1, .ref (ad 111)] x f 0 x2 (vp_updL f 0 r.toInt64) := by
  refine la_start (by decide) (Nat.le_of_ble_eq_true rfl) rfl ?_
  intro p e s m args below meth c B hZ htab hr hlk hml
  have B : Cx p s m c args b_La_count R_La D aC (rg 112 ad) 112 ad := B
  refine j_wide (Nat.zero_le 1) (Nat.zero_le 6) ?_
  refine j_aloadn B d_La_count_0 rfl ?_
  refine j_iconst (v := 0) B d_La_count_1 (by decide) ?_
  refine j_aloadn B d_La_count_2 rfl ?_
  refine j_iloadn B d_La_count_3 rfl ?_
  refine j_cVs (k0 := 0) (st := [.int 0, .ref (ad 111)]) B sub_L (fun _ _ _ _ h => h) hM cv_Lp_count ml_La_46 rfl ⟨rfl, rfl, by decide, by decide⟩ ⟨by decide, by decide⟩ wL_x (by decide) wL_0 rfl wL_put hml (Nat.le_of_ble_eq_true rfl) rfl d_La_count_4 ?_
  refine j_i2l B d_La_count_7 ?_
  refine j_last (k := 111) B (by decide) wL_o (by decide) (by decide) d_La_count_8 wL_up ?_
  refine j_goto (tgt := 15) B d_La_count_9 (by decide) ?_
  refine j_iconst (v := 0) B d_La_count_15 (by decide) ?_
  exact j_ireg B hr hlk d_La_count_16 rfl rfl
set_option maxRecDepth 100000 in
theorem th_La_count_1 {l : Launch} {D : va_G} {aC : Nat → ClassId} {ad : Nat → Nat} (x : tm_M) (f : Nat → Int64) (a1 : Int32) {x2 : tm_M} (hM : ThX l y_Lp_count b_Lp_count 3 (some .int) (romT 7 163) D aC ad [.ref (ad 0), .int a1] x n_iae x2) :
    OkL l y_La_count b_La_count 4 hh_count (romT 8 187) D aC ad [.ref (ad 0), .int a1, .ref (ad 111)] x f 1 x2 f := by
  refine la_start (by decide) (Nat.le_of_ble_eq_true rfl) rfl ?_
  intro p e s m args below meth c B hZ htab hr hlk hml
  have B : Cx p s m c args b_La_count R_La D aC (rg 112 ad) 112 ad := B
  refine j_aloadn B d_La_count_0 rfl ?_
  refine j_iconst (v := 0) B d_La_count_1 (by decide) ?_
  refine j_aloadn B d_La_count_2 rfl ?_
  refine j_iloadn B d_La_count_3 rfl ?_
  refine j_catV (k0 := 0) (st := [.int 0, .ref (ad 111)]) B hZ htab hM cv_Lp_count ml_La_46 rfl ⟨rfl, rfl, by decide, by decide⟩ ⟨by decide, by decide⟩ (by decide) wL_x (by decide) wL_0 rfl wL_put hml (Nat.le_of_ble_eq_true rfl) rfl d_La_count_4 (Or.inl ⟨0, 9, 13, _, rfl, by decide, by decide, by decide, cl_La_13⟩) (by decide) (fun q => ?_)
  refine j_astoren B d_La_count_12 (by decide) ?_
  refine j_iconst (v := 1) B d_La_count_13 (by decide) ?_
  exact j_ireg B hr hlk d_La_count_14 rfl rfl
def hh_out : List (Nat × Nat × Nat × Nat) := [(0, 9, 12, 35)]
set_option maxRecDepth 100000 in
theorem ok_La_out {l : Launch} {D : va_G} {aC : Nat → ClassId} {ad : Nat → Nat} (x : tm_M) (f : Nat → Int64) (a1 : Int32) {r : Int32} {x2 : tm_M} (hM : OkX l y_Lp_out b_Lp_out 2 (some .int) (rom 7 163) D aC ad [.ref (ad 0), .int a1] x (some (.int r)) x2) :
    OkL l y_La_out b_La_out 4 hh_out (romT 8 187) D aC ad [.ref (ad 0), .int a1, .ref (ad 111)] x f 0 x2 (vp_updL f 0 r.toInt64) := by
  refine la_start (by decide) (Nat.le_of_ble_eq_true rfl) rfl ?_
  intro p e s m args below meth c B hZ htab hr hlk hml
  have B : Cx p s m c args b_La_out R_La D aC (rg 112 ad) 112 ad := B
  refine j_wide (Nat.zero_le 1) (Nat.zero_le 6) ?_
  refine j_aloadn B d_La_out_0 rfl ?_
  refine j_iconst (v := 0) B d_La_out_1 (by decide) ?_
  refine j_aloadn B d_La_out_2 rfl ?_
  refine j_iloadn B d_La_out_3 rfl ?_
  refine j_cVs (k0 := 0) (st := [.int 0, .ref (ad 111)]) B sub_L (fun _ _ _ _ h => h) hM cv_Lp_out ml_La_49 rfl ⟨rfl, rfl, by decide, by decide⟩ ⟨by decide, by decide⟩ wL_x (by decide) wL_0 rfl wL_put hml (Nat.le_of_ble_eq_true rfl) rfl d_La_out_4 ?_
  refine j_i2l B d_La_out_7 ?_
  refine j_last (k := 111) B (by decide) wL_o (by decide) (by decide) d_La_out_8 wL_up ?_
  refine j_goto (tgt := 15) B d_La_out_9 (by decide) ?_
  refine j_iconst (v := 0) B d_La_out_15 (by decide) ?_
  exact j_ireg B hr hlk d_La_out_16 rfl rfl
set_option maxRecDepth 100000 in
theorem th_La_out_1 {l : Launch} {D : va_G} {aC : Nat → ClassId} {ad : Nat → Nat} (x : tm_M) (f : Nat → Int64) (a1 : Int32) {x2 : tm_M} (hM : ThX l y_Lp_out b_Lp_out 2 (some .int) (romT 7 163) D aC ad [.ref (ad 0), .int a1] x n_nse x2) :
    OkL l y_La_out b_La_out 4 hh_out (romT 8 187) D aC ad [.ref (ad 0), .int a1, .ref (ad 111)] x f 1 x2 f := by
  refine la_start (by decide) (Nat.le_of_ble_eq_true rfl) rfl ?_
  intro p e s m args below meth c B hZ htab hr hlk hml
  have B : Cx p s m c args b_La_out R_La D aC (rg 112 ad) 112 ad := B
  refine j_aloadn B d_La_out_0 rfl ?_
  refine j_iconst (v := 0) B d_La_out_1 (by decide) ?_
  refine j_aloadn B d_La_out_2 rfl ?_
  refine j_iloadn B d_La_out_3 rfl ?_
  refine j_catV (k0 := 0) (st := [.int 0, .ref (ad 111)]) B hZ htab hM cv_Lp_out ml_La_49 rfl ⟨rfl, rfl, by decide, by decide⟩ ⟨by decide, by decide⟩ (by decide) wL_x (by decide) wL_0 rfl wL_put hml (Nat.le_of_ble_eq_true rfl) rfl d_La_out_4 (Or.inl ⟨0, 9, 35, _, rfl, by decide, by decide, by decide, cl_La_35⟩) (by decide) (fun q => ?_)
  refine j_astoren B d_La_out_12 (by decide) ?_
  refine j_iconst (v := 1) B d_La_out_13 (by decide) ?_
  exact j_ireg B hr hlk d_La_out_14 rfl rfl
