theorem sI_self {x : tm_M} {K : tm_K} {j : Nat} {v : Int32} (h : x.1 K j = v) : sI x K j v = x := by
  unfold sI
  refine Prod.ext ?_ rfl
  funext K'
  by_cases hK : K' = K
  · subst hK
    simp only [if_true]
    funext j'
    by_cases hj : j' = j
    · subst hj; simp [upd, h]
    · simp [upd, hj]
  · simp [hK]
theorem sI_sI {x : tm_M} {K : tm_K} {j : Nat} {v v' : Int32} : sI (sI x K j v) K j v' = sI x K j v' := by
  unfold sI
  refine Prod.ext ?_ rfl
  funext K'
  by_cases hK : K' = K
  · subst hK
    simp only [if_true]
    funext j'
    by_cases hj : j' = j
    · subst hj; simp [upd]
    · simp [upd, hj]
  · simp [hK]
/-- the first action at which unwinding lands -/
def lnF (c : Int32) (Fi Ne : Nat → Int32) (dep hd ha : Int32) : Nat → Int32 → Int32
  | 0, _ => -1
  | r + 1, k => if 0 ≤ k ∧ k < c then (if Fi k.toNatClampNeg = -2 ∨ (dep = hd ∧ k = ha) then k else lnF c Fi Ne dep hd ha r (Ne k.toNatClampNeg)) else -1
/-- the first action that catches the type u -/
def ctF (c : Int32) (Fi Ne : Nat → Int32) (tt : Int32) (P : Nat → Int32) (u : Int32) : Nat → Int32 → Int32
  | 0, _ => -1
  | r + 1, k => if 0 ≤ k ∧ k < c then (if Fi k.toNatClampNeg = -1 ∨ ¬ anF tt P (Fi k.toNatClampNeg) 8 u = 0 then k else ctF c Fi Ne tt P u r (Ne k.toNatClampNeg)) else -1
set_option maxRecDepth 100000 in
theorem ok_Ma_firstLanding {l : Launch} {D : va_G} {aC : Nat → ClassId} {ad : Nat → Nat} (x : tm_M) (v : Int32) {d g a : Nat} (hd : x.1 (5, 0, 0) 4 = nI d) (hd0 : 0 < d) (hd8 : d ≤ 8) (hg : g < 6) (hfn : x.1 (8, d - 1, 0) 0 = nI g) (ha : x.1 (6, g, 0) 6 = nI a) (h40 : a ≤ 40) :
    OkX l y_Ma_firstLanding b_Ma_firstLanding 5 (some .int) (rom 2 42) D aC ad [.ref (ad 34), .int v] x (some (.int (lnF (x.1 (6, g, 0) 6) (x.2 (6, g, 3)) (x.2 (6, g, 5)) (x.1 (5, 0, 0) 4) (x.1 (5, 0, 0) 6) (x.1 (5, 0, 0) 7) 40 v))) x := by
  refine ok_start (by decide) (Nat.le_of_ble_eq_true rfl) rfl ?_
  intro p e s m args below meth c B hr hlk hml
  have B : Cx p s m c args b_Ma_firstLanding R_Ma D aC (rg 111 ad) 111 ad := B
  have hd1 : d - 1 < 8 := by omega
  have loop : ∀ (r j : Nat) (k : Int32), j + r = 40 → lnF (x.1 (6, g, 0) 6) (x.2 (6, g, 3)) (x.2 (6, g, 5)) (x.1 (5, 0, 0) 4) (x.1 (5, 0, 0) 6) (x.1 (5, 0, 0) 7) r k = (lnF (x.1 (6, g, 0) 6) (x.2 (6, g, 3)) (x.2 (6, g, 5)) (x.1 (5, 0, 0) 4) (x.1 (5, 0, 0) 6) (x.1 (5, 0, 0) 7) 40 v) → J p l e (rom 2 42) s m args below meth c D (rg 111 ad) 0 0 (MQ below (Qk D aC 111 ad (some (.int (lnF (x.1 (6, g, 0) 6) (x.2 (6, g, 3)) (x.2 (6, g, 5)) (x.1 (5, 0, 0) 4) (x.1 (5, 0, 0) 6) (x.1 (5, 0, 0) 7) 40 v))) (wX ad aC x)) args s 0 0 (rg 111 ad)) 111 ad (wX ad aC x) 5 18 [(4, .int (nI j)), (3, .int k), (2, .ref (ad (prO g))), (0, .ref (ad 34))] [] := by
    intro r
    induction r with
    | zero =>
      intro j k hj hR
      refine j_iload B d_Ma_firstLanding_18 rfl ?_
      refine j_bipush (v := 40) B d_Ma_firstLanding_20 (by decide) ?_
      refine j_icmp_ge (tgt := 65) B d_Ma_firstLanding_22 (by decide) (fun h22 => ?_) (fun h22 => (show False from h22 (nI_le (a := 40) (by omega) (by omega))).elim)
      refine j_iconst (v := (-1)) B d_Ma_firstLanding_65 (by decide) ?_
      exact j_iret B hr hlk d_Ma_firstLanding_66 (sv hR.symm) (rfl)
    | succ r ih =>
      intro j k hj hR
      refine j_iload B d_Ma_firstLanding_18 rfl ?_
      refine j_bipush (v := 40) B d_Ma_firstLanding_20 (by decide) ?_
      refine j_icmp_ge (tgt := 65) B d_Ma_firstLanding_22 (by decide) (fun h22 => (show False from absurd (nIle (c := 40) h22 (by decide) (by omega)) (by omega)).elim) (fun h22 => ?_)
      refine j_aloadn B d_Ma_firstLanding_25 rfl ?_
      refine j_iloadn B d_Ma_firstLanding_26 rfl ?_
      refine j_cVt B (ok_Pr_hasAction hg x k) cv_Pr_hasAction ml_Ma_169 (q_pr hg) rfl rfl ⟨rfl, rfl, by decide, by decide⟩ ⟨Nat.zero_le _, Nat.zero_le _⟩ hml (Nat.le_of_ble_eq_true rfl) rfl d_Ma_firstLanding_27 ?_
      refine j_if_eq (tgt := 65) B d_Ma_firstLanding_30 (by decide) (fun h30 => ?_) (fun h30 => ?_)
      · -- yes
        refine j_iconst (v := (-1)) B d_Ma_firstLanding_65 (by decide) ?_
        exact j_iret B hr hlk d_Ma_firstLanding_66 (sv (by rw [← hR]; exact if_neg (bI_e h30))) (rfl)
      · -- no
        refine j_aloadn B d_Ma_firstLanding_33 rfl ?_
        refine j_iloadn B d_Ma_firstLanding_34 rfl ?_
        refine j_cVt B (ok_Pr_filterOf hg x k ha h40) cv_Pr_filterOf ml_Ma_172 (q_pr hg) rfl rfl ⟨rfl, rfl, by decide, by decide⟩ ⟨Nat.zero_le _, Nat.zero_le _⟩ hml (Nat.le_of_ble_eq_true rfl) rfl d_Ma_firstLanding_35 ?_
        refine j_topi (x.2 (6, g, 3) k.toNatClampNeg) (if_pos (bI_ne h30)) ?_
        refine j_bipush (v := (-2)) B d_Ma_firstLanding_38 (by decide) ?_
        refine j_icmp_eq (tgt := 51) B d_Ma_firstLanding_40 (by decide) (fun h40_ => ?_) (fun h40_ => ?_)
        · -- yes
          refine j_iloadn B d_Ma_firstLanding_51 rfl ?_
          exact j_iret B hr hlk d_Ma_firstLanding_52 (sv (by rw [← hR]; refine (if_pos (bI_ne h30)).trans ?_; first | exact if_pos (Or.inl h40_) | exact if_pos (Or.inr (bI_ne h48)))) (rfl)
        · -- no
          refine j_aloadn B d_Ma_firstLanding_43 rfl ?_
          refine j_iloadn B d_Ma_firstLanding_44 rfl ?_
          refine j_cVt B (ok_Ma_isHandler x k) cv_Ma_isHandler ml_Ma_185 (q_34) rfl rfl ⟨rfl, rfl, by decide, by decide⟩ ⟨Nat.zero_le _, Nat.zero_le _⟩ hml (Nat.le_of_ble_eq_true rfl) rfl d_Ma_firstLanding_45 ?_
          refine j_if_eq (tgt := 53) B d_Ma_firstLanding_48 (by decide) (fun h48 => ?_) (fun h48 => ?_)
          · -- yes
            refine j_aloadn B d_Ma_firstLanding_53 rfl ?_
            refine j_iloadn B d_Ma_firstLanding_54 rfl ?_
            refine j_cVt B (ok_Pr_nextOf hg x k ha h40) cv_Pr_nextOf ml_Ma_96 (q_pr hg) rfl rfl ⟨rfl, rfl, by decide, by decide⟩ ⟨Nat.zero_le _, Nat.zero_le _⟩ hml (Nat.le_of_ble_eq_true rfl) rfl d_Ma_firstLanding_55 ?_
            refine j_topi (x.2 (6, g, 5) k.toNatClampNeg) (if_pos (bI_ne h30)) ?_
            refine j_istoren B d_Ma_firstLanding_58 (by decide) ?_
            refine j_iinc B d_Ma_firstLanding_59 rfl (by decide) (nI_1 j) ?_
            refine j_goto (tgt := 18) B d_Ma_firstLanding_62 (by decide) ?_
            refine j_loc [(4, .int (nI (j + 1))), (3, .int (x.2 (6, g, 5) k.toNatClampNeg)), (2, .ref (ad (prO g))), (0, .ref (ad 34))] ⟨rfl, rfl, rfl, rfl, trivial⟩ ?_
            exact ih (j + 1) _ (by omega) (by rw [← hR]; exact ((if_pos (bI_ne h30)).trans (if_neg (fun z => z.elim h40_ (bI_e h48)))).symm)
          · -- no
            refine j_iloadn B d_Ma_firstLanding_51 rfl ?_
            exact j_iret B hr hlk d_Ma_firstLanding_52 (sv (by rw [← hR]; refine (if_pos (bI_ne h30)).trans ?_; first | exact if_pos (Or.inl h40_) | exact if_pos (Or.inr (bI_ne h48)))) (rfl)
  refine j_aloadn B d_Ma_firstLanding_0 rfl ?_
  refine j_getr B fl_Ma_27 (q_34) rfl d_Ma_firstLanding_1 ?_
  refine j_aloadn B d_Ma_firstLanding_4 rfl ?_
  refine j_cVt B (ok_Ma_top x hd hd0 hd8) cv_Ma_top ml_Ma_53 (q_34) rfl rfl ⟨rfl, rfl, by decide, by decide⟩ ⟨Nat.zero_le _, Nat.zero_le _⟩ hml (Nat.le_of_ble_eq_true rfl) rfl d_Ma_firstLanding_5 ?_
  refine j_geti B fl_Ma_61 (q_fr hd1) rfl d_Ma_firstLanding_8 ?_
  refine j_topi (nI g) hfn ?_
  refine j_aald B ⟨(q_39).1, (q_39).2.1⟩ rfl (⟨rfl, hg, by decide⟩) d_Ma_firstLanding_11 ?_
  refine j_astoren B d_Ma_firstLanding_12 (by decide) ?_
  refine j_iloadn B d_Ma_firstLanding_13 rfl ?_
  refine j_istoren B d_Ma_firstLanding_14 (by decide) ?_
  refine j_iconst (v := 0) B d_Ma_firstLanding_15 (by decide) ?_
  refine j_istore B d_Ma_firstLanding_16 (by decide) ?_
  refine j_loc [(4, .int (nI 0)), (3, .int v), (2, .ref (ad (prO g))), (0, .ref (ad 34))] ⟨rfl, rfl, rfl, rfl, trivial⟩ ?_
  exact loop 40 0 v (by omega) rfl
set_option maxRecDepth 100000 in
theorem ok_Ma_firstCatching {l : Launch} {D : va_G} {aC : Nat → ClassId} {ad : Nat → Nat} {i : Nat} (hi : i < 8) (x : tm_M) (v u : Int32) {g a t : Nat} (hg : g < 6) (hfn : x.1 (8, i, 0) 0 = nI g) (ha : x.1 (6, g, 0) 6 = nI a) (h40 : a ≤ 40) (ht : x.1 (5, 0, 1) 1 = nI t) (h8 : t ≤ 8) :
    OkX l y_Ma_firstCatching b_Ma_firstCatching 8 (some .int) (rom 2 45) D aC ad [.ref (ad 34), .ref (ad (frO i)), .int v, .int u] x (some (.int (ctF (x.1 (6, g, 0) 6) (x.2 (6, g, 3)) (x.2 (6, g, 5)) (x.1 (5, 0, 1) 1) (x.2 (5, 0, 2)) u 40 v))) x := by
  refine ok_start (by decide) (Nat.le_of_ble_eq_true rfl) rfl ?_
  intro p e s m args below meth c B hr hlk hml
  have B : Cx p s m c args b_Ma_firstCatching R_Ma D aC (rg 111 ad) 111 ad := B
  have loop : ∀ (r j : Nat) (k : Int32), j + r = 40 → ctF (x.1 (6, g, 0) 6) (x.2 (6, g, 3)) (x.2 (6, g, 5)) (x.1 (5, 0, 1) 1) (x.2 (5, 0, 2)) u r k = (ctF (x.1 (6, g, 0) 6) (x.2 (6, g, 3)) (x.2 (6, g, 5)) (x.1 (5, 0, 1) 1) (x.2 (5, 0, 2)) u 40 v) → J p l e (rom 2 45) s m args below meth c D (rg 111 ad) 0 0 (MQ below (Qk D aC 111 ad (some (.int (ctF (x.1 (6, g, 0) 6) (x.2 (6, g, 3)) (x.2 (6, g, 5)) (x.1 (5, 0, 1) 1) (x.2 (5, 0, 2)) u 40 v))) (wX ad aC x)) args s 0 0 (rg 111 ad)) 111 ad (wX ad aC x) 8 17 [(6, .int (nI j)), (5, .int k), (4, .ref (ad (prO g))), (0, .ref (ad 34)), (3, .int u)] [] := by
    intro r
    induction r with
    | zero =>
      intro j k hj hR
      refine j_iload B d_Ma_firstCatching_17 rfl ?_
      refine j_bipush (v := 40) B d_Ma_firstCatching_19 (by decide) ?_
      refine j_icmp_ge (tgt := 80) B d_Ma_firstCatching_21 (by decide) (fun h21 => ?_) (fun h21 => (show False from h21 (nI_le (a := 40) (by omega) (by omega))).elim)
      refine j_iconst (v := (-1)) B d_Ma_firstCatching_80 (by decide) ?_
      exact j_iret B hr hlk d_Ma_firstCatching_81 (sv hR.symm) (rfl)
    | succ r ih =>
      intro j k hj hR
      refine j_iload B d_Ma_firstCatching_17 rfl ?_
      refine j_bipush (v := 40) B d_Ma_firstCatching_19 (by decide) ?_
      refine j_icmp_ge (tgt := 80) B d_Ma_firstCatching_21 (by decide) (fun h21 => (show False from absurd (nIle (c := 40) h21 (by decide) (by omega)) (by omega)).elim) (fun h21 => ?_)
      refine j_aload B d_Ma_firstCatching_24 rfl ?_
      refine j_iload B d_Ma_firstCatching_26 rfl ?_
      refine j_cVt B (ok_Pr_hasAction hg x k) cv_Pr_hasAction ml_Ma_169 (q_pr hg) rfl rfl ⟨rfl, rfl, by decide, by decide⟩ ⟨Nat.zero_le _, Nat.zero_le _⟩ hml (Nat.le_of_ble_eq_true rfl) rfl d_Ma_firstCatching_28 ?_
      refine j_if_eq (tgt := 80) B d_Ma_firstCatching_31 (by decide) (fun h31 => ?_) (fun h31 => ?_)
      · -- yes
        refine j_iconst (v := (-1)) B d_Ma_firstCatching_80 (by decide) ?_
        exact j_iret B hr hlk d_Ma_firstCatching_81 (sv (by rw [← hR]; exact if_neg (bI_e h31))) (rfl)
      · -- no
        refine j_aload B d_Ma_firstCatching_34 rfl ?_
        refine j_iload B d_Ma_firstCatching_36 rfl ?_
        refine j_cVt B (ok_Pr_filterOf hg x k ha h40) cv_Pr_filterOf ml_Ma_172 (q_pr hg) rfl rfl ⟨rfl, rfl, by decide, by decide⟩ ⟨Nat.zero_le _, Nat.zero_le _⟩ hml (Nat.le_of_ble_eq_true rfl) rfl d_Ma_firstCatching_38 ?_
        refine j_topi (x.2 (6, g, 3) k.toNatClampNeg) (if_pos (bI_ne h31)) ?_
        refine j_istore B d_Ma_firstCatching_41 (by decide) ?_
        refine j_iload B d_Ma_firstCatching_43 rfl ?_
        refine j_iconst (v := (-1)) B d_Ma_firstCatching_45 (by decide) ?_
        refine j_icmp_eq (tgt := 62) B d_Ma_firstCatching_46 (by decide) (fun h46 => ?_) (fun h46 => ?_)
        · -- yes
          refine j_iload B d_Ma_firstCatching_62 rfl ?_
          exact j_iret B hr hlk d_Ma_firstCatching_64 (sv (by rw [← hR]; refine (if_pos (bI_ne h31)).trans ?_; first | exact if_pos (Or.inl h46) | exact if_pos (Or.inr h59))) (rfl)
        · -- no
          refine j_aloadn B d_Ma_firstCatching_49 rfl ?_
          refine j_getr B fl_Ma_12 (q_34) rfl d_Ma_firstCatching_50 ?_
          refine j_iloadn B d_Ma_firstCatching_53 rfl ?_
          refine j_iload B d_Ma_firstCatching_54 rfl ?_
          refine j_cVt B (ok_Ty_isAnother x u (x.2 (6, g, 3) k.toNatClampNeg) ht h8) cv_Ty_isAnother ml_Ma_175 (q_35) rfl rfl ⟨rfl, rfl, by decide, by decide⟩ ⟨Nat.zero_le _, Nat.zero_le _⟩ hml (Nat.le_of_ble_eq_true rfl) rfl d_Ma_firstCatching_56 ?_
          refine j_if_eq (tgt := 65) B d_Ma_firstCatching_59 (by decide) (fun h59 => ?_) (fun h59 => ?_)
          · -- yes
            refine j_aload B d_Ma_firstCatching_65 rfl ?_
            refine j_iload B d_Ma_firstCatching_67 rfl ?_
            refine j_cVt B (ok_Pr_nextOf hg x k ha h40) cv_Pr_nextOf ml_Ma_96 (q_pr hg) rfl rfl ⟨rfl, rfl, by decide, by decide⟩ ⟨Nat.zero_le _, Nat.zero_le _⟩ hml (Nat.le_of_ble_eq_true rfl) rfl d_Ma_firstCatching_69 ?_
            refine j_topi (x.2 (6, g, 5) k.toNatClampNeg) (if_pos (bI_ne h31)) ?_
            refine j_istore B d_Ma_firstCatching_72 (by decide) ?_
            refine j_iinc B d_Ma_firstCatching_74 rfl (by decide) (nI_1 j) ?_
            refine j_goto (tgt := 17) B d_Ma_firstCatching_77 (by decide) ?_
            refine j_loc [(6, .int (nI (j + 1))), (5, .int (x.2 (6, g, 5) k.toNatClampNeg)), (4, .ref (ad (prO g))), (0, .ref (ad 34)), (3, .int u)] ⟨rfl, rfl, rfl, rfl, rfl, trivial⟩ ?_
            exact ih (j + 1) _ (by omega) (by rw [← hR]; exact ((if_pos (bI_ne h31)).trans (if_neg (fun z => z.elim h46 (fun q => q h59)))).symm)
          · -- no
            refine j_iload B d_Ma_firstCatching_62 rfl ?_
            exact j_iret B hr hlk d_Ma_firstCatching_64 (sv (by rw [← hR]; refine (if_pos (bI_ne h31)).trans ?_; first | exact if_pos (Or.inl h46) | exact if_pos (Or.inr h59))) (rfl)
  refine j_aloadn B d_Ma_firstCatching_0 rfl ?_
  refine j_getr B fl_Ma_27 (q_34) rfl d_Ma_firstCatching_1 ?_
  refine j_aloadn B d_Ma_firstCatching_4 rfl ?_
  refine j_geti B fl_Ma_61 (q_fr hi) rfl d_Ma_firstCatching_5 ?_
  refine j_topi (nI g) hfn ?_
  refine j_aald B ⟨(q_39).1, (q_39).2.1⟩ rfl (⟨rfl, hg, by decide⟩) d_Ma_firstCatching_8 ?_
  refine j_astore B d_Ma_firstCatching_9 (by decide) ?_
  refine j_iloadn B d_Ma_firstCatching_11 rfl ?_
  refine j_istore B d_Ma_firstCatching_12 (by decide) ?_
  refine j_iconst (v := 0) B d_Ma_firstCatching_14 (by decide) ?_
  refine j_istore B d_Ma_firstCatching_15 (by decide) ?_
  refine j_loc [(6, .int (nI 0)), (5, .int v), (4, .ref (ad (prO g))), (0, .ref (ad 34)), (3, .int u)] ⟨rfl, rfl, rfl, rfl, rfl, trivial⟩ ?_
  exact loop 40 0 v (by omega) rfl
set_option maxRecDepth 100000 in
theorem ok_Ma_land_h {l : Launch} {D : va_G} {aC : Nat → ClassId} {ad : Nat → Nat} (x : tm_M) {d g a b : Nat} (hd : x.1 (5, 0, 0) 4 = nI d) (hd0 : 0 < d) (hd8 : d ≤ 8) (hg : g < 6) (hfn : x.1 (8, d - 1, 0) 0 = nI g) (ha : x.1 (6, g, 0) 6 = nI a) (h40 : a ≤ 40) (hb : b < a) {t : Nat} (hct : x.1 (8, d - 1, 0) 3 = nI t) (h5 : t < 5) (hH : x.1 (5, 0, 0) 4 = x.1 (5, 0, 0) 6 ∧ nI b = x.1 (5, 0, 0) 7) :
    OkX l y_Ma_land b_Ma_land 3 (some .int) (rom 2 42) D aC ad [.ref (ad 34), .int (nI b)] x (some (.int (-1))) (sI (sI (sA x (8, d - 1, 1) t (x.1 (5, 0, 0) 5)) (8, d - 1, 0) 3 (nI (t + 1))) (8, d - 1, 0) 1 (x.2 (6, g, 4) b)) := by
  refine ok_start (by decide) (Nat.le_of_ble_eq_true rfl) rfl ?_
  intro p e s m args below meth c B hr hlk hml
  have B : Cx p s m c args b_Ma_land R_Ma D aC (rg 111 ad) 111 ad := B
  have hd1 : d - 1 < 8 := by omega
  refine j_aloadn B d_Ma_land_0 rfl ?_
  refine j_cVt B (ok_Ma_top x hd hd0 hd8) cv_Ma_top ml_Ma_53 (q_34) rfl rfl ⟨rfl, rfl, by decide, by decide⟩ ⟨Nat.zero_le _, Nat.zero_le _⟩ hml (Nat.le_of_ble_eq_true rfl) rfl d_Ma_land_1 ?_
  refine j_astoren B d_Ma_land_4 (by decide) ?_
  refine j_aloadn B d_Ma_land_5 rfl ?_
  refine j_iloadn B d_Ma_land_6 rfl ?_
  refine j_cVt B (ok_Ma_isHandler x (nI b)) cv_Ma_isHandler ml_Ma_185 (q_34) rfl rfl ⟨rfl, rfl, by decide, by decide⟩ ⟨Nat.zero_le _, Nat.zero_le _⟩ hml (Nat.le_of_ble_eq_true rfl) rfl d_Ma_land_7 ?_
  refine j_if_eq (tgt := 24) B d_Ma_land_10 (by decide) (fun h10 => (show False from bI_e h10 hH).elim) (fun h10 => ?_)
  refine j_aloadn B d_Ma_land_13 rfl ?_
  refine j_aloadn B d_Ma_land_14 rfl ?_
  refine j_geti B fl_Ma_147 (q_34) rfl d_Ma_land_15 ?_
  refine j_cVt B (ok_Fr_pushCaught hd1 x (x.1 (5, 0, 0) 5) hct h5) cv_Fr_pushCaught ml_Ma_188 (q_fr hd1) rfl rfl ⟨rfl, rfl, by decide, by decide⟩ ⟨Nat.zero_le _, Nat.zero_le _⟩ hml (Nat.le_of_ble_eq_true rfl) rfl d_Ma_land_18 ?_
  refine j_goto (tgt := 29) B d_Ma_land_21 (by decide) ?_
  refine j_aloadn B d_Ma_land_29 rfl ?_
  refine j_aloadn B d_Ma_land_30 rfl ?_
  refine j_aloadn B d_Ma_land_31 rfl ?_
  refine j_getr B fl_Ma_27 (q_34) rfl d_Ma_land_32 ?_
  refine j_aloadn B d_Ma_land_35 rfl ?_
  refine j_geti B fl_Ma_61 (q_fr hd1) rfl d_Ma_land_36 ?_
  refine j_topi (nI g) (by simp [sI, sA, upd, hfn]) ?_
  refine j_aald B ⟨(q_39).1, (q_39).2.1⟩ rfl (⟨rfl, hg, by decide⟩) d_Ma_land_39 ?_
  refine j_iloadn B d_Ma_land_40 rfl ?_
  refine j_cVt B (ok_Pr_landingOf hg (sI (sA x (8, d - 1, 1) t (x.1 (5, 0, 0) 5)) (8, d - 1, 0) 3 (nI (t + 1))) (nI b) (a := a) (by simp [sI, sA, upd, ha]) h40) cv_Pr_landingOf ml_Ma_191 (q_pr hg) rfl rfl ⟨rfl, rfl, by decide, by decide⟩ ⟨Nat.zero_le _, Nat.zero_le _⟩ hml (Nat.le_of_ble_eq_true rfl) rfl d_Ma_land_41 ?_
  refine j_topi (x.2 (6, g, 4) b) (by rw [if_pos ⟨nI_pos' (by omega), by rw [show (sI (sA x (8, d - 1, 1) t (x.1 (5, 0, 0) 5)) (8, d - 1, 0) 3 (nI (t + 1))).1 (6, g, 0) 6 = nI a from by simp [sI, sA, upd, ha]]; exact nI_lt hb (by omega)⟩, nI_clamp (by omega)]; simp [sI, sA]) ?_
  refine j_cVt B (ok_Ma_jump hd1 (sI (sA x (8, d - 1, 1) t (x.1 (5, 0, 0) 5)) (8, d - 1, 0) 3 (nI (t + 1))) (x.2 (6, g, 4) b)) cv_Ma_jump ml_Ma_83 (q_34) rfl rfl ⟨rfl, rfl, by decide, by decide⟩ ⟨Nat.zero_le _, Nat.zero_le _⟩ hml (Nat.le_of_ble_eq_true rfl) rfl d_Ma_land_44 ?_
  exact j_iret B hr hlk d_Ma_land_47 (rfl) (rfl)
set_option maxRecDepth 100000 in
theorem ok_Ma_land_c {l : Launch} {D : va_G} {aC : Nat → ClassId} {ad : Nat → Nat} (x : tm_M) {d g a b : Nat} (hd : x.1 (5, 0, 0) 4 = nI d) (hd0 : 0 < d) (hd8 : d ≤ 8) (hg : g < 6) (hfn : x.1 (8, d - 1, 0) 0 = nI g) (ha : x.1 (6, g, 0) 6 = nI a) (h40 : a ≤ 40) (hb : b < a) (hH : ¬ (x.1 (5, 0, 0) 4 = x.1 (5, 0, 0) 6 ∧ nI b = x.1 (5, 0, 0) 7)) :
    OkX l y_Ma_land b_Ma_land 3 (some .int) (rom 2 42) D aC ad [.ref (ad 34), .int (nI b)] x (some (.int (-1))) (sI (sI x (5, 0, 0) 8 (nI b)) (8, d - 1, 0) 1 (x.2 (6, g, 4) b)) := by
  refine ok_start (by decide) (Nat.le_of_ble_eq_true rfl) rfl ?_
  intro p e s m args below meth c B hr hlk hml
  have B : Cx p s m c args b_Ma_land R_Ma D aC (rg 111 ad) 111 ad := B
  have hd1 : d - 1 < 8 := by omega
  refine j_aloadn B d_Ma_land_0 rfl ?_
  refine j_cVt B (ok_Ma_top x hd hd0 hd8) cv_Ma_top ml_Ma_53 (q_34) rfl rfl ⟨rfl, rfl, by decide, by decide⟩ ⟨Nat.zero_le _, Nat.zero_le _⟩ hml (Nat.le_of_ble_eq_true rfl) rfl d_Ma_land_1 ?_
  refine j_astoren B d_Ma_land_4 (by decide) ?_
  refine j_aloadn B d_Ma_land_5 rfl ?_
  refine j_iloadn B d_Ma_land_6 rfl ?_
  refine j_cVt B (ok_Ma_isHandler x (nI b)) cv_Ma_isHandler ml_Ma_185 (q_34) rfl rfl ⟨rfl, rfl, by decide, by decide⟩ ⟨Nat.zero_le _, Nat.zero_le _⟩ hml (Nat.le_of_ble_eq_true rfl) rfl d_Ma_land_7 ?_
  refine j_if_eq (tgt := 24) B d_Ma_land_10 (by decide) (fun h10 => ?_) (fun h10 => (show False from hH (bI_ne h10)).elim)
  refine j_aloadn B d_Ma_land_24 rfl ?_
  refine j_iloadn B d_Ma_land_25 rfl ?_
  refine j_puti B kX_inj fs_Ma_93 (q_34) rfl d_Ma_land_26 ?_
  refine j_aloadn B d_Ma_land_29 rfl ?_
  refine j_aloadn B d_Ma_land_30 rfl ?_
  refine j_aloadn B d_Ma_land_31 rfl ?_
  refine j_getr B fl_Ma_27 (q_34) rfl d_Ma_land_32 ?_
  refine j_aloadn B d_Ma_land_35 rfl ?_
  refine j_geti B fl_Ma_61 (q_fr hd1) rfl d_Ma_land_36 ?_
  refine j_topi (nI g) (by simp [sI, sA, upd, hfn]) ?_
  refine j_aald B ⟨(q_39).1, (q_39).2.1⟩ rfl (⟨rfl, hg, by decide⟩) d_Ma_land_39 ?_
  refine j_iloadn B d_Ma_land_40 rfl ?_
  refine j_cVt B (ok_Pr_landingOf hg (sI x (5, 0, 0) 8 (nI b)) (nI b) (a := a) (by simp [sI, sA, upd, ha]) h40) cv_Pr_landingOf ml_Ma_191 (q_pr hg) rfl rfl ⟨rfl, rfl, by decide, by decide⟩ ⟨Nat.zero_le _, Nat.zero_le _⟩ hml (Nat.le_of_ble_eq_true rfl) rfl d_Ma_land_41 ?_
  refine j_topi (x.2 (6, g, 4) b) (by rw [if_pos ⟨nI_pos' (by omega), by rw [show (sI x (5, 0, 0) 8 (nI b)).1 (6, g, 0) 6 = nI a from by simp [sI, sA, upd, ha]]; exact nI_lt hb (by omega)⟩, nI_clamp (by omega)]; simp [sI, sA]) ?_
  refine j_cVt B (ok_Ma_jump hd1 (sI x (5, 0, 0) 8 (nI b)) (x.2 (6, g, 4) b)) cv_Ma_jump ml_Ma_83 (q_34) rfl rfl ⟨rfl, rfl, by decide, by decide⟩ ⟨Nat.zero_le _, Nat.zero_le _⟩ hml (Nat.le_of_ble_eq_true rfl) rfl d_Ma_land_44 ?_
  exact j_iret B hr hlk d_Ma_land_47 (rfl) (rfl)
/-- what the machine may rely on: the frames' functions, the programs' counts -/
def MW (x : tm_M) (d : Nat) : Prop := (∀ i, i < d → ∃ g, g < 6 ∧ x.1 (8, i, 0) 0 = nI g) ∧ ∀ g, g < 6 → (∃ a, a ≤ 40 ∧ x.1 (6, g, 0) 6 = nI a) ∧ (∃ q, q ≤ 20 ∧ x.1 (6, g, 0) 10 = nI q) ∧ ∃ n, n ≤ 81 ∧ x.1 (6, g, 0) 2 = nI n
/-- the function of frame i; the head at its place; the first landing, with d frames, from an action on -/
def fnM (x : tm_M) (i : Nat) : Nat := (x.1 (8, i, 0) 0).toNatClampNeg
def hdM (x : tm_M) (i : Nat) : Int32 := hdF (x.2 (6, fnM x i, 6)) (x.2 (6, fnM x i, 7)) (x.2 (6, fnM x i, 8)) (x.1 (8, i, 0) 1 - 1) (x.1 (6, fnM x i, 0) 10).toNatClampNeg 0
def lnM (x : tm_M) (d : Nat) (v : Int32) : Int32 := lnF (x.1 (6, fnM x (d - 1), 0) 6) (x.2 (6, fnM x (d - 1), 3)) (x.2 (6, fnM x (d - 1), 5)) (nI d) (x.1 (5, 0, 0) 6) (x.1 (5, 0, 0) 7) 40 v
def ctM (x : tm_M) (i : Nat) (u : Int32) : Int32 := ctF (x.1 (6, fnM x i, 0) 6) (x.2 (6, fnM x i, 3)) (x.2 (6, fnM x i, 5)) (x.1 (5, 0, 1) 1) (x.2 (5, 0, 2)) u 40 (hdM x i)
/-- frames are taken away until there is a landing -/
def uwM (x : tm_M) : Nat → Int32 → Nat × Int32
  | 0, k => (0, k)
  | d + 1, k => if k = -1 ∧ 0 < d then uwM x d (lnM x d (hdM x (d - 1))) else (d + 1, k)
/-- the frame, from the top on, that has a handler, and this -/
def fhM (x : tm_M) (u : Int32) : Nat → Nat × Int32
  | 0 => (0, -1)
  | d + 1 => if ctM x d u = -1 then fhM x u d else (d + 1, ctM x d u)
abbrev dpX (x : tm_M) (d : Nat) : tm_M := sI x (5, 0, 0) 4 (nI d)
theorem dp_fn {x : tm_M} {d i : Nat} : fnM (dpX x d) i = fnM x i := by simp [fnM, sI]
theorem dp_hd {x : tm_M} {d i : Nat} : hdM (dpX x d) i = hdM x i := by unfold hdM; rw [dp_fn]; simp [sI]
theorem dp_ln {x : tm_M} {d d' : Nat} {v : Int32} : lnM (dpX x d) d' v = lnM x d' v := by unfold lnM; rw [dp_fn]; simp [sI, upd]
theorem fn_of {x : tm_M} {i g : Nat} (hg : g < 6) (h : x.1 (8, i, 0) 0 = nI g) : fnM x i = g := by unfold fnM; rw [h, nI_clamp (by omega)]
theorem ok_hdM {l : Launch} {D : va_G} {aC : Nat → ClassId} {ad : Nat → Nat} {i : Nat} (hi : i < 8) (x : tm_M) {d : Nat} (hM : MW x d) (hid : i < d) : OkX l y_Ma_headOf b_Ma_headOf 2 (some .int) (rom 1 22) D aC ad [.ref (ad 34), .ref (ad (frO i))] x (some (.int (hdM x i))) x := by
  obtain ⟨g, hg, hfn⟩ := hM.1 i hid
  obtain ⟨⟨a, h40, ha⟩, ⟨q, h20, hq⟩, -⟩ := hM.2 g hg
  have e : hdM x i = hdF (x.2 (6, g, 6)) (x.2 (6, g, 7)) (x.2 (6, g, 8)) (x.1 (8, i, 0) 1 - 1) q 0 := by
    unfold hdM; rw [fn_of hg hfn, hq, nI_clamp (by omega)]
  rw [e]
  exact ok_Ma_headOf hi x hg hfn hq h20
theorem ok_lnM {l : Launch} {D : va_G} {aC : Nat → ClassId} {ad : Nat → Nat} (x : tm_M) (v : Int32) {d : Nat} (hd : x.1 (5, 0, 0) 4 = nI d) (hd0 : 0 < d) (hd8 : d ≤ 8) (hM : MW x d) : OkX l y_Ma_firstLanding b_Ma_firstLanding 5 (some .int) (rom 2 42) D aC ad [.ref (ad 34), .int v] x (some (.int (lnM x d v))) x := by
  obtain ⟨g, hg, hfn⟩ := hM.1 (d - 1) (by omega)
  obtain ⟨⟨a, h40, ha⟩, -, -⟩ := hM.2 g hg
  have e : lnM x d v = lnF (x.1 (6, g, 0) 6) (x.2 (6, g, 3)) (x.2 (6, g, 5)) (x.1 (5, 0, 0) 4) (x.1 (5, 0, 0) 6) (x.1 (5, 0, 0) 7) 40 v := by
    unfold lnM; rw [fn_of hg hfn, hd]
  rw [e]
  exact ok_Ma_firstLanding x v hd hd0 hd8 hg hfn ha h40
theorem ok_ctM {l : Launch} {D : va_G} {aC : Nat → ClassId} {ad : Nat → Nat} {i : Nat} (hi : i < 8) (x : tm_M) (u : Int32) {d t : Nat} (hM : MW x d) (hid : i < d) (ht : x.1 (5, 0, 1) 1 = nI t) (h8 : t ≤ 8) : OkX l y_Ma_firstCatching b_Ma_firstCatching 8 (some .int) (rom 2 45) D aC ad [.ref (ad 34), .ref (ad (frO i)), .int (hdM x i), .int u] x (some (.int (ctM x i u))) x := by
  obtain ⟨g, hg, hfn⟩ := hM.1 i hid
  obtain ⟨⟨a, h40, ha⟩, -, -⟩ := hM.2 g hg
  have e : ctM x i u = ctF (x.1 (6, g, 0) 6) (x.2 (6, g, 3)) (x.2 (6, g, 5)) (x.1 (5, 0, 1) 1) (x.2 (5, 0, 2)) u 40 (hdM x i) := by
    unfold ctM; rw [fn_of hg hfn]
  rw [e]
  exact ok_Ma_firstCatching hi x (hdM x i) u hg hfn ha h40 ht h8
theorem MW_dp {x : tm_M} {d d' : Nat} (h : MW x d) (hd : d' ≤ d) : MW (dpX x d') d' := by
  refine ⟨fun i hi => ?_, fun g hg => ?_⟩
  · obtain ⟨g, hg, hf⟩ := h.1 i (by omega)
    exact ⟨g, hg, by simp [sI, hf]⟩
  · obtain ⟨⟨a, h1, h2⟩, ⟨q, h3, h4⟩, nn, h5, h6⟩ := h.2 g hg
    exact ⟨⟨a, h1, by simp [sI, h2]⟩, ⟨q, h3, by simp [sI, h4]⟩, nn, h5, by simp [sI, h6]⟩
set_option maxRecDepth 100000 in
theorem ok_Ma_findHandler {l : Launch} {D : va_G} {aC : Nat → ClassId} {ad : Nat → Nat} (x : tm_M) (u : Int32) {d t : Nat} (hd : x.1 (5, 0, 0) 4 = nI d) (hd8 : d ≤ 8) (hM : MW x d) (ht : x.1 (5, 0, 1) 1 = nI t) (h8 : t ≤ 8) :
    OkX l y_Ma_findHandler b_Ma_findHandler 5 (some .boolean) (rom 3 72) D aC ad [.ref (ad 34), .int u] x (some (.int (if (fhM x u d).1 = 0 then 0 else 1))) (if (fhM x u d).1 = 0 then x else sI (sI x (5, 0, 0) 6 (nI (fhM x u d).1)) (5, 0, 0) 7 (fhM x u d).2) := by
  refine ok_start (by decide) (Nat.le_of_ble_eq_true rfl) rfl ?_
  intro p e s m args below meth c B hr hlk hml
  have B : Cx p s m c args b_Ma_findHandler R_Ma D aC (rg 111 ad) 111 ad := B
  have loop : ∀ (j : Nat), j ≤ d → fhM x u j = (fhM x u d) → J p l e (rom 3 72) s m args below meth c D (rg 111 ad) 0 0 (MQ below (Qk D aC 111 ad (some (.int (if (fhM x u d).1 = 0 then 0 else 1))) (wX ad aC (if (fhM x u d).1 = 0 then x else sI (sI x (5, 0, 0) 6 (nI (fhM x u d).1)) (5, 0, 0) 7 (fhM x u d).2))) args s 0 0 (rg 111 ad)) 111 ad (wX ad aC x) 5 5 [(2, .int (nI j)), (0, .ref (ad 34)), (1, .int u)] [] := by
    intro j
    induction j with
    | zero =>
      intro hjd hR
      refine j_iloadn B d_Ma_findHandler_5 rfl ?_
      refine j_if_le (tgt := 56) B d_Ma_findHandler_6 (by decide) (fun h6 => ?_) (fun h6 => (show False from h6 (by decide)).elim)
      refine j_iconst (v := 0) B d_Ma_findHandler_56 (by decide) ?_
      exact j_zret B hr hlk d_Ma_findHandler_57 (by first | exact Or.inl rfl | exact Or.inr rfl) (sv (by rw [← hR]; rfl)) (congrArg (tw ad aC sX kX) (by rw [← hR]; rfl))
    | succ j ih =>
      intro hjd hR
      have hj8 : j < 8 := by omega
      refine j_iloadn B d_Ma_findHandler_5 rfl ?_
      refine j_if_le (tgt := 56) B d_Ma_findHandler_6 (by decide) (fun h6 => (show False from absurd (nIle (t := 0) h6 (by omega) (by decide)) (by omega)).elim) (fun h6 => ?_)
      refine j_aloadn B d_Ma_findHandler_9 rfl ?_
      refine j_getr B fl_Ma_34 (q_34) rfl d_Ma_findHandler_10 ?_
      refine j_iloadn B d_Ma_findHandler_13 rfl ?_
      refine j_iconst (v := 1) B d_Ma_findHandler_14 (by decide) ?_
      refine j_isub B d_Ma_findHandler_15 ?_
      refine j_topi (nI j) (nI_pred j) ?_
      refine j_aald B ⟨(q_94).1, (q_94).2.1⟩ rfl (⟨rfl, hj8, by decide⟩) d_Ma_findHandler_16 ?_
      refine j_astoren B d_Ma_findHandler_17 (by decide) ?_
      refine j_aloadn B d_Ma_findHandler_18 rfl ?_
      refine j_aloadn B d_Ma_findHandler_19 rfl ?_
      refine j_aloadn B d_Ma_findHandler_20 rfl ?_
      refine j_aloadn B d_Ma_findHandler_21 rfl ?_
      refine j_cVt B (ok_hdM hj8 x hM (by omega)) cv_Ma_headOf ml_Ma_150 (q_34) rfl rfl ⟨rfl, rfl, by decide, by decide⟩ ⟨Nat.zero_le _, Nat.zero_le _⟩ hml (Nat.le_of_ble_eq_true rfl) rfl d_Ma_findHandler_22 ?_
      refine j_iloadn B d_Ma_findHandler_25 rfl ?_
      refine j_cVt B (ok_ctM hj8 x u hM (by omega) ht h8) cv_Ma_firstCatching ml_Ma_159 (q_34) rfl rfl ⟨rfl, rfl, by decide, by decide⟩ ⟨Nat.zero_le _, Nat.zero_le _⟩ hml (Nat.le_of_ble_eq_true rfl) rfl d_Ma_findHandler_26 ?_
      refine j_istore B d_Ma_findHandler_29 (by decide) ?_
      refine j_iload B d_Ma_findHandler_31 rfl ?_
      refine j_iconst (v := (-1)) B d_Ma_findHandler_33 (by decide) ?_
      refine j_icmp_eq (tgt := 50) B d_Ma_findHandler_34 (by decide) (fun h34 => ?_) (fun h34 => ?_)
      · -- yes
        refine j_iinc B d_Ma_findHandler_50 rfl (by decide) (pk_m1 j) ?_
        refine j_goto (tgt := 5) B d_Ma_findHandler_53 (by decide) ?_
        refine j_loc [(2, .int (nI j)), (0, .ref (ad 34)), (1, .int u)] ⟨rfl, rfl, rfl, trivial⟩ ?_
        exact ih (by omega) (by rw [← hR]; exact (if_pos h34).symm)
      · -- no
        refine j_aloadn B d_Ma_findHandler_37 rfl ?_
        refine j_iloadn B d_Ma_findHandler_38 rfl ?_
        refine j_puti B kX_inj fs_Ma_163 (q_34) rfl d_Ma_findHandler_39 ?_
        refine j_aloadn B d_Ma_findHandler_42 rfl ?_
        refine j_iload B d_Ma_findHandler_43 rfl ?_
        refine j_puti B kX_inj fs_Ma_166 (q_34) rfl d_Ma_findHandler_45 ?_
        refine j_iconst (v := 1) B d_Ma_findHandler_48 (by decide) ?_
        exact j_zret B hr hlk d_Ma_findHandler_49 (by first | exact Or.inl rfl | exact Or.inr rfl) (sv (by rw [← hR]; unfold fhM; rw [if_neg h34]; rfl)) (congrArg (tw ad aC sX kX) (by rw [← hR]; unfold fhM; rw [if_neg h34]; rfl))
  refine j_aloadn B d_Ma_findHandler_0 rfl ?_
  refine j_geti B fl_Ma_42 (q_34) rfl d_Ma_findHandler_1 ?_
  refine j_topi (nI d) hd ?_
  refine j_istoren B d_Ma_findHandler_4 (by decide) ?_
  refine j_loc [(2, .int (nI d)), (0, .ref (ad 34)), (1, .int u)] ⟨rfl, rfl, rfl, trivial⟩ ?_
  exact loop d (Nat.le_refl d) rfl
set_option maxRecDepth 100000 in
theorem ok_Ma_unwind {l : Launch} {D : va_G} {aC : Nat → ClassId} {ad : Nat → Nat} (x : tm_M) (v : Int32) {d d2 : Nat} {b : Int32} {x2 : tm_M} (hd : x.1 (5, 0, 0) 4 = nI d) (hd0 : 0 < d) (hd8 : d ≤ 8) (hM : MW x d) (hU : uwM x d (lnM x d v) = (d2, b)) (hL : OkX l y_Ma_land b_Ma_land 3 (some .int) (rom 2 42) D aC ad [.ref (ad 34), .int b] (dpX x d2) (some (.int (-1))) x2) :
    OkX l y_Ma_unwind b_Ma_unwind 3 (some .int) (rom 3 66) D aC ad [.ref (ad 34), .int v] x (some (.int (-1))) x2 := by
  refine ok_start (by decide) (Nat.le_of_ble_eq_true rfl) rfl ?_
  intro p e s m args below meth c B hr hlk hml
  have B : Cx p s m c args b_Ma_unwind R_Ma D aC (rg 111 ad) 111 ad := B
  have fin : ∀ (j : Nat) (k : Int32), (j, k) = (d2, b) → J p l e (rom 3 66) s m args below meth c D (rg 111 ad) 0 0 (MQ below (Qk D aC 111 ad (some (.int (-1))) (wX ad aC x2)) args s 0 0 (rg 111 ad)) 111 ad (wX ad aC (dpX x j)) 3 45 [(2, .int k), (0, .ref (ad 34))] [] := by
    intro j k hR
    cases hR
    refine j_aloadn B d_Ma_unwind_45 rfl ?_
    refine j_iloadn B d_Ma_unwind_46 rfl ?_
    refine j_cVt B (hL) cv_Ma_land ml_Ma_182 (q_34) rfl rfl ⟨rfl, rfl, by decide, by decide⟩ ⟨Nat.zero_le _, Nat.zero_le _⟩ hml (Nat.le_of_ble_eq_true rfl) rfl d_Ma_unwind_47 ?_
    exact j_iret B hr hlk d_Ma_unwind_50 (rfl) (rfl)
  have loop : ∀ (j : Nat) (k : Int32), 0 < j → j ≤ d → uwM x j k = (d2, b) → J p l e (rom 3 66) s m args below meth c D (rg 111 ad) 0 0 (MQ below (Qk D aC 111 ad (some (.int (-1))) (wX ad aC x2)) args s 0 0 (rg 111 ad)) 111 ad (wX ad aC (dpX x j)) 3 6 [(2, .int k), (0, .ref (ad 34))] [] := by
    intro j
    induction j with
    | zero => intro k h0; omega
    | succ j ih =>
      intro k h0 hjd hR
      refine j_iloadn B d_Ma_unwind_6 rfl ?_
      refine j_iconst (v := (-1)) B d_Ma_unwind_7 (by decide) ?_
      refine j_icmp_ne (tgt := 45) B d_Ma_unwind_8 (by decide) (fun h8 => ?_) (fun h8 => ?_)
      · -- yes
        refine j_loc [(2, .int k), (0, .ref (ad 34))] ⟨rfl, rfl, trivial⟩ ?_
        first | exact fin (j + 1) k (by rw [← hR]; exact (if_neg (fun z => h8 z.1)).symm) | exact fin (j + 1) k (by rw [← hR]; exact (if_neg (fun z => absurd (nIle (c := j + 1) (t := 1) h16 (by omega) (by decide)) (by omega))).symm)
      · -- no
        refine j_aloadn B d_Ma_unwind_11 rfl ?_
        refine j_geti B fl_Ma_42 (q_34) rfl d_Ma_unwind_12 ?_
        refine j_topi (nI (j + 1)) rI ?_
        refine j_iconst (v := 1) B d_Ma_unwind_15 (by decide) ?_
        refine j_icmp_le (tgt := 45) B d_Ma_unwind_16 (by decide) (fun h16 => ?_) (fun h16 => ?_)
        · -- yes
          refine j_loc [(2, .int k), (0, .ref (ad 34))] ⟨rfl, rfl, trivial⟩ ?_
          first | exact fin (j + 1) k (by rw [← hR]; exact (if_neg (fun z => h8 z.1)).symm) | exact fin (j + 1) k (by rw [← hR]; exact (if_neg (fun z => absurd (nIle (c := j + 1) (t := 1) h16 (by omega) (by decide)) (by omega))).symm)
        · -- no
          have hj0 : 0 < j := by have := nInle (c := j + 1) (t := 1) h16 (by omega) (by decide); omega
          have hj1 : j - 1 < 8 := by omega
          refine j_aloadn B d_Ma_unwind_19 rfl ?_
          refine j_dup B d_Ma_unwind_20 rfl ?_
          refine j_geti B fl_Ma_42 (q_34) rfl d_Ma_unwind_21 ?_
          refine j_iconst (v := 1) B d_Ma_unwind_24 (by decide) ?_
          refine j_isub B d_Ma_unwind_25 ?_
          refine j_topi (nI j) (by rw [rI, nI_pred]) ?_
          refine j_puti B kX_inj fs_Ma_42 (q_34) rfl d_Ma_unwind_26 ?_
          refine j_x (dpX x j) sI_sI ?_
          refine j_aloadn B d_Ma_unwind_29 rfl ?_
          refine j_aloadn B d_Ma_unwind_30 rfl ?_
          refine j_aloadn B d_Ma_unwind_31 rfl ?_
          refine j_cVt B (ok_Ma_top (dpX x j) (d := j) rI (by omega) (by omega)) cv_Ma_top ml_Ma_53 (q_34) rfl rfl ⟨rfl, rfl, by decide, by decide⟩ ⟨Nat.zero_le _, Nat.zero_le _⟩ hml (Nat.le_of_ble_eq_true rfl) rfl d_Ma_unwind_32 ?_
          refine j_cVt B (ok_hdM hj1 (dpX x j) (MW_dp hM (by omega)) (by omega)) cv_Ma_headOf ml_Ma_150 (q_34) rfl rfl ⟨rfl, rfl, by decide, by decide⟩ ⟨Nat.zero_le _, Nat.zero_le _⟩ hml (Nat.le_of_ble_eq_true rfl) rfl d_Ma_unwind_35 ?_
          refine j_topi (hdM x (j - 1)) dp_hd ?_
          refine j_cVt B (ok_lnM (dpX x j) (hdM x (j - 1)) (d := j) rI (by omega) (by omega) (MW_dp hM (by omega))) cv_Ma_firstLanding ml_Ma_179 (q_34) rfl rfl ⟨rfl, rfl, by decide, by decide⟩ ⟨Nat.zero_le _, Nat.zero_le _⟩ hml (Nat.le_of_ble_eq_true rfl) rfl d_Ma_unwind_38 ?_
          refine j_topi (lnM x j (hdM x (j - 1))) dp_ln ?_
          refine j_istoren B d_Ma_unwind_41 (by decide) ?_
          refine j_goto (tgt := 6) B d_Ma_unwind_42 (by decide) ?_
          refine j_loc [(2, .int (lnM x j (hdM x (j - 1)))), (0, .ref (ad 34))] ⟨rfl, rfl, trivial⟩ ?_
          exact ih _ hj0 (by omega) (by rw [← hR]; exact (if_pos ⟨h8, hj0⟩).symm)
  refine j_aloadn B d_Ma_unwind_0 rfl ?_
  refine j_iloadn B d_Ma_unwind_1 rfl ?_
  refine j_cVt B (ok_lnM x v hd hd0 hd8 hM) cv_Ma_firstLanding ml_Ma_179 (q_34) rfl rfl ⟨rfl, rfl, by decide, by decide⟩ ⟨Nat.zero_le _, Nat.zero_le _⟩ hml (Nat.le_of_ble_eq_true rfl) rfl d_Ma_unwind_2 ?_
  refine j_istoren B d_Ma_unwind_5 (by decide) ?_
  refine j_x (dpX x d) (sI_self hd).symm ?_
  refine j_loc [(2, .int (lnM x d v)), (0, .ref (ad 34))] ⟨rfl, rfl, trivial⟩ ?_
  exact loop d _ hd0 (Nat.le_refl d) hU
