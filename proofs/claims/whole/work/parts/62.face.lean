theorem st_49 : (49, "the parent is no type") ∈ strs := by decide
theorem st_60 : (60, "there are 8 types") ∈ strs := by decide
theorem st_206 : (206, "no such function") ∈ strs := by decide
theorem st_75 : (75, "no such statement, or not with this x") ∈ strs := by decide
theorem st_78 : (78, "there are 20 statements") ∈ strs := by decide
theorem st_92 : (92, "the text is not well formed") ∈ strs := by decide
theorem st_113 : (113, "no such what") ∈ strs := by decide
theorem st_123 : (123, "no such instruction") ∈ strs := by decide
theorem st_132 : (132, "no such part of an instruction") ∈ strs := by decide
theorem st_137 : (137, "no such action") ∈ strs := by decide
theorem st_148 : (148, "no such part of an action") ∈ strs := by decide
theorem st_153 : (153, "no such site") ∈ strs := by decide
theorem st_164 : (164, "no such part of a site") ∈ strs := by decide
theorem st_169 : (169, "the function has no code") ∈ strs := by decide
theorem st_201 : (201, "no such number") ∈ strs := by decide
abbrev ThX (l : Launch) (y : MethodName) (b : ByteArray) (mL : Nat) (ret : Option FieldType) (rm : Room) (D : va_G) (aC : Nat → ClassId) (ad : Nat → Nat) (av : List Value) (x : tm_M) (X : String) (x' : tm_M) : Prop := Th l y b mL ret rm D aC 111 ad av (wX ad aC x) X (wX ad aC x')
theorem f_is {f : Nat} (hf : f < 6) : 0 ≤ nI f ∧ nI f < 6 := ⟨nI_pos' (by omega), (nI_ltI (b := 6) (by omega) (by decide)).mpr hf⟩
theorem has_t {t : Nat} {v : Int32} (h0 : 0 < t) (h8 : t ≤ 8) : (0 ≤ v ∧ v < nI t) ↔ ¬ (v < 0 ∨ nI t - 1 < v) := by
  rw [nIp h0]
  simp only [Int32.le_iff_toInt_le, Int32.lt_iff_toInt_lt, nI_toInt (show t < 2 ^ 31 by omega), nI_toInt (show t - 1 < 2 ^ 31 by omega), Int32.toInt_zero]
  omega
theorem has_5 {v : Int32} : (0 ≤ v ∧ v < 6) ↔ ¬ (v < 0 ∨ 5 < v) := by
  simp only [Int32.le_iff_toInt_le, Int32.lt_iff_toInt_lt, show (5 : Int32).toInt = 5 from rfl, show (6 : Int32).toInt = 6 from rfl, Int32.toInt_zero]
  omega
theorem bI_c {a b : Prop} [Decidable a] [Decidable b] (h : a ↔ b) : bI a = bI b := by
  by_cases ha : a
  · rw [bI_t ha, bI_t (h.mp ha)]
  · rw [bI_f ha, bI_f (fun hb => ha (h.mpr hb))]
theorem has_c {t : Nat} {v : Int32} (h0 : 0 < t) (h8 : t ≤ 8) : (v = -1 ∨ (0 ≤ v ∧ v < nI t)) ↔ ¬ (v < -1 ∨ nI t - 1 < v) := by
  rw [nIp h0]
  simp only [← Int32.toInt_inj, Int32.le_iff_toInt_le, Int32.lt_iff_toInt_lt, nI_toInt (show t < 2 ^ 31 by omega), nI_toInt (show t - 1 < 2 ^ 31 by omega), Int32.toInt_zero, show (-1 : Int32).toInt = -1 from rfl]
  omega
set_option maxRecDepth 100000 in
theorem th_Lp_requireFunction {l : Launch} {D : va_G} {aC : Nat → ClassId} {ad : Nat → Nat} (htr : l.stackTraces = false) (x : tm_M) (k : Int32) (hk : ¬ (0 ≤ k ∧ k < 6)) :
    ThX l y_Lp_requireFunction b_Lp_requireFunction 1 none (romT 6 90) D aC ad [.int k] x n_iae x := by
  refine th_start (by decide) (Nat.le_of_ble_eq_true rfl) rfl ?_
  intro p e s m args below meth c B hZ hno hlk hml
  have B : Cx p s m c args b_Lp_requireFunction R_Lp D aC (rg 111 ad) 111 ad := B
  refine j_iloadn B d_Lp_requireFunction_0 rfl ?_
  refine j_cS B (ok_Lp_isFunction x k) cs_Lp_isFunction ml_Lp_115 rfl ⟨rfl, rfl, by decide, by decide⟩ ⟨Nat.zero_le _, Nat.zero_le _⟩ hml (Nat.le_of_ble_eq_true rfl) rfl d_Lp_requireFunction_1 ?_
  refine j_if_ne (tgt := 17) B d_Lp_requireFunction_4 (by decide) (fun h4 => (show False from hk (bI_ne h4)).elim) (fun h4 => ?_)
  exact j_thr B hZ htr hno hlk hml ta_iae st_206 d_Lp_requireFunction_7 d_Lp_requireFunction_10 d_Lp_requireFunction_11 d_Lp_requireFunction_13 d_Lp_requireFunction_16 ⟨by decide, by decide, by decide, by decide⟩ (rfl)
set_option maxRecDepth 100000 in
theorem ok_Lp_requireFunction {l : Launch} {D : va_G} {aC : Nat → ClassId} {ad : Nat → Nat} {f : Nat} (hf : f < 6) (x : tm_M) :
    OkX l y_Lp_requireFunction b_Lp_requireFunction 1 none (rom 1 20) D aC ad [.int (nI f)] x none x := by
  refine ok_start (by decide) (Nat.le_of_ble_eq_true rfl) rfl ?_
  intro p e s m args below meth c B hr hlk hml
  have B : Cx p s m c args b_Lp_requireFunction R_Lp D aC (rg 111 ad) 111 ad := B
  refine j_iloadn B d_Lp_requireFunction_0 rfl ?_
  refine j_cS B (ok_Lp_isFunction x (nI f)) cs_Lp_isFunction ml_Lp_115 rfl ⟨rfl, rfl, by decide, by decide⟩ ⟨Nat.zero_le _, Nat.zero_le _⟩ hml (Nat.le_of_ble_eq_true rfl) rfl d_Lp_requireFunction_1 ?_
  refine j_if_ne (tgt := 17) B d_Lp_requireFunction_4 (by decide) (fun h4 => ?_) (fun h4 => (show False from bI_e h4 (f_is hf)).elim)
  exact j_vret B hr hlk d_Lp_requireFunction_17 (rfl) (rfl)
set_option maxRecDepth 100000 in
theorem ok_Lp_type {l : Launch} {D : va_G} {aC : Nat → ClassId} {ad : Nat → Nat} (x : tm_M) (k : Int32) {t : Nat} (ht : x.1 (5, 0, 1) 1 = nI t) (h8 : t < 8) (hk : (k = -1 ∨ (0 ≤ k ∧ k < x.1 (5, 0, 1) 1))) :
    OkX l y_Lp_type b_Lp_type 2 (some .int) (rom 7 163) D aC ad [.ref (ad 0), .int k] x (some (.int (nI t))) (sI (sA x (5, 0, 2) t k) (5, 0, 1) 1 (nI (t + 1))) := by
  refine ok_start (by decide) (Nat.le_of_ble_eq_true rfl) rfl ?_
  intro p e s m args below meth c B hr hlk hml
  have B : Cx p s m c args b_Lp_type R_Lp D aC (rg 111 ad) 111 ad := B
  refine j_iloadn B d_Lp_type_0 rfl ?_
  refine j_iconst (v := (-1)) B d_Lp_type_1 (by decide) ?_
  refine j_icmp_eq (tgt := 29) B d_Lp_type_2 (by decide) (fun h2 => ?_) (fun h2 => ?_)
  · -- yes
    refine j_aloadn B d_Lp_type_29 rfl ?_
    refine j_getr B fl_Lp_33 (q_0) rfl d_Lp_type_30 ?_
    refine j_getr B fl_Lp_37 (q_34) rfl d_Lp_type_33 ?_
    refine j_cVt B (ok_Ty_isFull x) cv_Ty_isFull ml_Lp_54 (q_35) rfl rfl ⟨rfl, rfl, by decide, by decide⟩ ⟨Nat.zero_le _, Nat.zero_le _⟩ hml (Nat.le_of_ble_eq_true rfl) rfl d_Lp_type_36 ?_
    refine j_if_eq (tgt := 52) B d_Lp_type_39 (by decide) (fun h39 => ?_) (fun h39 => (show False from absurd (nIle (c := 8) (ht ▸ bI_ne h39) (by decide) (by omega)) (by omega)).elim)
    refine j_aloadn B d_Lp_type_52 rfl ?_
    refine j_getr B fl_Lp_33 (q_0) rfl d_Lp_type_53 ?_
    refine j_getr B fl_Lp_37 (q_34) rfl d_Lp_type_56 ?_
    refine j_iloadn B d_Lp_type_59 rfl ?_
    refine j_cVt B (ok_Ty_make x k ht h8) cv_Ty_make ml_Lp_63 (q_35) rfl rfl ⟨rfl, rfl, by decide, by decide⟩ ⟨Nat.zero_le _, Nat.zero_le _⟩ hml (Nat.le_of_ble_eq_true rfl) rfl d_Lp_type_60 ?_
    exact j_iret B hr hlk d_Lp_type_63 (rfl) (rfl)
  · -- no
    refine j_aloadn B d_Lp_type_5 rfl ?_
    refine j_getr B fl_Lp_33 (q_0) rfl d_Lp_type_6 ?_
    refine j_getr B fl_Lp_37 (q_34) rfl d_Lp_type_9 ?_
    refine j_iloadn B d_Lp_type_12 rfl ?_
    refine j_cVt B (ok_Ty_has x k) cv_Ty_has ml_Lp_41 (q_35) rfl rfl ⟨rfl, rfl, by decide, by decide⟩ ⟨Nat.zero_le _, Nat.zero_le _⟩ hml (Nat.le_of_ble_eq_true rfl) rfl d_Lp_type_13 ?_
    refine j_if_ne (tgt := 29) B d_Lp_type_16 (by decide) (fun h16 => ?_) (fun h16 => (show False from hk.elim h2 (bI_e h16)).elim)
    refine j_aloadn B d_Lp_type_29 rfl ?_
    refine j_getr B fl_Lp_33 (q_0) rfl d_Lp_type_30 ?_
    refine j_getr B fl_Lp_37 (q_34) rfl d_Lp_type_33 ?_
    refine j_cVt B (ok_Ty_isFull x) cv_Ty_isFull ml_Lp_54 (q_35) rfl rfl ⟨rfl, rfl, by decide, by decide⟩ ⟨Nat.zero_le _, Nat.zero_le _⟩ hml (Nat.le_of_ble_eq_true rfl) rfl d_Lp_type_36 ?_
    refine j_if_eq (tgt := 52) B d_Lp_type_39 (by decide) (fun h39 => ?_) (fun h39 => (show False from absurd (nIle (c := 8) (ht ▸ bI_ne h39) (by decide) (by omega)) (by omega)).elim)
    refine j_aloadn B d_Lp_type_52 rfl ?_
    refine j_getr B fl_Lp_33 (q_0) rfl d_Lp_type_53 ?_
    refine j_getr B fl_Lp_37 (q_34) rfl d_Lp_type_56 ?_
    refine j_iloadn B d_Lp_type_59 rfl ?_
    refine j_cVt B (ok_Ty_make x k ht h8) cv_Ty_make ml_Lp_63 (q_35) rfl rfl ⟨rfl, rfl, by decide, by decide⟩ ⟨Nat.zero_le _, Nat.zero_le _⟩ hml (Nat.le_of_ble_eq_true rfl) rfl d_Lp_type_60 ?_
    exact j_iret B hr hlk d_Lp_type_63 (rfl) (rfl)
set_option maxRecDepth 100000 in
theorem th_Lp_type_1 {l : Launch} {D : va_G} {aC : Nat → ClassId} {ad : Nat → Nat} (htr : l.stackTraces = false) (x : tm_M) (k : Int32) (hk : ¬ (k = -1 ∨ (0 ≤ k ∧ k < x.1 (5, 0, 1) 1))) :
    ThX l y_Lp_type b_Lp_type 2 (some .int) (romT 7 163) D aC ad [.ref (ad 0), .int k] x n_iae x := by
  refine th_start (by decide) (Nat.le_of_ble_eq_true rfl) rfl ?_
  intro p e s m args below meth c B hZ hno hlk hml
  have B : Cx p s m c args b_Lp_type R_Lp D aC (rg 111 ad) 111 ad := B
  refine j_iloadn B d_Lp_type_0 rfl ?_
  refine j_iconst (v := (-1)) B d_Lp_type_1 (by decide) ?_
  refine j_icmp_eq (tgt := 29) B d_Lp_type_2 (by decide) (fun h2 => (show False from hk (Or.inl h2)).elim) (fun h2 => ?_)
  refine j_aloadn B d_Lp_type_5 rfl ?_
  refine j_getr B fl_Lp_33 (q_0) rfl d_Lp_type_6 ?_
  refine j_getr B fl_Lp_37 (q_34) rfl d_Lp_type_9 ?_
  refine j_iloadn B d_Lp_type_12 rfl ?_
  refine j_cVt B (ok_Ty_has x k) cv_Ty_has ml_Lp_41 (q_35) rfl rfl ⟨rfl, rfl, by decide, by decide⟩ ⟨Nat.zero_le _, Nat.zero_le _⟩ hml (Nat.le_of_ble_eq_true rfl) rfl d_Lp_type_13 ?_
  refine j_if_ne (tgt := 29) B d_Lp_type_16 (by decide) (fun h16 => (show False from hk (Or.inr (bI_ne h16))).elim) (fun h16 => ?_)
  exact j_thr B hZ htr hno hlk hml ta_iae st_49 d_Lp_type_19 d_Lp_type_22 d_Lp_type_23 d_Lp_type_25 d_Lp_type_28 ⟨by decide, by decide, by decide, by decide⟩ (rfl)
set_option maxRecDepth 100000 in
theorem th_Lp_type_2 {l : Launch} {D : va_G} {aC : Nat → ClassId} {ad : Nat → Nat} (htr : l.stackTraces = false) (x : tm_M) (k : Int32) {t : Nat} (ht : x.1 (5, 0, 1) 1 = nI t) (h8 : 8 ≤ t) (h31 : t < 2 ^ 31) (hk : (k = -1 ∨ (0 ≤ k ∧ k < x.1 (5, 0, 1) 1))) :
    ThX l y_Lp_type b_Lp_type 2 (some .int) (romT 7 163) D aC ad [.ref (ad 0), .int k] x n_ise x := by
  refine th_start (by decide) (Nat.le_of_ble_eq_true rfl) rfl ?_
  intro p e s m args below meth c B hZ hno hlk hml
  have B : Cx p s m c args b_Lp_type R_Lp D aC (rg 111 ad) 111 ad := B
  refine j_iloadn B d_Lp_type_0 rfl ?_
  refine j_iconst (v := (-1)) B d_Lp_type_1 (by decide) ?_
  refine j_icmp_eq (tgt := 29) B d_Lp_type_2 (by decide) (fun h2 => ?_) (fun h2 => ?_)
  · -- yes
    refine j_aloadn B d_Lp_type_29 rfl ?_
    refine j_getr B fl_Lp_33 (q_0) rfl d_Lp_type_30 ?_
    refine j_getr B fl_Lp_37 (q_34) rfl d_Lp_type_33 ?_
    refine j_cVt B (ok_Ty_isFull x) cv_Ty_isFull ml_Lp_54 (q_35) rfl rfl ⟨rfl, rfl, by decide, by decide⟩ ⟨Nat.zero_le _, Nat.zero_le _⟩ hml (Nat.le_of_ble_eq_true rfl) rfl d_Lp_type_36 ?_
    refine j_if_eq (tgt := 52) B d_Lp_type_39 (by decide) (fun h39 => (show False from bI_e h39 (ht ▸ nI_le (a := 8) h8 h31)).elim) (fun h39 => ?_)
    exact j_thr B hZ htr hno hlk hml ta_ise st_60 d_Lp_type_42 d_Lp_type_45 d_Lp_type_46 d_Lp_type_48 d_Lp_type_51 ⟨by decide, by decide, by decide, by decide⟩ (rfl)
  · -- no
    refine j_aloadn B d_Lp_type_5 rfl ?_
    refine j_getr B fl_Lp_33 (q_0) rfl d_Lp_type_6 ?_
    refine j_getr B fl_Lp_37 (q_34) rfl d_Lp_type_9 ?_
    refine j_iloadn B d_Lp_type_12 rfl ?_
    refine j_cVt B (ok_Ty_has x k) cv_Ty_has ml_Lp_41 (q_35) rfl rfl ⟨rfl, rfl, by decide, by decide⟩ ⟨Nat.zero_le _, Nat.zero_le _⟩ hml (Nat.le_of_ble_eq_true rfl) rfl d_Lp_type_13 ?_
    refine j_if_ne (tgt := 29) B d_Lp_type_16 (by decide) (fun h16 => ?_) (fun h16 => (show False from hk.elim h2 (bI_e h16)).elim)
    refine j_aloadn B d_Lp_type_29 rfl ?_
    refine j_getr B fl_Lp_33 (q_0) rfl d_Lp_type_30 ?_
    refine j_getr B fl_Lp_37 (q_34) rfl d_Lp_type_33 ?_
    refine j_cVt B (ok_Ty_isFull x) cv_Ty_isFull ml_Lp_54 (q_35) rfl rfl ⟨rfl, rfl, by decide, by decide⟩ ⟨Nat.zero_le _, Nat.zero_le _⟩ hml (Nat.le_of_ble_eq_true rfl) rfl d_Lp_type_36 ?_
    refine j_if_eq (tgt := 52) B d_Lp_type_39 (by decide) (fun h39 => (show False from bI_e h39 (ht ▸ nI_le (a := 8) h8 h31)).elim) (fun h39 => ?_)
    exact j_thr B hZ htr hno hlk hml ta_ise st_60 d_Lp_type_42 d_Lp_type_45 d_Lp_type_46 d_Lp_type_48 d_Lp_type_51 ⟨by decide, by decide, by decide, by decide⟩ (rfl)
set_option maxRecDepth 100000 in
theorem ok_Lp_isAllowed {l : Launch} {D : va_G} {aC : Nat → ClassId} {ad : Nat → Nat} (x : tm_M) (k v : Int32) {t : Nat} (ht : x.1 (5, 0, 1) 1 = nI t) (h0 : 0 < t) (h8 : t ≤ 8) :
    OkX l y_Lp_isAllowed b_Lp_isAllowed 3 (some .boolean) (rom 1 21) D aC ad [.ref (ad 0), .int k, .int v] x (some (.int (fitF (x.1 (5, 0, 1) 1) k v))) x := by
  refine ok_start (by decide) (Nat.le_of_ble_eq_true rfl) rfl ?_
  intro p e s m args below meth c B hr hlk hml
  have B : Cx p s m c args b_Lp_isAllowed R_Lp D aC (rg 111 ad) 111 ad := B
  by_cases e0 : k = 0
  · subst e0
    refine j_iloadn B d_Lp_isAllowed_0 rfl ?_
    refine j_tabIn (tgt := 48) (off := 47) B d_Lp_isAllowed_1 (by decide) (by decide) (by decide) (by decide) ?_
    refine j_iloadn B d_Lp_isAllowed_48 rfl ?_
    refine j_if_lt (tgt := 62) B d_Lp_isAllowed_49 (by decide) (fun h49 => ?_) (fun h49 => ?_)
    · -- yes
      refine j_iconst (v := 0) B d_Lp_isAllowed_62 (by decide) ?_
      exact j_zret B hr hlk d_Lp_isAllowed_63 (by first | exact Or.inl rfl | exact Or.inr rfl) (sv (by first | exact bI_f (fun z => z (Or.inl h49)) | exact bI_f (fun z => z (Or.inr h55)) | exact bI_t (fun z => z.elim h49 h55))) (rfl)
    · -- no
      refine j_iloadn B d_Lp_isAllowed_52 rfl ?_
      refine j_bipush (v := 99) B d_Lp_isAllowed_53 (by decide) ?_
      refine j_icmp_gt (tgt := 62) B d_Lp_isAllowed_55 (by decide) (fun h55 => ?_) (fun h55 => ?_)
      · -- yes
        refine j_iconst (v := 0) B d_Lp_isAllowed_62 (by decide) ?_
        exact j_zret B hr hlk d_Lp_isAllowed_63 (by first | exact Or.inl rfl | exact Or.inr rfl) (sv (by first | exact bI_f (fun z => z (Or.inl h49)) | exact bI_f (fun z => z (Or.inr h55)) | exact bI_t (fun z => z.elim h49 h55))) (rfl)
      · -- no
        refine j_iconst (v := 1) B d_Lp_isAllowed_58 (by decide) ?_
        refine j_goto (tgt := 63) B d_Lp_isAllowed_59 (by decide) ?_
        exact j_zret B hr hlk d_Lp_isAllowed_63 (by first | exact Or.inl rfl | exact Or.inr rfl) (sv (by first | exact bI_f (fun z => z (Or.inl h49)) | exact bI_f (fun z => z (Or.inr h55)) | exact bI_t (fun z => z.elim h49 h55))) (rfl)
  by_cases e1 : k = 1
  · subst e1
    refine j_iloadn B d_Lp_isAllowed_0 rfl ?_
    refine j_tabIn (tgt := 64) (off := 63) B d_Lp_isAllowed_1 (by decide) (by decide) (by decide) (by decide) ?_
    refine j_iloadn B d_Lp_isAllowed_64 rfl ?_
    refine j_cS B (ok_Lp_isFunction x v) cs_Lp_isFunction ml_Lp_115 rfl ⟨rfl, rfl, by decide, by decide⟩ ⟨Nat.zero_le _, Nat.zero_le _⟩ hml (Nat.le_of_ble_eq_true rfl) rfl d_Lp_isAllowed_65 ?_
    exact j_zret B hr hlk d_Lp_isAllowed_68 (by unfold bI; split <;> simp) (sv (bI_c has_5).symm) (rfl)
  by_cases e2 : k = 2
  · subst e2
    refine j_iloadn B d_Lp_isAllowed_0 rfl ?_
    refine j_tabIn (tgt := 69) (off := 68) B d_Lp_isAllowed_1 (by decide) (by decide) (by decide) (by decide) ?_
    refine j_aloadn B d_Lp_isAllowed_69 rfl ?_
    refine j_getr B fl_Lp_33 (q_0) rfl d_Lp_isAllowed_70 ?_
    refine j_getr B fl_Lp_37 (q_34) rfl d_Lp_isAllowed_73 ?_
    refine j_iloadn B d_Lp_isAllowed_76 rfl ?_
    refine j_cVt B (ok_Ty_has x v) cv_Ty_has ml_Lp_41 (q_35) rfl rfl ⟨rfl, rfl, by decide, by decide⟩ ⟨Nat.zero_le _, Nat.zero_le _⟩ hml (Nat.le_of_ble_eq_true rfl) rfl d_Lp_isAllowed_77 ?_
    exact j_zret B hr hlk d_Lp_isAllowed_80 (by unfold bI; split <;> simp) (sv (by rw [show fitF (x.1 (5, 0, 1) 1) 2 v = bI (¬ (v < 0 ∨ x.1 (5, 0, 1) 1 - 1 < v)) from rfl, ht]; exact (bI_c (has_t h0 h8)).symm)) (rfl)
  by_cases e3 : k = 3
  · subst e3
    refine j_iloadn B d_Lp_isAllowed_0 rfl ?_
    refine j_tabIn (tgt := 106) (off := 105) B d_Lp_isAllowed_1 (by decide) (by decide) (by decide) (by decide) ?_
    refine j_iloadn B d_Lp_isAllowed_106 rfl ?_
    refine j_if_ne (tgt := 114) B d_Lp_isAllowed_107 (by decide) (fun h107 => ?_) (fun h107 => ?_)
    · -- yes
      refine j_iconst (v := 0) B d_Lp_isAllowed_114 (by decide) ?_
      exact j_zret B hr hlk d_Lp_isAllowed_115 (by first | exact Or.inl rfl | exact Or.inr rfl) (sv (by first | exact bI_t (Decidable.not_not.mp h107) | exact bI_f h107 | exact bI_t h107)) (rfl)
    · -- no
      refine j_iconst (v := 1) B d_Lp_isAllowed_110 (by decide) ?_
      refine j_goto (tgt := 115) B d_Lp_isAllowed_111 (by decide) ?_
      exact j_zret B hr hlk d_Lp_isAllowed_115 (by first | exact Or.inl rfl | exact Or.inr rfl) (sv (by first | exact bI_t (Decidable.not_not.mp h107) | exact bI_f h107 | exact bI_t h107)) (rfl)
  by_cases e4 : k = 4
  · subst e4
    refine j_iloadn B d_Lp_isAllowed_0 rfl ?_
    refine j_tabIn (tgt := 81) (off := 80) B d_Lp_isAllowed_1 (by decide) (by decide) (by decide) (by decide) ?_
    refine j_iloadn B d_Lp_isAllowed_81 rfl ?_
    refine j_iconst (v := (-1)) B d_Lp_isAllowed_82 (by decide) ?_
    refine j_icmp_eq (tgt := 100) B d_Lp_isAllowed_83 (by decide) (fun h83 => ?_) (fun h83 => ?_)
    · -- yes
      refine j_iconst (v := 1) B d_Lp_isAllowed_100 (by decide) ?_
      refine j_goto (tgt := 105) B d_Lp_isAllowed_101 (by decide) ?_
      exact j_zret B hr hlk d_Lp_isAllowed_105 (by first | exact Or.inl rfl | exact Or.inr rfl) (sv (by rw [show fitF (x.1 (5, 0, 1) 1) 4 v = bI (¬ (v < -1 ∨ x.1 (5, 0, 1) 1 - 1 < v)) from rfl, ht, ← bI_c (has_c h0 h8)]; first | exact bI_t (Or.inl h83) | exact bI_t (Or.inr (ht ▸ bI_ne h97)) | exact bI_f (fun z => z.elim h83 (fun y => bI_e h97 (ht ▸ y))))) (rfl)
    · -- no
      refine j_aloadn B d_Lp_isAllowed_86 rfl ?_
      refine j_getr B fl_Lp_33 (q_0) rfl d_Lp_isAllowed_87 ?_
      refine j_getr B fl_Lp_37 (q_34) rfl d_Lp_isAllowed_90 ?_
      refine j_iloadn B d_Lp_isAllowed_93 rfl ?_
      refine j_cVt B (ok_Ty_has x v) cv_Ty_has ml_Lp_41 (q_35) rfl rfl ⟨rfl, rfl, by decide, by decide⟩ ⟨Nat.zero_le _, Nat.zero_le _⟩ hml (Nat.le_of_ble_eq_true rfl) rfl d_Lp_isAllowed_94 ?_
      refine j_if_eq (tgt := 104) B d_Lp_isAllowed_97 (by decide) (fun h97 => ?_) (fun h97 => ?_)
      · -- yes
        refine j_iconst (v := 0) B d_Lp_isAllowed_104 (by decide) ?_
        exact j_zret B hr hlk d_Lp_isAllowed_105 (by first | exact Or.inl rfl | exact Or.inr rfl) (sv (by rw [show fitF (x.1 (5, 0, 1) 1) 4 v = bI (¬ (v < -1 ∨ x.1 (5, 0, 1) 1 - 1 < v)) from rfl, ht, ← bI_c (has_c h0 h8)]; first | exact bI_t (Or.inl h83) | exact bI_t (Or.inr (ht ▸ bI_ne h97)) | exact bI_f (fun z => z.elim h83 (fun y => bI_e h97 (ht ▸ y))))) (rfl)
      · -- no
        refine j_iconst (v := 1) B d_Lp_isAllowed_100 (by decide) ?_
        refine j_goto (tgt := 105) B d_Lp_isAllowed_101 (by decide) ?_
        exact j_zret B hr hlk d_Lp_isAllowed_105 (by first | exact Or.inl rfl | exact Or.inr rfl) (sv (by rw [show fitF (x.1 (5, 0, 1) 1) 4 v = bI (¬ (v < -1 ∨ x.1 (5, 0, 1) 1 - 1 < v)) from rfl, ht, ← bI_c (has_c h0 h8)]; first | exact bI_t (Or.inl h83) | exact bI_t (Or.inr (ht ▸ bI_ne h97)) | exact bI_f (fun z => z.elim h83 (fun y => bI_e h97 (ht ▸ y))))) (rfl)
  by_cases e5 : k = 5
  · subst e5
    refine j_iloadn B d_Lp_isAllowed_0 rfl ?_
    refine j_tabIn (tgt := 106) (off := 105) B d_Lp_isAllowed_1 (by decide) (by decide) (by decide) (by decide) ?_
    refine j_iloadn B d_Lp_isAllowed_106 rfl ?_
    refine j_if_ne (tgt := 114) B d_Lp_isAllowed_107 (by decide) (fun h107 => ?_) (fun h107 => ?_)
    · -- yes
      refine j_iconst (v := 0) B d_Lp_isAllowed_114 (by decide) ?_
      exact j_zret B hr hlk d_Lp_isAllowed_115 (by first | exact Or.inl rfl | exact Or.inr rfl) (sv (by first | exact bI_t (Decidable.not_not.mp h107) | exact bI_f h107 | exact bI_t h107)) (rfl)
    · -- no
      refine j_iconst (v := 1) B d_Lp_isAllowed_110 (by decide) ?_
      refine j_goto (tgt := 115) B d_Lp_isAllowed_111 (by decide) ?_
      exact j_zret B hr hlk d_Lp_isAllowed_115 (by first | exact Or.inl rfl | exact Or.inr rfl) (sv (by first | exact bI_t (Decidable.not_not.mp h107) | exact bI_f h107 | exact bI_t h107)) (rfl)
  by_cases e6 : k = 6
  · subst e6
    refine j_iloadn B d_Lp_isAllowed_0 rfl ?_
    refine j_tabIn (tgt := 48) (off := 47) B d_Lp_isAllowed_1 (by decide) (by decide) (by decide) (by decide) ?_
    refine j_iloadn B d_Lp_isAllowed_48 rfl ?_
    refine j_if_lt (tgt := 62) B d_Lp_isAllowed_49 (by decide) (fun h49 => ?_) (fun h49 => ?_)
    · -- yes
      refine j_iconst (v := 0) B d_Lp_isAllowed_62 (by decide) ?_
      exact j_zret B hr hlk d_Lp_isAllowed_63 (by first | exact Or.inl rfl | exact Or.inr rfl) (sv (by first | exact bI_f (fun z => z (Or.inl h49)) | exact bI_f (fun z => z (Or.inr h55)) | exact bI_t (fun z => z.elim h49 h55))) (rfl)
    · -- no
      refine j_iloadn B d_Lp_isAllowed_52 rfl ?_
      refine j_bipush (v := 99) B d_Lp_isAllowed_53 (by decide) ?_
      refine j_icmp_gt (tgt := 62) B d_Lp_isAllowed_55 (by decide) (fun h55 => ?_) (fun h55 => ?_)
      · -- yes
        refine j_iconst (v := 0) B d_Lp_isAllowed_62 (by decide) ?_
        exact j_zret B hr hlk d_Lp_isAllowed_63 (by first | exact Or.inl rfl | exact Or.inr rfl) (sv (by first | exact bI_f (fun z => z (Or.inl h49)) | exact bI_f (fun z => z (Or.inr h55)) | exact bI_t (fun z => z.elim h49 h55))) (rfl)
      · -- no
        refine j_iconst (v := 1) B d_Lp_isAllowed_58 (by decide) ?_
        refine j_goto (tgt := 63) B d_Lp_isAllowed_59 (by decide) ?_
        exact j_zret B hr hlk d_Lp_isAllowed_63 (by first | exact Or.inl rfl | exact Or.inr rfl) (sv (by first | exact bI_f (fun z => z (Or.inl h49)) | exact bI_f (fun z => z (Or.inr h55)) | exact bI_t (fun z => z.elim h49 h55))) (rfl)
  by_cases e7 : k = 7
  · subst e7
    refine j_iloadn B d_Lp_isAllowed_0 rfl ?_
    refine j_tabIn (tgt := 106) (off := 105) B d_Lp_isAllowed_1 (by decide) (by decide) (by decide) (by decide) ?_
    refine j_iloadn B d_Lp_isAllowed_106 rfl ?_
    refine j_if_ne (tgt := 114) B d_Lp_isAllowed_107 (by decide) (fun h107 => ?_) (fun h107 => ?_)
    · -- yes
      refine j_iconst (v := 0) B d_Lp_isAllowed_114 (by decide) ?_
      exact j_zret B hr hlk d_Lp_isAllowed_115 (by first | exact Or.inl rfl | exact Or.inr rfl) (sv (by first | exact bI_t (Decidable.not_not.mp h107) | exact bI_f h107 | exact bI_t h107)) (rfl)
    · -- no
      refine j_iconst (v := 1) B d_Lp_isAllowed_110 (by decide) ?_
      refine j_goto (tgt := 115) B d_Lp_isAllowed_111 (by decide) ?_
      exact j_zret B hr hlk d_Lp_isAllowed_115 (by first | exact Or.inl rfl | exact Or.inr rfl) (sv (by first | exact bI_t (Decidable.not_not.mp h107) | exact bI_f h107 | exact bI_t h107)) (rfl)
  refine j_iloadn B d_Lp_isAllowed_0 rfl ?_
  refine j_tabOut (tgt := 116) B d_Lp_isAllowed_1 (sw07 e0 e1 e2 e3 e4 e5 e6 e7) (by decide) ?_
  refine j_iconst (v := 0) B d_Lp_isAllowed_116 (by decide) ?_
  exact j_zret B hr hlk d_Lp_isAllowed_117 (by first | exact Or.inl rfl | exact Or.inr rfl) (sv (by simp [fitF, e0, e1, e2, e3, e4, e5, e6, e7])) (rfl)
set_option maxRecDepth 100000 in
theorem ok_Lp_add {l : Launch} {D : va_G} {aC : Nat → ClassId} {ad : Nat → Nat} {f : Nat} (hf : f < 6) (x : tm_M) (u v : Int32) {t tt : Nat} (htt : x.1 (5, 0, 1) 1 = nI tt) (ht0 : 0 < tt) (ht8 : tt ≤ 8) (hfit : ¬ fitF (x.1 (5, 0, 1) 1) u v = 0) (ht : x.1 (1, f, 0) 2 = nI t) (h20 : t < 20) :
    OkX l y_Lp_add b_Lp_add 4 (some .int) (rom 7 163) D aC ad [.ref (ad 0), .int (nI f), .int u, .int v] x (some (.int (nI (t + 1)))) (sI (sA (sA x (1, f, 1) t u) (1, f, 2) t v) (1, f, 0) 2 (nI (t + 1))) := by
  refine ok_start (by decide) (Nat.le_of_ble_eq_true rfl) rfl ?_
  intro p e s m args below meth c B hr hlk hml
  have B : Cx p s m c args b_Lp_add R_Lp D aC (rg 111 ad) 111 ad := B
  refine j_iloadn B d_Lp_add_0 rfl ?_
  refine j_cS B (ok_Lp_requireFunction hf x) cs_Lp_requireFunction ml_Lp_67 rfl ⟨rfl, rfl, by decide, by decide⟩ ⟨Nat.zero_le _, Nat.zero_le _⟩ hml (Nat.le_of_ble_eq_true rfl) rfl d_Lp_add_1 ?_
  refine j_aloadn B d_Lp_add_4 rfl ?_
  refine j_iloadn B d_Lp_add_5 rfl ?_
  refine j_iloadn B d_Lp_add_6 rfl ?_
  refine j_cVt B (ok_Lp_isAllowed x u v htt ht0 ht8) cv_Lp_isAllowed ml_Lp_71 (q_0) rfl rfl ⟨rfl, rfl, by decide, by decide⟩ ⟨Nat.zero_le _, Nat.zero_le _⟩ hml (Nat.le_of_ble_eq_true rfl) rfl d_Lp_add_7 ?_
  refine j_if_ne (tgt := 23) B d_Lp_add_10 (by decide) (fun h10 => ?_) (fun h10 => (show False from hfit h10).elim)
  refine j_aloadn B d_Lp_add_23 rfl ?_
  refine j_getr B fl_Lp_11 (q_0) rfl d_Lp_add_24 ?_
  refine j_iloadn B d_Lp_add_27 rfl ?_
  refine j_aald B ⟨(q_1).1, (q_1).2.1⟩ rfl (⟨rfl, hf, by decide⟩) d_Lp_add_28 ?_
  refine j_cVt B (ok_Tx_isFull hf x) cv_Tx_isFull ml_Lp_77 (q_tx hf) rfl rfl ⟨rfl, rfl, by decide, by decide⟩ ⟨Nat.zero_le _, Nat.zero_le _⟩ hml (Nat.le_of_ble_eq_true rfl) rfl d_Lp_add_29 ?_
  refine j_if_eq (tgt := 45) B d_Lp_add_32 (by decide) (fun h32 => ?_) (fun h32 => (show False from absurd (nIle (c := 20) (ht ▸ bI_ne h32) (by decide) (by omega)) (by omega)).elim)
  refine j_aloadn B d_Lp_add_45 rfl ?_
  refine j_getr B fl_Lp_11 (q_0) rfl d_Lp_add_46 ?_
  refine j_iloadn B d_Lp_add_49 rfl ?_
  refine j_aald B ⟨(q_1).1, (q_1).2.1⟩ rfl (⟨rfl, hf, by decide⟩) d_Lp_add_50 ?_
  refine j_iloadn B d_Lp_add_51 rfl ?_
  refine j_iloadn B d_Lp_add_52 rfl ?_
  refine j_cVt B (ok_Tx_append hf x u v ht h20) cv_Tx_append ml_Lp_80 (q_tx hf) rfl rfl ⟨rfl, rfl, by decide, by decide⟩ ⟨Nat.zero_le _, Nat.zero_le _⟩ hml (Nat.le_of_ble_eq_true rfl) rfl d_Lp_add_53 ?_
  exact j_iret B hr hlk d_Lp_add_56 (rfl) (rfl)
set_option maxRecDepth 100000 in
theorem th_Lp_add_0 {l : Launch} {D : va_G} {aC : Nat → ClassId} {ad : Nat → Nat} (htr : l.stackTraces = false) (x : tm_M) (k : Int32) (hk : ¬ (0 ≤ k ∧ k < 6)) (u v : Int32) :
    ThX l y_Lp_add b_Lp_add 4 (some .int) (romT 7 163) D aC ad [.ref (ad 0), .int k, .int u, .int v] x n_iae x := by
  refine th_start (by decide) (Nat.le_of_ble_eq_true rfl) rfl ?_
  intro p e s m args below meth c B hZ hno hlk hml
  have B : Cx p s m c args b_Lp_add R_Lp D aC (rg 111 ad) 111 ad := B
  refine j_iloadn B d_Lp_add_0 rfl ?_
  exact j_pS B hZ hno hlk hml (th_Lp_requireFunction htr x k hk) cs_Lp_requireFunction ml_Lp_67 rfl ⟨rfl, rfl, by decide, by decide⟩ ⟨by decide, by decide⟩ (Nat.le_of_ble_eq_true rfl) rfl d_Lp_add_1
set_option maxRecDepth 100000 in
theorem th_Lp_add_1 {l : Launch} {D : va_G} {aC : Nat → ClassId} {ad : Nat → Nat} (htr : l.stackTraces = false) {f : Nat} (hf : f < 6) (x : tm_M) (u v : Int32) {tt : Nat} (htt : x.1 (5, 0, 1) 1 = nI tt) (ht0 : 0 < tt) (ht8 : tt ≤ 8) (hfit : fitF (x.1 (5, 0, 1) 1) u v = 0) :
    ThX l y_Lp_add b_Lp_add 4 (some .int) (romT 7 163) D aC ad [.ref (ad 0), .int (nI f), .int u, .int v] x n_iae x := by
  refine th_start (by decide) (Nat.le_of_ble_eq_true rfl) rfl ?_
  intro p e s m args below meth c B hZ hno hlk hml
  have B : Cx p s m c args b_Lp_add R_Lp D aC (rg 111 ad) 111 ad := B
  refine j_iloadn B d_Lp_add_0 rfl ?_
  refine j_cS B (ok_Lp_requireFunction hf x) cs_Lp_requireFunction ml_Lp_67 rfl ⟨rfl, rfl, by decide, by decide⟩ ⟨Nat.zero_le _, Nat.zero_le _⟩ hml (Nat.le_of_ble_eq_true rfl) rfl d_Lp_add_1 ?_
  refine j_aloadn B d_Lp_add_4 rfl ?_
  refine j_iloadn B d_Lp_add_5 rfl ?_
  refine j_iloadn B d_Lp_add_6 rfl ?_
  refine j_cVt B (ok_Lp_isAllowed x u v htt ht0 ht8) cv_Lp_isAllowed ml_Lp_71 (q_0) rfl rfl ⟨rfl, rfl, by decide, by decide⟩ ⟨Nat.zero_le _, Nat.zero_le _⟩ hml (Nat.le_of_ble_eq_true rfl) rfl d_Lp_add_7 ?_
  refine j_if_ne (tgt := 23) B d_Lp_add_10 (by decide) (fun h10 => (show False from h10 hfit).elim) (fun h10 => ?_)
  exact j_thr B hZ htr hno hlk hml ta_iae st_75 d_Lp_add_13 d_Lp_add_16 d_Lp_add_17 d_Lp_add_19 d_Lp_add_22 ⟨by decide, by decide, by decide, by decide⟩ (rfl)
set_option maxRecDepth 100000 in
theorem th_Lp_add_2 {l : Launch} {D : va_G} {aC : Nat → ClassId} {ad : Nat → Nat} (htr : l.stackTraces = false) {f : Nat} (hf : f < 6) (x : tm_M) (u v : Int32) {t tt : Nat} (htt : x.1 (5, 0, 1) 1 = nI tt) (ht0 : 0 < tt) (ht8 : tt ≤ 8) (hfit : ¬ fitF (x.1 (5, 0, 1) 1) u v = 0) (ht : x.1 (1, f, 0) 2 = nI t) (h20 : 20 ≤ t) (h31 : t < 2 ^ 31) :
    ThX l y_Lp_add b_Lp_add 4 (some .int) (romT 7 163) D aC ad [.ref (ad 0), .int (nI f), .int u, .int v] x n_ise x := by
  refine th_start (by decide) (Nat.le_of_ble_eq_true rfl) rfl ?_
  intro p e s m args below meth c B hZ hno hlk hml
  have B : Cx p s m c args b_Lp_add R_Lp D aC (rg 111 ad) 111 ad := B
  refine j_iloadn B d_Lp_add_0 rfl ?_
  refine j_cS B (ok_Lp_requireFunction hf x) cs_Lp_requireFunction ml_Lp_67 rfl ⟨rfl, rfl, by decide, by decide⟩ ⟨Nat.zero_le _, Nat.zero_le _⟩ hml (Nat.le_of_ble_eq_true rfl) rfl d_Lp_add_1 ?_
  refine j_aloadn B d_Lp_add_4 rfl ?_
  refine j_iloadn B d_Lp_add_5 rfl ?_
  refine j_iloadn B d_Lp_add_6 rfl ?_
  refine j_cVt B (ok_Lp_isAllowed x u v htt ht0 ht8) cv_Lp_isAllowed ml_Lp_71 (q_0) rfl rfl ⟨rfl, rfl, by decide, by decide⟩ ⟨Nat.zero_le _, Nat.zero_le _⟩ hml (Nat.le_of_ble_eq_true rfl) rfl d_Lp_add_7 ?_
  refine j_if_ne (tgt := 23) B d_Lp_add_10 (by decide) (fun h10 => ?_) (fun h10 => (show False from hfit h10).elim)
  refine j_aloadn B d_Lp_add_23 rfl ?_
  refine j_getr B fl_Lp_11 (q_0) rfl d_Lp_add_24 ?_
  refine j_iloadn B d_Lp_add_27 rfl ?_
  refine j_aald B ⟨(q_1).1, (q_1).2.1⟩ rfl (⟨rfl, hf, by decide⟩) d_Lp_add_28 ?_
  refine j_cVt B (ok_Tx_isFull hf x) cv_Tx_isFull ml_Lp_77 (q_tx hf) rfl rfl ⟨rfl, rfl, by decide, by decide⟩ ⟨Nat.zero_le _, Nat.zero_le _⟩ hml (Nat.le_of_ble_eq_true rfl) rfl d_Lp_add_29 ?_
  refine j_if_eq (tgt := 45) B d_Lp_add_32 (by decide) (fun h32 => (show False from bI_e h32 (ht ▸ nI_le (a := 20) h20 h31)).elim) (fun h32 => ?_)
  exact j_thr B hZ htr hno hlk hml ta_ise st_78 d_Lp_add_35 d_Lp_add_38 d_Lp_add_39 d_Lp_add_41 d_Lp_add_44 ⟨by decide, by decide, by decide, by decide⟩ (rfl)
set_option maxRecDepth 100000 in
theorem ok_Lp_wipe {l : Launch} {D : va_G} {aC : Nat → ClassId} {ad : Nat → Nat} {f : Nat} (hf : f < 6) (x : tm_M) :
    OkX l y_Lp_wipe b_Lp_wipe 2 none (rom 7 163) D aC ad [.ref (ad 0), .int (nI f)] x none (sI x (1, f, 0) 2 0) := by
  refine ok_start (by decide) (Nat.le_of_ble_eq_true rfl) rfl ?_
  intro p e s m args below meth c B hr hlk hml
  have B : Cx p s m c args b_Lp_wipe R_Lp D aC (rg 111 ad) 111 ad := B
  refine j_iloadn B d_Lp_wipe_0 rfl ?_
  refine j_cS B (ok_Lp_requireFunction hf x) cs_Lp_requireFunction ml_Lp_67 rfl ⟨rfl, rfl, by decide, by decide⟩ ⟨Nat.zero_le _, Nat.zero_le _⟩ hml (Nat.le_of_ble_eq_true rfl) rfl d_Lp_wipe_1 ?_
  refine j_aloadn B d_Lp_wipe_4 rfl ?_
  refine j_getr B fl_Lp_11 (q_0) rfl d_Lp_wipe_5 ?_
  refine j_iloadn B d_Lp_wipe_8 rfl ?_
  refine j_aald B ⟨(q_1).1, (q_1).2.1⟩ rfl (⟨rfl, hf, by decide⟩) d_Lp_wipe_9 ?_
  refine j_iconst (v := 0) B d_Lp_wipe_10 (by decide) ?_
  refine j_puti B kX_inj fs_Lp_84 (q_tx hf) rfl d_Lp_wipe_11 ?_
  exact j_vret B hr hlk d_Lp_wipe_14 (rfl) (rfl)
set_option maxRecDepth 100000 in
theorem th_Lp_wipe {l : Launch} {D : va_G} {aC : Nat → ClassId} {ad : Nat → Nat} (htr : l.stackTraces = false) (x : tm_M) (k : Int32) (hk : ¬ (0 ≤ k ∧ k < 6)) :
    ThX l y_Lp_wipe b_Lp_wipe 2 none (romT 7 163) D aC ad [.ref (ad 0), .int k] x n_iae x := by
  refine th_start (by decide) (Nat.le_of_ble_eq_true rfl) rfl ?_
  intro p e s m args below meth c B hZ hno hlk hml
  have B : Cx p s m c args b_Lp_wipe R_Lp D aC (rg 111 ad) 111 ad := B
  refine j_iloadn B d_Lp_wipe_0 rfl ?_
  exact j_pS B hZ hno hlk hml (th_Lp_requireFunction htr x k hk) cs_Lp_requireFunction ml_Lp_67 rfl ⟨rfl, rfl, by decide, by decide⟩ ⟨by decide, by decide⟩ (Nat.le_of_ble_eq_true rfl) rfl d_Lp_wipe_1
set_option maxRecDepth 100000 in
theorem ok_Lp_compile {l : Launch} {D : va_G} {aC : Nat → ClassId} {ad : Nat → Nat} {f : Nat} (hf : f < 6) (x : tm_M) {t n : Nat} (ht : x.1 (1, f, 0) 2 = nI t) (h20 : t ≤ 20) (hwf : ¬ (wfF (x.2 (1, f, 1)) t 0 0 (x.2 (2, 0, 1))).1 = 0) {x2 : tm_M} (hT : OkX l y_Co_translate b_Co_translate 4 none (rom 5 114) D aC ad [.ref (ad 22), .ref (ad (txO f)), .ref (ad (prO f))] (ckX (wfF (x.2 (1, f, 1)) t 0 0 (x.2 (2, 0, 1))).2.1 (wfF (x.2 (1, f, 1)) t 0 0 (x.2 (2, 0, 1))).2.2 x) none x2) (hn : x2.1 (6, f, 0) 2 = nI n) :
    OkX l y_Lp_compile b_Lp_compile 4 (some .int) (rom 7 163) D aC ad [.ref (ad 0), .int (nI f)] x (some (.int (nI n))) x2 := by
  refine ok_start (by decide) (Nat.le_of_ble_eq_true rfl) rfl ?_
  intro p e s m args below meth c B hr hlk hml
  have B : Cx p s m c args b_Lp_compile R_Lp D aC (rg 111 ad) 111 ad := B
  refine j_iloadn B d_Lp_compile_0 rfl ?_
  refine j_cS B (ok_Lp_requireFunction hf x) cs_Lp_requireFunction ml_Lp_67 rfl ⟨rfl, rfl, by decide, by decide⟩ ⟨Nat.zero_le _, Nat.zero_le _⟩ hml (Nat.le_of_ble_eq_true rfl) rfl d_Lp_compile_1 ?_
  refine j_aloadn B d_Lp_compile_4 rfl ?_
  refine j_getr B fl_Lp_11 (q_0) rfl d_Lp_compile_5 ?_
  refine j_iloadn B d_Lp_compile_8 rfl ?_
  refine j_aald B ⟨(q_1).1, (q_1).2.1⟩ rfl (⟨rfl, hf, by decide⟩) d_Lp_compile_9 ?_
  refine j_astoren B d_Lp_compile_10 (by decide) ?_
  refine j_aloadn B d_Lp_compile_11 rfl ?_
  refine j_getr B fl_Lp_19 (q_0) rfl d_Lp_compile_12 ?_
  refine j_aloadn B d_Lp_compile_15 rfl ?_
  refine j_cVt B (ok_Ck_isWellFormed hf x ht h20) cv_Ck_isWellFormed ml_Lp_88 (q_20) rfl rfl ⟨rfl, rfl, by decide, by decide⟩ ⟨Nat.zero_le _, Nat.zero_le _⟩ hml (Nat.le_of_ble_eq_true rfl) rfl d_Lp_compile_16 ?_
  refine j_if_ne (tgt := 32) B d_Lp_compile_19 (by decide) (fun h19 => ?_) (fun h19 => (show False from hwf h19).elim)
  refine j_aloadn B d_Lp_compile_32 rfl ?_
  refine j_getr B fl_Lp_33 (q_0) rfl d_Lp_compile_33 ?_
  refine j_getr B fl_Lp_94 (q_34) rfl d_Lp_compile_36 ?_
  refine j_iloadn B d_Lp_compile_39 rfl ?_
  refine j_aald B ⟨(q_39).1, (q_39).2.1⟩ rfl (⟨rfl, hf, by decide⟩) d_Lp_compile_40 ?_
  refine j_astoren B d_Lp_compile_41 (by decide) ?_
  refine j_aloadn B d_Lp_compile_42 rfl ?_
  refine j_getr B fl_Lp_26 (q_0) rfl d_Lp_compile_43 ?_
  refine j_aloadn B d_Lp_compile_46 rfl ?_
  refine j_aloadn B d_Lp_compile_47 rfl ?_
  refine j_cVt B (hT) cv_Co_translate ml_Lp_98 (q_22) rfl rfl ⟨rfl, rfl, by decide, by decide⟩ ⟨Nat.zero_le _, Nat.zero_le _⟩ hml (Nat.le_of_ble_eq_true rfl) rfl d_Lp_compile_48 ?_
  refine j_aloadn B d_Lp_compile_51 rfl ?_
  refine j_geti B fl_Lp_102 (q_pr hf) rfl d_Lp_compile_52 ?_
  exact j_iret B hr hlk d_Lp_compile_55 (sv hn.symm) (rfl)
set_option maxRecDepth 100000 in
theorem th_Lp_compile_1 {l : Launch} {D : va_G} {aC : Nat → ClassId} {ad : Nat → Nat} (htr : l.stackTraces = false) (x : tm_M) (k : Int32) (hk : ¬ (0 ≤ k ∧ k < 6)) :
    ThX l y_Lp_compile b_Lp_compile 4 (some .int) (romT 7 163) D aC ad [.ref (ad 0), .int k] x n_iae x := by
  refine th_start (by decide) (Nat.le_of_ble_eq_true rfl) rfl ?_
  intro p e s m args below meth c B hZ hno hlk hml
  have B : Cx p s m c args b_Lp_compile R_Lp D aC (rg 111 ad) 111 ad := B
  refine j_iloadn B d_Lp_compile_0 rfl ?_
  exact j_pS B hZ hno hlk hml (th_Lp_requireFunction htr x k hk) cs_Lp_requireFunction ml_Lp_67 rfl ⟨rfl, rfl, by decide, by decide⟩ ⟨by decide, by decide⟩ (Nat.le_of_ble_eq_true rfl) rfl d_Lp_compile_1
set_option maxRecDepth 100000 in
theorem th_Lp_compile_2 {l : Launch} {D : va_G} {aC : Nat → ClassId} {ad : Nat → Nat} (htr : l.stackTraces = false) {f : Nat} (hf : f < 6) (x : tm_M) {t : Nat} (ht : x.1 (1, f, 0) 2 = nI t) (h20 : t ≤ 20) (hwf : (wfF (x.2 (1, f, 1)) t 0 0 (x.2 (2, 0, 1))).1 = 0) :
    ThX l y_Lp_compile b_Lp_compile 4 (some .int) (romT 7 163) D aC ad [.ref (ad 0), .int (nI f)] x n_ise (ckX (wfF (x.2 (1, f, 1)) t 0 0 (x.2 (2, 0, 1))).2.1 (wfF (x.2 (1, f, 1)) t 0 0 (x.2 (2, 0, 1))).2.2 x) := by
  refine th_start (by decide) (Nat.le_of_ble_eq_true rfl) rfl ?_
  intro p e s m args below meth c B hZ hno hlk hml
  have B : Cx p s m c args b_Lp_compile R_Lp D aC (rg 111 ad) 111 ad := B
  refine j_iloadn B d_Lp_compile_0 rfl ?_
  refine j_cS B (ok_Lp_requireFunction hf x) cs_Lp_requireFunction ml_Lp_67 rfl ⟨rfl, rfl, by decide, by decide⟩ ⟨Nat.zero_le _, Nat.zero_le _⟩ hml (Nat.le_of_ble_eq_true rfl) rfl d_Lp_compile_1 ?_
  refine j_aloadn B d_Lp_compile_4 rfl ?_
  refine j_getr B fl_Lp_11 (q_0) rfl d_Lp_compile_5 ?_
  refine j_iloadn B d_Lp_compile_8 rfl ?_
  refine j_aald B ⟨(q_1).1, (q_1).2.1⟩ rfl (⟨rfl, hf, by decide⟩) d_Lp_compile_9 ?_
  refine j_astoren B d_Lp_compile_10 (by decide) ?_
  refine j_aloadn B d_Lp_compile_11 rfl ?_
  refine j_getr B fl_Lp_19 (q_0) rfl d_Lp_compile_12 ?_
  refine j_aloadn B d_Lp_compile_15 rfl ?_
  refine j_cVt B (ok_Ck_isWellFormed hf x ht h20) cv_Ck_isWellFormed ml_Lp_88 (q_20) rfl rfl ⟨rfl, rfl, by decide, by decide⟩ ⟨Nat.zero_le _, Nat.zero_le _⟩ hml (Nat.le_of_ble_eq_true rfl) rfl d_Lp_compile_16 ?_
  refine j_if_ne (tgt := 32) B d_Lp_compile_19 (by decide) (fun h19 => (show False from h19 hwf).elim) (fun h19 => ?_)
  exact j_thr B hZ htr hno hlk hml ta_ise st_92 d_Lp_compile_22 d_Lp_compile_25 d_Lp_compile_26 d_Lp_compile_28 d_Lp_compile_31 ⟨by decide, by decide, by decide, by decide⟩ (rfl)
set_option maxRecDepth 100000 in
theorem ok_Lp_size_0 {l : Launch} {D : va_G} {aC : Nat → ClassId} {ad : Nat → Nat} {f : Nat} (hf : f < 6) (x : tm_M) :
    OkX l y_Lp_size b_Lp_size 4 (some .int) (rom 7 163) D aC ad [.ref (ad 0), .int (nI f), .int 0] x (some (.int (x.1 (6, f, 0) 2))) x := by
  refine ok_start (by decide) (Nat.le_of_ble_eq_true rfl) rfl ?_
  intro p e s m args below meth c B hr hlk hml
  have B : Cx p s m c args b_Lp_size R_Lp D aC (rg 111 ad) 111 ad := B
  refine j_iloadn B d_Lp_size_0 rfl ?_
  refine j_cS B (ok_Lp_requireFunction hf x) cs_Lp_requireFunction ml_Lp_67 rfl ⟨rfl, rfl, by decide, by decide⟩ ⟨Nat.zero_le _, Nat.zero_le _⟩ hml (Nat.le_of_ble_eq_true rfl) rfl d_Lp_size_1 ?_
  refine j_aloadn B d_Lp_size_4 rfl ?_
  refine j_getr B fl_Lp_33 (q_0) rfl d_Lp_size_5 ?_
  refine j_getr B fl_Lp_94 (q_34) rfl d_Lp_size_8 ?_
  refine j_iloadn B d_Lp_size_11 rfl ?_
  refine j_aald B ⟨(q_39).1, (q_39).2.1⟩ rfl (⟨rfl, hf, by decide⟩) d_Lp_size_12 ?_
  refine j_astoren B d_Lp_size_13 (by decide) ?_
  refine j_iloadn B d_Lp_size_14 rfl ?_
  refine j_tabIn (tgt := 40) (off := 25) B d_Lp_size_15 (by decide) (by decide) (by decide) (by decide) ?_
  refine j_aloadn B d_Lp_size_40 rfl ?_
  refine j_geti B fl_Lp_102 (q_pr hf) rfl d_Lp_size_41 ?_
  exact j_iret B hr hlk d_Lp_size_44 (rfl) (rfl)
set_option maxRecDepth 100000 in
theorem ok_Lp_size_1 {l : Launch} {D : va_G} {aC : Nat → ClassId} {ad : Nat → Nat} {f : Nat} (hf : f < 6) (x : tm_M) :
    OkX l y_Lp_size b_Lp_size 4 (some .int) (rom 7 163) D aC ad [.ref (ad 0), .int (nI f), .int 1] x (some (.int (x.1 (6, f, 0) 6))) x := by
  refine ok_start (by decide) (Nat.le_of_ble_eq_true rfl) rfl ?_
  intro p e s m args below meth c B hr hlk hml
  have B : Cx p s m c args b_Lp_size R_Lp D aC (rg 111 ad) 111 ad := B
  refine j_iloadn B d_Lp_size_0 rfl ?_
  refine j_cS B (ok_Lp_requireFunction hf x) cs_Lp_requireFunction ml_Lp_67 rfl ⟨rfl, rfl, by decide, by decide⟩ ⟨Nat.zero_le _, Nat.zero_le _⟩ hml (Nat.le_of_ble_eq_true rfl) rfl d_Lp_size_1 ?_
  refine j_aloadn B d_Lp_size_4 rfl ?_
  refine j_getr B fl_Lp_33 (q_0) rfl d_Lp_size_5 ?_
  refine j_getr B fl_Lp_94 (q_34) rfl d_Lp_size_8 ?_
  refine j_iloadn B d_Lp_size_11 rfl ?_
  refine j_aald B ⟨(q_39).1, (q_39).2.1⟩ rfl (⟨rfl, hf, by decide⟩) d_Lp_size_12 ?_
  refine j_astoren B d_Lp_size_13 (by decide) ?_
  refine j_iloadn B d_Lp_size_14 rfl ?_
  refine j_tabIn (tgt := 45) (off := 30) B d_Lp_size_15 (by decide) (by decide) (by decide) (by decide) ?_
  refine j_aloadn B d_Lp_size_45 rfl ?_
  refine j_geti B fl_Lp_107 (q_pr hf) rfl d_Lp_size_46 ?_
  exact j_iret B hr hlk d_Lp_size_49 (rfl) (rfl)
set_option maxRecDepth 100000 in
theorem ok_Lp_size_2 {l : Launch} {D : va_G} {aC : Nat → ClassId} {ad : Nat → Nat} {f : Nat} (hf : f < 6) (x : tm_M) :
    OkX l y_Lp_size b_Lp_size 4 (some .int) (rom 7 163) D aC ad [.ref (ad 0), .int (nI f), .int 2] x (some (.int (x.1 (6, f, 0) 10))) x := by
  refine ok_start (by decide) (Nat.le_of_ble_eq_true rfl) rfl ?_
  intro p e s m args below meth c B hr hlk hml
  have B : Cx p s m c args b_Lp_size R_Lp D aC (rg 111 ad) 111 ad := B
  refine j_iloadn B d_Lp_size_0 rfl ?_
  refine j_cS B (ok_Lp_requireFunction hf x) cs_Lp_requireFunction ml_Lp_67 rfl ⟨rfl, rfl, by decide, by decide⟩ ⟨Nat.zero_le _, Nat.zero_le _⟩ hml (Nat.le_of_ble_eq_true rfl) rfl d_Lp_size_1 ?_
  refine j_aloadn B d_Lp_size_4 rfl ?_
  refine j_getr B fl_Lp_33 (q_0) rfl d_Lp_size_5 ?_
  refine j_getr B fl_Lp_94 (q_34) rfl d_Lp_size_8 ?_
  refine j_iloadn B d_Lp_size_11 rfl ?_
  refine j_aald B ⟨(q_39).1, (q_39).2.1⟩ rfl (⟨rfl, hf, by decide⟩) d_Lp_size_12 ?_
  refine j_astoren B d_Lp_size_13 (by decide) ?_
  refine j_iloadn B d_Lp_size_14 rfl ?_
  refine j_tabIn (tgt := 50) (off := 35) B d_Lp_size_15 (by decide) (by decide) (by decide) (by decide) ?_
  refine j_aloadn B d_Lp_size_50 rfl ?_
  refine j_geti B fl_Lp_110 (q_pr hf) rfl d_Lp_size_51 ?_
  exact j_iret B hr hlk d_Lp_size_54 (rfl) (rfl)
set_option maxRecDepth 100000 in
theorem th_Lp_size_0 {l : Launch} {D : va_G} {aC : Nat → ClassId} {ad : Nat → Nat} (htr : l.stackTraces = false) (x : tm_M) (k : Int32) (hk : ¬ (0 ≤ k ∧ k < 6)) (v : Int32) :
    ThX l y_Lp_size b_Lp_size 4 (some .int) (romT 7 163) D aC ad [.ref (ad 0), .int k, .int v] x n_iae x := by
  refine th_start (by decide) (Nat.le_of_ble_eq_true rfl) rfl ?_
  intro p e s m args below meth c B hZ hno hlk hml
  have B : Cx p s m c args b_Lp_size R_Lp D aC (rg 111 ad) 111 ad := B
  refine j_iloadn B d_Lp_size_0 rfl ?_
  exact j_pS B hZ hno hlk hml (th_Lp_requireFunction htr x k hk) cs_Lp_requireFunction ml_Lp_67 rfl ⟨rfl, rfl, by decide, by decide⟩ ⟨by decide, by decide⟩ (Nat.le_of_ble_eq_true rfl) rfl d_Lp_size_1
theorem sw02 {s : Int32} (h : s < 0 ∨ 2 < s) : s.toInt < 0 ∨ 2 < s.toInt := h.imp (fun q => by simpa [Int32.lt_iff_toInt_lt] using q) (fun q => by simpa [Int32.lt_iff_toInt_lt] using q)
theorem sw05 {s : Int32} (h : s < 0 ∨ 5 < s) : s.toInt < 0 ∨ 5 < s.toInt := h.imp (fun q => by simpa [Int32.lt_iff_toInt_lt] using q) (fun q => by simpa [Int32.lt_iff_toInt_lt] using q)
set_option maxRecDepth 100000 in
theorem th_Lp_size_1 {l : Launch} {D : va_G} {aC : Nat → ClassId} {ad : Nat → Nat} (htr : l.stackTraces = false) {f : Nat} (hf : f < 6) (x : tm_M) (v : Int32) (hv : v < 0 ∨ 2 < v) :
    ThX l y_Lp_size b_Lp_size 4 (some .int) (romT 7 163) D aC ad [.ref (ad 0), .int (nI f), .int v] x n_iae x := by
  refine th_start (by decide) (Nat.le_of_ble_eq_true rfl) rfl ?_
  intro p e s m args below meth c B hZ hno hlk hml
  have B : Cx p s m c args b_Lp_size R_Lp D aC (rg 111 ad) 111 ad := B
  refine j_iloadn B d_Lp_size_0 rfl ?_
  refine j_cS B (ok_Lp_requireFunction hf x) cs_Lp_requireFunction ml_Lp_67 rfl ⟨rfl, rfl, by decide, by decide⟩ ⟨Nat.zero_le _, Nat.zero_le _⟩ hml (Nat.le_of_ble_eq_true rfl) rfl d_Lp_size_1 ?_
  refine j_aloadn B d_Lp_size_4 rfl ?_
  refine j_getr B fl_Lp_33 (q_0) rfl d_Lp_size_5 ?_
  refine j_getr B fl_Lp_94 (q_34) rfl d_Lp_size_8 ?_
  refine j_iloadn B d_Lp_size_11 rfl ?_
  refine j_aald B ⟨(q_39).1, (q_39).2.1⟩ rfl (⟨rfl, hf, by decide⟩) d_Lp_size_12 ?_
  refine j_astoren B d_Lp_size_13 (by decide) ?_
  refine j_iloadn B d_Lp_size_14 rfl ?_
  refine j_tabOut (tgt := 55) B d_Lp_size_15 (sw02 hv) (by decide) ?_
  exact j_thr B hZ htr hno hlk hml ta_iae st_113 d_Lp_size_55 d_Lp_size_58 d_Lp_size_59 d_Lp_size_61 d_Lp_size_64 ⟨by decide, by decide, by decide, by decide⟩ (rfl)
theorem lk_01 {u : Int32} (h : ¬ (u = 0 ∨ u = 1)) : Op.lookupswitch.offset [(0, 27), (1, 34)] 41 u.toInt = 41 := by
  have h0 : ¬ (0 : Int) = u.toInt := fun q => h (Or.inl (Int32.toInt_inj.mp q.symm))
  have h1 : ¬ (1 : Int) = u.toInt := fun q => h (Or.inr (Int32.toInt_inj.mp q.symm))
  simp [Op.lookupswitch.offset, h0, h1]
set_option maxRecDepth 100000 in
theorem ok_Lp_code_0 {l : Launch} {D : va_G} {aC : Nat → ClassId} {ad : Nat → Nat} {f k a : Nat} (hf : f < 6) (x : tm_M) (ha : x.1 (6, f, 0) 2 = nI a) (hk : k < a) (hN : a ≤ 81) :
    OkX l y_Lp_code b_Lp_code 5 (some .int) (rom 7 163) D aC ad [.ref (ad 0), .int (nI f), .int (nI k), .int 0] x (some (.int (x.2 (6, f, 1) k))) x := by
  refine ok_start (by decide) (Nat.le_of_ble_eq_true rfl) rfl ?_
  intro p e s m args below meth c B hr hlk hml
  have B : Cx p s m c args b_Lp_code R_Lp D aC (rg 111 ad) 111 ad := B
  refine j_iloadn B d_Lp_code_0 rfl ?_
  refine j_cS B (ok_Lp_isFunction x (nI f)) cs_Lp_isFunction ml_Lp_115 rfl ⟨rfl, rfl, by decide, by decide⟩ ⟨Nat.zero_le _, Nat.zero_le _⟩ hml (Nat.le_of_ble_eq_true rfl) rfl d_Lp_code_1 ?_
  refine j_if_eq (tgt := 23) B d_Lp_code_4 (by decide) (fun h4 => (show False from bI_e h4 (f_is hf)).elim) (fun h4 => ?_)
  refine j_aloadn B d_Lp_code_7 rfl ?_
  refine j_getr B fl_Lp_33 (q_0) rfl d_Lp_code_8 ?_
  refine j_getr B fl_Lp_94 (q_34) rfl d_Lp_code_11 ?_
  refine j_iloadn B d_Lp_code_14 rfl ?_
  refine j_aald B ⟨(q_39).1, (q_39).2.1⟩ rfl (⟨rfl, hf, by decide⟩) d_Lp_code_15 ?_
  refine j_iloadn B d_Lp_code_16 rfl ?_
  refine j_cVt B (ok_Pr_hasInstruction hf x (nI k)) cv_Pr_hasInstruction ml_Lp_118 (q_pr hf) rfl rfl ⟨rfl, rfl, by decide, by decide⟩ ⟨Nat.zero_le _, Nat.zero_le _⟩ hml (Nat.le_of_ble_eq_true rfl) rfl d_Lp_code_17 ?_
  refine j_if_ne (tgt := 33) B d_Lp_code_20 (by decide) (fun h20 => ?_) (fun h20 => (show False from bI_e h20 ⟨nI_pos' (by omega), by rw [ha]; exact nI_lt hk (by omega)⟩).elim)
  refine j_aloadn B d_Lp_code_33 rfl ?_
  refine j_getr B fl_Lp_33 (q_0) rfl d_Lp_code_34 ?_
  refine j_getr B fl_Lp_94 (q_34) rfl d_Lp_code_37 ?_
  refine j_iloadn B d_Lp_code_40 rfl ?_
  refine j_aald B ⟨(q_39).1, (q_39).2.1⟩ rfl (⟨rfl, hf, by decide⟩) d_Lp_code_41 ?_
  refine j_astore B d_Lp_code_42 (by decide) ?_
  refine j_iloadn B d_Lp_code_44 rfl ?_
  refine j_lookup (tgt := 72) (off := 27) B d_Lp_code_45 (by decide) (by decide) (by decide) ?_
  refine j_aload B d_Lp_code_72 rfl ?_
  refine j_iloadn B d_Lp_code_74 rfl ?_
  refine j_cVt B (ok_Pr_letterAt hf x (nI k) ha hN) cv_Pr_letterAt ml_Lp_126 (q_pr hf) rfl rfl ⟨rfl, rfl, by decide, by decide⟩ ⟨Nat.zero_le _, Nat.zero_le _⟩ hml (Nat.le_of_ble_eq_true rfl) rfl d_Lp_code_75 ?_
  exact j_iret B hr hlk d_Lp_code_78 (sv (by rw [if_pos ⟨nI_pos' (by omega), by rw [ha]; exact nI_lt hk (by omega)⟩, nI_clamp (by omega)])) (rfl)
set_option maxRecDepth 100000 in
theorem ok_Lp_code_1 {l : Launch} {D : va_G} {aC : Nat → ClassId} {ad : Nat → Nat} {f k a : Nat} (hf : f < 6) (x : tm_M) (ha : x.1 (6, f, 0) 2 = nI a) (hk : k < a) (hN : a ≤ 81) :
    OkX l y_Lp_code b_Lp_code 5 (some .int) (rom 7 163) D aC ad [.ref (ad 0), .int (nI f), .int (nI k), .int 1] x (some (.int (x.2 (6, f, 2) k))) x := by
  refine ok_start (by decide) (Nat.le_of_ble_eq_true rfl) rfl ?_
  intro p e s m args below meth c B hr hlk hml
  have B : Cx p s m c args b_Lp_code R_Lp D aC (rg 111 ad) 111 ad := B
  refine j_iloadn B d_Lp_code_0 rfl ?_
  refine j_cS B (ok_Lp_isFunction x (nI f)) cs_Lp_isFunction ml_Lp_115 rfl ⟨rfl, rfl, by decide, by decide⟩ ⟨Nat.zero_le _, Nat.zero_le _⟩ hml (Nat.le_of_ble_eq_true rfl) rfl d_Lp_code_1 ?_
  refine j_if_eq (tgt := 23) B d_Lp_code_4 (by decide) (fun h4 => (show False from bI_e h4 (f_is hf)).elim) (fun h4 => ?_)
  refine j_aloadn B d_Lp_code_7 rfl ?_
  refine j_getr B fl_Lp_33 (q_0) rfl d_Lp_code_8 ?_
  refine j_getr B fl_Lp_94 (q_34) rfl d_Lp_code_11 ?_
  refine j_iloadn B d_Lp_code_14 rfl ?_
  refine j_aald B ⟨(q_39).1, (q_39).2.1⟩ rfl (⟨rfl, hf, by decide⟩) d_Lp_code_15 ?_
  refine j_iloadn B d_Lp_code_16 rfl ?_
  refine j_cVt B (ok_Pr_hasInstruction hf x (nI k)) cv_Pr_hasInstruction ml_Lp_118 (q_pr hf) rfl rfl ⟨rfl, rfl, by decide, by decide⟩ ⟨Nat.zero_le _, Nat.zero_le _⟩ hml (Nat.le_of_ble_eq_true rfl) rfl d_Lp_code_17 ?_
  refine j_if_ne (tgt := 33) B d_Lp_code_20 (by decide) (fun h20 => ?_) (fun h20 => (show False from bI_e h20 ⟨nI_pos' (by omega), by rw [ha]; exact nI_lt hk (by omega)⟩).elim)
  refine j_aloadn B d_Lp_code_33 rfl ?_
  refine j_getr B fl_Lp_33 (q_0) rfl d_Lp_code_34 ?_
  refine j_getr B fl_Lp_94 (q_34) rfl d_Lp_code_37 ?_
  refine j_iloadn B d_Lp_code_40 rfl ?_
  refine j_aald B ⟨(q_39).1, (q_39).2.1⟩ rfl (⟨rfl, hf, by decide⟩) d_Lp_code_41 ?_
  refine j_astore B d_Lp_code_42 (by decide) ?_
  refine j_iloadn B d_Lp_code_44 rfl ?_
  refine j_lookup (tgt := 79) (off := 34) B d_Lp_code_45 (by decide) (by decide) (by decide) ?_
  refine j_aload B d_Lp_code_79 rfl ?_
  refine j_iloadn B d_Lp_code_81 rfl ?_
  refine j_cVt B (ok_Pr_valueAt hf x (nI k) ha hN) cv_Pr_valueAt ml_Lp_129 (q_pr hf) rfl rfl ⟨rfl, rfl, by decide, by decide⟩ ⟨Nat.zero_le _, Nat.zero_le _⟩ hml (Nat.le_of_ble_eq_true rfl) rfl d_Lp_code_82 ?_
  exact j_iret B hr hlk d_Lp_code_85 (sv (by rw [if_pos ⟨nI_pos' (by omega), by rw [ha]; exact nI_lt hk (by omega)⟩, nI_clamp (by omega)])) (rfl)
set_option maxRecDepth 100000 in
theorem th_Lp_code_0 {l : Launch} {D : va_G} {aC : Nat → ClassId} {ad : Nat → Nat} (htr : l.stackTraces = false) (x : tm_M) (k : Int32) (hk : ¬ (0 ≤ k ∧ k < 6)) (v u : Int32) :
    ThX l y_Lp_code b_Lp_code 5 (some .int) (romT 7 163) D aC ad [.ref (ad 0), .int k, .int v, .int u] x n_nse x := by
  refine th_start (by decide) (Nat.le_of_ble_eq_true rfl) rfl ?_
  intro p e s m args below meth c B hZ hno hlk hml
  have B : Cx p s m c args b_Lp_code R_Lp D aC (rg 111 ad) 111 ad := B
  refine j_iloadn B d_Lp_code_0 rfl ?_
  refine j_cS B (ok_Lp_isFunction x k) cs_Lp_isFunction ml_Lp_115 rfl ⟨rfl, rfl, by decide, by decide⟩ ⟨Nat.zero_le _, Nat.zero_le _⟩ hml (Nat.le_of_ble_eq_true rfl) rfl d_Lp_code_1 ?_
  refine j_if_eq (tgt := 23) B d_Lp_code_4 (by decide) (fun h4 => ?_) (fun h4 => (show False from hk (bI_ne h4)).elim)
  exact j_thr B hZ htr hno hlk hml ta_nse st_123 d_Lp_code_23 d_Lp_code_26 d_Lp_code_27 d_Lp_code_29 d_Lp_code_32 ⟨by decide, by decide, by decide, by decide⟩ (rfl)
set_option maxRecDepth 100000 in
theorem th_Lp_code_1 {l : Launch} {D : va_G} {aC : Nat → ClassId} {ad : Nat → Nat} (htr : l.stackTraces = false) {f : Nat} (hf : f < 6) (x : tm_M) (v u : Int32) (hv : ¬ (0 ≤ v ∧ v < x.1 (6, f, 0) 2)) :
    ThX l y_Lp_code b_Lp_code 5 (some .int) (romT 7 163) D aC ad [.ref (ad 0), .int (nI f), .int v, .int u] x n_nse x := by
  refine th_start (by decide) (Nat.le_of_ble_eq_true rfl) rfl ?_
  intro p e s m args below meth c B hZ hno hlk hml
  have B : Cx p s m c args b_Lp_code R_Lp D aC (rg 111 ad) 111 ad := B
  refine j_iloadn B d_Lp_code_0 rfl ?_
  refine j_cS B (ok_Lp_isFunction x (nI f)) cs_Lp_isFunction ml_Lp_115 rfl ⟨rfl, rfl, by decide, by decide⟩ ⟨Nat.zero_le _, Nat.zero_le _⟩ hml (Nat.le_of_ble_eq_true rfl) rfl d_Lp_code_1 ?_
  refine j_if_eq (tgt := 23) B d_Lp_code_4 (by decide) (fun h4 => (show False from bI_e h4 (f_is hf)).elim) (fun h4 => ?_)
  refine j_aloadn B d_Lp_code_7 rfl ?_
  refine j_getr B fl_Lp_33 (q_0) rfl d_Lp_code_8 ?_
  refine j_getr B fl_Lp_94 (q_34) rfl d_Lp_code_11 ?_
  refine j_iloadn B d_Lp_code_14 rfl ?_
  refine j_aald B ⟨(q_39).1, (q_39).2.1⟩ rfl (⟨rfl, hf, by decide⟩) d_Lp_code_15 ?_
  refine j_iloadn B d_Lp_code_16 rfl ?_
  refine j_cVt B (ok_Pr_hasInstruction hf x v) cv_Pr_hasInstruction ml_Lp_118 (q_pr hf) rfl rfl ⟨rfl, rfl, by decide, by decide⟩ ⟨Nat.zero_le _, Nat.zero_le _⟩ hml (Nat.le_of_ble_eq_true rfl) rfl d_Lp_code_17 ?_
  refine j_if_ne (tgt := 33) B d_Lp_code_20 (by decide) (fun h20 => (show False from hv (bI_ne h20)).elim) (fun h20 => ?_)
  exact j_thr B hZ htr hno hlk hml ta_nse st_123 d_Lp_code_23 d_Lp_code_26 d_Lp_code_27 d_Lp_code_29 d_Lp_code_32 ⟨by decide, by decide, by decide, by decide⟩ (rfl)
set_option maxRecDepth 100000 in
theorem th_Lp_code_2 {l : Launch} {D : va_G} {aC : Nat → ClassId} {ad : Nat → Nat} (htr : l.stackTraces = false) {f : Nat} (hf : f < 6) (x : tm_M) (v u : Int32) (hv : 0 ≤ v ∧ v < x.1 (6, f, 0) 2) (hu : ¬ (u = 0 ∨ u = 1)) :
    ThX l y_Lp_code b_Lp_code 5 (some .int) (romT 7 163) D aC ad [.ref (ad 0), .int (nI f), .int v, .int u] x n_nse x := by
  refine th_start (by decide) (Nat.le_of_ble_eq_true rfl) rfl ?_
  intro p e s m args below meth c B hZ hno hlk hml
  have B : Cx p s m c args b_Lp_code R_Lp D aC (rg 111 ad) 111 ad := B
  refine j_iloadn B d_Lp_code_0 rfl ?_
  refine j_cS B (ok_Lp_isFunction x (nI f)) cs_Lp_isFunction ml_Lp_115 rfl ⟨rfl, rfl, by decide, by decide⟩ ⟨Nat.zero_le _, Nat.zero_le _⟩ hml (Nat.le_of_ble_eq_true rfl) rfl d_Lp_code_1 ?_
  refine j_if_eq (tgt := 23) B d_Lp_code_4 (by decide) (fun h4 => (show False from bI_e h4 (f_is hf)).elim) (fun h4 => ?_)
  refine j_aloadn B d_Lp_code_7 rfl ?_
  refine j_getr B fl_Lp_33 (q_0) rfl d_Lp_code_8 ?_
  refine j_getr B fl_Lp_94 (q_34) rfl d_Lp_code_11 ?_
  refine j_iloadn B d_Lp_code_14 rfl ?_
  refine j_aald B ⟨(q_39).1, (q_39).2.1⟩ rfl (⟨rfl, hf, by decide⟩) d_Lp_code_15 ?_
  refine j_iloadn B d_Lp_code_16 rfl ?_
  refine j_cVt B (ok_Pr_hasInstruction hf x v) cv_Pr_hasInstruction ml_Lp_118 (q_pr hf) rfl rfl ⟨rfl, rfl, by decide, by decide⟩ ⟨Nat.zero_le _, Nat.zero_le _⟩ hml (Nat.le_of_ble_eq_true rfl) rfl d_Lp_code_17 ?_
  refine j_if_ne (tgt := 33) B d_Lp_code_20 (by decide) (fun h20 => ?_) (fun h20 => (show False from bI_e h20 hv).elim)
  refine j_aloadn B d_Lp_code_33 rfl ?_
  refine j_getr B fl_Lp_33 (q_0) rfl d_Lp_code_34 ?_
  refine j_getr B fl_Lp_94 (q_34) rfl d_Lp_code_37 ?_
  refine j_iloadn B d_Lp_code_40 rfl ?_
  refine j_aald B ⟨(q_39).1, (q_39).2.1⟩ rfl (⟨rfl, hf, by decide⟩) d_Lp_code_41 ?_
  refine j_astore B d_Lp_code_42 (by decide) ?_
  refine j_iloadn B d_Lp_code_44 rfl ?_
  refine j_lookup (tgt := 86) (off := 41) B d_Lp_code_45 (by decide) (lk_01 hu) (by decide) ?_
  exact j_thr B hZ htr hno hlk hml ta_nse st_132 d_Lp_code_86 d_Lp_code_89 d_Lp_code_90 d_Lp_code_92 d_Lp_code_95 ⟨by decide, by decide, by decide, by decide⟩ (rfl)
set_option maxRecDepth 100000 in
theorem ok_Lp_action_0 {l : Launch} {D : va_G} {aC : Nat → ClassId} {ad : Nat → Nat} {f k a : Nat} (hf : f < 6) (x : tm_M) (ha : x.1 (6, f, 0) 6 = nI a) (hk : k < a) (hN : a ≤ 40) :
    OkX l y_Lp_action b_Lp_action 5 (some .int) (rom 7 163) D aC ad [.ref (ad 0), .int (nI f), .int (nI k), .int 0] x (some (.int (x.2 (6, f, 3) k))) x := by
  refine ok_start (by decide) (Nat.le_of_ble_eq_true rfl) rfl ?_
  intro p e s m args below meth c B hr hlk hml
  have B : Cx p s m c args b_Lp_action R_Lp D aC (rg 111 ad) 111 ad := B
  refine j_iloadn B d_Lp_action_0 rfl ?_
  refine j_cS B (ok_Lp_isFunction x (nI f)) cs_Lp_isFunction ml_Lp_115 rfl ⟨rfl, rfl, by decide, by decide⟩ ⟨Nat.zero_le _, Nat.zero_le _⟩ hml (Nat.le_of_ble_eq_true rfl) rfl d_Lp_action_1 ?_
  refine j_if_eq (tgt := 23) B d_Lp_action_4 (by decide) (fun h4 => (show False from bI_e h4 (f_is hf)).elim) (fun h4 => ?_)
  refine j_aloadn B d_Lp_action_7 rfl ?_
  refine j_getr B fl_Lp_33 (q_0) rfl d_Lp_action_8 ?_
  refine j_getr B fl_Lp_94 (q_34) rfl d_Lp_action_11 ?_
  refine j_iloadn B d_Lp_action_14 rfl ?_
  refine j_aald B ⟨(q_39).1, (q_39).2.1⟩ rfl (⟨rfl, hf, by decide⟩) d_Lp_action_15 ?_
  refine j_iloadn B d_Lp_action_16 rfl ?_
  refine j_cVt B (ok_Pr_hasAction hf x (nI k)) cv_Pr_hasAction ml_Lp_134 (q_pr hf) rfl rfl ⟨rfl, rfl, by decide, by decide⟩ ⟨Nat.zero_le _, Nat.zero_le _⟩ hml (Nat.le_of_ble_eq_true rfl) rfl d_Lp_action_17 ?_
  refine j_if_ne (tgt := 33) B d_Lp_action_20 (by decide) (fun h20 => ?_) (fun h20 => (show False from bI_e h20 ⟨nI_pos' (by omega), by rw [ha]; exact nI_lt hk (by omega)⟩).elim)
  refine j_aloadn B d_Lp_action_33 rfl ?_
  refine j_getr B fl_Lp_33 (q_0) rfl d_Lp_action_34 ?_
  refine j_getr B fl_Lp_94 (q_34) rfl d_Lp_action_37 ?_
  refine j_iloadn B d_Lp_action_40 rfl ?_
  refine j_aald B ⟨(q_39).1, (q_39).2.1⟩ rfl (⟨rfl, hf, by decide⟩) d_Lp_action_41 ?_
  refine j_astore B d_Lp_action_42 (by decide) ?_
  refine j_iloadn B d_Lp_action_44 rfl ?_
  refine j_tabIn (tgt := 72) (off := 27) B d_Lp_action_45 (by decide) (by decide) (by decide) (by decide) ?_
  refine j_aload B d_Lp_action_72 rfl ?_
  refine j_iloadn B d_Lp_action_74 rfl ?_
  refine j_cVt B (ok_Pr_filterOf hf x (nI k) ha hN) cv_Pr_filterOf ml_Lp_139 (q_pr hf) rfl rfl ⟨rfl, rfl, by decide, by decide⟩ ⟨Nat.zero_le _, Nat.zero_le _⟩ hml (Nat.le_of_ble_eq_true rfl) rfl d_Lp_action_75 ?_
  exact j_iret B hr hlk d_Lp_action_78 (sv (by rw [if_pos ⟨nI_pos' (by omega), by rw [ha]; exact nI_lt hk (by omega)⟩, nI_clamp (by omega)])) (rfl)
set_option maxRecDepth 100000 in
theorem ok_Lp_action_1 {l : Launch} {D : va_G} {aC : Nat → ClassId} {ad : Nat → Nat} {f k a : Nat} (hf : f < 6) (x : tm_M) (ha : x.1 (6, f, 0) 6 = nI a) (hk : k < a) (hN : a ≤ 40) :
    OkX l y_Lp_action b_Lp_action 5 (some .int) (rom 7 163) D aC ad [.ref (ad 0), .int (nI f), .int (nI k), .int 1] x (some (.int (x.2 (6, f, 4) k))) x := by
  refine ok_start (by decide) (Nat.le_of_ble_eq_true rfl) rfl ?_
  intro p e s m args below meth c B hr hlk hml
  have B : Cx p s m c args b_Lp_action R_Lp D aC (rg 111 ad) 111 ad := B
  refine j_iloadn B d_Lp_action_0 rfl ?_
  refine j_cS B (ok_Lp_isFunction x (nI f)) cs_Lp_isFunction ml_Lp_115 rfl ⟨rfl, rfl, by decide, by decide⟩ ⟨Nat.zero_le _, Nat.zero_le _⟩ hml (Nat.le_of_ble_eq_true rfl) rfl d_Lp_action_1 ?_
  refine j_if_eq (tgt := 23) B d_Lp_action_4 (by decide) (fun h4 => (show False from bI_e h4 (f_is hf)).elim) (fun h4 => ?_)
  refine j_aloadn B d_Lp_action_7 rfl ?_
  refine j_getr B fl_Lp_33 (q_0) rfl d_Lp_action_8 ?_
  refine j_getr B fl_Lp_94 (q_34) rfl d_Lp_action_11 ?_
  refine j_iloadn B d_Lp_action_14 rfl ?_
  refine j_aald B ⟨(q_39).1, (q_39).2.1⟩ rfl (⟨rfl, hf, by decide⟩) d_Lp_action_15 ?_
  refine j_iloadn B d_Lp_action_16 rfl ?_
  refine j_cVt B (ok_Pr_hasAction hf x (nI k)) cv_Pr_hasAction ml_Lp_134 (q_pr hf) rfl rfl ⟨rfl, rfl, by decide, by decide⟩ ⟨Nat.zero_le _, Nat.zero_le _⟩ hml (Nat.le_of_ble_eq_true rfl) rfl d_Lp_action_17 ?_
  refine j_if_ne (tgt := 33) B d_Lp_action_20 (by decide) (fun h20 => ?_) (fun h20 => (show False from bI_e h20 ⟨nI_pos' (by omega), by rw [ha]; exact nI_lt hk (by omega)⟩).elim)
  refine j_aloadn B d_Lp_action_33 rfl ?_
  refine j_getr B fl_Lp_33 (q_0) rfl d_Lp_action_34 ?_
  refine j_getr B fl_Lp_94 (q_34) rfl d_Lp_action_37 ?_
  refine j_iloadn B d_Lp_action_40 rfl ?_
  refine j_aald B ⟨(q_39).1, (q_39).2.1⟩ rfl (⟨rfl, hf, by decide⟩) d_Lp_action_41 ?_
  refine j_astore B d_Lp_action_42 (by decide) ?_
  refine j_iloadn B d_Lp_action_44 rfl ?_
  refine j_tabIn (tgt := 79) (off := 34) B d_Lp_action_45 (by decide) (by decide) (by decide) (by decide) ?_
  refine j_aload B d_Lp_action_79 rfl ?_
  refine j_iloadn B d_Lp_action_81 rfl ?_
  refine j_cVt B (ok_Pr_landingOf hf x (nI k) ha hN) cv_Pr_landingOf ml_Lp_142 (q_pr hf) rfl rfl ⟨rfl, rfl, by decide, by decide⟩ ⟨Nat.zero_le _, Nat.zero_le _⟩ hml (Nat.le_of_ble_eq_true rfl) rfl d_Lp_action_82 ?_
  exact j_iret B hr hlk d_Lp_action_85 (sv (by rw [if_pos ⟨nI_pos' (by omega), by rw [ha]; exact nI_lt hk (by omega)⟩, nI_clamp (by omega)])) (rfl)
set_option maxRecDepth 100000 in
theorem ok_Lp_action_2 {l : Launch} {D : va_G} {aC : Nat → ClassId} {ad : Nat → Nat} {f k a : Nat} (hf : f < 6) (x : tm_M) (ha : x.1 (6, f, 0) 6 = nI a) (hk : k < a) (hN : a ≤ 40) :
    OkX l y_Lp_action b_Lp_action 5 (some .int) (rom 7 163) D aC ad [.ref (ad 0), .int (nI f), .int (nI k), .int 2] x (some (.int (x.2 (6, f, 5) k))) x := by
  refine ok_start (by decide) (Nat.le_of_ble_eq_true rfl) rfl ?_
  intro p e s m args below meth c B hr hlk hml
  have B : Cx p s m c args b_Lp_action R_Lp D aC (rg 111 ad) 111 ad := B
  refine j_iloadn B d_Lp_action_0 rfl ?_
  refine j_cS B (ok_Lp_isFunction x (nI f)) cs_Lp_isFunction ml_Lp_115 rfl ⟨rfl, rfl, by decide, by decide⟩ ⟨Nat.zero_le _, Nat.zero_le _⟩ hml (Nat.le_of_ble_eq_true rfl) rfl d_Lp_action_1 ?_
  refine j_if_eq (tgt := 23) B d_Lp_action_4 (by decide) (fun h4 => (show False from bI_e h4 (f_is hf)).elim) (fun h4 => ?_)
  refine j_aloadn B d_Lp_action_7 rfl ?_
  refine j_getr B fl_Lp_33 (q_0) rfl d_Lp_action_8 ?_
  refine j_getr B fl_Lp_94 (q_34) rfl d_Lp_action_11 ?_
  refine j_iloadn B d_Lp_action_14 rfl ?_
  refine j_aald B ⟨(q_39).1, (q_39).2.1⟩ rfl (⟨rfl, hf, by decide⟩) d_Lp_action_15 ?_
  refine j_iloadn B d_Lp_action_16 rfl ?_
  refine j_cVt B (ok_Pr_hasAction hf x (nI k)) cv_Pr_hasAction ml_Lp_134 (q_pr hf) rfl rfl ⟨rfl, rfl, by decide, by decide⟩ ⟨Nat.zero_le _, Nat.zero_le _⟩ hml (Nat.le_of_ble_eq_true rfl) rfl d_Lp_action_17 ?_
  refine j_if_ne (tgt := 33) B d_Lp_action_20 (by decide) (fun h20 => ?_) (fun h20 => (show False from bI_e h20 ⟨nI_pos' (by omega), by rw [ha]; exact nI_lt hk (by omega)⟩).elim)
  refine j_aloadn B d_Lp_action_33 rfl ?_
  refine j_getr B fl_Lp_33 (q_0) rfl d_Lp_action_34 ?_
  refine j_getr B fl_Lp_94 (q_34) rfl d_Lp_action_37 ?_
  refine j_iloadn B d_Lp_action_40 rfl ?_
  refine j_aald B ⟨(q_39).1, (q_39).2.1⟩ rfl (⟨rfl, hf, by decide⟩) d_Lp_action_41 ?_
  refine j_astore B d_Lp_action_42 (by decide) ?_
  refine j_iloadn B d_Lp_action_44 rfl ?_
  refine j_tabIn (tgt := 86) (off := 41) B d_Lp_action_45 (by decide) (by decide) (by decide) (by decide) ?_
  refine j_aload B d_Lp_action_86 rfl ?_
  refine j_iloadn B d_Lp_action_88 rfl ?_
  refine j_cVt B (ok_Pr_nextOf hf x (nI k) ha hN) cv_Pr_nextOf ml_Lp_145 (q_pr hf) rfl rfl ⟨rfl, rfl, by decide, by decide⟩ ⟨Nat.zero_le _, Nat.zero_le _⟩ hml (Nat.le_of_ble_eq_true rfl) rfl d_Lp_action_89 ?_
  exact j_iret B hr hlk d_Lp_action_92 (sv (by rw [if_pos ⟨nI_pos' (by omega), by rw [ha]; exact nI_lt hk (by omega)⟩, nI_clamp (by omega)])) (rfl)
set_option maxRecDepth 100000 in
theorem th_Lp_action_0 {l : Launch} {D : va_G} {aC : Nat → ClassId} {ad : Nat → Nat} (htr : l.stackTraces = false) (x : tm_M) (k : Int32) (hk : ¬ (0 ≤ k ∧ k < 6)) (v u : Int32) :
    ThX l y_Lp_action b_Lp_action 5 (some .int) (romT 7 163) D aC ad [.ref (ad 0), .int k, .int v, .int u] x n_nse x := by
  refine th_start (by decide) (Nat.le_of_ble_eq_true rfl) rfl ?_
  intro p e s m args below meth c B hZ hno hlk hml
  have B : Cx p s m c args b_Lp_action R_Lp D aC (rg 111 ad) 111 ad := B
  refine j_iloadn B d_Lp_action_0 rfl ?_
  refine j_cS B (ok_Lp_isFunction x k) cs_Lp_isFunction ml_Lp_115 rfl ⟨rfl, rfl, by decide, by decide⟩ ⟨Nat.zero_le _, Nat.zero_le _⟩ hml (Nat.le_of_ble_eq_true rfl) rfl d_Lp_action_1 ?_
  refine j_if_eq (tgt := 23) B d_Lp_action_4 (by decide) (fun h4 => ?_) (fun h4 => (show False from hk (bI_ne h4)).elim)
  exact j_thr B hZ htr hno hlk hml ta_nse st_137 d_Lp_action_23 d_Lp_action_26 d_Lp_action_27 d_Lp_action_29 d_Lp_action_32 ⟨by decide, by decide, by decide, by decide⟩ (rfl)
set_option maxRecDepth 100000 in
theorem th_Lp_action_1 {l : Launch} {D : va_G} {aC : Nat → ClassId} {ad : Nat → Nat} (htr : l.stackTraces = false) {f : Nat} (hf : f < 6) (x : tm_M) (v u : Int32) (hv : ¬ (0 ≤ v ∧ v < x.1 (6, f, 0) 6)) :
    ThX l y_Lp_action b_Lp_action 5 (some .int) (romT 7 163) D aC ad [.ref (ad 0), .int (nI f), .int v, .int u] x n_nse x := by
  refine th_start (by decide) (Nat.le_of_ble_eq_true rfl) rfl ?_
  intro p e s m args below meth c B hZ hno hlk hml
  have B : Cx p s m c args b_Lp_action R_Lp D aC (rg 111 ad) 111 ad := B
  refine j_iloadn B d_Lp_action_0 rfl ?_
  refine j_cS B (ok_Lp_isFunction x (nI f)) cs_Lp_isFunction ml_Lp_115 rfl ⟨rfl, rfl, by decide, by decide⟩ ⟨Nat.zero_le _, Nat.zero_le _⟩ hml (Nat.le_of_ble_eq_true rfl) rfl d_Lp_action_1 ?_
  refine j_if_eq (tgt := 23) B d_Lp_action_4 (by decide) (fun h4 => (show False from bI_e h4 (f_is hf)).elim) (fun h4 => ?_)
  refine j_aloadn B d_Lp_action_7 rfl ?_
  refine j_getr B fl_Lp_33 (q_0) rfl d_Lp_action_8 ?_
  refine j_getr B fl_Lp_94 (q_34) rfl d_Lp_action_11 ?_
  refine j_iloadn B d_Lp_action_14 rfl ?_
  refine j_aald B ⟨(q_39).1, (q_39).2.1⟩ rfl (⟨rfl, hf, by decide⟩) d_Lp_action_15 ?_
  refine j_iloadn B d_Lp_action_16 rfl ?_
  refine j_cVt B (ok_Pr_hasAction hf x v) cv_Pr_hasAction ml_Lp_134 (q_pr hf) rfl rfl ⟨rfl, rfl, by decide, by decide⟩ ⟨Nat.zero_le _, Nat.zero_le _⟩ hml (Nat.le_of_ble_eq_true rfl) rfl d_Lp_action_17 ?_
  refine j_if_ne (tgt := 33) B d_Lp_action_20 (by decide) (fun h20 => (show False from hv (bI_ne h20)).elim) (fun h20 => ?_)
  exact j_thr B hZ htr hno hlk hml ta_nse st_137 d_Lp_action_23 d_Lp_action_26 d_Lp_action_27 d_Lp_action_29 d_Lp_action_32 ⟨by decide, by decide, by decide, by decide⟩ (rfl)
set_option maxRecDepth 100000 in
theorem th_Lp_action_2 {l : Launch} {D : va_G} {aC : Nat → ClassId} {ad : Nat → Nat} (htr : l.stackTraces = false) {f : Nat} (hf : f < 6) (x : tm_M) (v u : Int32) (hv : 0 ≤ v ∧ v < x.1 (6, f, 0) 6) (hu : u < 0 ∨ 2 < u) :
    ThX l y_Lp_action b_Lp_action 5 (some .int) (romT 7 163) D aC ad [.ref (ad 0), .int (nI f), .int v, .int u] x n_nse x := by
  refine th_start (by decide) (Nat.le_of_ble_eq_true rfl) rfl ?_
  intro p e s m args below meth c B hZ hno hlk hml
  have B : Cx p s m c args b_Lp_action R_Lp D aC (rg 111 ad) 111 ad := B
  refine j_iloadn B d_Lp_action_0 rfl ?_
  refine j_cS B (ok_Lp_isFunction x (nI f)) cs_Lp_isFunction ml_Lp_115 rfl ⟨rfl, rfl, by decide, by decide⟩ ⟨Nat.zero_le _, Nat.zero_le _⟩ hml (Nat.le_of_ble_eq_true rfl) rfl d_Lp_action_1 ?_
  refine j_if_eq (tgt := 23) B d_Lp_action_4 (by decide) (fun h4 => (show False from bI_e h4 (f_is hf)).elim) (fun h4 => ?_)
  refine j_aloadn B d_Lp_action_7 rfl ?_
  refine j_getr B fl_Lp_33 (q_0) rfl d_Lp_action_8 ?_
  refine j_getr B fl_Lp_94 (q_34) rfl d_Lp_action_11 ?_
  refine j_iloadn B d_Lp_action_14 rfl ?_
  refine j_aald B ⟨(q_39).1, (q_39).2.1⟩ rfl (⟨rfl, hf, by decide⟩) d_Lp_action_15 ?_
  refine j_iloadn B d_Lp_action_16 rfl ?_
  refine j_cVt B (ok_Pr_hasAction hf x v) cv_Pr_hasAction ml_Lp_134 (q_pr hf) rfl rfl ⟨rfl, rfl, by decide, by decide⟩ ⟨Nat.zero_le _, Nat.zero_le _⟩ hml (Nat.le_of_ble_eq_true rfl) rfl d_Lp_action_17 ?_
  refine j_if_ne (tgt := 33) B d_Lp_action_20 (by decide) (fun h20 => ?_) (fun h20 => (show False from bI_e h20 hv).elim)
  refine j_aloadn B d_Lp_action_33 rfl ?_
  refine j_getr B fl_Lp_33 (q_0) rfl d_Lp_action_34 ?_
  refine j_getr B fl_Lp_94 (q_34) rfl d_Lp_action_37 ?_
  refine j_iloadn B d_Lp_action_40 rfl ?_
  refine j_aald B ⟨(q_39).1, (q_39).2.1⟩ rfl (⟨rfl, hf, by decide⟩) d_Lp_action_41 ?_
  refine j_astore B d_Lp_action_42 (by decide) ?_
  refine j_iloadn B d_Lp_action_44 rfl ?_
  refine j_tabOut (tgt := 93) B d_Lp_action_45 (sw02 hu) (by decide) ?_
  exact j_thr B hZ htr hno hlk hml ta_nse st_148 d_Lp_action_93 d_Lp_action_96 d_Lp_action_97 d_Lp_action_99 d_Lp_action_102 ⟨by decide, by decide, by decide, by decide⟩ (rfl)
set_option maxRecDepth 100000 in
theorem ok_Lp_site_0 {l : Launch} {D : va_G} {aC : Nat → ClassId} {ad : Nat → Nat} {f k a : Nat} (hf : f < 6) (x : tm_M) (ha : x.1 (6, f, 0) 10 = nI a) (hk : k < a) (hN : a ≤ 20) :
    OkX l y_Lp_site b_Lp_site 5 (some .int) (rom 7 163) D aC ad [.ref (ad 0), .int (nI f), .int (nI k), .int 0] x (some (.int (x.2 (6, f, 6) k))) x := by
  refine ok_start (by decide) (Nat.le_of_ble_eq_true rfl) rfl ?_
  intro p e s m args below meth c B hr hlk hml
  have B : Cx p s m c args b_Lp_site R_Lp D aC (rg 111 ad) 111 ad := B
  refine j_iloadn B d_Lp_site_0 rfl ?_
  refine j_cS B (ok_Lp_isFunction x (nI f)) cs_Lp_isFunction ml_Lp_115 rfl ⟨rfl, rfl, by decide, by decide⟩ ⟨Nat.zero_le _, Nat.zero_le _⟩ hml (Nat.le_of_ble_eq_true rfl) rfl d_Lp_site_1 ?_
  refine j_if_eq (tgt := 23) B d_Lp_site_4 (by decide) (fun h4 => (show False from bI_e h4 (f_is hf)).elim) (fun h4 => ?_)
  refine j_aloadn B d_Lp_site_7 rfl ?_
  refine j_getr B fl_Lp_33 (q_0) rfl d_Lp_site_8 ?_
  refine j_getr B fl_Lp_94 (q_34) rfl d_Lp_site_11 ?_
  refine j_iloadn B d_Lp_site_14 rfl ?_
  refine j_aald B ⟨(q_39).1, (q_39).2.1⟩ rfl (⟨rfl, hf, by decide⟩) d_Lp_site_15 ?_
  refine j_iloadn B d_Lp_site_16 rfl ?_
  refine j_cVt B (ok_Pr_hasSite hf x (nI k)) cv_Pr_hasSite ml_Lp_150 (q_pr hf) rfl rfl ⟨rfl, rfl, by decide, by decide⟩ ⟨Nat.zero_le _, Nat.zero_le _⟩ hml (Nat.le_of_ble_eq_true rfl) rfl d_Lp_site_17 ?_
  refine j_if_ne (tgt := 33) B d_Lp_site_20 (by decide) (fun h20 => ?_) (fun h20 => (show False from bI_e h20 ⟨nI_pos' (by omega), by rw [ha]; exact nI_lt hk (by omega)⟩).elim)
  refine j_aloadn B d_Lp_site_33 rfl ?_
  refine j_getr B fl_Lp_33 (q_0) rfl d_Lp_site_34 ?_
  refine j_getr B fl_Lp_94 (q_34) rfl d_Lp_site_37 ?_
  refine j_iloadn B d_Lp_site_40 rfl ?_
  refine j_aald B ⟨(q_39).1, (q_39).2.1⟩ rfl (⟨rfl, hf, by decide⟩) d_Lp_site_41 ?_
  refine j_astore B d_Lp_site_42 (by decide) ?_
  refine j_iloadn B d_Lp_site_44 rfl ?_
  refine j_tabIn (tgt := 72) (off := 27) B d_Lp_site_45 (by decide) (by decide) (by decide) (by decide) ?_
  refine j_aload B d_Lp_site_72 rfl ?_
  refine j_iloadn B d_Lp_site_74 rfl ?_
  refine j_cVt B (ok_Pr_firstPlaceOf hf x (nI k) ha hN) cv_Pr_firstPlaceOf ml_Lp_155 (q_pr hf) rfl rfl ⟨rfl, rfl, by decide, by decide⟩ ⟨Nat.zero_le _, Nat.zero_le _⟩ hml (Nat.le_of_ble_eq_true rfl) rfl d_Lp_site_75 ?_
  exact j_iret B hr hlk d_Lp_site_78 (sv (by rw [if_pos ⟨nI_pos' (by omega), by rw [ha]; exact nI_lt hk (by omega)⟩, nI_clamp (by omega)])) (rfl)
set_option maxRecDepth 100000 in
theorem ok_Lp_site_1 {l : Launch} {D : va_G} {aC : Nat → ClassId} {ad : Nat → Nat} {f k a : Nat} (hf : f < 6) (x : tm_M) (ha : x.1 (6, f, 0) 10 = nI a) (hk : k < a) (hN : a ≤ 20) :
    OkX l y_Lp_site b_Lp_site 5 (some .int) (rom 7 163) D aC ad [.ref (ad 0), .int (nI f), .int (nI k), .int 1] x (some (.int (x.2 (6, f, 7) k))) x := by
  refine ok_start (by decide) (Nat.le_of_ble_eq_true rfl) rfl ?_
  intro p e s m args below meth c B hr hlk hml
  have B : Cx p s m c args b_Lp_site R_Lp D aC (rg 111 ad) 111 ad := B
  refine j_iloadn B d_Lp_site_0 rfl ?_
  refine j_cS B (ok_Lp_isFunction x (nI f)) cs_Lp_isFunction ml_Lp_115 rfl ⟨rfl, rfl, by decide, by decide⟩ ⟨Nat.zero_le _, Nat.zero_le _⟩ hml (Nat.le_of_ble_eq_true rfl) rfl d_Lp_site_1 ?_
  refine j_if_eq (tgt := 23) B d_Lp_site_4 (by decide) (fun h4 => (show False from bI_e h4 (f_is hf)).elim) (fun h4 => ?_)
  refine j_aloadn B d_Lp_site_7 rfl ?_
  refine j_getr B fl_Lp_33 (q_0) rfl d_Lp_site_8 ?_
  refine j_getr B fl_Lp_94 (q_34) rfl d_Lp_site_11 ?_
  refine j_iloadn B d_Lp_site_14 rfl ?_
  refine j_aald B ⟨(q_39).1, (q_39).2.1⟩ rfl (⟨rfl, hf, by decide⟩) d_Lp_site_15 ?_
  refine j_iloadn B d_Lp_site_16 rfl ?_
  refine j_cVt B (ok_Pr_hasSite hf x (nI k)) cv_Pr_hasSite ml_Lp_150 (q_pr hf) rfl rfl ⟨rfl, rfl, by decide, by decide⟩ ⟨Nat.zero_le _, Nat.zero_le _⟩ hml (Nat.le_of_ble_eq_true rfl) rfl d_Lp_site_17 ?_
  refine j_if_ne (tgt := 33) B d_Lp_site_20 (by decide) (fun h20 => ?_) (fun h20 => (show False from bI_e h20 ⟨nI_pos' (by omega), by rw [ha]; exact nI_lt hk (by omega)⟩).elim)
  refine j_aloadn B d_Lp_site_33 rfl ?_
  refine j_getr B fl_Lp_33 (q_0) rfl d_Lp_site_34 ?_
  refine j_getr B fl_Lp_94 (q_34) rfl d_Lp_site_37 ?_
  refine j_iloadn B d_Lp_site_40 rfl ?_
  refine j_aald B ⟨(q_39).1, (q_39).2.1⟩ rfl (⟨rfl, hf, by decide⟩) d_Lp_site_41 ?_
  refine j_astore B d_Lp_site_42 (by decide) ?_
  refine j_iloadn B d_Lp_site_44 rfl ?_
  refine j_tabIn (tgt := 79) (off := 34) B d_Lp_site_45 (by decide) (by decide) (by decide) (by decide) ?_
  refine j_aload B d_Lp_site_79 rfl ?_
  refine j_iloadn B d_Lp_site_81 rfl ?_
  refine j_cVt B (ok_Pr_lastPlaceOf hf x (nI k) ha hN) cv_Pr_lastPlaceOf ml_Lp_158 (q_pr hf) rfl rfl ⟨rfl, rfl, by decide, by decide⟩ ⟨Nat.zero_le _, Nat.zero_le _⟩ hml (Nat.le_of_ble_eq_true rfl) rfl d_Lp_site_82 ?_
  exact j_iret B hr hlk d_Lp_site_85 (sv (by rw [if_pos ⟨nI_pos' (by omega), by rw [ha]; exact nI_lt hk (by omega)⟩, nI_clamp (by omega)])) (rfl)
set_option maxRecDepth 100000 in
theorem ok_Lp_site_2 {l : Launch} {D : va_G} {aC : Nat → ClassId} {ad : Nat → Nat} {f k a : Nat} (hf : f < 6) (x : tm_M) (ha : x.1 (6, f, 0) 10 = nI a) (hk : k < a) (hN : a ≤ 20) :
    OkX l y_Lp_site b_Lp_site 5 (some .int) (rom 7 163) D aC ad [.ref (ad 0), .int (nI f), .int (nI k), .int 2] x (some (.int (x.2 (6, f, 8) k))) x := by
  refine ok_start (by decide) (Nat.le_of_ble_eq_true rfl) rfl ?_
  intro p e s m args below meth c B hr hlk hml
  have B : Cx p s m c args b_Lp_site R_Lp D aC (rg 111 ad) 111 ad := B
  refine j_iloadn B d_Lp_site_0 rfl ?_
  refine j_cS B (ok_Lp_isFunction x (nI f)) cs_Lp_isFunction ml_Lp_115 rfl ⟨rfl, rfl, by decide, by decide⟩ ⟨Nat.zero_le _, Nat.zero_le _⟩ hml (Nat.le_of_ble_eq_true rfl) rfl d_Lp_site_1 ?_
  refine j_if_eq (tgt := 23) B d_Lp_site_4 (by decide) (fun h4 => (show False from bI_e h4 (f_is hf)).elim) (fun h4 => ?_)
  refine j_aloadn B d_Lp_site_7 rfl ?_
  refine j_getr B fl_Lp_33 (q_0) rfl d_Lp_site_8 ?_
  refine j_getr B fl_Lp_94 (q_34) rfl d_Lp_site_11 ?_
  refine j_iloadn B d_Lp_site_14 rfl ?_
  refine j_aald B ⟨(q_39).1, (q_39).2.1⟩ rfl (⟨rfl, hf, by decide⟩) d_Lp_site_15 ?_
  refine j_iloadn B d_Lp_site_16 rfl ?_
  refine j_cVt B (ok_Pr_hasSite hf x (nI k)) cv_Pr_hasSite ml_Lp_150 (q_pr hf) rfl rfl ⟨rfl, rfl, by decide, by decide⟩ ⟨Nat.zero_le _, Nat.zero_le _⟩ hml (Nat.le_of_ble_eq_true rfl) rfl d_Lp_site_17 ?_
  refine j_if_ne (tgt := 33) B d_Lp_site_20 (by decide) (fun h20 => ?_) (fun h20 => (show False from bI_e h20 ⟨nI_pos' (by omega), by rw [ha]; exact nI_lt hk (by omega)⟩).elim)
  refine j_aloadn B d_Lp_site_33 rfl ?_
  refine j_getr B fl_Lp_33 (q_0) rfl d_Lp_site_34 ?_
  refine j_getr B fl_Lp_94 (q_34) rfl d_Lp_site_37 ?_
  refine j_iloadn B d_Lp_site_40 rfl ?_
  refine j_aald B ⟨(q_39).1, (q_39).2.1⟩ rfl (⟨rfl, hf, by decide⟩) d_Lp_site_41 ?_
  refine j_astore B d_Lp_site_42 (by decide) ?_
  refine j_iloadn B d_Lp_site_44 rfl ?_
  refine j_tabIn (tgt := 86) (off := 41) B d_Lp_site_45 (by decide) (by decide) (by decide) (by decide) ?_
  refine j_aload B d_Lp_site_86 rfl ?_
  refine j_iloadn B d_Lp_site_88 rfl ?_
  refine j_cVt B (ok_Pr_siteHeadOf hf x (nI k) ha hN) cv_Pr_siteHeadOf ml_Lp_161 (q_pr hf) rfl rfl ⟨rfl, rfl, by decide, by decide⟩ ⟨Nat.zero_le _, Nat.zero_le _⟩ hml (Nat.le_of_ble_eq_true rfl) rfl d_Lp_site_89 ?_
  exact j_iret B hr hlk d_Lp_site_92 (sv (by rw [if_pos ⟨nI_pos' (by omega), by rw [ha]; exact nI_lt hk (by omega)⟩, nI_clamp (by omega)])) (rfl)
set_option maxRecDepth 100000 in
theorem th_Lp_site_0 {l : Launch} {D : va_G} {aC : Nat → ClassId} {ad : Nat → Nat} (htr : l.stackTraces = false) (x : tm_M) (k : Int32) (hk : ¬ (0 ≤ k ∧ k < 6)) (v u : Int32) :
    ThX l y_Lp_site b_Lp_site 5 (some .int) (romT 7 163) D aC ad [.ref (ad 0), .int k, .int v, .int u] x n_nse x := by
  refine th_start (by decide) (Nat.le_of_ble_eq_true rfl) rfl ?_
  intro p e s m args below meth c B hZ hno hlk hml
  have B : Cx p s m c args b_Lp_site R_Lp D aC (rg 111 ad) 111 ad := B
  refine j_iloadn B d_Lp_site_0 rfl ?_
  refine j_cS B (ok_Lp_isFunction x k) cs_Lp_isFunction ml_Lp_115 rfl ⟨rfl, rfl, by decide, by decide⟩ ⟨Nat.zero_le _, Nat.zero_le _⟩ hml (Nat.le_of_ble_eq_true rfl) rfl d_Lp_site_1 ?_
  refine j_if_eq (tgt := 23) B d_Lp_site_4 (by decide) (fun h4 => ?_) (fun h4 => (show False from hk (bI_ne h4)).elim)
  exact j_thr B hZ htr hno hlk hml ta_nse st_153 d_Lp_site_23 d_Lp_site_26 d_Lp_site_27 d_Lp_site_29 d_Lp_site_32 ⟨by decide, by decide, by decide, by decide⟩ (rfl)
set_option maxRecDepth 100000 in
theorem th_Lp_site_1 {l : Launch} {D : va_G} {aC : Nat → ClassId} {ad : Nat → Nat} (htr : l.stackTraces = false) {f : Nat} (hf : f < 6) (x : tm_M) (v u : Int32) (hv : ¬ (0 ≤ v ∧ v < x.1 (6, f, 0) 10)) :
    ThX l y_Lp_site b_Lp_site 5 (some .int) (romT 7 163) D aC ad [.ref (ad 0), .int (nI f), .int v, .int u] x n_nse x := by
  refine th_start (by decide) (Nat.le_of_ble_eq_true rfl) rfl ?_
  intro p e s m args below meth c B hZ hno hlk hml
  have B : Cx p s m c args b_Lp_site R_Lp D aC (rg 111 ad) 111 ad := B
  refine j_iloadn B d_Lp_site_0 rfl ?_
  refine j_cS B (ok_Lp_isFunction x (nI f)) cs_Lp_isFunction ml_Lp_115 rfl ⟨rfl, rfl, by decide, by decide⟩ ⟨Nat.zero_le _, Nat.zero_le _⟩ hml (Nat.le_of_ble_eq_true rfl) rfl d_Lp_site_1 ?_
  refine j_if_eq (tgt := 23) B d_Lp_site_4 (by decide) (fun h4 => (show False from bI_e h4 (f_is hf)).elim) (fun h4 => ?_)
  refine j_aloadn B d_Lp_site_7 rfl ?_
  refine j_getr B fl_Lp_33 (q_0) rfl d_Lp_site_8 ?_
  refine j_getr B fl_Lp_94 (q_34) rfl d_Lp_site_11 ?_
  refine j_iloadn B d_Lp_site_14 rfl ?_
  refine j_aald B ⟨(q_39).1, (q_39).2.1⟩ rfl (⟨rfl, hf, by decide⟩) d_Lp_site_15 ?_
  refine j_iloadn B d_Lp_site_16 rfl ?_
  refine j_cVt B (ok_Pr_hasSite hf x v) cv_Pr_hasSite ml_Lp_150 (q_pr hf) rfl rfl ⟨rfl, rfl, by decide, by decide⟩ ⟨Nat.zero_le _, Nat.zero_le _⟩ hml (Nat.le_of_ble_eq_true rfl) rfl d_Lp_site_17 ?_
  refine j_if_ne (tgt := 33) B d_Lp_site_20 (by decide) (fun h20 => (show False from hv (bI_ne h20)).elim) (fun h20 => ?_)
  exact j_thr B hZ htr hno hlk hml ta_nse st_153 d_Lp_site_23 d_Lp_site_26 d_Lp_site_27 d_Lp_site_29 d_Lp_site_32 ⟨by decide, by decide, by decide, by decide⟩ (rfl)
set_option maxRecDepth 100000 in
theorem th_Lp_site_2 {l : Launch} {D : va_G} {aC : Nat → ClassId} {ad : Nat → Nat} (htr : l.stackTraces = false) {f : Nat} (hf : f < 6) (x : tm_M) (v u : Int32) (hv : 0 ≤ v ∧ v < x.1 (6, f, 0) 10) (hu : u < 0 ∨ 2 < u) :
    ThX l y_Lp_site b_Lp_site 5 (some .int) (romT 7 163) D aC ad [.ref (ad 0), .int (nI f), .int v, .int u] x n_nse x := by
  refine th_start (by decide) (Nat.le_of_ble_eq_true rfl) rfl ?_
  intro p e s m args below meth c B hZ hno hlk hml
  have B : Cx p s m c args b_Lp_site R_Lp D aC (rg 111 ad) 111 ad := B
  refine j_iloadn B d_Lp_site_0 rfl ?_
  refine j_cS B (ok_Lp_isFunction x (nI f)) cs_Lp_isFunction ml_Lp_115 rfl ⟨rfl, rfl, by decide, by decide⟩ ⟨Nat.zero_le _, Nat.zero_le _⟩ hml (Nat.le_of_ble_eq_true rfl) rfl d_Lp_site_1 ?_
  refine j_if_eq (tgt := 23) B d_Lp_site_4 (by decide) (fun h4 => (show False from bI_e h4 (f_is hf)).elim) (fun h4 => ?_)
  refine j_aloadn B d_Lp_site_7 rfl ?_
  refine j_getr B fl_Lp_33 (q_0) rfl d_Lp_site_8 ?_
  refine j_getr B fl_Lp_94 (q_34) rfl d_Lp_site_11 ?_
  refine j_iloadn B d_Lp_site_14 rfl ?_
  refine j_aald B ⟨(q_39).1, (q_39).2.1⟩ rfl (⟨rfl, hf, by decide⟩) d_Lp_site_15 ?_
  refine j_iloadn B d_Lp_site_16 rfl ?_
  refine j_cVt B (ok_Pr_hasSite hf x v) cv_Pr_hasSite ml_Lp_150 (q_pr hf) rfl rfl ⟨rfl, rfl, by decide, by decide⟩ ⟨Nat.zero_le _, Nat.zero_le _⟩ hml (Nat.le_of_ble_eq_true rfl) rfl d_Lp_site_17 ?_
  refine j_if_ne (tgt := 33) B d_Lp_site_20 (by decide) (fun h20 => ?_) (fun h20 => (show False from bI_e h20 hv).elim)
  refine j_aloadn B d_Lp_site_33 rfl ?_
  refine j_getr B fl_Lp_33 (q_0) rfl d_Lp_site_34 ?_
  refine j_getr B fl_Lp_94 (q_34) rfl d_Lp_site_37 ?_
  refine j_iloadn B d_Lp_site_40 rfl ?_
  refine j_aald B ⟨(q_39).1, (q_39).2.1⟩ rfl (⟨rfl, hf, by decide⟩) d_Lp_site_41 ?_
  refine j_astore B d_Lp_site_42 (by decide) ?_
  refine j_iloadn B d_Lp_site_44 rfl ?_
  refine j_tabOut (tgt := 93) B d_Lp_site_45 (sw02 hu) (by decide) ?_
  exact j_thr B hZ htr hno hlk hml ta_nse st_164 d_Lp_site_93 d_Lp_site_96 d_Lp_site_97 d_Lp_site_99 d_Lp_site_102 ⟨by decide, by decide, by decide, by decide⟩ (rfl)
set_option maxRecDepth 100000 in
theorem ok_Lp_run {l : Launch} {D : va_G} {aC : Nat → ClassId} {ad : Nat → Nat} {f : Nat} (hf : f < 6) (x : tm_M) (hm : 0 < x.1 (6, f, 0) 2) {r : Int32} {x2 : tm_M} (hE : OkX l y_Ma_execute b_Ma_execute 3 (some .int) (rom 6 141) D aC ad [.ref (ad 34), .int (nI f)] x (some (.int r)) x2) :
    OkX l y_Lp_run b_Lp_run 2 (some .int) (rom 7 163) D aC ad [.ref (ad 0), .int (nI f)] x (some (.int r)) x2 := by
  refine ok_start (by decide) (Nat.le_of_ble_eq_true rfl) rfl ?_
  intro p e s m args below meth c B hr hlk hml
  have B : Cx p s m c args b_Lp_run R_Lp D aC (rg 111 ad) 111 ad := B
  refine j_iloadn B d_Lp_run_0 rfl ?_
  refine j_cS B (ok_Lp_requireFunction hf x) cs_Lp_requireFunction ml_Lp_67 rfl ⟨rfl, rfl, by decide, by decide⟩ ⟨Nat.zero_le _, Nat.zero_le _⟩ hml (Nat.le_of_ble_eq_true rfl) rfl d_Lp_run_1 ?_
  refine j_aloadn B d_Lp_run_4 rfl ?_
  refine j_getr B fl_Lp_33 (q_0) rfl d_Lp_run_5 ?_
  refine j_getr B fl_Lp_94 (q_34) rfl d_Lp_run_8 ?_
  refine j_iloadn B d_Lp_run_11 rfl ?_
  refine j_aald B ⟨(q_39).1, (q_39).2.1⟩ rfl (⟨rfl, hf, by decide⟩) d_Lp_run_12 ?_
  refine j_cVt B (ok_Pr_isMade hf x) cv_Pr_isMade ml_Lp_166 (q_pr hf) rfl rfl ⟨rfl, rfl, by decide, by decide⟩ ⟨Nat.zero_le _, Nat.zero_le _⟩ hml (Nat.le_of_ble_eq_true rfl) rfl d_Lp_run_13 ?_
  refine j_if_ne (tgt := 29) B d_Lp_run_16 (by decide) (fun h16 => ?_) (fun h16 => (show False from bI_e h16 hm).elim)
  refine j_aloadn B d_Lp_run_29 rfl ?_
  refine j_getr B fl_Lp_33 (q_0) rfl d_Lp_run_30 ?_
  refine j_iloadn B d_Lp_run_33 rfl ?_
  refine j_cVt B (hE) cv_Ma_execute ml_Lp_171 (q_34) rfl rfl ⟨rfl, rfl, by decide, by decide⟩ ⟨Nat.zero_le _, Nat.zero_le _⟩ hml (Nat.le_of_ble_eq_true rfl) rfl d_Lp_run_34 ?_
  exact j_iret B hr hlk d_Lp_run_37 (rfl) (rfl)
set_option maxRecDepth 100000 in
theorem th_Lp_run_1 {l : Launch} {D : va_G} {aC : Nat → ClassId} {ad : Nat → Nat} (htr : l.stackTraces = false) (x : tm_M) (k : Int32) (hk : ¬ (0 ≤ k ∧ k < 6)) :
    ThX l y_Lp_run b_Lp_run 2 (some .int) (romT 7 163) D aC ad [.ref (ad 0), .int k] x n_iae x := by
  refine th_start (by decide) (Nat.le_of_ble_eq_true rfl) rfl ?_
  intro p e s m args below meth c B hZ hno hlk hml
  have B : Cx p s m c args b_Lp_run R_Lp D aC (rg 111 ad) 111 ad := B
  refine j_iloadn B d_Lp_run_0 rfl ?_
  exact j_pS B hZ hno hlk hml (th_Lp_requireFunction htr x k hk) cs_Lp_requireFunction ml_Lp_67 rfl ⟨rfl, rfl, by decide, by decide⟩ ⟨by decide, by decide⟩ (Nat.le_of_ble_eq_true rfl) rfl d_Lp_run_1
set_option maxRecDepth 100000 in
theorem th_Lp_run_2 {l : Launch} {D : va_G} {aC : Nat → ClassId} {ad : Nat → Nat} (htr : l.stackTraces = false) {f : Nat} (hf : f < 6) (x : tm_M) (hm : ¬ 0 < x.1 (6, f, 0) 2) :
    ThX l y_Lp_run b_Lp_run 2 (some .int) (romT 7 163) D aC ad [.ref (ad 0), .int (nI f)] x n_ise x := by
  refine th_start (by decide) (Nat.le_of_ble_eq_true rfl) rfl ?_
  intro p e s m args below meth c B hZ hno hlk hml
  have B : Cx p s m c args b_Lp_run R_Lp D aC (rg 111 ad) 111 ad := B
  refine j_iloadn B d_Lp_run_0 rfl ?_
  refine j_cS B (ok_Lp_requireFunction hf x) cs_Lp_requireFunction ml_Lp_67 rfl ⟨rfl, rfl, by decide, by decide⟩ ⟨Nat.zero_le _, Nat.zero_le _⟩ hml (Nat.le_of_ble_eq_true rfl) rfl d_Lp_run_1 ?_
  refine j_aloadn B d_Lp_run_4 rfl ?_
  refine j_getr B fl_Lp_33 (q_0) rfl d_Lp_run_5 ?_
  refine j_getr B fl_Lp_94 (q_34) rfl d_Lp_run_8 ?_
  refine j_iloadn B d_Lp_run_11 rfl ?_
  refine j_aald B ⟨(q_39).1, (q_39).2.1⟩ rfl (⟨rfl, hf, by decide⟩) d_Lp_run_12 ?_
  refine j_cVt B (ok_Pr_isMade hf x) cv_Pr_isMade ml_Lp_166 (q_pr hf) rfl rfl ⟨rfl, rfl, by decide, by decide⟩ ⟨Nat.zero_le _, Nat.zero_le _⟩ hml (Nat.le_of_ble_eq_true rfl) rfl d_Lp_run_13 ?_
  refine j_if_ne (tgt := 29) B d_Lp_run_16 (by decide) (fun h16 => (show False from hm (bI_ne h16)).elim) (fun h16 => ?_)
  exact j_thr B hZ htr hno hlk hml ta_ise st_169 d_Lp_run_19 d_Lp_run_22 d_Lp_run_23 d_Lp_run_25 d_Lp_run_28 ⟨by decide, by decide, by decide, by decide⟩ (rfl)
set_option maxRecDepth 100000 in
theorem ok_Lp_count_0 {l : Launch} {D : va_G} {aC : Nat → ClassId} {ad : Nat → Nat} (x : tm_M) :
    OkX l y_Lp_count b_Lp_count 3 (some .int) (rom 7 163) D aC ad [.ref (ad 0), .int 0] x (some (.int (x.1 (5, 0, 3) 1))) x := by
  refine ok_start (by decide) (Nat.le_of_ble_eq_true rfl) rfl ?_
  intro p e s m args below meth c B hr hlk hml
  have B : Cx p s m c args b_Lp_count R_Lp D aC (rg 111 ad) 111 ad := B
  refine j_aloadn B d_Lp_count_0 rfl ?_
  refine j_getr B fl_Lp_33 (q_0) rfl d_Lp_count_1 ?_
  refine j_getr B fl_Lp_174 (q_34) rfl d_Lp_count_4 ?_
  refine j_astoren B d_Lp_count_7 (by decide) ?_
  refine j_iloadn B d_Lp_count_8 rfl ?_
  refine j_tabIn (tgt := 48) (off := 39) B d_Lp_count_9 (by decide) (by decide) (by decide) (by decide) ?_
  refine j_aloadn B d_Lp_count_48 rfl ?_
  refine j_geti B fl_Lp_178 (q_37) rfl d_Lp_count_49 ?_
  exact j_iret B hr hlk d_Lp_count_52 (rfl) (rfl)
set_option maxRecDepth 100000 in
theorem ok_Lp_count_1 {l : Launch} {D : va_G} {aC : Nat → ClassId} {ad : Nat → Nat} (x : tm_M) :
    OkX l y_Lp_count b_Lp_count 3 (some .int) (rom 7 163) D aC ad [.ref (ad 0), .int 1] x (some (.int (x.1 (5, 0, 3) 2))) x := by
  refine ok_start (by decide) (Nat.le_of_ble_eq_true rfl) rfl ?_
  intro p e s m args below meth c B hr hlk hml
  have B : Cx p s m c args b_Lp_count R_Lp D aC (rg 111 ad) 111 ad := B
  refine j_aloadn B d_Lp_count_0 rfl ?_
  refine j_getr B fl_Lp_33 (q_0) rfl d_Lp_count_1 ?_
  refine j_getr B fl_Lp_174 (q_34) rfl d_Lp_count_4 ?_
  refine j_astoren B d_Lp_count_7 (by decide) ?_
  refine j_iloadn B d_Lp_count_8 rfl ?_
  refine j_tabIn (tgt := 53) (off := 44) B d_Lp_count_9 (by decide) (by decide) (by decide) (by decide) ?_
  refine j_aloadn B d_Lp_count_53 rfl ?_
  refine j_geti B fl_Lp_183 (q_37) rfl d_Lp_count_54 ?_
  exact j_iret B hr hlk d_Lp_count_57 (rfl) (rfl)
set_option maxRecDepth 100000 in
theorem ok_Lp_count_2 {l : Launch} {D : va_G} {aC : Nat → ClassId} {ad : Nat → Nat} (x : tm_M) :
    OkX l y_Lp_count b_Lp_count 3 (some .int) (rom 7 163) D aC ad [.ref (ad 0), .int 2] x (some (.int (x.1 (5, 0, 3) 3))) x := by
  refine ok_start (by decide) (Nat.le_of_ble_eq_true rfl) rfl ?_
  intro p e s m args below meth c B hr hlk hml
  have B : Cx p s m c args b_Lp_count R_Lp D aC (rg 111 ad) 111 ad := B
  refine j_aloadn B d_Lp_count_0 rfl ?_
  refine j_getr B fl_Lp_33 (q_0) rfl d_Lp_count_1 ?_
  refine j_getr B fl_Lp_174 (q_34) rfl d_Lp_count_4 ?_
  refine j_astoren B d_Lp_count_7 (by decide) ?_
  refine j_iloadn B d_Lp_count_8 rfl ?_
  refine j_tabIn (tgt := 58) (off := 49) B d_Lp_count_9 (by decide) (by decide) (by decide) (by decide) ?_
  refine j_aloadn B d_Lp_count_58 rfl ?_
  refine j_geti B fl_Lp_186 (q_37) rfl d_Lp_count_59 ?_
  exact j_iret B hr hlk d_Lp_count_62 (rfl) (rfl)
set_option maxRecDepth 100000 in
theorem ok_Lp_count_3 {l : Launch} {D : va_G} {aC : Nat → ClassId} {ad : Nat → Nat} (x : tm_M) :
    OkX l y_Lp_count b_Lp_count 3 (some .int) (rom 7 163) D aC ad [.ref (ad 0), .int 3] x (some (.int (x.1 (5, 0, 3) 4))) x := by
  refine ok_start (by decide) (Nat.le_of_ble_eq_true rfl) rfl ?_
  intro p e s m args below meth c B hr hlk hml
  have B : Cx p s m c args b_Lp_count R_Lp D aC (rg 111 ad) 111 ad := B
  refine j_aloadn B d_Lp_count_0 rfl ?_
  refine j_getr B fl_Lp_33 (q_0) rfl d_Lp_count_1 ?_
  refine j_getr B fl_Lp_174 (q_34) rfl d_Lp_count_4 ?_
  refine j_astoren B d_Lp_count_7 (by decide) ?_
  refine j_iloadn B d_Lp_count_8 rfl ?_
  refine j_tabIn (tgt := 63) (off := 54) B d_Lp_count_9 (by decide) (by decide) (by decide) (by decide) ?_
  refine j_aloadn B d_Lp_count_63 rfl ?_
  refine j_geti B fl_Lp_189 (q_37) rfl d_Lp_count_64 ?_
  exact j_iret B hr hlk d_Lp_count_67 (rfl) (rfl)
set_option maxRecDepth 100000 in
theorem ok_Lp_count_4 {l : Launch} {D : va_G} {aC : Nat → ClassId} {ad : Nat → Nat} (x : tm_M) :
    OkX l y_Lp_count b_Lp_count 3 (some .int) (rom 7 163) D aC ad [.ref (ad 0), .int 4] x (some (.int (x.1 (5, 0, 3) 5))) x := by
  refine ok_start (by decide) (Nat.le_of_ble_eq_true rfl) rfl ?_
  intro p e s m args below meth c B hr hlk hml
  have B : Cx p s m c args b_Lp_count R_Lp D aC (rg 111 ad) 111 ad := B
  refine j_aloadn B d_Lp_count_0 rfl ?_
  refine j_getr B fl_Lp_33 (q_0) rfl d_Lp_count_1 ?_
  refine j_getr B fl_Lp_174 (q_34) rfl d_Lp_count_4 ?_
  refine j_astoren B d_Lp_count_7 (by decide) ?_
  refine j_iloadn B d_Lp_count_8 rfl ?_
  refine j_tabIn (tgt := 68) (off := 59) B d_Lp_count_9 (by decide) (by decide) (by decide) (by decide) ?_
  refine j_aloadn B d_Lp_count_68 rfl ?_
  refine j_geti B fl_Lp_192 (q_37) rfl d_Lp_count_69 ?_
  exact j_iret B hr hlk d_Lp_count_72 (rfl) (rfl)
set_option maxRecDepth 100000 in
theorem ok_Lp_count_5 {l : Launch} {D : va_G} {aC : Nat → ClassId} {ad : Nat → Nat} (x : tm_M) :
    OkX l y_Lp_count b_Lp_count 3 (some .int) (rom 7 163) D aC ad [.ref (ad 0), .int 5] x (some (.int (x.1 (5, 0, 3) 6))) x := by
  refine ok_start (by decide) (Nat.le_of_ble_eq_true rfl) rfl ?_
  intro p e s m args below meth c B hr hlk hml
  have B : Cx p s m c args b_Lp_count R_Lp D aC (rg 111 ad) 111 ad := B
  refine j_aloadn B d_Lp_count_0 rfl ?_
  refine j_getr B fl_Lp_33 (q_0) rfl d_Lp_count_1 ?_
  refine j_getr B fl_Lp_174 (q_34) rfl d_Lp_count_4 ?_
  refine j_astoren B d_Lp_count_7 (by decide) ?_
  refine j_iloadn B d_Lp_count_8 rfl ?_
  refine j_tabIn (tgt := 73) (off := 64) B d_Lp_count_9 (by decide) (by decide) (by decide) (by decide) ?_
  refine j_aloadn B d_Lp_count_73 rfl ?_
  refine j_geti B fl_Lp_195 (q_37) rfl d_Lp_count_74 ?_
  exact j_iret B hr hlk d_Lp_count_77 (rfl) (rfl)
set_option maxRecDepth 100000 in
theorem th_Lp_count {l : Launch} {D : va_G} {aC : Nat → ClassId} {ad : Nat → Nat} (htr : l.stackTraces = false) (x : tm_M) (k : Int32) (hk : k < 0 ∨ 5 < k) :
    ThX l y_Lp_count b_Lp_count 3 (some .int) (romT 7 163) D aC ad [.ref (ad 0), .int k] x n_iae x := by
  refine th_start (by decide) (Nat.le_of_ble_eq_true rfl) rfl ?_
  intro p e s m args below meth c B hZ hno hlk hml
  have B : Cx p s m c args b_Lp_count R_Lp D aC (rg 111 ad) 111 ad := B
  refine j_aloadn B d_Lp_count_0 rfl ?_
  refine j_getr B fl_Lp_33 (q_0) rfl d_Lp_count_1 ?_
  refine j_getr B fl_Lp_174 (q_34) rfl d_Lp_count_4 ?_
  refine j_astoren B d_Lp_count_7 (by decide) ?_
  refine j_iloadn B d_Lp_count_8 rfl ?_
  refine j_tabOut (tgt := 78) B d_Lp_count_9 (sw05 hk) (by decide) ?_
  exact j_thr B hZ htr hno hlk hml ta_iae st_113 d_Lp_count_78 d_Lp_count_81 d_Lp_count_82 d_Lp_count_84 d_Lp_count_87 ⟨by decide, by decide, by decide, by decide⟩ (rfl)
set_option maxRecDepth 100000 in
theorem ok_Lp_out {l : Launch} {D : va_G} {aC : Nat → ClassId} {ad : Nat → Nat} {k a : Nat} (x : tm_M) (ha : x.1 (5, 0, 3) 1 = nI a) (hk : k < a) (hN : a ≤ 60) :
    OkX l y_Lp_out b_Lp_out 2 (some .int) (rom 7 163) D aC ad [.ref (ad 0), .int (nI k)] x (some (.int (x.2 (5, 0, 4) k))) x := by
  refine ok_start (by decide) (Nat.le_of_ble_eq_true rfl) rfl ?_
  intro p e s m args below meth c B hr hlk hml
  have B : Cx p s m c args b_Lp_out R_Lp D aC (rg 111 ad) 111 ad := B
  refine j_aloadn B d_Lp_out_0 rfl ?_
  refine j_getr B fl_Lp_33 (q_0) rfl d_Lp_out_1 ?_
  refine j_getr B fl_Lp_174 (q_34) rfl d_Lp_out_4 ?_
  refine j_iloadn B d_Lp_out_7 rfl ?_
  refine j_cVt B (ok_Ta_hasNumber x (nI k)) cv_Ta_hasNumber ml_Lp_198 (q_37) rfl rfl ⟨rfl, rfl, by decide, by decide⟩ ⟨Nat.zero_le _, Nat.zero_le _⟩ hml (Nat.le_of_ble_eq_true rfl) rfl d_Lp_out_8 ?_
  refine j_if_ne (tgt := 24) B d_Lp_out_11 (by decide) (fun h11 => ?_) (fun h11 => (show False from bI_e h11 ⟨nI_pos' (by omega), by rw [ha]; exact nI_lt hk (by omega)⟩).elim)
  refine j_aloadn B d_Lp_out_24 rfl ?_
  refine j_getr B fl_Lp_33 (q_0) rfl d_Lp_out_25 ?_
  refine j_getr B fl_Lp_174 (q_34) rfl d_Lp_out_28 ?_
  refine j_iloadn B d_Lp_out_31 rfl ?_
  refine j_cVt B (ok_Ta_numberAt x (nI k) ha hN) cv_Ta_numberAt ml_Lp_203 (q_37) rfl rfl ⟨rfl, rfl, by decide, by decide⟩ ⟨Nat.zero_le _, Nat.zero_le _⟩ hml (Nat.le_of_ble_eq_true rfl) rfl d_Lp_out_32 ?_
  exact j_iret B hr hlk d_Lp_out_35 (sv (by rw [if_pos ⟨nI_pos' (by omega), by rw [ha]; exact nI_lt hk (by omega)⟩, nI_clamp (by omega)])) (rfl)
set_option maxRecDepth 100000 in
theorem th_Lp_out {l : Launch} {D : va_G} {aC : Nat → ClassId} {ad : Nat → Nat} (htr : l.stackTraces = false) (x : tm_M) (k : Int32) (hk : ¬ (0 ≤ k ∧ k < x.1 (5, 0, 3) 1)) :
    ThX l y_Lp_out b_Lp_out 2 (some .int) (romT 7 163) D aC ad [.ref (ad 0), .int k] x n_nse x := by
  refine th_start (by decide) (Nat.le_of_ble_eq_true rfl) rfl ?_
  intro p e s m args below meth c B hZ hno hlk hml
  have B : Cx p s m c args b_Lp_out R_Lp D aC (rg 111 ad) 111 ad := B
  refine j_aloadn B d_Lp_out_0 rfl ?_
  refine j_getr B fl_Lp_33 (q_0) rfl d_Lp_out_1 ?_
  refine j_getr B fl_Lp_174 (q_34) rfl d_Lp_out_4 ?_
  refine j_iloadn B d_Lp_out_7 rfl ?_
  refine j_cVt B (ok_Ta_hasNumber x k) cv_Ta_hasNumber ml_Lp_198 (q_37) rfl rfl ⟨rfl, rfl, by decide, by decide⟩ ⟨Nat.zero_le _, Nat.zero_le _⟩ hml (Nat.le_of_ble_eq_true rfl) rfl d_Lp_out_8 ?_
  refine j_if_ne (tgt := 24) B d_Lp_out_11 (by decide) (fun h11 => (show False from hk (bI_ne h11)).elim) (fun h11 => ?_)
  exact j_thr B hZ htr hno hlk hml ta_nse st_201 d_Lp_out_14 d_Lp_out_17 d_Lp_out_18 d_Lp_out_20 d_Lp_out_23 ⟨by decide, by decide, by decide, by decide⟩ (rfl)
