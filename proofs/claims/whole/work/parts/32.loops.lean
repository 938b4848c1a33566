/-- the head of the first site around a place -/
def hdF (F L H : Nat → Int32) (u : Int32) : Nat → Nat → Int32
  | 0, _ => -1
  | r + 1, k => if F k ≤ u ∧ u ≤ L k then H k else hdF F L H u r (k + 1)
set_option maxRecDepth 100000 in
theorem ok_Pr_headAround {l : Launch} {D : va_G} {aC : Nat → ClassId} {ad : Nat → Nat} {f : Nat} (hf : f < 6) (x : tm_M) (u : Int32) {q : Nat} (hq : x.1 (6, f, 0) 10 = nI q) (h20 : q ≤ 20) :
    OkX l y_Pr_headAround b_Pr_headAround 3 (some .int) (rom 0 0) D aC ad [.ref (ad (prO f)), .int u] x (some (.int (hdF (x.2 (6, f, 6)) (x.2 (6, f, 7)) (x.2 (6, f, 8)) u q 0))) x := by
  refine ok_start (by decide) (Nat.le_of_ble_eq_true rfl) rfl ?_
  intro p e s m args below meth c B hr hlk hml
  have B : Cx p s m c args b_Pr_headAround R_Pr D aC (rg 111 ad) 111 ad := B
  have loop : ∀ (r k : Nat), k + r = q → hdF (x.2 (6, f, 6)) (x.2 (6, f, 7)) (x.2 (6, f, 8)) u r k = (hdF (x.2 (6, f, 6)) (x.2 (6, f, 7)) (x.2 (6, f, 8)) u q 0) → J p l e (rom 0 0) s m args below meth c D (rg 111 ad) 0 0 (MQ below (Qk D aC 111 ad (some (.int (hdF (x.2 (6, f, 6)) (x.2 (6, f, 7)) (x.2 (6, f, 8)) u q 0))) (wX ad aC x)) args s 0 0 (rg 111 ad)) 111 ad (wX ad aC x) 3 2 [(2, .int (nI k)), (0, .ref (ad (prO f))), (1, .int u)] [] := by
    intro r
    induction r with
    | zero =>
      intro k hk hR
      refine j_iloadn B d_Pr_headAround_2 rfl ?_
      refine j_aloadn B d_Pr_headAround_3 rfl ?_
      refine j_geti B fl_Pr_43 (q_pr hf) rfl d_Pr_headAround_4 ?_
      refine j_icmp_ge (tgt := 43) B d_Pr_headAround_7 (by decide) (fun h7 => ?_) (fun h7 => (show False from h7 (by rw [hq]; exact nI_le (by omega) (by omega))).elim)
      refine j_iconst (v := (-1)) B d_Pr_headAround_43 (by decide) ?_
      exact j_iret B hr hlk d_Pr_headAround_44 (sv hR.symm) (rfl)
    | succ r ih =>
      intro k hk hR
      refine j_iloadn B d_Pr_headAround_2 rfl ?_
      refine j_aloadn B d_Pr_headAround_3 rfl ?_
      refine j_geti B fl_Pr_43 (q_pr hf) rfl d_Pr_headAround_4 ?_
      refine j_icmp_ge (tgt := 43) B d_Pr_headAround_7 (by decide) (fun h7 => (show False from absurd (nIle (hq ▸ h7) (by omega) (by omega)) (by omega)).elim) (fun h7 => ?_)
      refine j_aloadn B d_Pr_headAround_10 rfl ?_
      refine j_getr B fl_Pr_27 (q_pr hf) rfl d_Pr_headAround_11 ?_
      refine j_iloadn B d_Pr_headAround_14 rfl ?_
      refine j_iald B (q_pr6 hf) (⟨rfl, by omega, by decide⟩) d_Pr_headAround_15 ?_
      refine j_iloadn B d_Pr_headAround_16 rfl ?_
      refine j_icmp_gt (tgt := 37) B d_Pr_headAround_17 (by decide) (fun h17 => ?_) (fun h17 => ?_)
      · -- yes
        refine j_iinc B d_Pr_headAround_37 rfl (by decide) (nI_1 k) ?_
        refine j_goto (tgt := 2) B d_Pr_headAround_40 (by decide) ?_
        refine j_loc [(2, .int (nI (k + 1))), (0, .ref (ad (prO f))), (1, .int u)] ⟨rfl, rfl, rfl, trivial⟩ ?_
        exact ih (k + 1) (by omega) (by rw [← hR]; symm; exact if_neg (fun z => by first | exact absurd z.1 (Int32.not_le.mpr h17) | exact absurd z.2 (Int32.not_le.mpr h27)))
      · -- no
        refine j_iloadn B d_Pr_headAround_20 rfl ?_
        refine j_aloadn B d_Pr_headAround_21 rfl ?_
        refine j_getr B fl_Pr_30 (q_pr hf) rfl d_Pr_headAround_22 ?_
        refine j_iloadn B d_Pr_headAround_25 rfl ?_
        refine j_iald B (q_pr7 hf) (⟨rfl, by omega, by decide⟩) d_Pr_headAround_26 ?_
        refine j_icmp_gt (tgt := 37) B d_Pr_headAround_27 (by decide) (fun h27 => ?_) (fun h27 => ?_)
        · -- yes
          refine j_iinc B d_Pr_headAround_37 rfl (by decide) (nI_1 k) ?_
          refine j_goto (tgt := 2) B d_Pr_headAround_40 (by decide) ?_
          refine j_loc [(2, .int (nI (k + 1))), (0, .ref (ad (prO f))), (1, .int u)] ⟨rfl, rfl, rfl, trivial⟩ ?_
          exact ih (k + 1) (by omega) (by rw [← hR]; symm; exact if_neg (fun z => by first | exact absurd z.1 (Int32.not_le.mpr h17) | exact absurd z.2 (Int32.not_le.mpr h27)))
        · -- no
          refine j_aloadn B d_Pr_headAround_30 rfl ?_
          refine j_getr B fl_Pr_33 (q_pr hf) rfl d_Pr_headAround_31 ?_
          refine j_iloadn B d_Pr_headAround_34 rfl ?_
          refine j_iald B (q_pr8 hf) (⟨rfl, by omega, by decide⟩) d_Pr_headAround_35 ?_
          exact j_iret B hr hlk d_Pr_headAround_36 (sv (by rw [← hR]; exact if_pos ⟨Int32.not_lt.mp h17, Int32.not_lt.mp h27⟩)) (rfl)
  refine j_iconst (v := 0) B d_Pr_headAround_0 (by decide) ?_
  refine j_istoren B d_Pr_headAround_1 (by decide) ?_
  refine j_loc [(2, .int (nI 0)), (0, .ref (ad (prO f))), (1, .int u)] ⟨rfl, rfl, rfl, trivial⟩ ?_
  exact loop q 0 (by omega) rfl
/-- is the type a another, seen over r steps -/
def anF (t : Int32) (P : Nat → Int32) (o : Int32) : Nat → Int32 → Int32
  | 0, _ => 0
  | r + 1, a => if 0 ≤ a ∧ a < t then (if a = o then 1 else anF t P o r (P a.toNatClampNeg)) else 0
theorem anF_b {t : Int32} {P : Nat → Int32} {o : Int32} : ∀ (r : Nat) (a : Int32), anF t P o r a = 0 ∨ anF t P o r a = 1
  | 0, _ => Or.inl rfl
  | r + 1, a => by
    unfold anF
    split
    · split
      · exact Or.inr rfl
      · exact anF_b r _
    · exact Or.inl rfl
set_option maxRecDepth 100000 in
theorem ok_Ty_isAnother {l : Launch} {D : va_G} {aC : Nat → ClassId} {ad : Nat → Nat} (x : tm_M) (u v : Int32) {t : Nat} (ht : x.1 (5, 0, 1) 1 = nI t) (h8 : t ≤ 8) :
    OkX l y_Ty_isAnother b_Ty_isAnother 5 (some .boolean) (rom 1 21) D aC ad [.ref (ad 35), .int u, .int v] x (some (.int (anF (x.1 (5, 0, 1) 1) (x.2 (5, 0, 2)) v 8 u))) x := by
  refine ok_start (by decide) (Nat.le_of_ble_eq_true rfl) rfl ?_
  intro p e s m args below meth c B hr hlk hml
  have B : Cx p s m c args b_Ty_isAnother R_Ty D aC (rg 111 ad) 111 ad := B
  have loop : ∀ (r k : Nat) (a : Int32), k + r = 8 → anF (x.1 (5, 0, 1) 1) (x.2 (5, 0, 2)) v r a = (anF (x.1 (5, 0, 1) 1) (x.2 (5, 0, 2)) v 8 u) → J p l e (rom 1 21) s m args below meth c D (rg 111 ad) 0 0 (MQ below (Qk D aC 111 ad (some (.int (anF (x.1 (5, 0, 1) 1) (x.2 (5, 0, 2)) v 8 u))) (wX ad aC x)) args s 0 0 (rg 111 ad)) 111 ad (wX ad aC x) 5 5 [(4, .int (nI k)), (3, .int a), (0, .ref (ad 35)), (1, .int u), (2, .int v)] [] := by
    intro r
    induction r with
    | zero =>
      intro k a hk hR
      refine j_iload B d_Ty_isAnother_5 rfl ?_
      refine j_bipush (v := 8) B d_Ty_isAnother_7 (by decide) ?_
      refine j_icmp_ge (tgt := 40) B d_Ty_isAnother_9 (by decide) (fun h9 => ?_) (fun h9 => (show False from h9 (nI_le (a := 8) (by omega) (by omega))).elim)
      refine j_iconst (v := 0) B d_Ty_isAnother_40 (by decide) ?_
      exact j_zret B hr hlk d_Ty_isAnother_41 (by first | exact Or.inl rfl | exact Or.inr rfl) (sv hR.symm) (rfl)
    | succ r ih =>
      intro k a hk hR
      refine j_iload B d_Ty_isAnother_5 rfl ?_
      refine j_bipush (v := 8) B d_Ty_isAnother_7 (by decide) ?_
      refine j_icmp_ge (tgt := 40) B d_Ty_isAnother_9 (by decide) (fun h9 => (show False from absurd (nIle (c := 8) h9 (by decide) (by omega)) (by omega)).elim) (fun h9 => ?_)
      refine j_aloadn B d_Ty_isAnother_12 rfl ?_
      refine j_iloadn B d_Ty_isAnother_13 rfl ?_
      refine j_cVt B (ok_Ty_has x a) cv_Ty_has ml_Ty_23 (q_35) rfl rfl ⟨rfl, rfl, by decide, by decide⟩ ⟨Nat.zero_le _, Nat.zero_le _⟩ hml (Nat.le_of_ble_eq_true rfl) rfl d_Ty_isAnother_14 ?_
      refine j_if_eq (tgt := 40) B d_Ty_isAnother_17 (by decide) (fun h17 => ?_) (fun h17 => ?_)
      · -- yes
        refine j_iconst (v := 0) B d_Ty_isAnother_40 (by decide) ?_
        exact j_zret B hr hlk d_Ty_isAnother_41 (by first | exact Or.inl rfl | exact Or.inr rfl) (sv (by rw [← hR]; first | exact if_neg (bI_e h17) | (refine (if_pos (bI_ne h17)).trans ?_; exact if_pos h22))) (rfl)
      · -- no
        refine j_iloadn B d_Ty_isAnother_20 rfl ?_
        refine j_iloadn B d_Ty_isAnother_21 rfl ?_
        refine j_icmp_ne (tgt := 27) B d_Ty_isAnother_22 (by decide) (fun h22 => ?_) (fun h22 => ?_)
        · -- yes
          refine j_aloadn B d_Ty_isAnother_27 rfl ?_
          refine j_getr B fl_Ty_9 (q_35) rfl d_Ty_isAnother_28 ?_
          refine j_iloadn B d_Ty_isAnother_31 rfl ?_
          refine j_iald B (q_36) (ixg (bI_ne h17) ht h8 (by decide)) d_Ty_isAnother_32 ?_
          refine j_istoren B d_Ty_isAnother_33 (by decide) ?_
          refine j_iinc B d_Ty_isAnother_34 rfl (by decide) (nI_1 k) ?_
          refine j_goto (tgt := 5) B d_Ty_isAnother_37 (by decide) ?_
          refine j_loc [(4, .int (nI (k + 1))), (3, .int (x.2 (5, 0, 2) a.toNatClampNeg)), (0, .ref (ad 35)), (1, .int u), (2, .int v)] ⟨rfl, rfl, rfl, rfl, rfl, trivial⟩ ?_
          exact ih (k + 1) _ (by omega) (by rw [← hR]; symm; exact (if_pos (bI_ne h17)).trans (if_neg h22))
        · -- no
          refine j_iconst (v := 1) B d_Ty_isAnother_25 (by decide) ?_
          exact j_zret B hr hlk d_Ty_isAnother_26 (by first | exact Or.inl rfl | exact Or.inr rfl) (sv (by rw [← hR]; first | exact if_neg (bI_e h17) | (refine (if_pos (bI_ne h17)).trans ?_; exact if_pos h22))) (rfl)
  refine j_iloadn B d_Ty_isAnother_0 rfl ?_
  refine j_istoren B d_Ty_isAnother_1 (by decide) ?_
  refine j_iconst (v := 0) B d_Ty_isAnother_2 (by decide) ?_
  refine j_istore B d_Ty_isAnother_3 (by decide) ?_
  refine j_loc [(4, .int (nI 0)), (3, .int u), (0, .ref (ad 35)), (1, .int u), (2, .int v)] ⟨rfl, rfl, rfl, rfl, rfl, trivial⟩ ?_
  exact loop 8 0 u (by omega) rfl
/-- the first j exits are aimed at the place n -/
def aeX (f n : Nat) (E : Nat → Nat) (x : tm_M) : Nat → tm_M
  | 0 => x
  | j + 1 => sA (aeX f n E x j) (6, f, 2) (E j) (nI n)
theorem aeX_1 {f n : Nat} {E : Nat → Nat} {x : tm_M} : ∀ j, (aeX f n E x j).1 = x.1
  | 0 => rfl
  | j + 1 => by unfold aeX; rw [rAI]; exact aeX_1 j
theorem aeX_2 {f n : Nat} {E : Nat → Nat} {x : tm_M} {K : tm_K} (h : K ≠ (6, f, 2)) : ∀ j, (aeX f n E x j).2 K = x.2 K
  | 0 => rfl
  | j + 1 => by unfold aeX; rw [rAK h]; exact aeX_2 h j
set_option maxRecDepth 100000 in
theorem ok_Bl_aimExits {l : Launch} {D : va_G} {aC : Nat → ClassId} {ad : Nat → Nat} {i : Nat} (hi : i < 5) {f : Nat} (hf : f < 6) (x : tm_M) {t n : Nat} (E : Nat → Nat) (ht : x.1 (4, i, 0) 6 = nI t) (h20 : t ≤ 20) (hn : x.1 (6, f, 0) 2 = nI n) (h81 : n ≤ 81) (hE : ∀ k, k < t → x.2 (4, i, 1) k = nI (E k) ∧ E k < n) :
    OkX l y_Bl_aimExits b_Bl_aimExits 3 none (rom 2 43) D aC ad [.ref (ad (blO i)), .ref (ad (prO f))] x none (aeX f n E x t) := by
  refine ok_start (by decide) (Nat.le_of_ble_eq_true rfl) rfl ?_
  intro p e s m args below meth c B hr hlk hml
  have B : Cx p s m c args b_Bl_aimExits R_Bl D aC (rg 111 ad) 111 ad := B
  have loop : ∀ (r k : Nat), k + r = t → J p l e (rom 2 43) s m args below meth c D (rg 111 ad) 0 0 (MQ below (Qk D aC 111 ad none (wX ad aC (aeX f n E x t))) args s 0 0 (rg 111 ad)) 111 ad (wX ad aC (aeX f n E x k)) 3 2 [(2, .int (nI k)), (0, .ref (ad (blO i))), (1, .ref (ad (prO f)))] [] := by
    intro r
    induction r with
    | zero =>
      intro k hk
      refine j_iloadn B d_Bl_aimExits_2 rfl ?_
      refine j_aloadn B d_Bl_aimExits_3 rfl ?_
      refine j_geti B fl_Bl_31 (q_bl hi) rfl d_Bl_aimExits_4 ?_
      refine j_icmp_ge (tgt := 30) B d_Bl_aimExits_7 (by decide) (fun h7 => ?_) (fun h7 => (show False from h7 (by rw [aeX_1, ht]; exact nI_le (by omega) (by omega))).elim)
      exact j_vret B hr hlk d_Bl_aimExits_30 (rfl) (by rw [show k = t by omega])
    | succ r ih =>
      intro k hk
      refine j_iloadn B d_Bl_aimExits_2 rfl ?_
      refine j_aloadn B d_Bl_aimExits_3 rfl ?_
      refine j_geti B fl_Bl_31 (q_bl hi) rfl d_Bl_aimExits_4 ?_
      refine j_icmp_ge (tgt := 30) B d_Bl_aimExits_7 (by decide) (fun h7 => (show False from absurd (nIle (ht ▸ (aeX_1 (f := f) (n := n) (E := E) (x := x) k) ▸ h7) (by omega) (by omega)) (by omega)).elim) (fun h7 => ?_)
      refine j_aloadn B d_Bl_aimExits_10 rfl ?_
      refine j_aloadn B d_Bl_aimExits_11 rfl ?_
      refine j_getr B fl_Bl_9 (q_bl hi) rfl d_Bl_aimExits_12 ?_
      refine j_iloadn B d_Bl_aimExits_15 rfl ?_
      refine j_iald B (q_bl1 hi) (⟨rfl, by omega, by decide⟩) d_Bl_aimExits_16 ?_
      refine j_topi (nI (E k)) (by rw [aeX_2 (by simp)]; exact (hE k (by omega)).1) ?_
      refine j_aloadn B d_Bl_aimExits_17 rfl ?_
      refine j_geti B fl_Bl_34 (q_pr hf) rfl d_Bl_aimExits_18 ?_
      refine j_topi (nI n) (by rw [aeX_1]; exact hn) ?_
      refine j_cVt B (ok_Pr_aim hf (aeX f n E x k) (nI n) (a := E k) (n := n) (by rw [aeX_1]; exact hn) h81 (hE k (by omega)).2) cv_Pr_aim ml_Bl_39 (q_pr hf) rfl rfl ⟨rfl, rfl, by decide, by decide⟩ ⟨Nat.zero_le _, Nat.zero_le _⟩ hml (Nat.le_of_ble_eq_true rfl) rfl d_Bl_aimExits_21 ?_
      refine j_iinc B d_Bl_aimExits_24 rfl (by decide) (nI_1 k) ?_
      refine j_goto (tgt := 2) B d_Bl_aimExits_27 (by decide) ?_
      refine j_loc [(2, .int (nI (k + 1))), (0, .ref (ad (blO i))), (1, .ref (ad (prO f)))] ⟨rfl, rfl, rfl, trivial⟩ ?_
      exact ih (k + 1) (by omega)
  refine j_iconst (v := 0) B d_Bl_aimExits_0 (by decide) ?_
  refine j_istoren B d_Bl_aimExits_1 (by decide) ?_
  refine j_loc [(2, .int (nI 0)), (0, .ref (ad (blO i))), (1, .ref (ad (prO f)))] ⟨rfl, rfl, rfl, trivial⟩ ?_
  exact loop t 0 (by omega)
