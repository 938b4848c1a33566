/-- one world behind another -/
def ap (n : Nat) (w v : Nat → va_E) : Nat → va_E := fun k => if k < n then w k else v (k - n)
theorem ap_l {n j : Nat} {w v : Nat → va_E} {E : va_E} (h : j < n) : va_up (ap n w v) j E = ap n (va_up w j E) v := by
  funext k
  unfold va_up ap
  by_cases h1 : k = j
  · subst h1; simp [h]
  · simp [h1]
theorem ap_r {n j : Nat} {w v : Nat → va_E} {E : va_E} (h : n ≤ j) : va_up (ap n w v) j E = ap n w (va_up v (j - n) E) := by
  funext k
  unfold va_up ap
  by_cases h1 : k = j
  · subst h1; simp; omega
  · simp only [if_neg h1]
    by_cases h2 : k < n
    · simp [h2]
    · have : ¬ k - n = j - n := by omega
      simp [h2, this]
theorem ap_new {n : Nat} {w : Nat → va_E} {E : va_E} : ∀ k, k < n + 1 → va_up w n E k = ap n w (wl [E]) k := by
  intro k hk
  unfold va_up ap
  by_cases h : k = n
  · subst h; simp [wl]
  · rw [if_neg h, if_pos (by omega)]
theorem ap_ctor {n N : Nat} {w v : Nat → va_E} {E : va_E} : ∀ k, k < n + 1 + N → ap n w v k = if k < n then va_up w n E k else v (k - n) := by
  intro k hk
  unfold va_up ap
  by_cases h : k < n
  · rw [if_pos h, if_pos h, if_neg (by omega)]
  · rw [if_neg h, if_neg h]
/-- a family of sz cells each -/
def fam (sz : Nat) (v : Nat → Nat → va_E) : Nat → va_E := fun k => v (k / sz) (k % sz)
theorem fam_step {n0 sz i : Nat} {w : Nat → va_E} {v : Nat → Nat → va_E} (hz : 0 < sz) : ∀ k, k < n0 + sz * (i + 1) → ap (n0 + sz * i) (ap n0 w (fam sz v)) (v i) k = ap n0 w (fam sz v) k := by
  intro k hk
  unfold ap fam
  by_cases h : k < n0 + sz * i
  · rw [if_pos h]
  · rw [if_neg h, if_neg (by omega)]
    obtain ⟨j, rfl⟩ : ∃ j, k = n0 + sz * i + j := ⟨k - (n0 + sz * i), by omega⟩
    have hj : j < sz := by rw [Nat.mul_succ] at hk; omega
    rw [show n0 + sz * i + j - (n0 + sz * i) = j by omega, show n0 + sz * i + j - n0 = j + sz * i by omega, Nat.add_mul_div_left _ _ hz, Nat.add_mul_mod_self_left, Nat.div_eq_of_lt hj, Nat.mod_eq_of_lt hj, Nat.zero_add]
/-- the array of a family, so far -/
def fAr (b sz i : Nat) : Nat → Option Nat := fun j => if j < i then some (b + sz * j) else none
theorem fAr_step {b sz i : Nat} : va_up (fAr b sz i) i (some (b + sz * i)) = fAr b sz (i + 1) := by
  funext j
  unfold va_up fAr
  by_cases h : j = i
  · subst h; simp
  · rw [if_neg h]
    by_cases h2 : j < i
    · rw [if_pos h2, if_pos (by omega)]
    · rw [if_neg h2, if_neg (by omega)]
theorem fAr_0 {b sz : Nat} : (fun _ => none) = fAr b sz 0 := by
  funext j; simp [fAr]
theorem ap_in {n : Nat} {w v : Nat → va_E} : ∀ k, k < n → w k = ap n w v k := fun k hk => by unfold ap; rw [if_pos hk]
theorem ap_lt {n k : Nat} {w v : Nat → va_E} (h : k < n) : ap n w v k = w k := by unfold ap; rw [if_pos h]
theorem ap_ge {n k : Nat} {w v : Nat → va_E} (h : n ≤ k) : ap n w v k = v (k - n) := by unfold ap; rw [if_neg (by omega)]
section GC
variable {p : Program} {l : Launch} {e : Env} {R : Room} {s : State} {m : MethodId} {args : Array Value} {below : List Frame} {meth : Method} {c : Code} {D : va_G} {A : Nat → Prop} {cells slots : Nat} {Q : State → Prop} {n b0 : Nat} {ad : Nat → Nat} {w : Nat → va_E} {nL : Nat}
variable {cc : ByteArray} {own : String} {aC : Nat → ClassId} {pc : Nat} {lv : List (Nat × Value)} {st : List Value}
theorem j_cast {n' cells' slots' : Nat} (hn : n = n') (hc : cells = cells') (hs : slots = slots') (kk : J p l e R s m args below meth c D A cells' slots' Q n' ad w nL pc lv st) : J p l e R s m args below meth c D A cells slots Q n ad w nL pc lv st := by
  subst hn; subst hc; subst hs; exact kk
end GC
theorem wz_Lp : Cond.initialized R_Lp ∈ gw := by decide +kernel
theorem wd_Lp : ∀ j, j < 4 → defaultValue (t_Lp j) = vp_V [.null, .null, .null, .null] j := by decide
theorem wz_Bl : Cond.initialized R_Bl ∈ gw := by decide +kernel
theorem wd_Bl : ∀ j, j < 7 → defaultValue (t_Bl j) = vp_V [.int 0, .int 0, .int 0, .int 0, .int 0, .null, .int 0] j := by decide
theorem wz_Ck : Cond.initialized R_Ck ∈ gw := by decide +kernel
theorem wd_Ck : ∀ j, j < 2 → defaultValue (t_Ck j) = vp_V [.null, .int 0] j := by decide
theorem wz_Co : Cond.initialized R_Co ∈ gw := by decide +kernel
theorem wd_Co : ∀ j, j < 2 → defaultValue (t_Co j) = vp_V [.null, .int 0] j := by decide
theorem wz_Fr : Cond.initialized R_Fr ∈ gw := by decide +kernel
theorem wd_Fr : ∀ j, j < 4 → defaultValue (t_Fr j) = vp_V [.int 0, .int 0, .null, .int 0] j := by decide
theorem wz_Ma : Cond.initialized R_Ma ∈ gw := by decide +kernel
theorem wd_Ma : ∀ j, j < 9 → defaultValue (t_Ma j) = vp_V [.null, .null, .null, .null, .int 0, .int 0, .int 0, .int 0, .int 0] j := by decide
theorem wz_Pr : Cond.initialized R_Pr ∈ gw := by decide +kernel
theorem wd_Pr : ∀ j, j < 11 → defaultValue (t_Pr j) = vp_V [.null, .null, .int 0, .null, .null, .null, .int 0, .null, .null, .null, .int 0] j := by decide
theorem wz_Ta : Cond.initialized R_Ta ∈ gw := by decide +kernel
theorem wd_Ta : ∀ j, j < 7 → defaultValue (t_Ta j) = vp_V [.null, .int 0, .int 0, .int 0, .int 0, .int 0, .int 0] j := by decide
theorem wz_Tx : Cond.initialized R_Tx ∈ gw := by decide +kernel
theorem wd_Tx : ∀ j, j < 3 → defaultValue (t_Tx j) = vp_V [.null, .null, .int 0] j := by decide
theorem wz_Ty : Cond.initialized R_Ty ∈ gw := by decide +kernel
theorem wd_Ty : ∀ j, j < 2 → defaultValue (t_Ty j) = vp_V [.null, .int 0] j := by decide
theorem wz_Mo : Cond.initialized R_Mo ∈ gw := by decide +kernel
theorem wd_Mo : ∀ j, j < 38 → defaultValue (t_Mo j) = vp_V [.int 0, .int 0, .null, .null, .null, .null, .null, .null, .null, .null, .null, .null, .null, .null, .null, .null, .null, .null, .int 0, .null, .null, .null, .null, .null, .null, .int 0, .null, .null, .null, .null, .null, .int 0, .int 0, .int 0, .int 0, .int 0, .null, .null] j := by decide
theorem wc_Co_9 : Cond.classLink R_Co 9 R_Bl ∈ gw := by decide +kernel
theorem wi_Co_17 : Cond.methodLink R_Co 17 y_Bl_init ∈ gw := by decide +kernel
def e0_Co : va_E := .inr (3, [.null, .int 0])
def c_Co (aC : Nat → ClassId) (b0 : Nat) : Nat → va_E := ap 2 (ap 1 (wl [.inr (3, [.ref (b0 + 1), .int 0])]) (wl [.inl (aC 2, 5, .inr (.inr (.inr (.inr (fAr (b0 + 2) 2 5)))))])) (fam 2 (fun i => c_Bl aC (b0 + 2 + 2 * i)))
set_option maxRecDepth 100000 in
theorem ok_Co_init {l : Launch} {D : va_G} {aC : Nat → ClassId} {b0 : Nat} : OkI l y_Co_init b_Co_init 2 (romI 2 11 41 140) D aC b0 e0_Co 11 140 (c_Co aC b0) := by
  refine gi_start (by decide) rfl (by decide) ?_
  intro p e s m args below meth c B hao hb0 hs0 hnm hr hlk hml
  have B : Cx p s m c args b_Co_init R_Co D aC (fun q => b0 ≤ q) 1 (fun k => b0 + k) := B
  refine j_wc (wl [.inr (3, [.null, .int 0])]) (wl_one _) ?_
  refine j_aloadn B d_Co_init_0 rfl ?_
  refine g_objI B hml wo_Co wi_o wi_c ⟨by decide, by decide⟩ (Nat.le_of_ble_eq_true rfl) d_Co_init_1 ?_
  refine j_aloadn B d_Co_init_4 rfl ?_
  refine j_iconst (v := 5) B d_Co_init_5 (by decide) ?_
  refine g_newq B hb0 (by omega) (N := 5) (t := 2) rfl (by decide) wc_Co_9 (hao R_Bl (by decide)) rfl ⟨by decide, by decide⟩ d_Co_init_6 ?_
  rw [fAr_0 (b := b0 + 2) (sz := 2)]
  refine j_wc _ ap_new ?_
  have B := B.gr (n' := 2)
  refine g_putr (k := 0) B hnm fl_Co_11 wp_Co_11 rfl rfl (by decide) rfl (Nat.le_of_ble_eq_true rfl) d_Co_init_9 rfl ?_
  rw [ap_l (show 0 < 1 by decide)]
  rw [wl_set _ _ _ (Nat.le_of_ble_eq_true rfl)]
  refine j_iconst (v := 0) B d_Co_init_12 (by decide) ?_
  refine j_istoren B d_Co_init_13 (by decide) ?_
  have loop : ∀ d i, i + d = 5 → J p l e (romI 2 11 41 140) s m args below meth c D (fun q => b0 ≤ q) (1 + 2 * i) (5 + 27 * i) (MQ below (Qi D b0 (11 + 1) (c_Co aC b0)) args s 11 140 (fun q => b0 ≤ q)) (2 + 2 * i) (fun k => b0 + k) (ap 2 (ap 1 (wl [.inr (3, [.ref (b0 + 1), .int 0])]) (wl [.inl (aC 2, 5, .inr (.inr (.inr (.inr (fAr (b0 + 2) 2 i)))))])) (fam 2 (fun i => c_Bl aC (b0 + 2 + 2 * i)))) 2 14 [(1, .int (nI i)), (0, .ref b0)] [] := by
    intro d
    induction d with
    | zero =>
      intro i hi
      obtain rfl : i = 5 := by omega
      have B := B.gr (n' := 2 + 2 * 5)
      refine j_iloadn B d_Co_init_14 rfl ?_
      refine j_iconst (v := 5) B d_Co_init_15 (by decide) ?_
      refine j_icmp_ge (tgt := 38) B d_Co_init_16 (by decide) (fun _ => ?_) (fun h => absurd (by decide) h)
      refine j_cast (n' := 12) (cells' := 11) (slots' := 140) rfl rfl rfl ?_
      exact g_vret B hr hlk d_Co_init_38 (fun _ _ => rfl)
    | succ d ih =>
      intro i hi
      have B := B.gr (n' := 2 + 2 * i)
      refine j_iloadn B d_Co_init_14 rfl ?_
      refine j_iconst (v := nI 5) B d_Co_init_15 (by decide) ?_
      refine j_icmp_ge (tgt := 38) B d_Co_init_16 (by decide) (fun h => absurd (nIle h (by decide) (by omega)) (by omega)) (fun _ => ?_)
      refine j_aloadn B d_Co_init_19 rfl ?_
      refine j_getv (k := 0) B fl_Co_11 (by omega) rfl rfl d_Co_init_20 ?_
      refine j_iloadn B d_Co_init_23 rfl ?_
      refine g_new B hb0 (by omega) (ci := 1) rfl i_Bl t_Bl_ok wc_Co_9 wk_Bl wz_Bl wd_Bl ⟨by show _ ≤ 11; omega, by show _ ≤ 140; omega⟩ d_Co_init_24 ?_
      have B1 := B.gr (n' := 2 + 2 * i + 1)
      refine j_dup B1 d_Co_init_27 rfl ?_
      refine g_ctor B1 hao (by omega) hml (w2 := ap (2 + 2 * i) (ap 2 (ap 1 (wl [.inr (3, [.ref (b0 + 1), .int 0])]) (wl [.inl (aC 2, 5, .inr (.inr (.inr (.inr (fAr (b0 + 2) 2 i)))))])) (fam 2 (fun i => c_Bl aC (b0 + 2 + 2 * i)))) (c_Bl aC (b0 + (2 + 2 * i)))) (ok_Bl_init (b0 := b0 + (2 + 2 * i))) wb_Bl rfl wm_Bl wi_Co_17 (by simp [va_up, e0_Bl]) ⟨rfl, rfl, by decide, by decide⟩ ⟨by show _ ≤ 11; omega, by show _ ≤ 140; omega⟩ (Nat.le_of_ble_eq_true rfl) d_Co_init_28 rfl ap_ctor ?_
      have B2 := B.gr (n' := 2 + 2 * i + 1 + 1)
      refine g_aast (k := 1) (k1 := 2 + 2 * i) (t := 2) (N := 5) (a := i) (f := fAr (b0 + 2) 2 i) B2 (by omega) (by rw [ap_lt (by omega)]; rfl) (by omega) (by rw [ap_ge (Nat.le_refl _), Nat.sub_self]; rfl) (ci := 1) rfl rfl ⟨rfl, by omega, by decide⟩ d_Co_init_31 rfl rfl ?_
      rw [show b0 + (2 + 2 * i) = b0 + 2 + 2 * i by omega, fAr_step, ap_l (show 1 < 2 + 2 * i by omega), ap_l (show 1 < 2 by decide), ap_r (show 1 ≤ 1 by decide), wl_set _ _ _ (Nat.le_of_ble_eq_true rfl)]
      refine j_iinc B2 d_Co_init_32 rfl (by decide) (nI_1 i) ?_
      refine j_goto (tgt := 14) B2 d_Co_init_35 (by decide) ?_
      refine j_loc [(1, .int (nI (i + 1))), (0, .ref b0)] ⟨rfl, rfl, trivial⟩ ?_
      refine j_cast (n' := 2 + 2 * (i + 1)) (cells' := 1 + 2 * (i + 1)) (slots' := 5 + 27 * (i + 1)) (by omega) (by omega) (by omega) ?_
      refine j_wc _ (fam_step (v := fun i => c_Bl aC (b0 + 2 + 2 * i)) (by decide)) ?_
      exact ih (i + 1) (by omega)
  refine j_wc _ (ap_in (v := fam 2 (fun i => c_Bl aC (b0 + 2 + 2 * i)))) ?_
  refine j_loc [(1, .int (nI 0)), (0, .ref b0)] ⟨rfl, rfl, trivial⟩ ?_
  exact loop 5 0 (Nat.zero_add _)
theorem wc_Ma_9 : Cond.classLink R_Ma 9 R_Ty ∈ gw := by decide +kernel
theorem wi_Ma_11 : Cond.methodLink R_Ma 11 y_Ty_init ∈ gw := by decide +kernel
theorem wc_Ma_18 : Cond.classLink R_Ma 18 R_Ta ∈ gw := by decide +kernel
theorem wi_Ma_20 : Cond.methodLink R_Ma 20 y_Ta_init ∈ gw := by decide +kernel
theorem wc_Ma_25 : Cond.classLink R_Ma 25 R_Pr ∈ gw := by decide +kernel
theorem wi_Ma_31 : Cond.methodLink R_Ma 31 y_Pr_init ∈ gw := by decide +kernel
theorem wc_Ma_32 : Cond.classLink R_Ma 32 R_Fr ∈ gw := by decide +kernel
theorem wi_Ma_38 : Cond.methodLink R_Ma 38 y_Fr_init ∈ gw := by decide +kernel
def e0_Ma : va_E := .inr (5, [.null, .null, .null, .null, .int 0, .int 0, .int 0, .int 0, .int 0])
def c_Ma (aC : Nat → ClassId) (b0 : Nat) : Nat → va_E := ap 61 (ap 60 (ap 6 (ap 5 (ap 3 (ap 1 (wl [.inr (5, [.ref (b0 + 1), .ref (b0 + 5), .ref (b0 + 3), .ref (b0 + 60), .int 0, .int 0, .int 0, .int 0, .int 0])]) (c_Ty aC (b0 + 1))) (c_Ta aC (b0 + 3))) (wl [.inl (aC 3, 6, .inr (.inr (.inr (.inr (fAr (b0 + 6) 9 6)))))])) (fam 9 (fun i => c_Pr aC (b0 + 6 + 9 * i)))) (wl [.inl (aC 4, 8, .inr (.inr (.inr (.inr (fAr (b0 + 61) 2 8)))))])) (fam 2 (fun i => c_Fr aC (b0 + 61 + 2 * i)))
set_option maxRecDepth 100000 in
theorem ok_Ma_init {l : Launch} {D : va_G} {aC : Nat → ClassId} {b0 : Nat} : OkI l y_Ma_init b_Ma_init 2 (romI 2 76 41 2281) D aC b0 e0_Ma 76 2281 (c_Ma aC b0) := by
  refine gi_start (by decide) rfl (by decide) ?_
  intro p e s m args below meth c B hao hb0 hs0 hnm hr hlk hml
  have B : Cx p s m c args b_Ma_init R_Ma D aC (fun q => b0 ≤ q) 1 (fun k => b0 + k) := B
  refine j_wc (wl [.inr (5, [.null, .null, .null, .null, .int 0, .int 0, .int 0, .int 0, .int 0])]) (wl_one _) ?_
  refine j_aloadn B d_Ma_init_0 rfl ?_
  refine g_objI B hml wo_Ma wi_o wi_c ⟨by decide, by decide⟩ (Nat.le_of_ble_eq_true rfl) d_Ma_init_1 ?_
  refine j_aloadn B d_Ma_init_4 rfl ?_
  refine g_new B hb0 (by omega) (ci := 9) rfl i_Ty t_Ty_ok wc_Ma_9 wk_Ty wz_Ty wd_Ty ⟨by decide, by decide⟩ d_Ma_init_5 ?_
  have B := B.gr (n' := 2)
  refine j_dup B d_Ma_init_8 rfl ?_
  refine g_ctor B hao (by omega) hml (w2 := ap 1 (wl [.inr (5, [.null, .null, .null, .null, .int 0, .int 0, .int 0, .int 0, .int 0])]) (c_Ty aC (b0 + 1))) (ok_Ty_init (b0 := b0 + 1)) wb_Ty rfl wm_Ty wi_Ma_11 (by simp [va_up, e0_Ty]) ⟨rfl, rfl, by decide, by decide⟩ ⟨by decide, by decide⟩ (Nat.le_of_ble_eq_true rfl) d_Ma_init_9 rfl ap_ctor ?_
  have B := B.gr (n' := 3)
  refine g_putr (k := 0) B hnm fl_Ma_12 wp_Ma_12 rfl rfl (by decide) rfl (Nat.le_of_ble_eq_true rfl) d_Ma_init_12 rfl ?_
  rw [ap_l (show 0 < 1 by decide)]
  rw [wl_set _ _ _ (Nat.le_of_ble_eq_true rfl)]
  refine j_aloadn B d_Ma_init_15 rfl ?_
  refine g_new B hb0 (by omega) (ci := 7) rfl i_Ta t_Ta_ok wc_Ma_18 wk_Ta wz_Ta wd_Ta ⟨by decide, by decide⟩ d_Ma_init_16 ?_
  have B := B.gr (n' := 4)
  refine j_dup B d_Ma_init_19 rfl ?_
  refine g_ctor B hao (by omega) hml (w2 := ap 3 (ap 1 (wl [.inr (5, [.ref (b0 + 1), .null, .null, .null, .int 0, .int 0, .int 0, .int 0, .int 0])]) (c_Ty aC (b0 + 1))) (c_Ta aC (b0 + 3))) (ok_Ta_init (b0 := b0 + 3)) wb_Ta rfl wm_Ta wi_Ma_20 (by simp [va_up, e0_Ta]) ⟨rfl, rfl, by decide, by decide⟩ ⟨by decide, by decide⟩ (Nat.le_of_ble_eq_true rfl) d_Ma_init_20 rfl ap_ctor ?_
  have B := B.gr (n' := 5)
  refine g_putr (k := 0) B hnm fl_Ma_21 wp_Ma_21 rfl rfl (by decide) rfl (Nat.le_of_ble_eq_true rfl) d_Ma_init_23 rfl ?_
  rw [ap_l (show 0 < 3 by decide)]
  rw [ap_l (show 0 < 1 by decide)]
  rw [wl_set _ _ _ (Nat.le_of_ble_eq_true rfl)]
  refine j_aloadn B d_Ma_init_26 rfl ?_
  refine j_bipush (v := 6) B d_Ma_init_27 (by decide) ?_
  refine g_newq B hb0 (by omega) (N := 6) (t := 3) rfl (by decide) wc_Ma_25 (hao R_Pr (by decide)) rfl ⟨by decide, by decide⟩ d_Ma_init_29 ?_
  rw [fAr_0 (b := b0 + 6) (sz := 9)]
  refine j_wc _ ap_new ?_
  have B := B.gr (n' := 6)
  refine g_putr (k := 0) B hnm fl_Ma_27 wp_Ma_27 rfl rfl (by decide) rfl (Nat.le_of_ble_eq_true rfl) d_Ma_init_32 rfl ?_
  rw [ap_l (show 0 < 5 by decide)]
  rw [ap_l (show 0 < 3 by decide)]
  rw [ap_l (show 0 < 1 by decide)]
  rw [wl_set _ _ _ (Nat.le_of_ble_eq_true rfl)]
  refine j_iconst (v := 0) B d_Ma_init_35 (by decide) ?_
  refine j_istoren B d_Ma_init_36 (by decide) ?_
  have loop : ∀ d i, i + d = 6 → J p l e (romI 2 76 41 2281) s m args below meth c D (fun q => b0 ≤ q) (5 + 9 * i) (83 + 353 * i) (MQ below (Qi D b0 (76 + 1) (c_Ma aC b0)) args s 76 2281 (fun q => b0 ≤ q)) (6 + 9 * i) (fun k => b0 + k) (ap 6 (ap 5 (ap 3 (ap 1 (wl [.inr (5, [.ref (b0 + 1), .ref (b0 + 5), .ref (b0 + 3), .null, .int 0, .int 0, .int 0, .int 0, .int 0])]) (c_Ty aC (b0 + 1))) (c_Ta aC (b0 + 3))) (wl [.inl (aC 3, 6, .inr (.inr (.inr (.inr (fAr (b0 + 6) 9 i)))))])) (fam 9 (fun i => c_Pr aC (b0 + 6 + 9 * i)))) 2 37 [(1, .int (nI i)), (0, .ref b0)] [] := by
    intro d
    induction d with
    | zero =>
      intro i hi
      obtain rfl : i = 6 := by omega
      have B := B.gr (n' := 6 + 9 * 6)
      refine j_iloadn B d_Ma_init_37 rfl ?_
      refine j_bipush (v := 6) B d_Ma_init_38 (by decide) ?_
      refine j_icmp_ge (tgt := 62) B d_Ma_init_40 (by decide) (fun _ => ?_) (fun h => absurd (by decide) h)
      refine j_cast (n' := 60) (cells' := 59) (slots' := 2201) rfl rfl rfl ?_
      refine j_aloadn B d_Ma_init_62 rfl ?_
      refine j_bipush (v := 8) B d_Ma_init_63 (by decide) ?_
      refine g_newq B hb0 (by omega) (N := 8) (t := 4) rfl (by decide) wc_Ma_32 (hao R_Fr (by decide)) rfl ⟨by decide, by decide⟩ d_Ma_init_65 ?_
      rw [fAr_0 (b := b0 + 61) (sz := 2)]
      refine j_wc _ ap_new ?_
      have B := B.gr (n' := 61)
      refine g_putr (k := 0) B hnm fl_Ma_34 wp_Ma_34 rfl rfl (by decide) rfl (Nat.le_of_ble_eq_true rfl) d_Ma_init_68 rfl ?_
      rw [ap_l (show 0 < 60 by decide)]
      rw [ap_l (show 0 < 6 by decide)]
      rw [ap_l (show 0 < 5 by decide)]
      rw [ap_l (show 0 < 3 by decide)]
      rw [ap_l (show 0 < 1 by decide)]
      rw [wl_set _ _ _ (Nat.le_of_ble_eq_true rfl)]
      refine j_iconst (v := 0) B d_Ma_init_71 (by decide) ?_
      refine j_istoren B d_Ma_init_72 (by decide) ?_
      have loop : ∀ d i, i + d = 8 → J p l e (romI 2 76 41 2281) s m args below meth c D (fun q => b0 ≤ q) (60 + 2 * i) (2209 + 9 * i) (MQ below (Qi D b0 (76 + 1) (c_Ma aC b0)) args s 76 2281 (fun q => b0 ≤ q)) (61 + 2 * i) (fun k => b0 + k) (ap 61 (ap 60 (ap 6 (ap 5 (ap 3 (ap 1 (wl [.inr (5, [.ref (b0 + 1), .ref (b0 + 5), .ref (b0 + 3), .ref (b0 + 60), .int 0, .int 0, .int 0, .int 0, .int 0])]) (c_Ty aC (b0 + 1))) (c_Ta aC (b0 + 3))) (wl [.inl (aC 3, 6, .inr (.inr (.inr (.inr (fAr (b0 + 6) 9 6)))))])) (fam 9 (fun i => c_Pr aC (b0 + 6 + 9 * i)))) (wl [.inl (aC 4, 8, .inr (.inr (.inr (.inr (fAr (b0 + 61) 2 i)))))])) (fam 2 (fun i => c_Fr aC (b0 + 61 + 2 * i)))) 2 73 [(1, .int (nI i)), (0, .ref b0)] [] := by
        intro d
        induction d with
        | zero =>
          intro i hi
          obtain rfl : i = 8 := by omega
          have B := B.gr (n' := 61 + 2 * 8)
          refine j_iloadn B d_Ma_init_73 rfl ?_
          refine j_bipush (v := 8) B d_Ma_init_74 (by decide) ?_
          refine j_icmp_ge (tgt := 98) B d_Ma_init_76 (by decide) (fun _ => ?_) (fun h => absurd (by decide) h)
          refine j_cast (n' := 77) (cells' := 76) (slots' := 2281) rfl rfl rfl ?_
          exact g_vret B hr hlk d_Ma_init_98 (fun _ _ => rfl)
        | succ d ih =>
          intro i hi
          have B := B.gr (n' := 61 + 2 * i)
          refine j_iloadn B d_Ma_init_73 rfl ?_
          refine j_bipush (v := nI 8) B d_Ma_init_74 (by decide) ?_
          refine j_icmp_ge (tgt := 98) B d_Ma_init_76 (by decide) (fun h => absurd (nIle h (by decide) (by omega)) (by omega)) (fun _ => ?_)
          refine j_aloadn B d_Ma_init_79 rfl ?_
          refine j_getv (k := 0) B fl_Ma_34 (by omega) rfl rfl d_Ma_init_80 ?_
          refine j_iloadn B d_Ma_init_83 rfl ?_
          refine g_new B hb0 (by omega) (ci := 4) rfl i_Fr t_Fr_ok wc_Ma_32 wk_Fr wz_Fr wd_Fr ⟨by show _ ≤ 76; omega, by show _ ≤ 2281; omega⟩ d_Ma_init_84 ?_
          have B1 := B.gr (n' := 61 + 2 * i + 1)
          refine j_dup B1 d_Ma_init_87 rfl ?_
          refine g_ctor B1 hao (by omega) hml (w2 := ap (61 + 2 * i) (ap 61 (ap 60 (ap 6 (ap 5 (ap 3 (ap 1 (wl [.inr (5, [.ref (b0 + 1), .ref (b0 + 5), .ref (b0 + 3), .ref (b0 + 60), .int 0, .int 0, .int 0, .int 0, .int 0])]) (c_Ty aC (b0 + 1))) (c_Ta aC (b0 + 3))) (wl [.inl (aC 3, 6, .inr (.inr (.inr (.inr (fAr (b0 + 6) 9 6)))))])) (fam 9 (fun i => c_Pr aC (b0 + 6 + 9 * i)))) (wl [.inl (aC 4, 8, .inr (.inr (.inr (.inr (fAr (b0 + 61) 2 i)))))])) (fam 2 (fun i => c_Fr aC (b0 + 61 + 2 * i)))) (c_Fr aC (b0 + (61 + 2 * i)))) (ok_Fr_init (b0 := b0 + (61 + 2 * i))) wb_Fr rfl wm_Fr wi_Ma_38 (by simp [va_up, e0_Fr]) ⟨rfl, rfl, by decide, by decide⟩ ⟨by show _ ≤ 76; omega, by show _ ≤ 2281; omega⟩ (Nat.le_of_ble_eq_true rfl) d_Ma_init_88 rfl ap_ctor ?_
          have B2 := B.gr (n' := 61 + 2 * i + 1 + 1)
          refine g_aast (k := 60) (k1 := 61 + 2 * i) (t := 4) (N := 8) (a := i) (f := fAr (b0 + 61) 2 i) B2 (by omega) (by rw [ap_lt (by omega)]; rfl) (by omega) (by rw [ap_ge (Nat.le_refl _), Nat.sub_self]; rfl) (ci := 4) rfl rfl ⟨rfl, by omega, by decide⟩ d_Ma_init_91 rfl rfl ?_
          rw [show b0 + (61 + 2 * i) = b0 + 61 + 2 * i by omega, fAr_step, ap_l (show 60 < 61 + 2 * i by omega), ap_l (show 60 < 61 by decide), ap_r (show 60 ≤ 60 by decide), wl_set _ _ _ (Nat.le_of_ble_eq_true rfl)]
          refine j_iinc B2 d_Ma_init_92 rfl (by decide) (nI_1 i) ?_
          refine j_goto (tgt := 73) B2 d_Ma_init_95 (by decide) ?_
          refine j_loc [(1, .int (nI (i + 1))), (0, .ref b0)] ⟨rfl, rfl, trivial⟩ ?_
          refine j_cast (n' := 61 + 2 * (i + 1)) (cells' := 60 + 2 * (i + 1)) (slots' := 2209 + 9 * (i + 1)) (by omega) (by omega) (by omega) ?_
          refine j_wc _ (fam_step (v := fun i => c_Fr aC (b0 + 61 + 2 * i)) (by decide)) ?_
          exact ih (i + 1) (by omega)
      refine j_wc _ (ap_in (v := fam 2 (fun i => c_Fr aC (b0 + 61 + 2 * i)))) ?_
      refine j_loc [(1, .int (nI 0)), (0, .ref b0)] ⟨rfl, rfl, trivial⟩ ?_
      exact loop 8 0 (Nat.zero_add _)
    | succ d ih =>
      intro i hi
      have B := B.gr (n' := 6 + 9 * i)
      refine j_iloadn B d_Ma_init_37 rfl ?_
      refine j_bipush (v := nI 6) B d_Ma_init_38 (by decide) ?_
      refine j_icmp_ge (tgt := 62) B d_Ma_init_40 (by decide) (fun h => absurd (nIle h (by decide) (by omega)) (by omega)) (fun _ => ?_)
      refine j_aloadn B d_Ma_init_43 rfl ?_
      refine j_getv (k := 0) B fl_Ma_27 (by omega) rfl rfl d_Ma_init_44 ?_
      refine j_iloadn B d_Ma_init_47 rfl ?_
      refine g_new B hb0 (by omega) (ci := 6) rfl i_Pr t_Pr_ok wc_Ma_25 wk_Pr wz_Pr wd_Pr ⟨by show _ ≤ 76; omega, by show _ ≤ 2281; omega⟩ d_Ma_init_48 ?_
      have B1 := B.gr (n' := 6 + 9 * i + 1)
      refine j_dup B1 d_Ma_init_51 rfl ?_
      refine g_ctor B1 hao (by omega) hml (w2 := ap (6 + 9 * i) (ap 6 (ap 5 (ap 3 (ap 1 (wl [.inr (5, [.ref (b0 + 1), .ref (b0 + 5), .ref (b0 + 3), .null, .int 0, .int 0, .int 0, .int 0, .int 0])]) (c_Ty aC (b0 + 1))) (c_Ta aC (b0 + 3))) (wl [.inl (aC 3, 6, .inr (.inr (.inr (.inr (fAr (b0 + 6) 9 i)))))])) (fam 9 (fun i => c_Pr aC (b0 + 6 + 9 * i)))) (c_Pr aC (b0 + (6 + 9 * i)))) (ok_Pr_init (b0 := b0 + (6 + 9 * i))) wb_Pr rfl wm_Pr wi_Ma_31 (by simp [va_up, e0_Pr]) ⟨rfl, rfl, by decide, by decide⟩ ⟨by show _ ≤ 76; omega, by show _ ≤ 2281; omega⟩ (Nat.le_of_ble_eq_true rfl) d_Ma_init_52 rfl ap_ctor ?_
      have B2 := B.gr (n' := 6 + 9 * i + 1 + 8)
      refine g_aast (k := 5) (k1 := 6 + 9 * i) (t := 3) (N := 6) (a := i) (f := fAr (b0 + 6) 9 i) B2 (by omega) (by rw [ap_lt (by omega)]; rfl) (by omega) (by rw [ap_ge (Nat.le_refl _), Nat.sub_self]; rfl) (ci := 6) rfl rfl ⟨rfl, by omega, by decide⟩ d_Ma_init_55 rfl rfl ?_
      rw [show b0 + (6 + 9 * i) = b0 + 6 + 9 * i by omega, fAr_step, ap_l (show 5 < 6 + 9 * i by omega), ap_l (show 5 < 6 by decide), ap_r (show 5 ≤ 5 by decide), wl_set _ _ _ (Nat.le_of_ble_eq_true rfl)]
      refine j_iinc B2 d_Ma_init_56 rfl (by decide) (nI_1 i) ?_
      refine j_goto (tgt := 37) B2 d_Ma_init_59 (by decide) ?_
      refine j_loc [(1, .int (nI (i + 1))), (0, .ref b0)] ⟨rfl, rfl, trivial⟩ ?_
      refine j_cast (n' := 6 + 9 * (i + 1)) (cells' := 5 + 9 * (i + 1)) (slots' := 83 + 353 * (i + 1)) (by omega) (by omega) (by omega) ?_
      refine j_wc _ (fam_step (v := fun i => c_Pr aC (b0 + 6 + 9 * i)) (by decide)) ?_
      exact ih (i + 1) (by omega)
  refine j_wc _ (ap_in (v := fam 9 (fun i => c_Pr aC (b0 + 6 + 9 * i)))) ?_
  refine j_loc [(1, .int (nI 0)), (0, .ref b0)] ⟨rfl, rfl, trivial⟩ ?_
  exact loop 6 0 (Nat.zero_add _)
theorem wc_Lp_9 : Cond.classLink R_Lp 9 R_Tx ∈ gw := by decide +kernel
theorem wi_Lp_15 : Cond.methodLink R_Lp 15 y_Tx_init ∈ gw := by decide +kernel
theorem wc_Lp_16 : Cond.classLink R_Lp 16 R_Ck ∈ gw := by decide +kernel
theorem wi_Lp_18 : Cond.methodLink R_Lp 18 y_Ck_init ∈ gw := by decide +kernel
theorem wc_Lp_23 : Cond.classLink R_Lp 23 R_Co ∈ gw := by decide +kernel
theorem wi_Lp_25 : Cond.methodLink R_Lp 25 y_Co_init ∈ gw := by decide +kernel
theorem wc_Lp_30 : Cond.classLink R_Lp 30 R_Ma ∈ gw := by decide +kernel
theorem wi_Lp_32 : Cond.methodLink R_Lp 32 y_Ma_init ∈ gw := by decide +kernel
def e0_Lp : va_E := .inr (0, [.null, .null, .null, .null])
def c_Lp (aC : Nat → ClassId) (b0 : Nat) : Nat → va_E := ap 34 (ap 22 (ap 20 (ap 2 (ap 1 (wl [.inr (0, [.ref (b0 + 1), .ref (b0 + 20), .ref (b0 + 22), .ref (b0 + 34)])]) (wl [.inl (aC 1, 6, .inr (.inr (.inr (.inr (fAr (b0 + 2) 3 6)))))])) (fam 3 (fun i => c_Tx aC (b0 + 2 + 3 * i)))) (c_Ck aC (b0 + 20))) (c_Co aC (b0 + 22))) (c_Ma aC (b0 + 34))
set_option maxRecDepth 100000 in
theorem ok_Lp_init {l : Launch} {D : va_G} {aC : Nat → ClassId} {b0 : Nat} : OkI l y_Lp_init b_Lp_init 2 (romI 3 110 62 2703) D aC b0 e0_Lp 110 2703 (c_Lp aC b0) := by
  refine gi_start (by decide) rfl (by decide) ?_
  intro p e s m args below meth c B hao hb0 hs0 hnm hr hlk hml
  have B : Cx p s m c args b_Lp_init R_Lp D aC (fun q => b0 ≤ q) 1 (fun k => b0 + k) := B
  refine j_wc (wl [.inr (0, [.null, .null, .null, .null])]) (wl_one _) ?_
  refine j_aloadn B d_Lp_init_0 rfl ?_
  refine g_objI B hml wo_Lp wi_o wi_c ⟨by decide, by decide⟩ (Nat.le_of_ble_eq_true rfl) d_Lp_init_1 ?_
  refine j_aloadn B d_Lp_init_4 rfl ?_
  refine j_bipush (v := 6) B d_Lp_init_5 (by decide) ?_
  refine g_newq B hb0 (by omega) (N := 6) (t := 1) rfl (by decide) wc_Lp_9 (hao R_Tx (by decide)) rfl ⟨by decide, by decide⟩ d_Lp_init_7 ?_
  rw [fAr_0 (b := b0 + 2) (sz := 3)]
  refine j_wc _ ap_new ?_
  have B := B.gr (n' := 2)
  refine g_putr (k := 0) B hnm fl_Lp_11 wp_Lp_11 rfl rfl (by decide) rfl (Nat.le_of_ble_eq_true rfl) d_Lp_init_10 rfl ?_
  rw [ap_l (show 0 < 1 by decide)]
  rw [wl_set _ _ _ (Nat.le_of_ble_eq_true rfl)]
  refine j_iconst (v := 0) B d_Lp_init_13 (by decide) ?_
  refine j_istoren B d_Lp_init_14 (by decide) ?_
  have loop : ∀ d i, i + d = 6 → J p l e (romI 3 110 62 2703) s m args below meth c D (fun q => b0 ≤ q) (1 + 3 * i) (6 + 43 * i) (MQ below (Qi D b0 (110 + 1) (c_Lp aC b0)) args s 110 2703 (fun q => b0 ≤ q)) (2 + 3 * i) (fun k => b0 + k) (ap 2 (ap 1 (wl [.inr (0, [.ref (b0 + 1), .null, .null, .null])]) (wl [.inl (aC 1, 6, .inr (.inr (.inr (.inr (fAr (b0 + 2) 3 i)))))])) (fam 3 (fun i => c_Tx aC (b0 + 2 + 3 * i)))) 2 15 [(1, .int (nI i)), (0, .ref b0)] [] := by
    intro d
    induction d with
    | zero =>
      intro i hi
      obtain rfl : i = 6 := by omega
      have B := B.gr (n' := 2 + 3 * 6)
      refine j_iloadn B d_Lp_init_15 rfl ?_
      refine j_bipush (v := 6) B d_Lp_init_16 (by decide) ?_
      refine j_icmp_ge (tgt := 40) B d_Lp_init_18 (by decide) (fun _ => ?_) (fun h => absurd (by decide) h)
      refine j_cast (n' := 20) (cells' := 19) (slots' := 264) rfl rfl rfl ?_
      refine j_aloadn B d_Lp_init_40 rfl ?_
      refine g_new B hb0 (by omega) (ci := 2) rfl i_Ck t_Ck_ok wc_Lp_16 wk_Ck wz_Ck wd_Ck ⟨by decide, by decide⟩ d_Lp_init_41 ?_
      have B := B.gr (n' := 21)
      refine j_dup B d_Lp_init_44 rfl ?_
      refine g_ctor B hao (by omega) hml (w2 := ap 20 (ap 2 (ap 1 (wl [.inr (0, [.ref (b0 + 1), .null, .null, .null])]) (wl [.inl (aC 1, 6, .inr (.inr (.inr (.inr (fAr (b0 + 2) 3 6)))))])) (fam 3 (fun i => c_Tx aC (b0 + 2 + 3 * i)))) (c_Ck aC (b0 + 20))) (ok_Ck_init (b0 := b0 + 20)) wb_Ck rfl wm_Ck wi_Lp_18 (by simp [va_up, e0_Ck]) ⟨rfl, rfl, by decide, by decide⟩ ⟨by decide, by decide⟩ (Nat.le_of_ble_eq_true rfl) d_Lp_init_45 rfl ap_ctor ?_
      have B := B.gr (n' := 22)
      refine g_putr (k := 0) B hnm fl_Lp_19 wp_Lp_19 rfl rfl (by decide) rfl (Nat.le_of_ble_eq_true rfl) d_Lp_init_48 rfl ?_
      rw [ap_l (show 0 < 20 by decide)]
      rw [ap_l (show 0 < 2 by decide)]
      rw [ap_l (show 0 < 1 by decide)]
      rw [wl_set _ _ _ (Nat.le_of_ble_eq_true rfl)]
      refine j_aloadn B d_Lp_init_51 rfl ?_
      refine g_new B hb0 (by omega) (ci := 3) rfl i_Co t_Co_ok wc_Lp_23 wk_Co wz_Co wd_Co ⟨by decide, by decide⟩ d_Lp_init_52 ?_
      have B := B.gr (n' := 23)
      refine j_dup B d_Lp_init_55 rfl ?_
      refine g_ctor B hao (by omega) hml (w2 := ap 22 (ap 20 (ap 2 (ap 1 (wl [.inr (0, [.ref (b0 + 1), .ref (b0 + 20), .null, .null])]) (wl [.inl (aC 1, 6, .inr (.inr (.inr (.inr (fAr (b0 + 2) 3 6)))))])) (fam 3 (fun i => c_Tx aC (b0 + 2 + 3 * i)))) (c_Ck aC (b0 + 20))) (c_Co aC (b0 + 22))) (ok_Co_init (b0 := b0 + 22)) wb_Co rfl wm_Co wi_Lp_25 (by simp [va_up, e0_Co]) ⟨rfl, rfl, by decide, by decide⟩ ⟨by decide, by decide⟩ (Nat.le_of_ble_eq_true rfl) d_Lp_init_56 rfl ap_ctor ?_
      have B := B.gr (n' := 34)
      refine g_putr (k := 0) B hnm fl_Lp_26 wp_Lp_26 rfl rfl (by decide) rfl (Nat.le_of_ble_eq_true rfl) d_Lp_init_59 rfl ?_
      rw [ap_l (show 0 < 22 by decide)]
      rw [ap_l (show 0 < 20 by decide)]
      rw [ap_l (show 0 < 2 by decide)]
      rw [ap_l (show 0 < 1 by decide)]
      rw [wl_set _ _ _ (Nat.le_of_ble_eq_true rfl)]
      refine j_aloadn B d_Lp_init_62 rfl ?_
      refine g_new B hb0 (by omega) (ci := 5) rfl i_Ma t_Ma_ok wc_Lp_30 wk_Ma wz_Ma wd_Ma ⟨by decide, by decide⟩ d_Lp_init_63 ?_
      have B := B.gr (n' := 35)
      refine j_dup B d_Lp_init_66 rfl ?_
      refine g_ctor B hao (by omega) hml (w2 := ap 34 (ap 22 (ap 20 (ap 2 (ap 1 (wl [.inr (0, [.ref (b0 + 1), .ref (b0 + 20), .ref (b0 + 22), .null])]) (wl [.inl (aC 1, 6, .inr (.inr (.inr (.inr (fAr (b0 + 2) 3 6)))))])) (fam 3 (fun i => c_Tx aC (b0 + 2 + 3 * i)))) (c_Ck aC (b0 + 20))) (c_Co aC (b0 + 22))) (c_Ma aC (b0 + 34))) (ok_Ma_init (b0 := b0 + 34)) wb_Ma rfl wm_Ma wi_Lp_32 (by simp [va_up, e0_Ma]) ⟨rfl, rfl, by decide, by decide⟩ ⟨by decide, by decide⟩ (Nat.le_of_ble_eq_true rfl) d_Lp_init_67 rfl ap_ctor ?_
      have B := B.gr (n' := 111)
      refine g_putr (k := 0) B hnm fl_Lp_33 wp_Lp_33 rfl rfl (by decide) rfl (Nat.le_of_ble_eq_true rfl) d_Lp_init_70 rfl ?_
      rw [ap_l (show 0 < 34 by decide)]
      rw [ap_l (show 0 < 22 by decide)]
      rw [ap_l (show 0 < 20 by decide)]
      rw [ap_l (show 0 < 2 by decide)]
      rw [ap_l (show 0 < 1 by decide)]
      rw [wl_set _ _ _ (Nat.le_of_ble_eq_true rfl)]
      exact g_vret B hr hlk d_Lp_init_73 (fun _ _ => rfl)
    | succ d ih =>
      intro i hi
      have B := B.gr (n' := 2 + 3 * i)
      refine j_iloadn B d_Lp_init_15 rfl ?_
      refine j_bipush (v := nI 6) B d_Lp_init_16 (by decide) ?_
      refine j_icmp_ge (tgt := 40) B d_Lp_init_18 (by decide) (fun h => absurd (nIle h (by decide) (by omega)) (by omega)) (fun _ => ?_)
      refine j_aloadn B d_Lp_init_21 rfl ?_
      refine j_getv (k := 0) B fl_Lp_11 (by omega) rfl rfl d_Lp_init_22 ?_
      refine j_iloadn B d_Lp_init_25 rfl ?_
      refine g_new B hb0 (by omega) (ci := 8) rfl i_Tx t_Tx_ok wc_Lp_9 wk_Tx wz_Tx wd_Tx ⟨by show _ ≤ 110; omega, by show _ ≤ 2703; omega⟩ d_Lp_init_26 ?_
      have B1 := B.gr (n' := 2 + 3 * i + 1)
      refine j_dup B1 d_Lp_init_29 rfl ?_
      refine g_ctor B1 hao (by omega) hml (w2 := ap (2 + 3 * i) (ap 2 (ap 1 (wl [.inr (0, [.ref (b0 + 1), .null, .null, .null])]) (wl [.inl (aC 1, 6, .inr (.inr (.inr (.inr (fAr (b0 + 2) 3 i)))))])) (fam 3 (fun i => c_Tx aC (b0 + 2 + 3 * i)))) (c_Tx aC (b0 + (2 + 3 * i)))) (ok_Tx_init (b0 := b0 + (2 + 3 * i))) wb_Tx rfl wm_Tx wi_Lp_15 (by simp [va_up, e0_Tx]) ⟨rfl, rfl, by decide, by decide⟩ ⟨by show _ ≤ 110; omega, by show _ ≤ 2703; omega⟩ (Nat.le_of_ble_eq_true rfl) d_Lp_init_30 rfl ap_ctor ?_
      have B2 := B.gr (n' := 2 + 3 * i + 1 + 2)
      refine g_aast (k := 1) (k1 := 2 + 3 * i) (t := 1) (N := 6) (a := i) (f := fAr (b0 + 2) 3 i) B2 (by omega) (by rw [ap_lt (by omega)]; rfl) (by omega) (by rw [ap_ge (Nat.le_refl _), Nat.sub_self]; rfl) (ci := 8) rfl rfl ⟨rfl, by omega, by decide⟩ d_Lp_init_33 rfl rfl ?_
      rw [show b0 + (2 + 3 * i) = b0 + 2 + 3 * i by omega, fAr_step, ap_l (show 1 < 2 + 3 * i by omega), ap_l (show 1 < 2 by decide), ap_r (show 1 ≤ 1 by decide), wl_set _ _ _ (Nat.le_of_ble_eq_true rfl)]
      refine j_iinc B2 d_Lp_init_34 rfl (by decide) (nI_1 i) ?_
      refine j_goto (tgt := 15) B2 d_Lp_init_37 (by decide) ?_
      refine j_loc [(1, .int (nI (i + 1))), (0, .ref b0)] ⟨rfl, rfl, trivial⟩ ?_
      refine j_cast (n' := 2 + 3 * (i + 1)) (cells' := 1 + 3 * (i + 1)) (slots' := 6 + 43 * (i + 1)) (by omega) (by omega) (by omega) ?_
      refine j_wc _ (fam_step (v := fun i => c_Tx aC (b0 + 2 + 3 * i)) (by decide)) ?_
      exact ih (i + 1) (by omega)
  refine j_wc _ (ap_in (v := fam 3 (fun i => c_Tx aC (b0 + 2 + 3 * i)))) ?_
  refine j_loc [(1, .int (nI 0)), (0, .ref b0)] ⟨rfl, rfl, trivial⟩ ?_
  exact loop 6 0 (Nat.zero_add _)
