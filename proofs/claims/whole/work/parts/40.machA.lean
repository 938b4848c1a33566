section MX
variable {p : Program} {l : Launch} {e : Env} {R : Room} {s : State} {m : MethodId} {args : Array Value} {below : List Frame} {meth : Method} {c : Code} {D : va_G} {A : Nat → Prop} {cells slots : Nat} {Q : State → Prop} {n : Nat} {ad : Nat → Nat} {w : Nat → va_E} {nL : Nat}
variable {cc : ByteArray} {own : String} {aC : Nat → ClassId} {pc : Nat} {lv : List (Nat × Value)} {st : List Value}
theorem j_max (B : Cx p s m c args cc own D aC A n ad) {index : Nat} (hml : c.maxLocals = nL) (hlink : Cond.methodLink own index Lib.Math.max.name ∈ gw) (hframes : 1 ≤ R.frames) (hlocals : (st.map fun v => v.category).sum + 13 ≤ R.locals) (hcs : cells ≤ R.cells ∧ slots ≤ R.slots) {x y : Int32} (hdg : decode cc pc = .ok (.invokestatic index, 3))
    (kk : J p l e R s m args below meth c D A cells slots Q n ad w nL (pc + 3) lv (.int (if x < y then y else x) :: st)) : J p l e R s m args below meth c D A cells slots Q n ad w nL pc lv (.int y :: .int x :: st) := by
  intro H locs ls hP hS hl
  obtain ⟨hx, hb, hown, hts, hN, hK, hD⟩ := B
  exact va_mmax hx hb (by rw [hml]; exact hl.1.symm) hown (hts _ hlink) (hts _ (gw_of 732 (by decide +kernel) rfl)) (hts _ (gw_of 74 (by decide +kernel) rfl)) (hts _ (gw_of 733 (by decide +kernel) rfl)) hframes hlocals hcs.1 hcs.2 hdg (kk H locs ls hP hS hl)
end MX
theorem ml_Ma_132 : Cond.methodLink R_Ma 132 Lib.Math.max.name ∈ gw := gw_of 731 (by decide +kernel) rfl
set_option maxRecDepth 100000 in
theorem ok_Lp_isFunction {l : Launch} {D : va_G} {aC : Nat → ClassId} {ad : Nat → Nat} (x : tm_M) (k : Int32) :
    OkX l y_Lp_isFunction b_Lp_isFunction 1 (some .boolean) (rom 0 0) D aC ad [.int k] x (some (.int (bI (0 ≤ k ∧ k < 6)))) x := by
  refine ok_start (by decide) (Nat.le_of_ble_eq_true rfl) rfl ?_
  intro p e s m args below meth c B hr hlk hml
  have B : Cx p s m c args b_Lp_isFunction R_Lp D aC (rg 111 ad) 111 ad := B
  refine j_iloadn B d_Lp_isFunction_0 rfl ?_
  refine j_if_lt (tgt := 14) B d_Lp_isFunction_1 (by decide) (fun h1 => ?_) (fun h1 => ?_)
  · -- yes
    refine j_iconst (v := 0) B d_Lp_isFunction_14 (by decide) ?_
    exact j_zret B hr hlk d_Lp_isFunction_15 (by first | exact Or.inl rfl | exact Or.inr rfl) (by first | exact sv (bI_f (fun h => absurd h.1 (Int32.not_le.mpr h1))) | exact sv (bI_f (fun h => absurd h.2 (Int32.not_lt.mpr h7))) | exact sv (bI_t ⟨Int32.not_lt.mp h1, Int32.not_le.mp h7⟩)) (rfl)
  · -- no
    refine j_iloadn B d_Lp_isFunction_4 rfl ?_
    refine j_bipush (v := 6) B d_Lp_isFunction_5 (by decide) ?_
    refine j_icmp_ge (tgt := 14) B d_Lp_isFunction_7 (by decide) (fun h7 => ?_) (fun h7 => ?_)
    · -- yes
      refine j_iconst (v := 0) B d_Lp_isFunction_14 (by decide) ?_
      exact j_zret B hr hlk d_Lp_isFunction_15 (by first | exact Or.inl rfl | exact Or.inr rfl) (by first | exact sv (bI_f (fun h => absurd h.1 (Int32.not_le.mpr h1))) | exact sv (bI_f (fun h => absurd h.2 (Int32.not_lt.mpr h7))) | exact sv (bI_t ⟨Int32.not_lt.mp h1, Int32.not_le.mp h7⟩)) (rfl)
    · -- no
      refine j_iconst (v := 1) B d_Lp_isFunction_10 (by decide) ?_
      refine j_goto (tgt := 15) B d_Lp_isFunction_11 (by decide) ?_
      exact j_zret B hr hlk d_Lp_isFunction_15 (by first | exact Or.inl rfl | exact Or.inr rfl) (by first | exact sv (bI_f (fun h => absurd h.1 (Int32.not_le.mpr h1))) | exact sv (bI_f (fun h => absurd h.2 (Int32.not_lt.mpr h7))) | exact sv (bI_t ⟨Int32.not_lt.mp h1, Int32.not_le.mp h7⟩)) (rfl)
set_option maxRecDepth 100000 in
theorem ok_Ma_top {l : Launch} {D : va_G} {aC : Nat → ClassId} {ad : Nat → Nat} (x : tm_M) {d : Nat} (hd : x.1 (5, 0, 0) 4 = nI d) (hd0 : 0 < d) (hd8 : d ≤ 8) :
    OkX l y_Ma_top b_Ma_top 1 (some (.object "LandingPads$Frame")) (rom 0 0) D aC ad [.ref (ad 34)] x (some (.ref (ad (frO (d - 1))))) x := by
  refine ok_start (by decide) (Nat.le_of_ble_eq_true rfl) rfl ?_
  intro p e s m args below meth c B hr hlk hml
  have B : Cx p s m c args b_Ma_top R_Ma D aC (rg 111 ad) 111 ad := B
  have hd1 : d - 1 < 8 := by omega
  refine j_aloadn B d_Ma_top_0 rfl ?_
  refine j_getr B fl_Ma_34 (q_34) rfl d_Ma_top_1 ?_
  refine j_aloadn B d_Ma_top_4 rfl ?_
  refine j_geti B fl_Ma_42 (q_34) rfl d_Ma_top_5 ?_
  refine j_topi (nI d) hd ?_
  refine j_if_le (tgt := 20) B d_Ma_top_8 (by decide) (fun h8 => (show False from absurd (nIle (t := 0) h8 (by omega) (by decide)) (by omega)).elim) (fun h8 => ?_)
  refine j_aloadn B d_Ma_top_11 rfl ?_
  refine j_geti B fl_Ma_42 (q_34) rfl d_Ma_top_12 ?_
  refine j_topi (nI d) hd ?_
  refine j_iconst (v := 1) B d_Ma_top_15 (by decide) ?_
  refine j_isub B d_Ma_top_16 ?_
  refine j_goto (tgt := 21) B d_Ma_top_17 (by decide) ?_
  refine j_aald B ⟨(q_94).1, (q_94).2.1⟩ rfl (⟨nIp hd0, hd1, by decide⟩) d_Ma_top_21 ?_
  exact j_aret B hr hlk d_Ma_top_22 (rfl) (rfl)
set_option maxRecDepth 100000 in
theorem ok_Ma_print {l : Launch} {D : va_G} {aC : Nat → ClassId} {ad : Nat → Nat} (x : tm_M) (v : Int32) {t : Nat} (ht : x.1 (5, 0, 3) 1 = nI t) (h60 : t < 60) :
    OkX l y_Ma_print b_Ma_print 2 (some .int) (rom 2 41) D aC ad [.ref (ad 34), .int v] x (some (.int (-1))) (sI (sA x (5, 0, 4) t v) (5, 0, 3) 1 (nI (t + 1))) := by
  refine ok_start (by decide) (Nat.le_of_ble_eq_true rfl) rfl ?_
  intro p e s m args below meth c B hr hlk hml
  have B : Cx p s m c args b_Ma_print R_Ma D aC (rg 111 ad) 111 ad := B
  refine j_aloadn B d_Ma_print_0 rfl ?_
  refine j_getr B fl_Ma_21 (q_34) rfl d_Ma_print_1 ?_
  refine j_cVt B (ok_Ta_isFull x) cv_Ta_isFull ml_Ma_105 (q_37) rfl rfl ⟨rfl, rfl, by decide, by decide⟩ ⟨Nat.zero_le _, Nat.zero_le _⟩ hml (Nat.le_of_ble_eq_true rfl) rfl d_Ma_print_4 ?_
  refine j_if_eq (tgt := 12) B d_Ma_print_7 (by decide) (fun h7 => ?_) (fun h7 => (show False from absurd (nIle (c := 60) (ht ▸ bI_ne h7) (by decide) (by omega)) (by omega)).elim)
  refine j_aloadn B d_Ma_print_12 rfl ?_
  refine j_getr B fl_Ma_21 (q_34) rfl d_Ma_print_13 ?_
  refine j_iloadn B d_Ma_print_16 rfl ?_
  refine j_cVt B (ok_Ta_put x v ht h60) cv_Ta_put ml_Ma_109 (q_37) rfl rfl ⟨rfl, rfl, by decide, by decide⟩ ⟨Nat.zero_le _, Nat.zero_le _⟩ hml (Nat.le_of_ble_eq_true rfl) rfl d_Ma_print_17 ?_
  refine j_iconst (v := (-1)) B d_Ma_print_20 (by decide) ?_
  exact j_iret B hr hlk d_Ma_print_21 (rfl) (rfl)
set_option maxRecDepth 100000 in
theorem ok_Ma_print_full {l : Launch} {D : va_G} {aC : Nat → ClassId} {ad : Nat → Nat} (x : tm_M) (v : Int32) (ht : x.1 (5, 0, 3) 1 = nI 60) :
    OkX l y_Ma_print b_Ma_print 2 (some .int) (rom 2 41) D aC ad [.ref (ad 34), .int v] x (some (.int 5)) x := by
  refine ok_start (by decide) (Nat.le_of_ble_eq_true rfl) rfl ?_
  intro p e s m args below meth c B hr hlk hml
  have B : Cx p s m c args b_Ma_print R_Ma D aC (rg 111 ad) 111 ad := B
  refine j_aloadn B d_Ma_print_0 rfl ?_
  refine j_getr B fl_Ma_21 (q_34) rfl d_Ma_print_1 ?_
  refine j_cVt B (ok_Ta_isFull x) cv_Ta_isFull ml_Ma_105 (q_37) rfl rfl ⟨rfl, rfl, by decide, by decide⟩ ⟨Nat.zero_le _, Nat.zero_le _⟩ hml (Nat.le_of_ble_eq_true rfl) rfl d_Ma_print_4 ?_
  refine j_if_eq (tgt := 12) B d_Ma_print_7 (by decide) (fun h7 => (show False from bI_e h7 (by rw [ht]; exact nI_le (a := 60) (Nat.le_refl _) (by decide))).elim) (fun h7 => ?_)
  refine j_iconst (v := 5) B d_Ma_print_10 (by decide) ?_
  exact j_iret B hr hlk d_Ma_print_11 (rfl) (rfl)
set_option maxRecDepth 100000 in
theorem ok_Ma_clean {l : Launch} {D : va_G} {aC : Nat → ClassId} {ad : Nat → Nat} (x : tm_M) (v : Int32) {t : Nat} (ht : x.1 (5, 0, 3) 1 = nI t) (h60 : t < 60) :
    OkX l y_Ma_clean b_Ma_clean 3 (some .int) (rom 3 62) D aC ad [.ref (ad 34), .int v] x (some (.int (-1))) (sI (sI (sA x (5, 0, 4) t (100 + v)) (5, 0, 3) 1 (nI (t + 1))) (5, 0, 3) 3 (x.1 (5, 0, 3) 3 + 1)) := by
  refine ok_start (by decide) (Nat.le_of_ble_eq_true rfl) rfl ?_
  intro p e s m args below meth c B hr hlk hml
  have B : Cx p s m c args b_Ma_clean R_Ma D aC (rg 111 ad) 111 ad := B
  refine j_aloadn B d_Ma_clean_0 rfl ?_
  refine j_bipush (v := 100) B d_Ma_clean_1 (by decide) ?_
  refine j_iloadn B d_Ma_clean_3 rfl ?_
  refine j_iadd B d_Ma_clean_4 ?_
  refine j_cVt B (ok_Ma_print x (100 + v) ht h60) cv_Ma_print ml_Ma_73 (q_34) rfl rfl ⟨rfl, rfl, by decide, by decide⟩ ⟨Nat.zero_le _, Nat.zero_le _⟩ hml (Nat.le_of_ble_eq_true rfl) rfl d_Ma_clean_5 ?_
  refine j_istoren B d_Ma_clean_8 (by decide) ?_
  refine j_iloadn B d_Ma_clean_9 rfl ?_
  refine j_iconst (v := (-1)) B d_Ma_clean_10 (by decide) ?_
  refine j_icmp_ne (tgt := 27) B d_Ma_clean_11 (by decide) (fun h11 => (show False from h11 rfl).elim) (fun h11 => ?_)
  refine j_aloadn B d_Ma_clean_14 rfl ?_
  refine j_getr B fl_Ma_21 (q_34) rfl d_Ma_clean_15 ?_
  refine j_dup B d_Ma_clean_18 rfl ?_
  refine j_geti B fl_Ma_113 (q_37) rfl d_Ma_clean_19 ?_
  refine j_iconst (v := 1) B d_Ma_clean_22 (by decide) ?_
  refine j_iadd B d_Ma_clean_23 ?_
  refine j_topi (x.1 (5, 0, 3) 3 + 1) (by rw [rIj (by decide)]; rfl) ?_
  refine j_puti B kX_inj fs_Ma_113 (q_37) rfl d_Ma_clean_24 ?_
  refine j_iloadn B d_Ma_clean_27 rfl ?_
  exact j_iret B hr hlk d_Ma_clean_28 (rfl) (rfl)
set_option maxRecDepth 100000 in
theorem ok_Ma_clean_full {l : Launch} {D : va_G} {aC : Nat → ClassId} {ad : Nat → Nat} (x : tm_M) (v : Int32) (ht : x.1 (5, 0, 3) 1 = nI 60) :
    OkX l y_Ma_clean b_Ma_clean 3 (some .int) (rom 3 62) D aC ad [.ref (ad 34), .int v] x (some (.int 5)) x := by
  refine ok_start (by decide) (Nat.le_of_ble_eq_true rfl) rfl ?_
  intro p e s m args below meth c B hr hlk hml
  have B : Cx p s m c args b_Ma_clean R_Ma D aC (rg 111 ad) 111 ad := B
  refine j_aloadn B d_Ma_clean_0 rfl ?_
  refine j_bipush (v := 100) B d_Ma_clean_1 (by decide) ?_
  refine j_iloadn B d_Ma_clean_3 rfl ?_
  refine j_iadd B d_Ma_clean_4 ?_
  refine j_cVt B (ok_Ma_print_full x (100 + v) ht) cv_Ma_print ml_Ma_73 (q_34) rfl rfl ⟨rfl, rfl, by decide, by decide⟩ ⟨Nat.zero_le _, Nat.zero_le _⟩ hml (Nat.le_of_ble_eq_true rfl) rfl d_Ma_clean_5 ?_
  refine j_istoren B d_Ma_clean_8 (by decide) ?_
  refine j_iloadn B d_Ma_clean_9 rfl ?_
  refine j_iconst (v := (-1)) B d_Ma_clean_10 (by decide) ?_
  refine j_icmp_ne (tgt := 27) B d_Ma_clean_11 (by decide) (fun h11 => ?_) (fun h11 => (show False from absurd h11 (by decide)).elim)
  refine j_iloadn B d_Ma_clean_27 rfl ?_
  exact j_iret B hr hlk d_Ma_clean_28 (rfl) (rfl)
set_option maxRecDepth 100000 in
theorem ok_Ma_jump {l : Launch} {D : va_G} {aC : Nat → ClassId} {ad : Nat → Nat} {i : Nat} (hi : i < 8) (x : tm_M) (v : Int32) :
    OkX l y_Ma_jump b_Ma_jump 3 (some .int) (rom 0 0) D aC ad [.ref (ad 34), .ref (ad (frO i)), .int v] x (some (.int (-1))) (sI x (8, i, 0) 1 v) := by
  refine ok_start (by decide) (Nat.le_of_ble_eq_true rfl) rfl ?_
  intro p e s m args below meth c B hr hlk hml
  have B : Cx p s m c args b_Ma_jump R_Ma D aC (rg 111 ad) 111 ad := B
  refine j_aloadn B d_Ma_jump_0 rfl ?_
  refine j_iloadn B d_Ma_jump_1 rfl ?_
  refine j_puti B kX_inj fs_Ma_64 (q_fr hi) rfl d_Ma_jump_2 ?_
  refine j_iconst (v := (-1)) B d_Ma_jump_5 (by decide) ?_
  exact j_iret B hr hlk d_Ma_jump_6 (rfl) (rfl)
set_option maxRecDepth 100000 in
theorem ok_Ma_endCatch {l : Launch} {D : va_G} {aC : Nat → ClassId} {ad : Nat → Nat} {i : Nat} (hi : i < 8) (x : tm_M) {t : Nat} (ht : x.1 (8, i, 0) 3 = nI (t + 1)) (h5 : t < 5) :
    OkX l y_Ma_endCatch b_Ma_endCatch 2 (some .int) (rom 1 20) D aC ad [.ref (ad 34), .ref (ad (frO i))] x (some (.int (-1))) (sI x (8, i, 0) 3 (nI t)) := by
  refine ok_start (by decide) (Nat.le_of_ble_eq_true rfl) rfl ?_
  intro p e s m args below meth c B hr hlk hml
  have B : Cx p s m c args b_Ma_endCatch R_Ma D aC (rg 111 ad) 111 ad := B
  refine j_aloadn B d_Ma_endCatch_0 rfl ?_
  refine j_cVt B (ok_Fr_dropCaught hi x ht h5) cv_Fr_dropCaught ml_Ma_116 (q_fr hi) rfl rfl ⟨rfl, rfl, by decide, by decide⟩ ⟨Nat.zero_le _, Nat.zero_le _⟩ hml (Nat.le_of_ble_eq_true rfl) rfl d_Ma_endCatch_1 ?_
  refine j_iconst (v := (-1)) B d_Ma_endCatch_4 (by decide) ?_
  exact j_iret B hr hlk d_Ma_endCatch_5 (rfl) (rfl)
set_option maxRecDepth 100000 in
theorem ok_Ma_enter_none {l : Launch} {D : va_G} {aC : Nat → ClassId} {ad : Nat → Nat} {g : Nat} (hg : g < 6) (x : tm_M) (h0 : x.1 (6, g, 0) 2 = 0) :
    OkX l y_Ma_enter b_Ma_enter 2 (some .int) (rom 1 26) D aC ad [.ref (ad 34), .int (nI g)] x (some (.int 4)) x := by
  refine ok_start (by decide) (Nat.le_of_ble_eq_true rfl) rfl ?_
  intro p e s m args below meth c B hr hlk hml
  have B : Cx p s m c args b_Ma_enter R_Ma D aC (rg 111 ad) 111 ad := B
  refine j_iloadn B d_Ma_enter_0 rfl ?_
  refine j_cSN B (ok_Lp_isFunction x (nI g)) cs_Lp_isFunction mn_Ma_119 rfl ⟨rfl, rfl, by decide, by decide⟩ ⟨Nat.zero_le _, Nat.zero_le _⟩ hml (Nat.le_of_ble_eq_true rfl) rfl d_Ma_enter_1 ?_
  refine j_if_eq (tgt := 19) B d_Ma_enter_4 (by decide) (fun h4 => (show False from bI_e h4 ⟨nI_pos' (by omega), nI_lt (b := 6) hg (by decide)⟩).elim) (fun h4 => ?_)
  refine j_aloadn B d_Ma_enter_7 rfl ?_
  refine j_getr B fl_Ma_27 (q_34) rfl d_Ma_enter_8 ?_
  refine j_iloadn B d_Ma_enter_11 rfl ?_
  refine j_aald B ⟨(q_39).1, (q_39).2.1⟩ rfl (⟨rfl, hg, by decide⟩) d_Ma_enter_12 ?_
  refine j_cVt B (ok_Pr_isMade hg x) cv_Pr_isMade ml_Ma_123 (q_pr hg) rfl rfl ⟨rfl, rfl, by decide, by decide⟩ ⟨Nat.zero_le _, Nat.zero_le _⟩ hml (Nat.le_of_ble_eq_true rfl) rfl d_Ma_enter_13 ?_
  refine j_if_ne (tgt := 21) B d_Ma_enter_16 (by decide) (fun h16 => (show False from h16 (bI_f (by rw [h0]; decide))).elim) (fun h16 => ?_)
  refine j_iconst (v := 4) B d_Ma_enter_19 (by decide) ?_
  exact j_iret B hr hlk d_Ma_enter_20 (rfl) (rfl)
set_option maxRecDepth 100000 in
theorem ok_Ma_enter_deep {l : Launch} {D : va_G} {aC : Nat → ClassId} {ad : Nat → Nat} {g : Nat} (hg : g < 6) (x : tm_M) (h1 : 0 < x.1 (6, g, 0) 2) (hd : x.1 (5, 0, 0) 4 = nI 8) :
    OkX l y_Ma_enter b_Ma_enter 2 (some .int) (rom 1 26) D aC ad [.ref (ad 34), .int (nI g)] x (some (.int 2)) x := by
  refine ok_start (by decide) (Nat.le_of_ble_eq_true rfl) rfl ?_
  intro p e s m args below meth c B hr hlk hml
  have B : Cx p s m c args b_Ma_enter R_Ma D aC (rg 111 ad) 111 ad := B
  refine j_iloadn B d_Ma_enter_0 rfl ?_
  refine j_cSN B (ok_Lp_isFunction x (nI g)) cs_Lp_isFunction mn_Ma_119 rfl ⟨rfl, rfl, by decide, by decide⟩ ⟨Nat.zero_le _, Nat.zero_le _⟩ hml (Nat.le_of_ble_eq_true rfl) rfl d_Ma_enter_1 ?_
  refine j_if_eq (tgt := 19) B d_Ma_enter_4 (by decide) (fun h4 => (show False from bI_e h4 ⟨nI_pos' (by omega), nI_lt (b := 6) hg (by decide)⟩).elim) (fun h4 => ?_)
  refine j_aloadn B d_Ma_enter_7 rfl ?_
  refine j_getr B fl_Ma_27 (q_34) rfl d_Ma_enter_8 ?_
  refine j_iloadn B d_Ma_enter_11 rfl ?_
  refine j_aald B ⟨(q_39).1, (q_39).2.1⟩ rfl (⟨rfl, hg, by decide⟩) d_Ma_enter_12 ?_
  refine j_cVt B (ok_Pr_isMade hg x) cv_Pr_isMade ml_Ma_123 (q_pr hg) rfl rfl ⟨rfl, rfl, by decide, by decide⟩ ⟨Nat.zero_le _, Nat.zero_le _⟩ hml (Nat.le_of_ble_eq_true rfl) rfl d_Ma_enter_13 ?_
  refine j_if_ne (tgt := 21) B d_Ma_enter_16 (by decide) (fun h16 => ?_) (fun h16 => (show False from absurd (bI_t (h1 : 0 < x.1 (6, g, 0) 2)) (by rw [h16]; decide)).elim)
  refine j_aloadn B d_Ma_enter_21 rfl ?_
  refine j_geti B fl_Ma_42 (q_34) rfl d_Ma_enter_22 ?_
  refine j_bipush (v := 8) B d_Ma_enter_25 (by decide) ?_
  refine j_icmp_lt (tgt := 32) B d_Ma_enter_27 (by decide) (fun h27 => (show False from absurd (nIlt (t := 8) (hd ▸ h27) (by decide) (by decide)) (by decide)).elim) (fun h27 => ?_)
  refine j_iconst (v := 2) B d_Ma_enter_30 (by decide) ?_
  exact j_iret B hr hlk d_Ma_enter_31 (rfl) (rfl)
set_option maxRecDepth 100000 in
theorem ok_Ma_enter {l : Launch} {D : va_G} {aC : Nat → ClassId} {ad : Nat → Nat} {g : Nat} (hg : g < 6) (x : tm_M) (h1 : 0 < x.1 (6, g, 0) 2) {d : Nat} (hd : x.1 (5, 0, 0) 4 = nI d) (hd8 : d < 8) :
    OkX l y_Ma_enter b_Ma_enter 2 (some .int) (rom 1 26) D aC ad [.ref (ad 34), .int (nI g)] x (some (.int (-1))) (sI (sI (sI (sI (sI x (8, d, 0) 0 (nI g)) (8, d, 0) 1 0) (8, d, 0) 3 0) (5, 0, 0) 4 (nI (d + 1))) (5, 0, 3) 5 (if x.1 (5, 0, 3) 5 < nI (d + 1) then nI (d + 1) else x.1 (5, 0, 3) 5)) := by
  refine ok_start (by decide) (Nat.le_of_ble_eq_true rfl) rfl ?_
  intro p e s m args below meth c B hr hlk hml
  have B : Cx p s m c args b_Ma_enter R_Ma D aC (rg 111 ad) 111 ad := B
  refine j_iloadn B d_Ma_enter_0 rfl ?_
  refine j_cSN B (ok_Lp_isFunction x (nI g)) cs_Lp_isFunction mn_Ma_119 rfl ⟨rfl, rfl, by decide, by decide⟩ ⟨Nat.zero_le _, Nat.zero_le _⟩ hml (Nat.le_of_ble_eq_true rfl) rfl d_Ma_enter_1 ?_
  refine j_if_eq (tgt := 19) B d_Ma_enter_4 (by decide) (fun h4 => (show False from bI_e h4 ⟨nI_pos' (by omega), nI_lt (b := 6) hg (by decide)⟩).elim) (fun h4 => ?_)
  refine j_aloadn B d_Ma_enter_7 rfl ?_
  refine j_getr B fl_Ma_27 (q_34) rfl d_Ma_enter_8 ?_
  refine j_iloadn B d_Ma_enter_11 rfl ?_
  refine j_aald B ⟨(q_39).1, (q_39).2.1⟩ rfl (⟨rfl, hg, by decide⟩) d_Ma_enter_12 ?_
  refine j_cVt B (ok_Pr_isMade hg x) cv_Pr_isMade ml_Ma_123 (q_pr hg) rfl rfl ⟨rfl, rfl, by decide, by decide⟩ ⟨Nat.zero_le _, Nat.zero_le _⟩ hml (Nat.le_of_ble_eq_true rfl) rfl d_Ma_enter_13 ?_
  refine j_if_ne (tgt := 21) B d_Ma_enter_16 (by decide) (fun h16 => ?_) (fun h16 => (show False from absurd (bI_t (h1 : 0 < x.1 (6, g, 0) 2)) (by rw [h16]; decide)).elim)
  refine j_aloadn B d_Ma_enter_21 rfl ?_
  refine j_geti B fl_Ma_42 (q_34) rfl d_Ma_enter_22 ?_
  refine j_bipush (v := 8) B d_Ma_enter_25 (by decide) ?_
  refine j_icmp_lt (tgt := 32) B d_Ma_enter_27 (by decide) (fun h27 => ?_) (fun h27 => (show False from h27 (by rw [hd]; exact nI_lt (b := 8) hd8 (by decide))).elim)
  refine j_aloadn B d_Ma_enter_32 rfl ?_
  refine j_getr B fl_Ma_34 (q_34) rfl d_Ma_enter_33 ?_
  refine j_aloadn B d_Ma_enter_36 rfl ?_
  refine j_geti B fl_Ma_42 (q_34) rfl d_Ma_enter_37 ?_
  refine j_topi (nI d) hd ?_
  refine j_aald B ⟨(q_94).1, (q_94).2.1⟩ rfl (⟨rfl, hd8, by decide⟩) d_Ma_enter_40 ?_
  refine j_iloadn B d_Ma_enter_41 rfl ?_
  refine j_cVt B (ok_Fr_begin hd8 x (nI g)) cv_Fr_begin ml_Ma_126 (q_fr hd8) rfl rfl ⟨rfl, rfl, by decide, by decide⟩ ⟨Nat.zero_le _, Nat.zero_le _⟩ hml (Nat.le_of_ble_eq_true rfl) rfl d_Ma_enter_42 ?_
  refine j_aloadn B d_Ma_enter_45 rfl ?_
  refine j_dup B d_Ma_enter_46 rfl ?_
  refine j_geti B fl_Ma_42 (q_34) rfl d_Ma_enter_47 ?_
  refine j_iconst (v := 1) B d_Ma_enter_50 (by decide) ?_
  refine j_iadd B d_Ma_enter_51 ?_
  refine j_topi (nI (d + 1)) (by simp [sI, hd, nI_1]) ?_
  refine j_puti B kX_inj fs_Ma_42 (q_34) rfl d_Ma_enter_52 ?_
  refine j_aloadn B d_Ma_enter_55 rfl ?_
  refine j_getr B fl_Ma_21 (q_34) rfl d_Ma_enter_56 ?_
  refine j_aloadn B d_Ma_enter_59 rfl ?_
  refine j_getr B fl_Ma_21 (q_34) rfl d_Ma_enter_60 ?_
  refine j_geti B fl_Ma_129 (q_37) rfl d_Ma_enter_63 ?_
  refine j_topi (x.1 (5, 0, 3) 5) (by simp [sI]) ?_
  refine j_aloadn B d_Ma_enter_66 rfl ?_
  refine j_geti B fl_Ma_42 (q_34) rfl d_Ma_enter_67 ?_
  refine j_topi (nI (d + 1)) (by simp [sI, upd]) ?_
  refine j_max B hml ml_Ma_132 (by decide) (Nat.le_of_ble_eq_true rfl) ⟨Nat.zero_le _, Nat.zero_le _⟩ d_Ma_enter_70 ?_
  refine j_puti B kX_inj fs_Ma_129 (q_37) rfl d_Ma_enter_73 ?_
  refine j_iconst (v := (-1)) B d_Ma_enter_76 (by decide) ?_
  exact j_iret B hr hlk d_Ma_enter_77 (rfl) (rfl)
set_option maxRecDepth 100000 in
theorem ok_Ma_leave {l : Launch} {D : va_G} {aC : Nat → ClassId} {ad : Nat → Nat} (x : tm_M) {d : Nat} (hd : x.1 (5, 0, 0) 4 = nI (d + 1)) (hd8 : d < 8) :
    OkX l y_Ma_leave b_Ma_leave 1 (some .int) (rom 0 0) D aC ad [.ref (ad 34)] x (some (.int (if 0 < d then -1 else 0))) (sI x (5, 0, 0) 4 (nI d)) := by
  refine ok_start (by decide) (Nat.le_of_ble_eq_true rfl) rfl ?_
  intro p e s m args below meth c B hr hlk hml
  have B : Cx p s m c args b_Ma_leave R_Ma D aC (rg 111 ad) 111 ad := B
  refine j_aloadn B d_Ma_leave_0 rfl ?_
  refine j_geti B fl_Ma_42 (q_34) rfl d_Ma_leave_1 ?_
  refine j_topi (nI (d + 1)) hd ?_
  refine j_if_le (tgt := 17) B d_Ma_leave_4 (by decide) (fun h4 => (show False from absurd (nIle (t := 0) h4 (by omega) (by decide)) (by omega)).elim) (fun h4 => ?_)
  refine j_aloadn B d_Ma_leave_7 rfl ?_
  refine j_dup B d_Ma_leave_8 rfl ?_
  refine j_geti B fl_Ma_42 (q_34) rfl d_Ma_leave_9 ?_
  refine j_iconst (v := 1) B d_Ma_leave_12 (by decide) ?_
  refine j_isub B d_Ma_leave_13 ?_
  refine j_topi (nI d) (by rw [hd, nI_pred]) ?_
  refine j_puti B kX_inj fs_Ma_42 (q_34) rfl d_Ma_leave_14 ?_
  refine j_aloadn B d_Ma_leave_17 rfl ?_
  refine j_geti B fl_Ma_42 (q_34) rfl d_Ma_leave_18 ?_
  refine j_topi (nI d) rI ?_
  refine j_if_le (tgt := 28) B d_Ma_leave_21 (by decide) (fun h21 => ?_) (fun h21 => ?_)
  · -- yes
    refine j_iconst (v := 0) B d_Ma_leave_28 (by decide) ?_
    exact j_iret B hr hlk d_Ma_leave_29 (by first | exact sv (if_neg (fun z => absurd (nIle (t := 0) h21 (by omega) (by decide)) (by omega))) | exact sv (if_pos (Nat.pos_of_ne_zero (fun z => h21 (by rw [z]; decide))))) (rfl)
  · -- no
    refine j_iconst (v := (-1)) B d_Ma_leave_24 (by decide) ?_
    refine j_goto (tgt := 29) B d_Ma_leave_25 (by decide) ?_
    exact j_iret B hr hlk d_Ma_leave_29 (by first | exact sv (if_neg (fun z => absurd (nIle (t := 0) h21 (by omega) (by decide)) (by omega))) | exact sv (if_pos (Nat.pos_of_ne_zero (fun z => h21 (by rw [z]; decide))))) (rfl)
set_option maxRecDepth 100000 in
theorem ok_Ma_headOf {l : Launch} {D : va_G} {aC : Nat → ClassId} {ad : Nat → Nat} {i : Nat} (hi : i < 8) (x : tm_M) {g q : Nat} (hg : g < 6) (hfn : x.1 (8, i, 0) 0 = nI g) (hq : x.1 (6, g, 0) 10 = nI q) (h20 : q ≤ 20) :
    OkX l y_Ma_headOf b_Ma_headOf 2 (some .int) (rom 1 22) D aC ad [.ref (ad 34), .ref (ad (frO i))] x (some (.int (hdF (x.2 (6, g, 6)) (x.2 (6, g, 7)) (x.2 (6, g, 8)) (x.1 (8, i, 0) 1 - 1) q 0))) x := by
  refine ok_start (by decide) (Nat.le_of_ble_eq_true rfl) rfl ?_
  intro p e s m args below meth c B hr hlk hml
  have B : Cx p s m c args b_Ma_headOf R_Ma D aC (rg 111 ad) 111 ad := B
  refine j_aloadn B d_Ma_headOf_0 rfl ?_
  refine j_getr B fl_Ma_27 (q_34) rfl d_Ma_headOf_1 ?_
  refine j_aloadn B d_Ma_headOf_4 rfl ?_
  refine j_geti B fl_Ma_61 (q_fr hi) rfl d_Ma_headOf_5 ?_
  refine j_topi (nI g) hfn ?_
  refine j_aald B ⟨(q_39).1, (q_39).2.1⟩ rfl (⟨rfl, hg, by decide⟩) d_Ma_headOf_8 ?_
  refine j_aloadn B d_Ma_headOf_9 rfl ?_
  refine j_cVt B (ok_Fr_currentPlace hi x) cv_Fr_currentPlace ml_Ma_153 (q_fr hi) rfl rfl ⟨rfl, rfl, by decide, by decide⟩ ⟨Nat.zero_le _, Nat.zero_le _⟩ hml (Nat.le_of_ble_eq_true rfl) rfl d_Ma_headOf_10 ?_
  refine j_cVt B (ok_Pr_headAround hg x (x.1 (8, i, 0) 1 - 1) hq h20) cv_Pr_headAround ml_Ma_156 (q_pr hg) rfl rfl ⟨rfl, rfl, by decide, by decide⟩ ⟨Nat.zero_le _, Nat.zero_le _⟩ hml (Nat.le_of_ble_eq_true rfl) rfl d_Ma_headOf_13 ?_
  exact j_iret B hr hlk d_Ma_headOf_16 (rfl) (rfl)
set_option maxRecDepth 100000 in
theorem ok_Ma_isHandler {l : Launch} {D : va_G} {aC : Nat → ClassId} {ad : Nat → Nat} (x : tm_M) (k : Int32) :
    OkX l y_Ma_isHandler b_Ma_isHandler 2 (some .boolean) (rom 0 0) D aC ad [.ref (ad 34), .int k] x (some (.int (bI (x.1 (5, 0, 0) 4 = x.1 (5, 0, 0) 6 ∧ k = x.1 (5, 0, 0) 7)))) x := by
  refine ok_start (by decide) (Nat.le_of_ble_eq_true rfl) rfl ?_
  intro p e s m args below meth c B hr hlk hml
  have B : Cx p s m c args b_Ma_isHandler R_Ma D aC (rg 111 ad) 111 ad := B
  refine j_aloadn B d_Ma_isHandler_0 rfl ?_
  refine j_geti B fl_Ma_42 (q_34) rfl d_Ma_isHandler_1 ?_
  refine j_aloadn B d_Ma_isHandler_4 rfl ?_
  refine j_geti B fl_Ma_163 (q_34) rfl d_Ma_isHandler_5 ?_
  refine j_icmp_ne (tgt := 23) B d_Ma_isHandler_8 (by decide) (fun h8 => ?_) (fun h8 => ?_)
  · -- yes
    refine j_iconst (v := 0) B d_Ma_isHandler_23 (by decide) ?_
    exact j_zret B hr hlk d_Ma_isHandler_24 (by first | exact Or.inl rfl | exact Or.inr rfl) (by first | exact sv (bI_f (fun h => h8 h.1)) | exact sv (bI_f (fun h => h16 h.2)) | exact sv (bI_t ⟨h8, h16⟩)) (rfl)
  · -- no
    refine j_iloadn B d_Ma_isHandler_11 rfl ?_
    refine j_aloadn B d_Ma_isHandler_12 rfl ?_
    refine j_geti B fl_Ma_166 (q_34) rfl d_Ma_isHandler_13 ?_
    refine j_icmp_ne (tgt := 23) B d_Ma_isHandler_16 (by decide) (fun h16 => ?_) (fun h16 => ?_)
    · -- yes
      refine j_iconst (v := 0) B d_Ma_isHandler_23 (by decide) ?_
      exact j_zret B hr hlk d_Ma_isHandler_24 (by first | exact Or.inl rfl | exact Or.inr rfl) (by first | exact sv (bI_f (fun h => h8 h.1)) | exact sv (bI_f (fun h => h16 h.2)) | exact sv (bI_t ⟨h8, h16⟩)) (rfl)
    · -- no
      refine j_iconst (v := 1) B d_Ma_isHandler_19 (by decide) ?_
      refine j_goto (tgt := 24) B d_Ma_isHandler_20 (by decide) ?_
      exact j_zret B hr hlk d_Ma_isHandler_24 (by first | exact Or.inl rfl | exact Or.inr rfl) (by first | exact sv (bI_f (fun h => h8 h.1)) | exact sv (bI_f (fun h => h16 h.2)) | exact sv (bI_t ⟨h8, h16⟩)) (rfl)
