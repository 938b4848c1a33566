/-- a frame is made -/
def enM (d g : Nat) (x : tm_M) : tm_M := if nI (d + 1) ≤ x.2 (0, 0, 28) 4 then sI (sA (sA (sA (sA x (0, 0, 23) d (nI g)) (0, 0, 24) d 0) (0, 0, 25) d 0) (0, 0, 26) d 0) (0, 0, 0) 25 (nI (d + 1)) else sA (sI (sA (sA (sA (sA x (0, 0, 23) d (nI g)) (0, 0, 24) d 0) (0, 0, 25) d 0) (0, 0, 26) d 0) (0, 0, 0) 25 (nI (d + 1))) (0, 0, 28) 4 (nI (d + 1))
set_option maxRecDepth 100000 in
theorem ok_Mo_enters {l : Launch} {D : va_G} {aC : Nat → ClassId} {ad : Nat → Nat} (x : tm_M) {d g : Nat} (hd : x.1 (0, 0, 0) 25 = nI d) (hd8 : d < 8) :
    OkM l y_Mo_enters b_Mo_enters 2 none (rom 0 0) D aC ad [.ref (ad 0), .int (nI g)] x none (enM d g x) := by
  refine ok_start (by decide) (Nat.le_of_ble_eq_true rfl) rfl ?_
  intro p e s m args below meth c B hr hlk hml
  have B : Cx p s m c args b_Mo_enters R_Mo D aC (rg 30 ad) 30 ad := B
  refine j_aloadn B d_Mo_enters_0 rfl ?_
  refine j_getr B fl_Mo_80 (m_0) rfl d_Mo_enters_1 ?_
  refine j_aloadn B d_Mo_enters_4 rfl ?_
  refine j_geti B fl_Mo_164 (m_0) rfl d_Mo_enters_5 ?_
  refine j_topi (nI d) hd ?_
  refine j_iloadn B d_Mo_enters_8 rfl ?_
  refine j_iast B kM_inj (m_23) (⟨rfl, by omega, by decide⟩) d_Mo_enters_9 ?_
  refine j_aloadn B d_Mo_enters_10 rfl ?_
  refine j_getr B fl_Mo_83 (m_0) rfl d_Mo_enters_11 ?_
  refine j_aloadn B d_Mo_enters_14 rfl ?_
  refine j_geti B fl_Mo_164 (m_0) rfl d_Mo_enters_15 ?_
  refine j_topi (nI d) hd ?_
  refine j_iconst (v := 0) B d_Mo_enters_18 (by decide) ?_
  refine j_iast B kM_inj (m_24) (⟨rfl, by omega, by decide⟩) d_Mo_enters_19 ?_
  refine j_aloadn B d_Mo_enters_20 rfl ?_
  refine j_getr B fl_Mo_86 (m_0) rfl d_Mo_enters_21 ?_
  refine j_aloadn B d_Mo_enters_24 rfl ?_
  refine j_geti B fl_Mo_164 (m_0) rfl d_Mo_enters_25 ?_
  refine j_topi (nI d) hd ?_
  refine j_iconst (v := 0) B d_Mo_enters_28 (by decide) ?_
  refine j_iast B kM_inj (m_25) (⟨rfl, by omega, by decide⟩) d_Mo_enters_29 ?_
  refine j_aloadn B d_Mo_enters_30 rfl ?_
  refine j_getr B fl_Mo_89 (m_0) rfl d_Mo_enters_31 ?_
  refine j_aloadn B d_Mo_enters_34 rfl ?_
  refine j_geti B fl_Mo_164 (m_0) rfl d_Mo_enters_35 ?_
  refine j_topi (nI d) hd ?_
  refine j_iconst (v := 0) B d_Mo_enters_38 (by decide) ?_
  refine j_iast B kM_inj (m_26) (⟨rfl, by omega, by decide⟩) d_Mo_enters_39 ?_
  refine j_aloadn B d_Mo_enters_40 rfl ?_
  refine j_dup B d_Mo_enters_41 rfl ?_
  refine j_geti B fl_Mo_164 (m_0) rfl d_Mo_enters_42 ?_
  refine j_iconst (v := 1) B d_Mo_enters_45 (by decide) ?_
  refine j_iadd B d_Mo_enters_46 ?_
  refine j_topi (nI (d + 1)) (by show x.1 _ _ + 1 = _; rw [hd, nI_1]) ?_
  refine j_puti B kM_inj fs_Mo_164 (m_0) rfl d_Mo_enters_47 ?_
  refine j_aloadn B d_Mo_enters_50 rfl ?_
  refine j_geti B fl_Mo_164 (m_0) rfl d_Mo_enters_51 ?_
  refine j_topi (nI (d + 1)) rI ?_
  refine j_aloadn B d_Mo_enters_54 rfl ?_
  refine j_getr B fl_Mo_95 (m_0) rfl d_Mo_enters_55 ?_
  refine j_iconst (v := 4) B d_Mo_enters_58 (by decide) ?_
  refine j_iald B (m_28) (⟨(rfl : (4 : Int32) = nI 4), by decide, by decide⟩) d_Mo_enters_59 ?_
  refine j_topi (x.2 (0, 0, 28) 4) (by rw [rIA, rAK (by decide), rAK (by decide), rAK (by decide), rAK (by decide)]) ?_
  refine j_icmp_le (tgt := 73) B d_Mo_enters_60 (by decide) (fun h60 => ?_) (fun h60 => ?_)
  · -- yes
    exact j_vret B hr hlk d_Mo_enters_73 (rfl) (by first | exact congrArg (tw ad aC sM kM) (if_pos h60).symm | exact congrArg (tw ad aC sM kM) (if_neg h60).symm)
  · -- no
    refine j_aloadn B d_Mo_enters_63 rfl ?_
    refine j_getr B fl_Mo_95 (m_0) rfl d_Mo_enters_64 ?_
    refine j_iconst (v := 4) B d_Mo_enters_67 (by decide) ?_
    refine j_aloadn B d_Mo_enters_68 rfl ?_
    refine j_geti B fl_Mo_164 (m_0) rfl d_Mo_enters_69 ?_
    refine j_topi (nI (d + 1)) rI ?_
    refine j_iast B kM_inj (m_28) (⟨(rfl : (4 : Int32) = nI 4), by decide, by decide⟩) d_Mo_enters_72 ?_
    exact j_vret B hr hlk d_Mo_enters_73 (rfl) (by first | exact congrArg (tw ad aC sM kM) (if_pos h60).symm | exact congrArg (tw ad aC sM kM) (if_neg h60).symm)
/-- the head of the last site around a place -/
def haF (F L H : Nat → Int32) (u : Int32) : Nat → Nat → Int32 → Int32
  | 0, _, b => b
  | r + 1, k, b => haF F L H u r (k + 1) (if F k ≤ u ∧ u ≤ L k then H k else b)
set_option maxRecDepth 100000 in
theorem ok_Mo_headAt {l : Launch} {D : va_G} {aC : Nat → ClassId} {ad : Nat → Nat} {i : Nat} (hi : i < 8) (x : tm_M) {g z : Nat} (hg : g < 6) (hfn : x.2 (0, 0, 23) i = nI g) (hz : x.2 (0, 0, 13) g = nI z) (h64 : z ≤ 64) :
    OkM l y_Mo_headAt b_Mo_headAt 6 (some .int) (rom 0 0) D aC ad [.ref (ad 0), .int (nI i)] x (some (.int (haF (fun j => x.2 (0, 0, 14) (64 * g + j)) (fun j => x.2 (0, 0, 15) (64 * g + j)) (fun j => x.2 (0, 0, 16) (64 * g + j)) (x.2 (0, 0, 24) i) z 0 (-1)))) x := by
  refine ok_start (by decide) (Nat.le_of_ble_eq_true rfl) rfl ?_
  intro p e s m args below meth c B hr hlk hml
  have B : Cx p s m c args b_Mo_headAt R_Mo D aC (rg 30 ad) 30 ad := B
  have loop : ∀ (r k : Nat) (b : Int32), k + r = z → haF (fun j => x.2 (0, 0, 14) (64 * g + j)) (fun j => x.2 (0, 0, 15) (64 * g + j)) (fun j => x.2 (0, 0, 16) (64 * g + j)) (x.2 (0, 0, 24) i) r k b = (haF (fun j => x.2 (0, 0, 14) (64 * g + j)) (fun j => x.2 (0, 0, 15) (64 * g + j)) (fun j => x.2 (0, 0, 16) (64 * g + j)) (x.2 (0, 0, 24) i) z 0 (-1)) → J p l e (rom 0 0) s m args below meth c D (rg 30 ad) 0 0 (MQ below (Qk D aC 30 ad (some (.int (haF (fun j => x.2 (0, 0, 14) (64 * g + j)) (fun j => x.2 (0, 0, 15) (64 * g + j)) (fun j => x.2 (0, 0, 16) (64 * g + j)) (x.2 (0, 0, 24) i) z 0 (-1)))) (wM ad aC x)) args s 0 0 (rg 30 ad)) 30 ad (wM ad aC x) 6 12 [(4, .int (nI k)), (3, .int b), (2, .int (nI g)), (0, .ref (ad 0)), (1, .int (nI i))] [] := by
    intro r
    induction r with
    | zero =>
      intro k b hk hR
      refine j_iload B d_Mo_headAt_12 rfl ?_
      refine j_aloadn B d_Mo_headAt_14 rfl ?_
      refine j_getr B fl_Mo_50 (m_0) rfl d_Mo_headAt_15 ?_
      refine j_iloadn B d_Mo_headAt_18 rfl ?_
      refine j_iald B (m_13) (⟨rfl, hg, by decide⟩) d_Mo_headAt_19 ?_
      refine j_topi (nI z) hz ?_
      refine j_icmp_ge (tgt := 78) B d_Mo_headAt_20 (by decide) (fun h20 => ?_) (fun h20 => (show False from h20 (nI_le (by omega) (by omega))).elim)
      refine j_iloadn B d_Mo_headAt_78 rfl ?_
      exact j_iret B hr hlk d_Mo_headAt_79 (sv hR.symm) (rfl)
    | succ r ih =>
      intro k b hk hR
      refine j_iload B d_Mo_headAt_12 rfl ?_
      refine j_aloadn B d_Mo_headAt_14 rfl ?_
      refine j_getr B fl_Mo_50 (m_0) rfl d_Mo_headAt_15 ?_
      refine j_iloadn B d_Mo_headAt_18 rfl ?_
      refine j_iald B (m_13) (⟨rfl, hg, by decide⟩) d_Mo_headAt_19 ?_
      refine j_topi (nI z) hz ?_
      refine j_icmp_ge (tgt := 78) B d_Mo_headAt_20 (by decide) (fun h20 => (show False from absurd (nIle h20 (by omega) (by omega)) (by omega)).elim) (fun h20 => ?_)
      refine j_bipush (v := 64) B d_Mo_headAt_23 (by decide) ?_
      refine j_iloadn B d_Mo_headAt_25 rfl ?_
      refine j_imul B d_Mo_headAt_26 ?_
      refine j_iload B d_Mo_headAt_27 rfl ?_
      refine j_iadd B d_Mo_headAt_29 ?_
      refine j_topi (nI (64 * g + k)) (ixm 64 g k) ?_
      refine j_istore B d_Mo_headAt_30 (by decide) ?_
      refine j_aloadn B d_Mo_headAt_32 rfl ?_
      refine j_getr B fl_Mo_53 (m_0) rfl d_Mo_headAt_33 ?_
      refine j_iload B d_Mo_headAt_36 rfl ?_
      refine j_iald B (m_14) (⟨rfl, by omega, by decide⟩) d_Mo_headAt_38 ?_
      refine j_aloadn B d_Mo_headAt_39 rfl ?_
      refine j_getr B fl_Mo_83 (m_0) rfl d_Mo_headAt_40 ?_
      refine j_iloadn B d_Mo_headAt_43 rfl ?_
      refine j_iald B (m_24) (⟨rfl, hi, by decide⟩) d_Mo_headAt_44 ?_
      refine j_icmp_gt (tgt := 72) B d_Mo_headAt_45 (by decide) (fun h45 => ?_) (fun h45 => ?_)
      · -- yes
        refine j_iinc B d_Mo_headAt_72 rfl (by decide) (nI_1 k) ?_
        refine j_goto (tgt := 12) B d_Mo_headAt_75 (by decide) ?_
        first
          | (refine j_loc [(4, .int (nI (k + 1))), (3, .int (x.2 (0, 0, 16) (64 * g + k))), (2, .int (nI g)), (0, .ref (ad 0)), (1, .int (nI i))] ⟨rfl, rfl, rfl, rfl, rfl, trivial⟩ ?_; exact ih (k + 1) _ (by omega) (by rw [← hR]; exact congrArg (haF _ _ _ _ r (k + 1)) (if_pos ⟨Int32.not_lt.mp h45, Int32.not_lt.mp h61⟩).symm))
          | (refine j_loc [(4, .int (nI (k + 1))), (3, .int b), (2, .int (nI g)), (0, .ref (ad 0)), (1, .int (nI i))] ⟨rfl, rfl, rfl, rfl, rfl, trivial⟩ ?_; exact ih (k + 1) _ (by omega) (by rw [← hR]; exact congrArg (haF _ _ _ _ r (k + 1)) (if_neg (fun y => absurd y.1 (Int32.not_le.mpr h45))).symm))
          | (refine j_loc [(4, .int (nI (k + 1))), (3, .int b), (2, .int (nI g)), (0, .ref (ad 0)), (1, .int (nI i))] ⟨rfl, rfl, rfl, rfl, rfl, trivial⟩ ?_; exact ih (k + 1) _ (by omega) (by rw [← hR]; exact congrArg (haF _ _ _ _ r (k + 1)) (if_neg (fun y => absurd y.2 (Int32.not_le.mpr h61))).symm))
      · -- no
        refine j_aloadn B d_Mo_headAt_48 rfl ?_
        refine j_getr B fl_Mo_83 (m_0) rfl d_Mo_headAt_49 ?_
        refine j_iloadn B d_Mo_headAt_52 rfl ?_
        refine j_iald B (m_24) (⟨rfl, hi, by decide⟩) d_Mo_headAt_53 ?_
        refine j_aloadn B d_Mo_headAt_54 rfl ?_
        refine j_getr B fl_Mo_56 (m_0) rfl d_Mo_headAt_55 ?_
        refine j_iload B d_Mo_headAt_58 rfl ?_
        refine j_iald B (m_15) (⟨rfl, by omega, by decide⟩) d_Mo_headAt_60 ?_
        refine j_icmp_gt (tgt := 72) B d_Mo_headAt_61 (by decide) (fun h61 => ?_) (fun h61 => ?_)
        · -- yes
          refine j_iinc B d_Mo_headAt_72 rfl (by decide) (nI_1 k) ?_
          refine j_goto (tgt := 12) B d_Mo_headAt_75 (by decide) ?_
          first
            | (refine j_loc [(4, .int (nI (k + 1))), (3, .int (x.2 (0, 0, 16) (64 * g + k))), (2, .int (nI g)), (0, .ref (ad 0)), (1, .int (nI i))] ⟨rfl, rfl, rfl, rfl, rfl, trivial⟩ ?_; exact ih (k + 1) _ (by omega) (by rw [← hR]; exact congrArg (haF _ _ _ _ r (k + 1)) (if_pos ⟨Int32.not_lt.mp h45, Int32.not_lt.mp h61⟩).symm))
            | (refine j_loc [(4, .int (nI (k + 1))), (3, .int b), (2, .int (nI g)), (0, .ref (ad 0)), (1, .int (nI i))] ⟨rfl, rfl, rfl, rfl, rfl, trivial⟩ ?_; exact ih (k + 1) _ (by omega) (by rw [← hR]; exact congrArg (haF _ _ _ _ r (k + 1)) (if_neg (fun y => absurd y.1 (Int32.not_le.mpr h45))).symm))
            | (refine j_loc [(4, .int (nI (k + 1))), (3, .int b), (2, .int (nI g)), (0, .ref (ad 0)), (1, .int (nI i))] ⟨rfl, rfl, rfl, rfl, rfl, trivial⟩ ?_; exact ih (k + 1) _ (by omega) (by rw [← hR]; exact congrArg (haF _ _ _ _ r (k + 1)) (if_neg (fun y => absurd y.2 (Int32.not_le.mpr h61))).symm))
        · -- no
          refine j_aloadn B d_Mo_headAt_64 rfl ?_
          refine j_getr B fl_Mo_59 (m_0) rfl d_Mo_headAt_65 ?_
          refine j_iload B d_Mo_headAt_68 rfl ?_
          refine j_iald B (m_16) (⟨rfl, by omega, by decide⟩) d_Mo_headAt_70 ?_
          refine j_istoren B d_Mo_headAt_71 (by decide) ?_
          refine j_iinc B d_Mo_headAt_72 rfl (by decide) (nI_1 k) ?_
          refine j_goto (tgt := 12) B d_Mo_headAt_75 (by decide) ?_
          first
            | (refine j_loc [(4, .int (nI (k + 1))), (3, .int (x.2 (0, 0, 16) (64 * g + k))), (2, .int (nI g)), (0, .ref (ad 0)), (1, .int (nI i))] ⟨rfl, rfl, rfl, rfl, rfl, trivial⟩ ?_; exact ih (k + 1) _ (by omega) (by rw [← hR]; exact congrArg (haF _ _ _ _ r (k + 1)) (if_pos ⟨Int32.not_lt.mp h45, Int32.not_lt.mp h61⟩).symm))
            | (refine j_loc [(4, .int (nI (k + 1))), (3, .int b), (2, .int (nI g)), (0, .ref (ad 0)), (1, .int (nI i))] ⟨rfl, rfl, rfl, rfl, rfl, trivial⟩ ?_; exact ih (k + 1) _ (by omega) (by rw [← hR]; exact congrArg (haF _ _ _ _ r (k + 1)) (if_neg (fun y => absurd y.1 (Int32.not_le.mpr h45))).symm))
            | (refine j_loc [(4, .int (nI (k + 1))), (3, .int b), (2, .int (nI g)), (0, .ref (ad 0)), (1, .int (nI i))] ⟨rfl, rfl, rfl, rfl, rfl, trivial⟩ ?_; exact ih (k + 1) _ (by omega) (by rw [← hR]; exact congrArg (haF _ _ _ _ r (k + 1)) (if_neg (fun y => absurd y.2 (Int32.not_le.mpr h61))).symm))
  refine j_aloadn B d_Mo_headAt_0 rfl ?_
  refine j_getr B fl_Mo_80 (m_0) rfl d_Mo_headAt_1 ?_
  refine j_iloadn B d_Mo_headAt_4 rfl ?_
  refine j_iald B (m_23) (⟨rfl, hi, by decide⟩) d_Mo_headAt_5 ?_
  refine j_topi (nI g) hfn ?_
  refine j_istoren B d_Mo_headAt_6 (by decide) ?_
  refine j_iconst (v := (-1)) B d_Mo_headAt_7 (by decide) ?_
  refine j_istoren B d_Mo_headAt_8 (by decide) ?_
  refine j_iconst (v := 0) B d_Mo_headAt_9 (by decide) ?_
  refine j_istore B d_Mo_headAt_10 (by decide) ?_
  refine j_loc [(4, .int (nI 0)), (3, .int (-1)), (2, .int (nI g)), (0, .ref (ad 0)), (1, .int (nI i))] ⟨rfl, rfl, rfl, rfl, rfl, trivial⟩ ?_
  exact loop z 0 (-1) (by omega) rfl
set_option maxRecDepth 100000 in
theorem ok_Mo_puts {l : Launch} {D : va_G} {aC : Nat → ClassId} {ad : Nat → Nat} (x : tm_M) (v : Int32) {t : Nat} (ht : x.2 (0, 0, 28) 0 = nI t) (h60 : t < 60) :
    OkM l y_Mo_puts b_Mo_puts 2 none (rom 0 0) D aC ad [.ref (ad 0), .int v] x none (sA (sA x (0, 0, 29) t v) (0, 0, 28) 0 (nI (t + 1))) := by
  refine ok_start (by decide) (Nat.le_of_ble_eq_true rfl) rfl ?_
  intro p e s m args below meth c B hr hlk hml
  have B : Cx p s m c args b_Mo_puts R_Mo D aC (rg 30 ad) 30 ad := B
  refine j_aloadn B d_Mo_puts_0 rfl ?_
  refine j_getr B fl_Mo_95 (m_0) rfl d_Mo_puts_1 ?_
  refine j_iconst (v := 0) B d_Mo_puts_4 (by decide) ?_
  refine j_iald B (m_28) (⟨(rfl : (0 : Int32) = nI 0), by decide, by decide⟩) d_Mo_puts_5 ?_
  refine j_bipush (v := 60) B d_Mo_puts_6 (by decide) ?_
  refine j_icmp_ne (tgt := 17) B d_Mo_puts_8 (by decide) (fun h8 => ?_) (fun h8 => (show False from absurd ((nI_eq (a := t) (b := 60) (by omega) (by decide)).mp (ht ▸ h8)) (by omega)).elim)
  refine j_aloadn B d_Mo_puts_17 rfl ?_
  refine j_getr B fl_Mo_98 (m_0) rfl d_Mo_puts_18 ?_
  refine j_aloadn B d_Mo_puts_21 rfl ?_
  refine j_getr B fl_Mo_95 (m_0) rfl d_Mo_puts_22 ?_
  refine j_iconst (v := 0) B d_Mo_puts_25 (by decide) ?_
  refine j_iald B (m_28) (⟨(rfl : (0 : Int32) = nI 0), by decide, by decide⟩) d_Mo_puts_26 ?_
  refine j_iloadn B d_Mo_puts_27 rfl ?_
  refine j_iast B kM_inj (m_29) (⟨ht, h60, by decide⟩) d_Mo_puts_28 ?_
  refine j_aloadn B d_Mo_puts_29 rfl ?_
  refine j_getr B fl_Mo_95 (m_0) rfl d_Mo_puts_30 ?_
  refine j_iconst (v := 0) B d_Mo_puts_33 (by decide) ?_
  refine j_dup2 B d_Mo_puts_34 rfl rfl ?_
  refine j_iald B (m_28) (⟨(rfl : (0 : Int32) = nI 0), by decide, by decide⟩) d_Mo_puts_35 ?_
  refine j_iconst (v := 1) B d_Mo_puts_36 (by decide) ?_
  refine j_iadd B d_Mo_puts_37 ?_
  refine j_topi (nI (t + 1)) (by rw [rAK (by decide), ht, nI_1]) ?_
  refine j_iast B kM_inj (m_28) (⟨(rfl : (0 : Int32) = nI 0), by decide, by decide⟩) d_Mo_puts_38 ?_
  exact j_vret B hr hlk d_Mo_puts_39 (rfl) (rfl)
set_option maxRecDepth 100000 in
theorem ok_Mo_puts_full {l : Launch} {D : va_G} {aC : Nat → ClassId} {ad : Nat → Nat} (x : tm_M) (v : Int32) (ht : x.2 (0, 0, 28) 0 = nI 60) :
    OkM l y_Mo_puts b_Mo_puts 2 none (rom 0 0) D aC ad [.ref (ad 0), .int v] x none (sI x (0, 0, 0) 35 5) := by
  refine ok_start (by decide) (Nat.le_of_ble_eq_true rfl) rfl ?_
  intro p e s m args below meth c B hr hlk hml
  have B : Cx p s m c args b_Mo_puts R_Mo D aC (rg 30 ad) 30 ad := B
  refine j_aloadn B d_Mo_puts_0 rfl ?_
  refine j_getr B fl_Mo_95 (m_0) rfl d_Mo_puts_1 ?_
  refine j_iconst (v := 0) B d_Mo_puts_4 (by decide) ?_
  refine j_iald B (m_28) (⟨(rfl : (0 : Int32) = nI 0), by decide, by decide⟩) d_Mo_puts_5 ?_
  refine j_bipush (v := 60) B d_Mo_puts_6 (by decide) ?_
  refine j_icmp_ne (tgt := 17) B d_Mo_puts_8 (by decide) (fun h8 => (show False from h8 (by rw [ht]; rfl)).elim) (fun h8 => ?_)
  refine j_aloadn B d_Mo_puts_11 rfl ?_
  refine j_iconst (v := 5) B d_Mo_puts_12 (by decide) ?_
  refine j_puti B kM_inj fs_Mo_189 (m_0) rfl d_Mo_puts_13 ?_
  exact j_vret B hr hlk d_Mo_puts_16 (rfl) (rfl)
set_option maxRecDepth 100000 in
theorem ok_Mo_calls_none {l : Launch} {D : va_G} {aC : Nat → ClassId} {ad : Nat → Nat} {f : Nat} (hf : f < 6) (x : tm_M) (h0 : x.2 (0, 0, 5) f = 0) :
    OkM l y_Mo_calls b_Mo_calls 2 none (rom 1 22) D aC ad [.ref (ad 0), .int (nI f)] x none (sI x (0, 0, 0) 35 4) := by
  refine ok_start (by decide) (Nat.le_of_ble_eq_true rfl) rfl ?_
  intro p e s m args below meth c B hr hlk hml
  have B : Cx p s m c args b_Mo_calls R_Mo D aC (rg 30 ad) 30 ad := B
  refine j_aloadn B d_Mo_calls_0 rfl ?_
  refine j_getr B fl_Mo_26 (m_0) rfl d_Mo_calls_1 ?_
  refine j_iloadn B d_Mo_calls_4 rfl ?_
  refine j_iald B (m_5) (⟨rfl, hf, by decide⟩) d_Mo_calls_5 ?_
  refine j_if_ne (tgt := 17) B d_Mo_calls_6 (by decide) (fun h6 => (show False from h6 h0).elim) (fun h6 => ?_)
  refine j_aloadn B d_Mo_calls_9 rfl ?_
  refine j_iconst (v := 4) B d_Mo_calls_10 (by decide) ?_
  refine j_puti B kM_inj fs_Mo_189 (m_0) rfl d_Mo_calls_11 ?_
  refine j_goto (tgt := 39) B d_Mo_calls_14 (by decide) ?_
  exact j_vret B hr hlk d_Mo_calls_39 (rfl) (rfl)
set_option maxRecDepth 100000 in
theorem ok_Mo_calls_deep {l : Launch} {D : va_G} {aC : Nat → ClassId} {ad : Nat → Nat} {f : Nat} (hf : f < 6) (x : tm_M) (h0 : ¬ x.2 (0, 0, 5) f = 0) (hd : x.1 (0, 0, 0) 25 = nI 8) :
    OkM l y_Mo_calls b_Mo_calls 2 none (rom 1 22) D aC ad [.ref (ad 0), .int (nI f)] x none (sI x (0, 0, 0) 35 2) := by
  refine ok_start (by decide) (Nat.le_of_ble_eq_true rfl) rfl ?_
  intro p e s m args below meth c B hr hlk hml
  have B : Cx p s m c args b_Mo_calls R_Mo D aC (rg 30 ad) 30 ad := B
  refine j_aloadn B d_Mo_calls_0 rfl ?_
  refine j_getr B fl_Mo_26 (m_0) rfl d_Mo_calls_1 ?_
  refine j_iloadn B d_Mo_calls_4 rfl ?_
  refine j_iald B (m_5) (⟨rfl, hf, by decide⟩) d_Mo_calls_5 ?_
  refine j_if_ne (tgt := 17) B d_Mo_calls_6 (by decide) (fun h6 => ?_) (fun h6 => (show False from h0 h6).elim)
  refine j_aloadn B d_Mo_calls_17 rfl ?_
  refine j_geti B fl_Mo_164 (m_0) rfl d_Mo_calls_18 ?_
  refine j_bipush (v := 8) B d_Mo_calls_21 (by decide) ?_
  refine j_icmp_ne (tgt := 34) B d_Mo_calls_23 (by decide) (fun h23 => (show False from h23 (by rw [hd]; rfl)).elim) (fun h23 => ?_)
  refine j_aloadn B d_Mo_calls_26 rfl ?_
  refine j_iconst (v := 2) B d_Mo_calls_27 (by decide) ?_
  refine j_puti B kM_inj fs_Mo_189 (m_0) rfl d_Mo_calls_28 ?_
  refine j_goto (tgt := 39) B d_Mo_calls_31 (by decide) ?_
  exact j_vret B hr hlk d_Mo_calls_39 (rfl) (rfl)
set_option maxRecDepth 100000 in
theorem ok_Mo_calls {l : Launch} {D : va_G} {aC : Nat → ClassId} {ad : Nat → Nat} {f : Nat} (hf : f < 6) (x : tm_M) (h0 : ¬ x.2 (0, 0, 5) f = 0) {d : Nat} (hd : x.1 (0, 0, 0) 25 = nI d) (hd8 : d < 8) :
    OkM l y_Mo_calls b_Mo_calls 2 none (rom 1 22) D aC ad [.ref (ad 0), .int (nI f)] x none (enM d f x) := by
  refine ok_start (by decide) (Nat.le_of_ble_eq_true rfl) rfl ?_
  intro p e s m args below meth c B hr hlk hml
  have B : Cx p s m c args b_Mo_calls R_Mo D aC (rg 30 ad) 30 ad := B
  refine j_aloadn B d_Mo_calls_0 rfl ?_
  refine j_getr B fl_Mo_26 (m_0) rfl d_Mo_calls_1 ?_
  refine j_iloadn B d_Mo_calls_4 rfl ?_
  refine j_iald B (m_5) (⟨rfl, hf, by decide⟩) d_Mo_calls_5 ?_
  refine j_if_ne (tgt := 17) B d_Mo_calls_6 (by decide) (fun h6 => ?_) (fun h6 => (show False from h0 h6).elim)
  refine j_aloadn B d_Mo_calls_17 rfl ?_
  refine j_geti B fl_Mo_164 (m_0) rfl d_Mo_calls_18 ?_
  refine j_bipush (v := 8) B d_Mo_calls_21 (by decide) ?_
  refine j_icmp_ne (tgt := 34) B d_Mo_calls_23 (by decide) (fun h23 => ?_) (fun h23 => (show False from absurd ((nI_eq (a := d) (b := 8) (by omega) (by decide)).mp (hd ▸ h23)) (by omega)).elim)
  refine j_aloadn B d_Mo_calls_34 rfl ?_
  refine j_iloadn B d_Mo_calls_35 rfl ?_
  refine j_cVt B (ok_Mo_enters x hd hd8) cv_Mo_enters ml_Mo_195 (m_0) rfl rfl ⟨rfl, rfl, by decide, by decide⟩ ⟨Nat.zero_le _, Nat.zero_le _⟩ hml (Nat.le_of_ble_eq_true rfl) rfl d_Mo_calls_36 ?_
  exact j_vret B hr hlk d_Mo_calls_39 (rfl) (rfl)
set_option maxRecDepth 100000 in
theorem ok_Mo_count_1 {l : Launch} {D : va_G} {aC : Nat → ClassId} {ad : Nat → Nat} (x : tm_M) (k : Int32) (h1 : k < 0 ∨ 5 < k) :
    OkM l y_Mo_count b_Mo_count 2 (some .int) (rom 1 22) D aC ad [.ref (ad 0), .int k] x (some (.int 0)) (sI x (0, 0, 0) 0 1) := by
  refine ok_start (by decide) (Nat.le_of_ble_eq_true rfl) rfl ?_
  intro p e s m args below meth c B hr hlk hml
  have B : Cx p s m c args b_Mo_count R_Mo D aC (rg 30 ad) 30 ad := B
  refine j_aloadn B d_Mo_count_0 rfl ?_
  refine j_iloadn B d_Mo_count_1 rfl ?_
  refine j_iconst (v := 0) B d_Mo_count_2 (by decide) ?_
  refine j_iconst (v := 5) B d_Mo_count_3 (by decide) ?_
  refine j_cS B (ok_Mo_outside x k 0 5) cs_Mo_outside ml_Mo_104 rfl ⟨rfl, rfl, by decide, by decide⟩ ⟨Nat.zero_le _, Nat.zero_le _⟩ hml (Nat.le_of_ble_eq_true rfl) rfl d_Mo_count_4 ?_
  refine j_iconst (v := 0) B d_Mo_count_7 (by decide) ?_
  refine j_cVt B (ok_Mo_fails x (bI (k < 0 ∨ 5 < k)) 0) cv_Mo_fails ml_Mo_108 (m_0) rfl rfl ⟨rfl, rfl, by decide, by decide⟩ ⟨Nat.zero_le _, Nat.zero_le _⟩ hml (Nat.le_of_ble_eq_true rfl) rfl d_Mo_count_8 ?_
  refine j_if_eq (tgt := 18) B d_Mo_count_11 (by decide) (fun h11 => (show False from bI_e h11 (by rw [fv1 (bI1 h1)]; decide)).elim) (fun h11 => ?_)
  refine j_iconst (v := 0) B d_Mo_count_14 (by decide) ?_
  refine j_goto (tgt := 24) B d_Mo_count_15 (by decide) ?_
  exact j_iret B hr hlk d_Mo_count_24 (rfl) (by rw [fv1 (bI1 h1)])
set_option maxRecDepth 100000 in
theorem ok_Mo_count_0 {l : Launch} {D : va_G} {aC : Nat → ClassId} {ad : Nat → Nat} {f : Nat} (hf : f < 6) (x : tm_M) :
    OkM l y_Mo_count b_Mo_count 2 (some .int) (rom 1 22) D aC ad [.ref (ad 0), .int (nI f)] x (some (.int (x.2 (0, 0, 28) f))) (sI x (0, 0, 0) 0 0) := by
  refine ok_start (by decide) (Nat.le_of_ble_eq_true rfl) rfl ?_
  intro p e s m args below meth c B hr hlk hml
  have B : Cx p s m c args b_Mo_count R_Mo D aC (rg 30 ad) 30 ad := B
  refine j_aloadn B d_Mo_count_0 rfl ?_
  refine j_iloadn B d_Mo_count_1 rfl ?_
  refine j_iconst (v := 0) B d_Mo_count_2 (by decide) ?_
  refine j_iconst (v := 5) B d_Mo_count_3 (by decide) ?_
  refine j_cS B (ok_Mo_outside x (nI f) 0 5) cs_Mo_outside ml_Mo_104 rfl ⟨rfl, rfl, by decide, by decide⟩ ⟨Nat.zero_le _, Nat.zero_le _⟩ hml (Nat.le_of_ble_eq_true rfl) rfl d_Mo_count_4 ?_
  refine j_iconst (v := 0) B d_Mo_count_7 (by decide) ?_
  refine j_cVt B (ok_Mo_fails x (bI (nI f < 0 ∨ 5 < nI f)) 0) cv_Mo_fails ml_Mo_108 (m_0) rfl rfl ⟨rfl, rfl, by decide, by decide⟩ ⟨Nat.zero_le _, Nat.zero_le _⟩ hml (Nat.le_of_ble_eq_true rfl) rfl d_Mo_count_8 ?_
  refine j_if_eq (tgt := 18) B d_Mo_count_11 (by decide) (fun h11 => ?_) (fun h11 => (show False from absurd (bI_ne h11) (by rw [fv0 (bI_f (f_in hf)) rfl]; decide)).elim)
  refine j_aloadn B d_Mo_count_18 rfl ?_
  refine j_getr B fl_Mo_95 (m_0) rfl d_Mo_count_19 ?_
  refine j_iloadn B d_Mo_count_22 rfl ?_
  refine j_iald B (m_28) (⟨rfl, hf, by decide⟩) d_Mo_count_23 ?_
  exact j_iret B hr hlk d_Mo_count_24 (rfl) (by rw [fv0 (bI_f (f_in hf)) rfl])
set_option maxRecDepth 100000 in
theorem ok_Mo_out_1 {l : Launch} {D : va_G} {aC : Nat → ClassId} {ad : Nat → Nat} (x : tm_M) (k : Int32) (h1 : (k < 0 ∨ x.2 (0, 0, 28) 0 - 1 < k)) :
    OkM l y_Mo_out b_Mo_out 2 (some .int) (rom 1 22) D aC ad [.ref (ad 0), .int k] x (some (.int 0)) (sI x (0, 0, 0) 0 1) := by
  refine ok_start (by decide) (Nat.le_of_ble_eq_true rfl) rfl ?_
  intro p e s m args below meth c B hr hlk hml
  have B : Cx p s m c args b_Mo_out R_Mo D aC (rg 30 ad) 30 ad := B
  refine j_aloadn B d_Mo_out_0 rfl ?_
  refine j_iloadn B d_Mo_out_1 rfl ?_
  refine j_iconst (v := 0) B d_Mo_out_2 (by decide) ?_
  refine j_aloadn B d_Mo_out_3 rfl ?_
  refine j_getr B fl_Mo_95 (m_0) rfl d_Mo_out_4 ?_
  refine j_iconst (v := 0) B d_Mo_out_7 (by decide) ?_
  refine j_iald B (m_28) (⟨(rfl : (0 : Int32) = nI 0), by decide, by decide⟩) d_Mo_out_8 ?_
  refine j_iconst (v := 1) B d_Mo_out_9 (by decide) ?_
  refine j_isub B d_Mo_out_10 ?_
  refine j_cS B (ok_Mo_outside x k 0 (x.2 (0, 0, 28) 0 - 1)) cs_Mo_outside ml_Mo_104 rfl ⟨rfl, rfl, by decide, by decide⟩ ⟨Nat.zero_le _, Nat.zero_le _⟩ hml (Nat.le_of_ble_eq_true rfl) rfl d_Mo_out_11 ?_
  refine j_iconst (v := 0) B d_Mo_out_14 (by decide) ?_
  refine j_cVt B (ok_Mo_fails x (bI (k < 0 ∨ x.2 (0, 0, 28) 0 - 1 < k)) 0) cv_Mo_fails ml_Mo_108 (m_0) rfl rfl ⟨rfl, rfl, by decide, by decide⟩ ⟨Nat.zero_le _, Nat.zero_le _⟩ hml (Nat.le_of_ble_eq_true rfl) rfl d_Mo_out_15 ?_
  refine j_if_eq (tgt := 25) B d_Mo_out_18 (by decide) (fun h18 => (show False from bI_e h18 (by rw [fv1 (bI1 h1)]; decide)).elim) (fun h18 => ?_)
  refine j_iconst (v := 0) B d_Mo_out_21 (by decide) ?_
  refine j_goto (tgt := 31) B d_Mo_out_22 (by decide) ?_
  exact j_iret B hr hlk d_Mo_out_31 (rfl) (by rw [fv1 (bI1 h1)])
set_option maxRecDepth 100000 in
theorem ok_Mo_out_0 {l : Launch} {D : va_G} {aC : Nat → ClassId} {ad : Nat → Nat} (x : tm_M) {k : Nat} (hk : k < 60) (h1 : ¬ (nI k < 0 ∨ x.2 (0, 0, 28) 0 - 1 < nI k)) :
    OkM l y_Mo_out b_Mo_out 2 (some .int) (rom 1 22) D aC ad [.ref (ad 0), .int (nI k)] x (some (.int (x.2 (0, 0, 29) k))) (sI x (0, 0, 0) 0 0) := by
  refine ok_start (by decide) (Nat.le_of_ble_eq_true rfl) rfl ?_
  intro p e s m args below meth c B hr hlk hml
  have B : Cx p s m c args b_Mo_out R_Mo D aC (rg 30 ad) 30 ad := B
  refine j_aloadn B d_Mo_out_0 rfl ?_
  refine j_iloadn B d_Mo_out_1 rfl ?_
  refine j_iconst (v := 0) B d_Mo_out_2 (by decide) ?_
  refine j_aloadn B d_Mo_out_3 rfl ?_
  refine j_getr B fl_Mo_95 (m_0) rfl d_Mo_out_4 ?_
  refine j_iconst (v := 0) B d_Mo_out_7 (by decide) ?_
  refine j_iald B (m_28) (⟨(rfl : (0 : Int32) = nI 0), by decide, by decide⟩) d_Mo_out_8 ?_
  refine j_iconst (v := 1) B d_Mo_out_9 (by decide) ?_
  refine j_isub B d_Mo_out_10 ?_
  refine j_cS B (ok_Mo_outside x (nI k) 0 (x.2 (0, 0, 28) 0 - 1)) cs_Mo_outside ml_Mo_104 rfl ⟨rfl, rfl, by decide, by decide⟩ ⟨Nat.zero_le _, Nat.zero_le _⟩ hml (Nat.le_of_ble_eq_true rfl) rfl d_Mo_out_11 ?_
  refine j_iconst (v := 0) B d_Mo_out_14 (by decide) ?_
  refine j_cVt B (ok_Mo_fails x (bI (nI k < 0 ∨ x.2 (0, 0, 28) 0 - 1 < nI k)) 0) cv_Mo_fails ml_Mo_108 (m_0) rfl rfl ⟨rfl, rfl, by decide, by decide⟩ ⟨Nat.zero_le _, Nat.zero_le _⟩ hml (Nat.le_of_ble_eq_true rfl) rfl d_Mo_out_15 ?_
  refine j_if_eq (tgt := 25) B d_Mo_out_18 (by decide) (fun h18 => ?_) (fun h18 => (show False from absurd (bI_ne h18) (by rw [fv0 (bI_f h1) rfl]; decide)).elim)
  refine j_aloadn B d_Mo_out_25 rfl ?_
  refine j_getr B fl_Mo_98 (m_0) rfl d_Mo_out_26 ?_
  refine j_iloadn B d_Mo_out_29 rfl ?_
  refine j_iald B (m_29) (⟨rfl, hk, by decide⟩) d_Mo_out_30 ?_
  exact j_iret B hr hlk d_Mo_out_31 (rfl) (by rw [fv0 (bI_f h1) rfl])
set_option maxRecDepth 100000 in
theorem ok_Mo_size_1 {l : Launch} {D : va_G} {aC : Nat → ClassId} {ad : Nat → Nat} (x : tm_M) (g k : Int32) (h1 : (g < 0 ∨ 5 < g) ∨ (k < 0 ∨ 2 < k)) :
    OkM l y_Mo_size b_Mo_size 3 (some .int) (rom 1 22) D aC ad [.ref (ad 0), .int g, .int k] x (some (.int 0)) (sI x (0, 0, 0) 0 1) := by
  refine ok_start (by decide) (Nat.le_of_ble_eq_true rfl) rfl ?_
  intro p e s m args below meth c B hr hlk hml
  have B : Cx p s m c args b_Mo_size R_Mo D aC (rg 30 ad) 30 ad := B
  refine j_aloadn B d_Mo_size_0 rfl ?_
  refine j_iloadn B d_Mo_size_1 rfl ?_
  refine j_iconst (v := 0) B d_Mo_size_2 (by decide) ?_
  refine j_iconst (v := 5) B d_Mo_size_3 (by decide) ?_
  refine j_cS B (ok_Mo_outside x g 0 5) cs_Mo_outside ml_Mo_104 rfl ⟨rfl, rfl, by decide, by decide⟩ ⟨Nat.zero_le _, Nat.zero_le _⟩ hml (Nat.le_of_ble_eq_true rfl) rfl d_Mo_size_4 ?_
  refine j_if_ne (tgt := 19) B d_Mo_size_7 (by decide) (fun h7 => ?_) (fun h7 => ?_)
  · -- yes
    refine j_iconst (v := 1) B d_Mo_size_19 (by decide) ?_
    refine j_goto (tgt := 24) B d_Mo_size_20 (by decide) ?_
    refine j_iconst (v := 0) B d_Mo_size_24 (by decide) ?_
    refine j_cVt B (ok_Mo_fails x 1 0) cv_Mo_fails ml_Mo_108 (m_0) rfl rfl ⟨rfl, rfl, by decide, by decide⟩ ⟨Nat.zero_le _, Nat.zero_le _⟩ hml (Nat.le_of_ble_eq_true rfl) rfl d_Mo_size_25 ?_
    refine j_if_eq (tgt := 33) B d_Mo_size_28 (by decide) (fun h28 => (show False from bI_e h28 (by decide)).elim) (fun h28 => ?_)
    refine j_iconst (v := 0) B d_Mo_size_31 (by decide) ?_
    exact j_iret B hr hlk d_Mo_size_32 (rfl) (rfl)
  · -- no
    refine j_iloadn B d_Mo_size_10 rfl ?_
    refine j_iconst (v := 0) B d_Mo_size_11 (by decide) ?_
    refine j_iconst (v := 2) B d_Mo_size_12 (by decide) ?_
    refine j_cS B (ok_Mo_outside x k 0 2) cs_Mo_outside ml_Mo_104 rfl ⟨rfl, rfl, by decide, by decide⟩ ⟨Nat.zero_le _, Nat.zero_le _⟩ hml (Nat.le_of_ble_eq_true rfl) rfl d_Mo_size_13 ?_
    refine j_if_eq (tgt := 23) B d_Mo_size_16 (by decide) (fun h16 => (show False from h1.elim (bI_e h7) (bI_e h16)).elim) (fun h16 => ?_)
    refine j_iconst (v := 1) B d_Mo_size_19 (by decide) ?_
    refine j_goto (tgt := 24) B d_Mo_size_20 (by decide) ?_
    refine j_iconst (v := 0) B d_Mo_size_24 (by decide) ?_
    refine j_cVt B (ok_Mo_fails x 1 0) cv_Mo_fails ml_Mo_108 (m_0) rfl rfl ⟨rfl, rfl, by decide, by decide⟩ ⟨Nat.zero_le _, Nat.zero_le _⟩ hml (Nat.le_of_ble_eq_true rfl) rfl d_Mo_size_25 ?_
    refine j_if_eq (tgt := 33) B d_Mo_size_28 (by decide) (fun h28 => (show False from bI_e h28 (by decide)).elim) (fun h28 => ?_)
    refine j_iconst (v := 0) B d_Mo_size_31 (by decide) ?_
    exact j_iret B hr hlk d_Mo_size_32 (rfl) (rfl)
set_option maxRecDepth 100000 in
theorem ok_Mo_size_0_0 {l : Launch} {D : va_G} {aC : Nat → ClassId} {ad : Nat → Nat} {f : Nat} (hf : f < 6) (x : tm_M) :
    OkM l y_Mo_size b_Mo_size 3 (some .int) (rom 1 22) D aC ad [.ref (ad 0), .int (nI f), .int 0] x (some (.int (x.2 (0, 0, 5) f))) (sI x (0, 0, 0) 0 0) := by
  refine ok_start (by decide) (Nat.le_of_ble_eq_true rfl) rfl ?_
  intro p e s m args below meth c B hr hlk hml
  have B : Cx p s m c args b_Mo_size R_Mo D aC (rg 30 ad) 30 ad := B
  refine j_aloadn B d_Mo_size_0 rfl ?_
  refine j_iloadn B d_Mo_size_1 rfl ?_
  refine j_iconst (v := 0) B d_Mo_size_2 (by decide) ?_
  refine j_iconst (v := 5) B d_Mo_size_3 (by decide) ?_
  refine j_cS B (ok_Mo_outside x (nI f) 0 5) cs_Mo_outside ml_Mo_104 rfl ⟨rfl, rfl, by decide, by decide⟩ ⟨Nat.zero_le _, Nat.zero_le _⟩ hml (Nat.le_of_ble_eq_true rfl) rfl d_Mo_size_4 ?_
  refine j_if_ne (tgt := 19) B d_Mo_size_7 (by decide) (fun h7 => (show False from f_in hf (bI_ne h7)).elim) (fun h7 => ?_)
  refine j_iloadn B d_Mo_size_10 rfl ?_
  refine j_iconst (v := 0) B d_Mo_size_11 (by decide) ?_
  refine j_iconst (v := 2) B d_Mo_size_12 (by decide) ?_
  refine j_cS B (ok_Mo_outside x 0 0 2) cs_Mo_outside ml_Mo_104 rfl ⟨rfl, rfl, by decide, by decide⟩ ⟨Nat.zero_le _, Nat.zero_le _⟩ hml (Nat.le_of_ble_eq_true rfl) rfl d_Mo_size_13 ?_
  refine j_if_eq (tgt := 23) B d_Mo_size_16 (by decide) (fun h16 => ?_) (fun h16 => (show False from absurd (bI_ne h16) (by decide)).elim)
  refine j_iconst (v := 0) B d_Mo_size_23 (by decide) ?_
  refine j_iconst (v := 0) B d_Mo_size_24 (by decide) ?_
  refine j_cVt B (ok_Mo_fails x 0 0) cv_Mo_fails ml_Mo_108 (m_0) rfl rfl ⟨rfl, rfl, by decide, by decide⟩ ⟨Nat.zero_le _, Nat.zero_le _⟩ hml (Nat.le_of_ble_eq_true rfl) rfl d_Mo_size_25 ?_
  refine j_if_eq (tgt := 33) B d_Mo_size_28 (by decide) (fun h28 => ?_) (fun h28 => (show False from absurd (bI_ne h28) (by decide)).elim)
  refine j_iloadn B d_Mo_size_33 rfl ?_
  refine j_if_ne (tgt := 46) B d_Mo_size_34 (by decide) (fun h34 => (show False from h34 rfl).elim) (fun h34 => ?_)
  refine j_aloadn B d_Mo_size_37 rfl ?_
  refine j_getr B fl_Mo_26 (m_0) rfl d_Mo_size_38 ?_
  refine j_iloadn B d_Mo_size_41 rfl ?_
  refine j_iald B (m_5) (⟨rfl, hf, by decide⟩) d_Mo_size_42 ?_
  refine j_goto (tgt := 66) B d_Mo_size_43 (by decide) ?_
  exact j_iret B hr hlk d_Mo_size_66 (rfl) (rfl)
set_option maxRecDepth 100000 in
theorem ok_Mo_size_0_1 {l : Launch} {D : va_G} {aC : Nat → ClassId} {ad : Nat → Nat} {f : Nat} (hf : f < 6) (x : tm_M) :
    OkM l y_Mo_size b_Mo_size 3 (some .int) (rom 1 22) D aC ad [.ref (ad 0), .int (nI f), .int 1] x (some (.int (x.2 (0, 0, 9) f))) (sI x (0, 0, 0) 0 0) := by
  refine ok_start (by decide) (Nat.le_of_ble_eq_true rfl) rfl ?_
  intro p e s m args below meth c B hr hlk hml
  have B : Cx p s m c args b_Mo_size R_Mo D aC (rg 30 ad) 30 ad := B
  refine j_aloadn B d_Mo_size_0 rfl ?_
  refine j_iloadn B d_Mo_size_1 rfl ?_
  refine j_iconst (v := 0) B d_Mo_size_2 (by decide) ?_
  refine j_iconst (v := 5) B d_Mo_size_3 (by decide) ?_
  refine j_cS B (ok_Mo_outside x (nI f) 0 5) cs_Mo_outside ml_Mo_104 rfl ⟨rfl, rfl, by decide, by decide⟩ ⟨Nat.zero_le _, Nat.zero_le _⟩ hml (Nat.le_of_ble_eq_true rfl) rfl d_Mo_size_4 ?_
  refine j_if_ne (tgt := 19) B d_Mo_size_7 (by decide) (fun h7 => (show False from f_in hf (bI_ne h7)).elim) (fun h7 => ?_)
  refine j_iloadn B d_Mo_size_10 rfl ?_
  refine j_iconst (v := 0) B d_Mo_size_11 (by decide) ?_
  refine j_iconst (v := 2) B d_Mo_size_12 (by decide) ?_
  refine j_cS B (ok_Mo_outside x 1 0 2) cs_Mo_outside ml_Mo_104 rfl ⟨rfl, rfl, by decide, by decide⟩ ⟨Nat.zero_le _, Nat.zero_le _⟩ hml (Nat.le_of_ble_eq_true rfl) rfl d_Mo_size_13 ?_
  refine j_if_eq (tgt := 23) B d_Mo_size_16 (by decide) (fun h16 => ?_) (fun h16 => (show False from absurd (bI_ne h16) (by decide)).elim)
  refine j_iconst (v := 0) B d_Mo_size_23 (by decide) ?_
  refine j_iconst (v := 0) B d_Mo_size_24 (by decide) ?_
  refine j_cVt B (ok_Mo_fails x 0 0) cv_Mo_fails ml_Mo_108 (m_0) rfl rfl ⟨rfl, rfl, by decide, by decide⟩ ⟨Nat.zero_le _, Nat.zero_le _⟩ hml (Nat.le_of_ble_eq_true rfl) rfl d_Mo_size_25 ?_
  refine j_if_eq (tgt := 33) B d_Mo_size_28 (by decide) (fun h28 => ?_) (fun h28 => (show False from absurd (bI_ne h28) (by decide)).elim)
  refine j_iloadn B d_Mo_size_33 rfl ?_
  refine j_if_ne (tgt := 46) B d_Mo_size_34 (by decide) (fun h34 => ?_) (fun h34 => (show False from absurd h34 (by decide)).elim)
  refine j_iloadn B d_Mo_size_46 rfl ?_
  refine j_iconst (v := 1) B d_Mo_size_47 (by decide) ?_
  refine j_icmp_ne (tgt := 60) B d_Mo_size_48 (by decide) (fun h48 => (show False from h48 rfl).elim) (fun h48 => ?_)
  refine j_aloadn B d_Mo_size_51 rfl ?_
  refine j_getr B fl_Mo_38 (m_0) rfl d_Mo_size_52 ?_
  refine j_iloadn B d_Mo_size_55 rfl ?_
  refine j_iald B (m_9) (⟨rfl, hf, by decide⟩) d_Mo_size_56 ?_
  refine j_goto (tgt := 66) B d_Mo_size_57 (by decide) ?_
  exact j_iret B hr hlk d_Mo_size_66 (rfl) (rfl)
set_option maxRecDepth 100000 in
theorem ok_Mo_size_0_2 {l : Launch} {D : va_G} {aC : Nat → ClassId} {ad : Nat → Nat} {f : Nat} (hf : f < 6) (x : tm_M) :
    OkM l y_Mo_size b_Mo_size 3 (some .int) (rom 1 22) D aC ad [.ref (ad 0), .int (nI f), .int 2] x (some (.int (x.2 (0, 0, 13) f))) (sI x (0, 0, 0) 0 0) := by
  refine ok_start (by decide) (Nat.le_of_ble_eq_true rfl) rfl ?_
  intro p e s m args below meth c B hr hlk hml
  have B : Cx p s m c args b_Mo_size R_Mo D aC (rg 30 ad) 30 ad := B
  refine j_aloadn B d_Mo_size_0 rfl ?_
  refine j_iloadn B d_Mo_size_1 rfl ?_
  refine j_iconst (v := 0) B d_Mo_size_2 (by decide) ?_
  refine j_iconst (v := 5) B d_Mo_size_3 (by decide) ?_
  refine j_cS B (ok_Mo_outside x (nI f) 0 5) cs_Mo_outside ml_Mo_104 rfl ⟨rfl, rfl, by decide, by decide⟩ ⟨Nat.zero_le _, Nat.zero_le _⟩ hml (Nat.le_of_ble_eq_true rfl) rfl d_Mo_size_4 ?_
  refine j_if_ne (tgt := 19) B d_Mo_size_7 (by decide) (fun h7 => (show False from f_in hf (bI_ne h7)).elim) (fun h7 => ?_)
  refine j_iloadn B d_Mo_size_10 rfl ?_
  refine j_iconst (v := 0) B d_Mo_size_11 (by decide) ?_
  refine j_iconst (v := 2) B d_Mo_size_12 (by decide) ?_
  refine j_cS B (ok_Mo_outside x 2 0 2) cs_Mo_outside ml_Mo_104 rfl ⟨rfl, rfl, by decide, by decide⟩ ⟨Nat.zero_le _, Nat.zero_le _⟩ hml (Nat.le_of_ble_eq_true rfl) rfl d_Mo_size_13 ?_
  refine j_if_eq (tgt := 23) B d_Mo_size_16 (by decide) (fun h16 => ?_) (fun h16 => (show False from absurd (bI_ne h16) (by decide)).elim)
  refine j_iconst (v := 0) B d_Mo_size_23 (by decide) ?_
  refine j_iconst (v := 0) B d_Mo_size_24 (by decide) ?_
  refine j_cVt B (ok_Mo_fails x 0 0) cv_Mo_fails ml_Mo_108 (m_0) rfl rfl ⟨rfl, rfl, by decide, by decide⟩ ⟨Nat.zero_le _, Nat.zero_le _⟩ hml (Nat.le_of_ble_eq_true rfl) rfl d_Mo_size_25 ?_
  refine j_if_eq (tgt := 33) B d_Mo_size_28 (by decide) (fun h28 => ?_) (fun h28 => (show False from absurd (bI_ne h28) (by decide)).elim)
  refine j_iloadn B d_Mo_size_33 rfl ?_
  refine j_if_ne (tgt := 46) B d_Mo_size_34 (by decide) (fun h34 => ?_) (fun h34 => (show False from absurd h34 (by decide)).elim)
  refine j_iloadn B d_Mo_size_46 rfl ?_
  refine j_iconst (v := 1) B d_Mo_size_47 (by decide) ?_
  refine j_icmp_ne (tgt := 60) B d_Mo_size_48 (by decide) (fun h48 => ?_) (fun h48 => (show False from absurd h48 (by decide)).elim)
  refine j_aloadn B d_Mo_size_60 rfl ?_
  refine j_getr B fl_Mo_50 (m_0) rfl d_Mo_size_61 ?_
  refine j_iloadn B d_Mo_size_64 rfl ?_
  refine j_iald B (m_13) (⟨rfl, hf, by decide⟩) d_Mo_size_65 ?_
  exact j_iret B hr hlk d_Mo_size_66 (rfl) (rfl)
set_option maxRecDepth 100000 in
theorem ok_Mo_code_1 {l : Launch} {D : va_G} {aC : Nat → ClassId} {ad : Nat → Nat} (x : tm_M) (g p2 w : Int32) (hbad : ¬ (0 ≤ g ∧ g < 6 ∧ 0 ≤ p2 ∧ (∀ f, f < 6 → g = nI f → p2 < x.2 (0, 0, 5) f) ∧ (w = 0 ∨ w = 1))) :
    OkM l y_Mo_code b_Mo_code 5 (some .int) (rom 1 22) D aC ad [.ref (ad 0), .int g, .int p2, .int w] x (some (.int 0)) (sI x (0, 0, 0) 0 1) := by
  refine ok_start (by decide) (Nat.le_of_ble_eq_true rfl) rfl ?_
  intro p e s m args below meth c B hr hlk hml
  have B : Cx p s m c args b_Mo_code R_Mo D aC (rg 30 ad) 30 ad := B
  refine j_iloadn B d_Mo_code_0 rfl ?_
  refine j_if_lt (tgt := 37) B d_Mo_code_1 (by decide) (fun h1 => ?_) (fun h1 => ?_)
  · -- yes
    refine j_iconst (v := 0) B d_Mo_code_37 (by decide) ?_
    refine j_istore B d_Mo_code_38 (by decide) ?_
    refine j_aloadn B d_Mo_code_40 rfl ?_
    refine j_iload B d_Mo_code_41 rfl ?_
    refine j_if_ne (tgt := 50) B d_Mo_code_43 (by decide) (fun h43 => (show False from h43 rfl).elim) (fun h43 => ?_)
    refine j_iconst (v := 1) B d_Mo_code_46 (by decide) ?_
    refine j_goto (tgt := 51) B d_Mo_code_47 (by decide) ?_
    refine j_iconst (v := 0) B d_Mo_code_51 (by decide) ?_
    refine j_cVt B (ok_Mo_fails x 1 0) cv_Mo_fails ml_Mo_108 (m_0) rfl rfl ⟨rfl, rfl, by decide, by decide⟩ ⟨Nat.zero_le _, Nat.zero_le _⟩ hml (Nat.le_of_ble_eq_true rfl) rfl d_Mo_code_52 ?_
    refine j_if_eq (tgt := 60) B d_Mo_code_55 (by decide) (fun h55 => (show False from bI_e h55 (by decide)).elim) (fun h55 => ?_)
    refine j_iconst (v := 0) B d_Mo_code_58 (by decide) ?_
    exact j_iret B hr hlk d_Mo_code_59 (rfl) (rfl)
  · -- no
    refine j_iloadn B d_Mo_code_4 rfl ?_
    refine j_bipush (v := 6) B d_Mo_code_5 (by decide) ?_
    refine j_icmp_ge (tgt := 37) B d_Mo_code_7 (by decide) (fun h7 => ?_) (fun h7 => ?_)
    · -- yes
      refine j_iconst (v := 0) B d_Mo_code_37 (by decide) ?_
      refine j_istore B d_Mo_code_38 (by decide) ?_
      refine j_aloadn B d_Mo_code_40 rfl ?_
      refine j_iload B d_Mo_code_41 rfl ?_
      refine j_if_ne (tgt := 50) B d_Mo_code_43 (by decide) (fun h43 => (show False from h43 rfl).elim) (fun h43 => ?_)
      refine j_iconst (v := 1) B d_Mo_code_46 (by decide) ?_
      refine j_goto (tgt := 51) B d_Mo_code_47 (by decide) ?_
      refine j_iconst (v := 0) B d_Mo_code_51 (by decide) ?_
      refine j_cVt B (ok_Mo_fails x 1 0) cv_Mo_fails ml_Mo_108 (m_0) rfl rfl ⟨rfl, rfl, by decide, by decide⟩ ⟨Nat.zero_le _, Nat.zero_le _⟩ hml (Nat.le_of_ble_eq_true rfl) rfl d_Mo_code_52 ?_
      refine j_if_eq (tgt := 60) B d_Mo_code_55 (by decide) (fun h55 => (show False from bI_e h55 (by decide)).elim) (fun h55 => ?_)
      refine j_iconst (v := 0) B d_Mo_code_58 (by decide) ?_
      exact j_iret B hr hlk d_Mo_code_59 (rfl) (rfl)
    · -- no
      obtain ⟨f, hf2, hgf⟩ : ∃ f, f < 6 ∧ g = nI f := by
        obtain ⟨f, hf1, hf3⟩ := nI_of h1
        exact ⟨f, by rw [hf3] at h7; exact nInle (c := 6) h7 (by decide) hf1, hf3⟩
      refine j_iloadn B d_Mo_code_10 rfl ?_
      refine j_if_lt (tgt := 37) B d_Mo_code_11 (by decide) (fun h11 => ?_) (fun h11 => ?_)
      · -- yes
        refine j_iconst (v := 0) B d_Mo_code_37 (by decide) ?_
        refine j_istore B d_Mo_code_38 (by decide) ?_
        refine j_aloadn B d_Mo_code_40 rfl ?_
        refine j_iload B d_Mo_code_41 rfl ?_
        refine j_if_ne (tgt := 50) B d_Mo_code_43 (by decide) (fun h43 => (show False from h43 rfl).elim) (fun h43 => ?_)
        refine j_iconst (v := 1) B d_Mo_code_46 (by decide) ?_
        refine j_goto (tgt := 51) B d_Mo_code_47 (by decide) ?_
        refine j_iconst (v := 0) B d_Mo_code_51 (by decide) ?_
        refine j_cVt B (ok_Mo_fails x 1 0) cv_Mo_fails ml_Mo_108 (m_0) rfl rfl ⟨rfl, rfl, by decide, by decide⟩ ⟨Nat.zero_le _, Nat.zero_le _⟩ hml (Nat.le_of_ble_eq_true rfl) rfl d_Mo_code_52 ?_
        refine j_if_eq (tgt := 60) B d_Mo_code_55 (by decide) (fun h55 => (show False from bI_e h55 (by decide)).elim) (fun h55 => ?_)
        refine j_iconst (v := 0) B d_Mo_code_58 (by decide) ?_
        exact j_iret B hr hlk d_Mo_code_59 (rfl) (rfl)
      · -- no
        refine j_iloadn B d_Mo_code_14 rfl ?_
        refine j_aloadn B d_Mo_code_15 rfl ?_
        refine j_getr B fl_Mo_26 (m_0) rfl d_Mo_code_16 ?_
        refine j_iloadn B d_Mo_code_19 rfl ?_
        refine j_iald B (m_5) (⟨hgf, hf2, by decide⟩) d_Mo_code_20 ?_
        refine j_icmp_ge (tgt := 37) B d_Mo_code_21 (by decide) (fun h21 => ?_) (fun h21 => ?_)
        · -- yes
          refine j_iconst (v := 0) B d_Mo_code_37 (by decide) ?_
          refine j_istore B d_Mo_code_38 (by decide) ?_
          refine j_aloadn B d_Mo_code_40 rfl ?_
          refine j_iload B d_Mo_code_41 rfl ?_
          refine j_if_ne (tgt := 50) B d_Mo_code_43 (by decide) (fun h43 => (show False from h43 rfl).elim) (fun h43 => ?_)
          refine j_iconst (v := 1) B d_Mo_code_46 (by decide) ?_
          refine j_goto (tgt := 51) B d_Mo_code_47 (by decide) ?_
          refine j_iconst (v := 0) B d_Mo_code_51 (by decide) ?_
          refine j_cVt B (ok_Mo_fails x 1 0) cv_Mo_fails ml_Mo_108 (m_0) rfl rfl ⟨rfl, rfl, by decide, by decide⟩ ⟨Nat.zero_le _, Nat.zero_le _⟩ hml (Nat.le_of_ble_eq_true rfl) rfl d_Mo_code_52 ?_
          refine j_if_eq (tgt := 60) B d_Mo_code_55 (by decide) (fun h55 => (show False from bI_e h55 (by decide)).elim) (fun h55 => ?_)
          refine j_iconst (v := 0) B d_Mo_code_58 (by decide) ?_
          exact j_iret B hr hlk d_Mo_code_59 (rfl) (rfl)
        · -- no
          refine j_iloadn B d_Mo_code_24 rfl ?_
          refine j_if_eq (tgt := 33) B d_Mo_code_25 (by decide) (fun h25 => ?_) (fun h25 => ?_)
          · -- yes
            first
              | exact (hbad ⟨Int32.not_lt.mp h1, Int32.not_le.mp h7, Int32.not_lt.mp h11, (fun f2 hf4 hg2 => by have e : f2 = f := (nI_eq (by omega) (by omega)).mp (hg2.symm.trans hgf); rw [e]; exact Int32.not_le.mp h21), Or.inl h25⟩).elim
              | exact (hbad ⟨Int32.not_lt.mp h1, Int32.not_le.mp h7, Int32.not_lt.mp h11, (fun f2 hf4 hg2 => by have e : f2 = f := (nI_eq (by omega) (by omega)).mp (hg2.symm.trans hgf); rw [e]; exact Int32.not_le.mp h21), Or.inr h30⟩).elim
          · -- no
            refine j_iloadn B d_Mo_code_28 rfl ?_
            refine j_iconst (v := 1) B d_Mo_code_29 (by decide) ?_
            refine j_icmp_ne (tgt := 37) B d_Mo_code_30 (by decide) (fun h30 => ?_) (fun h30 => ?_)
            · -- yes
              refine j_iconst (v := 0) B d_Mo_code_37 (by decide) ?_
              refine j_istore B d_Mo_code_38 (by decide) ?_
              refine j_aloadn B d_Mo_code_40 rfl ?_
              refine j_iload B d_Mo_code_41 rfl ?_
              refine j_if_ne (tgt := 50) B d_Mo_code_43 (by decide) (fun h43 => (show False from h43 rfl).elim) (fun h43 => ?_)
              refine j_iconst (v := 1) B d_Mo_code_46 (by decide) ?_
              refine j_goto (tgt := 51) B d_Mo_code_47 (by decide) ?_
              refine j_iconst (v := 0) B d_Mo_code_51 (by decide) ?_
              refine j_cVt B (ok_Mo_fails x 1 0) cv_Mo_fails ml_Mo_108 (m_0) rfl rfl ⟨rfl, rfl, by decide, by decide⟩ ⟨Nat.zero_le _, Nat.zero_le _⟩ hml (Nat.le_of_ble_eq_true rfl) rfl d_Mo_code_52 ?_
              refine j_if_eq (tgt := 60) B d_Mo_code_55 (by decide) (fun h55 => (show False from bI_e h55 (by decide)).elim) (fun h55 => ?_)
              refine j_iconst (v := 0) B d_Mo_code_58 (by decide) ?_
              exact j_iret B hr hlk d_Mo_code_59 (rfl) (rfl)
            · -- no
              first
                | exact (hbad ⟨Int32.not_lt.mp h1, Int32.not_le.mp h7, Int32.not_lt.mp h11, (fun f2 hf4 hg2 => by have e : f2 = f := (nI_eq (by omega) (by omega)).mp (hg2.symm.trans hgf); rw [e]; exact Int32.not_le.mp h21), Or.inl h25⟩).elim
                | exact (hbad ⟨Int32.not_lt.mp h1, Int32.not_le.mp h7, Int32.not_lt.mp h11, (fun f2 hf4 hg2 => by have e : f2 = f := (nI_eq (by omega) (by omega)).mp (hg2.symm.trans hgf); rw [e]; exact Int32.not_le.mp h21), Or.inr h30⟩).elim
set_option maxRecDepth 100000 in
theorem ok_Mo_code_0_0 {l : Launch} {D : va_G} {aC : Nat → ClassId} {ad : Nat → Nat} {f k z : Nat} (hf : f < 6) (x : tm_M) (hz : x.2 (0, 0, 5) f = nI z) (hkz : k < z) (hzm : z ≤ 128) :
    OkM l y_Mo_code b_Mo_code 5 (some .int) (rom 1 22) D aC ad [.ref (ad 0), .int (nI f), .int (nI k), .int 0] x (some (.int (x.2 (0, 0, 6) (128 * f + k)))) (sI x (0, 0, 0) 0 0) := by
  refine ok_start (by decide) (Nat.le_of_ble_eq_true rfl) rfl ?_
  intro p e s m args below meth c B hr hlk hml
  have B : Cx p s m c args b_Mo_code R_Mo D aC (rg 30 ad) 30 ad := B
  refine j_iloadn B d_Mo_code_0 rfl ?_
  refine j_if_lt (tgt := 37) B d_Mo_code_1 (by decide) (fun h1 => (show False from nI_pos (by omega) h1).elim) (fun h1 => ?_)
  refine j_iloadn B d_Mo_code_4 rfl ?_
  refine j_bipush (v := 6) B d_Mo_code_5 (by decide) ?_
  refine j_icmp_ge (tgt := 37) B d_Mo_code_7 (by decide) (fun h7 => (show False from absurd (nIle (c := 6) h7 (by decide) (by omega)) (by omega)).elim) (fun h7 => ?_)
  refine j_iloadn B d_Mo_code_10 rfl ?_
  refine j_if_lt (tgt := 37) B d_Mo_code_11 (by decide) (fun h11 => (show False from nI_pos (by omega) h11).elim) (fun h11 => ?_)
  refine j_iloadn B d_Mo_code_14 rfl ?_
  refine j_aloadn B d_Mo_code_15 rfl ?_
  refine j_getr B fl_Mo_26 (m_0) rfl d_Mo_code_16 ?_
  refine j_iloadn B d_Mo_code_19 rfl ?_
  refine j_iald B (m_5) (⟨rfl, hf, by decide⟩) d_Mo_code_20 ?_
  refine j_topi (nI z) hz ?_
  refine j_icmp_ge (tgt := 37) B d_Mo_code_21 (by decide) (fun h21 => (show False from absurd (nIle h21 (by omega) (by omega)) (by omega)).elim) (fun h21 => ?_)
  refine j_iloadn B d_Mo_code_24 rfl ?_
  refine j_if_eq (tgt := 33) B d_Mo_code_25 (by decide) (fun h25 => ?_) (fun h25 => (show False from h25 rfl).elim)
  refine j_iconst (v := 1) B d_Mo_code_33 (by decide) ?_
  refine j_goto (tgt := 38) B d_Mo_code_34 (by decide) ?_
  refine j_istore B d_Mo_code_38 (by decide) ?_
  refine j_aloadn B d_Mo_code_40 rfl ?_
  refine j_iload B d_Mo_code_41 rfl ?_
  refine j_if_ne (tgt := 50) B d_Mo_code_43 (by decide) (fun h43 => ?_) (fun h43 => (show False from absurd h43 (by decide)).elim)
  refine j_iconst (v := 0) B d_Mo_code_50 (by decide) ?_
  refine j_iconst (v := 0) B d_Mo_code_51 (by decide) ?_
  refine j_cVt B (ok_Mo_fails x 0 0) cv_Mo_fails ml_Mo_108 (m_0) rfl rfl ⟨rfl, rfl, by decide, by decide⟩ ⟨Nat.zero_le _, Nat.zero_le _⟩ hml (Nat.le_of_ble_eq_true rfl) rfl d_Mo_code_52 ?_
  refine j_if_eq (tgt := 60) B d_Mo_code_55 (by decide) (fun h55 => ?_) (fun h55 => (show False from absurd (bI_ne h55) (by decide)).elim)
  refine j_iloadn B d_Mo_code_60 rfl ?_
  refine j_if_ne (tgt := 79) B d_Mo_code_61 (by decide) (fun h61 => (show False from h61 rfl).elim) (fun h61 => ?_)
  refine j_aloadn B d_Mo_code_64 rfl ?_
  refine j_getr B fl_Mo_29 (m_0) rfl d_Mo_code_65 ?_
  refine j_sipush (v := 128) B d_Mo_code_68 (by decide) ?_
  refine j_iloadn B d_Mo_code_71 rfl ?_
  refine j_imul B d_Mo_code_72 ?_
  refine j_iloadn B d_Mo_code_73 rfl ?_
  refine j_iadd B d_Mo_code_74 ?_
  refine j_iald B (m_6) (⟨ixm 128 f k, by omega, by decide⟩) d_Mo_code_75 ?_
  refine j_goto (tgt := 91) B d_Mo_code_76 (by decide) ?_
  exact j_iret B hr hlk d_Mo_code_91 (rfl) (rfl)
set_option maxRecDepth 100000 in
theorem ok_Mo_code_0_1 {l : Launch} {D : va_G} {aC : Nat → ClassId} {ad : Nat → Nat} {f k z : Nat} (hf : f < 6) (x : tm_M) (hz : x.2 (0, 0, 5) f = nI z) (hkz : k < z) (hzm : z ≤ 128) :
    OkM l y_Mo_code b_Mo_code 5 (some .int) (rom 1 22) D aC ad [.ref (ad 0), .int (nI f), .int (nI k), .int 1] x (some (.int (x.2 (0, 0, 7) (128 * f + k)))) (sI x (0, 0, 0) 0 0) := by
  refine ok_start (by decide) (Nat.le_of_ble_eq_true rfl) rfl ?_
  intro p e s m args below meth c B hr hlk hml
  have B : Cx p s m c args b_Mo_code R_Mo D aC (rg 30 ad) 30 ad := B
  refine j_iloadn B d_Mo_code_0 rfl ?_
  refine j_if_lt (tgt := 37) B d_Mo_code_1 (by decide) (fun h1 => (show False from nI_pos (by omega) h1).elim) (fun h1 => ?_)
  refine j_iloadn B d_Mo_code_4 rfl ?_
  refine j_bipush (v := 6) B d_Mo_code_5 (by decide) ?_
  refine j_icmp_ge (tgt := 37) B d_Mo_code_7 (by decide) (fun h7 => (show False from absurd (nIle (c := 6) h7 (by decide) (by omega)) (by omega)).elim) (fun h7 => ?_)
  refine j_iloadn B d_Mo_code_10 rfl ?_
  refine j_if_lt (tgt := 37) B d_Mo_code_11 (by decide) (fun h11 => (show False from nI_pos (by omega) h11).elim) (fun h11 => ?_)
  refine j_iloadn B d_Mo_code_14 rfl ?_
  refine j_aloadn B d_Mo_code_15 rfl ?_
  refine j_getr B fl_Mo_26 (m_0) rfl d_Mo_code_16 ?_
  refine j_iloadn B d_Mo_code_19 rfl ?_
  refine j_iald B (m_5) (⟨rfl, hf, by decide⟩) d_Mo_code_20 ?_
  refine j_topi (nI z) hz ?_
  refine j_icmp_ge (tgt := 37) B d_Mo_code_21 (by decide) (fun h21 => (show False from absurd (nIle h21 (by omega) (by omega)) (by omega)).elim) (fun h21 => ?_)
  refine j_iloadn B d_Mo_code_24 rfl ?_
  refine j_if_eq (tgt := 33) B d_Mo_code_25 (by decide) (fun h25 => (show False from absurd h25 (by decide)).elim) (fun h25 => ?_)
  refine j_iloadn B d_Mo_code_28 rfl ?_
  refine j_iconst (v := 1) B d_Mo_code_29 (by decide) ?_
  refine j_icmp_ne (tgt := 37) B d_Mo_code_30 (by decide) (fun h30 => (show False from h30 rfl).elim) (fun h30 => ?_)
  refine j_iconst (v := 1) B d_Mo_code_33 (by decide) ?_
  refine j_goto (tgt := 38) B d_Mo_code_34 (by decide) ?_
  refine j_istore B d_Mo_code_38 (by decide) ?_
  refine j_aloadn B d_Mo_code_40 rfl ?_
  refine j_iload B d_Mo_code_41 rfl ?_
  refine j_if_ne (tgt := 50) B d_Mo_code_43 (by decide) (fun h43 => ?_) (fun h43 => (show False from absurd h43 (by decide)).elim)
  refine j_iconst (v := 0) B d_Mo_code_50 (by decide) ?_
  refine j_iconst (v := 0) B d_Mo_code_51 (by decide) ?_
  refine j_cVt B (ok_Mo_fails x 0 0) cv_Mo_fails ml_Mo_108 (m_0) rfl rfl ⟨rfl, rfl, by decide, by decide⟩ ⟨Nat.zero_le _, Nat.zero_le _⟩ hml (Nat.le_of_ble_eq_true rfl) rfl d_Mo_code_52 ?_
  refine j_if_eq (tgt := 60) B d_Mo_code_55 (by decide) (fun h55 => ?_) (fun h55 => (show False from absurd (bI_ne h55) (by decide)).elim)
  refine j_iloadn B d_Mo_code_60 rfl ?_
  refine j_if_ne (tgt := 79) B d_Mo_code_61 (by decide) (fun h61 => ?_) (fun h61 => (show False from absurd h61 (by decide)).elim)
  refine j_aloadn B d_Mo_code_79 rfl ?_
  refine j_getr B fl_Mo_32 (m_0) rfl d_Mo_code_80 ?_
  refine j_sipush (v := 128) B d_Mo_code_83 (by decide) ?_
  refine j_iloadn B d_Mo_code_86 rfl ?_
  refine j_imul B d_Mo_code_87 ?_
  refine j_iloadn B d_Mo_code_88 rfl ?_
  refine j_iadd B d_Mo_code_89 ?_
  refine j_iald B (m_7) (⟨ixm 128 f k, by omega, by decide⟩) d_Mo_code_90 ?_
  exact j_iret B hr hlk d_Mo_code_91 (rfl) (rfl)
set_option maxRecDepth 100000 in
theorem ok_Mo_action_1 {l : Launch} {D : va_G} {aC : Nat → ClassId} {ad : Nat → Nat} (x : tm_M) (g p2 w : Int32) (hbad : ¬ (0 ≤ g ∧ g < 6 ∧ 0 ≤ p2 ∧ (∀ f, f < 6 → g = nI f → p2 < x.2 (0, 0, 9) f) ∧ (0 ≤ w ∧ w < 3))) :
    OkM l y_Mo_action b_Mo_action 6 (some .int) (rom 1 22) D aC ad [.ref (ad 0), .int g, .int p2, .int w] x (some (.int 0)) (sI x (0, 0, 0) 0 1) := by
  refine ok_start (by decide) (Nat.le_of_ble_eq_true rfl) rfl ?_
  intro p e s m args below meth c B hr hlk hml
  have B : Cx p s m c args b_Mo_action R_Mo D aC (rg 30 ad) 30 ad := B
  refine j_iloadn B d_Mo_action_0 rfl ?_
  refine j_if_lt (tgt := 37) B d_Mo_action_1 (by decide) (fun h1 => ?_) (fun h1 => ?_)
  · -- yes
    refine j_iconst (v := 0) B d_Mo_action_37 (by decide) ?_
    refine j_istore B d_Mo_action_38 (by decide) ?_
    refine j_aloadn B d_Mo_action_40 rfl ?_
    refine j_iload B d_Mo_action_41 rfl ?_
    refine j_if_ne (tgt := 50) B d_Mo_action_43 (by decide) (fun h43 => (show False from h43 rfl).elim) (fun h43 => ?_)
    refine j_iconst (v := 1) B d_Mo_action_46 (by decide) ?_
    refine j_goto (tgt := 51) B d_Mo_action_47 (by decide) ?_
    refine j_iconst (v := 0) B d_Mo_action_51 (by decide) ?_
    refine j_cVt B (ok_Mo_fails x 1 0) cv_Mo_fails ml_Mo_108 (m_0) rfl rfl ⟨rfl, rfl, by decide, by decide⟩ ⟨Nat.zero_le _, Nat.zero_le _⟩ hml (Nat.le_of_ble_eq_true rfl) rfl d_Mo_action_52 ?_
    refine j_if_eq (tgt := 60) B d_Mo_action_55 (by decide) (fun h55 => (show False from bI_e h55 (by decide)).elim) (fun h55 => ?_)
    refine j_iconst (v := 0) B d_Mo_action_58 (by decide) ?_
    exact j_iret B hr hlk d_Mo_action_59 (rfl) (rfl)
  · -- no
    refine j_iloadn B d_Mo_action_4 rfl ?_
    refine j_bipush (v := 6) B d_Mo_action_5 (by decide) ?_
    refine j_icmp_ge (tgt := 37) B d_Mo_action_7 (by decide) (fun h7 => ?_) (fun h7 => ?_)
    · -- yes
      refine j_iconst (v := 0) B d_Mo_action_37 (by decide) ?_
      refine j_istore B d_Mo_action_38 (by decide) ?_
      refine j_aloadn B d_Mo_action_40 rfl ?_
      refine j_iload B d_Mo_action_41 rfl ?_
      refine j_if_ne (tgt := 50) B d_Mo_action_43 (by decide) (fun h43 => (show False from h43 rfl).elim) (fun h43 => ?_)
      refine j_iconst (v := 1) B d_Mo_action_46 (by decide) ?_
      refine j_goto (tgt := 51) B d_Mo_action_47 (by decide) ?_
      refine j_iconst (v := 0) B d_Mo_action_51 (by decide) ?_
      refine j_cVt B (ok_Mo_fails x 1 0) cv_Mo_fails ml_Mo_108 (m_0) rfl rfl ⟨rfl, rfl, by decide, by decide⟩ ⟨Nat.zero_le _, Nat.zero_le _⟩ hml (Nat.le_of_ble_eq_true rfl) rfl d_Mo_action_52 ?_
      refine j_if_eq (tgt := 60) B d_Mo_action_55 (by decide) (fun h55 => (show False from bI_e h55 (by decide)).elim) (fun h55 => ?_)
      refine j_iconst (v := 0) B d_Mo_action_58 (by decide) ?_
      exact j_iret B hr hlk d_Mo_action_59 (rfl) (rfl)
    · -- no
      obtain ⟨f, hf2, hgf⟩ : ∃ f, f < 6 ∧ g = nI f := by
        obtain ⟨f, hf1, hf3⟩ := nI_of h1
        exact ⟨f, by rw [hf3] at h7; exact nInle (c := 6) h7 (by decide) hf1, hf3⟩
      refine j_iloadn B d_Mo_action_10 rfl ?_
      refine j_if_lt (tgt := 37) B d_Mo_action_11 (by decide) (fun h11 => ?_) (fun h11 => ?_)
      · -- yes
        refine j_iconst (v := 0) B d_Mo_action_37 (by decide) ?_
        refine j_istore B d_Mo_action_38 (by decide) ?_
        refine j_aloadn B d_Mo_action_40 rfl ?_
        refine j_iload B d_Mo_action_41 rfl ?_
        refine j_if_ne (tgt := 50) B d_Mo_action_43 (by decide) (fun h43 => (show False from h43 rfl).elim) (fun h43 => ?_)
        refine j_iconst (v := 1) B d_Mo_action_46 (by decide) ?_
        refine j_goto (tgt := 51) B d_Mo_action_47 (by decide) ?_
        refine j_iconst (v := 0) B d_Mo_action_51 (by decide) ?_
        refine j_cVt B (ok_Mo_fails x 1 0) cv_Mo_fails ml_Mo_108 (m_0) rfl rfl ⟨rfl, rfl, by decide, by decide⟩ ⟨Nat.zero_le _, Nat.zero_le _⟩ hml (Nat.le_of_ble_eq_true rfl) rfl d_Mo_action_52 ?_
        refine j_if_eq (tgt := 60) B d_Mo_action_55 (by decide) (fun h55 => (show False from bI_e h55 (by decide)).elim) (fun h55 => ?_)
        refine j_iconst (v := 0) B d_Mo_action_58 (by decide) ?_
        exact j_iret B hr hlk d_Mo_action_59 (rfl) (rfl)
      · -- no
        refine j_iloadn B d_Mo_action_14 rfl ?_
        refine j_aloadn B d_Mo_action_15 rfl ?_
        refine j_getr B fl_Mo_38 (m_0) rfl d_Mo_action_16 ?_
        refine j_iloadn B d_Mo_action_19 rfl ?_
        refine j_iald B (m_9) (⟨hgf, hf2, by decide⟩) d_Mo_action_20 ?_
        refine j_icmp_ge (tgt := 37) B d_Mo_action_21 (by decide) (fun h21 => ?_) (fun h21 => ?_)
        · -- yes
          refine j_iconst (v := 0) B d_Mo_action_37 (by decide) ?_
          refine j_istore B d_Mo_action_38 (by decide) ?_
          refine j_aloadn B d_Mo_action_40 rfl ?_
          refine j_iload B d_Mo_action_41 rfl ?_
          refine j_if_ne (tgt := 50) B d_Mo_action_43 (by decide) (fun h43 => (show False from h43 rfl).elim) (fun h43 => ?_)
          refine j_iconst (v := 1) B d_Mo_action_46 (by decide) ?_
          refine j_goto (tgt := 51) B d_Mo_action_47 (by decide) ?_
          refine j_iconst (v := 0) B d_Mo_action_51 (by decide) ?_
          refine j_cVt B (ok_Mo_fails x 1 0) cv_Mo_fails ml_Mo_108 (m_0) rfl rfl ⟨rfl, rfl, by decide, by decide⟩ ⟨Nat.zero_le _, Nat.zero_le _⟩ hml (Nat.le_of_ble_eq_true rfl) rfl d_Mo_action_52 ?_
          refine j_if_eq (tgt := 60) B d_Mo_action_55 (by decide) (fun h55 => (show False from bI_e h55 (by decide)).elim) (fun h55 => ?_)
          refine j_iconst (v := 0) B d_Mo_action_58 (by decide) ?_
          exact j_iret B hr hlk d_Mo_action_59 (rfl) (rfl)
        · -- no
          refine j_iloadn B d_Mo_action_24 rfl ?_
          refine j_if_lt (tgt := 37) B d_Mo_action_25 (by decide) (fun h25 => ?_) (fun h25 => ?_)
          · -- yes
            refine j_iconst (v := 0) B d_Mo_action_37 (by decide) ?_
            refine j_istore B d_Mo_action_38 (by decide) ?_
            refine j_aloadn B d_Mo_action_40 rfl ?_
            refine j_iload B d_Mo_action_41 rfl ?_
            refine j_if_ne (tgt := 50) B d_Mo_action_43 (by decide) (fun h43 => (show False from h43 rfl).elim) (fun h43 => ?_)
            refine j_iconst (v := 1) B d_Mo_action_46 (by decide) ?_
            refine j_goto (tgt := 51) B d_Mo_action_47 (by decide) ?_
            refine j_iconst (v := 0) B d_Mo_action_51 (by decide) ?_
            refine j_cVt B (ok_Mo_fails x 1 0) cv_Mo_fails ml_Mo_108 (m_0) rfl rfl ⟨rfl, rfl, by decide, by decide⟩ ⟨Nat.zero_le _, Nat.zero_le _⟩ hml (Nat.le_of_ble_eq_true rfl) rfl d_Mo_action_52 ?_
            refine j_if_eq (tgt := 60) B d_Mo_action_55 (by decide) (fun h55 => (show False from bI_e h55 (by decide)).elim) (fun h55 => ?_)
            refine j_iconst (v := 0) B d_Mo_action_58 (by decide) ?_
            exact j_iret B hr hlk d_Mo_action_59 (rfl) (rfl)
          · -- no
            refine j_iloadn B d_Mo_action_28 rfl ?_
            refine j_iconst (v := 3) B d_Mo_action_29 (by decide) ?_
            refine j_icmp_ge (tgt := 37) B d_Mo_action_30 (by decide) (fun h30 => ?_) (fun h30 => ?_)
            · -- yes
              refine j_iconst (v := 0) B d_Mo_action_37 (by decide) ?_
              refine j_istore B d_Mo_action_38 (by decide) ?_
              refine j_aloadn B d_Mo_action_40 rfl ?_
              refine j_iload B d_Mo_action_41 rfl ?_
              refine j_if_ne (tgt := 50) B d_Mo_action_43 (by decide) (fun h43 => (show False from h43 rfl).elim) (fun h43 => ?_)
              refine j_iconst (v := 1) B d_Mo_action_46 (by decide) ?_
              refine j_goto (tgt := 51) B d_Mo_action_47 (by decide) ?_
              refine j_iconst (v := 0) B d_Mo_action_51 (by decide) ?_
              refine j_cVt B (ok_Mo_fails x 1 0) cv_Mo_fails ml_Mo_108 (m_0) rfl rfl ⟨rfl, rfl, by decide, by decide⟩ ⟨Nat.zero_le _, Nat.zero_le _⟩ hml (Nat.le_of_ble_eq_true rfl) rfl d_Mo_action_52 ?_
              refine j_if_eq (tgt := 60) B d_Mo_action_55 (by decide) (fun h55 => (show False from bI_e h55 (by decide)).elim) (fun h55 => ?_)
              refine j_iconst (v := 0) B d_Mo_action_58 (by decide) ?_
              exact j_iret B hr hlk d_Mo_action_59 (rfl) (rfl)
            · -- no
              exact (hbad ⟨Int32.not_lt.mp h1, Int32.not_le.mp h7, Int32.not_lt.mp h11, (fun f2 hf4 hg2 => by have e : f2 = f := (nI_eq (by omega) (by omega)).mp (hg2.symm.trans hgf); rw [e]; exact Int32.not_le.mp h21), ⟨Int32.not_lt.mp h25, Int32.not_le.mp h30⟩⟩).elim
set_option maxRecDepth 100000 in
theorem ok_Mo_action_0_0 {l : Launch} {D : va_G} {aC : Nat → ClassId} {ad : Nat → Nat} {f k z : Nat} (hf : f < 6) (x : tm_M) (hz : x.2 (0, 0, 9) f = nI z) (hkz : k < z) (hzm : z ≤ 48) :
    OkM l y_Mo_action b_Mo_action 6 (some .int) (rom 1 22) D aC ad [.ref (ad 0), .int (nI f), .int (nI k), .int 0] x (some (.int (x.2 (0, 0, 10) (48 * f + k)))) (sI x (0, 0, 0) 0 0) := by
  refine ok_start (by decide) (Nat.le_of_ble_eq_true rfl) rfl ?_
  intro p e s m args below meth c B hr hlk hml
  have B : Cx p s m c args b_Mo_action R_Mo D aC (rg 30 ad) 30 ad := B
  refine j_iloadn B d_Mo_action_0 rfl ?_
  refine j_if_lt (tgt := 37) B d_Mo_action_1 (by decide) (fun h1 => (show False from nI_pos (by omega) h1).elim) (fun h1 => ?_)
  refine j_iloadn B d_Mo_action_4 rfl ?_
  refine j_bipush (v := 6) B d_Mo_action_5 (by decide) ?_
  refine j_icmp_ge (tgt := 37) B d_Mo_action_7 (by decide) (fun h7 => (show False from absurd (nIle (c := 6) h7 (by decide) (by omega)) (by omega)).elim) (fun h7 => ?_)
  refine j_iloadn B d_Mo_action_10 rfl ?_
  refine j_if_lt (tgt := 37) B d_Mo_action_11 (by decide) (fun h11 => (show False from nI_pos (by omega) h11).elim) (fun h11 => ?_)
  refine j_iloadn B d_Mo_action_14 rfl ?_
  refine j_aloadn B d_Mo_action_15 rfl ?_
  refine j_getr B fl_Mo_38 (m_0) rfl d_Mo_action_16 ?_
  refine j_iloadn B d_Mo_action_19 rfl ?_
  refine j_iald B (m_9) (⟨rfl, hf, by decide⟩) d_Mo_action_20 ?_
  refine j_topi (nI z) hz ?_
  refine j_icmp_ge (tgt := 37) B d_Mo_action_21 (by decide) (fun h21 => (show False from absurd (nIle h21 (by omega) (by omega)) (by omega)).elim) (fun h21 => ?_)
  refine j_iloadn B d_Mo_action_24 rfl ?_
  refine j_if_lt (tgt := 37) B d_Mo_action_25 (by decide) (fun h25 => (show False from absurd h25 (by decide)).elim) (fun h25 => ?_)
  refine j_iloadn B d_Mo_action_28 rfl ?_
  refine j_iconst (v := 3) B d_Mo_action_29 (by decide) ?_
  refine j_icmp_ge (tgt := 37) B d_Mo_action_30 (by decide) (fun h30 => (show False from absurd h30 (by decide)).elim) (fun h30 => ?_)
  refine j_iconst (v := 1) B d_Mo_action_33 (by decide) ?_
  refine j_goto (tgt := 38) B d_Mo_action_34 (by decide) ?_
  refine j_istore B d_Mo_action_38 (by decide) ?_
  refine j_aloadn B d_Mo_action_40 rfl ?_
  refine j_iload B d_Mo_action_41 rfl ?_
  refine j_if_ne (tgt := 50) B d_Mo_action_43 (by decide) (fun h43 => ?_) (fun h43 => (show False from absurd h43 (by decide)).elim)
  refine j_iconst (v := 0) B d_Mo_action_50 (by decide) ?_
  refine j_iconst (v := 0) B d_Mo_action_51 (by decide) ?_
  refine j_cVt B (ok_Mo_fails x 0 0) cv_Mo_fails ml_Mo_108 (m_0) rfl rfl ⟨rfl, rfl, by decide, by decide⟩ ⟨Nat.zero_le _, Nat.zero_le _⟩ hml (Nat.le_of_ble_eq_true rfl) rfl d_Mo_action_52 ?_
  refine j_if_eq (tgt := 60) B d_Mo_action_55 (by decide) (fun h55 => ?_) (fun h55 => (show False from absurd (bI_ne h55) (by decide)).elim)
  refine j_bipush (v := 48) B d_Mo_action_60 (by decide) ?_
  refine j_iloadn B d_Mo_action_62 rfl ?_
  refine j_imul B d_Mo_action_63 ?_
  refine j_iloadn B d_Mo_action_64 rfl ?_
  refine j_iadd B d_Mo_action_65 ?_
  refine j_topi (nI (48 * f + k)) (ixm 48 f k) ?_
  refine j_istore B d_Mo_action_66 (by decide) ?_
  refine j_iloadn B d_Mo_action_68 rfl ?_
  refine j_if_ne (tgt := 82) B d_Mo_action_69 (by decide) (fun h69 => (show False from h69 rfl).elim) (fun h69 => ?_)
  refine j_aloadn B d_Mo_action_72 rfl ?_
  refine j_getr B fl_Mo_41 (m_0) rfl d_Mo_action_73 ?_
  refine j_iload B d_Mo_action_76 rfl ?_
  refine j_iald B (m_10) (⟨rfl, by omega, by decide⟩) d_Mo_action_78 ?_
  refine j_goto (tgt := 104) B d_Mo_action_79 (by decide) ?_
  exact j_iret B hr hlk d_Mo_action_104 (rfl) (rfl)
set_option maxRecDepth 100000 in
theorem ok_Mo_action_0_1 {l : Launch} {D : va_G} {aC : Nat → ClassId} {ad : Nat → Nat} {f k z : Nat} (hf : f < 6) (x : tm_M) (hz : x.2 (0, 0, 9) f = nI z) (hkz : k < z) (hzm : z ≤ 48) :
    OkM l y_Mo_action b_Mo_action 6 (some .int) (rom 1 22) D aC ad [.ref (ad 0), .int (nI f), .int (nI k), .int 1] x (some (.int (x.2 (0, 0, 11) (48 * f + k)))) (sI x (0, 0, 0) 0 0) := by
  refine ok_start (by decide) (Nat.le_of_ble_eq_true rfl) rfl ?_
  intro p e s m args below meth c B hr hlk hml
  have B : Cx p s m c args b_Mo_action R_Mo D aC (rg 30 ad) 30 ad := B
  refine j_iloadn B d_Mo_action_0 rfl ?_
  refine j_if_lt (tgt := 37) B d_Mo_action_1 (by decide) (fun h1 => (show False from nI_pos (by omega) h1).elim) (fun h1 => ?_)
  refine j_iloadn B d_Mo_action_4 rfl ?_
  refine j_bipush (v := 6) B d_Mo_action_5 (by decide) ?_
  refine j_icmp_ge (tgt := 37) B d_Mo_action_7 (by decide) (fun h7 => (show False from absurd (nIle (c := 6) h7 (by decide) (by omega)) (by omega)).elim) (fun h7 => ?_)
  refine j_iloadn B d_Mo_action_10 rfl ?_
  refine j_if_lt (tgt := 37) B d_Mo_action_11 (by decide) (fun h11 => (show False from nI_pos (by omega) h11).elim) (fun h11 => ?_)
  refine j_iloadn B d_Mo_action_14 rfl ?_
  refine j_aloadn B d_Mo_action_15 rfl ?_
  refine j_getr B fl_Mo_38 (m_0) rfl d_Mo_action_16 ?_
  refine j_iloadn B d_Mo_action_19 rfl ?_
  refine j_iald B (m_9) (⟨rfl, hf, by decide⟩) d_Mo_action_20 ?_
  refine j_topi (nI z) hz ?_
  refine j_icmp_ge (tgt := 37) B d_Mo_action_21 (by decide) (fun h21 => (show False from absurd (nIle h21 (by omega) (by omega)) (by omega)).elim) (fun h21 => ?_)
  refine j_iloadn B d_Mo_action_24 rfl ?_
  refine j_if_lt (tgt := 37) B d_Mo_action_25 (by decide) (fun h25 => (show False from absurd h25 (by decide)).elim) (fun h25 => ?_)
  refine j_iloadn B d_Mo_action_28 rfl ?_
  refine j_iconst (v := 3) B d_Mo_action_29 (by decide) ?_
  refine j_icmp_ge (tgt := 37) B d_Mo_action_30 (by decide) (fun h30 => (show False from absurd h30 (by decide)).elim) (fun h30 => ?_)
  refine j_iconst (v := 1) B d_Mo_action_33 (by decide) ?_
  refine j_goto (tgt := 38) B d_Mo_action_34 (by decide) ?_
  refine j_istore B d_Mo_action_38 (by decide) ?_
  refine j_aloadn B d_Mo_action_40 rfl ?_
  refine j_iload B d_Mo_action_41 rfl ?_
  refine j_if_ne (tgt := 50) B d_Mo_action_43 (by decide) (fun h43 => ?_) (fun h43 => (show False from absurd h43 (by decide)).elim)
  refine j_iconst (v := 0) B d_Mo_action_50 (by decide) ?_
  refine j_iconst (v := 0) B d_Mo_action_51 (by decide) ?_
  refine j_cVt B (ok_Mo_fails x 0 0) cv_Mo_fails ml_Mo_108 (m_0) rfl rfl ⟨rfl, rfl, by decide, by decide⟩ ⟨Nat.zero_le _, Nat.zero_le _⟩ hml (Nat.le_of_ble_eq_true rfl) rfl d_Mo_action_52 ?_
  refine j_if_eq (tgt := 60) B d_Mo_action_55 (by decide) (fun h55 => ?_) (fun h55 => (show False from absurd (bI_ne h55) (by decide)).elim)
  refine j_bipush (v := 48) B d_Mo_action_60 (by decide) ?_
  refine j_iloadn B d_Mo_action_62 rfl ?_
  refine j_imul B d_Mo_action_63 ?_
  refine j_iloadn B d_Mo_action_64 rfl ?_
  refine j_iadd B d_Mo_action_65 ?_
  refine j_topi (nI (48 * f + k)) (ixm 48 f k) ?_
  refine j_istore B d_Mo_action_66 (by decide) ?_
  refine j_iloadn B d_Mo_action_68 rfl ?_
  refine j_if_ne (tgt := 82) B d_Mo_action_69 (by decide) (fun h69 => ?_) (fun h69 => (show False from absurd h69 (by decide)).elim)
  refine j_iloadn B d_Mo_action_82 rfl ?_
  refine j_iconst (v := 1) B d_Mo_action_83 (by decide) ?_
  refine j_icmp_ne (tgt := 97) B d_Mo_action_84 (by decide) (fun h84 => (show False from h84 rfl).elim) (fun h84 => ?_)
  refine j_aloadn B d_Mo_action_87 rfl ?_
  refine j_getr B fl_Mo_44 (m_0) rfl d_Mo_action_88 ?_
  refine j_iload B d_Mo_action_91 rfl ?_
  refine j_iald B (m_11) (⟨rfl, by omega, by decide⟩) d_Mo_action_93 ?_
  refine j_goto (tgt := 104) B d_Mo_action_94 (by decide) ?_
  exact j_iret B hr hlk d_Mo_action_104 (rfl) (rfl)
set_option maxRecDepth 100000 in
theorem ok_Mo_action_0_2 {l : Launch} {D : va_G} {aC : Nat → ClassId} {ad : Nat → Nat} {f k z : Nat} (hf : f < 6) (x : tm_M) (hz : x.2 (0, 0, 9) f = nI z) (hkz : k < z) (hzm : z ≤ 48) :
    OkM l y_Mo_action b_Mo_action 6 (some .int) (rom 1 22) D aC ad [.ref (ad 0), .int (nI f), .int (nI k), .int 2] x (some (.int (x.2 (0, 0, 12) (48 * f + k)))) (sI x (0, 0, 0) 0 0) := by
  refine ok_start (by decide) (Nat.le_of_ble_eq_true rfl) rfl ?_
  intro p e s m args below meth c B hr hlk hml
  have B : Cx p s m c args b_Mo_action R_Mo D aC (rg 30 ad) 30 ad := B
  refine j_iloadn B d_Mo_action_0 rfl ?_
  refine j_if_lt (tgt := 37) B d_Mo_action_1 (by decide) (fun h1 => (show False from nI_pos (by omega) h1).elim) (fun h1 => ?_)
  refine j_iloadn B d_Mo_action_4 rfl ?_
  refine j_bipush (v := 6) B d_Mo_action_5 (by decide) ?_
  refine j_icmp_ge (tgt := 37) B d_Mo_action_7 (by decide) (fun h7 => (show False from absurd (nIle (c := 6) h7 (by decide) (by omega)) (by omega)).elim) (fun h7 => ?_)
  refine j_iloadn B d_Mo_action_10 rfl ?_
  refine j_if_lt (tgt := 37) B d_Mo_action_11 (by decide) (fun h11 => (show False from nI_pos (by omega) h11).elim) (fun h11 => ?_)
  refine j_iloadn B d_Mo_action_14 rfl ?_
  refine j_aloadn B d_Mo_action_15 rfl ?_
  refine j_getr B fl_Mo_38 (m_0) rfl d_Mo_action_16 ?_
  refine j_iloadn B d_Mo_action_19 rfl ?_
  refine j_iald B (m_9) (⟨rfl, hf, by decide⟩) d_Mo_action_20 ?_
  refine j_topi (nI z) hz ?_
  refine j_icmp_ge (tgt := 37) B d_Mo_action_21 (by decide) (fun h21 => (show False from absurd (nIle h21 (by omega) (by omega)) (by omega)).elim) (fun h21 => ?_)
  refine j_iloadn B d_Mo_action_24 rfl ?_
  refine j_if_lt (tgt := 37) B d_Mo_action_25 (by decide) (fun h25 => (show False from absurd h25 (by decide)).elim) (fun h25 => ?_)
  refine j_iloadn B d_Mo_action_28 rfl ?_
  refine j_iconst (v := 3) B d_Mo_action_29 (by decide) ?_
  refine j_icmp_ge (tgt := 37) B d_Mo_action_30 (by decide) (fun h30 => (show False from absurd h30 (by decide)).elim) (fun h30 => ?_)
  refine j_iconst (v := 1) B d_Mo_action_33 (by decide) ?_
  refine j_goto (tgt := 38) B d_Mo_action_34 (by decide) ?_
  refine j_istore B d_Mo_action_38 (by decide) ?_
  refine j_aloadn B d_Mo_action_40 rfl ?_
  refine j_iload B d_Mo_action_41 rfl ?_
  refine j_if_ne (tgt := 50) B d_Mo_action_43 (by decide) (fun h43 => ?_) (fun h43 => (show False from absurd h43 (by decide)).elim)
  refine j_iconst (v := 0) B d_Mo_action_50 (by decide) ?_
  refine j_iconst (v := 0) B d_Mo_action_51 (by decide) ?_
  refine j_cVt B (ok_Mo_fails x 0 0) cv_Mo_fails ml_Mo_108 (m_0) rfl rfl ⟨rfl, rfl, by decide, by decide⟩ ⟨Nat.zero_le _, Nat.zero_le _⟩ hml (Nat.le_of_ble_eq_true rfl) rfl d_Mo_action_52 ?_
  refine j_if_eq (tgt := 60) B d_Mo_action_55 (by decide) (fun h55 => ?_) (fun h55 => (show False from absurd (bI_ne h55) (by decide)).elim)
  refine j_bipush (v := 48) B d_Mo_action_60 (by decide) ?_
  refine j_iloadn B d_Mo_action_62 rfl ?_
  refine j_imul B d_Mo_action_63 ?_
  refine j_iloadn B d_Mo_action_64 rfl ?_
  refine j_iadd B d_Mo_action_65 ?_
  refine j_topi (nI (48 * f + k)) (ixm 48 f k) ?_
  refine j_istore B d_Mo_action_66 (by decide) ?_
  refine j_iloadn B d_Mo_action_68 rfl ?_
  refine j_if_ne (tgt := 82) B d_Mo_action_69 (by decide) (fun h69 => ?_) (fun h69 => (show False from absurd h69 (by decide)).elim)
  refine j_iloadn B d_Mo_action_82 rfl ?_
  refine j_iconst (v := 1) B d_Mo_action_83 (by decide) ?_
  refine j_icmp_ne (tgt := 97) B d_Mo_action_84 (by decide) (fun h84 => ?_) (fun h84 => (show False from absurd h84 (by decide)).elim)
  refine j_aloadn B d_Mo_action_97 rfl ?_
  refine j_getr B fl_Mo_47 (m_0) rfl d_Mo_action_98 ?_
  refine j_iload B d_Mo_action_101 rfl ?_
  refine j_iald B (m_12) (⟨rfl, by omega, by decide⟩) d_Mo_action_103 ?_
  exact j_iret B hr hlk d_Mo_action_104 (rfl) (rfl)
set_option maxRecDepth 100000 in
theorem ok_Mo_site_1 {l : Launch} {D : va_G} {aC : Nat → ClassId} {ad : Nat → Nat} (x : tm_M) (g p2 w : Int32) (hbad : ¬ (0 ≤ g ∧ g < 6 ∧ 0 ≤ p2 ∧ (∀ f, f < 6 → g = nI f → p2 < x.2 (0, 0, 13) f) ∧ (0 ≤ w ∧ w < 3))) :
    OkM l y_Mo_site b_Mo_site 6 (some .int) (rom 1 22) D aC ad [.ref (ad 0), .int g, .int p2, .int w] x (some (.int 0)) (sI x (0, 0, 0) 0 1) := by
  refine ok_start (by decide) (Nat.le_of_ble_eq_true rfl) rfl ?_
  intro p e s m args below meth c B hr hlk hml
  have B : Cx p s m c args b_Mo_site R_Mo D aC (rg 30 ad) 30 ad := B
  refine j_iloadn B d_Mo_site_0 rfl ?_
  refine j_if_lt (tgt := 37) B d_Mo_site_1 (by decide) (fun h1 => ?_) (fun h1 => ?_)
  · -- yes
    refine j_iconst (v := 0) B d_Mo_site_37 (by decide) ?_
    refine j_istore B d_Mo_site_38 (by decide) ?_
    refine j_aloadn B d_Mo_site_40 rfl ?_
    refine j_iload B d_Mo_site_41 rfl ?_
    refine j_if_ne (tgt := 50) B d_Mo_site_43 (by decide) (fun h43 => (show False from h43 rfl).elim) (fun h43 => ?_)
    refine j_iconst (v := 1) B d_Mo_site_46 (by decide) ?_
    refine j_goto (tgt := 51) B d_Mo_site_47 (by decide) ?_
    refine j_iconst (v := 0) B d_Mo_site_51 (by decide) ?_
    refine j_cVt B (ok_Mo_fails x 1 0) cv_Mo_fails ml_Mo_108 (m_0) rfl rfl ⟨rfl, rfl, by decide, by decide⟩ ⟨Nat.zero_le _, Nat.zero_le _⟩ hml (Nat.le_of_ble_eq_true rfl) rfl d_Mo_site_52 ?_
    refine j_if_eq (tgt := 60) B d_Mo_site_55 (by decide) (fun h55 => (show False from bI_e h55 (by decide)).elim) (fun h55 => ?_)
    refine j_iconst (v := 0) B d_Mo_site_58 (by decide) ?_
    exact j_iret B hr hlk d_Mo_site_59 (rfl) (rfl)
  · -- no
    refine j_iloadn B d_Mo_site_4 rfl ?_
    refine j_bipush (v := 6) B d_Mo_site_5 (by decide) ?_
    refine j_icmp_ge (tgt := 37) B d_Mo_site_7 (by decide) (fun h7 => ?_) (fun h7 => ?_)
    · -- yes
      refine j_iconst (v := 0) B d_Mo_site_37 (by decide) ?_
      refine j_istore B d_Mo_site_38 (by decide) ?_
      refine j_aloadn B d_Mo_site_40 rfl ?_
      refine j_iload B d_Mo_site_41 rfl ?_
      refine j_if_ne (tgt := 50) B d_Mo_site_43 (by decide) (fun h43 => (show False from h43 rfl).elim) (fun h43 => ?_)
      refine j_iconst (v := 1) B d_Mo_site_46 (by decide) ?_
      refine j_goto (tgt := 51) B d_Mo_site_47 (by decide) ?_
      refine j_iconst (v := 0) B d_Mo_site_51 (by decide) ?_
      refine j_cVt B (ok_Mo_fails x 1 0) cv_Mo_fails ml_Mo_108 (m_0) rfl rfl ⟨rfl, rfl, by decide, by decide⟩ ⟨Nat.zero_le _, Nat.zero_le _⟩ hml (Nat.le_of_ble_eq_true rfl) rfl d_Mo_site_52 ?_
      refine j_if_eq (tgt := 60) B d_Mo_site_55 (by decide) (fun h55 => (show False from bI_e h55 (by decide)).elim) (fun h55 => ?_)
      refine j_iconst (v := 0) B d_Mo_site_58 (by decide) ?_
      exact j_iret B hr hlk d_Mo_site_59 (rfl) (rfl)
    · -- no
      obtain ⟨f, hf2, hgf⟩ : ∃ f, f < 6 ∧ g = nI f := by
        obtain ⟨f, hf1, hf3⟩ := nI_of h1
        exact ⟨f, by rw [hf3] at h7; exact nInle (c := 6) h7 (by decide) hf1, hf3⟩
      refine j_iloadn B d_Mo_site_10 rfl ?_
      refine j_if_lt (tgt := 37) B d_Mo_site_11 (by decide) (fun h11 => ?_) (fun h11 => ?_)
      · -- yes
        refine j_iconst (v := 0) B d_Mo_site_37 (by decide) ?_
        refine j_istore B d_Mo_site_38 (by decide) ?_
        refine j_aloadn B d_Mo_site_40 rfl ?_
        refine j_iload B d_Mo_site_41 rfl ?_
        refine j_if_ne (tgt := 50) B d_Mo_site_43 (by decide) (fun h43 => (show False from h43 rfl).elim) (fun h43 => ?_)
        refine j_iconst (v := 1) B d_Mo_site_46 (by decide) ?_
        refine j_goto (tgt := 51) B d_Mo_site_47 (by decide) ?_
        refine j_iconst (v := 0) B d_Mo_site_51 (by decide) ?_
        refine j_cVt B (ok_Mo_fails x 1 0) cv_Mo_fails ml_Mo_108 (m_0) rfl rfl ⟨rfl, rfl, by decide, by decide⟩ ⟨Nat.zero_le _, Nat.zero_le _⟩ hml (Nat.le_of_ble_eq_true rfl) rfl d_Mo_site_52 ?_
        refine j_if_eq (tgt := 60) B d_Mo_site_55 (by decide) (fun h55 => (show False from bI_e h55 (by decide)).elim) (fun h55 => ?_)
        refine j_iconst (v := 0) B d_Mo_site_58 (by decide) ?_
        exact j_iret B hr hlk d_Mo_site_59 (rfl) (rfl)
      · -- no
        refine j_iloadn B d_Mo_site_14 rfl ?_
        refine j_aloadn B d_Mo_site_15 rfl ?_
        refine j_getr B fl_Mo_50 (m_0) rfl d_Mo_site_16 ?_
        refine j_iloadn B d_Mo_site_19 rfl ?_
        refine j_iald B (m_13) (⟨hgf, hf2, by decide⟩) d_Mo_site_20 ?_
        refine j_icmp_ge (tgt := 37) B d_Mo_site_21 (by decide) (fun h21 => ?_) (fun h21 => ?_)
        · -- yes
          refine j_iconst (v := 0) B d_Mo_site_37 (by decide) ?_
          refine j_istore B d_Mo_site_38 (by decide) ?_
          refine j_aloadn B d_Mo_site_40 rfl ?_
          refine j_iload B d_Mo_site_41 rfl ?_
          refine j_if_ne (tgt := 50) B d_Mo_site_43 (by decide) (fun h43 => (show False from h43 rfl).elim) (fun h43 => ?_)
          refine j_iconst (v := 1) B d_Mo_site_46 (by decide) ?_
          refine j_goto (tgt := 51) B d_Mo_site_47 (by decide) ?_
          refine j_iconst (v := 0) B d_Mo_site_51 (by decide) ?_
          refine j_cVt B (ok_Mo_fails x 1 0) cv_Mo_fails ml_Mo_108 (m_0) rfl rfl ⟨rfl, rfl, by decide, by decide⟩ ⟨Nat.zero_le _, Nat.zero_le _⟩ hml (Nat.le_of_ble_eq_true rfl) rfl d_Mo_site_52 ?_
          refine j_if_eq (tgt := 60) B d_Mo_site_55 (by decide) (fun h55 => (show False from bI_e h55 (by decide)).elim) (fun h55 => ?_)
          refine j_iconst (v := 0) B d_Mo_site_58 (by decide) ?_
          exact j_iret B hr hlk d_Mo_site_59 (rfl) (rfl)
        · -- no
          refine j_iloadn B d_Mo_site_24 rfl ?_
          refine j_if_lt (tgt := 37) B d_Mo_site_25 (by decide) (fun h25 => ?_) (fun h25 => ?_)
          · -- yes
            refine j_iconst (v := 0) B d_Mo_site_37 (by decide) ?_
            refine j_istore B d_Mo_site_38 (by decide) ?_
            refine j_aloadn B d_Mo_site_40 rfl ?_
            refine j_iload B d_Mo_site_41 rfl ?_
            refine j_if_ne (tgt := 50) B d_Mo_site_43 (by decide) (fun h43 => (show False from h43 rfl).elim) (fun h43 => ?_)
            refine j_iconst (v := 1) B d_Mo_site_46 (by decide) ?_
            refine j_goto (tgt := 51) B d_Mo_site_47 (by decide) ?_
            refine j_iconst (v := 0) B d_Mo_site_51 (by decide) ?_
            refine j_cVt B (ok_Mo_fails x 1 0) cv_Mo_fails ml_Mo_108 (m_0) rfl rfl ⟨rfl, rfl, by decide, by decide⟩ ⟨Nat.zero_le _, Nat.zero_le _⟩ hml (Nat.le_of_ble_eq_true rfl) rfl d_Mo_site_52 ?_
            refine j_if_eq (tgt := 60) B d_Mo_site_55 (by decide) (fun h55 => (show False from bI_e h55 (by decide)).elim) (fun h55 => ?_)
            refine j_iconst (v := 0) B d_Mo_site_58 (by decide) ?_
            exact j_iret B hr hlk d_Mo_site_59 (rfl) (rfl)
          · -- no
            refine j_iloadn B d_Mo_site_28 rfl ?_
            refine j_iconst (v := 3) B d_Mo_site_29 (by decide) ?_
            refine j_icmp_ge (tgt := 37) B d_Mo_site_30 (by decide) (fun h30 => ?_) (fun h30 => ?_)
            · -- yes
              refine j_iconst (v := 0) B d_Mo_site_37 (by decide) ?_
              refine j_istore B d_Mo_site_38 (by decide) ?_
              refine j_aloadn B d_Mo_site_40 rfl ?_
              refine j_iload B d_Mo_site_41 rfl ?_
              refine j_if_ne (tgt := 50) B d_Mo_site_43 (by decide) (fun h43 => (show False from h43 rfl).elim) (fun h43 => ?_)
              refine j_iconst (v := 1) B d_Mo_site_46 (by decide) ?_
              refine j_goto (tgt := 51) B d_Mo_site_47 (by decide) ?_
              refine j_iconst (v := 0) B d_Mo_site_51 (by decide) ?_
              refine j_cVt B (ok_Mo_fails x 1 0) cv_Mo_fails ml_Mo_108 (m_0) rfl rfl ⟨rfl, rfl, by decide, by decide⟩ ⟨Nat.zero_le _, Nat.zero_le _⟩ hml (Nat.le_of_ble_eq_true rfl) rfl d_Mo_site_52 ?_
              refine j_if_eq (tgt := 60) B d_Mo_site_55 (by decide) (fun h55 => (show False from bI_e h55 (by decide)).elim) (fun h55 => ?_)
              refine j_iconst (v := 0) B d_Mo_site_58 (by decide) ?_
              exact j_iret B hr hlk d_Mo_site_59 (rfl) (rfl)
            · -- no
              exact (hbad ⟨Int32.not_lt.mp h1, Int32.not_le.mp h7, Int32.not_lt.mp h11, (fun f2 hf4 hg2 => by have e : f2 = f := (nI_eq (by omega) (by omega)).mp (hg2.symm.trans hgf); rw [e]; exact Int32.not_le.mp h21), ⟨Int32.not_lt.mp h25, Int32.not_le.mp h30⟩⟩).elim
set_option maxRecDepth 100000 in
theorem ok_Mo_site_0_0 {l : Launch} {D : va_G} {aC : Nat → ClassId} {ad : Nat → Nat} {f k z : Nat} (hf : f < 6) (x : tm_M) (hz : x.2 (0, 0, 13) f = nI z) (hkz : k < z) (hzm : z ≤ 64) :
    OkM l y_Mo_site b_Mo_site 6 (some .int) (rom 1 22) D aC ad [.ref (ad 0), .int (nI f), .int (nI k), .int 0] x (some (.int (x.2 (0, 0, 14) (64 * f + k)))) (sI x (0, 0, 0) 0 0) := by
  refine ok_start (by decide) (Nat.le_of_ble_eq_true rfl) rfl ?_
  intro p e s m args below meth c B hr hlk hml
  have B : Cx p s m c args b_Mo_site R_Mo D aC (rg 30 ad) 30 ad := B
  refine j_iloadn B d_Mo_site_0 rfl ?_
  refine j_if_lt (tgt := 37) B d_Mo_site_1 (by decide) (fun h1 => (show False from nI_pos (by omega) h1).elim) (fun h1 => ?_)
  refine j_iloadn B d_Mo_site_4 rfl ?_
  refine j_bipush (v := 6) B d_Mo_site_5 (by decide) ?_
  refine j_icmp_ge (tgt := 37) B d_Mo_site_7 (by decide) (fun h7 => (show False from absurd (nIle (c := 6) h7 (by decide) (by omega)) (by omega)).elim) (fun h7 => ?_)
  refine j_iloadn B d_Mo_site_10 rfl ?_
  refine j_if_lt (tgt := 37) B d_Mo_site_11 (by decide) (fun h11 => (show False from nI_pos (by omega) h11).elim) (fun h11 => ?_)
  refine j_iloadn B d_Mo_site_14 rfl ?_
  refine j_aloadn B d_Mo_site_15 rfl ?_
  refine j_getr B fl_Mo_50 (m_0) rfl d_Mo_site_16 ?_
  refine j_iloadn B d_Mo_site_19 rfl ?_
  refine j_iald B (m_13) (⟨rfl, hf, by decide⟩) d_Mo_site_20 ?_
  refine j_topi (nI z) hz ?_
  refine j_icmp_ge (tgt := 37) B d_Mo_site_21 (by decide) (fun h21 => (show False from absurd (nIle h21 (by omega) (by omega)) (by omega)).elim) (fun h21 => ?_)
  refine j_iloadn B d_Mo_site_24 rfl ?_
  refine j_if_lt (tgt := 37) B d_Mo_site_25 (by decide) (fun h25 => (show False from absurd h25 (by decide)).elim) (fun h25 => ?_)
  refine j_iloadn B d_Mo_site_28 rfl ?_
  refine j_iconst (v := 3) B d_Mo_site_29 (by decide) ?_
  refine j_icmp_ge (tgt := 37) B d_Mo_site_30 (by decide) (fun h30 => (show False from absurd h30 (by decide)).elim) (fun h30 => ?_)
  refine j_iconst (v := 1) B d_Mo_site_33 (by decide) ?_
  refine j_goto (tgt := 38) B d_Mo_site_34 (by decide) ?_
  refine j_istore B d_Mo_site_38 (by decide) ?_
  refine j_aloadn B d_Mo_site_40 rfl ?_
  refine j_iload B d_Mo_site_41 rfl ?_
  refine j_if_ne (tgt := 50) B d_Mo_site_43 (by decide) (fun h43 => ?_) (fun h43 => (show False from absurd h43 (by decide)).elim)
  refine j_iconst (v := 0) B d_Mo_site_50 (by decide) ?_
  refine j_iconst (v := 0) B d_Mo_site_51 (by decide) ?_
  refine j_cVt B (ok_Mo_fails x 0 0) cv_Mo_fails ml_Mo_108 (m_0) rfl rfl ⟨rfl, rfl, by decide, by decide⟩ ⟨Nat.zero_le _, Nat.zero_le _⟩ hml (Nat.le_of_ble_eq_true rfl) rfl d_Mo_site_52 ?_
  refine j_if_eq (tgt := 60) B d_Mo_site_55 (by decide) (fun h55 => ?_) (fun h55 => (show False from absurd (bI_ne h55) (by decide)).elim)
  refine j_bipush (v := 64) B d_Mo_site_60 (by decide) ?_
  refine j_iloadn B d_Mo_site_62 rfl ?_
  refine j_imul B d_Mo_site_63 ?_
  refine j_iloadn B d_Mo_site_64 rfl ?_
  refine j_iadd B d_Mo_site_65 ?_
  refine j_topi (nI (64 * f + k)) (ixm 64 f k) ?_
  refine j_istore B d_Mo_site_66 (by decide) ?_
  refine j_iloadn B d_Mo_site_68 rfl ?_
  refine j_if_ne (tgt := 82) B d_Mo_site_69 (by decide) (fun h69 => (show False from h69 rfl).elim) (fun h69 => ?_)
  refine j_aloadn B d_Mo_site_72 rfl ?_
  refine j_getr B fl_Mo_53 (m_0) rfl d_Mo_site_73 ?_
  refine j_iload B d_Mo_site_76 rfl ?_
  refine j_iald B (m_14) (⟨rfl, by omega, by decide⟩) d_Mo_site_78 ?_
  refine j_goto (tgt := 104) B d_Mo_site_79 (by decide) ?_
  exact j_iret B hr hlk d_Mo_site_104 (rfl) (rfl)
set_option maxRecDepth 100000 in
theorem ok_Mo_site_0_1 {l : Launch} {D : va_G} {aC : Nat → ClassId} {ad : Nat → Nat} {f k z : Nat} (hf : f < 6) (x : tm_M) (hz : x.2 (0, 0, 13) f = nI z) (hkz : k < z) (hzm : z ≤ 64) :
    OkM l y_Mo_site b_Mo_site 6 (some .int) (rom 1 22) D aC ad [.ref (ad 0), .int (nI f), .int (nI k), .int 1] x (some (.int (x.2 (0, 0, 15) (64 * f + k)))) (sI x (0, 0, 0) 0 0) := by
  refine ok_start (by decide) (Nat.le_of_ble_eq_true rfl) rfl ?_
  intro p e s m args below meth c B hr hlk hml
  have B : Cx p s m c args b_Mo_site R_Mo D aC (rg 30 ad) 30 ad := B
  refine j_iloadn B d_Mo_site_0 rfl ?_
  refine j_if_lt (tgt := 37) B d_Mo_site_1 (by decide) (fun h1 => (show False from nI_pos (by omega) h1).elim) (fun h1 => ?_)
  refine j_iloadn B d_Mo_site_4 rfl ?_
  refine j_bipush (v := 6) B d_Mo_site_5 (by decide) ?_
  refine j_icmp_ge (tgt := 37) B d_Mo_site_7 (by decide) (fun h7 => (show False from absurd (nIle (c := 6) h7 (by decide) (by omega)) (by omega)).elim) (fun h7 => ?_)
  refine j_iloadn B d_Mo_site_10 rfl ?_
  refine j_if_lt (tgt := 37) B d_Mo_site_11 (by decide) (fun h11 => (show False from nI_pos (by omega) h11).elim) (fun h11 => ?_)
  refine j_iloadn B d_Mo_site_14 rfl ?_
  refine j_aloadn B d_Mo_site_15 rfl ?_
  refine j_getr B fl_Mo_50 (m_0) rfl d_Mo_site_16 ?_
  refine j_iloadn B d_Mo_site_19 rfl ?_
  refine j_iald B (m_13) (⟨rfl, hf, by decide⟩) d_Mo_site_20 ?_
  refine j_topi (nI z) hz ?_
  refine j_icmp_ge (tgt := 37) B d_Mo_site_21 (by decide) (fun h21 => (show False from absurd (nIle h21 (by omega) (by omega)) (by omega)).elim) (fun h21 => ?_)
  refine j_iloadn B d_Mo_site_24 rfl ?_
  refine j_if_lt (tgt := 37) B d_Mo_site_25 (by decide) (fun h25 => (show False from absurd h25 (by decide)).elim) (fun h25 => ?_)
  refine j_iloadn B d_Mo_site_28 rfl ?_
  refine j_iconst (v := 3) B d_Mo_site_29 (by decide) ?_
  refine j_icmp_ge (tgt := 37) B d_Mo_site_30 (by decide) (fun h30 => (show False from absurd h30 (by decide)).elim) (fun h30 => ?_)
  refine j_iconst (v := 1) B d_Mo_site_33 (by decide) ?_
  refine j_goto (tgt := 38) B d_Mo_site_34 (by decide) ?_
  refine j_istore B d_Mo_site_38 (by decide) ?_
  refine j_aloadn B d_Mo_site_40 rfl ?_
  refine j_iload B d_Mo_site_41 rfl ?_
  refine j_if_ne (tgt := 50) B d_Mo_site_43 (by decide) (fun h43 => ?_) (fun h43 => (show False from absurd h43 (by decide)).elim)
  refine j_iconst (v := 0) B d_Mo_site_50 (by decide) ?_
  refine j_iconst (v := 0) B d_Mo_site_51 (by decide) ?_
  refine j_cVt B (ok_Mo_fails x 0 0) cv_Mo_fails ml_Mo_108 (m_0) rfl rfl ⟨rfl, rfl, by decide, by decide⟩ ⟨Nat.zero_le _, Nat.zero_le _⟩ hml (Nat.le_of_ble_eq_true rfl) rfl d_Mo_site_52 ?_
  refine j_if_eq (tgt := 60) B d_Mo_site_55 (by decide) (fun h55 => ?_) (fun h55 => (show False from absurd (bI_ne h55) (by decide)).elim)
  refine j_bipush (v := 64) B d_Mo_site_60 (by decide) ?_
  refine j_iloadn B d_Mo_site_62 rfl ?_
  refine j_imul B d_Mo_site_63 ?_
  refine j_iloadn B d_Mo_site_64 rfl ?_
  refine j_iadd B d_Mo_site_65 ?_
  refine j_topi (nI (64 * f + k)) (ixm 64 f k) ?_
  refine j_istore B d_Mo_site_66 (by decide) ?_
  refine j_iloadn B d_Mo_site_68 rfl ?_
  refine j_if_ne (tgt := 82) B d_Mo_site_69 (by decide) (fun h69 => ?_) (fun h69 => (show False from absurd h69 (by decide)).elim)
  refine j_iloadn B d_Mo_site_82 rfl ?_
  refine j_iconst (v := 1) B d_Mo_site_83 (by decide) ?_
  refine j_icmp_ne (tgt := 97) B d_Mo_site_84 (by decide) (fun h84 => (show False from h84 rfl).elim) (fun h84 => ?_)
  refine j_aloadn B d_Mo_site_87 rfl ?_
  refine j_getr B fl_Mo_56 (m_0) rfl d_Mo_site_88 ?_
  refine j_iload B d_Mo_site_91 rfl ?_
  refine j_iald B (m_15) (⟨rfl, by omega, by decide⟩) d_Mo_site_93 ?_
  refine j_goto (tgt := 104) B d_Mo_site_94 (by decide) ?_
  exact j_iret B hr hlk d_Mo_site_104 (rfl) (rfl)
set_option maxRecDepth 100000 in
theorem ok_Mo_site_0_2 {l : Launch} {D : va_G} {aC : Nat → ClassId} {ad : Nat → Nat} {f k z : Nat} (hf : f < 6) (x : tm_M) (hz : x.2 (0, 0, 13) f = nI z) (hkz : k < z) (hzm : z ≤ 64) :
    OkM l y_Mo_site b_Mo_site 6 (some .int) (rom 1 22) D aC ad [.ref (ad 0), .int (nI f), .int (nI k), .int 2] x (some (.int (x.2 (0, 0, 16) (64 * f + k)))) (sI x (0, 0, 0) 0 0) := by
  refine ok_start (by decide) (Nat.le_of_ble_eq_true rfl) rfl ?_
  intro p e s m args below meth c B hr hlk hml
  have B : Cx p s m c args b_Mo_site R_Mo D aC (rg 30 ad) 30 ad := B
  refine j_iloadn B d_Mo_site_0 rfl ?_
  refine j_if_lt (tgt := 37) B d_Mo_site_1 (by decide) (fun h1 => (show False from nI_pos (by omega) h1).elim) (fun h1 => ?_)
  refine j_iloadn B d_Mo_site_4 rfl ?_
  refine j_bipush (v := 6) B d_Mo_site_5 (by decide) ?_
  refine j_icmp_ge (tgt := 37) B d_Mo_site_7 (by decide) (fun h7 => (show False from absurd (nIle (c := 6) h7 (by decide) (by omega)) (by omega)).elim) (fun h7 => ?_)
  refine j_iloadn B d_Mo_site_10 rfl ?_
  refine j_if_lt (tgt := 37) B d_Mo_site_11 (by decide) (fun h11 => (show False from nI_pos (by omega) h11).elim) (fun h11 => ?_)
  refine j_iloadn B d_Mo_site_14 rfl ?_
  refine j_aloadn B d_Mo_site_15 rfl ?_
  refine j_getr B fl_Mo_50 (m_0) rfl d_Mo_site_16 ?_
  refine j_iloadn B d_Mo_site_19 rfl ?_
  refine j_iald B (m_13) (⟨rfl, hf, by decide⟩) d_Mo_site_20 ?_
  refine j_topi (nI z) hz ?_
  refine j_icmp_ge (tgt := 37) B d_Mo_site_21 (by decide) (fun h21 => (show False from absurd (nIle h21 (by omega) (by omega)) (by omega)).elim) (fun h21 => ?_)
  refine j_iloadn B d_Mo_site_24 rfl ?_
  refine j_if_lt (tgt := 37) B d_Mo_site_25 (by decide) (fun h25 => (show False from absurd h25 (by decide)).elim) (fun h25 => ?_)
  refine j_iloadn B d_Mo_site_28 rfl ?_
  refine j_iconst (v := 3) B d_Mo_site_29 (by decide) ?_
  refine j_icmp_ge (tgt := 37) B d_Mo_site_30 (by decide) (fun h30 => (show False from absurd h30 (by decide)).elim) (fun h30 => ?_)
  refine j_iconst (v := 1) B d_Mo_site_33 (by decide) ?_
  refine j_goto (tgt := 38) B d_Mo_site_34 (by decide) ?_
  refine j_istore B d_Mo_site_38 (by decide) ?_
  refine j_aloadn B d_Mo_site_40 rfl ?_
  refine j_iload B d_Mo_site_41 rfl ?_
  refine j_if_ne (tgt := 50) B d_Mo_site_43 (by decide) (fun h43 => ?_) (fun h43 => (show False from absurd h43 (by decide)).elim)
  refine j_iconst (v := 0) B d_Mo_site_50 (by decide) ?_
  refine j_iconst (v := 0) B d_Mo_site_51 (by decide) ?_
  refine j_cVt B (ok_Mo_fails x 0 0) cv_Mo_fails ml_Mo_108 (m_0) rfl rfl ⟨rfl, rfl, by decide, by decide⟩ ⟨Nat.zero_le _, Nat.zero_le _⟩ hml (Nat.le_of_ble_eq_true rfl) rfl d_Mo_site_52 ?_
  refine j_if_eq (tgt := 60) B d_Mo_site_55 (by decide) (fun h55 => ?_) (fun h55 => (show False from absurd (bI_ne h55) (by decide)).elim)
  refine j_bipush (v := 64) B d_Mo_site_60 (by decide) ?_
  refine j_iloadn B d_Mo_site_62 rfl ?_
  refine j_imul B d_Mo_site_63 ?_
  refine j_iloadn B d_Mo_site_64 rfl ?_
  refine j_iadd B d_Mo_site_65 ?_
  refine j_topi (nI (64 * f + k)) (ixm 64 f k) ?_
  refine j_istore B d_Mo_site_66 (by decide) ?_
  refine j_iloadn B d_Mo_site_68 rfl ?_
  refine j_if_ne (tgt := 82) B d_Mo_site_69 (by decide) (fun h69 => ?_) (fun h69 => (show False from absurd h69 (by decide)).elim)
  refine j_iloadn B d_Mo_site_82 rfl ?_
  refine j_iconst (v := 1) B d_Mo_site_83 (by decide) ?_
  refine j_icmp_ne (tgt := 97) B d_Mo_site_84 (by decide) (fun h84 => ?_) (fun h84 => (show False from absurd h84 (by decide)).elim)
  refine j_aloadn B d_Mo_site_97 rfl ?_
  refine j_getr B fl_Mo_59 (m_0) rfl d_Mo_site_98 ?_
  refine j_iload B d_Mo_site_101 rfl ?_
  refine j_iald B (m_16) (⟨rfl, by omega, by decide⟩) d_Mo_site_103 ?_
  exact j_iret B hr hlk d_Mo_site_104 (rfl) (rfl)
