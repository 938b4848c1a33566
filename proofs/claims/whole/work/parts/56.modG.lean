/-- a chain of actions that ends, within r, all of them below a -/
def chE (a : Nat) (Ne : Nat → Int32) : Nat → Int32 → Prop
  | 0, k => k = -1
  | r + 1, k => k = -1 ∨ ∃ b, b < a ∧ k = nI b ∧ chE a Ne r (Ne b)
/-- the first action that catches the type u, as the reference looks for it -/
def smF (c : Int32) (Fi Ne P : Nat → Int32) (u : Int32) : Nat → Int32 → Int32
  | 0, _ => -1
  | r + 1, k => if 0 ≤ k ∧ k < c then (if Fi k.toNatClampNeg = -1 ∨ (0 ≤ Fi k.toNatClampNeg ∧ ¬ amF P (Fi k.toNatClampNeg) 9 u = 0) then k else smF c Fi Ne P u r (Ne k.toNatClampNeg)) else -1
def fnR (x : tm_M) (i : Nat) : Nat := (x.2 (0, 0, 23) i).toNatClampNeg
def acR (x : tm_M) (i : Nat) : Nat := (x.2 (0, 0, 9) (fnR x i)).toNatClampNeg
def fiR (x : tm_M) (i j : Nat) : Int32 := x.2 (0, 0, 10) (48 * fnR x i + j)
def neR (x : tm_M) (i j : Nat) : Int32 := x.2 (0, 0, 12) (48 * fnR x i + j)
def hdR (x : tm_M) (i : Nat) : Int32 := haF (fun j => x.2 (0, 0, 14) (64 * fnR x i + j)) (fun j => x.2 (0, 0, 15) (64 * fnR x i + j)) (fun j => x.2 (0, 0, 16) (64 * fnR x i + j)) (x.2 (0, 0, 24) i) (x.2 (0, 0, 13) (fnR x i)).toNatClampNeg 0 (-1)
/-- what the reference's machine may rely on -/
def MR (x : tm_M) (d : Nat) : Prop := ∀ i, i < d → x.2 (0, 0, 23) i = nI (fnR x i) ∧ fnR x i < 6 ∧ x.2 (0, 0, 9) (fnR x i) = nI (acR x i) ∧ acR x i ≤ 48 ∧ (∃ z, z ≤ 64 ∧ x.2 (0, 0, 13) (fnR x i) = nI z) ∧ chE (acR x i) (neR x i) 40 (hdR x i)
def smR (x : tm_M) (u : Int32) (i : Nat) : Int32 := smF (nI (acR x i)) (fiR x i) (neR x i) (x.2 (0, 0, 1)) u 40 (hdR x i)
/-- the frame, from the top on, that has a handler, and this -/
def fsR (x : tm_M) (u : Int32) : Nat → Nat × Int32
  | 0 => (0, -1)
  | d + 1 => if smR x u d = -1 then fsR x u d else (d + 1, smR x u d)
/-- the first landing, with d frames, from an action on -/
def lmG (x : tm_M) (d r : Nat) (k : Int32) : Int32 := lnF (nI (acR x (d - 1))) (fiR x (d - 1)) (neR x (d - 1)) (nI d) (x.1 (0, 0, 0) 32 + 1) (x.1 (0, 0, 0) 33) r k
def umR (x : tm_M) : Nat → Int32 → Nat × Int32
  | 0, k => (0, k)
  | d + 1, k => if k = -1 ∧ 0 < d then umR x d (lmG x d 40 (hdR x (d - 1))) else (d + 1, k)
abbrev dpR (x : tm_M) (d : Nat) : tm_M := sI x (0, 0, 0) 25 (nI d)
theorem nI_m1 {b : Nat} (h : b < 2 ^ 31) : ¬ nI b = -1 := fun z => nI_pos h (by rw [z]; decide)
theorem lnF_m1 {c : Int32} {Fi Ne : Nat → Int32} {dep hd ha : Int32} (r : Nat) : lnF c Fi Ne dep hd ha r (-1) = -1 := by cases r with | zero => rfl | succ r => unfold lnF; rw [if_neg (fun z => absurd z.1 (by decide))]
theorem smF_m1 {c : Int32} {Fi Ne P : Nat → Int32} {u : Int32} (r : Nat) : smF c Fi Ne P u r (-1) = -1 := by cases r with | zero => rfl | succ r => unfold smF; rw [if_neg (fun z => absurd z.1 (by decide))]
theorem chE_case {a : Nat} {Ne : Nat → Int32} {r : Nat} {k : Int32} (h : chE a Ne r k) : k = -1 ∨ ∃ b r', r = r' + 1 ∧ b < a ∧ k = nI b ∧ chE a Ne r' (Ne b) := by
  cases r with
  | zero => exact Or.inl h
  | succ r =>
    rcases h with h | ⟨b, h1, h2, h3⟩
    · exact Or.inl h
    · exact Or.inr ⟨b, r, rfl, h1, h2, h3⟩
theorem smF_at {a : Nat} {Fi Ne P : Nat → Int32} {u : Int32} {r b : Nat} (h : b < a) (ha : a ≤ 48) : smF (nI a) Fi Ne P u (r + 1) (nI b) = if Fi b = -1 ∨ (0 ≤ Fi b ∧ ¬ amF P (Fi b) 9 u = 0) then nI b else smF (nI a) Fi Ne P u r (Ne b) := by
  unfold smF
  rw [if_pos ⟨nI_pos' (by omega), nI_lt h (by omega)⟩, nI_clamp (by omega)]
  cases r <;> rfl
theorem lnF_at {a : Nat} {Fi Ne : Nat → Int32} {dep hd ha : Int32} {r b : Nat} (h : b < a) (h48 : a ≤ 48) : lnF (nI a) Fi Ne dep hd ha (r + 1) (nI b) = if Fi b = -2 ∨ (dep = hd ∧ nI b = ha) then nI b else lnF (nI a) Fi Ne dep hd ha r (Ne b) := by
  show (if 0 ≤ nI b ∧ nI b < nI a then _ else _) = _
  rw [if_pos ⟨nI_pos' (by omega), nI_lt h (by omega)⟩, nI_clamp (by omega)]
theorem ok_hdR {l : Launch} {D : va_G} {aC : Nat → ClassId} {ad : Nat → Nat} {i : Nat} (hi : i < 8) (x : tm_M) {d : Nat} (hM : MR x d) (hid : i < d) : OkM l y_Mo_headAt b_Mo_headAt 6 (some .int) (rom 0 0) D aC ad [.ref (ad 0), .int (nI i)] x (some (.int (hdR x i))) x := by
  obtain ⟨h1, h2, h3, h4, ⟨z, hz, h5⟩, h6⟩ := hM i hid
  have e : hdR x i = haF (fun j => x.2 (0, 0, 14) (64 * fnR x i + j)) (fun j => x.2 (0, 0, 15) (64 * fnR x i + j)) (fun j => x.2 (0, 0, 16) (64 * fnR x i + j)) (x.2 (0, 0, 24) i) z 0 (-1) := by
    unfold hdR; rw [h5, nI_clamp (by omega)]
  rw [e]
  exact ok_Mo_headAt hi x h2 h1 h5 hz
theorem MR_eq {x x' : tm_M} {d : Nat} (h : ∀ K : tm_K, K ≠ (0, 0, 28) → K ≠ (0, 0, 27) → K ≠ (0, 0, 26) → K ≠ (0, 0, 25) → x'.2 K = x.2 K) : (MR x d → MR x' d) ∧ fnR x' = fnR x ∧ acR x' = acR x ∧ fiR x' = fiR x ∧ neR x' = neR x ∧ hdR x' = hdR x := by
  have e1 : fnR x' = fnR x := by funext i; unfold fnR; rw [h (0, 0, 23) (by decide) (by decide) (by decide) (by decide)]
  have e2 : acR x' = acR x := by funext i; unfold acR; rw [h (0, 0, 9) (by decide) (by decide) (by decide) (by decide), e1]
  have e3 : fiR x' = fiR x := by funext i j; unfold fiR; rw [h (0, 0, 10) (by decide) (by decide) (by decide) (by decide), e1]
  have e4 : neR x' = neR x := by funext i j; unfold neR; rw [h (0, 0, 12) (by decide) (by decide) (by decide) (by decide), e1]
  have e5 : hdR x' = hdR x := by
    funext i; unfold hdR
    rw [h (0, 0, 14) (by decide) (by decide) (by decide) (by decide), h (0, 0, 15) (by decide) (by decide) (by decide) (by decide), h (0, 0, 16) (by decide) (by decide) (by decide) (by decide), h (0, 0, 24) (by decide) (by decide) (by decide) (by decide), h (0, 0, 13) (by decide) (by decide) (by decide) (by decide), e1]
  refine ⟨fun hM i hi => ?_, e1, e2, e3, e4, e5⟩
  obtain ⟨h1, h2, h3, h4, h5, h6⟩ := hM i hi
  rw [e1, e2, e4, e5, h (0, 0, 23) (by decide) (by decide) (by decide) (by decide), h (0, 0, 9) (by decide) (by decide) (by decide) (by decide), h (0, 0, 13) (by decide) (by decide) (by decide) (by decide)]
  exact ⟨h1, h2, h3, h4, h5, h6⟩
set_option maxRecDepth 100000 in
theorem ok_Mo_searches {l : Launch} {D : va_G} {aC : Nat → ClassId} {ad : Nat → Nat} (x : tm_M) (u : Int32) {d t : Nat} (hd : x.1 (0, 0, 0) 25 = nI d) (hd8 : d ≤ 8) (hM : MR x d) (hfl : x.1 (0, 0, 0) 31 = u) (h8 : t ≤ 8) (hu : u = -1 ∨ ∃ a, a < t ∧ u = nI a) (hP : ∀ a, a < t → x.2 (0, 0, 1) a = -1 ∨ ∃ j, j < a ∧ x.2 (0, 0, 1) a = nI j) :
    OkM l y_Mo_searches b_Mo_searches 5 (some .boolean) (rom 1 25) D aC ad [.ref (ad 0)] x (some (.int (if (fsR x u d).1 = 0 then 0 else 1))) (if (fsR x u d).1 = 0 then x else sI (sI x (0, 0, 0) 32 (nI ((fsR x u d).1 - 1))) (0, 0, 0) 33 (fsR x u d).2) := by
  refine ok_start (by decide) (Nat.le_of_ble_eq_true rfl) rfl ?_
  intro p e s m args below meth c B hr hlk hml
  have B : Cx p s m c args b_Mo_searches R_Mo D aC (rg 30 ad) 30 ad := B
  have loop : ∀ (j : Nat) (v : Int32), j ≤ d → v = nI j - 1 → fsR x u j = (fsR x u d) → J p l e (rom 1 25) s m args below meth c D (rg 30 ad) 0 0 (MQ below (Qk D aC 30 ad (some (.int (if (fsR x u d).1 = 0 then 0 else 1))) (wM ad aC (if (fsR x u d).1 = 0 then x else sI (sI x (0, 0, 0) 32 (nI ((fsR x u d).1 - 1))) (0, 0, 0) 33 (fsR x u d).2))) args s 0 0 (rg 30 ad)) 30 ad (wM ad aC x) 5 7 [(1, .int v), (0, .ref (ad 0))] [] := by
    intro j
    induction j with
    | zero =>
      intro v hjd hv hRd
      have hRR : (fsR x u d).1 = 0 := by rw [← hRd]; rfl
      refine j_iloadn B d_Mo_searches_7 rfl ?_
      refine j_if_lt (tgt := 95) B d_Mo_searches_8 (by decide) (fun h8 => ?_) (fun h8 => (show False from h8 (by rw [hv]; decide)).elim)
      refine j_iconst (v := 0) B d_Mo_searches_95 (by decide) ?_
      exact j_zret B hr hlk d_Mo_searches_96 (by first | exact Or.inl rfl | exact Or.inr rfl) (sv (if_pos hRR)) (congrArg (tw ad aC sM kM) (if_pos hRR).symm)
    | succ j ih =>
      intro v hjd hv hRd
      have hv : v = nI j := hv.trans (nI_pred j)
      subst hv
      obtain ⟨h1, h2, h3, ha, hz, hch⟩ := hM j (by omega)
      have hj8 : j < 8 := by omega
      have inner : ∀ (r : Nat) (k : Int32), chE (acR x j) (neR x j) r k → smF (nI (acR x j)) (fiR x j) (neR x j) (x.2 (0, 0, 1)) u r k = smR x u j → J p l e (rom 1 25) s m args below meth c D (rg 30 ad) 0 0 (MQ below (Qk D aC 30 ad (some (.int (if (fsR x u d).1 = 0 then 0 else 1))) (wM ad aC (if (fsR x u d).1 = 0 then x else sI (sI x (0, 0, 0) 32 (nI ((fsR x u d).1 - 1))) (0, 0, 0) 33 (fsR x u d).2))) args s 0 0 (rg 30 ad)) 30 ad (wM ad aC x) 5 27 [(3, .int k), (2, .int (nI (48 * fnR x j))), (1, .int (nI j)), (0, .ref (ad 0))] [] := by
        intro r
        induction r with
        | zero =>
          intro k hc hR
          have hk : k = -1 := hc
          subst hk
          refine j_iloadn B d_Mo_searches_27 rfl ?_
          refine j_if_lt (tgt := 89) B d_Mo_searches_28 (by decide) (fun h28 => ?_) (fun h28 => (show False from h28 (by decide)).elim)
          refine j_iinc B d_Mo_searches_89 rfl (by decide) (rfl) ?_
          refine j_goto (tgt := 7) B d_Mo_searches_92 (by decide) ?_
          refine j_loc [(1, .int (nI j + -1)), (0, .ref (ad 0))] ⟨rfl, rfl, trivial⟩ ?_
          exact ih _ (by omega) (by rw [Int32.sub_eq_add_neg]) (by rw [← hRd]; exact (if_pos (hR.symm.trans (smF_m1 _))).symm)
        | succ r ih2 =>
          intro k hc hR
          rcases hc with hk | ⟨b, hb, hk, hch2⟩
          · subst hk
            refine j_iloadn B d_Mo_searches_27 rfl ?_
            refine j_if_lt (tgt := 89) B d_Mo_searches_28 (by decide) (fun h28 => ?_) (fun h28 => (show False from h28 (by decide)).elim)
            refine j_iinc B d_Mo_searches_89 rfl (by decide) (rfl) ?_
            refine j_goto (tgt := 7) B d_Mo_searches_92 (by decide) ?_
            refine j_loc [(1, .int (nI j + -1)), (0, .ref (ad 0))] ⟨rfl, rfl, trivial⟩ ?_
            exact ih _ (by omega) (by rw [Int32.sub_eq_add_neg]) (by rw [← hRd]; exact (if_pos (hR.symm.trans (smF_m1 _))).symm)
          · subst hk
            refine j_iloadn B d_Mo_searches_27 rfl ?_
            refine j_if_lt (tgt := 89) B d_Mo_searches_28 (by decide) (fun h28 => (show False from nI_pos (by omega) h28).elim) (fun h28 => ?_)
            refine j_aloadn B d_Mo_searches_31 rfl ?_
            refine j_getr B fl_Mo_41 (m_0) rfl d_Mo_searches_32 ?_
            refine j_iloadn B d_Mo_searches_35 rfl ?_
            refine j_iloadn B d_Mo_searches_36 rfl ?_
            refine j_iadd B d_Mo_searches_37 ?_
            refine j_iald B (m_10) (⟨nI_add _ _, by omega, by decide⟩) d_Mo_searches_38 ?_
            refine j_topi (fiR x j b) rfl ?_
            refine j_istore B d_Mo_searches_39 (by decide) ?_
            refine j_iload B d_Mo_searches_41 rfl ?_
            refine j_iconst (v := (-1)) B d_Mo_searches_43 (by decide) ?_
            refine j_icmp_eq (tgt := 65) B d_Mo_searches_44 (by decide) (fun h44 => ?_) (fun h44 => ?_)
            · -- yes
              have hc : (fiR x j b) = -1 ∨ (0 ≤ (fiR x j b) ∧ ¬ amF (x.2 (0, 0, 1)) (fiR x j b) 9 u = 0) := by first | exact Or.inl h44 | exact Or.inr ⟨Int32.not_lt.mp h49, h62⟩
              have hs : smR x u j = nI b := by rw [← hR, smF_at hb ha, if_pos hc]
              have hRR : fsR x u d = (j + 1, nI b) := by rw [← hRd]; unfold fsR; rw [hs, if_neg (nI_m1 (by omega))]
              refine j_aloadn B d_Mo_searches_65 rfl ?_
              refine j_iloadn B d_Mo_searches_66 rfl ?_
              refine j_puti B kM_inj fs_Mo_177 (m_0) rfl d_Mo_searches_67 ?_
              refine j_aloadn B d_Mo_searches_70 rfl ?_
              refine j_iloadn B d_Mo_searches_71 rfl ?_
              refine j_puti B kM_inj fs_Mo_180 (m_0) rfl d_Mo_searches_72 ?_
              refine j_iconst (v := 1) B d_Mo_searches_75 (by decide) ?_
              exact j_zret B hr hlk d_Mo_searches_76 (by first | exact Or.inl rfl | exact Or.inr rfl) (sv (by rw [hRR]; exact if_neg (by simp))) (congrArg (tw ad aC sM kM) (by rw [hRR]; simp))
            · -- no
              refine j_iload B d_Mo_searches_47 rfl ?_
              refine j_if_lt (tgt := 77) B d_Mo_searches_49 (by decide) (fun h49 => ?_) (fun h49 => ?_)
              · -- yes
                have hc : ¬ ((fiR x j b) = -1 ∨ (0 ≤ (fiR x j b) ∧ ¬ amF (x.2 (0, 0, 1)) (fiR x j b) 9 u = 0)) := by first | exact fun z => z.elim h44 (fun y => y.2 h62) | exact fun z => z.elim h44 (fun y => absurd y.1 (Int32.not_le.mpr h49))
                refine j_aloadn B d_Mo_searches_77 rfl ?_
                refine j_getr B fl_Mo_47 (m_0) rfl d_Mo_searches_78 ?_
                refine j_iloadn B d_Mo_searches_81 rfl ?_
                refine j_iloadn B d_Mo_searches_82 rfl ?_
                refine j_iadd B d_Mo_searches_83 ?_
                refine j_iald B (m_12) (⟨nI_add _ _, by omega, by decide⟩) d_Mo_searches_84 ?_
                refine j_topi (neR x j b) rfl ?_
                refine j_istoren B d_Mo_searches_85 (by decide) ?_
                refine j_goto (tgt := 27) B d_Mo_searches_86 (by decide) ?_
                refine j_loc [(3, .int (neR x j b)), (2, .int (nI (48 * fnR x j))), (1, .int (nI j)), (0, .ref (ad 0))] ⟨rfl, rfl, rfl, rfl, trivial⟩ ?_
                exact ih2 _ hch2 (by rw [← hR, smF_at hb ha, if_neg hc])
              · -- no
                refine j_aloadn B d_Mo_searches_52 rfl ?_
                refine j_aloadn B d_Mo_searches_53 rfl ?_
                refine j_geti B fl_Mo_171 (m_0) rfl d_Mo_searches_54 ?_
                refine j_topi u hfl ?_
                refine j_iload B d_Mo_searches_57 rfl ?_
                refine j_x x rfl ?_
                refine j_cVt B (ok_Mo_isAnother x u (fiR x j b) h8 hu hP) cv_Mo_isAnother ml_Mo_174 (m_0) rfl rfl ⟨rfl, rfl, by decide, by decide⟩ ⟨Nat.zero_le _, Nat.zero_le _⟩ hml (Nat.le_of_ble_eq_true rfl) rfl d_Mo_searches_59 ?_
                refine j_if_eq (tgt := 77) B d_Mo_searches_62 (by decide) (fun h62 => ?_) (fun h62 => ?_)
                · -- yes
                  have hc : ¬ ((fiR x j b) = -1 ∨ (0 ≤ (fiR x j b) ∧ ¬ amF (x.2 (0, 0, 1)) (fiR x j b) 9 u = 0)) := by first | exact fun z => z.elim h44 (fun y => y.2 h62) | exact fun z => z.elim h44 (fun y => absurd y.1 (Int32.not_le.mpr h49))
                  refine j_aloadn B d_Mo_searches_77 rfl ?_
                  refine j_getr B fl_Mo_47 (m_0) rfl d_Mo_searches_78 ?_
                  refine j_iloadn B d_Mo_searches_81 rfl ?_
                  refine j_iloadn B d_Mo_searches_82 rfl ?_
                  refine j_iadd B d_Mo_searches_83 ?_
                  refine j_iald B (m_12) (⟨nI_add _ _, by omega, by decide⟩) d_Mo_searches_84 ?_
                  refine j_topi (neR x j b) rfl ?_
                  refine j_istoren B d_Mo_searches_85 (by decide) ?_
                  refine j_goto (tgt := 27) B d_Mo_searches_86 (by decide) ?_
                  refine j_loc [(3, .int (neR x j b)), (2, .int (nI (48 * fnR x j))), (1, .int (nI j)), (0, .ref (ad 0))] ⟨rfl, rfl, rfl, rfl, trivial⟩ ?_
                  exact ih2 _ hch2 (by rw [← hR, smF_at hb ha, if_neg hc])
                · -- no
                  have hc : (fiR x j b) = -1 ∨ (0 ≤ (fiR x j b) ∧ ¬ amF (x.2 (0, 0, 1)) (fiR x j b) 9 u = 0) := by first | exact Or.inl h44 | exact Or.inr ⟨Int32.not_lt.mp h49, h62⟩
                  have hs : smR x u j = nI b := by rw [← hR, smF_at hb ha, if_pos hc]
                  have hRR : fsR x u d = (j + 1, nI b) := by rw [← hRd]; unfold fsR; rw [hs, if_neg (nI_m1 (by omega))]
                  refine j_aloadn B d_Mo_searches_65 rfl ?_
                  refine j_iloadn B d_Mo_searches_66 rfl ?_
                  refine j_puti B kM_inj fs_Mo_177 (m_0) rfl d_Mo_searches_67 ?_
                  refine j_aloadn B d_Mo_searches_70 rfl ?_
                  refine j_iloadn B d_Mo_searches_71 rfl ?_
                  refine j_puti B kM_inj fs_Mo_180 (m_0) rfl d_Mo_searches_72 ?_
                  refine j_iconst (v := 1) B d_Mo_searches_75 (by decide) ?_
                  exact j_zret B hr hlk d_Mo_searches_76 (by first | exact Or.inl rfl | exact Or.inr rfl) (sv (by rw [hRR]; exact if_neg (by simp))) (congrArg (tw ad aC sM kM) (by rw [hRR]; simp))
      refine j_iloadn B d_Mo_searches_7 rfl ?_
      refine j_if_lt (tgt := 95) B d_Mo_searches_8 (by decide) (fun h8 => (show False from nI_pos (by omega) h8).elim) (fun h8 => ?_)
      refine j_bipush (v := 48) B d_Mo_searches_11 (by decide) ?_
      refine j_aloadn B d_Mo_searches_13 rfl ?_
      refine j_getr B fl_Mo_80 (m_0) rfl d_Mo_searches_14 ?_
      refine j_iloadn B d_Mo_searches_17 rfl ?_
      refine j_iald B (m_23) (⟨rfl, by omega, by decide⟩) d_Mo_searches_18 ?_
      refine j_topi (nI (fnR x j)) h1 ?_
      refine j_imul B d_Mo_searches_19 ?_
      refine j_topi (nI (48 * fnR x j)) (pk_mul 48 _) ?_
      refine j_istoren B d_Mo_searches_20 (by decide) ?_
      refine j_aloadn B d_Mo_searches_21 rfl ?_
      refine j_iloadn B d_Mo_searches_22 rfl ?_
      refine j_cVt B (ok_hdR hj8 x hM (by omega)) cv_Mo_headAt ml_Mo_167 (m_0) rfl rfl ⟨rfl, rfl, by decide, by decide⟩ ⟨Nat.zero_le _, Nat.zero_le _⟩ hml (Nat.le_of_ble_eq_true rfl) rfl d_Mo_searches_23 ?_
      refine j_istoren B d_Mo_searches_26 (by decide) ?_
      refine j_loc [(3, .int (hdR x j)), (2, .int (nI (48 * fnR x j))), (1, .int (nI j)), (0, .ref (ad 0))] ⟨rfl, rfl, rfl, rfl, trivial⟩ ?_
      exact inner 40 _ hch rfl
  refine j_aloadn B d_Mo_searches_0 rfl ?_
  refine j_geti B fl_Mo_164 (m_0) rfl d_Mo_searches_1 ?_
  refine j_topi (nI d) hd ?_
  refine j_iconst (v := 1) B d_Mo_searches_4 (by decide) ?_
  refine j_isub B d_Mo_searches_5 ?_
  refine j_istoren B d_Mo_searches_6 (by decide) ?_
  refine j_loc [(1, .int (nI d - 1)), (0, .ref (ad 0))] ⟨rfl, rfl, trivial⟩ ?_
  exact loop d _ (Nat.le_refl d) rfl rfl
/-- what a landing does -/
def LdR (x : tm_M) (d b : Nat) (x2 : tm_M) : Prop :=
  (∃ t, x.2 (0, 0, 26) (d - 1) = nI t ∧ t < 24 ∧ (nI d = x.1 (0, 0, 0) 32 + 1 ∧ nI b = x.1 (0, 0, 0) 33) ∧ x2 = sA (sA (sA (dpR x d) (0, 0, 27) (24 * (d - 1) + t) (x.1 (0, 0, 0) 31)) (0, 0, 26) (d - 1) (nI (t + 1))) (0, 0, 25) (d - 1) (x.2 (0, 0, 11) (48 * fnR x (d - 1) + b))) ∨
  (¬ (nI d = x.1 (0, 0, 0) 32 + 1 ∧ nI b = x.1 (0, 0, 0) 33) ∧ x2 = sA (sI (dpR x d) (0, 0, 0) 34 (nI b)) (0, 0, 25) (d - 1) (x.2 (0, 0, 11) (48 * fnR x (d - 1) + b)))
theorem nI_dp {d : Nat} (h : 0 < d) {v : Int32} : nI (d - 1) = v ↔ nI d = v + 1 := by
  have e : nI d = nI (d - 1) + 1 := by rw [nI_1]; congr 1; omega
  rw [e]
  exact ⟨fun h => by rw [h], fun h => by have h' := congrArg (fun z => z - 1) h; simp only [Int32.add_sub_cancel] at h'; exact h'⟩
theorem lmG_at {x : tm_M} {j r q : Nat} (h : q < acR x (j - 1)) (h48 : acR x (j - 1) ≤ 48) : lmG x j (r + 1) (nI q) = if fiR x (j - 1) q = -2 ∨ (nI j = x.1 (0, 0, 0) 32 + 1 ∧ nI q = x.1 (0, 0, 0) 33) then nI q else lmG x j r (neR x (j - 1) q) := by
  unfold lmG
  exact lnF_at h h48
theorem umR_pos {x : tm_M} {j q : Nat} (hj : 0 < j) (hq : q < 2 ^ 31) : umR x j (nI q) = (j, nI q) := by
  have e : j = (j - 1) + 1 := by omega
  rw [e]
  unfold umR
  rw [if_neg (fun z => nI_m1 hq z.1)]
set_option maxRecDepth 100000 in
theorem ok_Mo_unwinds {l : Launch} {D : va_G} {aC : Nat → ClassId} {ad : Nat → Nat} (x : tm_M) (v : Int32) {d d2 b : Nat} {x2 : tm_M} (hd : x.1 (0, 0, 0) 25 = nI d) (hd0 : 0 < d) (hd8 : d ≤ 8) (hM : MR x d) (hv : chE (acR x (d - 1)) (neR x (d - 1)) 40 v) (hb31 : b < 2 ^ 31) (hU : umR x d (lmG x d 40 v) = (d2, nI b)) (hL : LdR x d2 b x2) :
    OkM l y_Mo_unwinds b_Mo_unwinds 6 none (rom 1 25) D aC ad [.ref (ad 0), .int v] x none x2 := by
  refine ok_start (by decide) (Nat.le_of_ble_eq_true rfl) rfl ?_
  intro p e s m args below meth c B hr hlk hml
  have B : Cx p s m c args b_Mo_unwinds R_Mo D aC (rg 30 ad) 30 ad := B
  have fin : ∀ k : Int32, J p l e (rom 1 25) s m args below meth c D (rg 30 ad) 0 0 (MQ below (Qk D aC 30 ad none (wM ad aC x2)) args s 0 0 (rg 30 ad)) 30 ad (wM ad aC x2) 6 4 [(3, .int 0), (2, .int k), (0, .ref (ad 0))] [] := by
    intro k
    refine j_iloadn B d_Mo_unwinds_4 rfl ?_
    refine j_if_eq (tgt := 180) B d_Mo_unwinds_5 (by decide) (fun h5 => ?_) (fun h5 => (show False from h5 rfl).elim)
    exact j_vret B hr hlk d_Mo_unwinds_180 (rfl) (rfl)
  have loop : ∀ (N j : Nat), j ≤ N → 0 < j → j ≤ d → ∀ (r : Nat) (k : Int32), chE (acR x (j - 1)) (neR x (j - 1)) r k → umR x j (lmG x j r k) = (d2, nI b) → J p l e (rom 1 25) s m args below meth c D (rg 30 ad) 0 0 (MQ below (Qk D aC 30 ad none (wM ad aC x2)) args s 0 0 (rg 30 ad)) 30 ad (wM ad aC (dpR x j)) 6 4 [(3, .int 1), (2, .int k), (0, .ref (ad 0))] [] := by
    intro N
    induction N with
    | zero => intro j h1 h2; omega
    | succ N ihN =>
      intro j hjN hj0 hjd
      have ih := ihN (j - 1)
      obtain ⟨h1, h2, h3, ha, hz, -⟩ := hM (j - 1) (by omega)
      intro r
      have neg : umR x j (-1) = (d2, nI b) → J p l e (rom 1 25) s m args below meth c D (rg 30 ad) 0 0 (MQ below (Qk D aC 30 ad none (wM ad aC x2)) args s 0 0 (rg 30 ad)) 30 ad (wM ad aC (dpR x j)) 6 4 [(3, .int 1), (2, .int (-1)), (0, .ref (ad 0))] [] := by
        intro hU2
        have hj1 : 0 < j - 1 := by
          apply Nat.pos_of_ne_zero
          intro h0
          have e : j = 0 + 1 := by omega
          rw [e] at hU2
          unfold umR at hU2
          rw [if_neg (fun z => absurd z.2 (by decide))] at hU2
          exact nI_m1 hb31 (congrArg Prod.snd hU2).symm
        have hN : umR x (j - 1) (lmG x (j - 1) 40 (hdR x (j - 1 - 1))) = (d2, nI b) := by
          rw [← hU2]
          have e : j = (j - 1) + 1 := by omega
          conv => rhs; rw [e]; unfold umR
          rw [if_pos ⟨rfl, hj1⟩]
        refine j_iloadn B d_Mo_unwinds_4 rfl ?_
        refine j_if_eq (tgt := 180) B d_Mo_unwinds_5 (by decide) (fun h5 => (show False from absurd h5 (by decide)).elim) (fun h5 => ?_)
        refine j_aloadn B d_Mo_unwinds_8 rfl ?_
        refine j_geti B fl_Mo_164 (m_0) rfl d_Mo_unwinds_9 ?_
        refine j_iconst (v := 1) B d_Mo_unwinds_12 (by decide) ?_
        refine j_isub B d_Mo_unwinds_13 ?_
        refine j_topi (nI (j - 1)) (by rw [rI]; exact nIp hj0) ?_
        refine j_istore B d_Mo_unwinds_14 (by decide) ?_
        refine j_bipush (v := 48) B d_Mo_unwinds_16 (by decide) ?_
        refine j_aloadn B d_Mo_unwinds_18 rfl ?_
        refine j_getr B fl_Mo_80 (m_0) rfl d_Mo_unwinds_19 ?_
        refine j_iload B d_Mo_unwinds_22 rfl ?_
        refine j_iald B (m_23) (⟨rfl, by omega, by decide⟩) d_Mo_unwinds_24 ?_
        refine j_topi (nI (fnR x (j - 1))) h1 ?_
        refine j_imul B d_Mo_unwinds_25 ?_
        refine j_topi (nI (48 * fnR x (j - 1))) (pk_mul 48 _) ?_
        refine j_istore B d_Mo_unwinds_26 (by decide) ?_
        refine j_iloadn B d_Mo_unwinds_28 rfl ?_
        refine j_if_ge (tgt := 56) B d_Mo_unwinds_29 (by decide) (fun h29 => (show False from absurd h29 (by decide)).elim) (fun h29 => ?_)
        refine j_aloadn B d_Mo_unwinds_32 rfl ?_
        refine j_dup B d_Mo_unwinds_33 rfl ?_
        refine j_geti B fl_Mo_164 (m_0) rfl d_Mo_unwinds_34 ?_
        refine j_iconst (v := 1) B d_Mo_unwinds_37 (by decide) ?_
        refine j_isub B d_Mo_unwinds_38 ?_
        refine j_topi (nI (j - 1)) (by rw [rI]; exact nIp hj0) ?_
        refine j_puti B kM_inj fs_Mo_164 (m_0) rfl d_Mo_unwinds_39 ?_
        refine j_x (dpR x (j - 1)) sI_sI ?_
        refine j_aloadn B d_Mo_unwinds_42 rfl ?_
        refine j_aloadn B d_Mo_unwinds_43 rfl ?_
        refine j_geti B fl_Mo_164 (m_0) rfl d_Mo_unwinds_44 ?_
        refine j_iconst (v := 1) B d_Mo_unwinds_47 (by decide) ?_
        refine j_isub B d_Mo_unwinds_48 ?_
        refine j_topi (nI (j - 1 - 1)) (by rw [rI]; exact nIp hj1) ?_
        refine j_cVt B (ok_hdR (i := j - 1 - 1) (by omega) (dpR x (j - 1)) (d := d) ((MR_eq (fun _ _ _ _ _ => rfl)).1 hM) (by omega)) cv_Mo_headAt ml_Mo_167 (m_0) rfl rfl ⟨rfl, rfl, by decide, by decide⟩ ⟨Nat.zero_le _, Nat.zero_le _⟩ hml (Nat.le_of_ble_eq_true rfl) rfl d_Mo_unwinds_49 ?_
        refine j_istoren B d_Mo_unwinds_52 (by decide) ?_
        refine j_goto (tgt := 177) B d_Mo_unwinds_53 (by decide) ?_
        refine j_goto (tgt := 4) B d_Mo_unwinds_177 (by decide) ?_
        refine j_loc [(3, .int 1), (2, .int (hdR x (j - 1 - 1))), (0, .ref (ad 0))] ⟨rfl, rfl, rfl, trivial⟩ ?_
        exact ih (by omega) hj1 (by omega) 40 _ (hM (j - 1 - 1) (by omega)).2.2.2.2.2 hN
      induction r with
      | zero =>
        intro k hk hU2
        have hk : k = -1 := hk
        subst hk
        exact neg hU2
      | succ r ih2 =>
        intro k hk hU2
        rcases hk with hk | ⟨q, hq, hk, hch⟩
        · subst hk
          exact neg (by rw [← hU2]; unfold lmG; rw [lnF_m1])
        · subst hk
          refine j_iloadn B d_Mo_unwinds_4 rfl ?_
          refine j_if_eq (tgt := 180) B d_Mo_unwinds_5 (by decide) (fun h5 => (show False from absurd h5 (by decide)).elim) (fun h5 => ?_)
          refine j_aloadn B d_Mo_unwinds_8 rfl ?_
          refine j_geti B fl_Mo_164 (m_0) rfl d_Mo_unwinds_9 ?_
          refine j_iconst (v := 1) B d_Mo_unwinds_12 (by decide) ?_
          refine j_isub B d_Mo_unwinds_13 ?_
          refine j_topi (nI (j - 1)) (by rw [rI]; exact nIp hj0) ?_
          refine j_istore B d_Mo_unwinds_14 (by decide) ?_
          refine j_bipush (v := 48) B d_Mo_unwinds_16 (by decide) ?_
          refine j_aloadn B d_Mo_unwinds_18 rfl ?_
          refine j_getr B fl_Mo_80 (m_0) rfl d_Mo_unwinds_19 ?_
          refine j_iload B d_Mo_unwinds_22 rfl ?_
          refine j_iald B (m_23) (⟨rfl, by omega, by decide⟩) d_Mo_unwinds_24 ?_
          refine j_topi (nI (fnR x (j - 1))) h1 ?_
          refine j_imul B d_Mo_unwinds_25 ?_
          refine j_topi (nI (48 * fnR x (j - 1))) (pk_mul 48 _) ?_
          refine j_istore B d_Mo_unwinds_26 (by decide) ?_
          refine j_iloadn B d_Mo_unwinds_28 rfl ?_
          refine j_if_ge (tgt := 56) B d_Mo_unwinds_29 (by decide) (fun h29 => ?_) (fun h29 => (show False from h29 (nI_pos' (by omega))).elim)
          refine j_iload B d_Mo_unwinds_56 rfl ?_
          refine j_aloadn B d_Mo_unwinds_58 rfl ?_
          refine j_geti B fl_Mo_177 (m_0) rfl d_Mo_unwinds_59 ?_
          refine j_topi (x.1 (0, 0, 0) 32) (rIj (by decide)) ?_
          refine j_icmp_ne (tgt := 127) B d_Mo_unwinds_62 (by decide) (fun h62 => ?_) (fun h62 => ?_)
          · -- yes
            have hH : ¬ (nI j = x.1 (0, 0, 0) 32 + 1 ∧ nI q = x.1 (0, 0, 0) 33) := fun z => h62 ((nI_dp hj0).mpr z.1)
            refine j_aloadn B d_Mo_unwinds_127 rfl ?_
            refine j_getr B fl_Mo_41 (m_0) rfl d_Mo_unwinds_128 ?_
            refine j_iload B d_Mo_unwinds_131 rfl ?_
            refine j_iloadn B d_Mo_unwinds_133 rfl ?_
            refine j_iadd B d_Mo_unwinds_134 ?_
            refine j_iald B (m_10) (⟨nI_add _ _, by omega, by decide⟩) d_Mo_unwinds_135 ?_
            refine j_topi (fiR x (j - 1) q) rfl ?_
            refine j_bipush (v := (-2)) B d_Mo_unwinds_136 (by decide) ?_
            refine j_icmp_ne (tgt := 167) B d_Mo_unwinds_138 (by decide) (fun h138 => ?_) (fun h138 => ?_)
            · -- yes
              refine j_aloadn B d_Mo_unwinds_167 rfl ?_
              refine j_getr B fl_Mo_47 (m_0) rfl d_Mo_unwinds_168 ?_
              refine j_iload B d_Mo_unwinds_171 rfl ?_
              refine j_iloadn B d_Mo_unwinds_173 rfl ?_
              refine j_iadd B d_Mo_unwinds_174 ?_
              refine j_iald B (m_12) (⟨nI_add _ _, by omega, by decide⟩) d_Mo_unwinds_175 ?_
              refine j_topi (neR x (j - 1) q) rfl ?_
              refine j_istoren B d_Mo_unwinds_176 (by decide) ?_
              refine j_goto (tgt := 4) B d_Mo_unwinds_177 (by decide) ?_
              first
                | (refine j_loc [(3, .int 1), (2, .int (neR x (j - 1) q)), (0, .ref (ad 0))] ⟨rfl, rfl, rfl, trivial⟩ ?_; exact ih2 _ hch (by rw [← hU2, lmG_at hq ha, if_neg (fun z => z.elim h138 hH)]))
                | (refine j_loc [(3, .int 0), (2, .int (nI q)), (0, .ref (ad 0))] ⟨rfl, rfl, rfl, trivial⟩ ?_; exact fin _)
            · -- no
              have hE : (j, nI q) = (d2, nI b) := by rw [← hU2, lmG_at hq ha, if_pos (Or.inl h138)]; exact (umR_pos hj0 (by omega)).symm
              have hjd : j = d2 := congrArg Prod.fst hE
              have hqb : q = b := (nI_eq (by omega) hb31).mp (congrArg Prod.snd hE)
              subst hjd; subst hqb
              obtain ⟨t, ht, h24, hY, -⟩ | ⟨-, hX⟩ := hL
              case' inl => exact absurd hY hH
              refine j_aloadn B d_Mo_unwinds_141 rfl ?_
              refine j_iloadn B d_Mo_unwinds_142 rfl ?_
              refine j_puti B kM_inj fs_Mo_183 (m_0) rfl d_Mo_unwinds_143 ?_
              refine j_aloadn B d_Mo_unwinds_146 rfl ?_
              refine j_getr B fl_Mo_86 (m_0) rfl d_Mo_unwinds_147 ?_
              refine j_iload B d_Mo_unwinds_150 rfl ?_
              refine j_aloadn B d_Mo_unwinds_152 rfl ?_
              refine j_getr B fl_Mo_44 (m_0) rfl d_Mo_unwinds_153 ?_
              refine j_iload B d_Mo_unwinds_156 rfl ?_
              refine j_iloadn B d_Mo_unwinds_158 rfl ?_
              refine j_iadd B d_Mo_unwinds_159 ?_
              refine j_iald B (m_11) (⟨nI_add _ _, by omega, by decide⟩) d_Mo_unwinds_160 ?_
              refine j_iast B kM_inj (m_25) (⟨rfl, by omega, by decide⟩) d_Mo_unwinds_161 ?_
              refine j_x x2 hX.symm ?_
              refine j_iconst (v := 0) B d_Mo_unwinds_162 (by decide) ?_
              refine j_istoren B d_Mo_unwinds_163 (by decide) ?_
              refine j_goto (tgt := 177) B d_Mo_unwinds_164 (by decide) ?_
              refine j_goto (tgt := 4) B d_Mo_unwinds_177 (by decide) ?_
              first
                | (refine j_loc [(3, .int 1), (2, .int (neR x (j - 1) q)), (0, .ref (ad 0))] ⟨rfl, rfl, rfl, trivial⟩ ?_; exact ih2 _ hch (by rw [← hU2, lmG_at hq ha, if_neg (fun z => z.elim h138 hH)]))
                | (refine j_loc [(3, .int 0), (2, .int (nI q)), (0, .ref (ad 0))] ⟨rfl, rfl, rfl, trivial⟩ ?_; exact fin _)
          · -- no
            refine j_iloadn B d_Mo_unwinds_65 rfl ?_
            refine j_aloadn B d_Mo_unwinds_66 rfl ?_
            refine j_geti B fl_Mo_180 (m_0) rfl d_Mo_unwinds_67 ?_
            refine j_topi (x.1 (0, 0, 0) 33) (rIj (by decide)) ?_
            refine j_icmp_ne (tgt := 127) B d_Mo_unwinds_70 (by decide) (fun h70 => ?_) (fun h70 => ?_)
            · -- yes
              have hH : ¬ (nI j = x.1 (0, 0, 0) 32 + 1 ∧ nI q = x.1 (0, 0, 0) 33) := fun z => h70 z.2
              refine j_aloadn B d_Mo_unwinds_127 rfl ?_
              refine j_getr B fl_Mo_41 (m_0) rfl d_Mo_unwinds_128 ?_
              refine j_iload B d_Mo_unwinds_131 rfl ?_
              refine j_iloadn B d_Mo_unwinds_133 rfl ?_
              refine j_iadd B d_Mo_unwinds_134 ?_
              refine j_iald B (m_10) (⟨nI_add _ _, by omega, by decide⟩) d_Mo_unwinds_135 ?_
              refine j_topi (fiR x (j - 1) q) rfl ?_
              refine j_bipush (v := (-2)) B d_Mo_unwinds_136 (by decide) ?_
              refine j_icmp_ne (tgt := 167) B d_Mo_unwinds_138 (by decide) (fun h138 => ?_) (fun h138 => ?_)
              · -- yes
                refine j_aloadn B d_Mo_unwinds_167 rfl ?_
                refine j_getr B fl_Mo_47 (m_0) rfl d_Mo_unwinds_168 ?_
                refine j_iload B d_Mo_unwinds_171 rfl ?_
                refine j_iloadn B d_Mo_unwinds_173 rfl ?_
                refine j_iadd B d_Mo_unwinds_174 ?_
                refine j_iald B (m_12) (⟨nI_add _ _, by omega, by decide⟩) d_Mo_unwinds_175 ?_
                refine j_topi (neR x (j - 1) q) rfl ?_
                refine j_istoren B d_Mo_unwinds_176 (by decide) ?_
                refine j_goto (tgt := 4) B d_Mo_unwinds_177 (by decide) ?_
                first
                  | (refine j_loc [(3, .int 1), (2, .int (neR x (j - 1) q)), (0, .ref (ad 0))] ⟨rfl, rfl, rfl, trivial⟩ ?_; exact ih2 _ hch (by rw [← hU2, lmG_at hq ha, if_neg (fun z => z.elim h138 hH)]))
                  | (refine j_loc [(3, .int 0), (2, .int (nI q)), (0, .ref (ad 0))] ⟨rfl, rfl, rfl, trivial⟩ ?_; exact fin _)
              · -- no
                have hE : (j, nI q) = (d2, nI b) := by rw [← hU2, lmG_at hq ha, if_pos (Or.inl h138)]; exact (umR_pos hj0 (by omega)).symm
                have hjd : j = d2 := congrArg Prod.fst hE
                have hqb : q = b := (nI_eq (by omega) hb31).mp (congrArg Prod.snd hE)
                subst hjd; subst hqb
                obtain ⟨t, ht, h24, hY, -⟩ | ⟨-, hX⟩ := hL
                case' inl => exact absurd hY hH
                refine j_aloadn B d_Mo_unwinds_141 rfl ?_
                refine j_iloadn B d_Mo_unwinds_142 rfl ?_
                refine j_puti B kM_inj fs_Mo_183 (m_0) rfl d_Mo_unwinds_143 ?_
                refine j_aloadn B d_Mo_unwinds_146 rfl ?_
                refine j_getr B fl_Mo_86 (m_0) rfl d_Mo_unwinds_147 ?_
                refine j_iload B d_Mo_unwinds_150 rfl ?_
                refine j_aloadn B d_Mo_unwinds_152 rfl ?_
                refine j_getr B fl_Mo_44 (m_0) rfl d_Mo_unwinds_153 ?_
                refine j_iload B d_Mo_unwinds_156 rfl ?_
                refine j_iloadn B d_Mo_unwinds_158 rfl ?_
                refine j_iadd B d_Mo_unwinds_159 ?_
                refine j_iald B (m_11) (⟨nI_add _ _, by omega, by decide⟩) d_Mo_unwinds_160 ?_
                refine j_iast B kM_inj (m_25) (⟨rfl, by omega, by decide⟩) d_Mo_unwinds_161 ?_
                refine j_x x2 hX.symm ?_
                refine j_iconst (v := 0) B d_Mo_unwinds_162 (by decide) ?_
                refine j_istoren B d_Mo_unwinds_163 (by decide) ?_
                refine j_goto (tgt := 177) B d_Mo_unwinds_164 (by decide) ?_
                refine j_goto (tgt := 4) B d_Mo_unwinds_177 (by decide) ?_
                first
                  | (refine j_loc [(3, .int 1), (2, .int (neR x (j - 1) q)), (0, .ref (ad 0))] ⟨rfl, rfl, rfl, trivial⟩ ?_; exact ih2 _ hch (by rw [← hU2, lmG_at hq ha, if_neg (fun z => z.elim h138 hH)]))
                  | (refine j_loc [(3, .int 0), (2, .int (nI q)), (0, .ref (ad 0))] ⟨rfl, rfl, rfl, trivial⟩ ?_; exact fin _)
            · -- no
              have hH : nI j = x.1 (0, 0, 0) 32 + 1 ∧ nI q = x.1 (0, 0, 0) 33 := ⟨(nI_dp hj0).mp h62, h70⟩
              have hE : (j, nI q) = (d2, nI b) := by rw [← hU2, lmG_at hq ha, if_pos (Or.inr hH)]; exact (umR_pos hj0 (by omega)).symm
              have hjd : j = d2 := congrArg Prod.fst hE
              have hqb : q = b := (nI_eq (by omega) hb31).mp (congrArg Prod.snd hE)
              subst hjd; subst hqb
              obtain ⟨t, ht, h24, -, hX⟩ | ⟨hN, -⟩ := hL
              case' inr => exact absurd hH hN
              refine j_aloadn B d_Mo_unwinds_73 rfl ?_
              refine j_getr B fl_Mo_92 (m_0) rfl d_Mo_unwinds_74 ?_
              refine j_bipush (v := 24) B d_Mo_unwinds_77 (by decide) ?_
              refine j_iload B d_Mo_unwinds_79 rfl ?_
              refine j_imul B d_Mo_unwinds_81 ?_
              refine j_topi (nI (24 * (j - 1))) (pk_mul 24 _) ?_
              refine j_aloadn B d_Mo_unwinds_82 rfl ?_
              refine j_getr B fl_Mo_89 (m_0) rfl d_Mo_unwinds_83 ?_
              refine j_iload B d_Mo_unwinds_86 rfl ?_
              refine j_iald B (m_26) (⟨rfl, by omega, by decide⟩) d_Mo_unwinds_88 ?_
              refine j_topi (nI t) ht ?_
              refine j_iadd B d_Mo_unwinds_89 ?_
              refine j_aloadn B d_Mo_unwinds_90 rfl ?_
              refine j_geti B fl_Mo_171 (m_0) rfl d_Mo_unwinds_91 ?_
              refine j_topi (x.1 (0, 0, 0) 31) (rIj (by decide)) ?_
              refine j_iast B kM_inj (m_27) (⟨nI_add _ _, by omega, by decide⟩) d_Mo_unwinds_94 ?_
              refine j_aloadn B d_Mo_unwinds_95 rfl ?_
              refine j_getr B fl_Mo_89 (m_0) rfl d_Mo_unwinds_96 ?_
              refine j_iload B d_Mo_unwinds_99 rfl ?_
              refine j_dup2 B d_Mo_unwinds_101 rfl rfl ?_
              refine j_iald B (m_26) (⟨rfl, by omega, by decide⟩) d_Mo_unwinds_102 ?_
              refine j_topi (nI t) (by rw [rAK (by decide)]; exact ht) ?_
              refine j_iconst (v := 1) B d_Mo_unwinds_103 (by decide) ?_
              refine j_iadd B d_Mo_unwinds_104 ?_
              refine j_topi (nI (t + 1)) (nI_1 t) ?_
              refine j_iast B kM_inj (m_26) (⟨rfl, by omega, by decide⟩) d_Mo_unwinds_105 ?_
              refine j_aloadn B d_Mo_unwinds_106 rfl ?_
              refine j_getr B fl_Mo_86 (m_0) rfl d_Mo_unwinds_107 ?_
              refine j_iload B d_Mo_unwinds_110 rfl ?_
              refine j_aloadn B d_Mo_unwinds_112 rfl ?_
              refine j_getr B fl_Mo_44 (m_0) rfl d_Mo_unwinds_113 ?_
              refine j_iload B d_Mo_unwinds_116 rfl ?_
              refine j_iloadn B d_Mo_unwinds_118 rfl ?_
              refine j_iadd B d_Mo_unwinds_119 ?_
              refine j_iald B (m_11) (⟨nI_add _ _, by omega, by decide⟩) d_Mo_unwinds_120 ?_
              refine j_topi (x.2 (0, 0, 11) (48 * fnR x (j - 1) + q)) (by rw [rAK (by decide), rAK (by decide)]; rfl) ?_
              refine j_iast B kM_inj (m_25) (⟨rfl, by omega, by decide⟩) d_Mo_unwinds_121 ?_
              refine j_x x2 hX.symm ?_
              refine j_iconst (v := 0) B d_Mo_unwinds_122 (by decide) ?_
              refine j_istoren B d_Mo_unwinds_123 (by decide) ?_
              refine j_goto (tgt := 177) B d_Mo_unwinds_124 (by decide) ?_
              refine j_goto (tgt := 4) B d_Mo_unwinds_177 (by decide) ?_
              first
                | (refine j_loc [(3, .int 1), (2, .int (neR x (j - 1) q)), (0, .ref (ad 0))] ⟨rfl, rfl, rfl, trivial⟩ ?_; exact ih2 _ hch (by rw [← hU2, lmG_at hq ha, if_neg (fun z => z.elim h138 hH)]))
                | (refine j_loc [(3, .int 0), (2, .int (nI q)), (0, .ref (ad 0))] ⟨rfl, rfl, rfl, trivial⟩ ?_; exact fin _)
  refine j_iloadn B d_Mo_unwinds_0 rfl ?_
  refine j_istoren B d_Mo_unwinds_1 (by decide) ?_
  refine j_iconst (v := 1) B d_Mo_unwinds_2 (by decide) ?_
  refine j_istoren B d_Mo_unwinds_3 (by decide) ?_
  refine j_x (dpR x d) (sI_self hd).symm ?_
  refine j_loc [(3, .int 1), (2, .int v), (0, .ref (ad 0))] ⟨rfl, rfl, rfl, trivial⟩ ?_
  exact loop d d (Nat.le_refl d) hd0 (Nat.le_refl d) 40 v hv hU
