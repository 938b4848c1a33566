/-- the row that is d rows out is closed within r statements -/
def scF (S : Nat → Int32) : Nat → Nat → Nat → Prop
  | 0, _, _ => False
  | r + 1, k, d => if S k = 3 ∨ S k = 6 then scF S r (k + 1) (d + 1) else if S k = 5 then (if d = 0 then True else scF S r (k + 1) (d - 1)) else scF S r (k + 1) d
/-- the actions of the CATCHes of a row -/
def tmF (f : Nat) (S N : Nat → Int32) : Nat → Nat → Nat → Nat → tm_M → Nat × tm_M
  | 0, _, _, a, x => (a, x)
  | r + 1, k, d, a, x => if S k = 3 ∨ S k = 6 then tmF f S N r (k + 1) (d + 1) a x else if S k = 5 then (if d = 0 then (a, x) else tmF f S N r (k + 1) (d - 1) a x) else if S k = 4 ∧ d = 0 then tmF f S N r (k + 1) d (a + 1) (acM f a (N k) (nI (a + 1)) x) else tmF f S N r (k + 1) d a x
theorem tmF_a {f : Nat} {S N : Nat → Int32} : ∀ (r k d a : Nat) (x : tm_M), (tmF f S N r k d a x).1 = a + crF S r k d
  | 0, _, _, _, _ => rfl
  | r + 1, k, d, a, x => by
    unfold tmF crF
    by_cases h : S k = 3 ∨ S k = 6
    · rw [if_pos h, if_pos h.symm]; exact tmF_a r _ _ _ _
    · rw [if_neg h, if_neg (show ¬ (S k = 6 ∨ S k = 3) from fun z => h z.symm)]
      split
      · split
        · rfl
        · exact tmF_a r _ _ _ _
      · split
        · rw [tmF_a r]; omega
        · exact tmF_a r _ _ _ _
/-- a TRY: the actions of its CATCHes, the last chained to the row's head, the row opened -/
def tyM (f : Nat) (S N : Nat → Int32) (r k a q : Nat) (h : Int32) (x : tm_M) : tm_M := sA (opM q 3 (nI a) (sA (tmF f S N r k 0 a x).2 (0, 0, 12) (48 * f + (a + crF S r k 0) - 1) h)) (0, 0, 20) (q + 1) (nI a)
set_option maxRecDepth 100000 in
theorem ok_Mo_tries {l : Launch} {D : va_G} {aC : Nat → ClassId} {ad : Nat → Nat} {f : Nat} (hf : f < 6) (x : tm_M) {b t a0 q : Nat} {h : Int32} (h20 : t ≤ 20) (hb : b < t) (hq : x.1 (0, 0, 0) 18 = nI q) (hq5 : q < 5) (ha : x.2 (0, 0, 9) f = nI a0) (h40 : a0 + crF (fun j => x.2 (0, 0, 3) (20 * f + j)) (t - (b + 1)) (b + 1) 0 ≤ 40) (hc1 : 0 < crF (fun j => x.2 (0, 0, 3) (20 * f + j)) (t - (b + 1)) (b + 1) 0) (hsc : scF (fun j => x.2 (0, 0, 3) (20 * f + j)) (t - (b + 1)) (b + 1) 0) (hh : x.2 (0, 0, 18) q = h) :
    OkM l y_Mo_tries b_Mo_tries 7 none (rom 1 24) D aC ad [.ref (ad 0), .int (nI f), .int (nI b)] x none (tyM f (fun j => x.2 (0, 0, 3) (20 * f + j)) (fun j => x.2 (0, 0, 4) (20 * f + j)) (t - (b + 1)) (b + 1) a0 q h x) := by
  refine ok_start (by decide) (Nat.le_of_ble_eq_true rfl) rfl ?_
  intro p e s m args below meth c B hr hlk hml
  have B : Cx p s m c args b_Mo_tries R_Mo D aC (rg 30 ad) 30 ad := B
  have hend : (tmF f (fun j => x.2 (0, 0, 3) (20 * f + j)) (fun j => x.2 (0, 0, 4) (20 * f + j)) (t - (b + 1)) (b + 1) 0 a0 x).1 = a0 + crF (fun j => x.2 (0, 0, 3) (20 * f + j)) (t - (b + 1)) (b + 1) 0 := tmF_a _ _ _ _ _
  have fin : ∀ (xm : tm_M) (am : Nat), xm.1 = x.1 → (∀ K, K ≠ (0, 0, 10) → K ≠ (0, 0, 11) → K ≠ (0, 0, 12) → K ≠ (0, 0, 9) → xm.2 K = x.2 K) → xm.2 (0, 0, 9) f = nI am → (am, xm) = tmF f (fun j => x.2 (0, 0, 3) (20 * f + j)) (fun j => x.2 (0, 0, 4) (20 * f + j)) (t - (b + 1)) (b + 1) 0 a0 x → am ≤ 40 → J p l e (rom 1 24) s m args below meth c D (rg 30 ad) 0 0 (MQ below (Qk D aC 30 ad none (wM ad aC (tyM f (fun j => x.2 (0, 0, 3) (20 * f + j)) (fun j => x.2 (0, 0, 4) (20 * f + j)) (t - (b + 1)) (b + 1) a0 q h x))) args s 0 0 (rg 30 ad)) 30 ad (wM ad aC xm) 7 111 [(3, .int (nI a0)), (0, .ref (ad 0)), (1, .int (nI f))] [] := by
    intro xm am h1 h2 hxa hR h40m
    have hae : am = a0 + crF (fun j => x.2 (0, 0, 3) (20 * f + j)) (t - (b + 1)) (b + 1) 0 := by rw [← hend, ← hR]
    have hxe : xm = (tmF f (fun j => x.2 (0, 0, 3) (20 * f + j)) (fun j => x.2 (0, 0, 4) (20 * f + j)) (t - (b + 1)) (b + 1) 0 a0 x).2 := by rw [← hR]
    refine j_aloadn B d_Mo_tries_111 rfl ?_
    refine j_getr B fl_Mo_47 (m_0) rfl d_Mo_tries_112 ?_
    refine j_bipush (v := 48) B d_Mo_tries_115 (by decide) ?_
    refine j_iloadn B d_Mo_tries_117 rfl ?_
    refine j_imul B d_Mo_tries_118 ?_
    refine j_aloadn B d_Mo_tries_119 rfl ?_
    refine j_getr B fl_Mo_38 (m_0) rfl d_Mo_tries_120 ?_
    refine j_iloadn B d_Mo_tries_123 rfl ?_
    refine j_iald B (m_9) (⟨rfl, hf, by decide⟩) d_Mo_tries_124 ?_
    refine j_topi (nI am) hxa ?_
    refine j_iadd B d_Mo_tries_125 ?_
    refine j_iconst (v := 1) B d_Mo_tries_126 (by decide) ?_
    refine j_isub B d_Mo_tries_127 ?_
    refine j_topi (nI (48 * f + am - 1)) (by rw [show (48 : Int32) * nI f + nI am = nI (48 * f + am) from ixm 48 f am]; exact nIp (by omega)) ?_
    refine j_aloadn B d_Mo_tries_128 rfl ?_
    refine j_getr B fl_Mo_65 (m_0) rfl d_Mo_tries_129 ?_
    refine j_aloadn B d_Mo_tries_132 rfl ?_
    refine j_geti B fl_Mo_116 (m_0) rfl d_Mo_tries_133 ?_
    refine j_topi (nI q) (by rw [h1]; exact hq) ?_
    refine j_iald B (m_18) (⟨rfl, by omega, by decide⟩) d_Mo_tries_136 ?_
    refine j_topi h (by rw [h2 _ (by decide) (by decide) (by decide) (by decide)]; exact hh) ?_
    refine j_iast B kM_inj (m_12) (⟨rfl, by omega, by decide⟩) d_Mo_tries_137 ?_
    refine j_aloadn B d_Mo_tries_138 rfl ?_
    refine j_iconst (v := 3) B d_Mo_tries_139 (by decide) ?_
    refine j_iloadn B d_Mo_tries_140 rfl ?_
    refine j_cVt B (ok_Mo_opens (sA xm (0, 0, 12) (48 * f + am - 1) h) 3 (nI a0) (q := q) (by rw [rAI, h1]; exact hq) (by omega)) cv_Mo_opens ml_Mo_131 (m_0) rfl rfl ⟨rfl, rfl, by decide, by decide⟩ ⟨Nat.zero_le _, Nat.zero_le _⟩ hml (Nat.le_of_ble_eq_true rfl) rfl d_Mo_tries_141 ?_
    refine j_aloadn B d_Mo_tries_144 rfl ?_
    refine j_getr B fl_Mo_71 (m_0) rfl d_Mo_tries_145 ?_
    refine j_aloadn B d_Mo_tries_148 rfl ?_
    refine j_geti B fl_Mo_116 (m_0) rfl d_Mo_tries_149 ?_
    refine j_topi (nI (q + 1)) (by unfold opM; rw [rAI, rAI]; exact rI) ?_
    refine j_iloadn B d_Mo_tries_152 rfl ?_
    refine j_iast B kM_inj (m_20) (⟨rfl, by omega, by decide⟩) d_Mo_tries_153 ?_
    exact j_vret B hr hlk d_Mo_tries_154 (rfl) (congrArg (tw ad aC sM kM) (by rw [hxe, hae]; rfl))
  have loop : ∀ (r k d a : Nat) (xk : tm_M), k + r = t → d ≤ k → xk.1 = x.1 → (∀ K, K ≠ (0, 0, 10) → K ≠ (0, 0, 11) → K ≠ (0, 0, 12) → K ≠ (0, 0, 9) → xk.2 K = x.2 K) → xk.2 (0, 0, 9) f = nI a → tmF f (fun j => x.2 (0, 0, 3) (20 * f + j)) (fun j => x.2 (0, 0, 4) (20 * f + j)) r k d a xk = tmF f (fun j => x.2 (0, 0, 3) (20 * f + j)) (fun j => x.2 (0, 0, 4) (20 * f + j)) (t - (b + 1)) (b + 1) 0 a0 x → a + crF (fun j => x.2 (0, 0, 3) (20 * f + j)) r k d ≤ 40 → scF (fun j => x.2 (0, 0, 3) (20 * f + j)) r k d → J p l e (rom 1 24) s m args below meth c D (rg 30 ad) 0 0 (MQ below (Qk D aC 30 ad none (wM ad aC (tyM f (fun j => x.2 (0, 0, 3) (20 * f + j)) (fun j => x.2 (0, 0, 4) (20 * f + j)) (t - (b + 1)) (b + 1) a0 q h x))) args s 0 0 (rg 30 ad)) 30 ad (wM ad aC xk) 7 15 [(5, .int (nI k)), (4, .int (nI (d + 1))), (3, .int (nI a0)), (0, .ref (ad 0)), (1, .int (nI f))] [] := by
    intro r
    induction r with
    | zero =>
      intro k d a xk hk hdk h1 h2 hxa hR hca hsc
      exact hsc.elim
    | succ r ih =>
      intro k d a xk hk hdk h1 h2 hxa hR hca hsc
      refine j_iload B d_Mo_tries_15 rfl ?_
      refine j_if_le (tgt := 111) B d_Mo_tries_17 (by decide) (fun h17 => (show False from absurd (nIle (c := d + 1) (t := 0) h17 (by omega) (by decide)) (by omega)).elim) (fun h17 => ?_)
      refine j_aloadn B d_Mo_tries_20 rfl ?_
      refine j_getr B fl_Mo_20 (m_0) rfl d_Mo_tries_21 ?_
      refine j_bipush (v := 20) B d_Mo_tries_24 (by decide) ?_
      refine j_iloadn B d_Mo_tries_26 rfl ?_
      refine j_imul B d_Mo_tries_27 ?_
      refine j_iload B d_Mo_tries_28 rfl ?_
      refine j_iadd B d_Mo_tries_30 ?_
      refine j_iald B (m_3) (⟨ixm 20 f k, by omega, by decide⟩) d_Mo_tries_31 ?_
      refine j_topi (x.2 (0, 0, 3) (20 * f + k)) (by rw [h2 _ (by decide) (by decide) (by decide) (by decide)]) ?_
      refine j_istore B d_Mo_tries_32 (by decide) ?_
      refine j_iload B d_Mo_tries_34 rfl ?_
      refine j_iload B d_Mo_tries_36 rfl ?_
      refine j_iconst (v := 3) B d_Mo_tries_38 (by decide) ?_
      refine j_icmp_eq (tgt := 49) B d_Mo_tries_39 (by decide) (fun h39 => ?_) (fun h39 => ?_)
      · -- yes
        have e3 : (x.2 (0, 0, 3) (20 * f + k)) = 3 ∨ (x.2 (0, 0, 3) (20 * f + k)) = 6 := Or.inl h39
        have hc : crF (fun j => x.2 (0, 0, 3) (20 * f + j)) (r + 1) k d = crF (fun j => x.2 (0, 0, 3) (20 * f + j)) r (k + 1) (d + 1) := if_pos e3.symm
        have hm : tmF f (fun j => x.2 (0, 0, 3) (20 * f + j)) (fun j => x.2 (0, 0, 4) (20 * f + j)) (r + 1) k d a xk = tmF f (fun j => x.2 (0, 0, 3) (20 * f + j)) (fun j => x.2 (0, 0, 4) (20 * f + j)) r (k + 1) (d + 1) a xk := if_pos e3
        have hs : scF (fun j => x.2 (0, 0, 3) (20 * f + j)) (r + 1) k d = scF (fun j => x.2 (0, 0, 3) (20 * f + j)) r (k + 1) (d + 1) := if_pos e3
        have n4 : ¬ (x.2 (0, 0, 3) (20 * f + k)) = 4 := fun z => e3.elim (fun y => absurd (z.symm.trans y) (by decide)) (fun y => absurd (z.symm.trans y) (by decide))
        refine j_iconst (v := 1) B d_Mo_tries_49 (by decide) ?_
        refine j_goto (tgt := 64) B d_Mo_tries_50 (by decide) ?_
        refine j_iadd B d_Mo_tries_64 ?_
        refine j_topi (nI (d + 1 + 1)) (nI_1 (d + 1)) ?_
        refine j_istore B d_Mo_tries_65 (by decide) ?_
        refine j_iload B d_Mo_tries_67 rfl ?_
        refine j_iconst (v := 4) B d_Mo_tries_69 (by decide) ?_
        refine j_icmp_ne (tgt := 105) B d_Mo_tries_70 (by decide) (fun h70 => ?_) (fun h70 => (show False from n4 h70).elim)
        refine j_iinc B d_Mo_tries_105 rfl (by decide) (nI_1 k) ?_
        refine j_goto (tgt := 15) B d_Mo_tries_108 (by decide) ?_
        refine j_loc [(5, .int (nI (k + 1))), (4, .int (nI ((d + 1) + 1))), (3, .int (nI a0)), (0, .ref (ad 0)), (1, .int (nI f))] ⟨rfl, rfl, rfl, rfl, rfl, trivial⟩ ?_
        exact ih (k + 1) (d + 1) a xk (by omega) (by omega) h1 h2 hxa (by rw [← hm]; exact hR) (by omega) (by rw [← hs]; exact hsc)
      · -- no
        refine j_iload B d_Mo_tries_42 rfl ?_
        refine j_bipush (v := 6) B d_Mo_tries_44 (by decide) ?_
        refine j_icmp_ne (tgt := 53) B d_Mo_tries_46 (by decide) (fun h46 => ?_) (fun h46 => ?_)
        · -- yes
          have e3 : ¬ ((x.2 (0, 0, 3) (20 * f + k)) = 3 ∨ (x.2 (0, 0, 3) (20 * f + k)) = 6) := fun z => z.elim h39 h46
          have e6 : ¬ ((x.2 (0, 0, 3) (20 * f + k)) = 6 ∨ (x.2 (0, 0, 3) (20 * f + k)) = 3) := fun z => e3 z.symm
          refine j_iload B d_Mo_tries_53 rfl ?_
          refine j_iconst (v := 5) B d_Mo_tries_55 (by decide) ?_
          refine j_icmp_ne (tgt := 63) B d_Mo_tries_56 (by decide) (fun h56 => ?_) (fun h56 => ?_)
          · -- yes
            refine j_iconst (v := 0) B d_Mo_tries_63 (by decide) ?_
            refine j_iadd B d_Mo_tries_64 ?_
            refine j_topi (nI (d + 1)) (Int32.add_zero _) ?_
            refine j_istore B d_Mo_tries_65 (by decide) ?_
            refine j_iload B d_Mo_tries_67 rfl ?_
            refine j_iconst (v := 4) B d_Mo_tries_69 (by decide) ?_
            have hs : scF (fun j => x.2 (0, 0, 3) (20 * f + j)) (r + 1) k d = scF (fun j => x.2 (0, 0, 3) (20 * f + j)) r (k + 1) d := (if_neg e3).trans (if_neg h56)
            refine j_icmp_ne (tgt := 105) B d_Mo_tries_70 (by decide) (fun h70 => ?_) (fun h70 => ?_)
            · have hc : crF (fun j => x.2 (0, 0, 3) (20 * f + j)) (r + 1) k d = crF (fun j => x.2 (0, 0, 3) (20 * f + j)) r (k + 1) d := (if_neg e6).trans ((if_neg h56).trans (if_neg (fun z => h70 z.1)))
              have hm : tmF f (fun j => x.2 (0, 0, 3) (20 * f + j)) (fun j => x.2 (0, 0, 4) (20 * f + j)) (r + 1) k d a xk = tmF f (fun j => x.2 (0, 0, 3) (20 * f + j)) (fun j => x.2 (0, 0, 4) (20 * f + j)) r (k + 1) d a xk := (if_neg e3).trans ((if_neg h56).trans (if_neg (fun z => h70 z.1)))
              refine j_iinc B d_Mo_tries_105 rfl (by decide) (nI_1 k) ?_
              refine j_goto (tgt := 15) B d_Mo_tries_108 (by decide) ?_
              refine j_loc [(5, .int (nI (k + 1))), (4, .int (nI (d + 1))), (3, .int (nI a0)), (0, .ref (ad 0)), (1, .int (nI f))] ⟨rfl, rfl, rfl, rfl, rfl, trivial⟩ ?_
              exact ih (k + 1) d a xk (by omega) (by omega) h1 h2 hxa (by rw [← hm]; exact hR) (by omega) (by rw [← hs]; exact hsc)
            · refine j_iload B d_Mo_tries_73 rfl ?_
              refine j_iconst (v := 1) B d_Mo_tries_75 (by decide) ?_
              refine j_icmp_ne (tgt := 105) B d_Mo_tries_76 (by decide) (fun h76 => ?_) (fun h76 => ?_)
              · have hc : crF (fun j => x.2 (0, 0, 3) (20 * f + j)) (r + 1) k d = crF (fun j => x.2 (0, 0, 3) (20 * f + j)) r (k + 1) d := (if_neg e6).trans ((if_neg h56).trans (if_neg (fun z => h76 (by rw [z.2]; rfl))))
                have hm : tmF f (fun j => x.2 (0, 0, 3) (20 * f + j)) (fun j => x.2 (0, 0, 4) (20 * f + j)) (r + 1) k d a xk = tmF f (fun j => x.2 (0, 0, 3) (20 * f + j)) (fun j => x.2 (0, 0, 4) (20 * f + j)) r (k + 1) d a xk := (if_neg e3).trans ((if_neg h56).trans (if_neg (fun z => h76 (by rw [z.2]; rfl))))
                refine j_iinc B d_Mo_tries_105 rfl (by decide) (nI_1 k) ?_
                refine j_goto (tgt := 15) B d_Mo_tries_108 (by decide) ?_
                refine j_loc [(5, .int (nI (k + 1))), (4, .int (nI (d + 1))), (3, .int (nI a0)), (0, .ref (ad 0)), (1, .int (nI f))] ⟨rfl, rfl, rfl, rfl, rfl, trivial⟩ ?_
                exact ih (k + 1) d a xk (by omega) (by omega) h1 h2 hxa (by rw [← hm]; exact hR) (by omega) (by rw [← hs]; exact hsc)
              · have hd : d = 0 := by have := (nI_eq (a := d + 1) (b := 1) (by omega) (by decide)).mp h76; omega
                have hc : crF (fun j => x.2 (0, 0, 3) (20 * f + j)) (r + 1) k d = crF (fun j => x.2 (0, 0, 3) (20 * f + j)) r (k + 1) d + 1 := (if_neg e6).trans ((if_neg h56).trans (if_pos ⟨h70, hd⟩))
                have hm : tmF f (fun j => x.2 (0, 0, 3) (20 * f + j)) (fun j => x.2 (0, 0, 4) (20 * f + j)) (r + 1) k d a xk = tmF f (fun j => x.2 (0, 0, 3) (20 * f + j)) (fun j => x.2 (0, 0, 4) (20 * f + j)) r (k + 1) d (a + 1) (acM f a (x.2 (0, 0, 4) (20 * f + k)) (nI (a + 1)) xk) := (if_neg e3).trans ((if_neg h56).trans (if_pos ⟨h70, hd⟩))
                refine j_aloadn B d_Mo_tries_79 rfl ?_
                refine j_iloadn B d_Mo_tries_80 rfl ?_
                refine j_aloadn B d_Mo_tries_81 rfl ?_
                refine j_getr B fl_Mo_23 (m_0) rfl d_Mo_tries_82 ?_
                refine j_bipush (v := 20) B d_Mo_tries_85 (by decide) ?_
                refine j_iloadn B d_Mo_tries_87 rfl ?_
                refine j_imul B d_Mo_tries_88 ?_
                refine j_iload B d_Mo_tries_89 rfl ?_
                refine j_iadd B d_Mo_tries_91 ?_
                refine j_iald B (m_4) (⟨ixm 20 f k, by omega, by decide⟩) d_Mo_tries_92 ?_
                refine j_topi (x.2 (0, 0, 4) (20 * f + k)) (by rw [h2 _ (by decide) (by decide) (by decide) (by decide)]) ?_
                refine j_aloadn B d_Mo_tries_93 rfl ?_
                refine j_getr B fl_Mo_38 (m_0) rfl d_Mo_tries_94 ?_
                refine j_iloadn B d_Mo_tries_97 rfl ?_
                refine j_iald B (m_9) (⟨rfl, hf, by decide⟩) d_Mo_tries_98 ?_
                refine j_iconst (v := 1) B d_Mo_tries_99 (by decide) ?_
                refine j_iadd B d_Mo_tries_100 ?_
                refine j_topi (nI (a + 1)) (by rw [hxa, nI_1]) ?_
                refine j_cVt B (ok_Mo_newAction hf xk (x.2 (0, 0, 4) (20 * f + k)) (nI (a + 1)) (a := a) hxa (by omega)) cv_Mo_newAction ml_Mo_127 (m_0) rfl rfl ⟨rfl, rfl, by decide, by decide⟩ ⟨Nat.zero_le _, Nat.zero_le _⟩ hml (Nat.le_of_ble_eq_true rfl) rfl d_Mo_tries_101 ?_
                refine j_pop B d_Mo_tries_104 rfl ?_
                refine j_iinc B d_Mo_tries_105 rfl (by decide) (nI_1 k) ?_
                refine j_goto (tgt := 15) B d_Mo_tries_108 (by decide) ?_
                refine j_loc [(5, .int (nI (k + 1))), (4, .int (nI (d + 1))), (3, .int (nI a0)), (0, .ref (ad 0)), (1, .int (nI f))] ⟨rfl, rfl, rfl, rfl, rfl, trivial⟩ ?_
                exact ih (k + 1) d (a + 1) (acM f a (x.2 (0, 0, 4) (20 * f + k)) (nI (a + 1)) xk) (by omega) (by omega) h1 (fun K k1 k2 k3 k4 => by rw [← h2 K k1 k2 k3 k4]; unfold acM; rw [rAK k4, rAK k3, rAK k2, rAK k1]) rA (by rw [← hm]; exact hR) (by omega) (by rw [← hs]; exact hsc)
          · -- no
            have n4 : ¬ (x.2 (0, 0, 3) (20 * f + k)) = 4 := fun z => absurd (z.symm.trans h56) (by decide)
            refine j_iconst (v := (-1)) B d_Mo_tries_59 (by decide) ?_
            refine j_goto (tgt := 64) B d_Mo_tries_60 (by decide) ?_
            refine j_iadd B d_Mo_tries_64 ?_
            by_cases hd : d = 0
            · have hc : crF (fun j => x.2 (0, 0, 3) (20 * f + j)) (r + 1) k d = 0 := (if_neg e6).trans ((if_pos h56).trans (if_pos hd))
              have hm : tmF f (fun j => x.2 (0, 0, 3) (20 * f + j)) (fun j => x.2 (0, 0, 4) (20 * f + j)) (r + 1) k d a xk = (a, xk) := (if_neg e3).trans ((if_pos h56).trans (if_pos hd))
              refine j_topi 0 (by rw [hd]; decide) ?_
              refine j_istore B d_Mo_tries_65 (by decide) ?_
              refine j_iload B d_Mo_tries_67 rfl ?_
              refine j_iconst (v := 4) B d_Mo_tries_69 (by decide) ?_
              refine j_icmp_ne (tgt := 105) B d_Mo_tries_70 (by decide) (fun h70 => ?_) (fun h70 => (show False from n4 h70).elim)
              refine j_iinc B d_Mo_tries_105 rfl (by decide) (nI_1 k) ?_
              refine j_goto (tgt := 15) B d_Mo_tries_108 (by decide) ?_
              refine j_iload B d_Mo_tries_15 rfl ?_
              refine j_if_le (tgt := 111) B d_Mo_tries_17 (by decide) (fun h17 => ?_) (fun h17 => (show False from h17 (by decide)).elim)
              refine j_loc [(3, .int (nI a0)), (0, .ref (ad 0)), (1, .int (nI f))] ⟨rfl, rfl, rfl, trivial⟩ ?_
              exact fin _ _ h1 h2 hxa (hm ▸ hR) (by omega)
            · have hc : crF (fun j => x.2 (0, 0, 3) (20 * f + j)) (r + 1) k d = crF (fun j => x.2 (0, 0, 3) (20 * f + j)) r (k + 1) (d - 1) := (if_neg e6).trans ((if_pos h56).trans (if_neg hd))
              have hm : tmF f (fun j => x.2 (0, 0, 3) (20 * f + j)) (fun j => x.2 (0, 0, 4) (20 * f + j)) (r + 1) k d a xk = tmF f (fun j => x.2 (0, 0, 3) (20 * f + j)) (fun j => x.2 (0, 0, 4) (20 * f + j)) r (k + 1) (d - 1) a xk := (if_neg e3).trans ((if_pos h56).trans (if_neg hd))
              have hs : scF (fun j => x.2 (0, 0, 3) (20 * f + j)) (r + 1) k d = scF (fun j => x.2 (0, 0, 3) (20 * f + j)) r (k + 1) (d - 1) := (if_neg e3).trans ((if_pos h56).trans (if_neg hd))
              refine j_topi (nI (d - 1 + 1)) (by rw [show d + 1 = (d - 1 + 1) + 1 by omega]; exact pk_m1 (d - 1 + 1)) ?_
              refine j_istore B d_Mo_tries_65 (by decide) ?_
              refine j_iload B d_Mo_tries_67 rfl ?_
              refine j_iconst (v := 4) B d_Mo_tries_69 (by decide) ?_
              refine j_icmp_ne (tgt := 105) B d_Mo_tries_70 (by decide) (fun h70 => ?_) (fun h70 => (show False from n4 h70).elim)
              refine j_iinc B d_Mo_tries_105 rfl (by decide) (nI_1 k) ?_
              refine j_goto (tgt := 15) B d_Mo_tries_108 (by decide) ?_
              refine j_loc [(5, .int (nI (k + 1))), (4, .int (nI ((d - 1) + 1))), (3, .int (nI a0)), (0, .ref (ad 0)), (1, .int (nI f))] ⟨rfl, rfl, rfl, rfl, rfl, trivial⟩ ?_
              exact ih (k + 1) (d - 1) a xk (by omega) (by omega) h1 h2 hxa (by rw [← hm]; exact hR) (by omega) (by rw [← hs]; exact hsc)
        · -- no
          have e3 : (x.2 (0, 0, 3) (20 * f + k)) = 3 ∨ (x.2 (0, 0, 3) (20 * f + k)) = 6 := Or.inr h46
          have hc : crF (fun j => x.2 (0, 0, 3) (20 * f + j)) (r + 1) k d = crF (fun j => x.2 (0, 0, 3) (20 * f + j)) r (k + 1) (d + 1) := if_pos e3.symm
          have hm : tmF f (fun j => x.2 (0, 0, 3) (20 * f + j)) (fun j => x.2 (0, 0, 4) (20 * f + j)) (r + 1) k d a xk = tmF f (fun j => x.2 (0, 0, 3) (20 * f + j)) (fun j => x.2 (0, 0, 4) (20 * f + j)) r (k + 1) (d + 1) a xk := if_pos e3
          have hs : scF (fun j => x.2 (0, 0, 3) (20 * f + j)) (r + 1) k d = scF (fun j => x.2 (0, 0, 3) (20 * f + j)) r (k + 1) (d + 1) := if_pos e3
          have n4 : ¬ (x.2 (0, 0, 3) (20 * f + k)) = 4 := fun z => e3.elim (fun y => absurd (z.symm.trans y) (by decide)) (fun y => absurd (z.symm.trans y) (by decide))
          refine j_iconst (v := 1) B d_Mo_tries_49 (by decide) ?_
          refine j_goto (tgt := 64) B d_Mo_tries_50 (by decide) ?_
          refine j_iadd B d_Mo_tries_64 ?_
          refine j_topi (nI (d + 1 + 1)) (nI_1 (d + 1)) ?_
          refine j_istore B d_Mo_tries_65 (by decide) ?_
          refine j_iload B d_Mo_tries_67 rfl ?_
          refine j_iconst (v := 4) B d_Mo_tries_69 (by decide) ?_
          refine j_icmp_ne (tgt := 105) B d_Mo_tries_70 (by decide) (fun h70 => ?_) (fun h70 => (show False from n4 h70).elim)
          refine j_iinc B d_Mo_tries_105 rfl (by decide) (nI_1 k) ?_
          refine j_goto (tgt := 15) B d_Mo_tries_108 (by decide) ?_
          refine j_loc [(5, .int (nI (k + 1))), (4, .int (nI ((d + 1) + 1))), (3, .int (nI a0)), (0, .ref (ad 0)), (1, .int (nI f))] ⟨rfl, rfl, rfl, rfl, rfl, trivial⟩ ?_
          exact ih (k + 1) (d + 1) a xk (by omega) (by omega) h1 h2 hxa (by rw [← hm]; exact hR) (by omega) (by rw [← hs]; exact hsc)
  refine j_aloadn B d_Mo_tries_0 rfl ?_
  refine j_getr B fl_Mo_38 (m_0) rfl d_Mo_tries_1 ?_
  refine j_iloadn B d_Mo_tries_4 rfl ?_
  refine j_iald B (m_9) (⟨rfl, hf, by decide⟩) d_Mo_tries_5 ?_
  refine j_topi (nI a0) ha ?_
  refine j_istoren B d_Mo_tries_6 (by decide) ?_
  refine j_iconst (v := 1) B d_Mo_tries_7 (by decide) ?_
  refine j_istore B d_Mo_tries_8 (by decide) ?_
  refine j_iloadn B d_Mo_tries_10 rfl ?_
  refine j_iconst (v := 1) B d_Mo_tries_11 (by decide) ?_
  refine j_iadd B d_Mo_tries_12 ?_
  refine j_topi (nI (b + 1)) (nI_1 b) ?_
  refine j_istore B d_Mo_tries_13 (by decide) ?_
  refine j_loc [(5, .int (nI (b + 1))), (4, .int (nI (0 + 1))), (3, .int (nI a0)), (0, .ref (ad 0)), (1, .int (nI f))] ⟨rfl, rfl, rfl, rfl, rfl, trivial⟩ ?_
  exact loop (t - (b + 1)) (b + 1) 0 a0 x (by omega) (by omega) rfl (fun _ _ _ _ _ => rfl) ha rfl h40 hsc
