/-- the sites of the first k instructions: how many, and the memory -/
def csF (f : Nat) (x : tm_M) : Nat → Nat × tm_M
  | 0 => (0, sA x (0, 0, 13) f 0)
  | k + 1 => if x.2 (0, 0, 6) (128 * f + k) = 1 ∨ x.2 (0, 0, 6) (128 * f + k) = 2 ∨ x.2 (0, 0, 6) (128 * f + k) = 3 then
      (if 0 < (csF f x k).1 ∧ (csF f x k).2.2 (0, 0, 16) (64 * f + (csF f x k).1 - 1) = x.2 (0, 0, 8) (128 * f + k) then ((csF f x k).1, sA (csF f x k).2 (0, 0, 15) (64 * f + (csF f x k).1 - 1) (nI k))
       else ((csF f x k).1 + 1, sA (sA (sA (sA (csF f x k).2 (0, 0, 14) (64 * f + (csF f x k).1) (nI k)) (0, 0, 15) (64 * f + (csF f x k).1) (nI k)) (0, 0, 16) (64 * f + (csF f x k).1) (x.2 (0, 0, 8) (128 * f + k))) (0, 0, 13) f (nI ((csF f x k).1 + 1))))
    else csF f x k
theorem csF_2 {f : Nat} {x : tm_M} {K : tm_K} (h1 : K ≠ (0, 0, 13)) (h2 : K ≠ (0, 0, 14)) (h3 : K ≠ (0, 0, 15)) (h4 : K ≠ (0, 0, 16)) : ∀ k, (csF f x k).2.2 K = x.2 K
  | 0 => by unfold csF; rw [rAK h1]
  | k + 1 => by
    unfold csF
    split
    · split
      · rw [rAK h3]; exact csF_2 h1 h2 h3 h4 k
      · rw [rAK h1, rAK h4, rAK h3, rAK h2]; exact csF_2 h1 h2 h3 h4 k
    · exact csF_2 h1 h2 h3 h4 k
theorem csF_1 {f : Nat} {x : tm_M} : ∀ k, (csF f x k).2.1 = x.1
  | 0 => rfl
  | k + 1 => by
    unfold csF
    split
    · split
      · rw [rAI]; exact csF_1 k
      · rw [rAI, rAI, rAI, rAI]; exact csF_1 k
    · exact csF_1 k
theorem csF_s {f : Nat} {x : tm_M} : ∀ k, (csF f x k).2.2 (0, 0, 13) f = nI (csF f x k).1
  | 0 => by unfold csF; rw [rA]; rfl
  | k + 1 => by
    unfold csF
    split
    · split
      · rw [rAK (by decide)]; exact csF_s k
      · rw [rA]
    · exact csF_s k
set_option maxRecDepth 100000 in
theorem ok_Mo_collectSites {l : Launch} {D : va_G} {aC : Nat → ClassId} {ad : Nat → Nat} {f : Nat} (hf : f < 6) (x : tm_M) {n : Nat} (hn : x.2 (0, 0, 5) f = nI n) (h128 : n ≤ 128) (hs : ∀ k, k < n → (csF f x k).1 < 64) :
    OkM l y_Mo_collectSites b_Mo_collectSites 5 none (rom 0 0) D aC ad [.ref (ad 0), .int (nI f)] x none (csF f x n).2 := by
  refine ok_start (by decide) (Nat.le_of_ble_eq_true rfl) rfl ?_
  intro p e s m args below meth c B hr hlk hml
  have B : Cx p s m c args b_Mo_collectSites R_Mo D aC (rg 30 ad) 30 ad := B
  have loop : ∀ (r k : Nat), k + r = n → J p l e (rom 0 0) s m args below meth c D (rg 30 ad) 0 0 (MQ below (Qk D aC 30 ad none (wM ad aC (csF f x n).2)) args s 0 0 (rg 30 ad)) 30 ad (wM ad aC (csF f x k).2) 5 9 [(2, .int (nI k)), (0, .ref (ad 0)), (1, .int (nI f))] [] := by
    intro r
    induction r with
    | zero =>
      intro k hk
      refine j_iloadn B d_Mo_collectSites_9 rfl ?_
      refine j_aloadn B d_Mo_collectSites_10 rfl ?_
      refine j_getr B fl_Mo_26 (m_0) rfl d_Mo_collectSites_11 ?_
      refine j_iloadn B d_Mo_collectSites_14 rfl ?_
      refine j_iald B (m_5) (⟨rfl, hf, by decide⟩) d_Mo_collectSites_15 ?_
      refine j_topi (nI n) (by rw [csF_2 (by decide) (by decide) (by decide) (by decide)]; exact hn) ?_
      refine j_icmp_ge (tgt := 155) B d_Mo_collectSites_16 (by decide) (fun h16 => ?_) (fun h16 => (show False from h16 (nI_le (by omega) (by omega))).elim)
      exact j_vret B hr hlk d_Mo_collectSites_155 (rfl) (by rw [show k = n by omega])
    | succ r ih =>
      intro k hk
      have h64 := hs k (by omega)
      refine j_iloadn B d_Mo_collectSites_9 rfl ?_
      refine j_aloadn B d_Mo_collectSites_10 rfl ?_
      refine j_getr B fl_Mo_26 (m_0) rfl d_Mo_collectSites_11 ?_
      refine j_iloadn B d_Mo_collectSites_14 rfl ?_
      refine j_iald B (m_5) (⟨rfl, hf, by decide⟩) d_Mo_collectSites_15 ?_
      refine j_topi (nI n) (by rw [csF_2 (by decide) (by decide) (by decide) (by decide)]; exact hn) ?_
      refine j_icmp_ge (tgt := 155) B d_Mo_collectSites_16 (by decide) (fun h16 => (show False from absurd (nIle h16 (by omega) (by omega)) (by omega)).elim) (fun h16 => ?_)
      refine j_sipush (v := 128) B d_Mo_collectSites_19 (by decide) ?_
      refine j_iloadn B d_Mo_collectSites_22 rfl ?_
      refine j_imul B d_Mo_collectSites_23 ?_
      refine j_iloadn B d_Mo_collectSites_24 rfl ?_
      refine j_iadd B d_Mo_collectSites_25 ?_
      refine j_topi (nI (128 * f + k)) (ixm 128 f k) ?_
      refine j_istoren B d_Mo_collectSites_26 (by decide) ?_
      refine j_aloadn B d_Mo_collectSites_27 rfl ?_
      refine j_getr B fl_Mo_29 (m_0) rfl d_Mo_collectSites_28 ?_
      refine j_iloadn B d_Mo_collectSites_31 rfl ?_
      refine j_iald B (m_6) (⟨rfl, by omega, by decide⟩) d_Mo_collectSites_32 ?_
      refine j_topi (x.2 (0, 0, 6) (128 * f + k)) (by rw [csF_2 (by decide) (by decide) (by decide) (by decide)]) ?_
      refine j_iconst (v := 1) B d_Mo_collectSites_33 (by decide) ?_
      refine j_icmp_eq (tgt := 57) B d_Mo_collectSites_34 (by decide) (fun h34 => ?_) (fun h34 => ?_)
      · -- yes
        have hi : (x.2 (0, 0, 6) (128 * f + k) = 1 ∨ x.2 (0, 0, 6) (128 * f + k) = 2 ∨ x.2 (0, 0, 6) (128 * f + k) = 3) := Or.inl h34
        refine j_bipush (v := 64) B d_Mo_collectSites_57 (by decide) ?_
        refine j_iloadn B d_Mo_collectSites_59 rfl ?_
        refine j_imul B d_Mo_collectSites_60 ?_
        refine j_aloadn B d_Mo_collectSites_61 rfl ?_
        refine j_getr B fl_Mo_50 (m_0) rfl d_Mo_collectSites_62 ?_
        refine j_iloadn B d_Mo_collectSites_65 rfl ?_
        refine j_iald B (m_13) (⟨rfl, hf, by decide⟩) d_Mo_collectSites_66 ?_
        refine j_topi (nI (csF f x k).1) (csF_s k) ?_
        refine j_iadd B d_Mo_collectSites_67 ?_
        refine j_topi (nI (64 * f + (csF f x k).1)) (ixm 64 f (csF f x k).1) ?_
        refine j_istore B d_Mo_collectSites_68 (by decide) ?_
        refine j_aloadn B d_Mo_collectSites_70 rfl ?_
        refine j_getr B fl_Mo_50 (m_0) rfl d_Mo_collectSites_71 ?_
        refine j_iloadn B d_Mo_collectSites_74 rfl ?_
        refine j_iald B (m_13) (⟨rfl, hf, by decide⟩) d_Mo_collectSites_75 ?_
        refine j_topi (nI (csF f x k).1) (csF_s k) ?_
        refine j_if_le (tgt := 110) B d_Mo_collectSites_76 (by decide) (fun h76 => ?_) (fun h76 => ?_)
        · -- yes
          have hs0 : ¬ 0 < (csF f x k).1 := fun z => absurd (nIle (t := 0) h76 (by omega) (by decide)) (by omega)
          refine j_aloadn B d_Mo_collectSites_110 rfl ?_
          refine j_getr B fl_Mo_53 (m_0) rfl d_Mo_collectSites_111 ?_
          refine j_iload B d_Mo_collectSites_114 rfl ?_
          refine j_iloadn B d_Mo_collectSites_116 rfl ?_
          refine j_iast B kM_inj (m_14) (⟨rfl, by omega, by decide⟩) d_Mo_collectSites_117 ?_
          refine j_aloadn B d_Mo_collectSites_118 rfl ?_
          refine j_getr B fl_Mo_56 (m_0) rfl d_Mo_collectSites_119 ?_
          refine j_iload B d_Mo_collectSites_122 rfl ?_
          refine j_iloadn B d_Mo_collectSites_124 rfl ?_
          refine j_iast B kM_inj (m_15) (⟨rfl, by omega, by decide⟩) d_Mo_collectSites_125 ?_
          refine j_aloadn B d_Mo_collectSites_126 rfl ?_
          refine j_getr B fl_Mo_59 (m_0) rfl d_Mo_collectSites_127 ?_
          refine j_iload B d_Mo_collectSites_130 rfl ?_
          refine j_aloadn B d_Mo_collectSites_132 rfl ?_
          refine j_getr B fl_Mo_35 (m_0) rfl d_Mo_collectSites_133 ?_
          refine j_iloadn B d_Mo_collectSites_136 rfl ?_
          refine j_iald B (m_8) (⟨rfl, by omega, by decide⟩) d_Mo_collectSites_137 ?_
          refine j_topi (x.2 (0, 0, 8) (128 * f + k)) (by rw [rAK (by decide), rAK (by decide), csF_2 (by decide) (by decide) (by decide) (by decide)]) ?_
          refine j_iast B kM_inj (m_16) (⟨rfl, by omega, by decide⟩) d_Mo_collectSites_138 ?_
          refine j_aloadn B d_Mo_collectSites_139 rfl ?_
          refine j_getr B fl_Mo_50 (m_0) rfl d_Mo_collectSites_140 ?_
          refine j_iloadn B d_Mo_collectSites_143 rfl ?_
          refine j_dup2 B d_Mo_collectSites_144 rfl rfl ?_
          refine j_iald B (m_13) (⟨rfl, hf, by decide⟩) d_Mo_collectSites_145 ?_
          refine j_iconst (v := 1) B d_Mo_collectSites_146 (by decide) ?_
          refine j_iadd B d_Mo_collectSites_147 ?_
          refine j_topi (nI ((csF f x k).1 + 1)) (by rw [rAK (by decide), rAK (by decide), rAK (by decide), csF_s, nI_1]) ?_
          refine j_iast B kM_inj (m_13) (⟨rfl, hf, by decide⟩) d_Mo_collectSites_148 ?_
          refine j_iinc B d_Mo_collectSites_149 rfl (by decide) (nI_1 k) ?_
          refine j_goto (tgt := 9) B d_Mo_collectSites_152 (by decide) ?_
          refine j_x (csF f x (k + 1)).2 (by first | (rw [show csF f x (k + 1) = _ from if_neg (fun z => z.elim h34 (fun y => y.elim h44 h54))]; done) | (rw [show csF f x (k + 1) = _ from (if_pos hi).trans (if_pos ⟨hs0, h94⟩)]; done) | (rw [show csF f x (k + 1) = _ from (if_pos hi).trans (if_neg (fun z => hs0 z.1))]; done) | (rw [show csF f x (k + 1) = _ from (if_pos hi).trans (if_neg (fun z => h94 z.2))]; done)) ?_
          refine j_loc [(2, .int (nI (k + 1))), (0, .ref (ad 0)), (1, .int (nI f))] ⟨rfl, rfl, rfl, trivial⟩ ?_
          exact ih (k + 1) (by omega)
        · -- no
          have hs0 : 0 < (csF f x k).1 := Nat.pos_of_ne_zero (fun z => h76 (by rw [z]; decide))
          refine j_aloadn B d_Mo_collectSites_79 rfl ?_
          refine j_getr B fl_Mo_59 (m_0) rfl d_Mo_collectSites_80 ?_
          refine j_iload B d_Mo_collectSites_83 rfl ?_
          refine j_iconst (v := 1) B d_Mo_collectSites_85 (by decide) ?_
          refine j_isub B d_Mo_collectSites_86 ?_
          refine j_iald B (m_16) (⟨nIp (by omega), by omega, by decide⟩) d_Mo_collectSites_87 ?_
          refine j_aloadn B d_Mo_collectSites_88 rfl ?_
          refine j_getr B fl_Mo_35 (m_0) rfl d_Mo_collectSites_89 ?_
          refine j_iloadn B d_Mo_collectSites_92 rfl ?_
          refine j_iald B (m_8) (⟨rfl, by omega, by decide⟩) d_Mo_collectSites_93 ?_
          refine j_topi (x.2 (0, 0, 8) (128 * f + k)) (by rw [csF_2 (by decide) (by decide) (by decide) (by decide)]) ?_
          refine j_icmp_ne (tgt := 110) B d_Mo_collectSites_94 (by decide) (fun h94 => ?_) (fun h94 => ?_)
          · -- yes
            refine j_aloadn B d_Mo_collectSites_110 rfl ?_
            refine j_getr B fl_Mo_53 (m_0) rfl d_Mo_collectSites_111 ?_
            refine j_iload B d_Mo_collectSites_114 rfl ?_
            refine j_iloadn B d_Mo_collectSites_116 rfl ?_
            refine j_iast B kM_inj (m_14) (⟨rfl, by omega, by decide⟩) d_Mo_collectSites_117 ?_
            refine j_aloadn B d_Mo_collectSites_118 rfl ?_
            refine j_getr B fl_Mo_56 (m_0) rfl d_Mo_collectSites_119 ?_
            refine j_iload B d_Mo_collectSites_122 rfl ?_
            refine j_iloadn B d_Mo_collectSites_124 rfl ?_
            refine j_iast B kM_inj (m_15) (⟨rfl, by omega, by decide⟩) d_Mo_collectSites_125 ?_
            refine j_aloadn B d_Mo_collectSites_126 rfl ?_
            refine j_getr B fl_Mo_59 (m_0) rfl d_Mo_collectSites_127 ?_
            refine j_iload B d_Mo_collectSites_130 rfl ?_
            refine j_aloadn B d_Mo_collectSites_132 rfl ?_
            refine j_getr B fl_Mo_35 (m_0) rfl d_Mo_collectSites_133 ?_
            refine j_iloadn B d_Mo_collectSites_136 rfl ?_
            refine j_iald B (m_8) (⟨rfl, by omega, by decide⟩) d_Mo_collectSites_137 ?_
            refine j_topi (x.2 (0, 0, 8) (128 * f + k)) (by rw [rAK (by decide), rAK (by decide), csF_2 (by decide) (by decide) (by decide) (by decide)]) ?_
            refine j_iast B kM_inj (m_16) (⟨rfl, by omega, by decide⟩) d_Mo_collectSites_138 ?_
            refine j_aloadn B d_Mo_collectSites_139 rfl ?_
            refine j_getr B fl_Mo_50 (m_0) rfl d_Mo_collectSites_140 ?_
            refine j_iloadn B d_Mo_collectSites_143 rfl ?_
            refine j_dup2 B d_Mo_collectSites_144 rfl rfl ?_
            refine j_iald B (m_13) (⟨rfl, hf, by decide⟩) d_Mo_collectSites_145 ?_
            refine j_iconst (v := 1) B d_Mo_collectSites_146 (by decide) ?_
            refine j_iadd B d_Mo_collectSites_147 ?_
            refine j_topi (nI ((csF f x k).1 + 1)) (by rw [rAK (by decide), rAK (by decide), rAK (by decide), csF_s, nI_1]) ?_
            refine j_iast B kM_inj (m_13) (⟨rfl, hf, by decide⟩) d_Mo_collectSites_148 ?_
            refine j_iinc B d_Mo_collectSites_149 rfl (by decide) (nI_1 k) ?_
            refine j_goto (tgt := 9) B d_Mo_collectSites_152 (by decide) ?_
            refine j_x (csF f x (k + 1)).2 (by first | (rw [show csF f x (k + 1) = _ from if_neg (fun z => z.elim h34 (fun y => y.elim h44 h54))]; done) | (rw [show csF f x (k + 1) = _ from (if_pos hi).trans (if_pos ⟨hs0, h94⟩)]; done) | (rw [show csF f x (k + 1) = _ from (if_pos hi).trans (if_neg (fun z => hs0 z.1))]; done) | (rw [show csF f x (k + 1) = _ from (if_pos hi).trans (if_neg (fun z => h94 z.2))]; done)) ?_
            refine j_loc [(2, .int (nI (k + 1))), (0, .ref (ad 0)), (1, .int (nI f))] ⟨rfl, rfl, rfl, trivial⟩ ?_
            exact ih (k + 1) (by omega)
          · -- no
            refine j_aloadn B d_Mo_collectSites_97 rfl ?_
            refine j_getr B fl_Mo_56 (m_0) rfl d_Mo_collectSites_98 ?_
            refine j_iload B d_Mo_collectSites_101 rfl ?_
            refine j_iconst (v := 1) B d_Mo_collectSites_103 (by decide) ?_
            refine j_isub B d_Mo_collectSites_104 ?_
            refine j_iloadn B d_Mo_collectSites_105 rfl ?_
            refine j_iast B kM_inj (m_15) (⟨nIp (by omega), by omega, by decide⟩) d_Mo_collectSites_106 ?_
            refine j_goto (tgt := 149) B d_Mo_collectSites_107 (by decide) ?_
            refine j_iinc B d_Mo_collectSites_149 rfl (by decide) (nI_1 k) ?_
            refine j_goto (tgt := 9) B d_Mo_collectSites_152 (by decide) ?_
            refine j_x (csF f x (k + 1)).2 (by first | (rw [show csF f x (k + 1) = _ from if_neg (fun z => z.elim h34 (fun y => y.elim h44 h54))]; done) | (rw [show csF f x (k + 1) = _ from (if_pos hi).trans (if_pos ⟨hs0, h94⟩)]; done) | (rw [show csF f x (k + 1) = _ from (if_pos hi).trans (if_neg (fun z => hs0 z.1))]; done) | (rw [show csF f x (k + 1) = _ from (if_pos hi).trans (if_neg (fun z => h94 z.2))]; done)) ?_
            refine j_loc [(2, .int (nI (k + 1))), (0, .ref (ad 0)), (1, .int (nI f))] ⟨rfl, rfl, rfl, trivial⟩ ?_
            exact ih (k + 1) (by omega)
      · -- no
        refine j_aloadn B d_Mo_collectSites_37 rfl ?_
        refine j_getr B fl_Mo_29 (m_0) rfl d_Mo_collectSites_38 ?_
        refine j_iloadn B d_Mo_collectSites_41 rfl ?_
        refine j_iald B (m_6) (⟨rfl, by omega, by decide⟩) d_Mo_collectSites_42 ?_
        refine j_topi (x.2 (0, 0, 6) (128 * f + k)) (by rw [csF_2 (by decide) (by decide) (by decide) (by decide)]) ?_
        refine j_iconst (v := 2) B d_Mo_collectSites_43 (by decide) ?_
        refine j_icmp_eq (tgt := 57) B d_Mo_collectSites_44 (by decide) (fun h44 => ?_) (fun h44 => ?_)
        · -- yes
          have hi : (x.2 (0, 0, 6) (128 * f + k) = 1 ∨ x.2 (0, 0, 6) (128 * f + k) = 2 ∨ x.2 (0, 0, 6) (128 * f + k) = 3) := Or.inr (Or.inl h44)
          refine j_bipush (v := 64) B d_Mo_collectSites_57 (by decide) ?_
          refine j_iloadn B d_Mo_collectSites_59 rfl ?_
          refine j_imul B d_Mo_collectSites_60 ?_
          refine j_aloadn B d_Mo_collectSites_61 rfl ?_
          refine j_getr B fl_Mo_50 (m_0) rfl d_Mo_collectSites_62 ?_
          refine j_iloadn B d_Mo_collectSites_65 rfl ?_
          refine j_iald B (m_13) (⟨rfl, hf, by decide⟩) d_Mo_collectSites_66 ?_
          refine j_topi (nI (csF f x k).1) (csF_s k) ?_
          refine j_iadd B d_Mo_collectSites_67 ?_
          refine j_topi (nI (64 * f + (csF f x k).1)) (ixm 64 f (csF f x k).1) ?_
          refine j_istore B d_Mo_collectSites_68 (by decide) ?_
          refine j_aloadn B d_Mo_collectSites_70 rfl ?_
          refine j_getr B fl_Mo_50 (m_0) rfl d_Mo_collectSites_71 ?_
          refine j_iloadn B d_Mo_collectSites_74 rfl ?_
          refine j_iald B (m_13) (⟨rfl, hf, by decide⟩) d_Mo_collectSites_75 ?_
          refine j_topi (nI (csF f x k).1) (csF_s k) ?_
          refine j_if_le (tgt := 110) B d_Mo_collectSites_76 (by decide) (fun h76 => ?_) (fun h76 => ?_)
          · -- yes
            have hs0 : ¬ 0 < (csF f x k).1 := fun z => absurd (nIle (t := 0) h76 (by omega) (by decide)) (by omega)
            refine j_aloadn B d_Mo_collectSites_110 rfl ?_
            refine j_getr B fl_Mo_53 (m_0) rfl d_Mo_collectSites_111 ?_
            refine j_iload B d_Mo_collectSites_114 rfl ?_
            refine j_iloadn B d_Mo_collectSites_116 rfl ?_
            refine j_iast B kM_inj (m_14) (⟨rfl, by omega, by decide⟩) d_Mo_collectSites_117 ?_
            refine j_aloadn B d_Mo_collectSites_118 rfl ?_
            refine j_getr B fl_Mo_56 (m_0) rfl d_Mo_collectSites_119 ?_
            refine j_iload B d_Mo_collectSites_122 rfl ?_
            refine j_iloadn B d_Mo_collectSites_124 rfl ?_
            refine j_iast B kM_inj (m_15) (⟨rfl, by omega, by decide⟩) d_Mo_collectSites_125 ?_
            refine j_aloadn B d_Mo_collectSites_126 rfl ?_
            refine j_getr B fl_Mo_59 (m_0) rfl d_Mo_collectSites_127 ?_
            refine j_iload B d_Mo_collectSites_130 rfl ?_
            refine j_aloadn B d_Mo_collectSites_132 rfl ?_
            refine j_getr B fl_Mo_35 (m_0) rfl d_Mo_collectSites_133 ?_
            refine j_iloadn B d_Mo_collectSites_136 rfl ?_
            refine j_iald B (m_8) (⟨rfl, by omega, by decide⟩) d_Mo_collectSites_137 ?_
            refine j_topi (x.2 (0, 0, 8) (128 * f + k)) (by rw [rAK (by decide), rAK (by decide), csF_2 (by decide) (by decide) (by decide) (by decide)]) ?_
            refine j_iast B kM_inj (m_16) (⟨rfl, by omega, by decide⟩) d_Mo_collectSites_138 ?_
            refine j_aloadn B d_Mo_collectSites_139 rfl ?_
            refine j_getr B fl_Mo_50 (m_0) rfl d_Mo_collectSites_140 ?_
            refine j_iloadn B d_Mo_collectSites_143 rfl ?_
            refine j_dup2 B d_Mo_collectSites_144 rfl rfl ?_
            refine j_iald B (m_13) (⟨rfl, hf, by decide⟩) d_Mo_collectSites_145 ?_
            refine j_iconst (v := 1) B d_Mo_collectSites_146 (by decide) ?_
            refine j_iadd B d_Mo_collectSites_147 ?_
            refine j_topi (nI ((csF f x k).1 + 1)) (by rw [rAK (by decide), rAK (by decide), rAK (by decide), csF_s, nI_1]) ?_
            refine j_iast B kM_inj (m_13) (⟨rfl, hf, by decide⟩) d_Mo_collectSites_148 ?_
            refine j_iinc B d_Mo_collectSites_149 rfl (by decide) (nI_1 k) ?_
            refine j_goto (tgt := 9) B d_Mo_collectSites_152 (by decide) ?_
            refine j_x (csF f x (k + 1)).2 (by first | (rw [show csF f x (k + 1) = _ from if_neg (fun z => z.elim h34 (fun y => y.elim h44 h54))]; done) | (rw [show csF f x (k + 1) = _ from (if_pos hi).trans (if_pos ⟨hs0, h94⟩)]; done) | (rw [show csF f x (k + 1) = _ from (if_pos hi).trans (if_neg (fun z => hs0 z.1))]; done) | (rw [show csF f x (k + 1) = _ from (if_pos hi).trans (if_neg (fun z => h94 z.2))]; done)) ?_
            refine j_loc [(2, .int (nI (k + 1))), (0, .ref (ad 0)), (1, .int (nI f))] ⟨rfl, rfl, rfl, trivial⟩ ?_
            exact ih (k + 1) (by omega)
          · -- no
            have hs0 : 0 < (csF f x k).1 := Nat.pos_of_ne_zero (fun z => h76 (by rw [z]; decide))
            refine j_aloadn B d_Mo_collectSites_79 rfl ?_
            refine j_getr B fl_Mo_59 (m_0) rfl d_Mo_collectSites_80 ?_
            refine j_iload B d_Mo_collectSites_83 rfl ?_
            refine j_iconst (v := 1) B d_Mo_collectSites_85 (by decide) ?_
            refine j_isub B d_Mo_collectSites_86 ?_
            refine j_iald B (m_16) (⟨nIp (by omega), by omega, by decide⟩) d_Mo_collectSites_87 ?_
            refine j_aloadn B d_Mo_collectSites_88 rfl ?_
            refine j_getr B fl_Mo_35 (m_0) rfl d_Mo_collectSites_89 ?_
            refine j_iloadn B d_Mo_collectSites_92 rfl ?_
            refine j_iald B (m_8) (⟨rfl, by omega, by decide⟩) d_Mo_collectSites_93 ?_
            refine j_topi (x.2 (0, 0, 8) (128 * f + k)) (by rw [csF_2 (by decide) (by decide) (by decide) (by decide)]) ?_
            refine j_icmp_ne (tgt := 110) B d_Mo_collectSites_94 (by decide) (fun h94 => ?_) (fun h94 => ?_)
            · -- yes
              refine j_aloadn B d_Mo_collectSites_110 rfl ?_
              refine j_getr B fl_Mo_53 (m_0) rfl d_Mo_collectSites_111 ?_
              refine j_iload B d_Mo_collectSites_114 rfl ?_
              refine j_iloadn B d_Mo_collectSites_116 rfl ?_
              refine j_iast B kM_inj (m_14) (⟨rfl, by omega, by decide⟩) d_Mo_collectSites_117 ?_
              refine j_aloadn B d_Mo_collectSites_118 rfl ?_
              refine j_getr B fl_Mo_56 (m_0) rfl d_Mo_collectSites_119 ?_
              refine j_iload B d_Mo_collectSites_122 rfl ?_
              refine j_iloadn B d_Mo_collectSites_124 rfl ?_
              refine j_iast B kM_inj (m_15) (⟨rfl, by omega, by decide⟩) d_Mo_collectSites_125 ?_
              refine j_aloadn B d_Mo_collectSites_126 rfl ?_
              refine j_getr B fl_Mo_59 (m_0) rfl d_Mo_collectSites_127 ?_
              refine j_iload B d_Mo_collectSites_130 rfl ?_
              refine j_aloadn B d_Mo_collectSites_132 rfl ?_
              refine j_getr B fl_Mo_35 (m_0) rfl d_Mo_collectSites_133 ?_
              refine j_iloadn B d_Mo_collectSites_136 rfl ?_
              refine j_iald B (m_8) (⟨rfl, by omega, by decide⟩) d_Mo_collectSites_137 ?_
              refine j_topi (x.2 (0, 0, 8) (128 * f + k)) (by rw [rAK (by decide), rAK (by decide), csF_2 (by decide) (by decide) (by decide) (by decide)]) ?_
              refine j_iast B kM_inj (m_16) (⟨rfl, by omega, by decide⟩) d_Mo_collectSites_138 ?_
              refine j_aloadn B d_Mo_collectSites_139 rfl ?_
              refine j_getr B fl_Mo_50 (m_0) rfl d_Mo_collectSites_140 ?_
              refine j_iloadn B d_Mo_collectSites_143 rfl ?_
              refine j_dup2 B d_Mo_collectSites_144 rfl rfl ?_
              refine j_iald B (m_13) (⟨rfl, hf, by decide⟩) d_Mo_collectSites_145 ?_
              refine j_iconst (v := 1) B d_Mo_collectSites_146 (by decide) ?_
              refine j_iadd B d_Mo_collectSites_147 ?_
              refine j_topi (nI ((csF f x k).1 + 1)) (by rw [rAK (by decide), rAK (by decide), rAK (by decide), csF_s, nI_1]) ?_
              refine j_iast B kM_inj (m_13) (⟨rfl, hf, by decide⟩) d_Mo_collectSites_148 ?_
              refine j_iinc B d_Mo_collectSites_149 rfl (by decide) (nI_1 k) ?_
              refine j_goto (tgt := 9) B d_Mo_collectSites_152 (by decide) ?_
              refine j_x (csF f x (k + 1)).2 (by first | (rw [show csF f x (k + 1) = _ from if_neg (fun z => z.elim h34 (fun y => y.elim h44 h54))]; done) | (rw [show csF f x (k + 1) = _ from (if_pos hi).trans (if_pos ⟨hs0, h94⟩)]; done) | (rw [show csF f x (k + 1) = _ from (if_pos hi).trans (if_neg (fun z => hs0 z.1))]; done) | (rw [show csF f x (k + 1) = _ from (if_pos hi).trans (if_neg (fun z => h94 z.2))]; done)) ?_
              refine j_loc [(2, .int (nI (k + 1))), (0, .ref (ad 0)), (1, .int (nI f))] ⟨rfl, rfl, rfl, trivial⟩ ?_
              exact ih (k + 1) (by omega)
            · -- no
              refine j_aloadn B d_Mo_collectSites_97 rfl ?_
              refine j_getr B fl_Mo_56 (m_0) rfl d_Mo_collectSites_98 ?_
              refine j_iload B d_Mo_collectSites_101 rfl ?_
              refine j_iconst (v := 1) B d_Mo_collectSites_103 (by decide) ?_
              refine j_isub B d_Mo_collectSites_104 ?_
              refine j_iloadn B d_Mo_collectSites_105 rfl ?_
              refine j_iast B kM_inj (m_15) (⟨nIp (by omega), by omega, by decide⟩) d_Mo_collectSites_106 ?_
              refine j_goto (tgt := 149) B d_Mo_collectSites_107 (by decide) ?_
              refine j_iinc B d_Mo_collectSites_149 rfl (by decide) (nI_1 k) ?_
              refine j_goto (tgt := 9) B d_Mo_collectSites_152 (by decide) ?_
              refine j_x (csF f x (k + 1)).2 (by first | (rw [show csF f x (k + 1) = _ from if_neg (fun z => z.elim h34 (fun y => y.elim h44 h54))]; done) | (rw [show csF f x (k + 1) = _ from (if_pos hi).trans (if_pos ⟨hs0, h94⟩)]; done) | (rw [show csF f x (k + 1) = _ from (if_pos hi).trans (if_neg (fun z => hs0 z.1))]; done) | (rw [show csF f x (k + 1) = _ from (if_pos hi).trans (if_neg (fun z => h94 z.2))]; done)) ?_
              refine j_loc [(2, .int (nI (k + 1))), (0, .ref (ad 0)), (1, .int (nI f))] ⟨rfl, rfl, rfl, trivial⟩ ?_
              exact ih (k + 1) (by omega)
        · -- no
          refine j_aloadn B d_Mo_collectSites_47 rfl ?_
          refine j_getr B fl_Mo_29 (m_0) rfl d_Mo_collectSites_48 ?_
          refine j_iloadn B d_Mo_collectSites_51 rfl ?_
          refine j_iald B (m_6) (⟨rfl, by omega, by decide⟩) d_Mo_collectSites_52 ?_
          refine j_topi (x.2 (0, 0, 6) (128 * f + k)) (by rw [csF_2 (by decide) (by decide) (by decide) (by decide)]) ?_
          refine j_iconst (v := 3) B d_Mo_collectSites_53 (by decide) ?_
          refine j_icmp_ne (tgt := 149) B d_Mo_collectSites_54 (by decide) (fun h54 => ?_) (fun h54 => ?_)
          · -- yes
            refine j_iinc B d_Mo_collectSites_149 rfl (by decide) (nI_1 k) ?_
            refine j_goto (tgt := 9) B d_Mo_collectSites_152 (by decide) ?_
            refine j_x (csF f x (k + 1)).2 (by first | (rw [show csF f x (k + 1) = _ from if_neg (fun z => z.elim h34 (fun y => y.elim h44 h54))]; done) | (rw [show csF f x (k + 1) = _ from (if_pos hi).trans (if_pos ⟨hs0, h94⟩)]; done) | (rw [show csF f x (k + 1) = _ from (if_pos hi).trans (if_neg (fun z => hs0 z.1))]; done) | (rw [show csF f x (k + 1) = _ from (if_pos hi).trans (if_neg (fun z => h94 z.2))]; done)) ?_
            refine j_loc [(2, .int (nI (k + 1))), (0, .ref (ad 0)), (1, .int (nI f))] ⟨rfl, rfl, rfl, trivial⟩ ?_
            exact ih (k + 1) (by omega)
          · -- no
            have hi : (x.2 (0, 0, 6) (128 * f + k) = 1 ∨ x.2 (0, 0, 6) (128 * f + k) = 2 ∨ x.2 (0, 0, 6) (128 * f + k) = 3) := Or.inr (Or.inr h54)
            refine j_bipush (v := 64) B d_Mo_collectSites_57 (by decide) ?_
            refine j_iloadn B d_Mo_collectSites_59 rfl ?_
            refine j_imul B d_Mo_collectSites_60 ?_
            refine j_aloadn B d_Mo_collectSites_61 rfl ?_
            refine j_getr B fl_Mo_50 (m_0) rfl d_Mo_collectSites_62 ?_
            refine j_iloadn B d_Mo_collectSites_65 rfl ?_
            refine j_iald B (m_13) (⟨rfl, hf, by decide⟩) d_Mo_collectSites_66 ?_
            refine j_topi (nI (csF f x k).1) (csF_s k) ?_
            refine j_iadd B d_Mo_collectSites_67 ?_
            refine j_topi (nI (64 * f + (csF f x k).1)) (ixm 64 f (csF f x k).1) ?_
            refine j_istore B d_Mo_collectSites_68 (by decide) ?_
            refine j_aloadn B d_Mo_collectSites_70 rfl ?_
            refine j_getr B fl_Mo_50 (m_0) rfl d_Mo_collectSites_71 ?_
            refine j_iloadn B d_Mo_collectSites_74 rfl ?_
            refine j_iald B (m_13) (⟨rfl, hf, by decide⟩) d_Mo_collectSites_75 ?_
            refine j_topi (nI (csF f x k).1) (csF_s k) ?_
            refine j_if_le (tgt := 110) B d_Mo_collectSites_76 (by decide) (fun h76 => ?_) (fun h76 => ?_)
            · -- yes
              have hs0 : ¬ 0 < (csF f x k).1 := fun z => absurd (nIle (t := 0) h76 (by omega) (by decide)) (by omega)
              refine j_aloadn B d_Mo_collectSites_110 rfl ?_
              refine j_getr B fl_Mo_53 (m_0) rfl d_Mo_collectSites_111 ?_
              refine j_iload B d_Mo_collectSites_114 rfl ?_
              refine j_iloadn B d_Mo_collectSites_116 rfl ?_
              refine j_iast B kM_inj (m_14) (⟨rfl, by omega, by decide⟩) d_Mo_collectSites_117 ?_
              refine j_aloadn B d_Mo_collectSites_118 rfl ?_
              refine j_getr B fl_Mo_56 (m_0) rfl d_Mo_collectSites_119 ?_
              refine j_iload B d_Mo_collectSites_122 rfl ?_
              refine j_iloadn B d_Mo_collectSites_124 rfl ?_
              refine j_iast B kM_inj (m_15) (⟨rfl, by omega, by decide⟩) d_Mo_collectSites_125 ?_
              refine j_aloadn B d_Mo_collectSites_126 rfl ?_
              refine j_getr B fl_Mo_59 (m_0) rfl d_Mo_collectSites_127 ?_
              refine j_iload B d_Mo_collectSites_130 rfl ?_
              refine j_aloadn B d_Mo_collectSites_132 rfl ?_
              refine j_getr B fl_Mo_35 (m_0) rfl d_Mo_collectSites_133 ?_
              refine j_iloadn B d_Mo_collectSites_136 rfl ?_
              refine j_iald B (m_8) (⟨rfl, by omega, by decide⟩) d_Mo_collectSites_137 ?_
              refine j_topi (x.2 (0, 0, 8) (128 * f + k)) (by rw [rAK (by decide), rAK (by decide), csF_2 (by decide) (by decide) (by decide) (by decide)]) ?_
              refine j_iast B kM_inj (m_16) (⟨rfl, by omega, by decide⟩) d_Mo_collectSites_138 ?_
              refine j_aloadn B d_Mo_collectSites_139 rfl ?_
              refine j_getr B fl_Mo_50 (m_0) rfl d_Mo_collectSites_140 ?_
              refine j_iloadn B d_Mo_collectSites_143 rfl ?_
              refine j_dup2 B d_Mo_collectSites_144 rfl rfl ?_
              refine j_iald B (m_13) (⟨rfl, hf, by decide⟩) d_Mo_collectSites_145 ?_
              refine j_iconst (v := 1) B d_Mo_collectSites_146 (by decide) ?_
              refine j_iadd B d_Mo_collectSites_147 ?_
              refine j_topi (nI ((csF f x k).1 + 1)) (by rw [rAK (by decide), rAK (by decide), rAK (by decide), csF_s, nI_1]) ?_
              refine j_iast B kM_inj (m_13) (⟨rfl, hf, by decide⟩) d_Mo_collectSites_148 ?_
              refine j_iinc B d_Mo_collectSites_149 rfl (by decide) (nI_1 k) ?_
              refine j_goto (tgt := 9) B d_Mo_collectSites_152 (by decide) ?_
              refine j_x (csF f x (k + 1)).2 (by first | (rw [show csF f x (k + 1) = _ from if_neg (fun z => z.elim h34 (fun y => y.elim h44 h54))]; done) | (rw [show csF f x (k + 1) = _ from (if_pos hi).trans (if_pos ⟨hs0, h94⟩)]; done) | (rw [show csF f x (k + 1) = _ from (if_pos hi).trans (if_neg (fun z => hs0 z.1))]; done) | (rw [show csF f x (k + 1) = _ from (if_pos hi).trans (if_neg (fun z => h94 z.2))]; done)) ?_
              refine j_loc [(2, .int (nI (k + 1))), (0, .ref (ad 0)), (1, .int (nI f))] ⟨rfl, rfl, rfl, trivial⟩ ?_
              exact ih (k + 1) (by omega)
            · -- no
              have hs0 : 0 < (csF f x k).1 := Nat.pos_of_ne_zero (fun z => h76 (by rw [z]; decide))
              refine j_aloadn B d_Mo_collectSites_79 rfl ?_
              refine j_getr B fl_Mo_59 (m_0) rfl d_Mo_collectSites_80 ?_
              refine j_iload B d_Mo_collectSites_83 rfl ?_
              refine j_iconst (v := 1) B d_Mo_collectSites_85 (by decide) ?_
              refine j_isub B d_Mo_collectSites_86 ?_
              refine j_iald B (m_16) (⟨nIp (by omega), by omega, by decide⟩) d_Mo_collectSites_87 ?_
              refine j_aloadn B d_Mo_collectSites_88 rfl ?_
              refine j_getr B fl_Mo_35 (m_0) rfl d_Mo_collectSites_89 ?_
              refine j_iloadn B d_Mo_collectSites_92 rfl ?_
              refine j_iald B (m_8) (⟨rfl, by omega, by decide⟩) d_Mo_collectSites_93 ?_
              refine j_topi (x.2 (0, 0, 8) (128 * f + k)) (by rw [csF_2 (by decide) (by decide) (by decide) (by decide)]) ?_
              refine j_icmp_ne (tgt := 110) B d_Mo_collectSites_94 (by decide) (fun h94 => ?_) (fun h94 => ?_)
              · -- yes
                refine j_aloadn B d_Mo_collectSites_110 rfl ?_
                refine j_getr B fl_Mo_53 (m_0) rfl d_Mo_collectSites_111 ?_
                refine j_iload B d_Mo_collectSites_114 rfl ?_
                refine j_iloadn B d_Mo_collectSites_116 rfl ?_
                refine j_iast B kM_inj (m_14) (⟨rfl, by omega, by decide⟩) d_Mo_collectSites_117 ?_
                refine j_aloadn B d_Mo_collectSites_118 rfl ?_
                refine j_getr B fl_Mo_56 (m_0) rfl d_Mo_collectSites_119 ?_
                refine j_iload B d_Mo_collectSites_122 rfl ?_
                refine j_iloadn B d_Mo_collectSites_124 rfl ?_
                refine j_iast B kM_inj (m_15) (⟨rfl, by omega, by decide⟩) d_Mo_collectSites_125 ?_
                refine j_aloadn B d_Mo_collectSites_126 rfl ?_
                refine j_getr B fl_Mo_59 (m_0) rfl d_Mo_collectSites_127 ?_
                refine j_iload B d_Mo_collectSites_130 rfl ?_
                refine j_aloadn B d_Mo_collectSites_132 rfl ?_
                refine j_getr B fl_Mo_35 (m_0) rfl d_Mo_collectSites_133 ?_
                refine j_iloadn B d_Mo_collectSites_136 rfl ?_
                refine j_iald B (m_8) (⟨rfl, by omega, by decide⟩) d_Mo_collectSites_137 ?_
                refine j_topi (x.2 (0, 0, 8) (128 * f + k)) (by rw [rAK (by decide), rAK (by decide), csF_2 (by decide) (by decide) (by decide) (by decide)]) ?_
                refine j_iast B kM_inj (m_16) (⟨rfl, by omega, by decide⟩) d_Mo_collectSites_138 ?_
                refine j_aloadn B d_Mo_collectSites_139 rfl ?_
                refine j_getr B fl_Mo_50 (m_0) rfl d_Mo_collectSites_140 ?_
                refine j_iloadn B d_Mo_collectSites_143 rfl ?_
                refine j_dup2 B d_Mo_collectSites_144 rfl rfl ?_
                refine j_iald B (m_13) (⟨rfl, hf, by decide⟩) d_Mo_collectSites_145 ?_
                refine j_iconst (v := 1) B d_Mo_collectSites_146 (by decide) ?_
                refine j_iadd B d_Mo_collectSites_147 ?_
                refine j_topi (nI ((csF f x k).1 + 1)) (by rw [rAK (by decide), rAK (by decide), rAK (by decide), csF_s, nI_1]) ?_
                refine j_iast B kM_inj (m_13) (⟨rfl, hf, by decide⟩) d_Mo_collectSites_148 ?_
                refine j_iinc B d_Mo_collectSites_149 rfl (by decide) (nI_1 k) ?_
                refine j_goto (tgt := 9) B d_Mo_collectSites_152 (by decide) ?_
                refine j_x (csF f x (k + 1)).2 (by first | (rw [show csF f x (k + 1) = _ from if_neg (fun z => z.elim h34 (fun y => y.elim h44 h54))]; done) | (rw [show csF f x (k + 1) = _ from (if_pos hi).trans (if_pos ⟨hs0, h94⟩)]; done) | (rw [show csF f x (k + 1) = _ from (if_pos hi).trans (if_neg (fun z => hs0 z.1))]; done) | (rw [show csF f x (k + 1) = _ from (if_pos hi).trans (if_neg (fun z => h94 z.2))]; done)) ?_
                refine j_loc [(2, .int (nI (k + 1))), (0, .ref (ad 0)), (1, .int (nI f))] ⟨rfl, rfl, rfl, trivial⟩ ?_
                exact ih (k + 1) (by omega)
              · -- no
                refine j_aloadn B d_Mo_collectSites_97 rfl ?_
                refine j_getr B fl_Mo_56 (m_0) rfl d_Mo_collectSites_98 ?_
                refine j_iload B d_Mo_collectSites_101 rfl ?_
                refine j_iconst (v := 1) B d_Mo_collectSites_103 (by decide) ?_
                refine j_isub B d_Mo_collectSites_104 ?_
                refine j_iloadn B d_Mo_collectSites_105 rfl ?_
                refine j_iast B kM_inj (m_15) (⟨nIp (by omega), by omega, by decide⟩) d_Mo_collectSites_106 ?_
                refine j_goto (tgt := 149) B d_Mo_collectSites_107 (by decide) ?_
                refine j_iinc B d_Mo_collectSites_149 rfl (by decide) (nI_1 k) ?_
                refine j_goto (tgt := 9) B d_Mo_collectSites_152 (by decide) ?_
                refine j_x (csF f x (k + 1)).2 (by first | (rw [show csF f x (k + 1) = _ from if_neg (fun z => z.elim h34 (fun y => y.elim h44 h54))]; done) | (rw [show csF f x (k + 1) = _ from (if_pos hi).trans (if_pos ⟨hs0, h94⟩)]; done) | (rw [show csF f x (k + 1) = _ from (if_pos hi).trans (if_neg (fun z => hs0 z.1))]; done) | (rw [show csF f x (k + 1) = _ from (if_pos hi).trans (if_neg (fun z => h94 z.2))]; done)) ?_
                refine j_loc [(2, .int (nI (k + 1))), (0, .ref (ad 0)), (1, .int (nI f))] ⟨rfl, rfl, rfl, trivial⟩ ?_
                exact ih (k + 1) (by omega)
  refine j_aloadn B d_Mo_collectSites_0 rfl ?_
  refine j_getr B fl_Mo_50 (m_0) rfl d_Mo_collectSites_1 ?_
  refine j_iloadn B d_Mo_collectSites_4 rfl ?_
  refine j_iconst (v := 0) B d_Mo_collectSites_5 (by decide) ?_
  refine j_iast B kM_inj (m_13) (⟨rfl, hf, by decide⟩) d_Mo_collectSites_6 ?_
  refine j_iconst (v := 0) B d_Mo_collectSites_7 (by decide) ?_
  refine j_istoren B d_Mo_collectSites_8 (by decide) ?_
  refine j_loc [(2, .int (nI 0)), (0, .ref (ad 0)), (1, .int (nI f))] ⟨rfl, rfl, rfl, trivial⟩ ?_
  exact loop n 0 (by omega)
/-- what a statement does, by its kind -/
def StM (f t k : Nat) (x x2 : tm_M) : Prop :=
  (x.2 (0, 0, 3) (20 * f + k) = 0 ∧ ∃ n q : Nat, x.2 (0, 0, 5) f = nI n ∧ n < 128 ∧ x.1 (0, 0, 0) 18 = nI q ∧ q ≤ 6 ∧ x2 = (emM f n q 0 (x.2 (0, 0, 4) (20 * f + k)) x)) ∨
  (x.2 (0, 0, 3) (20 * f + k) = 1 ∧ ∃ n q : Nat, x.2 (0, 0, 5) f = nI n ∧ n < 128 ∧ x.1 (0, 0, 0) 18 = nI q ∧ q ≤ 6 ∧ x2 = (emM f n q 1 (x.2 (0, 0, 4) (20 * f + k)) x)) ∨
  (x.2 (0, 0, 3) (20 * f + k) = 2 ∧ ∃ n q : Nat, x.2 (0, 0, 5) f = nI n ∧ n < 128 ∧ x.1 (0, 0, 0) 18 = nI q ∧ q ≤ 6 ∧ x2 = (emM f n q 2 (x.2 (0, 0, 4) (20 * f + k)) x)) ∨
  (x.2 (0, 0, 3) (20 * f + k) = 7 ∧ ∃ n q : Nat, x.2 (0, 0, 5) f = nI n ∧ n < 128 ∧ x.1 (0, 0, 0) 18 = nI q ∧ q ≤ 6 ∧ x2 = (emM f n q 3 0 x)) ∨
  (x.2 (0, 0, 3) (20 * f + k) = 6 ∧ ∃ a q : Nat, x.2 (0, 0, 9) f = nI a ∧ a < 48 ∧ x.1 (0, 0, 0) 18 = nI q ∧ q < 5 ∧ x2 = (sA (opM q 6 (nI a) (acM f a (-2) (x.2 (0, 0, 18) q) x)) (0, 0, 22) (q + 1) (x.2 (0, 0, 4) (20 * f + k)))) ∨
  (x.2 (0, 0, 3) (20 * f + k) = 3 ∧ ∃ a q : Nat, x.2 (0, 0, 9) f = nI a ∧ a + crF (fun j => x.2 (0, 0, 3) (20 * f + j)) (t - (k + 1)) (k + 1) 0 ≤ 40 ∧ 0 < crF (fun j => x.2 (0, 0, 3) (20 * f + j)) (t - (k + 1)) (k + 1) 0 ∧ scF (fun j => x.2 (0, 0, 3) (20 * f + j)) (t - (k + 1)) (k + 1) 0 ∧ x.1 (0, 0, 0) 18 = nI q ∧ q < 5 ∧ x2 = (tyM f (fun j => x.2 (0, 0, 3) (20 * f + j)) (fun j => x.2 (0, 0, 4) (20 * f + j)) (t - (k + 1)) (k + 1) a q (x.2 (0, 0, 18) q) x)) ∨
  (x.2 (0, 0, 3) (20 * f + k) = 4 ∧ ∃ n q k1 a : Nat, x.2 (0, 0, 5) f = nI n ∧ n + 4 ≤ 128 ∧ x.1 (0, 0, 0) 18 = nI q ∧ q ≤ 6 ∧ x.2 (0, 0, 20) q = nI k1 ∧ k1 < 48 ∧ x.2 (0, 0, 9) f = nI a ∧ a < 48 ∧ x.2 (0, 0, 17) q = 3 ∧ x2 = (bcM f (n + 1) q k1 a (x.2 (0, 0, 19) q) (emM f n q 4 (-(nI q)) x))) ∨
  (x.2 (0, 0, 3) (20 * f + k) = 4 ∧ ∃ n q k1 a k2 : Nat, x.2 (0, 0, 5) f = nI n ∧ n + 4 ≤ 128 ∧ x.1 (0, 0, 0) 18 = nI q ∧ q ≤ 6 ∧ x.2 (0, 0, 20) q = nI k1 ∧ k1 < 48 ∧ x.2 (0, 0, 9) f = nI a ∧ a < 48 ∧ ¬ x.2 (0, 0, 17) q = 3 ∧ x.2 (0, 0, 21) q = nI k2 ∧ k2 < 48 ∧ x2 = (bcM f (n + 4) q k1 a (x.2 (0, 0, 19) q) (ceM f n q k2 x))) ∨
  (x.2 (0, 0, 3) (20 * f + k) = 5 ∧ ∃ n q k1 : Nat, x.2 (0, 0, 5) f = nI n ∧ n + 4 ≤ 128 ∧ x.1 (0, 0, 0) 18 = nI q ∧ q ≤ 6 ∧ 0 < q ∧ k1 < 48 ∧ x.2 (0, 0, 17) q = 4 ∧ x.2 (0, 0, 21) q = nI k1 ∧ x2 = (sI (clF f (n + 4) q (ceM f n q k1 x) (n + 4)) (0, 0, 0) 18 (nI (q - 1)))) ∨
  (x.2 (0, 0, 3) (20 * f + k) = 5 ∧ ∃ n q k1 : Nat, x.2 (0, 0, 5) f = nI n ∧ n + 4 ≤ 128 ∧ x.1 (0, 0, 0) 18 = nI q ∧ q ≤ 6 ∧ 0 < q ∧ k1 < 48 ∧ ¬ x.2 (0, 0, 17) q = 4 ∧ x.2 (0, 0, 18) q = nI k1 ∧ x2 = (sI (clF f (n + 4) q (leM f n q k1 (x.2 (0, 0, 22) q) x) (n + 4)) (0, 0, 0) 18 (nI (q - 1))))
set_option maxRecDepth 100000 in
theorem ok_Mo_compile_0 {l : Launch} {D : va_G} {aC : Nat → ClassId} {ad : Nat → Nat} {f : Nat} (hf : f < 6) (x : tm_M) {t n q : Nat} (ht : x.2 (0, 0, 2) f = nI t) (hl20 : t ≤ 20) (hwf : ¬ (wmF (fun j => x.2 (0, 0, 3) (20 * f + j)) t 0 0 (x.2 (0, 0, 17))).1 = 0) (X : Nat → tm_M) (hX0 : X 0 = (sA (sI (sA (sA (sI (ckM (wmF (fun j => x.2 (0, 0, 3) (20 * f + j)) t 0 0 (x.2 (0, 0, 17))).2.1 (wmF (fun j => x.2 (0, 0, 3) (20 * f + j)) t 0 0 (x.2 (0, 0, 17))).2.2 x) (0, 0, 0) 0 0) (0, 0, 5) f 0) (0, 0, 9) f 0) (0, 0, 0) 18 0) (0, 0, 18) 0 (-1))) (hlen : ∀ k, k ≤ t → (X k).2 (0, 0, 2) f = nI t) (hstep : ∀ k, k < t → StM f t k (X k) (X (k + 1))) (hn : (X t).2 (0, 0, 5) f = nI n) (h127 : n < 127) (hq : (X t).1 (0, 0, 0) 18 = nI q) (hq6 : q ≤ 6) (hcs : ∀ k, k < n + 1 → (csF f (emM f n q 8 0 (X t)) k).1 < 64) :
    OkM l y_Mo_compile b_Mo_compile 6 (some .int) (rom 3 66) D aC ad [.ref (ad 0), .int (nI f)] x (some (.int (nI (n + 1)))) (csF f (emM f n q 8 0 (X t)) (n + 1)).2 := by
  refine ok_start (by decide) (Nat.le_of_ble_eq_true rfl) rfl ?_
  intro p e s m args below meth c B hr hlk hml
  have B : Cx p s m c args b_Mo_compile R_Mo D aC (rg 30 ad) 30 ad := B
  have loop : ∀ (r k : Nat), k + r = t → J p l e (rom 3 66) s m args below meth c D (rg 30 ad) 0 0 (MQ below (Qk D aC 30 ad (some (.int (nI (n + 1)))) (wM ad aC (csF f (emM f n q 8 0 (X t)) (n + 1)).2)) args s 0 0 (rg 30 ad)) 30 ad (wM ad aC (X k)) 6 62 [(3, .int (nI k)), (0, .ref (ad 0)), (1, .int (nI f))] [] := by
    intro r
    induction r with
    | zero =>
      intro k hk
      refine j_iloadn B d_Mo_compile_62 rfl ?_
      refine j_aloadn B d_Mo_compile_63 rfl ?_
      refine j_getr B fl_Mo_17 (m_0) rfl d_Mo_compile_64 ?_
      refine j_iloadn B d_Mo_compile_67 rfl ?_
      refine j_iald B (m_2) (⟨rfl, hf, by decide⟩) d_Mo_compile_68 ?_
      refine j_topi (nI t) (hlen k (by omega)) ?_
      refine j_icmp_ge (tgt := 233) B d_Mo_compile_69 (by decide) (fun h69 => ?_) (fun h69 => (show False from h69 (nI_le (by omega) (by omega))).elim)
      refine j_aloadn B d_Mo_compile_233 rfl ?_
      refine j_iloadn B d_Mo_compile_234 rfl ?_
      refine j_bipush (v := 8) B d_Mo_compile_235 (by decide) ?_
      refine j_iconst (v := 0) B d_Mo_compile_237 (by decide) ?_
      refine j_cVt B (ok_Mo_emit hf (X k) 8 0 (n := n) (q := q) (by rw [show k = t by omega]; exact hn) (by omega) (by rw [show k = t by omega]; exact hq) hq6) cv_Mo_emit ml_Mo_135 (m_0) rfl rfl ⟨rfl, rfl, by decide, by decide⟩ ⟨Nat.zero_le _, Nat.zero_le _⟩ hml (Nat.le_of_ble_eq_true rfl) rfl d_Mo_compile_238 ?_
      refine j_x (emM f n q 8 0 (X t)) (by rw [show k = t by omega]) ?_
      refine j_aloadn B d_Mo_compile_241 rfl ?_
      refine j_iloadn B d_Mo_compile_242 rfl ?_
      refine j_cVt B (ok_Mo_collectSites hf (emM f n q 8 0 (X t)) (n := n + 1) (by simp [emM, sA, upd]) (by omega) hcs) cv_Mo_collectSites ml_Mo_161 (m_0) rfl rfl ⟨rfl, rfl, by decide, by decide⟩ ⟨Nat.zero_le _, Nat.zero_le _⟩ hml (Nat.le_of_ble_eq_true rfl) rfl d_Mo_compile_243 ?_
      refine j_aloadn B d_Mo_compile_246 rfl ?_
      refine j_getr B fl_Mo_26 (m_0) rfl d_Mo_compile_247 ?_
      refine j_iloadn B d_Mo_compile_250 rfl ?_
      refine j_iald B (m_5) (⟨rfl, hf, by decide⟩) d_Mo_compile_251 ?_
      exact j_iret B hr hlk d_Mo_compile_252 (sv (by rw [csF_2 (by decide) (by decide) (by decide) (by decide)]; simp [emM, sA, upd])) (rfl)
    | succ r ih =>
      intro k hk
      rcases hstep k (by omega) with ⟨hS, n, q, hn, hnb, hq, hq6, hX⟩ | ⟨hS, n, q, hn, hnb, hq, hq6, hX⟩ | ⟨hS, n, q, hn, hnb, hq, hq6, hX⟩ | ⟨hS, n, q, hn, hnb, hq, hq6, hX⟩ | ⟨hS, a, q, ha, h48, hq, hq5, hX⟩ | ⟨hS, a, q, ha, h40, hc1, hsc, hq, hq5, hX⟩ | ⟨hS, n, q, k1, a, hn, hnb, hq, hq6, hnc, hk48, ha, h48, hkd, hX⟩ | ⟨hS, n, q, k1, a, k2, hn, hnb, hq, hq6, hnc, hk48, ha, h48, hkd, hk2, hk248, hX⟩ | ⟨hS, n, q, k1, hn, hnb, hq, hq6, hq0, hk48, hkd, hk1, hX⟩ | ⟨hS, n, q, k1, hn, hnb, hq, hq6, hq0, hk48, hkd, hk1, hX⟩
      · skip
        refine j_iloadn B d_Mo_compile_62 rfl ?_
        refine j_aloadn B d_Mo_compile_63 rfl ?_
        refine j_getr B fl_Mo_17 (m_0) rfl d_Mo_compile_64 ?_
        refine j_iloadn B d_Mo_compile_67 rfl ?_
        refine j_iald B (m_2) (⟨rfl, hf, by decide⟩) d_Mo_compile_68 ?_
        refine j_topi (nI t) (hlen k (by omega)) ?_
        refine j_icmp_ge (tgt := 233) B d_Mo_compile_69 (by decide) (fun h69 => (show False from absurd (nIle h69 (by omega) (by omega)) (by omega)).elim) (fun h69 => ?_)
        refine j_aloadn B d_Mo_compile_72 rfl ?_
        refine j_getr B fl_Mo_20 (m_0) rfl d_Mo_compile_73 ?_
        refine j_bipush (v := 20) B d_Mo_compile_76 (by decide) ?_
        refine j_iloadn B d_Mo_compile_78 rfl ?_
        refine j_imul B d_Mo_compile_79 ?_
        refine j_iloadn B d_Mo_compile_80 rfl ?_
        refine j_iadd B d_Mo_compile_81 ?_
        refine j_iald B (m_3) (⟨ixm 20 f k, by omega, by decide⟩) d_Mo_compile_82 ?_
        refine j_topi 0 hS ?_
        refine j_istore B d_Mo_compile_83 (by decide) ?_
        refine j_aloadn B d_Mo_compile_85 rfl ?_
        refine j_getr B fl_Mo_23 (m_0) rfl d_Mo_compile_86 ?_
        refine j_bipush (v := 20) B d_Mo_compile_89 (by decide) ?_
        refine j_iloadn B d_Mo_compile_91 rfl ?_
        refine j_imul B d_Mo_compile_92 ?_
        refine j_iloadn B d_Mo_compile_93 rfl ?_
        refine j_iadd B d_Mo_compile_94 ?_
        refine j_iald B (m_4) (⟨ixm 20 f k, by omega, by decide⟩) d_Mo_compile_95 ?_
        refine j_istore B d_Mo_compile_96 (by decide) ?_
        refine j_iload B d_Mo_compile_98 rfl ?_
        refine j_if_ne (tgt := 111) B d_Mo_compile_100 (by decide) (fun h100 => (show False from h100 rfl).elim) (fun h100 => ?_)
        refine j_aloadn B d_Mo_compile_103 rfl ?_
        refine j_iloadn B d_Mo_compile_104 rfl ?_
        refine j_iconst (v := 0) B d_Mo_compile_105 (by decide) ?_
        refine j_iload B d_Mo_compile_106 rfl ?_
        refine j_cVt B (ok_Mo_emit hf (X k) 0 ((X k).2 (0, 0, 4) (20 * f + k)) hn hnb hq hq6) cv_Mo_emit ml_Mo_135 (m_0) rfl rfl ⟨rfl, rfl, by decide, by decide⟩ ⟨Nat.zero_le _, Nat.zero_le _⟩ hml (Nat.le_of_ble_eq_true rfl) rfl d_Mo_compile_108 ?_
        refine j_iload B d_Mo_compile_111 rfl ?_
        refine j_iconst (v := 1) B d_Mo_compile_113 (by decide) ?_
        refine j_icmp_ne (tgt := 125) B d_Mo_compile_114 (by decide) (fun h114 => ?_) (fun h114 => (show False from absurd h114 (by decide)).elim)
        refine j_iload B d_Mo_compile_125 rfl ?_
        refine j_iconst (v := 2) B d_Mo_compile_127 (by decide) ?_
        refine j_icmp_ne (tgt := 139) B d_Mo_compile_128 (by decide) (fun h128 => ?_) (fun h128 => (show False from absurd h128 (by decide)).elim)
        refine j_iload B d_Mo_compile_139 rfl ?_
        refine j_bipush (v := 7) B d_Mo_compile_141 (by decide) ?_
        refine j_icmp_ne (tgt := 153) B d_Mo_compile_143 (by decide) (fun h143 => ?_) (fun h143 => (show False from absurd h143 (by decide)).elim)
        refine j_iload B d_Mo_compile_153 rfl ?_
        refine j_bipush (v := 6) B d_Mo_compile_155 (by decide) ?_
        refine j_icmp_ne (tgt := 193) B d_Mo_compile_157 (by decide) (fun h157 => ?_) (fun h157 => (show False from absurd h157 (by decide)).elim)
        refine j_iload B d_Mo_compile_193 rfl ?_
        refine j_iconst (v := 3) B d_Mo_compile_195 (by decide) ?_
        refine j_icmp_ne (tgt := 205) B d_Mo_compile_196 (by decide) (fun h196 => ?_) (fun h196 => (show False from absurd h196 (by decide)).elim)
        refine j_iload B d_Mo_compile_205 rfl ?_
        refine j_iconst (v := 4) B d_Mo_compile_207 (by decide) ?_
        refine j_icmp_ne (tgt := 216) B d_Mo_compile_208 (by decide) (fun h208 => ?_) (fun h208 => (show False from absurd h208 (by decide)).elim)
        refine j_iload B d_Mo_compile_216 rfl ?_
        refine j_iconst (v := 5) B d_Mo_compile_218 (by decide) ?_
        refine j_icmp_ne (tgt := 227) B d_Mo_compile_219 (by decide) (fun h219 => ?_) (fun h219 => (show False from absurd h219 (by decide)).elim)
        refine j_iinc B d_Mo_compile_227 rfl (by decide) (nI_1 k) ?_
        refine j_goto (tgt := 62) B d_Mo_compile_230 (by decide) ?_
        refine j_x (X (k + 1)) hX.symm ?_
        refine j_loc [(3, .int (nI (k + 1))), (0, .ref (ad 0)), (1, .int (nI f))] ⟨rfl, rfl, rfl, trivial⟩ ?_
        exact ih (k + 1) (by omega)
      · skip
        refine j_iloadn B d_Mo_compile_62 rfl ?_
        refine j_aloadn B d_Mo_compile_63 rfl ?_
        refine j_getr B fl_Mo_17 (m_0) rfl d_Mo_compile_64 ?_
        refine j_iloadn B d_Mo_compile_67 rfl ?_
        refine j_iald B (m_2) (⟨rfl, hf, by decide⟩) d_Mo_compile_68 ?_
        refine j_topi (nI t) (hlen k (by omega)) ?_
        refine j_icmp_ge (tgt := 233) B d_Mo_compile_69 (by decide) (fun h69 => (show False from absurd (nIle h69 (by omega) (by omega)) (by omega)).elim) (fun h69 => ?_)
        refine j_aloadn B d_Mo_compile_72 rfl ?_
        refine j_getr B fl_Mo_20 (m_0) rfl d_Mo_compile_73 ?_
        refine j_bipush (v := 20) B d_Mo_compile_76 (by decide) ?_
        refine j_iloadn B d_Mo_compile_78 rfl ?_
        refine j_imul B d_Mo_compile_79 ?_
        refine j_iloadn B d_Mo_compile_80 rfl ?_
        refine j_iadd B d_Mo_compile_81 ?_
        refine j_iald B (m_3) (⟨ixm 20 f k, by omega, by decide⟩) d_Mo_compile_82 ?_
        refine j_topi 1 hS ?_
        refine j_istore B d_Mo_compile_83 (by decide) ?_
        refine j_aloadn B d_Mo_compile_85 rfl ?_
        refine j_getr B fl_Mo_23 (m_0) rfl d_Mo_compile_86 ?_
        refine j_bipush (v := 20) B d_Mo_compile_89 (by decide) ?_
        refine j_iloadn B d_Mo_compile_91 rfl ?_
        refine j_imul B d_Mo_compile_92 ?_
        refine j_iloadn B d_Mo_compile_93 rfl ?_
        refine j_iadd B d_Mo_compile_94 ?_
        refine j_iald B (m_4) (⟨ixm 20 f k, by omega, by decide⟩) d_Mo_compile_95 ?_
        refine j_istore B d_Mo_compile_96 (by decide) ?_
        refine j_iload B d_Mo_compile_98 rfl ?_
        refine j_if_ne (tgt := 111) B d_Mo_compile_100 (by decide) (fun h100 => ?_) (fun h100 => (show False from absurd h100 (by decide)).elim)
        refine j_iload B d_Mo_compile_111 rfl ?_
        refine j_iconst (v := 1) B d_Mo_compile_113 (by decide) ?_
        refine j_icmp_ne (tgt := 125) B d_Mo_compile_114 (by decide) (fun h114 => (show False from h114 rfl).elim) (fun h114 => ?_)
        refine j_aloadn B d_Mo_compile_117 rfl ?_
        refine j_iloadn B d_Mo_compile_118 rfl ?_
        refine j_iconst (v := 1) B d_Mo_compile_119 (by decide) ?_
        refine j_iload B d_Mo_compile_120 rfl ?_
        refine j_cVt B (ok_Mo_emit hf (X k) 1 ((X k).2 (0, 0, 4) (20 * f + k)) hn hnb hq hq6) cv_Mo_emit ml_Mo_135 (m_0) rfl rfl ⟨rfl, rfl, by decide, by decide⟩ ⟨Nat.zero_le _, Nat.zero_le _⟩ hml (Nat.le_of_ble_eq_true rfl) rfl d_Mo_compile_122 ?_
        refine j_iload B d_Mo_compile_125 rfl ?_
        refine j_iconst (v := 2) B d_Mo_compile_127 (by decide) ?_
        refine j_icmp_ne (tgt := 139) B d_Mo_compile_128 (by decide) (fun h128 => ?_) (fun h128 => (show False from absurd h128 (by decide)).elim)
        refine j_iload B d_Mo_compile_139 rfl ?_
        refine j_bipush (v := 7) B d_Mo_compile_141 (by decide) ?_
        refine j_icmp_ne (tgt := 153) B d_Mo_compile_143 (by decide) (fun h143 => ?_) (fun h143 => (show False from absurd h143 (by decide)).elim)
        refine j_iload B d_Mo_compile_153 rfl ?_
        refine j_bipush (v := 6) B d_Mo_compile_155 (by decide) ?_
        refine j_icmp_ne (tgt := 193) B d_Mo_compile_157 (by decide) (fun h157 => ?_) (fun h157 => (show False from absurd h157 (by decide)).elim)
        refine j_iload B d_Mo_compile_193 rfl ?_
        refine j_iconst (v := 3) B d_Mo_compile_195 (by decide) ?_
        refine j_icmp_ne (tgt := 205) B d_Mo_compile_196 (by decide) (fun h196 => ?_) (fun h196 => (show False from absurd h196 (by decide)).elim)
        refine j_iload B d_Mo_compile_205 rfl ?_
        refine j_iconst (v := 4) B d_Mo_compile_207 (by decide) ?_
        refine j_icmp_ne (tgt := 216) B d_Mo_compile_208 (by decide) (fun h208 => ?_) (fun h208 => (show False from absurd h208 (by decide)).elim)
        refine j_iload B d_Mo_compile_216 rfl ?_
        refine j_iconst (v := 5) B d_Mo_compile_218 (by decide) ?_
        refine j_icmp_ne (tgt := 227) B d_Mo_compile_219 (by decide) (fun h219 => ?_) (fun h219 => (show False from absurd h219 (by decide)).elim)
        refine j_iinc B d_Mo_compile_227 rfl (by decide) (nI_1 k) ?_
        refine j_goto (tgt := 62) B d_Mo_compile_230 (by decide) ?_
        refine j_x (X (k + 1)) hX.symm ?_
        refine j_loc [(3, .int (nI (k + 1))), (0, .ref (ad 0)), (1, .int (nI f))] ⟨rfl, rfl, rfl, trivial⟩ ?_
        exact ih (k + 1) (by omega)
      · skip
        refine j_iloadn B d_Mo_compile_62 rfl ?_
        refine j_aloadn B d_Mo_compile_63 rfl ?_
        refine j_getr B fl_Mo_17 (m_0) rfl d_Mo_compile_64 ?_
        refine j_iloadn B d_Mo_compile_67 rfl ?_
        refine j_iald B (m_2) (⟨rfl, hf, by decide⟩) d_Mo_compile_68 ?_
        refine j_topi (nI t) (hlen k (by omega)) ?_
        refine j_icmp_ge (tgt := 233) B d_Mo_compile_69 (by decide) (fun h69 => (show False from absurd (nIle h69 (by omega) (by omega)) (by omega)).elim) (fun h69 => ?_)
        refine j_aloadn B d_Mo_compile_72 rfl ?_
        refine j_getr B fl_Mo_20 (m_0) rfl d_Mo_compile_73 ?_
        refine j_bipush (v := 20) B d_Mo_compile_76 (by decide) ?_
        refine j_iloadn B d_Mo_compile_78 rfl ?_
        refine j_imul B d_Mo_compile_79 ?_
        refine j_iloadn B d_Mo_compile_80 rfl ?_
        refine j_iadd B d_Mo_compile_81 ?_
        refine j_iald B (m_3) (⟨ixm 20 f k, by omega, by decide⟩) d_Mo_compile_82 ?_
        refine j_topi 2 hS ?_
        refine j_istore B d_Mo_compile_83 (by decide) ?_
        refine j_aloadn B d_Mo_compile_85 rfl ?_
        refine j_getr B fl_Mo_23 (m_0) rfl d_Mo_compile_86 ?_
        refine j_bipush (v := 20) B d_Mo_compile_89 (by decide) ?_
        refine j_iloadn B d_Mo_compile_91 rfl ?_
        refine j_imul B d_Mo_compile_92 ?_
        refine j_iloadn B d_Mo_compile_93 rfl ?_
        refine j_iadd B d_Mo_compile_94 ?_
        refine j_iald B (m_4) (⟨ixm 20 f k, by omega, by decide⟩) d_Mo_compile_95 ?_
        refine j_istore B d_Mo_compile_96 (by decide) ?_
        refine j_iload B d_Mo_compile_98 rfl ?_
        refine j_if_ne (tgt := 111) B d_Mo_compile_100 (by decide) (fun h100 => ?_) (fun h100 => (show False from absurd h100 (by decide)).elim)
        refine j_iload B d_Mo_compile_111 rfl ?_
        refine j_iconst (v := 1) B d_Mo_compile_113 (by decide) ?_
        refine j_icmp_ne (tgt := 125) B d_Mo_compile_114 (by decide) (fun h114 => ?_) (fun h114 => (show False from absurd h114 (by decide)).elim)
        refine j_iload B d_Mo_compile_125 rfl ?_
        refine j_iconst (v := 2) B d_Mo_compile_127 (by decide) ?_
        refine j_icmp_ne (tgt := 139) B d_Mo_compile_128 (by decide) (fun h128 => (show False from h128 rfl).elim) (fun h128 => ?_)
        refine j_aloadn B d_Mo_compile_131 rfl ?_
        refine j_iloadn B d_Mo_compile_132 rfl ?_
        refine j_iconst (v := 2) B d_Mo_compile_133 (by decide) ?_
        refine j_iload B d_Mo_compile_134 rfl ?_
        refine j_cVt B (ok_Mo_emit hf (X k) 2 ((X k).2 (0, 0, 4) (20 * f + k)) hn hnb hq hq6) cv_Mo_emit ml_Mo_135 (m_0) rfl rfl ⟨rfl, rfl, by decide, by decide⟩ ⟨Nat.zero_le _, Nat.zero_le _⟩ hml (Nat.le_of_ble_eq_true rfl) rfl d_Mo_compile_136 ?_
        refine j_iload B d_Mo_compile_139 rfl ?_
        refine j_bipush (v := 7) B d_Mo_compile_141 (by decide) ?_
        refine j_icmp_ne (tgt := 153) B d_Mo_compile_143 (by decide) (fun h143 => ?_) (fun h143 => (show False from absurd h143 (by decide)).elim)
        refine j_iload B d_Mo_compile_153 rfl ?_
        refine j_bipush (v := 6) B d_Mo_compile_155 (by decide) ?_
        refine j_icmp_ne (tgt := 193) B d_Mo_compile_157 (by decide) (fun h157 => ?_) (fun h157 => (show False from absurd h157 (by decide)).elim)
        refine j_iload B d_Mo_compile_193 rfl ?_
        refine j_iconst (v := 3) B d_Mo_compile_195 (by decide) ?_
        refine j_icmp_ne (tgt := 205) B d_Mo_compile_196 (by decide) (fun h196 => ?_) (fun h196 => (show False from absurd h196 (by decide)).elim)
        refine j_iload B d_Mo_compile_205 rfl ?_
        refine j_iconst (v := 4) B d_Mo_compile_207 (by decide) ?_
        refine j_icmp_ne (tgt := 216) B d_Mo_compile_208 (by decide) (fun h208 => ?_) (fun h208 => (show False from absurd h208 (by decide)).elim)
        refine j_iload B d_Mo_compile_216 rfl ?_
        refine j_iconst (v := 5) B d_Mo_compile_218 (by decide) ?_
        refine j_icmp_ne (tgt := 227) B d_Mo_compile_219 (by decide) (fun h219 => ?_) (fun h219 => (show False from absurd h219 (by decide)).elim)
        refine j_iinc B d_Mo_compile_227 rfl (by decide) (nI_1 k) ?_
        refine j_goto (tgt := 62) B d_Mo_compile_230 (by decide) ?_
        refine j_x (X (k + 1)) hX.symm ?_
        refine j_loc [(3, .int (nI (k + 1))), (0, .ref (ad 0)), (1, .int (nI f))] ⟨rfl, rfl, rfl, trivial⟩ ?_
        exact ih (k + 1) (by omega)
      · skip
        refine j_iloadn B d_Mo_compile_62 rfl ?_
        refine j_aloadn B d_Mo_compile_63 rfl ?_
        refine j_getr B fl_Mo_17 (m_0) rfl d_Mo_compile_64 ?_
        refine j_iloadn B d_Mo_compile_67 rfl ?_
        refine j_iald B (m_2) (⟨rfl, hf, by decide⟩) d_Mo_compile_68 ?_
        refine j_topi (nI t) (hlen k (by omega)) ?_
        refine j_icmp_ge (tgt := 233) B d_Mo_compile_69 (by decide) (fun h69 => (show False from absurd (nIle h69 (by omega) (by omega)) (by omega)).elim) (fun h69 => ?_)
        refine j_aloadn B d_Mo_compile_72 rfl ?_
        refine j_getr B fl_Mo_20 (m_0) rfl d_Mo_compile_73 ?_
        refine j_bipush (v := 20) B d_Mo_compile_76 (by decide) ?_
        refine j_iloadn B d_Mo_compile_78 rfl ?_
        refine j_imul B d_Mo_compile_79 ?_
        refine j_iloadn B d_Mo_compile_80 rfl ?_
        refine j_iadd B d_Mo_compile_81 ?_
        refine j_iald B (m_3) (⟨ixm 20 f k, by omega, by decide⟩) d_Mo_compile_82 ?_
        refine j_topi 7 hS ?_
        refine j_istore B d_Mo_compile_83 (by decide) ?_
        refine j_aloadn B d_Mo_compile_85 rfl ?_
        refine j_getr B fl_Mo_23 (m_0) rfl d_Mo_compile_86 ?_
        refine j_bipush (v := 20) B d_Mo_compile_89 (by decide) ?_
        refine j_iloadn B d_Mo_compile_91 rfl ?_
        refine j_imul B d_Mo_compile_92 ?_
        refine j_iloadn B d_Mo_compile_93 rfl ?_
        refine j_iadd B d_Mo_compile_94 ?_
        refine j_iald B (m_4) (⟨ixm 20 f k, by omega, by decide⟩) d_Mo_compile_95 ?_
        refine j_istore B d_Mo_compile_96 (by decide) ?_
        refine j_iload B d_Mo_compile_98 rfl ?_
        refine j_if_ne (tgt := 111) B d_Mo_compile_100 (by decide) (fun h100 => ?_) (fun h100 => (show False from absurd h100 (by decide)).elim)
        refine j_iload B d_Mo_compile_111 rfl ?_
        refine j_iconst (v := 1) B d_Mo_compile_113 (by decide) ?_
        refine j_icmp_ne (tgt := 125) B d_Mo_compile_114 (by decide) (fun h114 => ?_) (fun h114 => (show False from absurd h114 (by decide)).elim)
        refine j_iload B d_Mo_compile_125 rfl ?_
        refine j_iconst (v := 2) B d_Mo_compile_127 (by decide) ?_
        refine j_icmp_ne (tgt := 139) B d_Mo_compile_128 (by decide) (fun h128 => ?_) (fun h128 => (show False from absurd h128 (by decide)).elim)
        refine j_iload B d_Mo_compile_139 rfl ?_
        refine j_bipush (v := 7) B d_Mo_compile_141 (by decide) ?_
        refine j_icmp_ne (tgt := 153) B d_Mo_compile_143 (by decide) (fun h143 => (show False from h143 rfl).elim) (fun h143 => ?_)
        refine j_aloadn B d_Mo_compile_146 rfl ?_
        refine j_iloadn B d_Mo_compile_147 rfl ?_
        refine j_iconst (v := 3) B d_Mo_compile_148 (by decide) ?_
        refine j_iconst (v := 0) B d_Mo_compile_149 (by decide) ?_
        refine j_cVt B (ok_Mo_emit hf (X k) 3 0 hn hnb hq hq6) cv_Mo_emit ml_Mo_135 (m_0) rfl rfl ⟨rfl, rfl, by decide, by decide⟩ ⟨Nat.zero_le _, Nat.zero_le _⟩ hml (Nat.le_of_ble_eq_true rfl) rfl d_Mo_compile_150 ?_
        refine j_iload B d_Mo_compile_153 rfl ?_
        refine j_bipush (v := 6) B d_Mo_compile_155 (by decide) ?_
        refine j_icmp_ne (tgt := 193) B d_Mo_compile_157 (by decide) (fun h157 => ?_) (fun h157 => (show False from absurd h157 (by decide)).elim)
        refine j_iload B d_Mo_compile_193 rfl ?_
        refine j_iconst (v := 3) B d_Mo_compile_195 (by decide) ?_
        refine j_icmp_ne (tgt := 205) B d_Mo_compile_196 (by decide) (fun h196 => ?_) (fun h196 => (show False from absurd h196 (by decide)).elim)
        refine j_iload B d_Mo_compile_205 rfl ?_
        refine j_iconst (v := 4) B d_Mo_compile_207 (by decide) ?_
        refine j_icmp_ne (tgt := 216) B d_Mo_compile_208 (by decide) (fun h208 => ?_) (fun h208 => (show False from absurd h208 (by decide)).elim)
        refine j_iload B d_Mo_compile_216 rfl ?_
        refine j_iconst (v := 5) B d_Mo_compile_218 (by decide) ?_
        refine j_icmp_ne (tgt := 227) B d_Mo_compile_219 (by decide) (fun h219 => ?_) (fun h219 => (show False from absurd h219 (by decide)).elim)
        refine j_iinc B d_Mo_compile_227 rfl (by decide) (nI_1 k) ?_
        refine j_goto (tgt := 62) B d_Mo_compile_230 (by decide) ?_
        refine j_x (X (k + 1)) hX.symm ?_
        refine j_loc [(3, .int (nI (k + 1))), (0, .ref (ad 0)), (1, .int (nI f))] ⟨rfl, rfl, rfl, trivial⟩ ?_
        exact ih (k + 1) (by omega)
      · skip
        refine j_iloadn B d_Mo_compile_62 rfl ?_
        refine j_aloadn B d_Mo_compile_63 rfl ?_
        refine j_getr B fl_Mo_17 (m_0) rfl d_Mo_compile_64 ?_
        refine j_iloadn B d_Mo_compile_67 rfl ?_
        refine j_iald B (m_2) (⟨rfl, hf, by decide⟩) d_Mo_compile_68 ?_
        refine j_topi (nI t) (hlen k (by omega)) ?_
        refine j_icmp_ge (tgt := 233) B d_Mo_compile_69 (by decide) (fun h69 => (show False from absurd (nIle h69 (by omega) (by omega)) (by omega)).elim) (fun h69 => ?_)
        refine j_aloadn B d_Mo_compile_72 rfl ?_
        refine j_getr B fl_Mo_20 (m_0) rfl d_Mo_compile_73 ?_
        refine j_bipush (v := 20) B d_Mo_compile_76 (by decide) ?_
        refine j_iloadn B d_Mo_compile_78 rfl ?_
        refine j_imul B d_Mo_compile_79 ?_
        refine j_iloadn B d_Mo_compile_80 rfl ?_
        refine j_iadd B d_Mo_compile_81 ?_
        refine j_iald B (m_3) (⟨ixm 20 f k, by omega, by decide⟩) d_Mo_compile_82 ?_
        refine j_topi 6 hS ?_
        refine j_istore B d_Mo_compile_83 (by decide) ?_
        refine j_aloadn B d_Mo_compile_85 rfl ?_
        refine j_getr B fl_Mo_23 (m_0) rfl d_Mo_compile_86 ?_
        refine j_bipush (v := 20) B d_Mo_compile_89 (by decide) ?_
        refine j_iloadn B d_Mo_compile_91 rfl ?_
        refine j_imul B d_Mo_compile_92 ?_
        refine j_iloadn B d_Mo_compile_93 rfl ?_
        refine j_iadd B d_Mo_compile_94 ?_
        refine j_iald B (m_4) (⟨ixm 20 f k, by omega, by decide⟩) d_Mo_compile_95 ?_
        refine j_istore B d_Mo_compile_96 (by decide) ?_
        refine j_iload B d_Mo_compile_98 rfl ?_
        refine j_if_ne (tgt := 111) B d_Mo_compile_100 (by decide) (fun h100 => ?_) (fun h100 => (show False from absurd h100 (by decide)).elim)
        refine j_iload B d_Mo_compile_111 rfl ?_
        refine j_iconst (v := 1) B d_Mo_compile_113 (by decide) ?_
        refine j_icmp_ne (tgt := 125) B d_Mo_compile_114 (by decide) (fun h114 => ?_) (fun h114 => (show False from absurd h114 (by decide)).elim)
        refine j_iload B d_Mo_compile_125 rfl ?_
        refine j_iconst (v := 2) B d_Mo_compile_127 (by decide) ?_
        refine j_icmp_ne (tgt := 139) B d_Mo_compile_128 (by decide) (fun h128 => ?_) (fun h128 => (show False from absurd h128 (by decide)).elim)
        refine j_iload B d_Mo_compile_139 rfl ?_
        refine j_bipush (v := 7) B d_Mo_compile_141 (by decide) ?_
        refine j_icmp_ne (tgt := 153) B d_Mo_compile_143 (by decide) (fun h143 => ?_) (fun h143 => (show False from absurd h143 (by decide)).elim)
        refine j_iload B d_Mo_compile_153 rfl ?_
        refine j_bipush (v := 6) B d_Mo_compile_155 (by decide) ?_
        refine j_icmp_ne (tgt := 193) B d_Mo_compile_157 (by decide) (fun h157 => (show False from h157 rfl).elim) (fun h157 => ?_)
        refine j_aloadn B d_Mo_compile_160 rfl ?_
        refine j_bipush (v := 6) B d_Mo_compile_161 (by decide) ?_
        refine j_aloadn B d_Mo_compile_163 rfl ?_
        refine j_iloadn B d_Mo_compile_164 rfl ?_
        refine j_bipush (v := (-2)) B d_Mo_compile_165 (by decide) ?_
        refine j_aloadn B d_Mo_compile_167 rfl ?_
        refine j_getr B fl_Mo_65 (m_0) rfl d_Mo_compile_168 ?_
        refine j_aloadn B d_Mo_compile_171 rfl ?_
        refine j_geti B fl_Mo_116 (m_0) rfl d_Mo_compile_172 ?_
        refine j_topi (nI q) hq ?_
        refine j_iald B (m_18) (⟨rfl, by omega, by decide⟩) d_Mo_compile_175 ?_
        refine j_cVt B (ok_Mo_newAction hf (X k) (-2) ((X k).2 (0, 0, 18) q) ha h48) cv_Mo_newAction ml_Mo_127 (m_0) rfl rfl ⟨rfl, rfl, by decide, by decide⟩ ⟨Nat.zero_le _, Nat.zero_le _⟩ hml (Nat.le_of_ble_eq_true rfl) rfl d_Mo_compile_176 ?_
        refine j_cVt B (ok_Mo_opens (acM f a (-2) ((X k).2 (0, 0, 18) q) (X k)) 6 (nI a) (q := q) (by simp [ceM, leM, emM, acM, laM, opM, sI, sA, upd, hq]) (by omega)) cv_Mo_opens ml_Mo_131 (m_0) rfl rfl ⟨rfl, rfl, by decide, by decide⟩ ⟨Nat.zero_le _, Nat.zero_le _⟩ hml (Nat.le_of_ble_eq_true rfl) rfl d_Mo_compile_179 ?_
        refine j_aloadn B d_Mo_compile_182 rfl ?_
        refine j_getr B fl_Mo_77 (m_0) rfl d_Mo_compile_183 ?_
        refine j_aloadn B d_Mo_compile_186 rfl ?_
        refine j_geti B fl_Mo_116 (m_0) rfl d_Mo_compile_187 ?_
        refine j_topi (nI (q + 1)) (by unfold opM; rw [rAI, rAI]; exact rI) ?_
        refine j_iload B d_Mo_compile_190 rfl ?_
        refine j_iast B kM_inj (m_22) (⟨rfl, by omega, by decide⟩) d_Mo_compile_192 ?_
        refine j_iload B d_Mo_compile_193 rfl ?_
        refine j_iconst (v := 3) B d_Mo_compile_195 (by decide) ?_
        refine j_icmp_ne (tgt := 205) B d_Mo_compile_196 (by decide) (fun h196 => ?_) (fun h196 => (show False from absurd h196 (by decide)).elim)
        refine j_iload B d_Mo_compile_205 rfl ?_
        refine j_iconst (v := 4) B d_Mo_compile_207 (by decide) ?_
        refine j_icmp_ne (tgt := 216) B d_Mo_compile_208 (by decide) (fun h208 => ?_) (fun h208 => (show False from absurd h208 (by decide)).elim)
        refine j_iload B d_Mo_compile_216 rfl ?_
        refine j_iconst (v := 5) B d_Mo_compile_218 (by decide) ?_
        refine j_icmp_ne (tgt := 227) B d_Mo_compile_219 (by decide) (fun h219 => ?_) (fun h219 => (show False from absurd h219 (by decide)).elim)
        refine j_iinc B d_Mo_compile_227 rfl (by decide) (nI_1 k) ?_
        refine j_goto (tgt := 62) B d_Mo_compile_230 (by decide) ?_
        refine j_x (X (k + 1)) hX.symm ?_
        refine j_loc [(3, .int (nI (k + 1))), (0, .ref (ad 0)), (1, .int (nI f))] ⟨rfl, rfl, rfl, trivial⟩ ?_
        exact ih (k + 1) (by omega)
      · skip
        refine j_iloadn B d_Mo_compile_62 rfl ?_
        refine j_aloadn B d_Mo_compile_63 rfl ?_
        refine j_getr B fl_Mo_17 (m_0) rfl d_Mo_compile_64 ?_
        refine j_iloadn B d_Mo_compile_67 rfl ?_
        refine j_iald B (m_2) (⟨rfl, hf, by decide⟩) d_Mo_compile_68 ?_
        refine j_topi (nI t) (hlen k (by omega)) ?_
        refine j_icmp_ge (tgt := 233) B d_Mo_compile_69 (by decide) (fun h69 => (show False from absurd (nIle h69 (by omega) (by omega)) (by omega)).elim) (fun h69 => ?_)
        refine j_aloadn B d_Mo_compile_72 rfl ?_
        refine j_getr B fl_Mo_20 (m_0) rfl d_Mo_compile_73 ?_
        refine j_bipush (v := 20) B d_Mo_compile_76 (by decide) ?_
        refine j_iloadn B d_Mo_compile_78 rfl ?_
        refine j_imul B d_Mo_compile_79 ?_
        refine j_iloadn B d_Mo_compile_80 rfl ?_
        refine j_iadd B d_Mo_compile_81 ?_
        refine j_iald B (m_3) (⟨ixm 20 f k, by omega, by decide⟩) d_Mo_compile_82 ?_
        refine j_topi 3 hS ?_
        refine j_istore B d_Mo_compile_83 (by decide) ?_
        refine j_aloadn B d_Mo_compile_85 rfl ?_
        refine j_getr B fl_Mo_23 (m_0) rfl d_Mo_compile_86 ?_
        refine j_bipush (v := 20) B d_Mo_compile_89 (by decide) ?_
        refine j_iloadn B d_Mo_compile_91 rfl ?_
        refine j_imul B d_Mo_compile_92 ?_
        refine j_iloadn B d_Mo_compile_93 rfl ?_
        refine j_iadd B d_Mo_compile_94 ?_
        refine j_iald B (m_4) (⟨ixm 20 f k, by omega, by decide⟩) d_Mo_compile_95 ?_
        refine j_istore B d_Mo_compile_96 (by decide) ?_
        refine j_iload B d_Mo_compile_98 rfl ?_
        refine j_if_ne (tgt := 111) B d_Mo_compile_100 (by decide) (fun h100 => ?_) (fun h100 => (show False from absurd h100 (by decide)).elim)
        refine j_iload B d_Mo_compile_111 rfl ?_
        refine j_iconst (v := 1) B d_Mo_compile_113 (by decide) ?_
        refine j_icmp_ne (tgt := 125) B d_Mo_compile_114 (by decide) (fun h114 => ?_) (fun h114 => (show False from absurd h114 (by decide)).elim)
        refine j_iload B d_Mo_compile_125 rfl ?_
        refine j_iconst (v := 2) B d_Mo_compile_127 (by decide) ?_
        refine j_icmp_ne (tgt := 139) B d_Mo_compile_128 (by decide) (fun h128 => ?_) (fun h128 => (show False from absurd h128 (by decide)).elim)
        refine j_iload B d_Mo_compile_139 rfl ?_
        refine j_bipush (v := 7) B d_Mo_compile_141 (by decide) ?_
        refine j_icmp_ne (tgt := 153) B d_Mo_compile_143 (by decide) (fun h143 => ?_) (fun h143 => (show False from absurd h143 (by decide)).elim)
        refine j_iload B d_Mo_compile_153 rfl ?_
        refine j_bipush (v := 6) B d_Mo_compile_155 (by decide) ?_
        refine j_icmp_ne (tgt := 193) B d_Mo_compile_157 (by decide) (fun h157 => ?_) (fun h157 => (show False from absurd h157 (by decide)).elim)
        refine j_iload B d_Mo_compile_193 rfl ?_
        refine j_iconst (v := 3) B d_Mo_compile_195 (by decide) ?_
        refine j_icmp_ne (tgt := 205) B d_Mo_compile_196 (by decide) (fun h196 => (show False from h196 rfl).elim) (fun h196 => ?_)
        refine j_aloadn B d_Mo_compile_199 rfl ?_
        refine j_iloadn B d_Mo_compile_200 rfl ?_
        refine j_iloadn B d_Mo_compile_201 rfl ?_
        refine j_cVt B (ok_Mo_tries hf (X k) (t := t) (b := k) hl20 (by omega) hq hq5 ha h40 hc1 hsc rfl) cv_Mo_tries ml_Mo_152 (m_0) rfl rfl ⟨rfl, rfl, by decide, by decide⟩ ⟨Nat.zero_le _, Nat.zero_le _⟩ hml (Nat.le_of_ble_eq_true rfl) rfl d_Mo_compile_202 ?_
        refine j_iload B d_Mo_compile_205 rfl ?_
        refine j_iconst (v := 4) B d_Mo_compile_207 (by decide) ?_
        refine j_icmp_ne (tgt := 216) B d_Mo_compile_208 (by decide) (fun h208 => ?_) (fun h208 => (show False from absurd h208 (by decide)).elim)
        refine j_iload B d_Mo_compile_216 rfl ?_
        refine j_iconst (v := 5) B d_Mo_compile_218 (by decide) ?_
        refine j_icmp_ne (tgt := 227) B d_Mo_compile_219 (by decide) (fun h219 => ?_) (fun h219 => (show False from absurd h219 (by decide)).elim)
        refine j_iinc B d_Mo_compile_227 rfl (by decide) (nI_1 k) ?_
        refine j_goto (tgt := 62) B d_Mo_compile_230 (by decide) ?_
        refine j_x (X (k + 1)) hX.symm ?_
        refine j_loc [(3, .int (nI (k + 1))), (0, .ref (ad 0)), (1, .int (nI f))] ⟨rfl, rfl, rfl, trivial⟩ ?_
        exact ih (k + 1) (by omega)
      · skip
        refine j_iloadn B d_Mo_compile_62 rfl ?_
        refine j_aloadn B d_Mo_compile_63 rfl ?_
        refine j_getr B fl_Mo_17 (m_0) rfl d_Mo_compile_64 ?_
        refine j_iloadn B d_Mo_compile_67 rfl ?_
        refine j_iald B (m_2) (⟨rfl, hf, by decide⟩) d_Mo_compile_68 ?_
        refine j_topi (nI t) (hlen k (by omega)) ?_
        refine j_icmp_ge (tgt := 233) B d_Mo_compile_69 (by decide) (fun h69 => (show False from absurd (nIle h69 (by omega) (by omega)) (by omega)).elim) (fun h69 => ?_)
        refine j_aloadn B d_Mo_compile_72 rfl ?_
        refine j_getr B fl_Mo_20 (m_0) rfl d_Mo_compile_73 ?_
        refine j_bipush (v := 20) B d_Mo_compile_76 (by decide) ?_
        refine j_iloadn B d_Mo_compile_78 rfl ?_
        refine j_imul B d_Mo_compile_79 ?_
        refine j_iloadn B d_Mo_compile_80 rfl ?_
        refine j_iadd B d_Mo_compile_81 ?_
        refine j_iald B (m_3) (⟨ixm 20 f k, by omega, by decide⟩) d_Mo_compile_82 ?_
        refine j_topi 4 hS ?_
        refine j_istore B d_Mo_compile_83 (by decide) ?_
        refine j_aloadn B d_Mo_compile_85 rfl ?_
        refine j_getr B fl_Mo_23 (m_0) rfl d_Mo_compile_86 ?_
        refine j_bipush (v := 20) B d_Mo_compile_89 (by decide) ?_
        refine j_iloadn B d_Mo_compile_91 rfl ?_
        refine j_imul B d_Mo_compile_92 ?_
        refine j_iloadn B d_Mo_compile_93 rfl ?_
        refine j_iadd B d_Mo_compile_94 ?_
        refine j_iald B (m_4) (⟨ixm 20 f k, by omega, by decide⟩) d_Mo_compile_95 ?_
        refine j_istore B d_Mo_compile_96 (by decide) ?_
        refine j_iload B d_Mo_compile_98 rfl ?_
        refine j_if_ne (tgt := 111) B d_Mo_compile_100 (by decide) (fun h100 => ?_) (fun h100 => (show False from absurd h100 (by decide)).elim)
        refine j_iload B d_Mo_compile_111 rfl ?_
        refine j_iconst (v := 1) B d_Mo_compile_113 (by decide) ?_
        refine j_icmp_ne (tgt := 125) B d_Mo_compile_114 (by decide) (fun h114 => ?_) (fun h114 => (show False from absurd h114 (by decide)).elim)
        refine j_iload B d_Mo_compile_125 rfl ?_
        refine j_iconst (v := 2) B d_Mo_compile_127 (by decide) ?_
        refine j_icmp_ne (tgt := 139) B d_Mo_compile_128 (by decide) (fun h128 => ?_) (fun h128 => (show False from absurd h128 (by decide)).elim)
        refine j_iload B d_Mo_compile_139 rfl ?_
        refine j_bipush (v := 7) B d_Mo_compile_141 (by decide) ?_
        refine j_icmp_ne (tgt := 153) B d_Mo_compile_143 (by decide) (fun h143 => ?_) (fun h143 => (show False from absurd h143 (by decide)).elim)
        refine j_iload B d_Mo_compile_153 rfl ?_
        refine j_bipush (v := 6) B d_Mo_compile_155 (by decide) ?_
        refine j_icmp_ne (tgt := 193) B d_Mo_compile_157 (by decide) (fun h157 => ?_) (fun h157 => (show False from absurd h157 (by decide)).elim)
        refine j_iload B d_Mo_compile_193 rfl ?_
        refine j_iconst (v := 3) B d_Mo_compile_195 (by decide) ?_
        refine j_icmp_ne (tgt := 205) B d_Mo_compile_196 (by decide) (fun h196 => ?_) (fun h196 => (show False from absurd h196 (by decide)).elim)
        refine j_iload B d_Mo_compile_205 rfl ?_
        refine j_iconst (v := 4) B d_Mo_compile_207 (by decide) ?_
        refine j_icmp_ne (tgt := 216) B d_Mo_compile_208 (by decide) (fun h208 => (show False from h208 rfl).elim) (fun h208 => ?_)
        refine j_aloadn B d_Mo_compile_211 rfl ?_
        refine j_iloadn B d_Mo_compile_212 rfl ?_
        refine j_cVt B (ok_Mo_catches_t hf (X k) hn hnb hq hq6 hnc hk48 ha h48 rfl hkd) cv_Mo_catches ml_Mo_155 (m_0) rfl rfl ⟨rfl, rfl, by decide, by decide⟩ ⟨Nat.zero_le _, Nat.zero_le _⟩ hml (Nat.le_of_ble_eq_true rfl) rfl d_Mo_compile_213 ?_
        refine j_iload B d_Mo_compile_216 rfl ?_
        refine j_iconst (v := 5) B d_Mo_compile_218 (by decide) ?_
        refine j_icmp_ne (tgt := 227) B d_Mo_compile_219 (by decide) (fun h219 => ?_) (fun h219 => (show False from absurd h219 (by decide)).elim)
        refine j_iinc B d_Mo_compile_227 rfl (by decide) (nI_1 k) ?_
        refine j_goto (tgt := 62) B d_Mo_compile_230 (by decide) ?_
        refine j_x (X (k + 1)) hX.symm ?_
        refine j_loc [(3, .int (nI (k + 1))), (0, .ref (ad 0)), (1, .int (nI f))] ⟨rfl, rfl, rfl, trivial⟩ ?_
        exact ih (k + 1) (by omega)
      · skip
        refine j_iloadn B d_Mo_compile_62 rfl ?_
        refine j_aloadn B d_Mo_compile_63 rfl ?_
        refine j_getr B fl_Mo_17 (m_0) rfl d_Mo_compile_64 ?_
        refine j_iloadn B d_Mo_compile_67 rfl ?_
        refine j_iald B (m_2) (⟨rfl, hf, by decide⟩) d_Mo_compile_68 ?_
        refine j_topi (nI t) (hlen k (by omega)) ?_
        refine j_icmp_ge (tgt := 233) B d_Mo_compile_69 (by decide) (fun h69 => (show False from absurd (nIle h69 (by omega) (by omega)) (by omega)).elim) (fun h69 => ?_)
        refine j_aloadn B d_Mo_compile_72 rfl ?_
        refine j_getr B fl_Mo_20 (m_0) rfl d_Mo_compile_73 ?_
        refine j_bipush (v := 20) B d_Mo_compile_76 (by decide) ?_
        refine j_iloadn B d_Mo_compile_78 rfl ?_
        refine j_imul B d_Mo_compile_79 ?_
        refine j_iloadn B d_Mo_compile_80 rfl ?_
        refine j_iadd B d_Mo_compile_81 ?_
        refine j_iald B (m_3) (⟨ixm 20 f k, by omega, by decide⟩) d_Mo_compile_82 ?_
        refine j_topi 4 hS ?_
        refine j_istore B d_Mo_compile_83 (by decide) ?_
        refine j_aloadn B d_Mo_compile_85 rfl ?_
        refine j_getr B fl_Mo_23 (m_0) rfl d_Mo_compile_86 ?_
        refine j_bipush (v := 20) B d_Mo_compile_89 (by decide) ?_
        refine j_iloadn B d_Mo_compile_91 rfl ?_
        refine j_imul B d_Mo_compile_92 ?_
        refine j_iloadn B d_Mo_compile_93 rfl ?_
        refine j_iadd B d_Mo_compile_94 ?_
        refine j_iald B (m_4) (⟨ixm 20 f k, by omega, by decide⟩) d_Mo_compile_95 ?_
        refine j_istore B d_Mo_compile_96 (by decide) ?_
        refine j_iload B d_Mo_compile_98 rfl ?_
        refine j_if_ne (tgt := 111) B d_Mo_compile_100 (by decide) (fun h100 => ?_) (fun h100 => (show False from absurd h100 (by decide)).elim)
        refine j_iload B d_Mo_compile_111 rfl ?_
        refine j_iconst (v := 1) B d_Mo_compile_113 (by decide) ?_
        refine j_icmp_ne (tgt := 125) B d_Mo_compile_114 (by decide) (fun h114 => ?_) (fun h114 => (show False from absurd h114 (by decide)).elim)
        refine j_iload B d_Mo_compile_125 rfl ?_
        refine j_iconst (v := 2) B d_Mo_compile_127 (by decide) ?_
        refine j_icmp_ne (tgt := 139) B d_Mo_compile_128 (by decide) (fun h128 => ?_) (fun h128 => (show False from absurd h128 (by decide)).elim)
        refine j_iload B d_Mo_compile_139 rfl ?_
        refine j_bipush (v := 7) B d_Mo_compile_141 (by decide) ?_
        refine j_icmp_ne (tgt := 153) B d_Mo_compile_143 (by decide) (fun h143 => ?_) (fun h143 => (show False from absurd h143 (by decide)).elim)
        refine j_iload B d_Mo_compile_153 rfl ?_
        refine j_bipush (v := 6) B d_Mo_compile_155 (by decide) ?_
        refine j_icmp_ne (tgt := 193) B d_Mo_compile_157 (by decide) (fun h157 => ?_) (fun h157 => (show False from absurd h157 (by decide)).elim)
        refine j_iload B d_Mo_compile_193 rfl ?_
        refine j_iconst (v := 3) B d_Mo_compile_195 (by decide) ?_
        refine j_icmp_ne (tgt := 205) B d_Mo_compile_196 (by decide) (fun h196 => ?_) (fun h196 => (show False from absurd h196 (by decide)).elim)
        refine j_iload B d_Mo_compile_205 rfl ?_
        refine j_iconst (v := 4) B d_Mo_compile_207 (by decide) ?_
        refine j_icmp_ne (tgt := 216) B d_Mo_compile_208 (by decide) (fun h208 => (show False from h208 rfl).elim) (fun h208 => ?_)
        refine j_aloadn B d_Mo_compile_211 rfl ?_
        refine j_iloadn B d_Mo_compile_212 rfl ?_
        refine j_cVt B (ok_Mo_catches_c hf (X k) hn hnb hq hq6 hnc hk48 ha h48 rfl hkd hk2 hk248) cv_Mo_catches ml_Mo_155 (m_0) rfl rfl ⟨rfl, rfl, by decide, by decide⟩ ⟨Nat.zero_le _, Nat.zero_le _⟩ hml (Nat.le_of_ble_eq_true rfl) rfl d_Mo_compile_213 ?_
        refine j_iload B d_Mo_compile_216 rfl ?_
        refine j_iconst (v := 5) B d_Mo_compile_218 (by decide) ?_
        refine j_icmp_ne (tgt := 227) B d_Mo_compile_219 (by decide) (fun h219 => ?_) (fun h219 => (show False from absurd h219 (by decide)).elim)
        refine j_iinc B d_Mo_compile_227 rfl (by decide) (nI_1 k) ?_
        refine j_goto (tgt := 62) B d_Mo_compile_230 (by decide) ?_
        refine j_x (X (k + 1)) hX.symm ?_
        refine j_loc [(3, .int (nI (k + 1))), (0, .ref (ad 0)), (1, .int (nI f))] ⟨rfl, rfl, rfl, trivial⟩ ?_
        exact ih (k + 1) (by omega)
      · skip
        refine j_iloadn B d_Mo_compile_62 rfl ?_
        refine j_aloadn B d_Mo_compile_63 rfl ?_
        refine j_getr B fl_Mo_17 (m_0) rfl d_Mo_compile_64 ?_
        refine j_iloadn B d_Mo_compile_67 rfl ?_
        refine j_iald B (m_2) (⟨rfl, hf, by decide⟩) d_Mo_compile_68 ?_
        refine j_topi (nI t) (hlen k (by omega)) ?_
        refine j_icmp_ge (tgt := 233) B d_Mo_compile_69 (by decide) (fun h69 => (show False from absurd (nIle h69 (by omega) (by omega)) (by omega)).elim) (fun h69 => ?_)
        refine j_aloadn B d_Mo_compile_72 rfl ?_
        refine j_getr B fl_Mo_20 (m_0) rfl d_Mo_compile_73 ?_
        refine j_bipush (v := 20) B d_Mo_compile_76 (by decide) ?_
        refine j_iloadn B d_Mo_compile_78 rfl ?_
        refine j_imul B d_Mo_compile_79 ?_
        refine j_iloadn B d_Mo_compile_80 rfl ?_
        refine j_iadd B d_Mo_compile_81 ?_
        refine j_iald B (m_3) (⟨ixm 20 f k, by omega, by decide⟩) d_Mo_compile_82 ?_
        refine j_topi 5 hS ?_
        refine j_istore B d_Mo_compile_83 (by decide) ?_
        refine j_aloadn B d_Mo_compile_85 rfl ?_
        refine j_getr B fl_Mo_23 (m_0) rfl d_Mo_compile_86 ?_
        refine j_bipush (v := 20) B d_Mo_compile_89 (by decide) ?_
        refine j_iloadn B d_Mo_compile_91 rfl ?_
        refine j_imul B d_Mo_compile_92 ?_
        refine j_iloadn B d_Mo_compile_93 rfl ?_
        refine j_iadd B d_Mo_compile_94 ?_
        refine j_iald B (m_4) (⟨ixm 20 f k, by omega, by decide⟩) d_Mo_compile_95 ?_
        refine j_istore B d_Mo_compile_96 (by decide) ?_
        refine j_iload B d_Mo_compile_98 rfl ?_
        refine j_if_ne (tgt := 111) B d_Mo_compile_100 (by decide) (fun h100 => ?_) (fun h100 => (show False from absurd h100 (by decide)).elim)
        refine j_iload B d_Mo_compile_111 rfl ?_
        refine j_iconst (v := 1) B d_Mo_compile_113 (by decide) ?_
        refine j_icmp_ne (tgt := 125) B d_Mo_compile_114 (by decide) (fun h114 => ?_) (fun h114 => (show False from absurd h114 (by decide)).elim)
        refine j_iload B d_Mo_compile_125 rfl ?_
        refine j_iconst (v := 2) B d_Mo_compile_127 (by decide) ?_
        refine j_icmp_ne (tgt := 139) B d_Mo_compile_128 (by decide) (fun h128 => ?_) (fun h128 => (show False from absurd h128 (by decide)).elim)
        refine j_iload B d_Mo_compile_139 rfl ?_
        refine j_bipush (v := 7) B d_Mo_compile_141 (by decide) ?_
        refine j_icmp_ne (tgt := 153) B d_Mo_compile_143 (by decide) (fun h143 => ?_) (fun h143 => (show False from absurd h143 (by decide)).elim)
        refine j_iload B d_Mo_compile_153 rfl ?_
        refine j_bipush (v := 6) B d_Mo_compile_155 (by decide) ?_
        refine j_icmp_ne (tgt := 193) B d_Mo_compile_157 (by decide) (fun h157 => ?_) (fun h157 => (show False from absurd h157 (by decide)).elim)
        refine j_iload B d_Mo_compile_193 rfl ?_
        refine j_iconst (v := 3) B d_Mo_compile_195 (by decide) ?_
        refine j_icmp_ne (tgt := 205) B d_Mo_compile_196 (by decide) (fun h196 => ?_) (fun h196 => (show False from absurd h196 (by decide)).elim)
        refine j_iload B d_Mo_compile_205 rfl ?_
        refine j_iconst (v := 4) B d_Mo_compile_207 (by decide) ?_
        refine j_icmp_ne (tgt := 216) B d_Mo_compile_208 (by decide) (fun h208 => ?_) (fun h208 => (show False from absurd h208 (by decide)).elim)
        refine j_iload B d_Mo_compile_216 rfl ?_
        refine j_iconst (v := 5) B d_Mo_compile_218 (by decide) ?_
        refine j_icmp_ne (tgt := 227) B d_Mo_compile_219 (by decide) (fun h219 => (show False from h219 rfl).elim) (fun h219 => ?_)
        refine j_aloadn B d_Mo_compile_222 rfl ?_
        refine j_iloadn B d_Mo_compile_223 rfl ?_
        refine j_cVt B (ok_Mo_ends_c hf (X k) hn hnb hq hq6 hq0 hk48 hkd hk1) cv_Mo_ends ml_Mo_158 (m_0) rfl rfl ⟨rfl, rfl, by decide, by decide⟩ ⟨Nat.zero_le _, Nat.zero_le _⟩ hml (Nat.le_of_ble_eq_true rfl) rfl d_Mo_compile_224 ?_
        refine j_iinc B d_Mo_compile_227 rfl (by decide) (nI_1 k) ?_
        refine j_goto (tgt := 62) B d_Mo_compile_230 (by decide) ?_
        refine j_x (X (k + 1)) hX.symm ?_
        refine j_loc [(3, .int (nI (k + 1))), (0, .ref (ad 0)), (1, .int (nI f))] ⟨rfl, rfl, rfl, trivial⟩ ?_
        exact ih (k + 1) (by omega)
      · skip
        refine j_iloadn B d_Mo_compile_62 rfl ?_
        refine j_aloadn B d_Mo_compile_63 rfl ?_
        refine j_getr B fl_Mo_17 (m_0) rfl d_Mo_compile_64 ?_
        refine j_iloadn B d_Mo_compile_67 rfl ?_
        refine j_iald B (m_2) (⟨rfl, hf, by decide⟩) d_Mo_compile_68 ?_
        refine j_topi (nI t) (hlen k (by omega)) ?_
        refine j_icmp_ge (tgt := 233) B d_Mo_compile_69 (by decide) (fun h69 => (show False from absurd (nIle h69 (by omega) (by omega)) (by omega)).elim) (fun h69 => ?_)
        refine j_aloadn B d_Mo_compile_72 rfl ?_
        refine j_getr B fl_Mo_20 (m_0) rfl d_Mo_compile_73 ?_
        refine j_bipush (v := 20) B d_Mo_compile_76 (by decide) ?_
        refine j_iloadn B d_Mo_compile_78 rfl ?_
        refine j_imul B d_Mo_compile_79 ?_
        refine j_iloadn B d_Mo_compile_80 rfl ?_
        refine j_iadd B d_Mo_compile_81 ?_
        refine j_iald B (m_3) (⟨ixm 20 f k, by omega, by decide⟩) d_Mo_compile_82 ?_
        refine j_topi 5 hS ?_
        refine j_istore B d_Mo_compile_83 (by decide) ?_
        refine j_aloadn B d_Mo_compile_85 rfl ?_
        refine j_getr B fl_Mo_23 (m_0) rfl d_Mo_compile_86 ?_
        refine j_bipush (v := 20) B d_Mo_compile_89 (by decide) ?_
        refine j_iloadn B d_Mo_compile_91 rfl ?_
        refine j_imul B d_Mo_compile_92 ?_
        refine j_iloadn B d_Mo_compile_93 rfl ?_
        refine j_iadd B d_Mo_compile_94 ?_
        refine j_iald B (m_4) (⟨ixm 20 f k, by omega, by decide⟩) d_Mo_compile_95 ?_
        refine j_istore B d_Mo_compile_96 (by decide) ?_
        refine j_iload B d_Mo_compile_98 rfl ?_
        refine j_if_ne (tgt := 111) B d_Mo_compile_100 (by decide) (fun h100 => ?_) (fun h100 => (show False from absurd h100 (by decide)).elim)
        refine j_iload B d_Mo_compile_111 rfl ?_
        refine j_iconst (v := 1) B d_Mo_compile_113 (by decide) ?_
        refine j_icmp_ne (tgt := 125) B d_Mo_compile_114 (by decide) (fun h114 => ?_) (fun h114 => (show False from absurd h114 (by decide)).elim)
        refine j_iload B d_Mo_compile_125 rfl ?_
        refine j_iconst (v := 2) B d_Mo_compile_127 (by decide) ?_
        refine j_icmp_ne (tgt := 139) B d_Mo_compile_128 (by decide) (fun h128 => ?_) (fun h128 => (show False from absurd h128 (by decide)).elim)
        refine j_iload B d_Mo_compile_139 rfl ?_
        refine j_bipush (v := 7) B d_Mo_compile_141 (by decide) ?_
        refine j_icmp_ne (tgt := 153) B d_Mo_compile_143 (by decide) (fun h143 => ?_) (fun h143 => (show False from absurd h143 (by decide)).elim)
        refine j_iload B d_Mo_compile_153 rfl ?_
        refine j_bipush (v := 6) B d_Mo_compile_155 (by decide) ?_
        refine j_icmp_ne (tgt := 193) B d_Mo_compile_157 (by decide) (fun h157 => ?_) (fun h157 => (show False from absurd h157 (by decide)).elim)
        refine j_iload B d_Mo_compile_193 rfl ?_
        refine j_iconst (v := 3) B d_Mo_compile_195 (by decide) ?_
        refine j_icmp_ne (tgt := 205) B d_Mo_compile_196 (by decide) (fun h196 => ?_) (fun h196 => (show False from absurd h196 (by decide)).elim)
        refine j_iload B d_Mo_compile_205 rfl ?_
        refine j_iconst (v := 4) B d_Mo_compile_207 (by decide) ?_
        refine j_icmp_ne (tgt := 216) B d_Mo_compile_208 (by decide) (fun h208 => ?_) (fun h208 => (show False from absurd h208 (by decide)).elim)
        refine j_iload B d_Mo_compile_216 rfl ?_
        refine j_iconst (v := 5) B d_Mo_compile_218 (by decide) ?_
        refine j_icmp_ne (tgt := 227) B d_Mo_compile_219 (by decide) (fun h219 => (show False from h219 rfl).elim) (fun h219 => ?_)
        refine j_aloadn B d_Mo_compile_222 rfl ?_
        refine j_iloadn B d_Mo_compile_223 rfl ?_
        refine j_cVt B (ok_Mo_ends_l hf (X k) hn hnb hq hq6 hq0 hk48 hkd hk1 rfl) cv_Mo_ends ml_Mo_158 (m_0) rfl rfl ⟨rfl, rfl, by decide, by decide⟩ ⟨Nat.zero_le _, Nat.zero_le _⟩ hml (Nat.le_of_ble_eq_true rfl) rfl d_Mo_compile_224 ?_
        refine j_iinc B d_Mo_compile_227 rfl (by decide) (nI_1 k) ?_
        refine j_goto (tgt := 62) B d_Mo_compile_230 (by decide) ?_
        refine j_x (X (k + 1)) hX.symm ?_
        refine j_loc [(3, .int (nI (k + 1))), (0, .ref (ad 0)), (1, .int (nI f))] ⟨rfl, rfl, rfl, trivial⟩ ?_
        exact ih (k + 1) (by omega)
  refine j_iloadn B d_Mo_compile_0 rfl ?_
  refine j_iconst (v := 0) B d_Mo_compile_1 (by decide) ?_
  refine j_iconst (v := 5) B d_Mo_compile_2 (by decide) ?_
  refine j_cS B (ok_Mo_outside x (nI f) 0 5) cs_Mo_outside ml_Mo_104 rfl ⟨rfl, rfl, by decide, by decide⟩ ⟨Nat.zero_le _, Nat.zero_le _⟩ hml (Nat.le_of_ble_eq_true rfl) rfl d_Mo_compile_3 ?_
  refine j_istoren B d_Mo_compile_6 (by decide) ?_
  refine j_aloadn B d_Mo_compile_7 rfl ?_
  refine j_iloadn B d_Mo_compile_8 rfl ?_
  refine j_iloadn B d_Mo_compile_9 rfl ?_
  refine j_topi 0 (bI_f (f_in hf)) ?_
  refine j_if_ne (tgt := 25) B d_Mo_compile_10 (by decide) (fun h10 => (show False from h10 rfl).elim) (fun h10 => ?_)
  refine j_aloadn B d_Mo_compile_13 rfl ?_
  refine j_iloadn B d_Mo_compile_14 rfl ?_
  refine j_cVt B (ok_Mo_wellFormed hf x ht hl20) cv_Mo_wellFormed ml_Mo_149 (m_0) rfl rfl ⟨rfl, rfl, by decide, by decide⟩ ⟨Nat.zero_le _, Nat.zero_le _⟩ hml (Nat.le_of_ble_eq_true rfl) rfl d_Mo_compile_15 ?_
  refine j_if_ne (tgt := 25) B d_Mo_compile_18 (by decide) (fun h18 => ?_) (fun h18 => (show False from hwf h18).elim)
  refine j_iconst (v := 0) B d_Mo_compile_25 (by decide) ?_
  refine j_cVt B (ok_Mo_fails (ckM (wmF (fun j => x.2 (0, 0, 3) (20 * f + j)) t 0 0 (x.2 (0, 0, 17))).2.1 (wmF (fun j => x.2 (0, 0, 3) (20 * f + j)) t 0 0 (x.2 (0, 0, 17))).2.2 x) (bI (nI f < 0 ∨ 5 < nI f)) 0) cv_Mo_fails ml_Mo_108 (m_0) rfl rfl ⟨rfl, rfl, by decide, by decide⟩ ⟨Nat.zero_le _, Nat.zero_le _⟩ hml (Nat.le_of_ble_eq_true rfl) rfl d_Mo_compile_26 ?_
  refine j_if_eq (tgt := 34) B d_Mo_compile_29 (by decide) (fun h29 => ?_) (fun h29 => (show False from absurd (bI_ne h29) (by rw [fv0 (bI_f (f_in hf)) rfl]; decide)).elim)
  refine j_x (sI (ckM (wmF (fun j => x.2 (0, 0, 3) (20 * f + j)) t 0 0 (x.2 (0, 0, 17))).2.1 (wmF (fun j => x.2 (0, 0, 3) (20 * f + j)) t 0 0 (x.2 (0, 0, 17))).2.2 x) (0, 0, 0) 0 0) (by rw [fv0 (bI_f (f_in hf)) rfl]) ?_
  refine j_aloadn B d_Mo_compile_34 rfl ?_
  refine j_getr B fl_Mo_26 (m_0) rfl d_Mo_compile_35 ?_
  refine j_iloadn B d_Mo_compile_38 rfl ?_
  refine j_iconst (v := 0) B d_Mo_compile_39 (by decide) ?_
  refine j_iast B kM_inj (m_5) (⟨rfl, hf, by decide⟩) d_Mo_compile_40 ?_
  refine j_aloadn B d_Mo_compile_41 rfl ?_
  refine j_getr B fl_Mo_38 (m_0) rfl d_Mo_compile_42 ?_
  refine j_iloadn B d_Mo_compile_45 rfl ?_
  refine j_iconst (v := 0) B d_Mo_compile_46 (by decide) ?_
  refine j_iast B kM_inj (m_9) (⟨rfl, hf, by decide⟩) d_Mo_compile_47 ?_
  refine j_aloadn B d_Mo_compile_48 rfl ?_
  refine j_iconst (v := 0) B d_Mo_compile_49 (by decide) ?_
  refine j_puti B kM_inj fs_Mo_116 (m_0) rfl d_Mo_compile_50 ?_
  refine j_aloadn B d_Mo_compile_53 rfl ?_
  refine j_getr B fl_Mo_65 (m_0) rfl d_Mo_compile_54 ?_
  refine j_iconst (v := 0) B d_Mo_compile_57 (by decide) ?_
  refine j_iconst (v := (-1)) B d_Mo_compile_58 (by decide) ?_
  refine j_iast B kM_inj (m_18) (⟨rfl, by decide, by decide⟩) d_Mo_compile_59 ?_
  refine j_iconst (v := 0) B d_Mo_compile_60 (by decide) ?_
  refine j_istoren B d_Mo_compile_61 (by decide) ?_
  refine j_x (X 0) hX0.symm ?_
  refine j_loc [(3, .int (nI 0)), (0, .ref (ad 0)), (1, .int (nI f))] ⟨rfl, rfl, rfl, trivial⟩ ?_
  exact loop t 0 (by omega)
set_option maxRecDepth 100000 in
theorem ok_Mo_compile_1 {l : Launch} {D : va_G} {aC : Nat → ClassId} {ad : Nat → Nat} (x : tm_M) (k : Int32) (h1 : k < 0 ∨ 5 < k) :
    OkM l y_Mo_compile b_Mo_compile 6 (some .int) (rom 3 66) D aC ad [.ref (ad 0), .int k] x (some (.int 0)) (sI x (0, 0, 0) 0 1) := by
  refine ok_start (by decide) (Nat.le_of_ble_eq_true rfl) rfl ?_
  intro p e s m args below meth c B hr hlk hml
  have B : Cx p s m c args b_Mo_compile R_Mo D aC (rg 30 ad) 30 ad := B
  refine j_iloadn B d_Mo_compile_0 rfl ?_
  refine j_iconst (v := 0) B d_Mo_compile_1 (by decide) ?_
  refine j_iconst (v := 5) B d_Mo_compile_2 (by decide) ?_
  refine j_cS B (ok_Mo_outside x k 0 5) cs_Mo_outside ml_Mo_104 rfl ⟨rfl, rfl, by decide, by decide⟩ ⟨Nat.zero_le _, Nat.zero_le _⟩ hml (Nat.le_of_ble_eq_true rfl) rfl d_Mo_compile_3 ?_
  refine j_istoren B d_Mo_compile_6 (by decide) ?_
  refine j_aloadn B d_Mo_compile_7 rfl ?_
  refine j_iloadn B d_Mo_compile_8 rfl ?_
  refine j_iloadn B d_Mo_compile_9 rfl ?_
  refine j_if_ne (tgt := 25) B d_Mo_compile_10 (by decide) (fun h10 => ?_) (fun h10 => (show False from bI1 h1 h10).elim)
  refine j_iconst (v := 0) B d_Mo_compile_25 (by decide) ?_
  refine j_cVt B (ok_Mo_fails x (bI (k < 0 ∨ 5 < k)) 0) cv_Mo_fails ml_Mo_108 (m_0) rfl rfl ⟨rfl, rfl, by decide, by decide⟩ ⟨Nat.zero_le _, Nat.zero_le _⟩ hml (Nat.le_of_ble_eq_true rfl) rfl d_Mo_compile_26 ?_
  refine j_if_eq (tgt := 34) B d_Mo_compile_29 (by decide) (fun h29 => (show False from bI_e h29 (by rw [fv1 (bI1 h1)]; decide)).elim) (fun h29 => ?_)
  refine j_iconst (v := 0) B d_Mo_compile_32 (by decide) ?_
  exact j_iret B hr hlk d_Mo_compile_33 (rfl) (by rw [fv1 (bI1 h1)])
set_option maxRecDepth 100000 in
theorem ok_Mo_compile_2 {l : Launch} {D : va_G} {aC : Nat → ClassId} {ad : Nat → Nat} {f : Nat} (hf : f < 6) (x : tm_M) {t : Nat} (ht : x.2 (0, 0, 2) f = nI t) (hl20 : t ≤ 20) (hwf : (wmF (fun j => x.2 (0, 0, 3) (20 * f + j)) t 0 0 (x.2 (0, 0, 17))).1 = 0) :
    OkM l y_Mo_compile b_Mo_compile 6 (some .int) (rom 3 66) D aC ad [.ref (ad 0), .int (nI f)] x (some (.int 0)) (sI (ckM (wmF (fun j => x.2 (0, 0, 3) (20 * f + j)) t 0 0 (x.2 (0, 0, 17))).2.1 (wmF (fun j => x.2 (0, 0, 3) (20 * f + j)) t 0 0 (x.2 (0, 0, 17))).2.2 x) (0, 0, 0) 0 2) := by
  refine ok_start (by decide) (Nat.le_of_ble_eq_true rfl) rfl ?_
  intro p e s m args below meth c B hr hlk hml
  have B : Cx p s m c args b_Mo_compile R_Mo D aC (rg 30 ad) 30 ad := B
  refine j_iloadn B d_Mo_compile_0 rfl ?_
  refine j_iconst (v := 0) B d_Mo_compile_1 (by decide) ?_
  refine j_iconst (v := 5) B d_Mo_compile_2 (by decide) ?_
  refine j_cS B (ok_Mo_outside x (nI f) 0 5) cs_Mo_outside ml_Mo_104 rfl ⟨rfl, rfl, by decide, by decide⟩ ⟨Nat.zero_le _, Nat.zero_le _⟩ hml (Nat.le_of_ble_eq_true rfl) rfl d_Mo_compile_3 ?_
  refine j_istoren B d_Mo_compile_6 (by decide) ?_
  refine j_aloadn B d_Mo_compile_7 rfl ?_
  refine j_iloadn B d_Mo_compile_8 rfl ?_
  refine j_iloadn B d_Mo_compile_9 rfl ?_
  refine j_topi 0 (bI_f (f_in hf)) ?_
  refine j_if_ne (tgt := 25) B d_Mo_compile_10 (by decide) (fun h10 => (show False from h10 rfl).elim) (fun h10 => ?_)
  refine j_aloadn B d_Mo_compile_13 rfl ?_
  refine j_iloadn B d_Mo_compile_14 rfl ?_
  refine j_cVt B (ok_Mo_wellFormed hf x ht hl20) cv_Mo_wellFormed ml_Mo_149 (m_0) rfl rfl ⟨rfl, rfl, by decide, by decide⟩ ⟨Nat.zero_le _, Nat.zero_le _⟩ hml (Nat.le_of_ble_eq_true rfl) rfl d_Mo_compile_15 ?_
  refine j_if_ne (tgt := 25) B d_Mo_compile_18 (by decide) (fun h18 => (show False from h18 hwf).elim) (fun h18 => ?_)
  refine j_iconst (v := 1) B d_Mo_compile_21 (by decide) ?_
  refine j_goto (tgt := 26) B d_Mo_compile_22 (by decide) ?_
  refine j_cVt B (ok_Mo_fails (ckM (wmF (fun j => x.2 (0, 0, 3) (20 * f + j)) t 0 0 (x.2 (0, 0, 17))).2.1 (wmF (fun j => x.2 (0, 0, 3) (20 * f + j)) t 0 0 (x.2 (0, 0, 17))).2.2 x) (bI (nI f < 0 ∨ 5 < nI f)) 1) cv_Mo_fails ml_Mo_108 (m_0) rfl rfl ⟨rfl, rfl, by decide, by decide⟩ ⟨Nat.zero_le _, Nat.zero_le _⟩ hml (Nat.le_of_ble_eq_true rfl) rfl d_Mo_compile_26 ?_
  refine j_if_eq (tgt := 34) B d_Mo_compile_29 (by decide) (fun h29 => (show False from bI_e h29 (by rw [fv2 (bI_f (f_in hf)) (by decide)]; decide)).elim) (fun h29 => ?_)
  refine j_iconst (v := 0) B d_Mo_compile_32 (by decide) ?_
  exact j_iret B hr hlk d_Mo_compile_33 (rfl) (by rw [fv2 (bI_f (f_in hf)) (by decide)])
