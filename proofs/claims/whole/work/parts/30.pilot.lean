theorem ok_Pr_hasAction {l : Launch} {D : va_G} {aC : Nat → ClassId} {ad : Nat → Nat} {f : Nat} (hf : f < 6) (x : tm_M) (k : Int32) :
    OkX l y_Pr_hasAction b_Pr_hasAction 2 (some .boolean) (rom 0 0) D aC ad [.ref (ad (prO f)), .int k] x (some (.int (bI (0 ≤ k ∧ k < x.1 (6, f, 0) 6)))) x := by
  refine ok_start (by decide) (Nat.le_of_ble_eq_true rfl) rfl ?_
  intro p e s m args below meth c B hr hlk hml
  have B : Cx p s m c args b_Pr_hasAction R_Pr D aC (rg 111 ad) 111 ad := B
  refine j_iloadn B d_Pr_hasAction_0 rfl ?_
  refine j_if_lt B d_Pr_hasAction_1 (tgt := 16) (by decide) (fun h1 => ?_) (fun h1 => ?_)
  · refine j_iconst (v := 0) B d_Pr_hasAction_16 rfl ?_
    exact j_zret B hr hlk d_Pr_hasAction_17 (Or.inl rfl) (by rw [bI_f]; intro h; exact absurd h.1 (Int32.not_le.mpr h1)) rfl
  · refine j_iloadn B d_Pr_hasAction_4 rfl ?_
    refine j_aloadn B d_Pr_hasAction_5 rfl ?_
    refine j_geti B fl_Pr_40 (q_pr hf) rfl d_Pr_hasAction_6 ?_
    refine j_icmp_ge B d_Pr_hasAction_9 (tgt := 16) (by decide) (fun h2 => ?_) (fun h2 => ?_)
    · refine j_iconst (v := 0) B d_Pr_hasAction_16 rfl ?_
      exact j_zret B hr hlk d_Pr_hasAction_17 (Or.inl rfl) (by rw [bI_f]; intro h; exact absurd h.2 (Int32.not_lt.mpr h2)) rfl
    · refine j_iconst (v := 1) B d_Pr_hasAction_12 rfl ?_
      refine j_goto B d_Pr_hasAction_13 (tgt := 17) (by decide) ?_
      exact j_zret B hr hlk d_Pr_hasAction_17 (Or.inr rfl) (by rw [bI_t]; exact ⟨Int32.not_lt.mp h1, Int32.not_le.mp h2⟩) rfl
theorem ok_Pr_nextOf {l : Launch} {D : va_G} {aC : Nat → ClassId} {ad : Nat → Nat} {f : Nat} (hf : f < 6) (x : tm_M) (k : Int32) {a : Nat} (ha : x.1 (6, f, 0) 6 = nI a) (ha2 : a ≤ 40) :
    OkX l y_Pr_nextOf b_Pr_nextOf 2 (some .int) (rom 1 21) D aC ad [.ref (ad (prO f)), .int k] x (some (.int (if 0 ≤ k ∧ k < x.1 (6, f, 0) 6 then x.2 (6, f, 5) k.toNatClampNeg else -1))) x := by
  refine ok_start (by decide) (Nat.le_of_ble_eq_true rfl) rfl ?_
  intro p e s m args below meth c B hr hlk hml
  have B : Cx p s m c args b_Pr_nextOf R_Pr D aC (rg 111 ad) 111 ad := B
  refine j_aloadn B d_Pr_nextOf_0 rfl ?_
  refine j_iloadn B d_Pr_nextOf_1 rfl ?_
  refine j_cVt (st := []) B (ok_Pr_hasAction hf x k) cv_Pr_hasAction ml_Pr_56 (q_pr hf) rfl rfl ⟨rfl, rfl, by decide, by decide⟩ ⟨Nat.zero_le _, Nat.zero_le _⟩ hml (by decide) rfl d_Pr_nextOf_2 ?_
  sorry
