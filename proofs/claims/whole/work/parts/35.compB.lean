/-- a CATCH begins: the row's exit or end stands already (memory x, n instructions) -/
def bcX (f i n c a : Nat) (u : Int32) (x : tm_M) : tm_M := sI (acX f a (-2) u (sI (sI (laX f c n x) (4, i, 0) 4 (nI (c + 1))) (4, i, 0) 0 4)) (4, i, 0) 2 (nI a)
/-- a row is closed: its end stands already -/
def clX (f n t o : Nat) (E : Nat → Nat) (x : tm_M) : tm_M := sI (aeX f n E x t) (3, 0, 0) 1 (nI (o - 1))
set_option maxRecDepth 100000 in
theorem ok_Co_beginCatch_t {l : Launch} {D : va_G} {aC : Nat → ClassId} {ad : Nat → Nat} {f : Nat} (hf : f < 6) (x : tm_M) {o n t nc a : Nat} {u : Int32} (ho : x.1 (3, 0, 0) 1 = nI o) (ho1 : 0 < o) (h5 : o ≤ 5) (hn : x.1 (6, f, 0) 2 = nI n) (h81 : n + 4 ≤ 81) (ht : x.1 (4, o - 1, 0) 6 = nI t) (h20 : t < 20) (hc : x.1 (4, o - 1, 0) 4 = nI nc) (hca : nc < a) (ha : x.1 (6, f, 0) 6 = nI a) (h40 : a < 40) (hu : x.1 (4, o - 1, 0) 3 = u) (hkd : x.1 (4, o - 1, 0) 0 = 3) :
    OkX l y_Co_beginCatch b_Co_beginCatch 3 none (rom 3 66) D aC ad [.ref (ad 22), .ref (ad (prO f))] x none (bcX f (o - 1) (n + 1) nc a u (exX f (o - 1) n t x)) := by
  refine ok_start (by decide) (Nat.le_of_ble_eq_true rfl) rfl ?_
  intro p e s m args below meth c B hr hlk hml
  have B : Cx p s m c args b_Co_beginCatch R_Co D aC (rg 111 ad) 111 ad := B
  have hot : o - 1 < 5 := by omega
  refine j_aloadn B d_Co_beginCatch_0 rfl ?_
  refine j_geti B fl_Co_23 (q_22) rfl d_Co_beginCatch_1 ?_
  refine j_topi (nI o) ho ?_
  refine j_iconst (v := 1) B d_Co_beginCatch_4 (by decide) ?_
  refine j_icmp_ge (tgt := 9) B d_Co_beginCatch_5 (by decide) (fun h5_ => ?_) (fun h5_ => (show False from h5_ (nI_le (a := 1) (by omega) (by omega))).elim)
  refine j_aloadn B d_Co_beginCatch_9 rfl ?_
  refine j_getr B fl_Co_11 (q_22) rfl d_Co_beginCatch_10 ?_
  refine j_aloadn B d_Co_beginCatch_13 rfl ?_
  refine j_geti B fl_Co_23 (q_22) rfl d_Co_beginCatch_14 ?_
  refine j_topi (nI o) ho ?_
  refine j_iconst (v := 1) B d_Co_beginCatch_17 (by decide) ?_
  refine j_isub B d_Co_beginCatch_18 ?_
  refine j_aald B ⟨(q_23).1, (q_23).2.1⟩ rfl (⟨nIp ho1, hot, by decide⟩) d_Co_beginCatch_19 ?_
  refine j_astoren B d_Co_beginCatch_20 (by decide) ?_
  refine j_aloadn B d_Co_beginCatch_21 rfl ?_
  refine j_geti B fl_Co_86 (q_bl hot) rfl d_Co_beginCatch_22 ?_
  refine j_topi 3 hkd ?_
  refine j_iconst (v := 3) B d_Co_beginCatch_25 (by decide) ?_
  refine j_icmp_ne (tgt := 38) B d_Co_beginCatch_26 (by decide) (fun h26 => (show False from h26 rfl).elim) (fun h26 => ?_)
  refine j_aloadn B d_Co_beginCatch_29 rfl ?_
  refine j_aloadn B d_Co_beginCatch_30 rfl ?_
  refine j_aloadn B d_Co_beginCatch_31 rfl ?_
  refine j_cVt B (ok_Co_emitExit hot hf x hn (by omega) ht h20) cv_Co_emitExit ml_Co_89 (q_22) rfl rfl ⟨rfl, rfl, by decide, by decide⟩ ⟨Nat.zero_le _, Nat.zero_le _⟩ hml (Nat.le_of_ble_eq_true rfl) rfl d_Co_beginCatch_32 ?_
  refine j_goto (tgt := 44) B d_Co_beginCatch_35 (by decide) ?_
  refine j_aloadn B d_Co_beginCatch_44 rfl ?_
  refine j_aloadn B d_Co_beginCatch_45 rfl ?_
  refine j_geti B fl_Co_96 (q_bl hot) rfl d_Co_beginCatch_46 ?_
  refine j_topi (nI nc) (by simp [flX, fcX, exX, emX, nxX, laX, acX, sI, sA, upd, hc]) ?_
  refine j_cVt B (ok_Pr_landHere hf (exX f (o - 1) n t x) (k := nc) (a := a) (by simp [flX, fcX, exX, emX, nxX, laX, acX, sI, sA, upd, ha]) (by omega) hca) cv_Pr_landHere ml_Co_99 (q_pr hf) rfl rfl ⟨rfl, rfl, by decide, by decide⟩ ⟨Nat.zero_le _, Nat.zero_le _⟩ hml (Nat.le_of_ble_eq_true rfl) rfl d_Co_beginCatch_49 ?_
  refine j_x (laX f nc (n + 1) (exX f (o - 1) n t x)) (by show sA _ _ _ _ = sA _ _ _ _; rw [show (exX f (o - 1) n t x).1 (6, f, 0) 2 = nI (n + 1) from by simp [flX, fcX, exX, emX, nxX, laX, acX, sI, sA, upd, hn]]) ?_
  refine j_aloadn B d_Co_beginCatch_52 rfl ?_
  refine j_dup B d_Co_beginCatch_53 rfl ?_
  refine j_geti B fl_Co_96 (q_bl hot) rfl d_Co_beginCatch_54 ?_
  refine j_iconst (v := 1) B d_Co_beginCatch_57 (by decide) ?_
  refine j_iadd B d_Co_beginCatch_58 ?_
  refine j_topi (nI (nc + 1)) (by rw [show (laX f nc (n + 1) (exX f (o - 1) n t x)).1 (4, o - 1, 0) 4 = nI nc from by simp [flX, fcX, exX, emX, nxX, laX, acX, sI, sA, upd, hc], nI_1]) ?_
  refine j_puti B kX_inj fs_Co_96 (q_bl hot) rfl d_Co_beginCatch_59 ?_
  refine j_aloadn B d_Co_beginCatch_62 rfl ?_
  refine j_iconst (v := 4) B d_Co_beginCatch_63 (by decide) ?_
  refine j_puti B kX_inj fs_Co_86 (q_bl hot) rfl d_Co_beginCatch_64 ?_
  refine j_aloadn B d_Co_beginCatch_67 rfl ?_
  refine j_aloadn B d_Co_beginCatch_68 rfl ?_
  refine j_bipush (v := (-2)) B d_Co_beginCatch_69 (by decide) ?_
  refine j_aloadn B d_Co_beginCatch_71 rfl ?_
  refine j_geti B fl_Co_103 (q_bl hot) rfl d_Co_beginCatch_72 ?_
  refine j_topi u (by simp [flX, fcX, exX, emX, nxX, laX, acX, sI, sA, upd, hu]) ?_
  refine j_cVt B (ok_Pr_makeAction hf (sI (sI (laX f nc (n + 1) (exX f (o - 1) n t x)) (4, o - 1, 0) 4 (nI (nc + 1))) (4, o - 1, 0) 0 4) (-2) u (a := a) (by simp [flX, fcX, exX, emX, nxX, laX, acX, sI, sA, upd, ha]) h40) cv_Pr_makeAction ml_Co_55 (q_pr hf) rfl rfl ⟨rfl, rfl, by decide, by decide⟩ ⟨Nat.zero_le _, Nat.zero_le _⟩ hml (Nat.le_of_ble_eq_true rfl) rfl d_Co_beginCatch_75 ?_
  refine j_puti B kX_inj fs_Co_73 (q_bl hot) rfl d_Co_beginCatch_78 ?_
  exact j_vret B hr hlk d_Co_beginCatch_81 (rfl) (rfl)
set_option maxRecDepth 100000 in
theorem ok_Co_beginCatch_c {l : Launch} {D : va_G} {aC : Nat → ClassId} {ad : Nat → Nat} {f : Nat} (hf : f < 6) (x : tm_M) {o n t nc a : Nat} {u : Int32} (ho : x.1 (3, 0, 0) 1 = nI o) (ho1 : 0 < o) (h5 : o ≤ 5) (hn : x.1 (6, f, 0) 2 = nI n) (h81 : n + 4 ≤ 81) (ht : x.1 (4, o - 1, 0) 6 = nI t) (h20 : t < 20) (hc : x.1 (4, o - 1, 0) 4 = nI nc) (hca : nc < a) (ha : x.1 (6, f, 0) 6 = nI a) (h40 : a < 40) (hu : x.1 (4, o - 1, 0) 3 = u) {k : Nat} (hkd : ¬ x.1 (4, o - 1, 0) 0 = 3) (hk : x.1 (4, o - 1, 0) 2 = nI k) (hka : k < a) :
    OkX l y_Co_beginCatch b_Co_beginCatch 3 none (rom 3 66) D aC ad [.ref (ad 22), .ref (ad (prO f))] x none (bcX f (o - 1) (n + 4) nc a u (fcX f (o - 1) n t k x)) := by
  refine ok_start (by decide) (Nat.le_of_ble_eq_true rfl) rfl ?_
  intro p e s m args below meth c B hr hlk hml
  have B : Cx p s m c args b_Co_beginCatch R_Co D aC (rg 111 ad) 111 ad := B
  have hot : o - 1 < 5 := by omega
  refine j_aloadn B d_Co_beginCatch_0 rfl ?_
  refine j_geti B fl_Co_23 (q_22) rfl d_Co_beginCatch_1 ?_
  refine j_topi (nI o) ho ?_
  refine j_iconst (v := 1) B d_Co_beginCatch_4 (by decide) ?_
  refine j_icmp_ge (tgt := 9) B d_Co_beginCatch_5 (by decide) (fun h5_ => ?_) (fun h5_ => (show False from h5_ (nI_le (a := 1) (by omega) (by omega))).elim)
  refine j_aloadn B d_Co_beginCatch_9 rfl ?_
  refine j_getr B fl_Co_11 (q_22) rfl d_Co_beginCatch_10 ?_
  refine j_aloadn B d_Co_beginCatch_13 rfl ?_
  refine j_geti B fl_Co_23 (q_22) rfl d_Co_beginCatch_14 ?_
  refine j_topi (nI o) ho ?_
  refine j_iconst (v := 1) B d_Co_beginCatch_17 (by decide) ?_
  refine j_isub B d_Co_beginCatch_18 ?_
  refine j_aald B ⟨(q_23).1, (q_23).2.1⟩ rfl (⟨nIp ho1, hot, by decide⟩) d_Co_beginCatch_19 ?_
  refine j_astoren B d_Co_beginCatch_20 (by decide) ?_
  refine j_aloadn B d_Co_beginCatch_21 rfl ?_
  refine j_geti B fl_Co_86 (q_bl hot) rfl d_Co_beginCatch_22 ?_
  refine j_iconst (v := 3) B d_Co_beginCatch_25 (by decide) ?_
  refine j_icmp_ne (tgt := 38) B d_Co_beginCatch_26 (by decide) (fun h26 => ?_) (fun h26 => (show False from hkd h26).elim)
  refine j_aloadn B d_Co_beginCatch_38 rfl ?_
  refine j_aloadn B d_Co_beginCatch_39 rfl ?_
  refine j_aloadn B d_Co_beginCatch_40 rfl ?_
  refine j_cVt B (ok_Co_finishCatch hot hf x hn h81 ht h20 hk hka ha (by omega)) cv_Co_finishCatch ml_Co_93 (q_22) rfl rfl ⟨rfl, rfl, by decide, by decide⟩ ⟨Nat.zero_le _, Nat.zero_le _⟩ hml (Nat.le_of_ble_eq_true rfl) rfl d_Co_beginCatch_41 ?_
  refine j_aloadn B d_Co_beginCatch_44 rfl ?_
  refine j_aloadn B d_Co_beginCatch_45 rfl ?_
  refine j_geti B fl_Co_96 (q_bl hot) rfl d_Co_beginCatch_46 ?_
  refine j_topi (nI nc) (by simp [flX, fcX, exX, emX, nxX, laX, acX, sI, sA, upd, hc]) ?_
  refine j_cVt B (ok_Pr_landHere hf (fcX f (o - 1) n t k x) (k := nc) (a := a) (by simp [flX, fcX, exX, emX, nxX, laX, acX, sI, sA, upd, ha]) (by omega) hca) cv_Pr_landHere ml_Co_99 (q_pr hf) rfl rfl ⟨rfl, rfl, by decide, by decide⟩ ⟨Nat.zero_le _, Nat.zero_le _⟩ hml (Nat.le_of_ble_eq_true rfl) rfl d_Co_beginCatch_49 ?_
  refine j_x (laX f nc (n + 4) (fcX f (o - 1) n t k x)) (by show sA _ _ _ _ = sA _ _ _ _; rw [show (fcX f (o - 1) n t k x).1 (6, f, 0) 2 = nI (n + 4) from by simp [flX, fcX, exX, emX, nxX, laX, acX, sI, sA, upd, hn]]) ?_
  refine j_aloadn B d_Co_beginCatch_52 rfl ?_
  refine j_dup B d_Co_beginCatch_53 rfl ?_
  refine j_geti B fl_Co_96 (q_bl hot) rfl d_Co_beginCatch_54 ?_
  refine j_iconst (v := 1) B d_Co_beginCatch_57 (by decide) ?_
  refine j_iadd B d_Co_beginCatch_58 ?_
  refine j_topi (nI (nc + 1)) (by rw [show (laX f nc (n + 4) (fcX f (o - 1) n t k x)).1 (4, o - 1, 0) 4 = nI nc from by simp [flX, fcX, exX, emX, nxX, laX, acX, sI, sA, upd, hc], nI_1]) ?_
  refine j_puti B kX_inj fs_Co_96 (q_bl hot) rfl d_Co_beginCatch_59 ?_
  refine j_aloadn B d_Co_beginCatch_62 rfl ?_
  refine j_iconst (v := 4) B d_Co_beginCatch_63 (by decide) ?_
  refine j_puti B kX_inj fs_Co_86 (q_bl hot) rfl d_Co_beginCatch_64 ?_
  refine j_aloadn B d_Co_beginCatch_67 rfl ?_
  refine j_aloadn B d_Co_beginCatch_68 rfl ?_
  refine j_bipush (v := (-2)) B d_Co_beginCatch_69 (by decide) ?_
  refine j_aloadn B d_Co_beginCatch_71 rfl ?_
  refine j_geti B fl_Co_103 (q_bl hot) rfl d_Co_beginCatch_72 ?_
  refine j_topi u (by simp [flX, fcX, exX, emX, nxX, laX, acX, sI, sA, upd, hu]) ?_
  refine j_cVt B (ok_Pr_makeAction hf (sI (sI (laX f nc (n + 4) (fcX f (o - 1) n t k x)) (4, o - 1, 0) 4 (nI (nc + 1))) (4, o - 1, 0) 0 4) (-2) u (a := a) (by simp [flX, fcX, exX, emX, nxX, laX, acX, sI, sA, upd, ha]) h40) cv_Pr_makeAction ml_Co_55 (q_pr hf) rfl rfl ⟨rfl, rfl, by decide, by decide⟩ ⟨Nat.zero_le _, Nat.zero_le _⟩ hml (Nat.le_of_ble_eq_true rfl) rfl d_Co_beginCatch_75 ?_
  refine j_puti B kX_inj fs_Co_73 (q_bl hot) rfl d_Co_beginCatch_78 ?_
  exact j_vret B hr hlk d_Co_beginCatch_81 (rfl) (rfl)
set_option maxRecDepth 100000 in
theorem ok_Co_closeBlock_l {l : Launch} {D : va_G} {aC : Nat → ClassId} {ad : Nat → Nat} {f : Nat} (hf : f < 6) (x : tm_M) {o n t k a : Nat} (E : Nat → Nat) (ho : x.1 (3, 0, 0) 1 = nI o) (ho1 : 0 < o) (h5 : o ≤ 5) (hn : x.1 (6, f, 0) 2 = nI n) (h81 : n + 4 ≤ 81) (ht : x.1 (4, o - 1, 0) 6 = nI t) (h20 : t < 20) (hk : x.1 (4, o - 1, 0) 2 = nI k) (hka : k < a) (ha : x.1 (6, f, 0) 6 = nI a) (h40 : a ≤ 40) (hE : ∀ j, j < t → x.2 (4, o - 1, 1) j = nI (E j) ∧ E j < n) (hEt : E t = n + 1) {w : Int32} (hkd : x.1 (4, o - 1, 0) 0 = 6) (hw : x.1 (4, o - 1, 0) 1 = w) :
    OkX l y_Co_closeBlock b_Co_closeBlock 3 none (rom 3 66) D aC ad [.ref (ad 22), .ref (ad (prO f))] x none (clX f (n + 4) (t + 1) o E (flX f (o - 1) n t k w x)) := by
  refine ok_start (by decide) (Nat.le_of_ble_eq_true rfl) rfl ?_
  intro p e s m args below meth c B hr hlk hml
  have B : Cx p s m c args b_Co_closeBlock R_Co D aC (rg 111 ad) 111 ad := B
  have hot : o - 1 < 5 := by omega
  have hEE : ∀ j, j < t + 1 → (flX f (o - 1) n t k w x).2 (4, o - 1, 1) j = nI (E j) ∧ E j < n + 4 := by
    intro j hj
    by_cases hjt : j = t
    · subst hjt
      refine ⟨?_, by omega⟩
      rw [hEt]
      simp [flX, fcX, exX, emX, nxX, laX, sI, sA, upd]
    · obtain ⟨e1, e2⟩ := hE j (by omega)
      refine ⟨?_, by omega⟩
      rw [← e1]
      simp [flX, fcX, exX, emX, nxX, laX, sI, sA, upd, hjt]
  refine j_aloadn B d_Co_closeBlock_0 rfl ?_
  refine j_geti B fl_Co_23 (q_22) rfl d_Co_closeBlock_1 ?_
  refine j_topi (nI o) ho ?_
  refine j_iconst (v := 1) B d_Co_closeBlock_4 (by decide) ?_
  refine j_icmp_ge (tgt := 9) B d_Co_closeBlock_5 (by decide) (fun h5_ => ?_) (fun h5_ => (show False from h5_ (nI_le (a := 1) (by omega) (by omega))).elim)
  refine j_aloadn B d_Co_closeBlock_9 rfl ?_
  refine j_getr B fl_Co_11 (q_22) rfl d_Co_closeBlock_10 ?_
  refine j_aloadn B d_Co_closeBlock_13 rfl ?_
  refine j_geti B fl_Co_23 (q_22) rfl d_Co_closeBlock_14 ?_
  refine j_topi (nI o) ho ?_
  refine j_iconst (v := 1) B d_Co_closeBlock_17 (by decide) ?_
  refine j_isub B d_Co_closeBlock_18 ?_
  refine j_aald B ⟨(q_23).1, (q_23).2.1⟩ rfl (⟨nIp ho1, hot, by decide⟩) d_Co_closeBlock_19 ?_
  refine j_astoren B d_Co_closeBlock_20 (by decide) ?_
  refine j_aloadn B d_Co_closeBlock_21 rfl ?_
  refine j_geti B fl_Co_86 (q_bl hot) rfl d_Co_closeBlock_22 ?_
  refine j_bipush (v := 6) B d_Co_closeBlock_25 (by decide) ?_
  refine j_icmp_ne (tgt := 39) B d_Co_closeBlock_27 (by decide) (fun h27 => (show False from h27 hkd).elim) (fun h27 => ?_)
  refine j_aloadn B d_Co_closeBlock_30 rfl ?_
  refine j_aloadn B d_Co_closeBlock_31 rfl ?_
  refine j_aloadn B d_Co_closeBlock_32 rfl ?_
  refine j_cVt B (ok_Co_finishLocal hot hf x hn h81 ht h20 hk hka ha h40 hw) cv_Co_finishLocal ml_Co_106 (q_22) rfl rfl ⟨rfl, rfl, by decide, by decide⟩ ⟨Nat.zero_le _, Nat.zero_le _⟩ hml (Nat.le_of_ble_eq_true rfl) rfl d_Co_closeBlock_33 ?_
  refine j_goto (tgt := 45) B d_Co_closeBlock_36 (by decide) ?_
  refine j_aloadn B d_Co_closeBlock_45 rfl ?_
  refine j_aloadn B d_Co_closeBlock_46 rfl ?_
  refine j_cVt B (ok_Bl_aimExits hot hf (flX f (o - 1) n t k w x) (t := t + 1) (n := n + 4) E (by simp [flX, fcX, exX, emX, nxX, laX, acX, sI, sA, upd, ht]) (by omega) (by simp [flX, fcX, exX, emX, nxX, laX, acX, sI, sA, upd, hn]) (by omega) hEE) cv_Bl_aimExits ml_Co_109 (q_bl hot) rfl rfl ⟨rfl, rfl, by decide, by decide⟩ ⟨Nat.zero_le _, Nat.zero_le _⟩ hml (Nat.le_of_ble_eq_true rfl) rfl d_Co_closeBlock_47 ?_
  refine j_aloadn B d_Co_closeBlock_50 rfl ?_
  refine j_dup B d_Co_closeBlock_51 rfl ?_
  refine j_geti B fl_Co_23 (q_22) rfl d_Co_closeBlock_52 ?_
  refine j_iconst (v := 1) B d_Co_closeBlock_55 (by decide) ?_
  refine j_isub B d_Co_closeBlock_56 ?_
  refine j_topi (nI (o - 1)) (by rw [aeX_1, show (flX f (o - 1) n t k w x).1 (3, 0, 0) 1 = nI o from by simp [flX, fcX, exX, emX, nxX, laX, acX, sI, sA, upd, ho]]; exact nIp ho1) ?_
  refine j_puti B kX_inj fs_Co_23 (q_22) rfl d_Co_closeBlock_57 ?_
  exact j_vret B hr hlk d_Co_closeBlock_60 (rfl) (rfl)
set_option maxRecDepth 100000 in
theorem ok_Co_closeBlock_c {l : Launch} {D : va_G} {aC : Nat → ClassId} {ad : Nat → Nat} {f : Nat} (hf : f < 6) (x : tm_M) {o n t k a : Nat} (E : Nat → Nat) (ho : x.1 (3, 0, 0) 1 = nI o) (ho1 : 0 < o) (h5 : o ≤ 5) (hn : x.1 (6, f, 0) 2 = nI n) (h81 : n + 4 ≤ 81) (ht : x.1 (4, o - 1, 0) 6 = nI t) (h20 : t < 20) (hk : x.1 (4, o - 1, 0) 2 = nI k) (hka : k < a) (ha : x.1 (6, f, 0) 6 = nI a) (h40 : a ≤ 40) (hE : ∀ j, j < t → x.2 (4, o - 1, 1) j = nI (E j) ∧ E j < n) (hEt : E t = n + 1) (hkd : ¬ x.1 (4, o - 1, 0) 0 = 6) :
    OkX l y_Co_closeBlock b_Co_closeBlock 3 none (rom 3 66) D aC ad [.ref (ad 22), .ref (ad (prO f))] x none (clX f (n + 4) (t + 1) o E (fcX f (o - 1) n t k x)) := by
  refine ok_start (by decide) (Nat.le_of_ble_eq_true rfl) rfl ?_
  intro p e s m args below meth c B hr hlk hml
  have B : Cx p s m c args b_Co_closeBlock R_Co D aC (rg 111 ad) 111 ad := B
  have hot : o - 1 < 5 := by omega
  have hEE : ∀ j, j < t + 1 → (fcX f (o - 1) n t k x).2 (4, o - 1, 1) j = nI (E j) ∧ E j < n + 4 := by
    intro j hj
    by_cases hjt : j = t
    · subst hjt
      refine ⟨?_, by omega⟩
      rw [hEt]
      simp [flX, fcX, exX, emX, nxX, laX, sI, sA, upd]
    · obtain ⟨e1, e2⟩ := hE j (by omega)
      refine ⟨?_, by omega⟩
      rw [← e1]
      simp [flX, fcX, exX, emX, nxX, laX, sI, sA, upd, hjt]
  refine j_aloadn B d_Co_closeBlock_0 rfl ?_
  refine j_geti B fl_Co_23 (q_22) rfl d_Co_closeBlock_1 ?_
  refine j_topi (nI o) ho ?_
  refine j_iconst (v := 1) B d_Co_closeBlock_4 (by decide) ?_
  refine j_icmp_ge (tgt := 9) B d_Co_closeBlock_5 (by decide) (fun h5_ => ?_) (fun h5_ => (show False from h5_ (nI_le (a := 1) (by omega) (by omega))).elim)
  refine j_aloadn B d_Co_closeBlock_9 rfl ?_
  refine j_getr B fl_Co_11 (q_22) rfl d_Co_closeBlock_10 ?_
  refine j_aloadn B d_Co_closeBlock_13 rfl ?_
  refine j_geti B fl_Co_23 (q_22) rfl d_Co_closeBlock_14 ?_
  refine j_topi (nI o) ho ?_
  refine j_iconst (v := 1) B d_Co_closeBlock_17 (by decide) ?_
  refine j_isub B d_Co_closeBlock_18 ?_
  refine j_aald B ⟨(q_23).1, (q_23).2.1⟩ rfl (⟨nIp ho1, hot, by decide⟩) d_Co_closeBlock_19 ?_
  refine j_astoren B d_Co_closeBlock_20 (by decide) ?_
  refine j_aloadn B d_Co_closeBlock_21 rfl ?_
  refine j_geti B fl_Co_86 (q_bl hot) rfl d_Co_closeBlock_22 ?_
  refine j_bipush (v := 6) B d_Co_closeBlock_25 (by decide) ?_
  refine j_icmp_ne (tgt := 39) B d_Co_closeBlock_27 (by decide) (fun h27 => ?_) (fun h27 => (show False from hkd h27).elim)
  refine j_aloadn B d_Co_closeBlock_39 rfl ?_
  refine j_aloadn B d_Co_closeBlock_40 rfl ?_
  refine j_aloadn B d_Co_closeBlock_41 rfl ?_
  refine j_cVt B (ok_Co_finishCatch hot hf x hn h81 ht h20 hk hka ha h40) cv_Co_finishCatch ml_Co_93 (q_22) rfl rfl ⟨rfl, rfl, by decide, by decide⟩ ⟨Nat.zero_le _, Nat.zero_le _⟩ hml (Nat.le_of_ble_eq_true rfl) rfl d_Co_closeBlock_42 ?_
  refine j_aloadn B d_Co_closeBlock_45 rfl ?_
  refine j_aloadn B d_Co_closeBlock_46 rfl ?_
  refine j_cVt B (ok_Bl_aimExits hot hf (fcX f (o - 1) n t k x) (t := t + 1) (n := n + 4) E (by simp [flX, fcX, exX, emX, nxX, laX, acX, sI, sA, upd, ht]) (by omega) (by simp [flX, fcX, exX, emX, nxX, laX, acX, sI, sA, upd, hn]) (by omega) hEE) cv_Bl_aimExits ml_Co_109 (q_bl hot) rfl rfl ⟨rfl, rfl, by decide, by decide⟩ ⟨Nat.zero_le _, Nat.zero_le _⟩ hml (Nat.le_of_ble_eq_true rfl) rfl d_Co_closeBlock_47 ?_
  refine j_aloadn B d_Co_closeBlock_50 rfl ?_
  refine j_dup B d_Co_closeBlock_51 rfl ?_
  refine j_geti B fl_Co_23 (q_22) rfl d_Co_closeBlock_52 ?_
  refine j_iconst (v := 1) B d_Co_closeBlock_55 (by decide) ?_
  refine j_isub B d_Co_closeBlock_56 ?_
  refine j_topi (nI (o - 1)) (by rw [aeX_1, show (fcX f (o - 1) n t k x).1 (3, 0, 0) 1 = nI o from by simp [flX, fcX, exX, emX, nxX, laX, acX, sI, sA, upd, ho]]; exact nIp ho1) ?_
  refine j_puti B kX_inj fs_Co_23 (q_22) rfl d_Co_closeBlock_57 ?_
  exact j_vret B hr hlk d_Co_closeBlock_60 (rfl) (rfl)
/-- how many CATCHes of the row that is d rows out stand in the text from k on -/
def crF (S : Nat → Int32) : Nat → Nat → Nat → Nat
  | 0, _, _ => 0
  | r + 1, k, d => if S k = 6 ∨ S k = 3 then crF S r (k + 1) (d + 1) else if S k = 5 then (if d = 0 then 0 else crF S r (k + 1) (d - 1)) else if S k = 4 ∧ d = 0 then crF S r (k + 1) d + 1 else crF S r (k + 1) d
/-- their actions are made -/
def mcF (f : Nat) (S O : Nat → Int32) : Nat → Nat → Nat → Nat → tm_M → Nat × tm_M
  | 0, _, _, a, x => (a, x)
  | r + 1, k, d, a, x => if S k = 6 ∨ S k = 3 then mcF f S O r (k + 1) (d + 1) a x else if S k = 5 then (if d = 0 then (a, x) else mcF f S O r (k + 1) (d - 1) a x) else if S k = 4 ∧ d = 0 then mcF f S O r (k + 1) d (a + 1) (acX f a (O k) (nI (a + 1)) x) else mcF f S O r (k + 1) d a x
theorem mcF_a {f : Nat} {S O : Nat → Int32} : ∀ (r k d a : Nat) (x : tm_M), (mcF f S O r k d a x).1 = a + crF S r k d
  | 0, _, _, _, _ => rfl
  | r + 1, k, d, a, x => by
    unfold mcF crF
    split
    · exact mcF_a r _ _ _ _
    · split
      · split
        · rfl
        · exact mcF_a r _ _ _ _
      · split
        · rw [mcF_a r]; omega
        · exact mcF_a r _ _ _ _
/-- the whole of it: then the last is chained to h -/
def mtX (f : Nat) (S O : Nat → Int32) (r k a : Nat) (h : Int32) (x : tm_M) : tm_M := sA (mcF f S O r k 0 a x).2 (6, f, 5) (a + crF S r k 0 - 1) h
theorem nIm {d : Nat} (h : 0 < d) : nI d + Int32.ofInt (-1) = nI (d - 1) := by
  cases d with
  | zero => omega
  | succ d => exact pk_m1 d
set_option maxRecDepth 100000 in
theorem ok_Co_makeCatchActions {l : Launch} {D : va_G} {aC : Nat → ClassId} {ad : Nat → Nat} {g f : Nat} (hg : g < 6) (hf : f < 6) (x : tm_M) {b t o a0 : Nat} (ht : x.1 (1, g, 0) 2 = nI t) (h20 : t ≤ 20) (hb : b < t) (ho : x.1 (3, 0, 0) 1 = nI o) (h5 : o ≤ 5) (ha : x.1 (6, f, 0) 6 = nI a0) (h40 : a0 + crF (x.2 (1, g, 1)) (t - (b + 1)) (b + 1) 0 ≤ 40) (hc1 : 0 < crF (x.2 (1, g, 1)) (t - (b + 1)) (b + 1) 0) :
    OkX l y_Co_makeCatchActions b_Co_makeCatchActions 8 (some .int) (rom 2 44) D aC ad [.ref (ad 22), .ref (ad (txO g)), .int (nI b), .ref (ad (prO f))] x (some (.int (nI a0))) (mtX f (x.2 (1, g, 1)) (x.2 (1, g, 2)) (t - (b + 1)) (b + 1) a0 (hdC o x) x) := by
  refine ok_start (by decide) (Nat.le_of_ble_eq_true rfl) rfl ?_
  intro p e s m args below meth c B hr hlk hml
  have B : Cx p s m c args b_Co_makeCatchActions R_Co D aC (rg 111 ad) 111 ad := B
  have hend : (mcF f (x.2 (1, g, 1)) (x.2 (1, g, 2)) (t - (b + 1)) (b + 1) 0 a0 x).1 = a0 + crF (x.2 (1, g, 1)) (t - (b + 1)) (b + 1) 0 := mcF_a _ _ _ _ _
  have fin : ∀ (xm : tm_M) (am : Nat), (∀ K, K ≠ (6, f, 0) → xm.1 K = x.1 K) → (∀ K : tm_K, K.1 ≠ 6 → xm.2 K = x.2 K) → xm.1 (6, f, 0) 6 = nI am → (am, xm) = mcF f (x.2 (1, g, 1)) (x.2 (1, g, 2)) (t - (b + 1)) (b + 1) 0 a0 x → am ≤ 40 → J p l e (rom 2 44) s m args below meth c D (rg 111 ad) 0 0 (MQ below (Qk D aC 111 ad (some (.int (nI a0))) (wX ad aC (mtX f (x.2 (1, g, 1)) (x.2 (1, g, 2)) (t - (b + 1)) (b + 1) a0 (hdC o x) x))) args s 0 0 (rg 111 ad)) 111 ad (wX ad aC xm) 8 101 [(4, .int (nI a0)), (0, .ref (ad 22)), (3, .ref (ad (prO f)))] [] := by
    intro xm am h1 h2 hxa hR h40m
    have hae : am = a0 + crF (x.2 (1, g, 1)) (t - (b + 1)) (b + 1) 0 := by rw [← hend, ← hR]
    have hxe : xm = (mcF f (x.2 (1, g, 1)) (x.2 (1, g, 2)) (t - (b + 1)) (b + 1) 0 a0 x).2 := by rw [← hR]
    refine j_aloadn B d_Co_makeCatchActions_101 rfl ?_
    refine j_aloadn B d_Co_makeCatchActions_102 rfl ?_
    refine j_geti B fl_Co_80 (q_pr hf) rfl d_Co_makeCatchActions_103 ?_
    refine j_topi (nI am) hxa ?_
    refine j_iconst (v := 1) B d_Co_makeCatchActions_106 (by decide) ?_
    refine j_isub B d_Co_makeCatchActions_107 ?_
    refine j_topi (nI (am - 1)) (nIp (by omega)) ?_
    refine j_aloadn B d_Co_makeCatchActions_108 rfl ?_
    refine j_cVt B (ok_Co_currentHead xm (o := o) (by rw [h1 _ (by simp)]; exact ho) h5) cv_Co_currentHead ml_Co_47 (q_22) rfl rfl ⟨rfl, rfl, by decide, by decide⟩ ⟨Nat.zero_le _, Nat.zero_le _⟩ hml (Nat.le_of_ble_eq_true rfl) rfl d_Co_makeCatchActions_109 ?_
    refine j_topi (hdC o x) (by unfold hdC; split <;> simp only [h1 (4, o - 1, 0) (by simp)]) ?_
    refine j_cVt B (ok_Pr_chain hf xm (hdC o x) (k := am - 1) (a := am) hxa (by omega) (by omega)) cv_Pr_chain ml_Co_83 (q_pr hf) rfl rfl ⟨rfl, rfl, by decide, by decide⟩ ⟨Nat.zero_le _, Nat.zero_le _⟩ hml (Nat.le_of_ble_eq_true rfl) rfl d_Co_makeCatchActions_112 ?_
    refine j_iload B d_Co_makeCatchActions_115 rfl ?_
    exact j_iret B hr hlk d_Co_makeCatchActions_117 (rfl) (congrArg (tw ad aC sX kX) (by rw [hxe, hae]; rfl))
  have loop : ∀ (r k d a : Nat) (xk : tm_M), k + r = t → d ≤ k → (∀ K, K ≠ (6, f, 0) → xk.1 K = x.1 K) → (∀ K : tm_K, K.1 ≠ 6 → xk.2 K = x.2 K) → xk.1 (6, f, 0) 6 = nI a → mcF f (x.2 (1, g, 1)) (x.2 (1, g, 2)) r k d a xk = mcF f (x.2 (1, g, 1)) (x.2 (1, g, 2)) (t - (b + 1)) (b + 1) 0 a0 x → a + crF (x.2 (1, g, 1)) r k d ≤ 40 → J p l e (rom 2 44) s m args below meth c D (rg 111 ad) 0 0 (MQ below (Qk D aC 111 ad (some (.int (nI a0))) (wX ad aC (mtX f (x.2 (1, g, 1)) (x.2 (1, g, 2)) (t - (b + 1)) (b + 1) a0 (hdC o x) x))) args s 0 0 (rg 111 ad)) 111 ad (wX ad aC xk) 8 14 [(6, .int (nI k)), (5, .int (nI d)), (4, .int (nI a0)), (0, .ref (ad 22)), (1, .ref (ad (txO g))), (3, .ref (ad (prO f)))] [] := by
    intro r
    induction r with
    | zero =>
      intro k d a xk hk hdk h1 h2 hxa hR hca
      refine j_iload B d_Co_makeCatchActions_14 rfl ?_
      refine j_aloadn B d_Co_makeCatchActions_16 rfl ?_
      refine j_geti B fl_Co_27 (q_tx hg) rfl d_Co_makeCatchActions_17 ?_
      refine j_topi (nI t) (by rw [h1 _ (by simp)]; exact ht) ?_
      refine j_icmp_ge (tgt := 101) B d_Co_makeCatchActions_20 (by decide) (fun h20_ => ?_) (fun h20_ => (show False from h20_ (nI_le (by omega) (by omega))).elim)
      refine j_loc [(4, .int (nI a0)), (0, .ref (ad 22)), (3, .ref (ad (prO f)))] ⟨rfl, rfl, rfl, trivial⟩ ?_
      exact fin _ _ h1 h2 hxa hR (by omega)
    | succ r ih =>
      intro k d a xk hk hdk h1 h2 hxa hR hca
      refine j_iload B d_Co_makeCatchActions_14 rfl ?_
      refine j_aloadn B d_Co_makeCatchActions_16 rfl ?_
      refine j_geti B fl_Co_27 (q_tx hg) rfl d_Co_makeCatchActions_17 ?_
      refine j_topi (nI t) (by rw [h1 _ (by simp)]; exact ht) ?_
      refine j_icmp_ge (tgt := 101) B d_Co_makeCatchActions_20 (by decide) (fun h20_ => (show False from absurd (nIle h20_ (by omega) (by omega)) (by omega)).elim) (fun h20_ => ?_)
      refine j_iload B d_Co_makeCatchActions_23 rfl ?_
      refine j_if_lt (tgt := 101) B d_Co_makeCatchActions_25 (by decide) (fun h25 => (show False from nI_pos (by omega) h25).elim) (fun h25 => ?_)
      refine j_aloadn B d_Co_makeCatchActions_28 rfl ?_
      refine j_iload B d_Co_makeCatchActions_29 rfl ?_
      refine j_cVt B (ok_Tx_statementAt hg xk (nI k) (a := t) (by rw [h1 _ (by simp)]; exact ht) h20) cv_Tx_statementAt ml_Co_44 (q_tx hg) rfl rfl ⟨rfl, rfl, by decide, by decide⟩ ⟨Nat.zero_le _, Nat.zero_le _⟩ hml (Nat.le_of_ble_eq_true rfl) rfl d_Co_makeCatchActions_31 ?_
      refine j_topi (x.2 (1, g, 1) k) (by rw [h1 _ (by simp), h2 _ (by simp), if_pos ⟨nI_pos' (by omega), by rw [ht]; exact nI_lt (by omega) (by omega)⟩, nI_clamp (by omega)]) ?_
      refine j_istore B d_Co_makeCatchActions_34 (by decide) ?_
      refine j_iload B d_Co_makeCatchActions_36 rfl ?_
      refine j_bipush (v := 6) B d_Co_makeCatchActions_38 (by decide) ?_
      refine j_icmp_eq (tgt := 49) B d_Co_makeCatchActions_40 (by decide) (fun h40 => ?_) (fun h40 => ?_)
      · -- yes
        have e6 : (x.2 (1, g, 1) k) = 6 ∨ (x.2 (1, g, 1) k) = 3 := Or.inl h40
        have hc : crF (x.2 (1, g, 1)) (r + 1) k d = crF (x.2 (1, g, 1)) r (k + 1) (d + 1) := if_pos e6
        have hm : mcF f (x.2 (1, g, 1)) (x.2 (1, g, 2)) (r + 1) k d a xk = mcF f (x.2 (1, g, 1)) (x.2 (1, g, 2)) r (k + 1) (d + 1) a xk := if_pos e6
        refine j_iinc B d_Co_makeCatchActions_49 rfl (by decide) (nI_1 d) ?_
        refine j_goto (tgt := 95) B d_Co_makeCatchActions_52 (by decide) ?_
        refine j_iinc B d_Co_makeCatchActions_95 rfl (by decide) (nI_1 k) ?_
        refine j_goto (tgt := 14) B d_Co_makeCatchActions_98 (by decide) ?_
        refine j_loc [(6, .int (nI (k + 1))), (5, .int (nI (d + 1))), (4, .int (nI a0)), (0, .ref (ad 22)), (1, .ref (ad (txO g))), (3, .ref (ad (prO f)))] ⟨rfl, rfl, rfl, rfl, rfl, rfl, trivial⟩ ?_
        exact ih (k + 1) (d + 1) a xk (by omega) (by omega) h1 h2 hxa (by rw [← hm]; exact hR) (by omega)
      · -- no
        refine j_iload B d_Co_makeCatchActions_43 rfl ?_
        refine j_iconst (v := 3) B d_Co_makeCatchActions_45 (by decide) ?_
        refine j_icmp_ne (tgt := 55) B d_Co_makeCatchActions_46 (by decide) (fun h46 => ?_) (fun h46 => ?_)
        · -- yes
          have e6 : ¬ ((x.2 (1, g, 1) k) = 6 ∨ (x.2 (1, g, 1) k) = 3) := fun z => z.elim h40 h46
          refine j_iload B d_Co_makeCatchActions_55 rfl ?_
          refine j_iconst (v := 5) B d_Co_makeCatchActions_57 (by decide) ?_
          refine j_icmp_ne (tgt := 67) B d_Co_makeCatchActions_58 (by decide) (fun h58 => ?_) (fun h58 => ?_)
          · -- yes
            refine j_iload B d_Co_makeCatchActions_67 rfl ?_
            refine j_iconst (v := 4) B d_Co_makeCatchActions_69 (by decide) ?_
            refine j_icmp_ne (tgt := 95) B d_Co_makeCatchActions_70 (by decide) (fun h70 => ?_) (fun h70 => ?_)
            · have hc : crF (x.2 (1, g, 1)) (r + 1) k d = crF (x.2 (1, g, 1)) r (k + 1) d := (if_neg e6).trans ((if_neg h58).trans (if_neg (fun z => h70 z.1)))
              have hm : mcF f (x.2 (1, g, 1)) (x.2 (1, g, 2)) (r + 1) k d a xk = mcF f (x.2 (1, g, 1)) (x.2 (1, g, 2)) r (k + 1) d a xk := (if_neg e6).trans ((if_neg h58).trans (if_neg (fun z => h70 z.1)))
              refine j_iinc B d_Co_makeCatchActions_95 rfl (by decide) (nI_1 k) ?_
              refine j_goto (tgt := 14) B d_Co_makeCatchActions_98 (by decide) ?_
              refine j_loc [(6, .int (nI (k + 1))), (5, .int (nI d)), (4, .int (nI a0)), (0, .ref (ad 22)), (1, .ref (ad (txO g))), (3, .ref (ad (prO f)))] ⟨rfl, rfl, rfl, rfl, rfl, rfl, trivial⟩ ?_
              exact ih (k + 1) d a xk (by omega) (by omega) h1 h2 hxa (by rw [← hm]; exact hR) (by omega)
            · refine j_iload B d_Co_makeCatchActions_73 rfl ?_
              refine j_if_ne (tgt := 95) B d_Co_makeCatchActions_75 (by decide) (fun h75 => ?_) (fun h75 => ?_)
              · have hc : crF (x.2 (1, g, 1)) (r + 1) k d = crF (x.2 (1, g, 1)) r (k + 1) d := (if_neg e6).trans ((if_neg h58).trans (if_neg (fun z => h75 (by rw [z.2]; rfl))))
                have hm : mcF f (x.2 (1, g, 1)) (x.2 (1, g, 2)) (r + 1) k d a xk = mcF f (x.2 (1, g, 1)) (x.2 (1, g, 2)) r (k + 1) d a xk := (if_neg e6).trans ((if_neg h58).trans (if_neg (fun z => h75 (by rw [z.2]; rfl))))
                refine j_iinc B d_Co_makeCatchActions_95 rfl (by decide) (nI_1 k) ?_
                refine j_goto (tgt := 14) B d_Co_makeCatchActions_98 (by decide) ?_
                refine j_loc [(6, .int (nI (k + 1))), (5, .int (nI d)), (4, .int (nI a0)), (0, .ref (ad 22)), (1, .ref (ad (txO g))), (3, .ref (ad (prO f)))] ⟨rfl, rfl, rfl, rfl, rfl, rfl, trivial⟩ ?_
                exact ih (k + 1) d a xk (by omega) (by omega) h1 h2 hxa (by rw [← hm]; exact hR) (by omega)
              · have hd : d = 0 := Nat.eq_zero_of_not_pos (fun z => nI_ne0 z (by omega) h75)
                have hc : crF (x.2 (1, g, 1)) (r + 1) k d = crF (x.2 (1, g, 1)) r (k + 1) d + 1 := (if_neg e6).trans ((if_neg h58).trans (if_pos ⟨h70, hd⟩))
                have hm : mcF f (x.2 (1, g, 1)) (x.2 (1, g, 2)) (r + 1) k d a xk = mcF f (x.2 (1, g, 1)) (x.2 (1, g, 2)) r (k + 1) d (a + 1) (acX f a (x.2 (1, g, 2) k) (nI (a + 1)) xk) := (if_neg e6).trans ((if_neg h58).trans (if_pos ⟨h70, hd⟩))
                refine j_aloadn B d_Co_makeCatchActions_78 rfl ?_
                refine j_aloadn B d_Co_makeCatchActions_79 rfl ?_
                refine j_iload B d_Co_makeCatchActions_80 rfl ?_
                refine j_cVt B (ok_Tx_operandAt hg xk (nI k) (a := t) (by rw [h1 _ (by simp)]; exact ht) h20) cv_Tx_operandAt ml_Co_40 (q_tx hg) rfl rfl ⟨rfl, rfl, by decide, by decide⟩ ⟨Nat.zero_le _, Nat.zero_le _⟩ hml (Nat.le_of_ble_eq_true rfl) rfl d_Co_makeCatchActions_82 ?_
                refine j_topi (x.2 (1, g, 2) k) (by rw [h1 _ (by simp), h2 _ (by simp), if_pos ⟨nI_pos' (by omega), by rw [ht]; exact nI_lt (by omega) (by omega)⟩, nI_clamp (by omega)]) ?_
                refine j_aloadn B d_Co_makeCatchActions_85 rfl ?_
                refine j_geti B fl_Co_80 (q_pr hf) rfl d_Co_makeCatchActions_86 ?_
                refine j_iconst (v := 1) B d_Co_makeCatchActions_89 (by decide) ?_
                refine j_iadd B d_Co_makeCatchActions_90 ?_
                refine j_topi (nI (a + 1)) (by rw [hxa, nI_1]) ?_
                refine j_cVt B (ok_Pr_makeAction hf xk (x.2 (1, g, 2) k) (nI (a + 1)) (a := a) hxa (by omega)) cv_Pr_makeAction ml_Co_55 (q_pr hf) rfl rfl ⟨rfl, rfl, by decide, by decide⟩ ⟨Nat.zero_le _, Nat.zero_le _⟩ hml (Nat.le_of_ble_eq_true rfl) rfl d_Co_makeCatchActions_91 ?_
                refine j_pop B d_Co_makeCatchActions_94 rfl ?_
                refine j_iinc B d_Co_makeCatchActions_95 rfl (by decide) (nI_1 k) ?_
                refine j_goto (tgt := 14) B d_Co_makeCatchActions_98 (by decide) ?_
                refine j_loc [(6, .int (nI (k + 1))), (5, .int (nI d)), (4, .int (nI a0)), (0, .ref (ad 22)), (1, .ref (ad (txO g))), (3, .ref (ad (prO f)))] ⟨rfl, rfl, rfl, rfl, rfl, rfl, trivial⟩ ?_
                exact ih (k + 1) d (a + 1) (acX f a (x.2 (1, g, 2) k) (nI (a + 1)) xk) (by omega) (by omega) (fun K hK => by rw [← h1 K hK]; simp [acX, sI, sA, hK]) (fun K hK => by rw [← h2 K hK]; unfold acX; rw [rIA, rAK (fun z => hK (by rw [z])), rAK (fun z => hK (by rw [z])), rAK (fun z => hK (by rw [z]))]) rI (by rw [← hm]; exact hR) (by omega)
          · -- no
            have e5 : (x.2 (1, g, 1) k) = 5 := h58
            by_cases hd : d = 0
            · have hc : crF (x.2 (1, g, 1)) (r + 1) k d = 0 := (if_neg e6).trans ((if_pos e5).trans (if_pos hd))
              have hm : mcF f (x.2 (1, g, 1)) (x.2 (1, g, 2)) (r + 1) k d a xk = (a, xk) := (if_neg e6).trans ((if_pos e5).trans (if_pos hd))
              refine j_iinc B d_Co_makeCatchActions_61 rfl (by decide) (show nI d + Int32.ofInt (-1) = -1 by rw [hd]; decide) ?_
              refine j_goto (tgt := 95) B d_Co_makeCatchActions_64 (by decide) ?_
              refine j_iinc B d_Co_makeCatchActions_95 rfl (by decide) (nI_1 k) ?_
              refine j_goto (tgt := 14) B d_Co_makeCatchActions_98 (by decide) ?_
              refine j_iload B d_Co_makeCatchActions_14 rfl ?_
              refine j_aloadn B d_Co_makeCatchActions_16 rfl ?_
              refine j_geti B fl_Co_27 (q_tx hg) rfl d_Co_makeCatchActions_17 ?_
              refine j_topi (nI t) (by rw [h1 _ (by simp)]; exact ht) ?_
              refine j_icmp_ge (tgt := 101) B d_Co_makeCatchActions_20 (by decide) (fun hz => ?_) (fun hz => ?_)
              · -- yes
                refine j_loc [(4, .int (nI a0)), (0, .ref (ad 22)), (3, .ref (ad (prO f)))] ⟨rfl, rfl, rfl, trivial⟩ ?_
                exact fin _ _ h1 h2 hxa (hm ▸ hR) (by rw [hc] at hca; omega)
              · -- no
                refine j_iload B d_Co_makeCatchActions_23 rfl ?_
                refine j_if_lt (tgt := 101) B d_Co_makeCatchActions_25 (by decide) (fun h25 => ?_) (fun h25 => (show False from h25 (by decide)).elim)
                refine j_loc [(4, .int (nI a0)), (0, .ref (ad 22)), (3, .ref (ad (prO f)))] ⟨rfl, rfl, rfl, trivial⟩ ?_
                exact fin _ _ h1 h2 hxa (hm ▸ hR) (by rw [hc] at hca; omega)
            · have hc : crF (x.2 (1, g, 1)) (r + 1) k d = crF (x.2 (1, g, 1)) r (k + 1) (d - 1) := (if_neg e6).trans ((if_pos e5).trans (if_neg hd))
              have hm : mcF f (x.2 (1, g, 1)) (x.2 (1, g, 2)) (r + 1) k d a xk = mcF f (x.2 (1, g, 1)) (x.2 (1, g, 2)) r (k + 1) (d - 1) a xk := (if_neg e6).trans ((if_pos e5).trans (if_neg hd))
              refine j_iinc B d_Co_makeCatchActions_61 rfl (by decide) (nIm (by omega)) ?_
              refine j_goto (tgt := 95) B d_Co_makeCatchActions_64 (by decide) ?_
              refine j_iinc B d_Co_makeCatchActions_95 rfl (by decide) (nI_1 k) ?_
              refine j_goto (tgt := 14) B d_Co_makeCatchActions_98 (by decide) ?_
              refine j_loc [(6, .int (nI (k + 1))), (5, .int (nI (d - 1))), (4, .int (nI a0)), (0, .ref (ad 22)), (1, .ref (ad (txO g))), (3, .ref (ad (prO f)))] ⟨rfl, rfl, rfl, rfl, rfl, rfl, trivial⟩ ?_
              exact ih (k + 1) (d - 1) a xk (by omega) (by omega) h1 h2 hxa (by rw [← hm]; exact hR) (by omega)
        · -- no
          have e6 : (x.2 (1, g, 1) k) = 6 ∨ (x.2 (1, g, 1) k) = 3 := Or.inr h46
          have hc : crF (x.2 (1, g, 1)) (r + 1) k d = crF (x.2 (1, g, 1)) r (k + 1) (d + 1) := if_pos e6
          have hm : mcF f (x.2 (1, g, 1)) (x.2 (1, g, 2)) (r + 1) k d a xk = mcF f (x.2 (1, g, 1)) (x.2 (1, g, 2)) r (k + 1) (d + 1) a xk := if_pos e6
          refine j_iinc B d_Co_makeCatchActions_49 rfl (by decide) (nI_1 d) ?_
          refine j_goto (tgt := 95) B d_Co_makeCatchActions_52 (by decide) ?_
          refine j_iinc B d_Co_makeCatchActions_95 rfl (by decide) (nI_1 k) ?_
          refine j_goto (tgt := 14) B d_Co_makeCatchActions_98 (by decide) ?_
          refine j_loc [(6, .int (nI (k + 1))), (5, .int (nI (d + 1))), (4, .int (nI a0)), (0, .ref (ad 22)), (1, .ref (ad (txO g))), (3, .ref (ad (prO f)))] ⟨rfl, rfl, rfl, rfl, rfl, rfl, trivial⟩ ?_
          exact ih (k + 1) (d + 1) a xk (by omega) (by omega) h1 h2 hxa (by rw [← hm]; exact hR) (by omega)
  refine j_aloadn B d_Co_makeCatchActions_0 rfl ?_
  refine j_geti B fl_Co_80 (q_pr hf) rfl d_Co_makeCatchActions_1 ?_
  refine j_topi (nI a0) ha ?_
  refine j_istore B d_Co_makeCatchActions_4 (by decide) ?_
  refine j_iconst (v := 0) B d_Co_makeCatchActions_6 (by decide) ?_
  refine j_istore B d_Co_makeCatchActions_7 (by decide) ?_
  refine j_iloadn B d_Co_makeCatchActions_9 rfl ?_
  refine j_iconst (v := 1) B d_Co_makeCatchActions_10 (by decide) ?_
  refine j_iadd B d_Co_makeCatchActions_11 ?_
  refine j_topi (nI (b + 1)) (nI_1 b) ?_
  refine j_istore B d_Co_makeCatchActions_12 (by decide) ?_
  refine j_loc [(6, .int (nI (b + 1))), (5, .int (nI 0)), (4, .int (nI a0)), (0, .ref (ad 22)), (1, .ref (ad (txO g))), (3, .ref (ad (prO f)))] ⟨rfl, rfl, rfl, rfl, rfl, rfl, trivial⟩ ?_
  exact loop (t - (b + 1)) (b + 1) 0 a0 x (by omega) (by omega) (fun _ _ => rfl) (fun _ _ => rfl) ha rfl h40
