theorem sw_law (z : Int32) : z = 0 ∨ z = 1 ∨ z = 2 ∨ z = 3 ∨ z = 4 ∨ z = 5 ∨ z = 6 ∨ z = 7 ∨ z = 8 ∨ z = 9 ∨ z = 10 ∨ (z.toInt < 0 ∨ 10 < z.toInt) := by
  by_cases h : z.toInt < 0 ∨ 10 < z.toInt
  · simp [h]
  · have key : ∀ k : Int32, z.toInt = k.toInt → z = k := fun k e => Int32.toInt_inj.mp e
    have h2 : z.toInt = 0 ∨ z.toInt = 1 ∨ z.toInt = 2 ∨ z.toInt = 3 ∨ z.toInt = 4 ∨ z.toInt = 5 ∨ z.toInt = 6 ∨ z.toInt = 7 ∨ z.toInt = 8 ∨ z.toInt = 9 ∨ z.toInt = 10 := by omega
    rcases h2 with e | e | e | e | e | e | e | e | e | e | e
    · exact Or.inl (key 0 e)
    · exact Or.inr (Or.inl (key 1 e))
    · exact Or.inr (Or.inr (Or.inl (key 2 e)))
    · exact Or.inr (Or.inr (Or.inr (Or.inl (key 3 e))))
    · exact Or.inr (Or.inr (Or.inr (Or.inr (Or.inl (key 4 e)))))
    · exact Or.inr (Or.inr (Or.inr (Or.inr (Or.inr (Or.inl (key 5 e))))))
    · exact Or.inr (Or.inr (Or.inr (Or.inr (Or.inr (Or.inr (Or.inl (key 6 e)))))))
    · exact Or.inr (Or.inr (Or.inr (Or.inr (Or.inr (Or.inr (Or.inr (Or.inl (key 7 e))))))))
    · exact Or.inr (Or.inr (Or.inr (Or.inr (Or.inr (Or.inr (Or.inr (Or.inr (Or.inl (key 8 e)))))))))
    · exact Or.inr (Or.inr (Or.inr (Or.inr (Or.inr (Or.inr (Or.inr (Or.inr (Or.inr (Or.inl (key 9 e))))))))))
    · exact Or.inr (Or.inr (Or.inr (Or.inr (Or.inr (Or.inr (Or.inr (Or.inr (Or.inr (Or.inr (Or.inl (key 10 e)))))))))))
theorem la_exit {p : Program} {e : Env} {s : State} {m : MethodId} {below : List Frame} {meth : Method} {c : Code} {l : Launch} {b : Nat} {D : va_G} {aC : Nat → ClassId} (B : CL p s m b c D aC) (hr : meth.sig.returnType = ret) (hlk : meth.locks = false) {q : Nat} (hq : q ≤ 513) {x mm : tm_M} {f : Nat → Int64} {lv : List (Nat × Value)} : JL p l e s m b below meth c D aC q x mm f 806 lv [] := by
  unfold JL
  unfold CL at B
  refine j_iconst (v := 1) B d_La_law_806 (by decide) ?_
  intro H locs ls hP hS hl
  exact va_forget hS.2.2 (W.widen (by omega) (by omega) (lw_ret B.1 B.2.1 hr hlk d_La_law_807))
theorem gt_law {L q : Nat} (hL : L ≤ 2048) (hq : q ≤ 513) : (nI L - 4 < nI (4 * q)) ↔ ¬ 4 * q + 4 ≤ L := by
  by_cases h4 : 4 ≤ L
  · have e4 : nI L - 4 = nI (L - 4) := by
      have := nI_add (L - 4) 4
      rw [show L - 4 + 4 = L by omega] at this
      rw [← this]
      show nI (L - 4) + 4 - 4 = nI (L - 4)
      exact Int32.add_sub_cancel _ _
    rw [e4, nI_ltI (by omega) (by omega)]
    omega
  · have hl : L = 0 ∨ L = 1 ∨ L = 2 ∨ L = 3 := by omega
    have hneg : nI L - 4 < 0 := by rcases hl with h | h | h | h <;> (subst h; decide)
    exact ⟨fun _ => by omega, fun _ => Int32.lt_of_lt_of_le hneg (nI_pos' (by omega))⟩
set_option maxRecDepth 100000 in
theorem la_loop {p : Program} {e : Env} {s : State} {m : MethodId} {below : List Frame} {meth : Method} {c : Code} {l : Launch} {b L : Nat} {xs : Nat → Int32} {D : va_G} {aC : Nat → ClassId} (htr : l.stackTraces = false) (B : CL p s m b c D aC) (hZ : ZS (fun q => s.heap.size ≤ q) s) (hml : c.maxLocals = 7) (hr : meth.sig.returnType = ret) (hlk : meth.locks = false) (hX : va_X b L xs s s.heap) (hbl : b < s.heap.size) (hL : L ≤ 2048) : ∀ (d q : Nat) (x mm : tm_M) (f : Nat → Int64), q + d = 513 → Rel x mm → JL p l e s m b below meth c D aC q x mm f 23 (lvL s b (4 * q)) [] := by
  have hbA : ¬ s.heap.size ≤ b := Nat.not_le.mpr hbl
  have B' : Cx p s m c #[Value.ref b] code R_La D aC (fun q => s.heap.size ≤ q) 142 (fun k => s.heap.size + k) := B
  intro d
  induction d with
  | zero =>
    intro q x mm f hd H
    unfold JL
    refine j_iload B' d_La_law_23 rfl ?_
    refine j_aloadn B' d_La_law_25 rfl ?_
    refine j_slen B' hX hbl hbA (by omega) d_La_law_26 ?_
    refine j_iconst (v := 4) B' d_La_law_27 (by decide) ?_
    refine j_isub B' d_La_law_28 ?_
    refine j_icmp_gt (tgt := 806) B' d_La_law_29 (by decide) (fun _ => la_exit B hr hlk (by omega)) (fun h => absurd ((gt_law hL (by omega)).mpr (by omega)) h)
  | succ d ih =>
    intro q x mm f hd H
    unfold JL
    refine j_iload B' d_La_law_23 rfl ?_
    refine j_aloadn B' d_La_law_25 rfl ?_
    refine j_slen B' hX hbl hbA (by omega) d_La_law_26 ?_
    refine j_iconst (v := 4) B' d_La_law_27 (by decide) ?_
    refine j_isub B' d_La_law_28 ?_
    by_cases h4 : 4 * q + 4 ≤ L
    · refine j_icmp_gt (tgt := 806) B' d_La_law_29 (by decide) (fun h => absurd h4 ((gt_law hL (by omega)).mp h)) (fun _ => ?_)
      refine j_aloadn B' d_La_law_32 rfl ?_
      refine j_iload B' d_La_law_33 rfl ?_
      refine j_sld B' hX hbl hbA ⟨rfl, by omega, by omega⟩ d_La_law_35 ?_
      refine j_bipush (v := 15) B' d_La_law_36 (by decide) ?_
      refine j_iand B' d_La_law_38 ?_
      rcases sw_law (xs (4 * q) &&& 15) with hz | hz | hz | hz | hz | hz | hz | hz | hz | hz | hz | hz
      · rw [hz]
        refine j_tabIn (tgt := 96) (off := 57) B' d_La_law_39 (by decide) (by decide) (by decide) (by decide) ?_
        exact la_type htr B hZ hml hX hbl hL h4 H (fun x' m' f' H' => ih (q + 1) x' m' f' (by omega) H')
      · rw [hz]
        refine j_tabIn (tgt := 152) (off := 113) B' d_La_law_39 (by decide) (by decide) (by decide) (by decide) ?_
        exact la_add htr B hZ hml hX hbl hL h4 H (fun x' m' f' H' => ih (q + 1) x' m' f' (by omega) H')
      · rw [hz]
        refine j_tabIn (tgt := 232) (off := 193) B' d_La_law_39 (by decide) (by decide) (by decide) (by decide) ?_
        exact la_wipe htr B hZ hml hX hbl hL h4 H (fun x' m' f' H' => ih (q + 1) x' m' f' (by omega) H')
      · rw [hz]
        refine j_tabIn (tgt := 268) (off := 229) B' d_La_law_39 (by decide) (by decide) (by decide) (by decide) ?_
        exact la_compile htr B hZ hml hX hbl hL h4 H (fun x' m' f' H' => ih (q + 1) x' m' f' (by omega) H')
      · rw [hz]
        refine j_tabIn (tgt := 324) (off := 285) B' d_La_law_39 (by decide) (by decide) (by decide) (by decide) ?_
        exact la_size htr B hZ hml hX hbl hL h4 H (fun x' m' f' H' => ih (q + 1) x' m' f' (by omega) H')
      · rw [hz]
        refine j_tabIn (tgt := 392) (off := 353) B' d_La_law_39 (by decide) (by decide) (by decide) (by decide) ?_
        exact la_code htr B hZ hml hX hbl hL h4 H (fun x' m' f' H' => ih (q + 1) x' m' f' (by omega) H')
      · rw [hz]
        refine j_tabIn (tgt := 472) (off := 433) B' d_La_law_39 (by decide) (by decide) (by decide) (by decide) ?_
        exact la_action htr B hZ hml hX hbl hL h4 H (fun x' m' f' H' => ih (q + 1) x' m' f' (by omega) H')
      · rw [hz]
        refine j_tabIn (tgt := 552) (off := 513) B' d_La_law_39 (by decide) (by decide) (by decide) (by decide) ?_
        exact la_site htr B hZ hml hX hbl hL h4 H (fun x' m' f' H' => ih (q + 1) x' m' f' (by omega) H')
      · rw [hz]
        refine j_tabIn (tgt := 632) (off := 593) B' d_La_law_39 (by decide) (by decide) (by decide) (by decide) ?_
        exact la_run htr B hZ hml hX hbl hL h4 H (fun x' m' f' H' => ih (q + 1) x' m' f' (by omega) H')
      · rw [hz]
        refine j_tabIn (tgt := 688) (off := 649) B' d_La_law_39 (by decide) (by decide) (by decide) (by decide) ?_
        exact la_count htr B hZ hml hX hbl hL h4 H (fun x' m' f' H' => ih (q + 1) x' m' f' (by omega) H')
      · rw [hz]
        refine j_tabIn (tgt := 744) (off := 705) B' d_La_law_39 (by decide) (by decide) (by decide) (by decide) ?_
        exact la_out htr B hZ hml hX hbl hL h4 H (fun x' m' f' H' => ih (q + 1) x' m' f' (by omega) H')
      · refine j_tabOut (tgt := 800) B' d_La_law_39 hz (by decide) ?_
        refine j_iinc B' d_La_law_800 rfl (by decide) (nI_add (4 * q) 4) ?_
        refine j_goto (tgt := 23) B' d_La_law_803 (by decide) ?_
        refine j_loc (lvL s b (4 * (q + 1))) ⟨rfl, rfl, rfl, rfl, rfl, trivial⟩ ?_
        exact j_wide (k := 142 + (q + 1)) (i := 7670 + 6 * (q + 1)) (by omega) (by omega) (ih (q + 1) x mm f (by omega) H)
    · refine j_icmp_gt (tgt := 806) B' d_La_law_29 (by decide) (fun _ => la_exit B hr hlk (by omega)) (fun h => absurd ((gt_law hL (by omega)).mpr h4) h)
theorem wc_La_8 : Cond.classLink R_La 8 R_Lp ∈ gw := by decide +kernel
theorem wc_La_53 : Cond.classLink R_La 53 R_Mo ∈ gw := by decide +kernel
theorem wj_La_52 : Cond.methodLink R_La 52 y_Lp_init ∈ gw := by decide +kernel
theorem wj_La_55 : Cond.methodLink R_La 55 y_Mo_init ∈ gw := by decide +kernel
set_option maxRecDepth 100000 in
theorem whole_start {p : Program} {e : Env} {s : State} {m : MethodId} {below : List Frame} {meth : Method} {c : Code} (l : Launch) (htr : l.stackTraces = false) {b L : Nat} {xs : Nat → Int32} (hL : L ≤ 2048) (C0 : lw_At p s m meth c b L xs) : W p l e room_1 s m #[Value.ref b] below meth c s.heap [] 0 0 (lw_Z below #[Value.ref b] s) (entryFrame m ([Value.ref b] : List Value).toArray 7) := by
  obtain ⟨hx, hb, hr, hml, hown, hts, hX, hbl, hlk, hgv⟩ := C0
  obtain ⟨D, aC, hK⟩ := K_all hts
  have hao := ao_all hts
  have hZ := ZS_all hts hgv
  have B0 : Cx p s m c #[Value.ref b] code R_La D aC (fun q => s.heap.size ≤ q) 0 (fun k => s.heap.size + k) := ⟨hx, hb, hown, hts_gw hts, nw_all hts, hK, fun i j h1 _ _ => absurd h1 (Nat.not_lt_zero _), fun k hk => absurd hk (Nat.not_lt_zero _)⟩
  have start : J p l e room_1 s m #[Value.ref b] below meth c D (fun q => s.heap.size ≤ q) 0 0 (lw_Z below #[Value.ref b] s) 0 (fun k => s.heap.size + k) (fun _ => e0_Lp) 7 0 [(0, .ref b)] [] := by
    have B := B0
    refine g_new (b0 := s.heap.size) B (Nat.le_refl _) rfl (ci := 0) rfl i_Lp t_Lp_ok wc_La_8 wk_Lp wz_Lp wd_Lp ⟨by decide, by decide⟩ d_La_law_0 ?_
    have B := B.gr (n' := 1)
    refine j_dup B d_La_law_3 rfl ?_
    refine g_ctor B hao rfl hml (w2 := ap 0 (fun _ => e0_Lp) (c_Lp aC (s.heap.size + 0))) (ok_Lp_init (b0 := s.heap.size + 0)) wb_Lp rfl wm_Lp wj_La_52 (by simp [va_up, e0_Lp]) ⟨rfl, rfl, by decide, by decide⟩ ⟨by decide, by decide⟩ (Nat.le_of_ble_eq_true rfl) d_La_law_4 rfl ap_ctor ?_
    have B := B.gr (n' := 111)
    refine j_astoren B d_La_law_7 (by decide) ?_
    refine g_new (b0 := s.heap.size) B (Nat.le_refl _) rfl (ci := 10) rfl i_Mo t_Mo_ok wc_La_53 wk_Mo wz_Mo wd_Mo ⟨by decide, by decide⟩ d_La_law_8 ?_
    have B := B.gr (n' := 112)
    refine j_dup B d_La_law_11 rfl ?_
    refine g_ctor (n := 111) B hao rfl hml (w2 := ap 111 (ap 0 (fun _ => e0_Lp) (c_Lp aC (s.heap.size + 0))) (c_Mo aC (s.heap.size + 111))) (ok_Mo_init (b0 := s.heap.size + 111)) wb_Mo rfl wm_Mo wj_La_55 (by simp [va_up, e0_Mo]) ⟨rfl, rfl, by decide, by decide⟩ ⟨by decide, by decide⟩ (Nat.le_of_ble_eq_true rfl) d_La_law_12 rfl ap_ctor ?_
    have B := B.gr (n' := 141)
    refine j_astoren B d_La_law_15 (by decide) ?_
    refine j_iconst (v := nI 1) B d_La_law_16 (by decide) ?_
    refine g_newl (n := 141) B (Nat.le_refl _) rfl (N := 1) rfl (by decide) wi_l ⟨by decide, by decide⟩ d_La_law_17 ?_
    have B := B.gr (n' := 142)
    refine j_astoren B d_La_law_19 (by decide) ?_
    refine j_iconst (v := nI 0) B d_La_law_20 (by decide) ?_
    refine j_istore B d_La_law_21 (by decide) ?_
    refine j_we _ WL_start ?_
    refine j_loc (lvL s b (4 * 0)) ⟨rfl, rfl, rfl, rfl, rfl, trivial⟩ ?_
    exact la_loop htr B hZ hml hr hlk hX hbl hL 513 0 x0 m0 (fun _ => 0) (by omega) Rel_0
  rw [lg_entry_eq]
  exact start s.heap [] _ (fun k q hk => by obtain ⟨h, -⟩ := fw_of hk; exact absurd h (Nat.not_lt_zero _)) va_S.rf (lh.entry [.ref b] (show (lg_sl [Value.ref b]).length ≤ 7 from Nat.le_of_ble_eq_true rfl) (fun v hv => by rw [List.mem_singleton.mp hv]; rfl))
