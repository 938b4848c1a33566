theorem hts_gw {s : State} {args : Array Value} (hts : ∀ w ∈ lw_tbl, w.before args s = true) : ∀ w ∈ gw, w.before args s = true := fun w hw => hts w (List.mem_filter.mp hw).1
theorem nw_all {s : State} {args : Array Value} (hts : ∀ w ∈ lw_tbl, w.before args s = true) : ∀ w ∈ nw, va_Nw w s := by
  intro w hw
  obtain ⟨h1, h2⟩ := List.mem_filter.mp hw
  have h3 : w ∈ lw_tbl := List.mem_append_right _ h1
  refine va_Nw.of ?_ (hts w h3)
  cases w <;> first | rfl | cases h2
theorem ao_all {s : State} {args : Array Value} (hts : ∀ w ∈ lw_tbl, w.before args s = true) : ∀ C ∈ aos, va_AO C s := by
  intro C hC
  have hw : Cond.arrayOver (.object C) ∈ lw_tbl := by
    revert C
    decide +kernel
  exact va_AO.of (hts _ hw)
theorem kn_all {s : State} {args : Array Value} (hts : ∀ w ∈ lw_tbl, w.before args s = true) : ∀ (ci : Nat) (q : vw_C), classes[ci]? = some q → ∃ (cC : ClassId) (iS : Nat → Nat), u_Kn s q.1 q.2.1 q.2.2 cC iS := by
  have g := hts_gw hts
  intro ci q h
  match ci, h with
  | 0, h => cases h; exact u_known g i_Lp (g _ wk_Lp)
  | 1, h => cases h; exact u_known g i_Bl (g _ wk_Bl)
  | 2, h => cases h; exact u_known g i_Ck (g _ wk_Ck)
  | 3, h => cases h; exact u_known g i_Co (g _ wk_Co)
  | 4, h => cases h; exact u_known g i_Fr (g _ wk_Fr)
  | 5, h => cases h; exact u_known g i_Ma (g _ wk_Ma)
  | 6, h => cases h; exact u_known g i_Pr (g _ wk_Pr)
  | 7, h => cases h; exact u_known g i_Ta (g _ wk_Ta)
  | 8, h => cases h; exact u_known g i_Tx (g _ wk_Tx)
  | 9, h => cases h; exact u_known g i_Ty (g _ wk_Ty)
  | 10, h => cases h; exact u_known g i_Mo (g _ wk_Mo)
  | n + 11, h => cases h
theorem ar_all {s : State} {args : Array Value} (hts : ∀ w ∈ lw_tbl, w.before args s = true) : ∀ t : Nat, ∃ cA : ClassId, ∀ ty : FieldType, [FieldType.int, .object R_Tx, .object R_Bl, .object R_Pr, .object R_Fr, .long][t]? = some ty → ArrOfT s cA ty ∧ va_RA s cA ty := by
  have prim : ∀ ty : FieldType, (∀ C, ty ≠ .object C) → (Cond.arrayClass ty).before args s = true → ∃ cA, ArrOfT s cA ty ∧ s.vm.findClass ("[" ++ ty.toString) = some cA := by
    intro ty hne h
    obtain ⟨c, k, comp, h1, h2, h3⟩ := Cond.arrayClass_spec h
    exact ⟨c, fun N z => ⟨(fun k h => by cases h), k, h2, comp, h3⟩, h1⟩
  have obj : ∀ C : String, C ∈ aos → ∃ cA, ArrOfT s cA (.object C) ∧ va_RA s cA (.object C) := by
    intro C hC
    obtain ⟨comp, c, k, h1, h2, h3, h4, h5⟩ := Cond.arrayOver_spec (ao_all hts C hC)
    exact ⟨c, fun N z => ⟨(fun k h => by cases h), k, h3, comp, h4⟩, k, comp, h3, h4, h1, h5⟩
  intro t
  match t with
  | 0 =>
    obtain ⟨c, h1, h2⟩ := prim .int (fun C h => by cases h) (hts_gw hts _ wi_i)
    exact ⟨c, fun ty h => by cases h; exact ⟨h1, h2⟩⟩
  | 1 => obtain ⟨c, h⟩ := obj R_Tx (by decide); exact ⟨c, fun ty e => by cases e; exact h⟩
  | 2 => obtain ⟨c, h⟩ := obj R_Bl (by decide); exact ⟨c, fun ty e => by cases e; exact h⟩
  | 3 => obtain ⟨c, h⟩ := obj R_Pr (by decide); exact ⟨c, fun ty e => by cases e; exact h⟩
  | 4 => obtain ⟨c, h⟩ := obj R_Fr (by decide); exact ⟨c, fun ty e => by cases e; exact h⟩
  | 5 =>
    obtain ⟨c, h1, h2⟩ := prim .long (fun C h => by cases h) (hts_gw hts _ wi_l)
    exact ⟨c, fun ty h => by cases h; exact ⟨h1, h2⟩⟩
  | n + 6 => exact ⟨0, fun ty h => by cases h⟩
theorem K_all {s : State} {args : Array Value} (hts : ∀ w ∈ lw_tbl, w.before args s = true) : ∃ (D : va_G) (aC : Nat → ClassId), va_K D classes (tyl aC) s := by
  have h1 : ∀ ci : Nat, ∃ r : ClassId × (Nat → Nat), ∀ q : vw_C, classes[ci]? = some q → u_Kn s q.1 q.2.1 q.2.2 r.1 r.2 := by
    intro ci
    cases h : classes[ci]? with
    | none => exact ⟨(0, fun _ => 0), fun q hq => by cases hq⟩
    | some q =>
      obtain ⟨cC, iS, hk⟩ := kn_all hts ci q h
      exact ⟨(cC, iS), fun q' hq => by cases hq; exact hk⟩
  obtain ⟨Df, hD⟩ := Classical.axiomOfChoice h1
  obtain ⟨aC, hA⟩ := Classical.axiomOfChoice (ar_all hts)
  refine ⟨(fun ci => (Df ci).1, fun ci => (Df ci).2), aC, fun c q hq => hD c q hq, fun k q hk => ?_⟩
  match k, hk with
  | 0, h => cases h; exact hA 0 _ rfl
  | 1, h => cases h; exact hA 1 _ rfl
  | 2, h => cases h; exact hA 2 _ rfl
  | 3, h => cases h; exact hA 3 _ rfl
  | 4, h => cases h; exact hA 4 _ rfl
  | 5, h => cases h; exact hA 5 _ rfl
  | n + 6, h => cases h
theorem ZS_all {s : State} {args : Array Value} (hts : ∀ w ∈ lw_tbl, w.before args s = true) (hgv : (Jvm.Cond.and given_1 narrow_1).before args s = true) : ZS (fun q => s.heap.size ≤ q) s := by
  have fl := flat_of_before _ hgv
  have hA : ∀ a : Nat, a < s.heap.size → ¬ s.heap.size ≤ a := fun a h1 h2 => Nat.lt_irrefl _ (Nat.lt_of_lt_of_le h1 h2)
  have w1 : (Cond.laysStatic Bundle.tN n_us Bundle.steD).before args s = true := hts _ (by decide +kernel)
  have w2 : (Cond.laysStatic Bundle.tN n_ss Bundle.listD).before args s = true := hts _ (by decide +kernel)
  have w3 : (Cond.initialized Bundle.tN).before args s = true := hts _ (by decide +kernel)
  have r1 : (Cond.isRef (.static Bundle.tN n_us Bundle.steD)).before args s = true := fl _ (by decide +kernel)
  have r2 : (Cond.isRef (.static Bundle.tN n_ss Bundle.listD)).before args s = true := fl _ (by decide +kernel)
  refine ⟨va_Zqof w1 w3 r1 hA, va_Zqof w2 w3 r2 hA, ?_, ?_, ZL.of w1 hA, ZL.of w2 hA, ?_⟩
  · intro q hq
    have h1 : Cond.stringRef "LandingPads" q.1 q.2 ∈ lw_tbl := by
      revert q
      decide +kernel
    have h2 : Cond.exactly (Term.string "LandingPads" q.1) "java/lang/String" ∈ flatC (Jvm.Cond.and given_1 narrow_1) := by
      revert q
      decide +kernel
    obtain ⟨a, c, cell, k, e1, -⟩ := Cond.exactly_spec (fl _ h2)
    exact ⟨a, vk_R.of (hts _ h1) e1⟩
  · intro c1 c2 h1 h2
    have h3 := fl (Cond.not (Cond.castable n_ise n_iae)) (by decide +kernel)
    cases h4 : s.vm.assignable c1 c2 with
    | false => rfl
    | true =>
      exfalso
      simp [Cond.before, Cond.holds, Cond.value, h1, h2, h4] at h3
  · intro z hz
    have h1 : z ∈ lw_tbl := by
      revert z
      decide +kernel
    exact va_Nw.of ((by decide +kernel : ∀ z ∈ fbad, z.onTables = true) z hz) (hts z h1)
