section SH
variable {p : Program} {l : Launch} {e : Env} {R : Room} {s : State} {m : MethodId} {args : Array Value} {below : List Frame} {meth : Method} {c : Code} {D : va_G} {A : Nat → Prop} {cells slots : Nat} {Q : State → Prop} {n n' : Nat} {ad ad' σ : Nat → Nat} {w w2 v v' : Nat → va_E} {nL : Nat}
variable {cc : ByteArray} {own : String} {aC : Nat → ClassId} {pc : Nat} {lv : List (Nat × Value)} {st : List Value} {o : Option Value}
def CSw (y : MethodName) (b : ByteArray) (mL : Nat) (hh : List (Nat × Nat × Nat × Nat)) (nA : Nat) : Prop := Cond.codeWith y b mL (some .int) hh ∈ gw ∧ Cond.initialized y.cls ∈ gw ∧ y.cls ≠ "java/lang/invoke/MethodHandle" ∧ y.cls ≠ "java/lang/invoke/VarHandle" ∧ (parseMethodDescriptor y.desc).map (fun d => d.parameters.length) = some nA ∧ Cond.static y ∈ gw
theorem gw_paysW {y : MethodName} {b : ByteArray} {mL : Nat} {hh : List (Nat × Nat × Nat × Nat)} (hts : ∀ z ∈ gw, z.before args s = true) (hc : Cond.codeWith y b mL (some .int) hh ∈ gw) : ∀ z ∈ Cond.codeWith y b mL (some .int) hh :: gw, ∀ (a' : Array Value) (U : State), s.WarmedH U.vm → z.before a' U = true := by
  refine pay_in hts (fun z hz => ?_)
  rcases List.mem_cons.mp hz with rfl | hz
  · exact ⟨hc, good_of_word (gw_good hc)⟩
  · exact ⟨hz, good_of_word (gw_good hz)⟩
theorem run_Sw {H : Heap} {locs : List Loc} {ls : Array Slot} (hx : p.tables.exec = Jvm.exec) (hb : c.code = cc) (hown : s.vm.findClass own = some m.cls) (hts : ∀ z ∈ gw, z.before args s = true) {y : MethodName} {b : ByteArray} {mL : Nat} {hh : List (Nat × Nat × Nat × Nat)} {rm : Room} {nA index : Nat} {As st0 : List Value} (hM : OkW l y b mL hh rm D aC n' ad' As v o v') (hC : CSw y b mL hh nA) (hlink : Cond.methodLink own index y ∈ gw) (hn : As.length = nA)
    (hroom : rm.cells = 1 ∧ rm.slots = 6 ∧ rm.frames + 1 ≤ R.frames ∧ 8 + (mL + 11) + rm.locals ≤ R.locals) (hcs : cells + 1 ≤ R.cells ∧ slots + 6 ≤ R.slots) (hml : c.maxLocals = nL) (hls : ls.size = nL) (hwt : (st.map fun v => v.category).sum ≤ 8) (hst : st0 = As.reverse ++ st) (hdg : decode cc pc = .ok (.invokestatic index, 3))
    (hpre : ∀ U : State, U.heap = H → s.WarmedH U.vm → Pz D aC n' ad' v U) :
    va_Run p l e R s m args below meth c H locs cells slots 1 6 (F0 m pc ls st0) st (Qk D aC n' ad' o v' As.toArray) (rg n' ad') := by
  obtain ⟨c1, c2, c3, c4, c5, c6⟩ := hC
  have hK := va_backW (p := p) (e := e) (below := below) (s := s) (sargs := args) (len := 3) (W := 8) (R := R) hM Pz.blind hroom.1 hroom.2.1 hroom.2.2.1 hroom.2.2.2 (gw_paysW hts c1) List.mem_cons_self (fun a' U hW => (gw_paysW hts c1) _ (List.mem_cons_of_mem _ c2) a' U hW)
  intro T hT X
  obtain ⟨mk, methM, cM, hnamed, hmethM, -, -, -, -, -, -, hsigM⟩ := Cond.codeWith_spec (hts _ c1)
  have hstatic : methM.isStatic = true := Cond.static_spec hnamed hmethM (hts _ c6)
  obtain ⟨kP, hkP, -⟩ := className_of_methodNamed hnamed
  have hinitP : kP.init = .initialized := Cond.initialized_spec (findClass_of_methodNamed hnamed) hkP (hts _ c2)
  have hlen : As.length = methM.sig.parameters.length := by
    rw [hsigM] at c5
    rw [hn]; exact (Option.some.inj c5).symm
  obtain ⟨vm₁, X₁, hstep₁⟩ := X.invokestatic hx hown (hts _ hlink) hnamed hmethM hstatic hkP hinitP ⟨c3, c4⟩ (g := F0 m pc ls st0) rfl (argsL := As) (rest := st) hlen hst (by rw [hb]; exact hdg)
  obtain ⟨u, Bt, X', hpost, hsteps⟩ := hK m meth c ⟨T.setVm vm₁, locs, cells, slots⟩ { (F0 m pc ls st0) with stack := st } (.invokestatic index) mk As.toArray X₁ rfl (hls.trans hml.symm) (by rw [hb]; exact hdg) (lv_room hwt) (X₁.named hnamed) ⟨hcs.1, hcs.2, rfl, hpre (T.setVm vm₁) hT X₁.warmed⟩
  obtain ⟨U', l2, c2', s2⟩ := Bt
  obtain ⟨g', mk', t, L, e1, e2, hq, h1, hL, h2, h3⟩ := hpost
  dsimp only [Pt.U, Pt.locs, Pt.cells, Pt.slots] at X' e1 e2 h1 h2 h3 hsteps
  subst h1; subst h2; subst h3
  exact ⟨u, (T.setVm vm₁).calling g' mk' As.toArray, t, U', L, hT, X', hL, e1, e2, hq, fun target h => hstep₁ _ fun acts => by rw [doInvoke_state]; exact hsteps.trans h⟩
theorem j_cSw (B : Cx p s m c args cc own D aC A n ad) (hZ : ZS A s) (hσ : SubW n n' ad ad' σ) (hi : ∀ i j, i < n' → j < n' → σ i = σ j → i = j) {y : MethodName} {b : ByteArray} {mL : Nat} {hh : List (Nat × Nat × Nat × Nat)} {rm : Room} {nA index : Nat} {As st0 : List Value} (hM : OkW l y b mL hh rm D aC n' ad' As v o v') (hC : CSw y b mL hh nA) (hlink : Cond.methodLink own index y ∈ gw) (hn : As.length = nA)
    (hroom : rm.cells = 1 ∧ rm.slots = 6 ∧ rm.frames + 1 ≤ R.frames ∧ 8 + (mL + 11) + rm.locals ≤ R.locals) (hcs : cells + 1 ≤ R.cells ∧ slots + 6 ≤ R.slots) (hv : ∀ k, k < n' → w (σ k) = v k) (h2 : PutW n n' σ w w2 v') (hml : c.maxLocals = nL) (hwt : (st.map fun v => v.category).sum ≤ 8) (hst : st0 = As.reverse ++ st) (hdg : decode cc pc = .ok (.invokestatic index, 3))
    (kk : J p l e R s m args below meth c D A (cells + 1) (slots + 6) Q n ad w2 nL (pc + 3) lv (o.toList ++ st)) : J p l e R s m args below meth c D A cells slots Q n ad w nL pc lv st0 := by
  intro H locs ls hP hS hl
  obtain ⟨hx, hb, hown, hts, hN, hK, hD⟩ := B
  have hPs := sub_P hσ hP hv
  have hAB : ∀ q, rg n' ad' q → A q := fun q hq => by obtain ⟨k, hk', rfl⟩ := sub_rg hσ hq; exact hD.2 k hk'
  exact j_afterS hσ hD hP (run_Sw hx hb hown hts hM hC hlink hn hroom hcs hml hl.1 hwt hst hdg (fun U hU hW => ⟨⟨by rw [hU]; exact hPs, va_K.moved hW.alike hK, sub_D hσ hi hD (fun _ _ => trivial), nw_warm hW hN⟩, (hZ.moved hW (fun a h1 h2 => by rw [hU]; exact hS.2.1 a h1 h2)).narrow hAB⟩)) hS h2 (fun H1 locs1 h1 h2 => kk H1 locs1 ls h1 h2 hl)
theorem j_sld (B : Cx p s m c args cc own D aC A n ad) {b L a : Nat} {xs : Nat → Int32} {i : Int32} (hX : va_X b L xs s s.heap) (hbl : b < s.heap.size) (hbA : ¬ A b) (hi : i = nI a ∧ a < L ∧ L < 2 ^ 31) (hdg : decode cc pc = .ok (.iaload, 1))
    (kk : J p l e R s m args below meth c D A cells slots Q n ad w nL (pc + 1) lv (.int (xs a) :: st)) : J p l e R s m args below meth c D A cells slots Q n ad w nL pc lv (.int i :: .ref b :: st) := by
  intro H locs ls hP hS hl
  obtain ⟨hx, hb, hown, hts, hN, hK, hD⟩ := B
  obtain ⟨rfl, h1, h2⟩ := hi
  have kk' := (kk H locs ls hP hS hl)
  rw [← nI_clamp (n := a) (by omega)] at kk'
  exact va_sld hx hb hX hbl hbA hS (vp_in_nI h1 h2) hdg kk'
theorem j_slen (B : Cx p s m c args cc own D aC A n ad) {b L : Nat} {xs : Nat → Int32} (hX : va_X b L xs s s.heap) (hbl : b < s.heap.size) (hbA : ¬ A b) (hL : L < 2 ^ 31) (hdg : decode cc pc = .ok (.arraylength, 1))
    (kk : J p l e R s m args below meth c D A cells slots Q n ad w nL (pc + 1) lv (.int (nI L) :: st)) : J p l e R s m args below meth c D A cells slots Q n ad w nL pc lv (.ref b :: st) := by
  intro H locs ls hP hS hl
  obtain ⟨hx, hb, hown, hts, hN, hK, hD⟩ := B
  exact va_slen hx hb hX hbl hbA hS hdg (kk H locs ls hP hS hl)
theorem j_lald (B : Cx p s m c args cc own D aC A n ad) {k N : Nat} {f : Nat → Int64} (hk : k < n) (hw : w k = .inl (aC 5, N, .inr (.inl f))) (hN0 : 0 < N) (hN1 : N < 2 ^ 31) (hdg : decode cc pc = .ok (.laload, 1))
    (kk : J p l e R s m args below meth c D A cells slots Q n ad w nL (pc + 1) lv (.long (f 0) :: st)) : J p l e R s m args below meth c D A cells slots Q n ad w nL pc lv (.int 0 :: .ref (ad k) :: st) := by
  intro H locs ls hP hS hl
  obtain ⟨hx, hb, hown, hts, hN, hK, hD⟩ := B
  exact va_lald hx hb hK hP k 5 (cA := aC 5) (n := N) (f := f) (by rw [fw_get hk, hw]) rfl (vp_in_nI (n := 0) hN0 hN1) hdg (kk H locs ls hP hS hl)
end SH
