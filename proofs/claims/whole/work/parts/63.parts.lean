/-! CALLS over a part of the world: the callee's cell k is the caller's cell σ k -/
def SubW (n n' : Nat) (ad ad' : Nat → Nat) (σ : Nat → Nat) : Prop := ∀ k, k < n' → σ k < n ∧ ad' k = ad (σ k)
def PutW (n n' : Nat) (σ : Nat → Nat) (w w2 v' : Nat → va_E) : Prop := (∀ k, k < n' → w2 (σ k) = v' k) ∧ ∀ i, i < n → (∀ k, k < n' → i ≠ σ k) → w2 i = w i
section SW
variable {p : Program} {l : Launch} {e : Env} {R : Room} {s : State} {m : MethodId} {args : Array Value} {below : List Frame} {meth : Method} {c : Code} {D : va_G} {A : Nat → Prop} {cells slots : Nat} {Q : State → Prop} {n n' : Nat} {ad ad' σ : Nat → Nat} {w w2 v v' : Nat → va_E} {nL : Nat}
variable {cc : ByteArray} {own : String} {aC : Nat → ClassId} {pc : Nat} {lv : List (Nat × Value)} {st : List Value} {o : Option Value} {X : String}
theorem sub_P {H : Heap} (hσ : SubW n n' ad ad' σ) (hP : va_P D classes (fw n ad w) H) (hv : ∀ k, k < n' → w (σ k) = v k) : va_P D classes (fw n' ad' v) H := by
  intro k q hk
  obtain ⟨h, rfl⟩ := fw_of hk
  have h1 := hP (σ k) _ (fw_get (hσ k h).1)
  rw [hv k h, ← (hσ k h).2] at h1
  exact h1
theorem sub_rg (hσ : SubW n n' ad ad' σ) {q : Nat} (h : rg n' ad' q) : rg n ad q := by
  obtain ⟨k, hk, rfl⟩ := h
  exact ⟨σ k, (hσ k hk).1, (hσ k hk).2⟩
theorem sub_D {B : Nat → Prop} (hσ : SubW n n' ad ad' σ) (hi : ∀ i j, i < n' → j < n' → σ i = σ j → i = j) (hD : fD A n ad) (hB : ∀ k, k < n' → B (ad' k)) : fD B n' ad' := by
  refine ⟨fun i j h1 h2 h => hi i j h1 h2 (hD.1 _ _ (hσ i h1).1 (hσ j h2).1 ?_), hB⟩
  rw [← (hσ i h1).2, ← (hσ j h2).2]; exact h
theorem sub_back {H H1 : Heap} (hσ : SubW n n' ad ad' σ) (hD : fD A n ad) (hP : va_P D classes (fw n ad w) H) (hP1 : va_P D classes (fw n' ad' v') H1) (hk : ∀ a : Nat, a < H.size → ¬ rg n' ad' a → H1[a]? = H[a]?) (h2 : PutW n n' σ w w2 v') : va_P D classes (fw n ad w2) H1 := by
  intro i q hq
  obtain ⟨hi, rfl⟩ := fw_of hq
  by_cases h : ∃ k, k < n' ∧ i = σ k
  · obtain ⟨k, hk', rfl⟩ := h
    rw [h2.1 k hk', ← (hσ k hk').2]
    exact hP1 k _ (fw_get hk')
  · have h' : ∀ k, k < n' → i ≠ σ k := fun k hk hik => h ⟨k, hk, hik⟩
    rw [h2.2 i hi h']
    have h3 := hP i _ (fw_get hi)
    refine h3.kept ?_
    obtain ⟨cell, hc, -⟩ := pr_nst hP hi
    refine hk _ (Array.getElem?_eq_some_iff.mp hc).1 (fun hr => ?_)
    obtain ⟨k, hk', e'⟩ := hr
    rw [(hσ k hk').2] at e'
    exact h' k hk' (hD.1 _ _ hi (hσ k hk').1 e')
theorem j_afterS {H : Heap} {locs : List Loc} {ls : Array Slot} {mc ms : Nat} {st0 rest : List Value} {a : Array Value} (hσ : SubW n n' ad ad' σ) (hD : fD A n ad) (hP : va_P D classes (fw n ad w) H) (hr : va_Run p l e R s m args below meth c H locs cells slots mc ms (F0 m pc ls st0) rest (Qk D aC n' ad' o v' a) (rg n' ad')) (hS : va_S A s.heap H locs) (h2 : PutW n n' σ w w2 v')
    (kk : ∀ (H1 : Heap) (locs1 : List Loc), va_P D classes (fw n ad w2) H1 → va_S A s.heap H1 locs1 → W p l e R s m args below meth c H1 locs1 (cells + mc) (slots + ms) Q (F0 m (pc + 3) ls (o.toList ++ rest))) : W p l e R s m args below meth c H locs cells slots Q (F0 m pc ls st0) := by
  intro T hT XX
  obtain ⟨u, st₀, t, T', L, h0, X', hL, e1, e2, ⟨hv, hB, hz, hk⟩, stp⟩ := hr T hT XX
  cases hv
  rw [h0] at hz hk
  have hA : ∀ q, rg n' ad' q → A q := fun q hq => by obtain ⟨k, hk', rfl⟩ := sub_rg hσ hq; exact hD.2 k hk'
  obtain ⟨t2, a1, b1⟩ := kk T'.heap (locs ++ L) (by rw [e1]; exact sub_back hσ hD hP hB.1 hk h2)
    ⟨Nat.le_trans hS.1 (by rw [e1]; exact hz), fun q g1 g2 => by rw [e1, hk q (Nat.lt_of_lt_of_le g1 hS.1) (fun z => g2 (hA q z))]; exact hS.2.1 q g1 g2, fun q hq => by
      rcases List.mem_append.mp hq with h | h
      · exact hS.2.2 q h
      · exact hA _ (hL q h)⟩ T' rfl X'
  exact ⟨t2, stp t2 a1, b1⟩
theorem j_cVs (B : Cx p s m c args cc own D aC A n ad) (hσ : SubW n n' ad ad' σ) (hi : ∀ i j, i < n' → j < n' → σ i = σ j → i = j) {y : MethodName} {b : ByteArray} {mL : Nat} {ret : Option FieldType} {rm : Room} {k0 nA index ci : Nat} {As st0 : List Value} {fs : List Value} {Tt : u_T} {N : Nat} (hM : Ok l y b mL ret rm D aC n' ad' (.ref (ad' k0) :: As) v o v') (hC : CV y b mL ret nA) (hlink : Cond.methodLink own index y ∈ gw) (hn : As.length = nA)
    (hroom : rm.cells = 0 ∧ rm.slots = 0 ∧ rm.frames + 1 ≤ R.frames ∧ 8 + (mL + 11) + rm.locals ≤ R.locals) (hcs : cells ≤ R.cells ∧ slots ≤ R.slots) (hv : ∀ k, k < n' → w (σ k) = v k) (hk0 : k0 < n') (hcell : v k0 = .inr (ci, fs)) (hc : classes[ci]? = some (y.cls, Tt, N)) (h2 : PutW n n' σ w w2 v') (hml : c.maxLocals = nL) (hwt : (st.map fun v => v.category).sum ≤ 8) (hst : st0 = As.reverse ++ .ref (ad' k0) :: st) (hdg : decode cc pc = .ok (.invokevirtual index, 3))
    (kk : J p l e R s m args below meth c D A cells slots Q n ad w2 nL (pc + 3) lv (o.toList ++ st)) : J p l e R s m args below meth c D A cells slots Q n ad w nL pc lv st0 := by
  intro H locs ls hP hS hl
  obtain ⟨hx, hb, hown, hts, hN, hK, hD⟩ := B
  obtain ⟨⟨c1, c2, c3, c4, c5⟩, c6, c7⟩ := hC
  have cw : CallW R s args own y.cls index y b mL ret (.code y b mL ret :: gw) rm 0 0 nA := by
    refine ⟨⟨hroom.1, hroom.2.1, hroom.2.2.1, hroom.2.2.2, gw_pays hts c1, List.mem_cons_self, hts _ c1, hts _ c2, ⟨c3, c4⟩, fun sig h => ?_, hts _ hlink⟩, hts _ c6, hts _ c7⟩
    rw [h] at c5
    exact (Option.some.inj c5).symm
  have hPs := sub_P hσ hP hv
  have he : (fw n' ad' v)[k0]? = some (ad' k0, .inr (ci, fs)) := by rw [fw_get hk0, hcell]
  exact j_afterS hσ hD hP (va_runV (As := As) (rest := st) (b := ad' k0) ⟨hx, hb, hml, hown, hts⟩ hM cw ⟨TW.blind, va_recv hK hPs hc he, fun U hU hW => ⟨rfl, by rw [hU]; exact hPs, va_K.moved hW.alike hK, sub_D hσ hi hD (fun _ _ => trivial), nw_warm hW hN⟩⟩ rfl hn hl.1 hst (lv_room hwt) hdg hcs) hS h2 (fun H1 locs1 h1 h2 => kk H1 locs1 ls h1 h2 hl)
theorem j_wide {k i : Nat} (h1 : cells ≤ k) (h2 : slots ≤ i) (kk : J p l e R s m args below meth c D A k i Q n ad w nL pc lv st) : J p l e R s m args below meth c D A cells slots Q n ad w nL pc lv st := fun H locs ls hP hS hl => W.widen h1 h2 (kk H locs ls hP hS hl)
theorem j_last (B : Cx p s m c args cc own D aC A n ad) {k N : Nat} {f : Nat → Int64} {a : Int64} (hk : k < n) (hw : w k = .inl (aC 5, N, .inr (.inl f))) (hN0 : 0 < N) (hN1 : N < 2 ^ 31) (hdg : decode cc pc = .ok (.lastore, 1)) (hw2 : w2 = va_up w k (.inl (aC 5, N, .inr (.inl (vp_updL f 0 a)))))
    (kk : J p l e R s m args below meth c D A cells slots Q n ad w2 nL (pc + 1) lv st) : J p l e R s m args below meth c D A cells slots Q n ad w nL pc lv (.long a :: .int 0 :: .ref (ad k) :: st) := by
  subst hw2
  intro H locs ls hP hS hl
  obtain ⟨hx, hb, hown, hts, hN, hK, hD⟩ := B
  refine va_last hx hb hK hP hD.to hS k 5 (cA := aC 5) (n := N) (f := f) (by rw [fw_get hk, hw]) rfl (vp_in_nI (n := 0) hN0 hN1) hdg fun H1 locs1 h1 _ h3 => ?_
  rw [fw_set hk] at h1
  exact kk H1 locs1 ls h1 h3 hl
theorem j_ireg {mc ms : Nat} (B : Cx p s m c args cc own D aC (rg n ad) n ad) (hr : meth.sig.returnType = some .int) (hlk : meth.locks = false) {a : Int32} (hdg : decode cc pc = .ok (.ireturn, 1)) (ho : some (.int a) = o) (hw : w = w2) : J p l e R s m args below meth c D (rg n ad) mc ms (MQ below (Qk D aC n ad o w2) args s mc ms (rg n ad)) n ad w nL pc lv [.int a] := by
  subst ho; subst hw
  intro H locs ls hP hS hl
  obtain ⟨hx, hb, hown, hts, hN, hK, hD⟩ := B
  exact W.iret hx hb hr (fun t ht hW => ⟨rfl, ⟨by rw [ht]; exact hP, va_K.moved hW.alike hK, ⟨hD.1, fun _ _ => trivial⟩, nw_warm hW hN⟩, hS.F ht⟩) hS.2.2 hdg (hlocks := hlk)
end SW
/-! THE LAW'S HELPERS: they catch; their world is the class's, and an array of one long -/
abbrev tabH (c : Code) (hh : List (Nat × Nat × Nat × Nat)) : Prop := c.exceptionTable.toList.map (fun h => (h.startPc, h.endPc, h.handlerPc, h.catchType)) = hh
def OkW (l : Launch) (y : MethodName) (b : ByteArray) (mL : Nat) (hh : List (Nat × Nat × Nat × Nat)) (rm : Room) (D : va_G) (aC : Nat → ClassId) (n : Nat) (ad : Nat → Nat) (av : List Value) (w : Nat → va_E) (o : Option Value) (w' : Nat → va_E) : Prop :=
  Met l y (.codeWith y b mL (some .int) hh :: gw) rm (va_Pc av (Pz D aC n ad w)) (Qk D aC n ad o w') 1 6 (rg n ad)
section LA
variable {p : Program} {l : Launch} {e : Env} {R : Room} {s : State} {m : MethodId} {args : Array Value} {below : List Frame} {meth : Method} {c : Code} {D : va_G} {A : Nat → Prop} {cells slots : Nat} {Q : State → Prop} {n n' : Nat} {ad : Nat → Nat} {w w' w2 v v' : Nat → va_E} {nL : Nat}
variable {cc : ByteArray} {own : String} {aC : Nat → ClassId} {pc : Nat} {lv : List (Nat × Value)} {st : List Value} {o : Option Value} {X : String}
theorem la_start {y : MethodName} {b : ByteArray} {mL : Nat} {hh : List (Nat × Nat × Nat × Nat)} {rm : Room} {av : List Value} (hy : plainName y.cls = true) (hlen : (lg_sl av).length ≤ mL) (hcat : (av.all fun v => Nat.beq v.category 1) = true)
    (body : ∀ (p : Program) (e : Env) (s : State) (m : MethodId) (args : Array Value) (below : List Frame) (meth : Method) (c : Code), Cx p s m c args b y.cls D aC (rg n ad) n ad → ZS (rg n ad) s → tabH c hh → meth.sig.returnType = some .int → meth.locks = false → c.maxLocals = mL →
      J p l e rm s m args below meth c D (rg n ad) 0 0 (MQ below (Qk D aC n ad o w') args s 1 6 (rg n ad)) n ad w mL 0 (lv_args 0 av) []) : OkW l y b mL hh rm D aC n ad av w o w' := by
  refine va_MetW (cc := b) (maxL := mL) (ret := some .int) (hh := hh) hy rfl ?_
  intro p e s m args below meth c s₁ B hml hv
  obtain ⟨rfl, ⟨hP, hK, hD, hN⟩, hZ⟩ := hv
  have hts := atoms_spec (ws := .codeWith y b mL (some .int) hh :: gw) B.pre
  have hown : s.vm.findClass y.cls = some m.cls := findClass_of_methodNamed B.named
  have htab : tabH c hh := by
    obtain ⟨m9, meth9, c9, hn9, g1, g2, -, -, g5, -⟩ := Cond.codeWith_spec (hts _ List.mem_cons_self)
    cases B.named.symm.trans hn9
    cases B.method.symm.trans g1
    cases (Stand.of_body B).code.symm.trans g2
    exact g5
  rw [lg_entry_eq]
  exact body p e s m _ below meth c ⟨B.exec, B.bytes, hown, fun z hz => hts z (List.mem_cons_of_mem _ hz), hN, hK, ⟨hD.1, fun k hk => ⟨k, hk, rfl⟩⟩⟩ hZ htab B.returns B.notSynchronized hml s.heap [] _ hP va_S.rf (lh.entry av hlen (fun v hv => Nat.eq_of_beq_eq_true (List.all_eq_true.mp hcat v hv)))
/-- which entry of the table catches: the first; or the second, for an IllegalStateException, behind one for an IllegalArgumentException -/
def Cat (own X : String) (hh : List (Nat × Nat × Nat × Nat)) (pc hpc : Nat) : Prop :=
  (∃ a b ct r, hh = (a, b, hpc, ct) :: r ∧ a ≤ pc ∧ pc < b ∧ ct ≠ 0 ∧ Cond.classLink own ct X ∈ gw) ∨
  (X = n_ise ∧ ∃ q0 ct0 a b ct r, hh = (q0, ct0) :: (a, b, hpc, ct) :: r ∧ ct0.2.2 ≠ 0 ∧ Cond.classLink own ct0.2.2 n_iae ∈ gw ∧ a ≤ pc ∧ pc < b ∧ ct ≠ 0 ∧ Cond.classLink own ct X ∈ gw)
theorem cat_caught {T : State} {locs : List Loc} {hh : List (Nat × Nat × Nat × Nat)} {hpc : Nat} {ls : Array Slot} (B : Cx p s m c args cc own D aC A n ad) (hZ : ZS (rg n ad) s) (htab : tabH c hh) (hcat : Cat own X hh pc hpc) (hX : Cond.castable X X ∈ bads) (XX : Stand p l e R s m args below meth c T locs cells slots) {q : Addr} {ce : Cell} (h1 : T.heap[q]? = some ce) (h2 : ce.vm = .none) (h3 : s.vm.findClass X = some ce.cls) {s₀ : State}
    (hcome : Steps p.tables e below s₀ ((T.setTop (F0 m pc ls st)).pushFrame (.throwing q))) : ∃ vm', Stand p l e R s m args below meth c (T.setVm vm') locs cells slots ∧ Steps p.tables e below s₀ ((T.setVm vm').setTop (F0 m hpc ls [.ref q])) := by
  obtain ⟨hx, hb, hown, hts, hN, hK, hD⟩ := B
  have hpl : e.platform.magicAccessors = ({} : Platform).magicAccessors := by rw [XX.admits.platform]
  obtain ⟨c3, cT, g3, gT, hasg⟩ := Cond.castable_spec (hZ.bads (args := args) _ hX)
  cases h3.symm.trans g3
  cases h3.symm.trans gT
  rcases hcat with ⟨a, b, ct, r, rfl, ha, hb', hct, hlk⟩ | ⟨rfl, q0, ct0, a, b, ct, r, rfl, hct0, hlk0, ha, hb', hct, hlk⟩
  · cases hl : c.exceptionTable.toList with
    | nil => unfold tabH at htab; rw [hl] at htab; cases htab
    | cons x rest =>
      unfold tabH at htab
      rw [hl] at htab
      have hxe : (x.startPc, x.endPc, x.handlerPc, x.catchType) = (a, b, hpc, ct) := (List.cons.inj htab).1
      obtain ⟨rfl, rfl, rfl, rfl⟩ : x.startPc = a ∧ x.endPc = b ∧ x.handlerPc = hpc ∧ x.catchType = ct := ⟨congrArg Prod.fst hxe, congrArg (fun z => z.2.1) hxe, congrArg (fun z => z.2.2.1) hxe, congrArg (fun z => z.2.2.2) hxe⟩
      obtain ⟨hend, hk0⟩ := XX.catches_of_link hown hct (hts _ hlk) h3 hasg
      exact XX.thenCaughtThrough q (g := F0 m pc ls st) rfl hcome h1 (by rw [h2]; rfl) hk0 [] x rest hl (fun y hy => by cases hy) (by simp [covers, ha, hb']) hend
  · cases hl : c.exceptionTable.toList with
    | nil => unfold tabH at htab; rw [hl] at htab; cases htab
    | cons x0 rest0 =>
      cases hl2 : rest0 with
      | nil => unfold tabH at htab; rw [hl, hl2] at htab; have := (List.cons.inj htab).2; cases this
      | cons x rest =>
        unfold tabH at htab
        rw [hl, hl2] at htab
        have hx0 : (x0.startPc, x0.endPc, x0.handlerPc, x0.catchType) = (q0, ct0) := (List.cons.inj htab).1
        have hxe : (x.startPc, x.endPc, x.handlerPc, x.catchType) = (a, b, hpc, ct) := (List.cons.inj (List.cons.inj htab).2).1
        obtain ⟨rfl, rfl, rfl, rfl⟩ : x.startPc = a ∧ x.endPc = b ∧ x.handlerPc = hpc ∧ x.catchType = ct := ⟨congrArg Prod.fst hxe, congrArg (fun z => z.2.1) hxe, congrArg (fun z => z.2.2.1) hxe, congrArg (fun z => z.2.2.2) hxe⟩
        have hct1 : x0.catchType = ct0.2.2 := congrArg (fun z => z.2.2.2) hx0
        rw [← hct1] at hct0 hlk0
        obtain ⟨hend, hk0⟩ := XX.catches_of_link hown hct (hts _ hlk) h3 hasg
        refine XX.thenCaughtThrough q (g := F0 m pc ls st) rfl hcome h1 (by rw [h2]; rfl) hk0 [x0] x rest (by rw [hl, hl2]; rfl) (fun y hy => ?_) (by simp [covers, ha, hb']) hend
        rw [List.mem_singleton.mp hy]
        obtain ⟨c', hc', hcl⟩ := Cond.classLink_spec hown (hts _ hlk0) e.platform hpl
        exact Or.inr ⟨hct0, c', hcl, hZ.2.2.2.1 _ _ h3 hc'⟩
/-- a method of a part of the world throws; it is caught here -/
theorem j_catV (B : Cx p s m c args cc own D aC (rg n ad) n ad) (hZ : ZS (rg n ad) s) {hh : List (Nat × Nat × Nat × Nat)} (htab : tabH c hh) {y : MethodName} {b : ByteArray} {mL : Nat} {ret : Option FieldType} {rm : Room} {k0 nA index ci hpc : Nat} {As st0 : List Value} {fs : List Value} {Tt : u_T} {N : Nat} (hM : Th l y b mL ret rm D aC n' ad (.ref (ad k0) :: As) v X v') (hC : CV y b mL ret nA) (hlink : Cond.methodLink own index y ∈ gw) (hn : As.length = nA)
    (hroom : rm.cells = 1 ∧ rm.slots = 6 ∧ rm.frames + 1 ≤ R.frames ∧ 8 + (mL + 11) + rm.locals ≤ R.locals) (hcs : 1 ≤ R.cells ∧ 6 ≤ R.slots) (hnn : n' ≤ n) (hv : ∀ k, k < n' → w k = v k) (hk0 : k0 < n') (hcell : v k0 = .inr (ci, fs)) (hc : classes[ci]? = some (y.cls, Tt, N)) (h2 : PutW n n' id w w2 v') (hml : c.maxLocals = nL) (hwt : (st.map fun v => v.category).sum ≤ 8) (hst : st0 = As.reverse ++ .ref (ad k0) :: st) (hdg : decode cc pc = .ok (.invokevirtual index, 3))
    (hcat : Cat own X hh pc hpc) (hX : Cond.castable X X ∈ bads)
    (kk : ∀ q : Nat, J p l e R s m args below meth c D (rg n ad) 1 6 Q n ad w2 nL hpc lv [.ref q]) : J p l e R s m args below meth c D (rg n ad) 0 0 Q n ad w nL pc lv st0 := by
  intro H locs ls hP hS hl T hT XX
  have hB := B
  obtain ⟨hx, hb, hown, hts, hN, hK, hD⟩ := B
  have hσ : SubW n n' ad ad id := fun k hk => ⟨Nat.lt_of_lt_of_le hk hnn, rfl⟩
  have hPs := sub_P hσ hP hv
  have he : (fw n' ad v)[k0]? = some (ad k0, .inr (ci, fs)) := by rw [fw_get hk0, hcell]
  obtain ⟨q, T', L, X', h1, ⟨ce, c1, c2, c3⟩, h3, h4, h5, h6, hstp⟩ := th_runV hB hM hC hlink hn hroom ⟨by omega, by omega⟩ hml hl.1 hwt hst hdg (va_recv hK hPs hc he)
    (fun U hU hW => ⟨⟨by rw [hU]; exact hPs, va_K.moved hW.alike hK, sub_D hσ (fun _ _ _ _ h => h) hD (fun _ _ => trivial), nw_warm hW hN⟩, (hZ.moved hW (fun a h1 h2 => by rw [hU]; exact hS.2.1 a h1 h2)).narrow (fun q hq => sub_rg hσ hq)⟩) T hT XX
  obtain ⟨vm', X2, stq⟩ := cat_caught (ls := ls) hB hZ htab hcat hX X' c1 c2 c3 hstp
  obtain ⟨t, a1, b1⟩ := kk q T'.heap (locs ++ L) ls (sub_back hσ hD hP h3 h5 h2) ⟨Nat.le_trans hS.1 h4, fun a ha hn => (h5 a (Nat.lt_of_lt_of_le ha hS.1) (fun z => hn (sub_rg hσ z))).trans (hS.2.1 a ha hn), fun z hz => by
      rcases List.mem_append.mp hz with h | h
      · exact hS.2.2 z h
      · exact sub_rg hσ (h6 z h)⟩ hl (T'.setVm vm') rfl X2
  exact ⟨t, stq.trans a1, b1⟩
end LA
