/-! CONTRACTS over a function world that the method keeps in its places -/
/-- the cells of a world -/
def rg (n : Nat) (ad : Nat → Nat) : Nat → Prop := fun q => ∃ k, k < n ∧ q = ad k
def TW (D : va_G) (aC : Nat → ClassId) (n : Nat) (ad : Nat → Nat) (w : Nat → va_E) (U : State) : Prop :=
  va_P D classes (fw n ad w) U.heap ∧ va_K D classes (tyl aC) U ∧ fD (fun _ => True) n ad ∧ ∀ z ∈ nw, va_Nw z U
def Qk (D : va_G) (aC : Nat → ClassId) (n : Nat) (ad : Nat → Nat) (o : Option Value) (w' : Nat → va_E) : Array Value → State → Outcome → State → Prop := fun _ st oc t => oc = .returned o ∧ TW D aC n ad w' t ∧ va_F (rg n ad) st t
/-- THE CONTRACT: with the arguments av, from the world w, the method returns o, and the world is w' -/
def Ok (l : Launch) (y : MethodName) (b : ByteArray) (mL : Nat) (ret : Option FieldType) (rm : Room) (D : va_G) (aC : Nat → ClassId) (n : Nat) (ad : Nat → Nat) (av : List Value) (w : Nat → va_E) (o : Option Value) (w' : Nat → va_E) : Prop :=
  Met l y (.code y b mL ret :: gw) rm (va_Pc av (TW D aC n ad w)) (Qk D aC n ad o w') 0 0 (rg n ad)
/-- frames f, words of locals k, no cells -/
abbrev rom (f k : Nat) : Room := { frames := f, cells := 0, slots := 0, locals := k }
theorem TW.blind {D : va_G} {aC : Nat → ClassId} {n : Nat} {ad : Nat → Nat} {w : Nat → va_E} {av : List Value} : FrameBlind (va_Pc av (TW D aC n ad w)) := by
  intro a U g mk q
  obtain ⟨q0, qP, qK, qD, qN⟩ := q
  exact ⟨q0, qP, va_K.moved (u := U) (U := U.calling g mk a) (Vm.Alike.refl U.vm) qK, qD, nw_same (s := U) (U := U.calling g mk a) rfl qN⟩
section CT
variable {p : Program} {l : Launch} {e : Env} {R : Room} {s : State} {m : MethodId} {args : Array Value} {below : List Frame} {meth : Method} {c : Code} {D : va_G} {A : Nat → Prop} {cells slots : Nat} {Q : State → Prop} {n : Nat} {ad : Nat → Nat} {w w' : Nat → va_E} {nL : Nat}
variable {cc : ByteArray} {own : String} {aC : Nat → ClassId} {pc : Nat} {lv : List (Nat × Value)} {st : List Value} {o : Option Value}
theorem ok_start {y : MethodName} {b : ByteArray} {mL : Nat} {ret : Option FieldType} {rm : Room} {av : List Value} (hy : plainName y.cls = true) (hlen : (lg_sl av).length ≤ mL) (hcat : (av.all fun v => Nat.beq v.category 1) = true)
    (body : ∀ (p : Program) (e : Env) (s : State) (m : MethodId) (args : Array Value) (below : List Frame) (meth : Method) (c : Code), Cx p s m c args b y.cls D aC (rg n ad) n ad → meth.sig.returnType = ret → meth.locks = false → c.maxLocals = mL →
      J p l e rm s m args below meth c D (rg n ad) 0 0 (MQ below (Qk D aC n ad o w') args s 0 0 (rg n ad)) n ad w mL 0 (lv_args 0 av) []) : Ok l y b mL ret rm D aC n ad av w o w' := by
  refine Met.ofW (cc := b) (maxL := mL) (ret := ret) hy rfl ?_
  intro p e s m args below meth c s₁ B hml hv
  obtain ⟨rfl, hP, hK, hD, hN⟩ := hv
  have hts := atoms_spec (ws := .code y b mL ret :: gw) B.pre
  have hown : s.vm.findClass y.cls = some m.cls := findClass_of_methodNamed B.named
  rw [lg_entry_eq]
  exact body p e s m _ below meth c ⟨B.exec, B.bytes, hown, fun z hz => hts z (List.mem_cons_of_mem _ hz), hN, hK, ⟨hD.1, fun k hk => ⟨k, hk, rfl⟩⟩⟩ B.returns B.notSynchronized hml s.heap [] _ hP va_S.rf (lh.entry av hlen (fun v hv => Nat.eq_of_beq_eq_true (List.all_eq_true.mp hcat v hv)))
theorem j_iret (B : Cx p s m c args cc own D aC (rg n ad) n ad) (hr : meth.sig.returnType = some .int) (hlk : meth.locks = false) {v : Int32} (hdg : decode cc pc = .ok (.ireturn, 1)) (ho : some (.int v) = o) (hw : w = w') : J p l e R s m args below meth c D (rg n ad) 0 0 (MQ below (Qk D aC n ad o w') args s 0 0 (rg n ad)) n ad w nL pc lv [.int v] := by
  subst ho; subst hw
  intro H locs ls hP hS hl
  obtain ⟨hx, hb, hown, hts, hN, hK, hD⟩ := B
  exact W.iret hx hb hr (fun t ht hW => ⟨rfl, ⟨by rw [ht]; exact hP, va_K.moved hW.alike hK, ⟨hD.1, fun _ _ => trivial⟩, nw_warm hW hN⟩, hS.F ht⟩) hS.2.2 hdg (hlocks := hlk)
theorem j_zret (B : Cx p s m c args cc own D aC (rg n ad) n ad) (hr : meth.sig.returnType = some .boolean) (hlk : meth.locks = false) {v : Int32} (hdg : decode cc pc = .ok (.ireturn, 1)) (hv : v = 0 ∨ v = 1) (ho : some (.int v) = o) (hw : w = w') : J p l e R s m args below meth c D (rg n ad) 0 0 (MQ below (Qk D aC n ad o w') args s 0 0 (rg n ad)) n ad w nL pc lv [.int v] := by
  subst ho; subst hw
  intro H locs ls hP hS hl
  obtain ⟨hx, hb, hown, hts, hN, hK, hD⟩ := B
  exact W.zret hx hb hr (by rcases hv with rfl | rfl <;> decide) (fun t ht hW => ⟨rfl, ⟨by rw [ht]; exact hP, va_K.moved hW.alike hK, ⟨hD.1, fun _ _ => trivial⟩, nw_warm hW hN⟩, hS.F ht⟩) hS.2.2 hdg (hlocks := hlk)
theorem j_vret (B : Cx p s m c args cc own D aC (rg n ad) n ad) (hr : meth.sig.returnType = none) (hlk : meth.locks = false) (hdg : decode cc pc = .ok (.return_, 1)) (ho : none = o) (hw : w = w') : J p l e R s m args below meth c D (rg n ad) 0 0 (MQ below (Qk D aC n ad o w') args s 0 0 (rg n ad)) n ad w nL pc lv [] := by
  subst ho; subst hw
  intro H locs ls hP hS hl
  obtain ⟨hx, hb, hown, hts, hN, hK, hD⟩ := B
  exact W.vret hx hb hr (fun t ht hW => ⟨rfl, ⟨by rw [ht]; exact hP, va_K.moved hW.alike hK, ⟨hD.1, fun _ _ => trivial⟩, nw_warm hW hN⟩, hS.F ht⟩) hS.2.2 hdg (hlocks := hlk)
theorem j_aret (B : Cx p s m c args cc own D aC (rg n ad) n ad) {C : String} (hr : meth.sig.returnType = some (.object C)) (hlk : meth.locks = false) {v : Nat} (hdg : decode cc pc = .ok (.areturn, 1)) (ho : some (.ref v) = o) (hw : w = w') : J p l e R s m args below meth c D (rg n ad) 0 0 (MQ below (Qk D aC n ad o w') args s 0 0 (rg n ad)) n ad w nL pc lv [.ref v] := by
  subst ho; subst hw
  intro H locs ls hP hS hl
  obtain ⟨hx, hb, hown, hts, hN, hK, hD⟩ := B
  exact W.aret hx hb hr (Or.inl ⟨C, rfl⟩) (Or.inr ⟨v, rfl⟩) (fun t ht hW => ⟨rfl, ⟨by rw [ht]; exact hP, va_K.moved hW.alike hK, ⟨hD.1, fun _ _ => trivial⟩, nw_warm hW hN⟩, hS.F ht⟩) hS.2.2 hdg (hlocks := hlk)
/-- behind a call -/
theorem j_after {H : Heap} {locs : List Loc} {ls : Array Slot} {st0 rest : List Value} {a : Array Value} (hr : va_Run p l e R s m args below meth c H locs cells slots 0 0 (F0 m pc ls st0) rest (Qk D aC n ad o w' a) (rg n ad)) (hS : va_S A s.heap H locs) (hA : ∀ q, rg n ad q → A q)
    (kk : ∀ (H1 : Heap) (locs1 : List Loc), va_P D classes (fw n ad w') H1 → va_S A s.heap H1 locs1 → W p l e R s m args below meth c H1 locs1 cells slots Q (F0 m (pc + 3) ls (o.toList ++ rest))) : W p l e R s m args below meth c H locs cells slots Q (F0 m pc ls st0) := by
  intro T hT X
  obtain ⟨v, st₀, t, T', L, h0, X', hL, e1, e2, ⟨hv, hB, hz, hk⟩, st⟩ := hr T hT X
  cases hv
  rw [h0] at hz hk
  obtain ⟨t2, a1, b1⟩ := kk T'.heap (locs ++ L) (by rw [e1]; exact hB.1)
    ⟨Nat.le_trans hS.1 (by rw [e1]; exact hz), fun q h1 h2 => by rw [e1, hk q (Nat.lt_of_lt_of_le h1 hS.1) (fun z => h2 (hA q z))]; exact hS.2.1 q h1 h2, fun q hq => by
      rcases List.mem_append.mp hq with h | h
      · exact hS.2.2 q h
      · exact hA _ (hL q h)⟩ T' rfl X'
  exact ⟨t2, st t2 a1, b1⟩
theorem gw_pays {y : MethodName} {b : ByteArray} {mL : Nat} {ret : Option FieldType} (hts : ∀ z ∈ gw, z.before args s = true) (hc : Cond.code y b mL ret ∈ gw) : ∀ z ∈ Cond.code y b mL ret :: gw, ∀ (a' : Array Value) (U : State), s.WarmedH U.vm → z.before a' U = true := by
  refine pay_in hts (fun z hz => ?_)
  rcases List.mem_cons.mp hz with rfl | hz
  · exact ⟨hc, good_of_word (gw_good hc)⟩
  · exact ⟨hz, good_of_word (gw_good hz)⟩
/-- the words of a call -/
def CB (y : MethodName) (b : ByteArray) (mL : Nat) (ret : Option FieldType) (nA : Nat) : Prop := Cond.code y b mL ret ∈ gw ∧ Cond.initialized y.cls ∈ gw ∧ y.cls ≠ "java/lang/invoke/MethodHandle" ∧ y.cls ≠ "java/lang/invoke/VarHandle" ∧ (parseMethodDescriptor y.desc).map (fun d => d.parameters.length) = some nA
def CV (y : MethodName) (b : ByteArray) (mL : Nat) (ret : Option FieldType) (nA : Nat) : Prop := CB y b mL ret nA ∧ Cond.instanceMethod y ∈ gw ∧ Cond.selects y.cls y y ∈ gw
def CS (y : MethodName) (b : ByteArray) (mL : Nat) (ret : Option FieldType) (nA : Nat) : Prop := CB y b mL ret nA ∧ Cond.static y ∈ gw
theorem j_cV (B : Cx p s m c args cc own D aC A n ad) {y : MethodName} {b : ByteArray} {mL : Nat} {ret : Option FieldType} {rm : Room} {k nA index ci : Nat} {As fs st0 : List Value} {T : u_T} {N : Nat} (hM : Ok l y b mL ret rm D aC n ad (.ref (ad k) :: As) w o w') (hC : CV y b mL ret nA) (hlink : Cond.methodLink own index y ∈ gw) (hn : As.length = nA)
    (hroom : rm.cells = 0 ∧ rm.slots = 0 ∧ rm.frames + 1 ≤ R.frames ∧ 8 + (mL + 11) + rm.locals ≤ R.locals) (hcs : cells ≤ R.cells ∧ slots ≤ R.slots) (hk : k < n) (hw : w k = .inr (ci, fs)) (hc : classes[ci]? = some (y.cls, T, N)) (hml : c.maxLocals = nL) (hwt : (st.map fun v => v.category).sum ≤ 8) (hst : st0 = As.reverse ++ .ref (ad k) :: st) (hdg : decode cc pc = .ok (.invokevirtual index, 3))
    (kk : J p l e R s m args below meth c D A cells slots Q n ad w' nL (pc + 3) lv (o.toList ++ st)) : J p l e R s m args below meth c D A cells slots Q n ad w nL pc lv st0 := by
  intro H locs ls hP hS hl
  obtain ⟨hx, hb, hown, hts, hN, hK, hD⟩ := B
  obtain ⟨⟨c1, c2, c3, c4, c5⟩, c6, c7⟩ := hC
  have cw : CallW R s args own y.cls index y b mL ret (.code y b mL ret :: gw) rm 0 0 nA := by
    refine ⟨⟨hroom.1, hroom.2.1, hroom.2.2.1, hroom.2.2.2, gw_pays hts c1, List.mem_cons_self, hts _ c1, hts _ c2, ⟨c3, c4⟩, fun sig h => ?_, hts _ hlink⟩, hts _ c6, hts _ c7⟩
    rw [h] at c5
    exact (Option.some.inj c5).symm
  have he : (fw n ad w)[k]? = some (ad k, .inr (ci, fs)) := by rw [fw_get hk, hw]
  refine j_after (va_runV (As := As) (rest := st) (b := ad k) ⟨hx, hb, hml, hown, hts⟩ hM cw ⟨TW.blind, va_recv hK hP hc he, fun U hU hW => ⟨rfl, by rw [hU]; exact hP, va_K.moved hW.alike hK, ⟨hD.1, fun _ _ => trivial⟩, nw_warm hW hN⟩⟩ rfl hn hl.1 hst (lv_room hwt) hdg hcs) hS (fun q h => ?_) (fun H1 locs1 h1 h2 => kk H1 locs1 ls h1 h2 hl)
  obtain ⟨k2, h3, rfl⟩ := h
  exact hD.2 k2 h3
theorem j_cS (B : Cx p s m c args cc own D aC A n ad) {y : MethodName} {b : ByteArray} {mL : Nat} {ret : Option FieldType} {rm : Room} {nA index : Nat} {As st0 : List Value} (hM : Ok l y b mL ret rm D aC n ad As w o w') (hC : CS y b mL ret nA) (hlink : Cond.methodLink own index y ∈ gw) (hn : As.length = nA)
    (hroom : rm.cells = 0 ∧ rm.slots = 0 ∧ rm.frames + 1 ≤ R.frames ∧ 8 + (mL + 11) + rm.locals ≤ R.locals) (hcs : cells ≤ R.cells ∧ slots ≤ R.slots) (hml : c.maxLocals = nL) (hwt : (st.map fun v => v.category).sum ≤ 8) (hst : st0 = As.reverse ++ st) (hdg : decode cc pc = .ok (.invokestatic index, 3))
    (kk : J p l e R s m args below meth c D A cells slots Q n ad w' nL (pc + 3) lv (o.toList ++ st)) : J p l e R s m args below meth c D A cells slots Q n ad w nL pc lv st0 := by
  intro H locs ls hP hS hl
  obtain ⟨hx, hb, hown, hts, hN, hK, hD⟩ := B
  obtain ⟨⟨c1, c2, c3, c4, c5⟩, c6⟩ := hC
  have cw : CallB R s args own index y b mL ret (.code y b mL ret :: gw) rm 0 0 nA ∧ (Cond.static y).before args s = true := by
    refine ⟨⟨hroom.1, hroom.2.1, hroom.2.2.1, hroom.2.2.2, gw_pays hts c1, List.mem_cons_self, hts _ c1, hts _ c2, ⟨c3, c4⟩, fun sig h => ?_, hts _ hlink⟩, hts _ c6⟩
    rw [h] at c5
    exact (Option.some.inj c5).symm
  refine j_after (va_runS (As := As) (rest := st) ⟨hx, hb, hml, hown, hts⟩ hM cw ⟨TW.blind, fun U hU hW => ⟨rfl, by rw [hU]; exact hP, va_K.moved hW.alike hK, ⟨hD.1, fun _ _ => trivial⟩, nw_warm hW hN⟩⟩ rfl hn hl.1 hst (lv_room hwt) hdg hcs) hS (fun q h => ?_) (fun H1 locs1 h1 h2 => kk H1 locs1 ls h1 h2 hl)
  obtain ⟨k2, h3, rfl⟩ := h
  exact hD.2 k2 h3
theorem j_cSN (B : Cx p s m c args cc own D aC A n ad) {y : MethodName} {b : ByteArray} {mL : Nat} {ret : Option FieldType} {rm : Room} {nA index : Nat} {host : String} {As st0 : List Value} (hM : Ok l y b mL ret rm D aC n ad As w o w') (hC : CS y b mL ret nA) (hlink : Cond.methodLinkNest own index y host ∈ nw) (hn : As.length = nA)
    (hroom : rm.cells = 0 ∧ rm.slots = 0 ∧ rm.frames + 1 ≤ R.frames ∧ 8 + (mL + 11) + rm.locals ≤ R.locals) (hcs : cells ≤ R.cells ∧ slots ≤ R.slots) (hml : c.maxLocals = nL) (hwt : (st.map fun v => v.category).sum ≤ 8) (hst : st0 = As.reverse ++ st) (hdg : decode cc pc = .ok (.invokestatic index, 3))
    (kk : J p l e R s m args below meth c D A cells slots Q n ad w' nL (pc + 3) lv (o.toList ++ st)) : J p l e R s m args below meth c D A cells slots Q n ad w nL pc lv st0 := by
  intro H locs ls hP hS hl
  obtain ⟨hx, hb, hown, hts, hN, hK, hD⟩ := B
  obtain ⟨⟨c1, c2, c3, c4, c5⟩, c6⟩ := hC
  have cw : va_CN R s args own index y host b mL ret (.code y b mL ret :: gw) rm 0 0 nA ∧ (Cond.static y).before args s = true ∧ True := by
    refine ⟨⟨⟨hroom.1, hroom.2.1, hroom.2.2.1, hroom.2.2.2, gw_pays hts c1, List.mem_cons_self⟩, hts _ c1, hts _ c2, ⟨c3, c4⟩, fun sig h => ?_, va_Nw.use rfl (hN _ hlink)⟩, hts _ c6, trivial⟩
    rw [h] at c5
    exact (Option.some.inj c5).symm
  refine j_after (va_runSN (As := As) (rest := st) ⟨hx, hb, hml, hown, hts⟩ hM cw ⟨TW.blind, fun U hU hW => ⟨rfl, by rw [hU]; exact hP, va_K.moved hW.alike hK, ⟨hD.1, fun _ _ => trivial⟩, nw_warm hW hN⟩⟩ rfl hn hl.1 hst (lv_room hwt) hdg hcs) hS (fun q h => ?_) (fun H1 locs1 h1 h2 => kk H1 locs1 ls h1 h2 hl)
  obtain ⟨k2, h3, rfl⟩ := h
  exact hD.2 k2 h3
/-- a call of an object of a typed memory -/
theorem j_cVt {sh : Nat → tm_Sh} {ky : Nat → tm_K} {x x' : tm_M} {K : tm_K} (B : Cx p s m c args cc own D aC A n ad) {y : MethodName} {b : ByteArray} {mL : Nat} {ret : Option FieldType} {rm : Room} {k nA index ci : Nat} {As st0 : List Value} {fl : List (Option Nat)} {T : u_T} {N : Nat} (hM : Ok l y b mL ret rm D aC n ad (.ref (ad k) :: As) (tw ad aC sh ky x) o (tw ad aC sh ky x')) (hC : CV y b mL ret nA) (hlink : Cond.methodLink own index y ∈ gw) (hq : k < n ∧ sh k = .inl (ci, fl) ∧ ky k = K) (hc : classes[ci]? = some (y.cls, T, N)) (hn : As.length = nA)
    (hroom : rm.cells = 0 ∧ rm.slots = 0 ∧ rm.frames + 1 ≤ R.frames ∧ 8 + (mL + 11) + rm.locals ≤ R.locals) (hcs : cells ≤ R.cells ∧ slots ≤ R.slots) (hml : c.maxLocals = nL) (hwt : (st.map fun v => v.category).sum ≤ 8) (hst : st0 = As.reverse ++ .ref (ad k) :: st) (hdg : decode cc pc = .ok (.invokevirtual index, 3))
    (kk : J p l e R s m args below meth c D A cells slots Q n ad (tw ad aC sh ky x') nL (pc + 3) lv (o.toList ++ st)) : J p l e R s m args below meth c D A cells slots Q n ad (tw ad aC sh ky x) nL pc lv st0 :=
  j_cV B hM hC hlink hn hroom hcs hq.1 (by simp [tw, hq.2.1, tm_cell]; rfl) hc hml hwt hst hdg kk
end CT
