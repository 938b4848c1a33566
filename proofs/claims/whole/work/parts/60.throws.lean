set_option maxHeartbeats 1000000 in
theorem thr_ctor {p : Program} {l : Launch} {e : Env} {R : Room} {s : State} {m₀ : MethodId} {args : Array Value} {below : List Frame} {meth : Method} {c : Code} {T0 : State} {locs : List Loc} {cells slots : Nat}
    (X : Stand p l e R s m₀ args below meth c T0 locs cells slots) (hexec : p.tables.exec = Jvm.exec) (htr : e.platform.stackTraces = false) {own cls : String} {names : List String} {ic ix : Nat} {rx : ByteArray}
    (x0 : decode rx 0 = .ok (.aload_n 0, 1)) (x1 : decode rx 1 = .ok (.aload_n 1, 1)) (x2 : decode rx 2 = .ok (.invokespecial ix, 3)) (x5 : decode rx 5 = .ok (.return_, 1))
    (hown : s.vm.findClass own = some m₀.cls) (hcls : Bundle.fit cls = true) (hnames : ∀ n ∈ names, Bundle.fit n = true)
    (h : ∀ a ∈ Bundle.ownAtomsX own ic cls ix rx names, a.before args s = true)
    (hlocs : ∀ x ∈ locs, ∀ cell, s.heap[x.base]? = some cell → cell.vm.isStatics = false)
    {a : Addr} {cX : ClassId} {kX : Class} (hcX : s.vm.findClass cls = some cX) (hkX : s.vm.classes[cX]? = some kX) (hcell : T0.heap[a]? = some (freshCell cX kX)) (hnew : s.heap.size ≤ a)
    {msg : Value} (hmsg : msg.isRef = true)
    {g : JFrame} (hg : g.method = m₀) (hsize : g.locals.size = c.maxLocals) {rest : List Value} (hstack : g.stack = msg :: .ref a :: rest)
    (hdg : decode c.code g.pc = .ok (.invokespecial ic, 3))
    (hRf : names.length + 3 < R.frames) (hRl : 2 * g.monitorRoom + (rest.map fun v => v.category).sum + (13 * (names.length + 1) + 42) ≤ R.locals) :
    ∃ (vm' : Vm) (ce : Cell) (LL : List Loc), Stand p l e R s m₀ args below meth c ((T0.setVm vm').setCell a ce) (locs ++ LL) cells slots ∧ (∀ q ∈ LL, q.base = a) ∧ ce.cls = cX ∧ ce.vm = .none ∧
      ∀ target, Steps p.tables e below (((T0.setVm vm').setCell a ce).setTop { g with pc := g.pc + 3, stack := rest }) target → Steps p.tables e below (T0.setTop g) target := by
  have hpl : e.platform.magicAccessors = ({} : Platform).magicAccessors := by rw [X.admits.platform]
  have word : ∀ x, x ∈ Bundle.ownAtomsX own ic cls ix rx names → x.holds args s none s [] = true := fun x hx => h x hx
  -- Throwable, its two constructors, the chain of constructors down to it
  obtain ⟨T, Z0, L, -, Y⟩ := ThrowableC.of_atoms (args := args) (by rw [X.admits.platform]) (by rw [X.admits.platform]) hpl (fun x hx => h x (by simp [Bundle.ownAtomsX, hx]))
  obtain ⟨Z, M, LZ, LM, hZ⟩ := Init0T.ofS_atoms (args := args) hpl L Y (fun x hx => h x (by simp [Bundle.ownAtomsX, hx]))
  obtain ⟨P1, Ps, hlen, L1, hL, hP1, hl1, hl2⟩ := Bundle.chainSX (args := args) hpl hZ x0 x1 x2 x5 names cls hcls hnames (fun x hx => h x (by simp [Bundle.ownAtomsX, hx]))
  have hf : s.vm.findClass cls = some P1.m.cls := findClass_of_methodNamed hP1
  obtain rfl : cX = P1.m.cls := Option.some.inj (hcX.symm.trans hf)
  obtain ⟨cI, kI, hcI, hkI, hord, -, -, hn6⟩ := Cond.instantiable_spec (word (.instantiable cls 6) (by simp [Bundle.ownAtomsX]))
  obtain rfl : cI = P1.m.cls := Option.some.inj (hcI.symm.trans hf)
  obtain rfl : kX = kI := Option.some.inj (hkX.symm.trans hkI)
  -- the two fillInStackTrace are Throwable's own
  have sel : ∀ (n : MethodName) (q : MethodId), s.methodNamed? n = some q → (n.cls ≠ "java/lang/invoke/MethodHandle" ∧ n.cls ≠ "java/lang/invoke/VarHandle") → (Cond.selects cls n n).holds args s none s [] = true → selectMethod e.platform s.vm P1.m.cls q = .method q := by
    intro n q hq hn hs
    obtain ⟨c2, r2, m2, q1, q2, q3, q4, -⟩ := Cond.selects_spec hs
    obtain rfl : c2 = P1.m.cls := Option.some.inj (q1.symm.trans hf)
    obtain rfl : r2 = q := Option.some.inj (q2.symm.trans (State.methodFound?_of_named hq hn))
    obtain rfl : m2 = r2 := Option.some.inj (q3.symm.trans hq)
    rw [Launch.admits_selectMethod X.admits]; exact q4
  -- its two statics
  obtain ⟨cS0, hcS0, hiss⟩ := Y.statics
  obtain ⟨u0, hu0⟩ := Cond.staticRefV Y.unassigned L.unassignedStatic L.statics hcS0 hiss (word (.isRef (.static Bundle.tN "UNASSIGNED_STACK" Bundle.steD)) (by simp [Bundle.ownAtomsX]))
  obtain ⟨sen, hsen⟩ := Cond.staticRefV Y.sentinel L.sentinelStatic L.statics hcS0 hiss (word (.isRef (.static Bundle.tN "SUPPRESSED_SENTINEL" Bundle.listD)) (by simp [Bundle.ownAtomsX]))
  obtain ⟨cS, hcS, heS, -, hkeep⟩ := X.same.2.2.2.2.2 T.aS cS0 hcS0
  have hout : ∀ i, (⟨T.aS, i⟩ : Loc) ∉ locs := fun i hi => by have := hlocs _ hi cS0 hcS0; rw [hiss] at this; cases this
  have hneS : T.aS ≠ a := Nat.ne_of_lt (Nat.lt_of_lt_of_le (Array.getElem?_eq_some_iff.mp hcS0).1 hnew)
  -- where its fields lie
  obtain ⟨ci8, i8, fB, k8, g8, a8, s8, -, n8, t8, ff8⟩ := Cond.ownField (t := .object "java/lang/Object") Y.found L.cls (by decide +kernel) (word (.fieldLink Bundle.tN 198 Bundle.tN "backtrace" "Ljava/lang/Object;") (by simp [Bundle.ownAtomsX])) (word (.lays Bundle.tN Bundle.tN "backtrace" "Ljava/lang/Object;") (by simp [Bundle.ownAtomsX])) e.platform hpl
  obtain ⟨iM, hffM⟩ := Y.msg
  obtain ⟨tyC, dC, hdC, hdnC⟩ := Cond.laysAt hf hkX Y.cause (word (.lays cls Bundle.tN "cause" "Ljava/lang/Throwable;") (by simp [Bundle.ownAtomsX]))
  obtain ⟨tyS, dS, hdS, hdnS⟩ := Cond.laysAt hf hkX Y.stack (word (.lays cls Bundle.tN "stackTrace" Bundle.steD) (by simp [Bundle.ownAtomsX]))
  obtain ⟨tyP, dP, hdP, hdnP⟩ := Cond.laysAt hf hkX Y.supp (word (.lays cls Bundle.tN "suppressedExceptions" Bundle.listD) (by simp [Bundle.ownAtomsX]))
  obtain ⟨tyM, dM, hdM, hdnM⟩ := Cond.laysAt hf hkX hffM (word (.lays cls Bundle.tN "detailMessage" "Ljava/lang/String;") (by simp [Bundle.ownAtomsX]))
  obtain ⟨tyB, dB, hdB, hdnB⟩ := Cond.laysAt hf hkX ff8 (word (.lays cls Bundle.tN "backtrace" "Ljava/lang/Object;") (by simp [Bundle.ownAtomsX]))
  have bC := Cond.laysApart hdB hdC hdnB hdnC (by rw [n8, Y.causeName]; decide)
  have bS := Cond.laysApart hdB hdS hdnB hdnS (by rw [n8, Y.stackName]; decide)
  have bP := Cond.laysApart hdB hdP hdnB hdnP (by rw [n8, Y.suppName]; decide)
  have hskip : SkipFacts T e.platform s (fun u => u) u0 ((preparedCellV T.toThrowableT (freshCell P1.m.cls kX) a u0 sen).withEntry T0.cur) :=
    ⟨{ ci198 := ci8, i198 := i8, fBack := fB }, ⟨k8, g8, a8, s8⟩, by
      have hd := fresh_default (c := P1.m.cls) tyB
      rw [t8] at hd
      simpa [preparedCellV, Cell.setSlot, Cell.withEntry, Array.getElem?_setIfInBounds, bC, bS, bP, bC.symm, bS.symm, bP.symm, defaultValue] using hd, fun _ _ => rfl⟩
  -- into the constructor, and out of it
  obtain ⟨tm, _, _, _, vm₁, hn1, -, -, -, -, -, -, -, hW₁, st1⟩ := Steps.initColdS (tb := p.tables) (e := e) (below := below) (s := s) (U := T0) X.here hexec X.warmed hpl hown (t := Bundle.initS cls) rfl rfl (Bundle.fit_spec hcls).2
    (word (.methodLink own ic (Bundle.initS cls)) (by simp [Bundle.ownAtomsX])) (h (.instanceMethod (Bundle.initS cls)) (by cases names <;> simp [Bundle.ownAtomsX, Bundle.chainSAtomsX, Bundle.passSAtoms])) (bytes := rx) (maxL := 2) (h (.code (Bundle.initS cls) rx 2 none) (by cases names <;> simp [Bundle.ownAtomsX, Bundle.chainSAtomsX, Bundle.passSAtoms]))
    (f := g) hg (a := a) (msg := msg) (rest := rest) hstack hdg
  obtain rfl : tm = P1.m := Option.some.inj (hn1.symm.trans hP1)
  obtain ⟨vm₂, X₂, st2⟩ := (X.noted hW₁).ctorMessageOffV hexec (g := { g with stack := rest }) hg hsize T L Z LZ M LM (P1 :: Ps)
    (fun P hP => by rcases List.mem_cons.mp hP with rfl | hP; exact L1; exact hL P hP) ⟨hl1, hl2⟩ (u0 := u0) (sen := sen) (self := a) hmsg (cell := freshCell P1.m.cls kX) (cellS := cS)
    hcell (fun _ => by simp) (by simp) rfl rfl (sel Bundle.tFill0 _ Y.fill0 (by decide) (word _ (by simp [Bundle.ownAtomsX]))) (sel Bundle.tFill _ Y.fill (by decide) (word _ (by simp [Bundle.ownAtomsX]))) hcS hneS
    (by rw [heS]; intro hu; rw [show cS0.vm = .unknown from hu] at hiss; cases hiss) (by rw [hkeep _ (hout _)]; exact hu0) (by rw [hkeep _ (hout _)]; exact hsen)
    (Takes.of_laid hkX hord tyC (by rw [Y.causeType]; rfl)) (Takes.of_laid hkX hord tyS (by rw [Y.stackType]; exact fits_refV_array _ u0)) (Takes.of_laid hkX hord tyP (by rw [Y.suppType]; exact fits_refV_object _ sen))
    (Takes.of_laid hkX hord tyM (by rw [Y.msgType]; exact fits_refV_object _ ⟨msg, hmsg⟩)) Y.objLocals hskip htr [] hdg
    (by simp only [List.length_cons, hlen]; omega) (by simp only [List.length_cons, hlen]; exact hRl)
  exact ⟨vm₂, _, _, X₂, fun q hq => by simp only [List.mem_cons, List.not_mem_nil, or_false] at hq; rcases hq with rfl | rfl | rfl | rfl | rfl <;> rfl, rfl, rfl,
    fun target ht => st1 target (fun acts => by rw [doInvoke_state]; exact st2 target ht)⟩
/-- the texts of the class's exceptions: pool index, text -/
def strs : List (Nat × String) := [(49, "the parent is no type"), (60, "there are 8 types"), (206, "no such function"), (75, "no such statement, or not with this x"), (78, "there are 20 statements"), (92, "the text is not well formed"), (113, "no such what"), (123, "no such instruction"), (132, "no such part of an instruction"), (137, "no such action"), (148, "no such part of an action"), (153, "no such site"), (164, "no such part of a site"), (169, "the function has no code"), (201, "no such number")]
def n_us : String := "UNASSIGNED_STACK"
def n_ss : String := "SUPPRESSED_SENTINEL"
/-- a static field of a class, as the tables lay it -/
def ZL (C n d : String) (A : Nat → Prop) (U : State) (H : Heap) : Prop := ∃ (cf : ClassId) (kf : Class) (fi : Nat) (f : Field) (a : Nat) (cell : Cell), U.vm.findClass C = some cf ∧ U.fieldFound? C n d = some (cf, kf, fi, f) ∧ f.isStatic = true ∧ kf.statics = some a ∧ H[a]? = some cell ∧ cell.vm.isStatics = true ∧ cell.cls = cf ∧ f.slot < cell.slots.size ∧ kf.staticTypes[f.slot]? = some f.type ∧ ¬ A a
theorem ZL.of {C n d : String} {A : Nat → Prop} {s : State} {args : Array Value} (h : (Cond.laysStatic C n d).before args s = true) (hA : ∀ a : Nat, a < s.heap.size → ¬ A a) : ZL C n d A s s.heap := by
  obtain ⟨c, k, i, f, a, cell, h1, h2, h3, h4, h5, h6, h7, h8, h9⟩ := Cond.laysStatic_spec h
  exact ⟨c, k, i, f, a, cell, h1, h2, h3, h4, h5, h6, h7, h8, h9, hA a (Array.getElem?_eq_some_iff.mp h5).1⟩
theorem ZL.to {C n d : String} {A : Nat → Prop} {s : State} {args : Array Value} (h : ZL C n d A s s.heap) : (Cond.laysStatic C n d).before args s = true := by
  obtain ⟨c, k, i, f, a, cell, h1, h2, h3, h4, h5, h6, h7, h8, h9, -⟩ := h
  simp [Cond.before, Cond.holds, Cond.value, h1, h2, h3, h4, h5, h6, h7, h8, h9]
theorem ZL.kept {C n d : String} {A : Nat → Prop} {U : State} {H H1 : Heap} (h : ZL C n d A U H) (hq : ∀ a : Nat, a < H.size → ¬ A a → H1[a]? = H[a]?) : ZL C n d A U H1 := by
  obtain ⟨c, k, i, f, a, cell, h1, h2, h3, h4, h5, h6, h7, h8, h9, h10⟩ := h
  exact ⟨c, k, i, f, a, cell, h1, h2, h3, h4, by rw [hq a (Array.getElem?_eq_some_iff.mp h5).1 h10]; exact h5, h6, h7, h8, h9, h10⟩
theorem ZL.narrow {C n d : String} {A B : Nat → Prop} {U : State} {H : Heap} (h : ZL C n d A U H) (hAB : ∀ q, B q → A q) : ZL C n d B U H := by
  obtain ⟨c, k, i, f, a, cell, h1, h2, h3, h4, h5, h6, h7, h8, h9, h10⟩ := h
  exact ⟨c, k, i, f, a, cell, h1, h2, h3, h4, h5, h6, h7, h8, h9, fun z => h10 (hAB a z)⟩
theorem ZL.moved {C n d : String} {A : Nat → Prop} {u U : State} {H : Heap} (hvm : u.vm.Alike U.vm) (h : ZL C n d A u H) : ZL C n d A U H := by
  obtain ⟨c, k, i, f, a, cell, h1, h2, h3, h4, h5, h6, h7, h8, h9, h10⟩ := h
  obtain ⟨k2, hi2, he⟩ := State.fieldFound?_setVm hvm h2
  exact ⟨c, k2, i, f, a, cell, by rw [hvm.findClass]; exact h1, hi2, h3, by rw [he]; exact h4, h5, h6, h7, h8, by rw [he]; exact h9, h10⟩
def n_iae : String := "java/lang/IllegalArgumentException"
def n_ise : String := "java/lang/IllegalStateException"
def n_nse : String := "java/util/NoSuchElementException"
/-- words on the face of classes that throwing needs -/
def fbad : List Cond := [.declares (Bundle.initS "java/lang/RuntimeException"), .declares (Bundle.initS "java/lang/Exception"), .declares (Bundle.initS Bundle.tN), .castable n_iae n_iae, .castable n_ise n_ise, .castable n_nse n_nse]
theorem fbad_moved {s U : State} {args a' : Array Value} (hW : s.WarmedH U.vm) {z : Cond} (hz : z ∈ fbad) (h : z.before args s = true) : z.before a' U = true := by
  have h1 : z.before args (s.setVm U.vm) = true := by
    refine Cond.faceAtom_setVm hW.alike z ?_ h
    simp only [fbad, List.mem_cons, List.not_mem_nil, or_false] at hz
    rcases hz with rfl | rfl | rfl | rfl | rfl | rfl <;> rfl
  simp only [fbad, List.mem_cons, List.not_mem_nil, or_false] at hz
  rcases hz with rfl | rfl | rfl | rfl | rfl | rfl <;> exact h1
/-- what throwing needs of the start: Throwable's two statics, outside of A; the texts; an IllegalStateException is no IllegalArgumentException -/
def ZS (A : Nat → Prop) (U : State) : Prop :=
  va_Zq Bundle.tN n_us Bundle.steD A U U.heap ∧ va_Zq Bundle.tN n_ss Bundle.listD A U U.heap ∧ (∀ q ∈ strs, ∃ a, vk_R "LandingPads" q.1 q.2 a U) ∧
  (∀ c1 c2, U.vm.findClass n_ise = some c1 → U.vm.findClass n_iae = some c2 → U.vm.assignable c1 c2 = false) ∧
  ZL Bundle.tN n_us Bundle.steD A U U.heap ∧ ZL Bundle.tN n_ss Bundle.listD A U U.heap ∧ ∀ z ∈ fbad, z.before #[] U = true
theorem ZS.moved {A : Nat → Prop} {s U : State} (h : ZS A s) (hW : s.WarmedH U.vm) (hq : ∀ a : Nat, a < s.heap.size → ¬ A a → U.heap[a]? = s.heap[a]?) : ZS A U := by
  obtain ⟨h1, h2, h3, h4, h5, h6, h7⟩ := h
  refine ⟨(h1.moved (U := U) hW.alike).kept hq, (h2.moved (U := U) hW.alike).kept hq, fun q hq => ?_, fun c1 c2 e1 e2 => ?_, (h5.moved (U := U) hW.alike).kept hq, (h6.moved (U := U) hW.alike).kept hq, fun z hz => fbad_moved hW hz (h7 z hz)⟩
  · obtain ⟨a, ha⟩ := h3 q hq
    exact ⟨a, ha.warm hW⟩
  · rw [hW.alike.findClass] at e1 e2
    rw [hW.alike.assignable]
    exact h4 c1 c2 e1 e2
theorem ZS.narrow {A B : Nat → Prop} {U : State} (h : ZS A U) (hAB : ∀ q, B q → A q) : ZS B U := ⟨h.1.narrow hAB, h.2.1.narrow hAB, h.2.2.1, h.2.2.2.1, h.2.2.2.2.1.narrow hAB, h.2.2.2.2.2.1.narrow hAB, h.2.2.2.2.2.2⟩
theorem ZS.same {A : Nat → Prop} {s U : State} (h : ZS A s) (hv : U.vm = s.vm) (hh : U.heap = s.heap) : ZS A U := h.moved (by rw [hv]; exact State.WarmedH.refl s) (fun a _ _ => by rw [hh])
/-- the words that are no good words -/
def bads : List Cond := [.isRef (.static Bundle.tN "UNASSIGNED_STACK" Bundle.steD), .isRef (.static Bundle.tN "SUPPRESSED_SENTINEL" Bundle.listD), .laysStatic Bundle.tN "UNASSIGNED_STACK" Bundle.steD, .laysStatic Bundle.tN "SUPPRESSED_SENTINEL" Bundle.listD] ++ fbad
theorem ZS.bads {A : Nat → Prop} {s : State} {args : Array Value} (h : ZS A s) : ∀ z ∈ bads, z.before args s = true := by
  have key : ∀ {C n d : String}, va_Zq C n d A s s.heap → (Cond.isRef (.static C n d)).before args s = true := by
    intro C n d hz
    rcases hz with hz | ⟨t, hz⟩
    · obtain ⟨cf, kf, fi, f, a, cell, h1, h2, h3, h4, h5, h6, h7, -⟩ := hz
      simp [Cond.before, Cond.holds, Cond.value, Term.eval, State.fieldNamed?, h1, h2, h4, h5, h6, h7]
    · obtain ⟨cf, kf, fi, f, a, cell, h1, h2, h3, h4, h5, h6, h7, -⟩ := hz
      simp [Cond.before, Cond.holds, Cond.value, Term.eval, State.fieldNamed?, h1, h2, h4, h5, h6, h7]
  intro z hz
  rcases List.mem_append.mp hz with hz | hz
  · simp only [List.mem_cons, List.not_mem_nil, or_false] at hz
    rcases hz with rfl | rfl | rfl | rfl
    · exact key h.1
    · exact key h.2.1
    · exact h.2.2.2.2.1.to
    · exact h.2.2.2.2.2.1.to
  · exact fbad_moved (State.WarmedH.refl s) hz (h.2.2.2.2.2.2 z hz)
/-- THE CONTRACT OF A THROW: with the arguments av, from the world w, the method throws a new object of the class X, and the world is w' -/
def Qt1 (D : va_G) (aC : Nat → ClassId) (n : Nat) (ad : Nat → Nat) (X : String) (w' : Nat → va_E) (st t : State) (q : Addr) (L : List Loc) : Prop :=
  st.heap.size ≤ q ∧ (∃ ce : Cell, t.heap[q]? = some ce ∧ ce.vm = .none ∧ st.vm.findClass X = some ce.cls) ∧ TW D aC n ad w' t ∧ va_F (rg n ad) st t ∧ ∀ z ∈ L, rg n ad z.base
def Qt (D : va_G) (aC : Nat → ClassId) (n : Nat) (ad : Nat → Nat) (X : String) (w' : Nat → va_E) : Array Value → State → Outcome → State → Prop := fun _ st oc t =>
  ∃ (q : Addr) (L : List Loc), oc = .threw q ∧ Qt1 D aC n ad X w' st t q L ∧ st.WarmedH t.vm ∧ st.sameButNew ({ t with vm := st.vm } : State) L 1 6
def TQ (below : List Frame) (D : va_G) (aC : Nat → ClassId) (n : Nat) (ad : Nat → Nat) (X : String) (w' : Nat → va_E) (a : Array Value) (s : State) : State → Prop := fun t => ∃ o, t.status = .running ∧ Ended t below o ∧ Qt D aC n ad X w' a s o t
def Pz (D : va_G) (aC : Nat → ClassId) (n : Nat) (ad : Nat → Nat) (w : Nat → va_E) (U : State) : Prop := TW D aC n ad w U ∧ ZS (rg n ad) U
def Th (l : Launch) (y : MethodName) (b : ByteArray) (mL : Nat) (ret : Option FieldType) (rm : Room) (D : va_G) (aC : Nat → ClassId) (n : Nat) (ad : Nat → Nat) (av : List Value) (w : Nat → va_E) (X : String) (w' : Nat → va_E) : Prop :=
  MetFree l y (headSpec (.code y b mL ret :: gw) rm) (va_Pc av (Pz D aC n ad w)) (fun _ _ _ _ _ => True) (Qt D aC n ad X w')
/-- frames f, words of locals k, a cell of six slots -/
abbrev romT (f k : Nat) : Room := { frames := f, cells := 1, slots := 6, locals := k }
theorem Pz.blind {D : va_G} {aC : Nat → ClassId} {n : Nat} {ad : Nat → Nat} {w : Nat → va_E} {av : List Value} : FrameBlind (va_Pc av (Pz D aC n ad w)) := by
  intro a U g mk q
  obtain ⟨q0, ⟨qP, qK, qD, qN⟩, qZ⟩ := q
  exact ⟨q0, ⟨qP, va_K.moved (u := U) (U := U.calling g mk a) (Vm.Alike.refl U.vm) qK, qD, nw_same (s := U) (U := U.calling g mk a) rfl qN⟩, qZ.same rfl rfl⟩
/-- no entry of the exception table covers any place -/
def noH (c : Code) : Prop := ∀ x ∈ c.exceptionTable.toList, ∀ pc, covers x pc = false
section TH
variable {p : Program} {l : Launch} {e : Env} {R : Room} {s : State} {m : MethodId} {args : Array Value} {below : List Frame} {meth : Method} {c : Code} {D : va_G} {A : Nat → Prop} {cells slots : Nat} {Q : State → Prop} {n : Nat} {ad : Nat → Nat} {w w' : Nat → va_E} {nL : Nat}
variable {cc : ByteArray} {own : String} {aC : Nat → ClassId} {pc : Nat} {lv : List (Nat × Value)} {st : List Value} {o : Option Value} {X : String}
theorem th_start {y : MethodName} {b : ByteArray} {mL : Nat} {ret : Option FieldType} {rm : Room} {av : List Value} (hy : plainName y.cls = true) (hlen : (lg_sl av).length ≤ mL) (hcat : (av.all fun v => Nat.beq v.category 1) = true)
    (body : ∀ (p : Program) (e : Env) (s : State) (m : MethodId) (args : Array Value) (below : List Frame) (meth : Method) (c : Code), Cx p s m c args b y.cls D aC (rg n ad) n ad → ZS (rg n ad) s → noH c → meth.locks = false → c.maxLocals = mL →
      J p l e rm s m args below meth c D (rg n ad) 0 0 (TQ below D aC n ad X w' args s) n ad w mL 0 (lv_args 0 av) []) : Th l y b mL ret rm D aC n ad av w X w' := by
  refine MetFree.of_bodyS (code := b) (maxLocals := mL) (ret := ret) hy ?_ ?_
  · intro args s m h hn
    obtain ⟨meth, c, h1, h2, h3, h4, h5, h6, -, -⟩ := Cond.code_spec hn (atoms_spec (ws := .code y b mL ret :: gw) h _ List.mem_cons_self)
    exact ⟨meth, c, h1, h2, h3, h4, h5, h6⟩
  · intro p e s m args below meth c s₁ B hml hv _
    obtain ⟨rfl, ⟨hP, hK, hD, hN⟩, hZ⟩ := hv
    have hts := atoms_spec (ws := .code y b mL ret :: gw) B.pre
    have hown : s.vm.findClass y.cls = some m.cls := findClass_of_methodNamed B.named
    have hh0 : s₁.heap = s.heap := by rw [B.state]; rfl
    have hno : noH c := fun x hx pc => covers_of_empty (B.noHandlers (hts _ List.mem_cons_self)) pc x hx
    obtain ⟨t, a1, o, b1, b2, b3⟩ := body p e s m _ below meth c ⟨B.exec, B.bytes, hown, fun z hz => hts z (List.mem_cons_of_mem _ hz), hN, hK, ⟨hD.1, fun k hk => ⟨k, hk, rfl⟩⟩⟩ hZ hno B.notSynchronized hml s.heap [] _ hP va_S.rf (lh.entry av hlen (fun v hv => Nat.eq_of_beq_eq_true (List.all_eq_true.mp hcat v hv))) s₁ hh0 (Stand.of_body B)
    exact ⟨t, o, by rw [lg_entry_eq]; exact a1, b1, b2, b3⟩
/-- the words of 'throw new X(text)' -/
def TA (own X : String) (icl ic ix : Nat) (rx : ByteArray) (names : List String) : Prop :=
  (decode rx 0 = .ok (.aload_n 0, 1) ∧ decode rx 1 = .ok (.aload_n 1, 1) ∧ decode rx 2 = .ok (.invokespecial ix, 3) ∧ decode rx 5 = .ok (.return_, 1)) ∧ Bundle.fit X = true ∧ (∀ z ∈ names, Bundle.fit z = true) ∧ names.length = 2 ∧
  Cond.classLink own icl X ∈ gw ∧ Cond.instantiable X 6 ∈ gw ∧ Cond.initialized X ∈ gw ∧
  ∀ a ∈ Bundle.ownAtomsX own ic X ix rx names, a ∈ gw ∨ a ∈ bads
theorem pr_nst {H : Heap} {k : Nat} (hP : va_P D classes (fw n ad w) H) (hk : k < n) : ∃ cell : Cell, H[ad k]? = some cell ∧ cell.vm.isStatics = false := by
  have h := hP k _ (fw_get hk)
  unfold va_at at h
  cases hw : w k with
  | inl a =>
    rw [hw] at h
    refine ⟨_, h, ?_⟩
    obtain ⟨q, b⟩ := a
    obtain ⟨b1, b2⟩ := b
    rcases b2 with f | f | f | f | f <;> rfl
  | inr o =>
    rw [hw] at h
    obtain ⟨r, -, cell, g1, g2, g3, -⟩ := h
    exact ⟨cell, g1, by rw [g3]; rfl⟩
theorem j_thr (B : Cx p s m c args cc "LandingPads" D aC (rg n ad) n ad) (hZ : ZS (rg n ad) s) (htr : l.stackTraces = false) (hno : noH c) (hlk : meth.locks = false) (hml : c.maxLocals = nL)
    {icl ic ix sx : Nat} {rx : ByteArray} {names : List String} {tx : String} (hA : TA "LandingPads" X icl ic ix rx names) (hs : (sx, tx) ∈ strs)
    (d0 : decode cc pc = .ok (.new icl, 3)) (d1 : decode cc (pc + 3) = .ok (.dup, 1)) (d2 : decode cc (pc + 4) = .ok (.ldc sx, 2)) (d3 : decode cc (pc + 6) = .ok (.invokespecial ic, 3)) (d4 : decode cc (pc + 9) = .ok (.athrow, 1))
    (hR : 6 ≤ R.frames ∧ 1 ≤ R.cells ∧ 6 ≤ R.slots ∧ 90 ≤ R.locals) (hw : w = w') :
    J p l e R s m args below meth c D (rg n ad) 0 0 (TQ below D aC n ad X w' args s) n ad w nL pc lv [] := by
  subst hw
  intro H locs ls hP hS hl
  obtain ⟨hx, hb, hown, hts, hN, hK, hD⟩ := B
  obtain ⟨⟨x0, x1, x2, x5⟩, hfit, hfits, hlen2, wl, wi, wn, hat⟩ := hA
  refine W.newc hx hb hown (hts _ wl) (hts _ wi) (hts _ wn) (g := F0 m pc ls []) rfl d0 (by omega) (by omega) ?_
  intro cC kC h1 h2 h3 h4
  show W p l e R s m args below meth c _ locs (0 + 1) (0 + 6) _ (F0 m (pc + 3) ls [.ref H.size])
  refine lv_dup hx hb d1 rfl ?_
  obtain ⟨q, hq⟩ := hZ.2.2.1 _ hs
  refine va_ldcS hx hb hown hq d2 ?_
  intro T hT XX
  have hdis : ∀ k, k < n → ad k < H.size := fun k hk => by obtain ⟨cell, hc, -⟩ := pr_nst hP hk; exact (Array.getElem?_eq_some_iff.mp hc).1
  have hTo : ∀ k, k < n → T.heap[ad k]? = H[ad k]? := fun k hk => by rw [hT, Array.getElem?_push, if_neg (Nat.ne_of_lt (hdis k hk))]
  obtain ⟨vm', ce, LL, X2, hLL, e1, e2, stp⟩ := thr_ctor XX hx (by rw [Example.NoTraceControls.admits_follows XX.admits]; exact htr) x0 x1 x2 x5 hown hfit hfits
    (fun a ha => by rcases hat a ha with h | h; exact hts _ h; exact hZ.bads _ h)
    (fun x hx cell hc => by
      obtain ⟨k, hk, hb⟩ := hS.2.2 x hx
      obtain ⟨c', hc', he, -⟩ := XX.same.2.2.2.2.2 _ cell hc
      obtain ⟨c2, g1, g2⟩ := pr_nst hP hk
      rw [hb] at hc'
      have : c2 = c' := Option.some.inj ((g1.symm.trans (hTo k hk).symm).trans hc')
      subst this
      rw [he] at g2
      exact g2)
    (a := H.size) h1 h2 (by rw [hT]; simp [freshCell]) hS.1 (msg := .ref q) rfl (g := F0 m (pc + 6) ls [.ref q, .ref H.size, .ref H.size]) rfl (hl.1.trans hml.symm) (rest := [.ref H.size]) rfl (by rw [hb]; exact d3) (by omega) (by simp [hlen2, Value.category]; omega)
  have X3 : Stand p l e R s m args below meth c ((T.setVm vm').setCell H.size ce) locs (0 + 1) (0 + 6) :=
    { X2 with same := X2.same.weaken (fun x hx hlt => by
        rcases List.mem_append.mp hx with h | h
        · exact h
        · exact absurd (by rw [← hLL x h]; exact hlt) (Nat.not_lt.mpr hS.1)) (Nat.le_refl _) (Nat.le_refl _) }
  obtain ⟨stq, hrun, hend, hW, hsame⟩ := X3.athrowLeaves hx (g := F0 m (pc + 6 + 3) ls [.ref H.size]) rfl rfl rfl (fun x hx => hno x hx _) (a := H.size) (rest := []) rfl (by rw [hb]; exact d4) (hlocks := hlk)
  have hsz : H.size < T.heap.size := by rw [hT]; simp
  have hht : ∀ a, a ≠ H.size → (((T.setVm vm').setCell H.size ce).setFrames (.throwing H.size :: below)).heap[a]? = T.heap[a]? := fun a ha => by
    show ((T.setVm vm').setCell H.size ce).heap[a]? = _
    simp [State.setCell, Array.getElem?_setIfInBounds, Ne.symm ha]
  refine ⟨_, stp _ stq, .threw H.size, hrun, hend, H.size, locs, rfl, ⟨hS.1, ⟨ce, ?_, e2, by rw [e1]; exact h1⟩, ⟨?_, va_K.moved hW.alike hK, ⟨hD.1, fun _ _ => trivial⟩, nw_warm hW hN⟩, ⟨?_, fun a ha hn => ?_⟩, hS.2.2⟩, hW, hsame⟩
  · show ((T.setVm vm').setCell H.size ce).heap[H.size]? = some ce
    simp [State.setCell, Array.getElem?_setIfInBounds, hsz]
  · refine hP.kept (fun k q hq => ?_)
    obtain ⟨hk, rfl⟩ := fw_of hq
    rw [hht _ (Nat.ne_of_lt (hdis k hk)), hTo k hk]
  · show s.heap.size ≤ ((T.setVm vm').setCell H.size ce).heap.size
    rw [size_setCell]
    show _ ≤ T.heap.size
    exact Nat.le_trans hS.1 (Nat.le_of_lt hsz)
  · rw [hht a (Nat.ne_of_lt (Nat.lt_of_lt_of_le ha hS.1)), hT, Array.getElem?_push, if_neg (Nat.ne_of_lt (Nat.lt_of_lt_of_le ha hS.1))]
    exact hS.2.1 a ha hn
end TH
/-- a call that throws: where it comes to -/
def ThRun (p : Program) (l : Launch) (e : Env) (R : Room) (s : State) (m : MethodId) (args : Array Value) (below : List Frame) (meth : Method) (c : Code) (H : Heap) (locs : List Loc) (cells slots : Nat) (g : JFrame) (rest : List Value) (D : va_G) (n : Nat) (ad : Nat → Nat) (X : String) (w' : Nat → va_E) : Prop :=
  ∀ T : State, T.heap = H → Stand p l e R s m args below meth c T locs cells slots → ∃ (q : Addr) (T' : State) (L : List Loc), Stand p l e R s m args below meth c T' (locs ++ L) (cells + 1) (slots + 6) ∧ H.size ≤ q ∧
    (∃ ce : Cell, T'.heap[q]? = some ce ∧ ce.vm = .none ∧ s.vm.findClass X = some ce.cls) ∧ va_P D classes (fw n ad w') T'.heap ∧ H.size ≤ T'.heap.size ∧ (∀ a : Nat, a < H.size → ¬ rg n ad a → T'.heap[a]? = H[a]?) ∧ (∀ z ∈ L, rg n ad z.base) ∧
    Steps p.tables e below (T.setTop g) ((T'.setTop { g with stack := rest }).pushFrame (.throwing q))
section TC
variable {p : Program} {l : Launch} {e : Env} {R : Room} {s : State} {m : MethodId} {args : Array Value} {below : List Frame} {meth : Method} {c : Code} {D : va_G} {A : Nat → Prop} {cells slots : Nat} {Q : State → Prop} {n : Nat} {ad : Nat → Nat} {w w' : Nat → va_E} {nL : Nat}
variable {cc : ByteArray} {own : String} {aC : Nat → ClassId} {pc : Nat} {lv : List (Nat × Value)} {st : List Value} {o : Option Value} {X : String}
def tPre (R : Room) (Pc : Array Value → State → Prop) : Pt → Array Value → Prop := fun A a => A.cells + 1 ≤ R.cells ∧ A.slots + 6 ≤ R.slots ∧ Pc a A.U
def tPost (Qc : State → State → Addr → List Loc → Prop) : Pt → Array Value → Addr → Pt → Prop := fun A a v B =>
  ∃ (g : JFrame) (mk : MethodId) (t : State) (L : List Loc), B.U.heap = t.heap ∧ B.U.vm = t.vm ∧ Qc (A.U.calling g mk a) t v L ∧ B.locs = A.locs ++ L ∧ B.cells = A.cells + 1 ∧ B.slots = A.slots + 6
theorem th_back {y : MethodName} {b : ByteArray} {mL : Nat} {ret : Option FieldType} {rm : Room} {av : List Value} {nA : Nat} (hM : Th l y b mL ret rm D aC n ad av w X w') (hC : CB y b mL ret nA) (hts : ∀ z ∈ gw, z.before args s = true)
    (hroom : rm.cells = 1 ∧ rm.slots = 6 ∧ rm.frames + 1 ≤ R.frames ∧ 8 + (mL + 11) + rm.locals ≤ R.locals) :
    BackT l R p e below s args y 3 8 (tPre R (va_Pc av (Pz D aC n ad w))) (tPost (Qt1 D aC n ad X w')) := by
  have hpay := gw_pays hts hC.1
  refine BackT.of_free (S := headSpec (.code y b mL ret :: gw) rm) (bytes := b) (maxL := mL) (ret := ret) (E := fun a st oc t L k n' => k = 1 ∧ n' = 6 ∧ ∃ q, oc = .threw q ∧ Qt1 D aC n ad X w' st t q L) hM hroom.2.2.1 hroom.2.2.2 ?_ ?_ (fun _ _ _ _ _ _ _ _ _ => trivial) ?_ ?_
  · intro m meth c A a X0 hp
    refine ⟨atoms_intro fun z hz => hpay z hz _ _ X0.warmed, hpay _ List.mem_cons_self _ _ X0.warmed, hpay _ (List.mem_cons_of_mem _ hC.2.1) _ _ X0.warmed, ?_, ?_⟩
    · rw [show (headSpec (.code y b mL ret :: gw) rm).room.cells = 1 from hroom.1]; exact hp.1
    · rw [show (headSpec (.code y b mL ret :: gw) rm).room.slots = 6 from hroom.2.1]; exact hp.2.1
  · intro m meth c A a g mk X0 hp
    exact Pz.blind _ _ _ _ hp.2.2
  · intro a st oc t ⟨q, L, ho, h1, h2, h3⟩
    exact ⟨L, 1, 6, ⟨⟨q, ho⟩, h2, h3⟩, rfl, rfl, q, ho, h1⟩
  · intro m meth c A a g mk v t L k n' X0 hp hq hF ⟨e1, e2, q, ho, hQ⟩
    subst e1; subst e2
    cases ho
    exact ⟨g, mk, t, L, rfl, rfl, hQ, rfl, rfl, rfl⟩
theorem th_end {H : Heap} {locs : List Loc} {rest : List Value} {g : JFrame} {T : State} {vm₁ : Vm} {a : Array Value} {v : Addr} {Bt : Pt} (hT : T.heap = H) (hW₁ : s.WarmedH vm₁) (X' : Stand p l e R s m args below meth c Bt.U Bt.locs Bt.cells Bt.slots)
    (hpost : tPost (Qt1 D aC n ad X w') ⟨T.setVm vm₁, locs, cells, slots⟩ a v Bt) (hst : Steps p.tables e below (T.setTop g) ((Bt.U.setTop { g with stack := rest }).pushFrame (.throwing v))) :
    ∃ (q : Addr) (T' : State) (L : List Loc), Stand p l e R s m args below meth c T' (locs ++ L) (cells + 1) (slots + 6) ∧ H.size ≤ q ∧
    (∃ ce : Cell, T'.heap[q]? = some ce ∧ ce.vm = .none ∧ s.vm.findClass X = some ce.cls) ∧ va_P D classes (fw n ad w') T'.heap ∧ H.size ≤ T'.heap.size ∧ (∀ a : Nat, a < H.size → ¬ rg n ad a → T'.heap[a]? = H[a]?) ∧ (∀ z ∈ L, rg n ad z.base) ∧
    Steps p.tables e below (T.setTop g) ((T'.setTop { g with stack := rest }).pushFrame (.throwing q)) := by
  subst hT
  obtain ⟨g', mk, t, L, e1, e2, ⟨q1, ⟨ce, c1, c2, c3⟩, q3, q4, q5⟩, h1, h2, h3⟩ := hpost
  obtain ⟨U', l2, c2', s2⟩ := Bt
  dsimp only [Pt.U, Pt.locs, Pt.cells, Pt.slots] at X' e1 e2 h1 h2 h3 hst
  subst h1; subst h2; subst h3
  refine ⟨v, U', L, X', q1, ⟨ce, by rw [e1]; exact c1, c2, ?_⟩, by rw [e1]; exact q3.1, by rw [e1]; exact q4.1, fun a ha hn => by rw [e1]; exact q4.2 a ha hn, q5, hst⟩
  rw [← hW₁.alike.findClass]; exact c3
theorem th_runS {H : Heap} {locs : List Loc} {ls : Array Slot} (B : Cx p s m c args cc own D aC A n ad) {n' : Nat} {ad' : Nat → Nat} {v v' : Nat → va_E} {y : MethodName} {b : ByteArray} {mL : Nat} {ret : Option FieldType} {rm : Room} {nA index : Nat} {As st0 : List Value} (hM : Th l y b mL ret rm D aC n' ad' As v X v') (hC : CS y b mL ret nA) (hlink : Cond.methodLink own index y ∈ gw) (hn : As.length = nA)
    (hroom : rm.cells = 1 ∧ rm.slots = 6 ∧ rm.frames + 1 ≤ R.frames ∧ 8 + (mL + 11) + rm.locals ≤ R.locals) (hcs : cells + 1 ≤ R.cells ∧ slots + 6 ≤ R.slots) (hml : c.maxLocals = nL) (hls : ls.size = nL) (hwt : (st.map fun v => v.category).sum ≤ 8) (hst : st0 = As.reverse ++ st) (hdg : decode cc pc = .ok (.invokestatic index, 3))
    (hpre : ∀ U : State, U.heap = H → s.WarmedH U.vm → Pz D aC n' ad' v U) :
    ThRun p l e R s m args below meth c H locs cells slots (F0 m pc ls st0) st D n' ad' X v' := by
  obtain ⟨hx, hb, hown, hts, hN, hK, hD⟩ := B
  obtain ⟨hc, c6⟩ := hC
  intro T hT XX
  obtain ⟨mk, hnamed⟩ := Cond.code_named (hts _ hc.1)
  obtain ⟨methM, cM, hmethM, -, -, -, -, -, -, hsigM⟩ := Cond.code_spec hnamed (hts _ hc.1)
  obtain ⟨q, vm₁, Bt, hW₁, X', hpost, hstp⟩ := XX.staticThrows hx hown (hts _ hlink) (hts _ c6) (hts _ hc.2.1) hnamed hmethM hsigM ⟨hc.2.2.1, hc.2.2.2.1⟩ (th_back (p := p) (e := e) (below := below) hM hc hts hroom)
    (g := F0 m pc ls st0) rfl (hls.trans hml.symm) (Steps.refl _) (argsL := As) (rest := st) (fun sig h => by have := hc.2.2.2.2; rw [h] at this; rw [hn]; exact (Option.some.inj this).symm) hst (lv_room hwt) (by rw [hb]; exact hdg)
    (fun vm₁ hW => ⟨hcs.1, hcs.2, rfl, hpre (T.setVm vm₁) hT hW⟩)
  exact th_end hT hW₁ X' hpost hstp
theorem th_runV {H : Heap} {locs : List Loc} {ls : Array Slot} (B : Cx p s m c args cc own D aC A n ad) {n' : Nat} {ad' : Nat → Nat} {v v' : Nat → va_E} {y : MethodName} {b : ByteArray} {mL : Nat} {ret : Option FieldType} {rm : Room} {nA index : Nat} {q0 : Addr} {As st0 : List Value} (hM : Th l y b mL ret rm D aC n' ad' (.ref q0 :: As) v X v') (hC : CV y b mL ret nA) (hlink : Cond.methodLink own index y ∈ gw) (hn : As.length = nA)
    (hroom : rm.cells = 1 ∧ rm.slots = 6 ∧ rm.frames + 1 ≤ R.frames ∧ 8 + (mL + 11) + rm.locals ≤ R.locals) (hcs : cells + 1 ≤ R.cells ∧ slots + 6 ≤ R.slots) (hml : c.maxLocals = nL) (hls : ls.size = nL) (hwt : (st.map fun v => v.category).sum ≤ 8) (hst : st0 = As.reverse ++ .ref q0 :: st) (hdg : decode cc pc = .ok (.invokevirtual index, 3))
    (hrecv : ∃ cell : Cell, H[q0]? = some cell ∧ cell.vm.isStatics = false ∧ s.vm.findClass y.cls = some cell.cls)
    (hpre : ∀ U : State, U.heap = H → s.WarmedH U.vm → Pz D aC n' ad' v U) :
    ThRun p l e R s m args below meth c H locs cells slots (F0 m pc ls st0) st D n' ad' X v' := by
  obtain ⟨hx, hb, hown, hts, hN, hK, hD⟩ := B
  obtain ⟨hc, c6, c7⟩ := hC
  intro T hT XX
  obtain ⟨cellB, hcell, hobj, hcls⟩ := hrecv
  obtain ⟨mk, methM, hnamed, hmethM, hstM, habM⟩ := Cond.instanceMethod_spec (hts _ c6)
  obtain ⟨methM', cM, hmethM', -, -, -, -, -, -, hsigM⟩ := Cond.code_spec hnamed (hts _ hc.1)
  cases hmethM.symm.trans hmethM'
  obtain ⟨c2, r2, m2, q1, q2, q3, q4, kP, hkP, hkPi⟩ := Cond.selects_spec (hts _ c7)
  cases hcls.symm.trans q1
  cases (State.methodFound?_of_named hnamed ⟨hc.2.2.1, hc.2.2.2.1⟩).symm.trans q2
  cases hnamed.symm.trans q3
  have hselP : selectMethod e.platform s.vm cellB.cls mk = .method mk := by rw [Launch.admits_selectMethod XX.admits]; exact q4
  have hlenA : As.length = methM.sig.parameters.length := by have := hc.2.2.2.2; rw [hsigM] at this; rw [hn]; exact (Option.some.inj this).symm
  obtain ⟨vm₁, X₁, hstep₁⟩ := XX.invokevirtual hx hown (hts _ hlink) hnamed hmethM hstM hkP hkPi ⟨hc.2.2.1, hc.2.2.2.1⟩ (a := q0) (cell := cellB) (by rw [hT]; exact hcell)
    (fun z h => by rw [h] at hobj; cases hobj) hselP hmethM habM hkP hkPi (g := F0 m pc ls st0) rfl (argsL := As) (rest := st) hlenA hst (by rw [hb]; exact hdg)
  obtain ⟨q, Bt, X', hpost, hstp⟩ := th_back (p := p) (e := e) (below := below) hM hc hts hroom m meth c ⟨T.setVm vm₁, locs, cells, slots⟩ (F0 m pc ls st) (.invokevirtual index) mk (Value.ref q0 :: As).toArray X₁ rfl (hls.trans hml.symm) (by rw [hb]; exact hdg) (lv_room hwt) (X₁.named hnamed)
    ⟨hcs.1, hcs.2, rfl, hpre (T.setVm vm₁) hT X₁.warmed⟩
  exact th_end (g := F0 m pc ls st0) hT X₁.warmed X' hpost (hstep₁ _ fun acts => by rw [doInvoke_state]; exact hstp)
/-- a static method of the same world throws, and so does this one -/
theorem j_pS (B : Cx p s m c args cc own D aC (rg n ad) n ad) (hZ : ZS (rg n ad) s) (hno : noH c) (hlk : meth.locks = false) (hml : c.maxLocals = nL) {y : MethodName} {b : ByteArray} {mL : Nat} {ret : Option FieldType} {rm : Room} {nA index : Nat} {As st0 : List Value} (hM : Th l y b mL ret rm D aC n ad As w X w') (hC : CS y b mL ret nA) (hlink : Cond.methodLink own index y ∈ gw) (hn : As.length = nA)
    (hroom : rm.cells = 1 ∧ rm.slots = 6 ∧ rm.frames + 1 ≤ R.frames ∧ 8 + (mL + 11) + rm.locals ≤ R.locals) (hcs : 1 ≤ R.cells ∧ 6 ≤ R.slots) (hwt : (st.map fun v => v.category).sum ≤ 8) (hst : st0 = As.reverse ++ st) (hdg : decode cc pc = .ok (.invokestatic index, 3)) :
    J p l e R s m args below meth c D (rg n ad) 0 0 (TQ below D aC n ad X w' args s) n ad w nL pc lv st0 := by
  intro H locs ls hP hS hl T hT XX
  have hB := B
  obtain ⟨hx, hb, hown, hts, hN, hK, hD⟩ := B
  obtain ⟨q, T', L, X', h1, ⟨ce, c1, c2, c3⟩, h3, h4, h5, h6, hstp⟩ := th_runS hB hM hC hlink hn hroom ⟨by omega, by omega⟩ hml hl.1 hwt hst hdg
    (fun U hU hW => ⟨⟨by rw [hU]; exact hP, va_K.moved hW.alike hK, ⟨hD.1, fun _ _ => trivial⟩, nw_warm hW hN⟩, hZ.moved hW (fun a h1 h2 => by rw [hU]; exact hS.2.1 a h1 h2)⟩) T hT XX
  obtain ⟨stq, hrun, hend, hW, hsame⟩ := X'.leaveThrown q (g := F0 m pc ls st) rfl rfl rfl (fun x hx => hno x hx _) (hlocks := hlk)
  refine ⟨_, hstp.trans stq, .threw q, hrun, hend, q, locs ++ L, rfl, ⟨Nat.le_trans hS.1 h1, ⟨ce, c1, c2, c3⟩, ⟨h3, va_K.moved hW.alike hK, ⟨hD.1, fun _ _ => trivial⟩, nw_warm hW hN⟩, ⟨Nat.le_trans hS.1 h4, fun a ha hn => ?_⟩, fun z hz => ?_⟩, hW, hsame⟩
  · exact (h5 a (Nat.lt_of_lt_of_le ha hS.1) hn).trans (hS.2.1 a ha hn)
  · rcases List.mem_append.mp hz with h | h
    · exact hS.2.2 z h
    · exact h6 z h
end TC
