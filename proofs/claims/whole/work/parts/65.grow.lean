/-! CONSTRUCTORS: the new cells lie one behind the other, from b0 on -/
def aos : List String := [R_Tx, R_Bl, R_Pr, R_Fr]
/-- what a constructor starts from: its object alone, the last cell of the heap -/
def Pi (D : va_G) (aC : Nat → ClassId) (b0 : Nat) (e0 : va_E) (U : State) : Prop :=
  va_P D classes (fw 1 (fun k => b0 + k) (fun _ => e0)) U.heap ∧ U.heap.size = b0 + 1 ∧ va_K D classes (tyl aC) U ∧ (∀ z ∈ nw, va_Nw z U) ∧ ∀ C ∈ aos, va_AO C U
def Qi (D : va_G) (b0 n : Nat) (w' : Nat → va_E) : Array Value → State → Outcome → State → Prop := fun _ st oc t => oc = .returned none ∧ va_P D classes (fw n (fun k => b0 + k) w') t.heap ∧ va_F (fun q => b0 ≤ q) st t
/-- THE CONTRACT of a constructor without arguments: it leaves n cells, in ms slots -/
def OkI (l : Launch) (y : MethodName) (b : ByteArray) (mL : Nat) (rm : Room) (D : va_G) (aC : Nat → ClassId) (b0 : Nat) (e0 : va_E) (n ms : Nat) (w' : Nat → va_E) : Prop :=
  Met l y (.code y b mL none :: gw) rm (va_Pc [.ref b0] (Pi D aC b0 e0)) (Qi D b0 (n + 1) w') n ms (fun q => b0 ≤ q)
theorem Pi.blind {D : va_G} {aC : Nat → ClassId} {b0 : Nat} {e0 : va_E} {av : List Value} : FrameBlind (va_Pc av (Pi D aC b0 e0)) := by
  intro a U g mk q
  obtain ⟨q0, qP, qz, qK, qN, qA⟩ := q
  exact ⟨q0, qP, qz, va_K.moved (u := U) (U := U.calling g mk a) (Vm.Alike.refl U.vm) qK, nw_same (s := U) (U := U.calling g mk a) rfl qN, fun C hC => va_AO.moved (u := U) (U := U.calling g mk a) (Vm.Alike.refl U.vm) (qA C hC)⟩
abbrev romI (f c k i : Nat) : Room := { frames := f, cells := c, slots := i, locals := k }
theorem up_b (b0 n : Nat) : va_up (fun k => b0 + k) n (b0 + n) = fun k => b0 + k := by
  funext k
  unfold va_up
  split
  · rename_i h; rw [h]
  · rfl
section GR
variable {p : Program} {l : Launch} {e : Env} {R : Room} {s : State} {m : MethodId} {args : Array Value} {below : List Frame} {meth : Method} {c : Code} {D : va_G} {cells slots : Nat} {Q : State → Prop} {n b0 : Nat} {w w2 : Nat → va_E} {nL : Nat}
variable {cc : ByteArray} {own : String} {aC : Nat → ClassId} {pc : Nat} {lv : List (Nat × Value)} {st : List Value}
/-- the context, at any number of cells -/
theorem Cx.gr {n' : Nat} (B : Cx p s m c args cc own D aC (fun q => b0 ≤ q) n (fun k => b0 + k)) : Cx p s m c args cc own D aC (fun q => b0 ≤ q) n' (fun k => b0 + k) :=
  ⟨B.1, B.2.1, B.2.2.1, B.2.2.2.1, B.2.2.2.2.1, B.2.2.2.2.2.1, fun i j _ _ h => by have h : b0 + i = b0 + j := h; omega, fun k _ => Nat.le_add_right b0 k⟩
theorem gx_at {H1 : Heap} {T : State} {locs : List Loc} {q : Nat} {e1 : va_E} (hsz : s.heap.size + cells = b0 + n) (hP : va_P D classes (fw n (fun k => b0 + k) w ++ [(q, e1)]) H1) (hD : va_D (fun q => b0 ≤ q) (fw n (fun k => b0 + k) w ++ [(q, e1)])) (hT : T.heap = H1) (X : Stand p l e R s m args below meth c T locs (cells + 1) slots) : q = b0 + n := by
  have hn : (fw n (fun k => b0 + k) w ++ [(q, e1)])[n]? = some (q, e1) := by rw [List.getElem?_append_right (by rw [fw_len]; exact Nat.le_refl n), fw_len]; simp
  have h1 : q < H1.size := (hP n _ hn).lt
  have h2 : H1.size ≤ s.heap.size + (cells + 1) := by rw [← hT]; exact X.heapSize
  have h3 : b0 ≤ q := hD.2 n _ hn
  apply Classical.byContradiction
  intro h4
  have h5 : q - b0 < n := by omega
  have hk : (fw n (fun k => b0 + k) w ++ [(q, e1)])[q - b0]? = some (b0 + (q - b0), w (q - b0)) := by rw [List.getElem?_append_left (by rw [fw_len]; exact h5), fw_get h5]
  have := hD.1 (q - b0) n _ _ hk hn (by show b0 + (q - b0) = q; omega)
  omega
theorem g_new (B : Cx p s m c args cc own D aC (fun q => b0 ≤ q) n (fun k => b0 + k)) (hb0 : b0 ≤ s.heap.size) (hsz : s.heap.size + cells = b0 + n) {C : String} {T : u_T} {N ci index : Nat} {fs : List Value} {ty : Nat → FieldType}
    (hc : classes[ci]? = some (C, T, N)) (hin : ∀ w ∈ u_ws C T N, w ∈ gw) (hty : ∀ k, k < N → parseFieldDescriptor (T k).2.2.1 = some (ty k)) (hcl : Cond.classLink own index C ∈ gw) (hinst : Cond.instantiable C N ∈ gw) (hini : Cond.initialized C ∈ gw) (hfs : ∀ j, j < N → defaultValue (ty j) = vp_V fs j)
    (hR : cells + 1 ≤ R.cells ∧ slots + N ≤ R.slots) (hdg : decode cc pc = .ok (.new index, 3))
    (kk : J p l e R s m args below meth c D (fun q => b0 ≤ q) (cells + 1) (slots + N) Q (n + 1) (fun k => b0 + k) (va_up w n (.inr (ci, fs))) nL (pc + 3) lv (.ref (b0 + n) :: st)) : J p l e R s m args below meth c D (fun q => b0 ≤ q) cells slots Q n (fun k => b0 + k) w nL pc lv st := by
  intro H locs ls hP hS hl
  obtain ⟨hx, hb, hown, hts, hN, hK, hD⟩ := B
  refine va_new hx hb hts hin ty hty hown (hts _ hcl) (hts _ hinst) (hts _ hini) hK hP hD.to hS (fun q h => Nat.le_trans hb0 h) hc hfs hR.1 hR.2 hdg (fun q H1 h1 h2 h3 T hT X => ?_)
  have hq := gx_at hsz h1 h2 hT X
  subst hq
  rw [fw_push, up_b] at h1
  exact kk H1 locs ls h1 h3 hl T hT X
theorem g_newi (B : Cx p s m c args cc own D aC (fun q => b0 ≤ q) n (fun k => b0 + k)) (hb0 : b0 ≤ s.heap.size) (hsz : s.heap.size + cells = b0 + n) {v : Int32} {N : Nat} (hv : v = nI N) (hN31 : N < 2 ^ 20) (hw : Cond.arrayClass .int ∈ gw) (hR : cells + 1 ≤ R.cells ∧ slots + N ≤ R.slots) (hdg : decode cc pc = .ok (.newarray .int, 2))
    (kk : J p l e R s m args below meth c D (fun q => b0 ≤ q) (cells + 1) (slots + N) Q (n + 1) (fun k => b0 + k) (va_up w n (.inl (aC 0, N, .inl (fun _ => 0)))) nL (pc + 2) lv (.ref (b0 + n) :: st)) : J p l e R s m args below meth c D (fun q => b0 ≤ q) cells slots Q n (fun k => b0 + k) w nL pc lv (.int v :: st) := by
  subst hv
  intro H locs ls hP hS hl
  obtain ⟨hx, hb, hown, hts, hN, hK, hD⟩ := B
  refine va_newa (atype := .int) hx hb (hts _ hw) (ty := .int) rfl hK hP hD.to hS (fun q h => Nat.le_trans hb0 h) (N' := N) (a0 := (N, .inl (fun _ => 0))) (fun _ => rfl) (nI_pos (by omega)) (nI_clamp (by omega)) (by show N * 4 ≤ _; omega) hR.1 hR.2 hdg (fun q cA H1 k1 h1 h2 h3 T hT X => ?_)
  have hq := gx_at hsz h1 h2 hT X
  subst hq
  have hA : cA = aC 0 := Option.some.inj ((k1.2 6 _ rfl).2.symm.trans (hK.2 0 _ rfl).2)
  subst hA
  rw [fw_push, up_b] at h1
  exact kk H1 locs ls h1 h3 hl T hT X
theorem g_newl (B : Cx p s m c args cc own D aC (fun q => b0 ≤ q) n (fun k => b0 + k)) (hb0 : b0 ≤ s.heap.size) (hsz : s.heap.size + cells = b0 + n) {v : Int32} {N : Nat} (hv : v = nI N) (hN31 : N < 2 ^ 20) (hw : Cond.arrayClass .long ∈ gw) (hR : cells + 1 ≤ R.cells ∧ slots + N ≤ R.slots) (hdg : decode cc pc = .ok (.newarray .long, 2))
    (kk : J p l e R s m args below meth c D (fun q => b0 ≤ q) (cells + 1) (slots + N) Q (n + 1) (fun k => b0 + k) (va_up w n (.inl (aC 5, N, .inr (.inl (fun _ => 0))))) nL (pc + 2) lv (.ref (b0 + n) :: st)) : J p l e R s m args below meth c D (fun q => b0 ≤ q) cells slots Q n (fun k => b0 + k) w nL pc lv (.int v :: st) := by
  subst hv
  intro H locs ls hP hS hl
  obtain ⟨hx, hb, hown, hts, hN, hK, hD⟩ := B
  refine va_newa (atype := .long) hx hb (hts _ hw) (ty := .long) rfl hK hP hD.to hS (fun q h => Nat.le_trans hb0 h) (N' := N) (a0 := (N, .inr (.inl (fun _ => 0)))) (fun _ => rfl) (nI_pos (by omega)) (nI_clamp (by omega)) (by show N * 8 ≤ _; omega) hR.1 hR.2 hdg (fun q cA H1 k1 h1 h2 h3 T hT X => ?_)
  have hq := gx_at hsz h1 h2 hT X
  subst hq
  have hA : cA = aC 5 := Option.some.inj ((k1.2 6 _ rfl).2.symm.trans (hK.2 5 _ rfl).2)
  subst hA
  rw [fw_push, up_b] at h1
  exact kk H1 locs ls h1 h3 hl T hT X
theorem g_newq (B : Cx p s m c args cc own D aC (fun q => b0 ≤ q) n (fun k => b0 + k)) (hb0 : b0 ≤ s.heap.size) (hsz : s.heap.size + cells = b0 + n) {v : Int32} {N index t : Nat} {C : String} (hv : v = nI N) (hN31 : N < 2 ^ 20) (hcl : Cond.classLink own index C ∈ gw) (hao : va_AO C s) (ht : (tyl aC)[t]? = some (aC t, .object C)) (hR : cells + 1 ≤ R.cells ∧ slots + N ≤ R.slots) (hdg : decode cc pc = .ok (.anewarray index, 3))
    (kk : J p l e R s m args below meth c D (fun q => b0 ≤ q) (cells + 1) (slots + N) Q (n + 1) (fun k => b0 + k) (va_up w n (.inl (aC t, N, .inr (.inr (.inr (.inr (fun _ => none))))))) nL (pc + 3) lv (.ref (b0 + n) :: st)) : J p l e R s m args below meth c D (fun q => b0 ≤ q) cells slots Q n (fun k => b0 + k) w nL pc lv (.int v :: st) := by
  subst hv
  intro H locs ls hP hS hl
  obtain ⟨hx, hb, hown, hts, hN, hK, hD⟩ := B
  refine va_newq hx hb hown (hts _ hcl) hao hK hP hD.to hS (fun q h => Nat.le_trans hb0 h) (N' := N) (nI_pos (by omega)) (nI_clamp (by omega)) (by omega) hR.1 hR.2 hdg (fun q cA H1 k1 h1 h2 h3 T hT X => ?_)
  have hq := gx_at hsz h1 h2 hT X
  subst hq
  have hA : cA = aC t := by
    obtain ⟨-, -, -, -, -, g1⟩ := (k1.2 6 _ rfl).2
    obtain ⟨-, -, -, -, -, g2⟩ := (hK.2 t _ ht).2
    exact Option.some.inj (g1.symm.trans g2)
  subst hA
  rw [fw_push, up_b] at h1
  exact kk H1 locs ls h1 h3 hl T hT X
theorem g_putr (B : Cx p s m c args cc own D aC (fun q => b0 ≤ q) n (fun k => b0 + k)) (hnm : meth.name = "<init>") {index ci j k q : Nat} {fs : List Value} {ty : FieldType} (F : FL own index ci j) (hl0 : ∃ C T N, classes[ci]? = some (C, T, N) ∧ Cond.fieldLink own index (T j).1 (T j).2.1 (T j).2.2.1 ∈ gw ∧ (T j).2.2.2 = true ∧ (T j).1 = own ∧ parseFieldDescriptor (T j).2.2.1 = some ty) (hn : narrow ty (.ref q) = .ref q) (hfit : fits ty (.ref q) = true) (hk : k < n) (hw : w k = .inr (ci, fs)) (hl : j < fs.length) (hdg : decode cc pc = .ok (.putfield index, 3)) {a : Nat} (ha : a = b0 + k)
    (kk : J p l e R s m args below meth c D (fun q => b0 ≤ q) cells slots Q n (fun k => b0 + k) (va_up w k (.inr (ci, fs.set j (.ref q)))) nL (pc + 3) lv st) : J p l e R s m args below meth c D (fun q => b0 ≤ q) cells slots Q n (fun k => b0 + k) w nL pc lv (.ref q :: .ref a :: st) := by
  subst ha
  intro H locs ls hP hS hl'
  obtain ⟨hx, hb, hown, hts, hN, hK, hD⟩ := B
  obtain ⟨C, T, N, tyf, hc, hj, hin, hty, hnms, -⟩ := F
  obtain ⟨C', T', N', hc', hlink, hfin, hdecl, hd⟩ := hl0
  obtain ⟨rfl, rfl, rfl⟩ : C = C' ∧ T = T' ∧ N = N' := by have := hc.symm.trans hc'; simp at this; exact this
  refine va_putF hx hb hts hin tyf hty hnms hown hK hP hD.to hS k (a := b0 + k) (fs := fs) (by rw [fw_get hk, hw]) hc j hj (hts _ hlink) (fun x h => h) hfin hnm hdecl hd hn hfit hl hdg (fun H1 locs1 h1 _ h3 => ?_)
  rw [fw_set hk] at h1
  exact kk H1 locs1 ls h1 h3 hl'
theorem g_puti (B : Cx p s m c args cc own D aC (fun q => b0 ≤ q) n (fun k => b0 + k)) {index ci j k : Nat} {v : Int32} {fs : List Value} (F : FL own index ci j) (hl0 : ∃ C T N, classes[ci]? = some (C, T, N) ∧ Cond.fieldLink own index (T j).1 (T j).2.1 (T j).2.2.1 ∈ gw ∧ (T j).2.2.2 = false ∧ parseFieldDescriptor (T j).2.2.1 = some .int) (hk : k < n) (hw : w k = .inr (ci, fs)) (hl : j < fs.length) (hdg : decode cc pc = .ok (.putfield index, 3)) {a : Nat} (ha : a = b0 + k)
    (kk : J p l e R s m args below meth c D (fun q => b0 ≤ q) cells slots Q n (fun k => b0 + k) (va_up w k (.inr (ci, fs.set j (.int v)))) nL (pc + 3) lv st) : J p l e R s m args below meth c D (fun q => b0 ≤ q) cells slots Q n (fun k => b0 + k) w nL pc lv (.int v :: .ref a :: st) := by
  subst ha
  intro H locs ls hP hS hl'
  obtain ⟨hx, hb, hown, hts, hN, hK, hD⟩ := B
  obtain ⟨C, T, N, tyf, hc, hj, hin, hty, hnms, -⟩ := F
  obtain ⟨C', T', N', hc', hlink, hfin, hd⟩ := hl0
  obtain ⟨rfl, rfl, rfl⟩ : C = C' ∧ T = T' ∧ N = N' := by have := hc.symm.trans hc'; simp at this; exact this
  refine va_put hx hb hts hin tyf hty hnms hown hK hP hD.to hS k (a := b0 + k) (fs := fs) (by rw [fw_get hk, hw]) hc j hj (hts _ hlink) (fun x h => h) hfin hd rfl rfl hl hdg (fun H1 locs1 h1 _ h3 => ?_)
  rw [fw_set hk] at h1
  exact kk H1 locs1 ls h1 h3 hl'
theorem g_iast (B : Cx p s m c args cc own D aC (fun q => b0 ≤ q) n (fun k => b0 + k)) {k N a : Nat} {i v : Int32} {f : Nat → Int32} (hk : k < n) (hw : w k = .inl (aC 0, N, .inl f)) (hi : i = nI a ∧ a < N ∧ N < 2 ^ 31) (hdg : decode cc pc = .ok (.iastore, 1)) {q : Nat} (ha : q = b0 + k)
    (kk : J p l e R s m args below meth c D (fun q => b0 ≤ q) cells slots Q n (fun k => b0 + k) (va_up w k (.inl (aC 0, N, .inl (upd f a v)))) nL (pc + 1) lv st) : J p l e R s m args below meth c D (fun q => b0 ≤ q) cells slots Q n (fun k => b0 + k) w nL pc lv (.int v :: .int i :: .ref q :: st) := by
  subst ha
  intro H locs ls hP hS hl
  obtain ⟨hx, hb, hown, hts, hN, hK, hD⟩ := B
  obtain ⟨rfl, g1, g2⟩ := hi
  refine va_iast hx hb hK hP hD.to hS k 0 (a := b0 + k) (cA := aC 0) (n := N) (f := f) (by rw [fw_get hk, hw]) rfl (vp_in_nI g1 g2) hdg fun H1 locs1 h1 _ h3 => ?_
  rw [fw_set hk, nI_clamp (by omega)] at h1
  exact kk H1 locs1 ls h1 h3 hl
theorem g_aast (B : Cx p s m c args cc own D aC (fun q => b0 ≤ q) n (fun k => b0 + k)) {k k1 N a t ci : Nat} {i : Int32} {f : Nat → Option Nat} {vs : List Value} {C : String} {T : u_T} {N1 : Nat} (hk : k < n) (hw : w k = .inl (aC t, N, .inr (.inr (.inr (.inr f))))) (hk1 : k1 < n) (hw1 : w k1 = .inr (ci, vs)) (hc : classes[ci]? = some (C, T, N1)) (ht : (tyl aC)[t]? = some (aC t, .object C)) (hi : i = nI a ∧ a < N ∧ N < 2 ^ 31) (hdg : decode cc pc = .ok (.aastore, 1)) {q q1 : Nat} (ha : q = b0 + k) (ha1 : q1 = b0 + k1)
    (kk : J p l e R s m args below meth c D (fun q => b0 ≤ q) cells slots Q n (fun k => b0 + k) (va_up w k (.inl (aC t, N, .inr (.inr (.inr (.inr (va_up f a (some (b0 + k1)))))))) ) nL (pc + 1) lv st) : J p l e R s m args below meth c D (fun q => b0 ≤ q) cells slots Q n (fun k => b0 + k) w nL pc lv (.ref q1 :: .int i :: .ref q :: st) := by
  subst ha; subst ha1
  intro H locs ls hP hS hl
  obtain ⟨hx, hb, hown, hts, hN, hK, hD⟩ := B
  obtain ⟨rfl, g1, g2⟩ := hi
  refine va_astq hx hb hK hP hD.to hS k t k1 ci (a := b0 + k) (v := b0 + k1) (cA := aC t) (n := N) (f := f) (by rw [fw_get hk, hw]) ht (by rw [fw_get hk1, hw1]) hc (vp_in_nI g1 g2) hdg fun H1 locs1 h1 _ h3 => ?_
  rw [fw_set hk, nI_clamp (by omega)] at h1
  exact kk H1 locs1 ls h1 h3 hl
theorem g_objI (B : Cx p s m c args cc own D aC (fun q => b0 ≤ q) n (fun k => b0 + k)) (hml : c.maxLocals = nL) {index q : Nat} (hlink : Cond.methodLink own index Lib.objectInit ∈ gw) (h1 : Cond.instanceMethod Lib.objectInit ∈ gw) (h2 : Cond.code Lib.objectInit ⟨#[0xb1]⟩ 1 none ∈ gw) (hR : 1 ≤ R.frames ∧ 20 ≤ R.locals) (hwt : (st.map fun v => v.category).sum ≤ 8) (hdg : decode cc pc = .ok (.invokespecial index, 3))
    (kk : J p l e R s m args below meth c D (fun q => b0 ≤ q) cells slots Q n (fun k => b0 + k) w nL (pc + 3) lv st) : J p l e R s m args below meth c D (fun q => b0 ≤ q) cells slots Q n (fun k => b0 + k) w nL pc lv (.ref q :: st) := by
  intro H locs ls hP hS hl
  obtain ⟨hx, hb, hown, hts, hN, hK, hD⟩ := B
  have hr := lv_room (m := m) (pc := pc) (ls := ls) (rest := .ref q :: st) hwt
  exact W.objInit hx hb hown (hts _ hlink) (hts _ h1) (hts _ h2) (g := F0 m pc ls (.ref q :: st)) rfl (hl.1.trans hml.symm) rfl hdg hR.1 (by omega) (kk H locs ls hP hS hl)
/-- the constructor of the object that was made last -/
theorem g_ctor (B : Cx p s m c args cc own D aC (fun q => b0 ≤ q) (n + 1) (fun k => b0 + k)) (hao : ∀ C ∈ aos, va_AO C s) (hsz : s.heap.size + cells = b0 + (n + 1)) (hml : c.maxLocals = nL) {y : MethodName} {b : ByteArray} {mL : Nat} {rm : Room} {index N ms : Nat} {e0 : va_E} {v' : Nat → va_E} (hM : OkI l y b mL rm D aC (b0 + n) e0 N ms v') (hC : CB y b mL none 0) (hy : y.name = "<init>") (him : Cond.instanceMethod y ∈ gw) (hlink : Cond.methodLink own index y ∈ gw) (hw : w n = e0)
    (hroom : rm.cells = N ∧ rm.slots = ms ∧ rm.frames + 1 ≤ R.frames ∧ 8 + (mL + 11) + rm.locals ≤ R.locals) (hcs : cells + N ≤ R.cells ∧ slots + ms ≤ R.slots) (hwt : (st.map fun v => v.category).sum ≤ 8) (hdg : decode cc pc = .ok (.invokespecial index, 3)) {q : Nat} (hq : q = b0 + n)
    (hw2 : ∀ k, k < n + 1 + N → w2 k = if k < n then w k else v' (k - n))
    (kk : J p l e R s m args below meth c D (fun q => b0 ≤ q) (cells + N) (slots + ms) Q (n + 1 + N) (fun k => b0 + k) w2 nL (pc + 3) lv st) : J p l e R s m args below meth c D (fun q => b0 ≤ q) cells slots Q (n + 1) (fun k => b0 + k) w nL pc lv (.ref q :: st) := by
  subst hq
  intro H locs ls hP hS hl T hT XX
  obtain ⟨hx, hb, hown, hts, hN, hK, hD⟩ := B
  obtain ⟨c1, c2, c3, c4, c5⟩ := hC
  have hlast := hP n _ (fw_get (Nat.lt_succ_self n))
  have hHsz : H.size = b0 + n + 1 := by
    have h1 : H.size ≤ s.heap.size + cells := by rw [← hT]; exact XX.heapSize
    have h2 : b0 + n < H.size := hlast.lt
    omega
  have hPc : va_P D classes (fw 1 (fun k => b0 + n + k) (fun _ => e0)) H := by
    intro k z hk
    obtain ⟨hk1, rfl⟩ := fw_of hk
    have : k = 0 := by omega
    subst this
    rw [← hw]
    exact hlast
  have cw : CallB R s args own index y b mL none (.code y b mL none :: gw) rm N ms 0 ∧ y.name = "<init>" ∧ (Cond.instanceMethod y).before args s = true := by
    refine ⟨⟨hroom.1, hroom.2.1, hroom.2.2.1, hroom.2.2.2, gw_pays hts c1, List.mem_cons_self, hts _ c1, hts _ c2, ⟨c3, c4⟩, fun sig h => ?_, hts _ hlink⟩, hy, hts _ him⟩
    rw [h] at c5
    exact (Option.some.inj c5).symm
  obtain ⟨u, st₀, t, T', L, h0, X', hL, e1, e2, ⟨hv, hB, hz, hk⟩, stp⟩ := va_runI (As := []) (rest := st) (b := b0 + n) (cells := cells) (slots := slots) (locs := locs) (H := H) (l := l) (e := e) (below := below) (meth := meth) (g := F0 m pc ls (.ref (b0 + n) :: st)) ⟨hx, hb, hml, hown, hts⟩ hM cw ⟨Pi.blind, fun U hU hW => ⟨rfl, by rw [hU]; exact hPc, by rw [hU]; exact hHsz, va_K.moved hW.alike hK, nw_warm hW hN, fun C hC => va_AO.moved hW.alike (hao C hC)⟩⟩ rfl rfl hl.1 rfl (lv_room hwt) hdg hcs T hT XX
  cases hv
  rw [h0] at hz hk
  obtain ⟨t2, a1, b1⟩ := kk T'.heap (locs ++ L) ls (by
      intro k z hk2
      obtain ⟨hk3, rfl⟩ := fw_of hk2
      rw [hw2 k hk3]
      rw [e1]
      by_cases h : k < n
      · rw [if_pos h]
        refine (hP k _ (fw_get (by omega))).kept (hk _ ?_ (by show ¬ b0 + n ≤ b0 + k; omega))
        exact (hP k _ (fw_get (by omega))).lt
      · rw [if_neg h]
        have := hB (k - n) _ (fw_get (by omega))
        rw [show b0 + n + (k - n) = b0 + k by omega] at this
        exact this)
    ⟨Nat.le_trans hS.1 (by rw [e1]; exact hz), fun a g1 g2 => by rw [e1, hk a (Nat.lt_of_lt_of_le g1 hS.1) (fun z => g2 (Nat.le_trans (Nat.le_add_right b0 n) z))]; exact hS.2.1 a g1 g2, fun a ha => by
      rcases List.mem_append.mp ha with h | h
      · exact hS.2.2 a h
      · exact Nat.le_trans (Nat.le_add_right b0 n) (hL a h)⟩ hl T' rfl X'
  exact ⟨t2, stp t2 a1, b1⟩
theorem gi_start {y : MethodName} {b : ByteArray} {mL : Nat} {rm : Room} {e0 : va_E} {N ms : Nat} {w' : Nat → va_E} (hy : plainName y.cls = true) (hyn : y.name = "<init>") (hlen : 1 ≤ mL)
    (body : ∀ (p : Program) (e : Env) (s : State) (m : MethodId) (args : Array Value) (below : List Frame) (meth : Method) (c : Code), Cx p s m c args b y.cls D aC (fun q => b0 ≤ q) 1 (fun k => b0 + k) → (∀ C ∈ aos, va_AO C s) → b0 ≤ s.heap.size → s.heap.size + 0 = b0 + 1 → meth.name = "<init>" → meth.sig.returnType = none → meth.locks = false → c.maxLocals = mL →
      J p l e rm s m args below meth c D (fun q => b0 ≤ q) 0 0 (MQ below (Qi D b0 (N + 1) w') args s N ms (fun q => b0 ≤ q)) 1 (fun k => b0 + k) (fun _ => e0) mL 0 [(0, .ref b0)] []) : OkI l y b mL rm D aC b0 e0 N ms w' := by
  refine Met.ofW (cc := b) (maxL := mL) (ret := none) hy rfl ?_
  intro p e s m args below meth c s₁ B hml hv
  obtain ⟨rfl, hP, hz, hK, hN, hA⟩ := hv
  have hts := atoms_spec (ws := .code y b mL none :: gw) B.pre
  have hown : s.vm.findClass y.cls = some m.cls := findClass_of_methodNamed B.named
  have hnm : meth.name = "<init>" := (name_of_methodNamed B.named B.method).1.trans hyn
  rw [lg_entry_eq]
  exact body p e s m _ below meth c ⟨B.exec, B.bytes, hown, fun z hz => hts z (List.mem_cons_of_mem _ hz), hN, hK, ⟨fun i j _ _ h => by have h : b0 + i = b0 + j := h; omega, fun k _ => Nat.le_add_right b0 k⟩⟩ hA (by omega) (by omega) hnm B.returns B.notSynchronized hml s.heap [] _ hP va_S.rf (lh.entry [.ref b0] (show (lg_sl [Value.ref b0]).length ≤ mL from hlen) (fun v hv => by rw [List.mem_singleton.mp hv]; rfl))
theorem g_vret {N ms : Nat} {w' : Nat → va_E} (B : Cx p s m c args cc own D aC (fun q => b0 ≤ q) (N + 1) (fun k => b0 + k)) (hr : meth.sig.returnType = none) (hlk : meth.locks = false) (hdg : decode cc pc = .ok (.return_, 1)) (hw : ∀ k, k < N + 1 → w k = w' k) : J p l e R s m args below meth c D (fun q => b0 ≤ q) N ms (MQ below (Qi D b0 (N + 1) w') args s N ms (fun q => b0 ≤ q)) (N + 1) (fun k => b0 + k) w nL pc lv [] := by
  intro H locs ls hP hS hl
  obtain ⟨hx, hb, hown, hts, hN, hK, hD⟩ := B
  rw [fw_congr hw] at hP
  exact W.vret hx hb hr (fun t ht hW => ⟨rfl, by rw [ht]; exact hP, hS.F ht⟩) hS.2.2 hdg (hlocks := hlk)
end GR
