/-! FUNCTION WORLDS: n cells at the addresses ad 0, ad 1 .., with the contents w 0, w 1 .. -/
def fw (n : Nat) (ad : Nat → Nat) (w : Nat → va_E) : va_W := (List.range n).map fun k => (ad k, w k)
theorem fw_len {n : Nat} {ad : Nat → Nat} {w : Nat → va_E} : (fw n ad w).length = n := by simp [fw]
theorem fw_get {n : Nat} {ad : Nat → Nat} {w : Nat → va_E} {k : Nat} (hk : k < n) : (fw n ad w)[k]? = some (ad k, w k) := by
  simp [fw, hk]
theorem fw_out {n : Nat} {ad : Nat → Nat} {w : Nat → va_E} {k : Nat} (hk : ¬ k < n) : (fw n ad w)[k]? = none := by
  rw [List.getElem?_eq_none]; rw [fw_len]; omega
theorem fw_of {n : Nat} {ad : Nat → Nat} {w : Nat → va_E} {k : Nat} {q : Nat × va_E} (h : (fw n ad w)[k]? = some q) : k < n ∧ q = (ad k, w k) := by
  by_cases hk : k < n
  · rw [fw_get hk] at h; exact ⟨hk, (Option.some.inj h).symm⟩
  · rw [fw_out hk] at h; cases h
theorem fw_set {n : Nat} {ad : Nat → Nat} {w : Nat → va_E} {k : Nat} {e : va_E} (hk : k < n) : (fw n ad w).set k (ad k, e) = fw n ad (va_up w k e) := by
  apply List.ext_getElem?
  intro i
  by_cases h : i = k
  · subst h
    rw [List.getElem?_set_self (by rw [fw_len]; exact hk), fw_get hk]
    simp [va_up]
  · rw [List.getElem?_set_ne (Ne.symm h)]
    by_cases hi : i < n
    · rw [fw_get hi, fw_get hi]; simp [va_up, h]
    · rw [fw_out hi, fw_out hi]
theorem fw_push {n : Nat} {ad : Nat → Nat} {w : Nat → va_E} {q : Nat} {e : va_E} : fw n ad w ++ [(q, e)] = fw (n + 1) (va_up ad n q) (va_up w n e) := by
  apply List.ext_getElem?
  intro i
  by_cases hi : i < n
  · rw [List.getElem?_append_left (by rw [fw_len]; exact hi), fw_get hi, fw_get (by omega)]
    have : i ≠ n := by omega
    simp [va_up, this]
  · by_cases h2 : i = n
    · subst h2
      rw [List.getElem?_append_right (by rw [fw_len]; omega), fw_len, fw_get (by omega)]
      simp [va_up]
    · rw [fw_out (by omega), List.getElem?_eq_none]
      rw [List.length_append, fw_len]
      have : i ≠ n := h2
      simp only [List.length_cons, List.length_nil]
      omega
theorem fw_congr {n : Nat} {ad : Nat → Nat} {w w' : Nat → va_E} (h : ∀ k, k < n → w k = w' k) : fw n ad w = fw n ad w' := by
  apply List.ext_getElem?
  intro i
  by_cases hi : i < n
  · rw [fw_get hi, fw_get hi, h i hi]
  · rw [fw_out hi, fw_out hi]
/-- the addresses are apart, and of a kind -/
def fD (A : Nat → Prop) (n : Nat) (ad : Nat → Nat) : Prop := (∀ i j, i < n → j < n → ad i = ad j → i = j) ∧ ∀ k, k < n → A (ad k)
theorem fD.to {A : Nat → Prop} {n : Nat} {ad : Nat → Nat} {w : Nat → va_E} (h : fD A n ad) : va_D A (fw n ad w) := by
  refine ⟨fun i j p q hi hj hpq => ?_, fun k q hk => ?_⟩
  · obtain ⟨h1, rfl⟩ := fw_of hi
    obtain ⟨h2, rfl⟩ := fw_of hj
    exact h.1 i j h1 h2 hpq
  · obtain ⟨h1, rfl⟩ := fw_of hk
    exact h.2 k h1
theorem fD.of {A : Nat → Prop} {n : Nat} {ad : Nat → Nat} {w : Nat → va_E} (h : va_D A (fw n ad w)) : fD A n ad :=
  ⟨fun i j hi hj hij => h.1 i j _ _ (fw_get hi) (fw_get hj) hij, fun k hk => h.2 k _ (fw_get hk)⟩
/-! LOCALS by their numbers; a newer entry hides an older one -/
def lk : List (Nat × Value) → Nat → Option Value
  | [], _ => none
  | q :: r, i => bif Nat.beq q.1 i then some q.2 else lk r i
theorem lk_mem {lv : List (Nat × Value)} {i : Nat} {v : Value} (h : lk lv i = some v) : (i, v) ∈ lv := by
  induction lv with
  | nil => cases h
  | cons q r ih =>
    unfold lk at h
    cases hb : Nat.beq q.1 i with
    | true =>
      rw [hb] at h
      have e : q.1 = i := Nat.eq_of_beq_eq_true hb
      have h2 : q.2 = v := Option.some.inj h
      subst e; subst h2
      exact List.mem_cons_self
    | false =>
      rw [hb] at h
      exact List.mem_cons_of_mem _ (ih h)
theorem lk_ne {lv : List (Nat × Value)} {i j : Nat} {v w : Value} (hij : i ≠ j) (h : lk ((i, v) :: lv) j = some w) : lk lv j = some w := by
  unfold lk at h
  cases hb : Nat.beq i j with
  | true => exact absurd (Nat.eq_of_beq_eq_true hb) hij
  | false => rw [show Nat.beq (i, v).1 j = false from hb] at h; exact h
theorem lk_eq {lv : List (Nat × Value)} {i : Nat} {v w : Value} (h : lk ((i, v) :: lv) i = some w) : w = v := by
  unfold lk at h
  rw [show Nat.beq (i, v).1 i = true from Nat.beq_refl i] at h
  exact (Option.some.inj h).symm
def lh (ls : Array Slot) (nL : Nat) (lv : List (Nat × Value)) : Prop := ls.size = nL ∧ lv_wf ls ∧ ∀ i v, lk lv i = some v → ls[i]? = some (.val v) ∧ v.category = 1
theorem lh.at {ls : Array Slot} {nL : Nat} {lv : List (Nat × Value)} (h : lh ls nL lv) {i : Nat} {v : Value} (hk : lk lv i = some v) : ls[i]? = some (.val v) := (h.2.2 i v hk).1
theorem lh.store {ls : Array Slot} {nL : Nat} {lv : List (Nat × Value)} {i : Nat} {v : Value} (h : lh ls nL lv) (hi : i < nL) (hc : v.category = 1) : ∃ ls', storeLocals ls i v = some ls' ∧ lh ls' nL ((i, v) :: lv) := by
  obtain ⟨ls', e', h'⟩ := lv_store1 (l := []) (v := v) ⟨h.1, h.2.1, fun q hq => by cases hq⟩ hi hc
  refine ⟨ls', e', h'.1, h'.2.1, fun j u hj => ?_⟩
  by_cases hij : i = j
  · subst hij
    rw [lk_eq hj]
    exact ⟨h'.2.2 (i, v) List.mem_cons_self, hc⟩
  · have hj' := lk_ne hij hj
    obtain ⟨g1, g2⟩ := h.2.2 j u hj'
    obtain ⟨ls2, e2, h2⟩ := lv_store1 (l := [(j, u)]) (v := v) ⟨h.1, h.2.1, fun q hq => by rw [List.mem_singleton.mp hq]; exact g1⟩ hi hc
    have : ls2 = ls' := Option.some.inj (e2.symm.trans e')
    subst this
    refine ⟨h2.2.2 (j, u) (List.mem_cons_of_mem _ (List.mem_filter.mpr ⟨List.mem_singleton.mpr rfl, ?_⟩)), g2⟩
    have hn : (j == i) = false := by simp; exact fun q => hij q.symm
    simp [hn, g2]
def lsub (lv : List (Nat × Value)) : List (Nat × Value) → Prop
  | [] => True
  | q :: r => lk lv q.1 = some q.2 ∧ lsub lv r
theorem lsub_mem {lv lv' : List (Nat × Value)} (h : lsub lv lv') : ∀ q ∈ lv', lk lv q.1 = some q.2 := by
  induction lv' with
  | nil => intro q hq; cases hq
  | cons a r ih =>
    intro q hq
    rcases List.mem_cons.mp hq with rfl | hq
    · exact h.1
    · exact ih h.2 q hq
theorem lh.sub {ls : Array Slot} {nL : Nat} {lv lv' : List (Nat × Value)} (h : lh ls nL lv) (hs : lsub lv lv') : lh ls nL lv' := ⟨h.1, h.2.1, fun i v hk => h.2.2 i v (lsub_mem hs (i, v) (lk_mem hk))⟩
theorem lh.entry (vs : List Value) {n : Nat} (h : (lg_sl vs).length ≤ n) (hc : ∀ v ∈ vs, v.category = 1) : lh ((lg_sl vs ++ List.replicate (n - (lg_sl vs).length) Slot.unset).toArray) n (lv_args 0 vs) := by
  have h0 := lv_entry vs h
  refine ⟨h0.1, h0.2.1, fun i v hk => ⟨h0.2.2 (i, v) (lk_mem hk), ?_⟩⟩
  have key : ∀ (vs : List Value) (k : Nat), (∀ v ∈ vs, v.category = 1) → ∀ q ∈ lv_args k vs, q.2.category = 1 := by
    intro vs
    induction vs with
    | nil => intro k _ q hq; simp [lv_args] at hq
    | cons a r ih =>
      intro k hc q hq
      simp only [lv_args, List.mem_cons] at hq
      rcases hq with rfl | hq
      · exact hc _ List.mem_cons_self
      · exact ih _ (fun v hv => hc v (List.mem_cons_of_mem _ hv)) q hq
  exact key vs 0 hc (i, v) (lk_mem hk)
/-! THE WORDS OF NEST MATES -/
def isN : Cond → Bool
  | .fieldLinkNest .. => true
  | .methodLinkNest .. => true
  | _ => false
def nw : List Cond := tables_1.filter isN
theorem nw_of {w : Cond} (i : Nat) (h : tables_1[i]? = some w) (hg : isN w = true) : w ∈ nw := List.mem_filter.mpr ⟨List.mem_of_getElem? h, hg⟩
theorem nw_warm {s U : State} (hW : s.WarmedH U.vm) (h : ∀ w ∈ nw, va_Nw w s) : ∀ w ∈ nw, va_Nw w U := by
  intro w hw
  have hn := (List.mem_filter.mp hw).2
  have hz := h w hw
  cases w <;> first | exact va_Nw.warmF hW hz | exact va_Nw.warmM hW hz | cases hn
theorem nw_same {s U : State} (e : s.vm = U.vm) (h : ∀ w ∈ nw, va_Nw w s) : ∀ w ∈ nw, va_Nw w U := by
  intro w hw
  have hn := (List.mem_filter.mp hw).2
  have hz := h w hw
  cases w <;> first | exact va_Nw.same rfl e hz | cases hn
/-- array classes: 0 int, 1 Text, 2 Block, 3 Program, 4 Frame, 5 long -/
abbrev tyl (aC : Nat → ClassId) : List (ClassId × FieldType) := [(aC 0, .int), (aC 1, .object R_Tx), (aC 2, .object R_Bl), (aC 3, .object R_Pr), (aC 4, .object R_Fr), (aC 5, .long)]
/-- what stays the same all through a method -/
def Cx (p : Program) (s : State) (m : MethodId) (c : Code) (args : Array Value) (cc : ByteArray) (own : String) (D : va_G) (aC : Nat → ClassId) (A : Nat → Prop) (n : Nat) (ad : Nat → Nat) : Prop :=
  p.tables.exec = Jvm.exec ∧ c.code = cc ∧ s.vm.findClass own = some m.cls ∧ (∀ w ∈ gw, w.before args s = true) ∧ (∀ w ∈ nw, va_Nw w s) ∧ va_K D classes (tyl aC) s ∧ fD A n ad
/-- THE JUDGEMENT: from every heap that holds the world, and every frame whose locals are lv, the machine comes to Q -/
def J (p : Program) (l : Launch) (e : Env) (R : Room) (s : State) (m : MethodId) (args : Array Value) (below : List Frame) (meth : Method) (c : Code) (D : va_G) (A : Nat → Prop) (cells slots : Nat) (Q : State → Prop) (n : Nat) (ad : Nat → Nat) (w : Nat → va_E) (nL pc : Nat) (lv : List (Nat × Value)) (st : List Value) : Prop :=
  ∀ (H : Heap) (locs : List Loc) (ls : Array Slot), va_P D classes (fw n ad w) H → va_S A s.heap H locs → lh ls nL lv → W p l e R s m args below meth c H locs cells slots Q (F0 m pc ls st)
/-! TYPED MEMORY: objects' ints by (cell, field), arrays' ints by (cell, place); references are the shape's -/
abbrev tm_K : Type := Nat × Nat × Nat
abbrev tm_M : Type := (tm_K → Nat → Int32) × (tm_K → Nat → Int32)
abbrev tm_Sh : Type := (Nat × List (Option Nat)) ⊕ (Nat ⊕ (Nat × Nat × (Nat → Nat)))
def tm_fs (ad : Nat → Nat) (iv : Nat → Int32) : Nat → List (Option Nat) → List Value
  | _, [] => []
  | j, q :: r => (match q with | none => .int (iv j) | some o => .ref (ad o)) :: tm_fs ad iv (j + 1) r
theorem tm_fs_i {ad : Nat → Nat} {iv : Nat → Int32} : ∀ (fl : List (Option Nat)) (j i : Nat), fl[i]? = some none → (tm_fs ad iv j fl)[i]? = some (.int (iv (j + i)))
  | [], _, _, h => by simp at h
  | q :: r, j, 0, h => by
    simp at h; subst h; simp [tm_fs]
  | q :: r, j, i + 1, h => by
    have := tm_fs_i (ad := ad) (iv := iv) r (j + 1) i (by simpa using h)
    simp only [tm_fs, List.getElem?_cons_succ]
    rw [this]
    congr 3
    omega
theorem tm_fs_r {ad : Nat → Nat} {iv : Nat → Int32} {o : Nat} : ∀ (fl : List (Option Nat)) (j i : Nat), fl[i]? = some (some o) → (tm_fs ad iv j fl)[i]? = some (.ref (ad o))
  | [], _, _, h => by simp at h
  | q :: r, j, 0, h => by
    simp at h; subst h; simp [tm_fs]
  | q :: r, j, i + 1, h => by
    simp only [tm_fs, List.getElem?_cons_succ]
    exact tm_fs_r r (j + 1) i (by simpa using h)
theorem tm_fs_len {ad : Nat → Nat} {iv : Nat → Int32} : ∀ (fl : List (Option Nat)) (j : Nat), (tm_fs ad iv j fl).length = fl.length
  | [], _ => rfl
  | q :: r, j => by simp [tm_fs, tm_fs_len r (j + 1)]
theorem tm_fs_eq {ad : Nat → Nat} {iv iv' : Nat → Int32} : ∀ (fl : List (Option Nat)) (j : Nat), (∀ i, j ≤ i → iv i = iv' i) → tm_fs ad iv j fl = tm_fs ad iv' j fl
  | [], _, _ => rfl
  | q :: r, j, h => by
    simp only [tm_fs]
    rw [tm_fs_eq r (j + 1) (fun i hi => h i (by omega)), h j (Nat.le_refl j)]
theorem tm_fs_set {ad : Nat → Nat} {v : Int32} : ∀ (fl : List (Option Nat)) (iv : Nat → Int32) (j i : Nat), fl[i]? = some none → (tm_fs ad iv j fl).set i (.int v) = tm_fs ad (upd iv (j + i) v) j fl
  | [], _, _, _, h => by simp at h
  | q :: r, iv, j, 0, h => by
    simp at h; subst h
    simp only [tm_fs, List.set_cons_zero, Nat.add_zero]
    rw [tm_fs_eq r (j + 1) (iv := iv) (iv' := upd iv j v) (fun i hi => by unfold upd; rw [if_neg (by omega)])]
    simp [upd]
  | q :: r, iv, j, i + 1, h => by
    simp only [tm_fs, List.set_cons_succ]
    rw [tm_fs_set r iv (j + 1) i (by simpa using h)]
    have e1 : j + 1 + i = j + (i + 1) := by omega
    rw [e1]
    have e2 : upd iv (j + (i + 1)) v j = iv j := by unfold upd; rw [if_neg (by omega)]
    rw [e2]
def tm_cell (ad : Nat → Nat) (aC : Nat → ClassId) (x : tm_M) (K : tm_K) : tm_Sh → va_E
  | .inl q => .inr (q.1, tm_fs ad (x.1 K) 0 q.2)
  | .inr (.inl N) => .inl (aC 0, N, .inl (x.2 K))
  | .inr (.inr q) => .inl (aC q.1, q.2.1, .inr (.inr (.inr (.inr (fun i => some (ad (q.2.2 i)))))))
/-- the world of a typed memory: cell k has the shape sh k, its numbers stand in the memory under the key ky k -/
def tw (ad : Nat → Nat) (aC : Nat → ClassId) (sh : Nat → tm_Sh) (ky : Nat → tm_K) (x : tm_M) : Nat → va_E := fun k => tm_cell ad aC x (ky k) (sh k)
/-- a field is set; a place of an array is set -/
def sI (x : tm_M) (K : tm_K) (j : Nat) (v : Int32) : tm_M := (fun K' => if K' = K then upd (x.1 K') j v else x.1 K', x.2)
def sA (x : tm_M) (K : tm_K) (i : Nat) (v : Int32) : tm_M := (x.1, fun K' => if K' = K then upd (x.2 K') i v else x.2 K')
theorem tw_sI {ad : Nat → Nat} {aC : Nat → ClassId} {sh : Nat → tm_Sh} {ky : Nat → tm_K} {x : tm_M} {k j ci : Nat} {fl : List (Option Nat)} {v : Int32} (hky : ∀ a b, ky a = ky b → a = b) (hs : sh k = .inl (ci, fl)) (hj : fl[j]? = some none) : va_up (tw ad aC sh ky x) k (.inr (ci, (tm_fs ad (x.1 (ky k)) 0 fl).set j (.int v))) = tw ad aC sh ky (sI x (ky k) j v) := by
  funext q
  by_cases h : q = k
  · subst h
    simp only [va_up, if_true, tw, hs, tm_cell, sI]
    rw [tm_fs_set fl _ 0 j hj, Nat.zero_add]
  · have h' : ¬ ky q = ky k := fun e => h (hky q k e)
    simp only [va_up, if_neg h, tw, sI]
    cases hq : sh q with
    | inl z => simp [tm_cell, h']
    | inr z => cases z <;> simp [tm_cell]
theorem tw_sA {ad : Nat → Nat} {aC : Nat → ClassId} {sh : Nat → tm_Sh} {ky : Nat → tm_K} {x : tm_M} {k i N : Nat} {v : Int32} (hky : ∀ a b, ky a = ky b → a = b) (hs : sh k = .inr (.inl N)) : va_up (tw ad aC sh ky x) k (.inl (aC 0, N, .inl (upd (x.2 (ky k)) i v))) = tw ad aC sh ky (sA x (ky k) i v) := by
  funext q
  by_cases h : q = k
  · subst h
    simp [va_up, tw, hs, tm_cell, sA]
  · have h' : ¬ ky q = ky k := fun e => h (hky q k e)
    simp only [va_up, if_neg h, tw, sA]
    cases hq : sh q with
    | inl z => simp [tm_cell]
    | inr z => cases z <;> simp [tm_cell, h']
/-- a link to a field: class number ci, field j -/
def FL (own : String) (index ci j : Nat) : Prop := ∃ (C : String) (T : u_T) (N : Nat) (ty : Nat → FieldType), classes[ci]? = some (C, T, N) ∧ j < N ∧ (∀ w ∈ u_ws C T N, w ∈ gw) ∧ (∀ k, k < N → parseFieldDescriptor (T k).2.2.1 = some (ty k)) ∧ (∀ a, a < N → ∀ b, b < N → a ≠ b → (T a).2.1 ≠ (T b).2.1) ∧
  (Cond.fieldLink own index (T j).1 (T j).2.1 (T j).2.2.1 ∈ gw ∨ ∃ host : String, Cond.fieldLinkNest own index (T j).1 (T j).2.1 (T j).2.2.1 host ∈ nw)
/-- .. to a field of ints that may be set -/
def FLs (own : String) (index ci j : Nat) : Prop := FL own index ci j ∧ ∃ q, classes[ci]? = some q ∧ (q.2.1 j).2.2.2 = false ∧ parseFieldDescriptor (q.2.1 j).2.2.1 = some .int
section RW
variable {p : Program} {l : Launch} {e : Env} {R : Room} {s : State} {m : MethodId} {args : Array Value} {below : List Frame} {meth : Method} {c : Code} {D : va_G} {A : Nat → Prop} {cells slots : Nat} {Q : State → Prop} {n : Nat} {ad : Nat → Nat} {w : Nat → va_E} {nL : Nat}
variable {cc : ByteArray} {own : String} {aC : Nat → ClassId} {pc : Nat} {lv : List (Nat × Value)} {st : List Value} {sh : Nat → tm_Sh} {ky : Nat → tm_K} {x : tm_M} {K : tm_K}
theorem j_iconst (B : Cx p s m c args cc own D aC A n ad) {k : Int} {v : Int32} (hdg : decode cc pc = .ok (.iconst k, 1)) (hv : Int32.ofInt k = v)
    (kk : J p l e R s m args below meth c D A cells slots Q n ad w nL (pc + 1) lv (.int v :: st)) : J p l e R s m args below meth c D A cells slots Q n ad w nL pc lv st :=
  fun H locs ls hP hS hl => lv_iconst B.1 B.2.1 hdg hv (kk H locs ls hP hS hl)
theorem j_bipush (B : Cx p s m c args cc own D aC A n ad) {k : Int} {v : Int32} (hdg : decode cc pc = .ok (.bipush k, 2)) (hv : (Int8.ofInt k).toInt32 = v)
    (kk : J p l e R s m args below meth c D A cells slots Q n ad w nL (pc + 2) lv (.int v :: st)) : J p l e R s m args below meth c D A cells slots Q n ad w nL pc lv st :=
  fun H locs ls hP hS hl => lv_bipush B.1 B.2.1 hdg hv (kk H locs ls hP hS hl)
theorem j_sipush (B : Cx p s m c args cc own D aC A n ad) {k : Int} {v : Int32} (hdg : decode cc pc = .ok (.sipush k, 3)) (hv : (Int16.ofInt k).toInt32 = v)
    (kk : J p l e R s m args below meth c D A cells slots Q n ad w nL (pc + 3) lv (.int v :: st)) : J p l e R s m args below meth c D A cells slots Q n ad w nL pc lv st :=
  fun H locs ls hP hS hl => lv_sipush B.1 B.2.1 hdg hv (kk H locs ls hP hS hl)
theorem j_iloadn (B : Cx p s m c args cc own D aC A n ad) {k : Fin 4} {v : Int32} (hdg : decode cc pc = .ok (.iload_n k, 1)) (hv : lk lv k = some (.int v))
    (kk : J p l e R s m args below meth c D A cells slots Q n ad w nL (pc + 1) lv (.int v :: st)) : J p l e R s m args below meth c D A cells slots Q n ad w nL pc lv st :=
  fun H locs ls hP hS hl => lv_iload_n B.1 B.2.1 hdg rfl (hl.at hv) (kk H locs ls hP hS hl)
theorem j_iload (B : Cx p s m c args cc own D aC A n ad) {k : Nat} {v : Int32} (hdg : decode cc pc = .ok (.iload k, 2)) (hv : lk lv k = some (.int v))
    (kk : J p l e R s m args below meth c D A cells slots Q n ad w nL (pc + 2) lv (.int v :: st)) : J p l e R s m args below meth c D A cells slots Q n ad w nL pc lv st :=
  fun H locs ls hP hS hl => lv_iload B.1 B.2.1 hdg (hl.at hv) (kk H locs ls hP hS hl)
theorem j_aloadn (B : Cx p s m c args cc own D aC A n ad) {k : Fin 4} {v : Nat} (hdg : decode cc pc = .ok (.aload_n k, 1)) (hv : lk lv k = some (.ref v))
    (kk : J p l e R s m args below meth c D A cells slots Q n ad w nL (pc + 1) lv (.ref v :: st)) : J p l e R s m args below meth c D A cells slots Q n ad w nL pc lv st :=
  fun H locs ls hP hS hl => lv_aload_n B.1 B.2.1 hdg rfl (hl.at hv) (kk H locs ls hP hS hl)
theorem j_aload (B : Cx p s m c args cc own D aC A n ad) {k : Nat} {v : Nat} (hdg : decode cc pc = .ok (.aload k, 2)) (hv : lk lv k = some (.ref v))
    (kk : J p l e R s m args below meth c D A cells slots Q n ad w nL (pc + 2) lv (.ref v :: st)) : J p l e R s m args below meth c D A cells slots Q n ad w nL pc lv st :=
  fun H locs ls hP hS hl => lv_aload B.1 B.2.1 hdg (hl.at hv) (kk H locs ls hP hS hl)
theorem j_iadd (B : Cx p s m c args cc own D aC A n ad) {x y : Int32} (hdg : decode cc pc = .ok (.iadd, 1))
    (kk : J p l e R s m args below meth c D A cells slots Q n ad w nL (pc + 1) lv (.int (x + y) :: st)) : J p l e R s m args below meth c D A cells slots Q n ad w nL pc lv (.int y :: .int x :: st) :=
  fun H locs ls hP hS hl => lv_iadd B.1 B.2.1 hdg (kk H locs ls hP hS hl)
theorem j_isub (B : Cx p s m c args cc own D aC A n ad) {x y : Int32} (hdg : decode cc pc = .ok (.isub, 1))
    (kk : J p l e R s m args below meth c D A cells slots Q n ad w nL (pc + 1) lv (.int (x - y) :: st)) : J p l e R s m args below meth c D A cells slots Q n ad w nL pc lv (.int y :: .int x :: st) :=
  fun H locs ls hP hS hl => lv_isub B.1 B.2.1 hdg (kk H locs ls hP hS hl)
theorem j_imul (B : Cx p s m c args cc own D aC A n ad) {x y : Int32} (hdg : decode cc pc = .ok (.imul, 1))
    (kk : J p l e R s m args below meth c D A cells slots Q n ad w nL (pc + 1) lv (.int (x * y) :: st)) : J p l e R s m args below meth c D A cells slots Q n ad w nL pc lv (.int y :: .int x :: st) :=
  fun H locs ls hP hS hl => lv_imul B.1 B.2.1 hdg (kk H locs ls hP hS hl)
theorem j_iand (B : Cx p s m c args cc own D aC A n ad) {x y : Int32} (hdg : decode cc pc = .ok (.iand, 1))
    (kk : J p l e R s m args below meth c D A cells slots Q n ad w nL (pc + 1) lv (.int (x &&& y) :: st)) : J p l e R s m args below meth c D A cells slots Q n ad w nL pc lv (.int y :: .int x :: st) :=
  fun H locs ls hP hS hl => lv_iand B.1 B.2.1 hdg (kk H locs ls hP hS hl)
theorem j_ineg (B : Cx p s m c args cc own D aC A n ad) {x : Int32} (hdg : decode cc pc = .ok (.ineg, 1))
    (kk : J p l e R s m args below meth c D A cells slots Q n ad w nL (pc + 1) lv (.int (-x) :: st)) : J p l e R s m args below meth c D A cells slots Q n ad w nL pc lv (.int x :: st) :=
  fun H locs ls hP hS hl => lv_ineg B.1 B.2.1 hdg (kk H locs ls hP hS hl)
theorem j_dup (B : Cx p s m c args cc own D aC A n ad) {va : Value} (hdg : decode cc pc = .ok (.dup, 1)) (h1 : va.category = 1)
    (kk : J p l e R s m args below meth c D A cells slots Q n ad w nL (pc + 1) lv (va :: va :: st)) : J p l e R s m args below meth c D A cells slots Q n ad w nL pc lv (va :: st) :=
  fun H locs ls hP hS hl => lv_dup B.1 B.2.1 hdg h1 (kk H locs ls hP hS hl)
theorem j_pop (B : Cx p s m c args cc own D aC A n ad) {va : Value} (hdg : decode cc pc = .ok (.pop, 1)) (h1 : va.category = 1)
    (kk : J p l e R s m args below meth c D A cells slots Q n ad w nL (pc + 1) lv st) : J p l e R s m args below meth c D A cells slots Q n ad w nL pc lv (va :: st) :=
  fun H locs ls hP hS hl => lv_pop B.1 B.2.1 hdg h1 (kk H locs ls hP hS hl)
theorem j_dup2 (B : Cx p s m c args cc own D aC A n ad) {va vb : Value} (hdg : decode cc pc = .ok (.dup2, 1)) (h1 : va.category = 1) (h2 : vb.category = 1)
    (kk : J p l e R s m args below meth c D A cells slots Q n ad w nL (pc + 1) lv (va :: vb :: va :: vb :: st)) : J p l e R s m args below meth c D A cells slots Q n ad w nL pc lv (va :: vb :: st) :=
  fun H locs ls hP hS hl => lv_dup2_11 B.1 B.2.1 hdg h1 h2 (kk H locs ls hP hS hl)
theorem j_i2l (B : Cx p s m c args cc own D aC A n ad) {x : Int32} (hdg : decode cc pc = .ok (.i2l, 1))
    (kk : J p l e R s m args below meth c D A cells slots Q n ad w nL (pc + 1) lv (.long x.toInt64 :: st)) : J p l e R s m args below meth c D A cells slots Q n ad w nL pc lv (.int x :: st) :=
  fun H locs ls hP hS hl => lv_i2l B.1 B.2.1 hdg rfl (kk H locs ls hP hS hl)
theorem j_lcmp (B : Cx p s m c args cc own D aC A n ad) {x y : Int64} (hdg : decode cc pc = .ok (.lcmp, 1))
    (kk : J p l e R s m args below meth c D A cells slots Q n ad w nL (pc + 1) lv (.int (lg_cmp x y) :: st)) : J p l e R s m args below meth c D A cells slots Q n ad w nL pc lv (.long y :: .long x :: st) :=
  fun H locs ls hP hS hl => W.lcmp B.1 B.2.1 hdg (kk H locs ls hP hS hl)
theorem j_goto (B : Cx p s m c args cc own D aC A n ad) {off : Int} {tgt : Nat} (hdg : decode cc pc = .ok (.goto off, 3)) (ht : (pc : Int) + off = (tgt : Int))
    (kk : J p l e R s m args below meth c D A cells slots Q n ad w nL tgt lv st) : J p l e R s m args below meth c D A cells slots Q n ad w nL pc lv st :=
  fun H locs ls hP hS hl => lv_goto B.1 B.2.1 hdg ht (kk H locs ls hP hS hl)
theorem j_istoren (B : Cx p s m c args cc own D aC A n ad) {k : Fin 4} {v : Int32} (hdg : decode cc pc = .ok (.istore_n k, 1)) (hn : (k : Nat) < nL)
    (kk : J p l e R s m args below meth c D A cells slots Q n ad w nL (pc + 1) (((k : Nat), .int v) :: lv) st) : J p l e R s m args below meth c D A cells slots Q n ad w nL pc lv (.int v :: st) := by
  intro H locs ls hP hS hl
  have hexec := B.1
  have hb := B.2.1
  obtain ⟨ls', e', h'⟩ := hl.store (v := .int v) hn rfl
  intro T hT X
  obtain ⟨t, a, b⟩ := kk H locs ls' hP hS h' T hT X
  refine ⟨t, ?_, b⟩
  jvm_step X.here [X.here.top, ↓top_set X.here.top, hexec, hb, hdg, e', Value.isRef]
  exact a
theorem j_istore (B : Cx p s m c args cc own D aC A n ad) {k : Nat} {v : Int32} (hdg : decode cc pc = .ok (.istore k, 2)) (hn : (k : Nat) < nL)
    (kk : J p l e R s m args below meth c D A cells slots Q n ad w nL (pc + 2) (((k : Nat), .int v) :: lv) st) : J p l e R s m args below meth c D A cells slots Q n ad w nL pc lv (.int v :: st) := by
  intro H locs ls hP hS hl
  have hexec := B.1
  have hb := B.2.1
  obtain ⟨ls', e', h'⟩ := hl.store (v := .int v) hn rfl
  intro T hT X
  obtain ⟨t, a, b⟩ := kk H locs ls' hP hS h' T hT X
  refine ⟨t, ?_, b⟩
  jvm_step X.here [X.here.top, ↓top_set X.here.top, hexec, hb, hdg, e', Value.isRef]
  exact a
theorem j_astoren (B : Cx p s m c args cc own D aC A n ad) {k : Fin 4} {v : Nat} (hdg : decode cc pc = .ok (.astore_n k, 1)) (hn : (k : Nat) < nL)
    (kk : J p l e R s m args below meth c D A cells slots Q n ad w nL (pc + 1) (((k : Nat), .ref v) :: lv) st) : J p l e R s m args below meth c D A cells slots Q n ad w nL pc lv (.ref v :: st) := by
  intro H locs ls hP hS hl
  have hexec := B.1
  have hb := B.2.1
  obtain ⟨ls', e', h'⟩ := hl.store (v := .ref v) hn rfl
  intro T hT X
  obtain ⟨t, a, b⟩ := kk H locs ls' hP hS h' T hT X
  refine ⟨t, ?_, b⟩
  jvm_step X.here [X.here.top, ↓top_set X.here.top, hexec, hb, hdg, e', Value.isRef]
  exact a
theorem j_astore (B : Cx p s m c args cc own D aC A n ad) {k : Nat} {v : Nat} (hdg : decode cc pc = .ok (.astore k, 2)) (hn : (k : Nat) < nL)
    (kk : J p l e R s m args below meth c D A cells slots Q n ad w nL (pc + 2) (((k : Nat), .ref v) :: lv) st) : J p l e R s m args below meth c D A cells slots Q n ad w nL pc lv (.ref v :: st) := by
  intro H locs ls hP hS hl
  have hexec := B.1
  have hb := B.2.1
  obtain ⟨ls', e', h'⟩ := hl.store (v := .ref v) hn rfl
  intro T hT X
  obtain ⟨t, a, b⟩ := kk H locs ls' hP hS h' T hT X
  refine ⟨t, ?_, b⟩
  jvm_step X.here [X.here.top, ↓top_set X.here.top, hexec, hb, hdg, e', Value.isRef]
  exact a
theorem j_iinc (B : Cx p s m c args cc own D aC A n ad) {k : Nat} {i : Int} {v v' : Int32} (hdg : decode cc pc = .ok (.iinc k i, 3)) (hv : lk lv k = some (.int v)) (hn : k < nL) (hv' : v + Int32.ofInt i = v')
    (kk : J p l e R s m args below meth c D A cells slots Q n ad w nL (pc + 3) ((k, .int v') :: lv) st) : J p l e R s m args below meth c D A cells slots Q n ad w nL pc lv st := by
  subst hv'
  intro H locs ls hP hS hl
  have hexec := B.1
  have hb := B.2.1
  have hg := hl.at hv
  obtain ⟨ls', e', h'⟩ := hl.store (v := .int (v + Int32.ofInt i)) hn rfl
  intro T hT X
  obtain ⟨t, a, b⟩ := kk H locs ls' hP hS h' T hT X
  refine ⟨t, ?_, b⟩
  jvm_step X.here [X.here.top, ↓top_set X.here.top, hexec, hb, hdg, hg, e']
  exact a
theorem j_loc (lv' : List (Nat × Value)) (h : lsub lv lv') (kk : J p l e R s m args below meth c D A cells slots Q n ad w nL pc lv' st) : J p l e R s m args below meth c D A cells slots Q n ad w nL pc lv st := fun H locs ls hP hS hl => kk H locs ls hP hS (hl.sub h)
theorem j_w {w' : Nat → va_E} (h : w = w') (kk : J p l e R s m args below meth c D A cells slots Q n ad w' nL pc lv st) : J p l e R s m args below meth c D A cells slots Q n ad w nL pc lv st := h ▸ kk
theorem j_if_eq (B : Cx p s m c args cc own D aC A n ad) {x : Int32} {off : Int} {tgt : Nat} (hdg : decode cc pc = .ok (.ifCond .eq off, 3)) (ht : (pc : Int) + off = (tgt : Int))
    (kt : x = 0 → J p l e R s m args below meth c D A cells slots Q n ad w nL tgt lv st) (kf : ¬ x = 0 → J p l e R s m args below meth c D A cells slots Q n ad w nL (pc + 3) lv st) : J p l e R s m args below meth c D A cells slots Q n ad w nL pc lv (.int x :: st) :=
  fun H locs ls hP hS hl => lv_if_eq B.1 B.2.1 hdg ht (fun h => kt h H locs ls hP hS hl) (fun h => kf h H locs ls hP hS hl)
theorem j_icmp_eq (B : Cx p s m c args cc own D aC A n ad) {x y : Int32} {off : Int} {tgt : Nat} (hdg : decode cc pc = .ok (.if_icmp .eq off, 3)) (ht : (pc : Int) + off = (tgt : Int))
    (kt : x = y → J p l e R s m args below meth c D A cells slots Q n ad w nL tgt lv st) (kf : ¬ x = y → J p l e R s m args below meth c D A cells slots Q n ad w nL (pc + 3) lv st) : J p l e R s m args below meth c D A cells slots Q n ad w nL pc lv (.int y :: .int x :: st) :=
  fun H locs ls hP hS hl => lv_icmp_eq B.1 B.2.1 hdg ht (fun h => kt h H locs ls hP hS hl) (fun h => kf h H locs ls hP hS hl)
theorem j_if_ne (B : Cx p s m c args cc own D aC A n ad) {x : Int32} {off : Int} {tgt : Nat} (hdg : decode cc pc = .ok (.ifCond .ne off, 3)) (ht : (pc : Int) + off = (tgt : Int))
    (kt : ¬ x = 0 → J p l e R s m args below meth c D A cells slots Q n ad w nL tgt lv st) (kf : x = 0 → J p l e R s m args below meth c D A cells slots Q n ad w nL (pc + 3) lv st) : J p l e R s m args below meth c D A cells slots Q n ad w nL pc lv (.int x :: st) :=
  fun H locs ls hP hS hl => lv_if_ne B.1 B.2.1 hdg ht (fun h => kt h H locs ls hP hS hl) (fun h => kf h H locs ls hP hS hl)
theorem j_icmp_ne (B : Cx p s m c args cc own D aC A n ad) {x y : Int32} {off : Int} {tgt : Nat} (hdg : decode cc pc = .ok (.if_icmp .ne off, 3)) (ht : (pc : Int) + off = (tgt : Int))
    (kt : ¬ x = y → J p l e R s m args below meth c D A cells slots Q n ad w nL tgt lv st) (kf : x = y → J p l e R s m args below meth c D A cells slots Q n ad w nL (pc + 3) lv st) : J p l e R s m args below meth c D A cells slots Q n ad w nL pc lv (.int y :: .int x :: st) :=
  fun H locs ls hP hS hl => lv_icmp_ne B.1 B.2.1 hdg ht (fun h => kt h H locs ls hP hS hl) (fun h => kf h H locs ls hP hS hl)
theorem j_if_lt (B : Cx p s m c args cc own D aC A n ad) {x : Int32} {off : Int} {tgt : Nat} (hdg : decode cc pc = .ok (.ifCond .lt off, 3)) (ht : (pc : Int) + off = (tgt : Int))
    (kt : x < 0 → J p l e R s m args below meth c D A cells slots Q n ad w nL tgt lv st) (kf : ¬ x < 0 → J p l e R s m args below meth c D A cells slots Q n ad w nL (pc + 3) lv st) : J p l e R s m args below meth c D A cells slots Q n ad w nL pc lv (.int x :: st) :=
  fun H locs ls hP hS hl => lv_if_lt B.1 B.2.1 hdg ht (fun h => kt h H locs ls hP hS hl) (fun h => kf h H locs ls hP hS hl)
theorem j_icmp_lt (B : Cx p s m c args cc own D aC A n ad) {x y : Int32} {off : Int} {tgt : Nat} (hdg : decode cc pc = .ok (.if_icmp .lt off, 3)) (ht : (pc : Int) + off = (tgt : Int))
    (kt : x < y → J p l e R s m args below meth c D A cells slots Q n ad w nL tgt lv st) (kf : ¬ x < y → J p l e R s m args below meth c D A cells slots Q n ad w nL (pc + 3) lv st) : J p l e R s m args below meth c D A cells slots Q n ad w nL pc lv (.int y :: .int x :: st) :=
  fun H locs ls hP hS hl => lv_icmp_lt B.1 B.2.1 hdg ht (fun h => kt h H locs ls hP hS hl) (fun h => kf h H locs ls hP hS hl)
theorem j_if_ge (B : Cx p s m c args cc own D aC A n ad) {x : Int32} {off : Int} {tgt : Nat} (hdg : decode cc pc = .ok (.ifCond .ge off, 3)) (ht : (pc : Int) + off = (tgt : Int))
    (kt : 0 ≤ x → J p l e R s m args below meth c D A cells slots Q n ad w nL tgt lv st) (kf : ¬ 0 ≤ x → J p l e R s m args below meth c D A cells slots Q n ad w nL (pc + 3) lv st) : J p l e R s m args below meth c D A cells slots Q n ad w nL pc lv (.int x :: st) :=
  fun H locs ls hP hS hl => lv_if_ge B.1 B.2.1 hdg ht (fun h => kt h H locs ls hP hS hl) (fun h => kf h H locs ls hP hS hl)
theorem j_icmp_ge (B : Cx p s m c args cc own D aC A n ad) {x y : Int32} {off : Int} {tgt : Nat} (hdg : decode cc pc = .ok (.if_icmp .ge off, 3)) (ht : (pc : Int) + off = (tgt : Int))
    (kt : y ≤ x → J p l e R s m args below meth c D A cells slots Q n ad w nL tgt lv st) (kf : ¬ y ≤ x → J p l e R s m args below meth c D A cells slots Q n ad w nL (pc + 3) lv st) : J p l e R s m args below meth c D A cells slots Q n ad w nL pc lv (.int y :: .int x :: st) :=
  fun H locs ls hP hS hl => lv_icmp_ge B.1 B.2.1 hdg ht (fun h => kt h H locs ls hP hS hl) (fun h => kf h H locs ls hP hS hl)
theorem j_if_gt (B : Cx p s m c args cc own D aC A n ad) {x : Int32} {off : Int} {tgt : Nat} (hdg : decode cc pc = .ok (.ifCond .gt off, 3)) (ht : (pc : Int) + off = (tgt : Int))
    (kt : 0 < x → J p l e R s m args below meth c D A cells slots Q n ad w nL tgt lv st) (kf : ¬ 0 < x → J p l e R s m args below meth c D A cells slots Q n ad w nL (pc + 3) lv st) : J p l e R s m args below meth c D A cells slots Q n ad w nL pc lv (.int x :: st) :=
  fun H locs ls hP hS hl => lv_if_gt B.1 B.2.1 hdg ht (fun h => kt h H locs ls hP hS hl) (fun h => kf h H locs ls hP hS hl)
theorem j_icmp_gt (B : Cx p s m c args cc own D aC A n ad) {x y : Int32} {off : Int} {tgt : Nat} (hdg : decode cc pc = .ok (.if_icmp .gt off, 3)) (ht : (pc : Int) + off = (tgt : Int))
    (kt : y < x → J p l e R s m args below meth c D A cells slots Q n ad w nL tgt lv st) (kf : ¬ y < x → J p l e R s m args below meth c D A cells slots Q n ad w nL (pc + 3) lv st) : J p l e R s m args below meth c D A cells slots Q n ad w nL pc lv (.int y :: .int x :: st) :=
  fun H locs ls hP hS hl => lv_icmp_gt B.1 B.2.1 hdg ht (fun h => kt h H locs ls hP hS hl) (fun h => kf h H locs ls hP hS hl)
theorem j_if_le (B : Cx p s m c args cc own D aC A n ad) {x : Int32} {off : Int} {tgt : Nat} (hdg : decode cc pc = .ok (.ifCond .le off, 3)) (ht : (pc : Int) + off = (tgt : Int))
    (kt : x ≤ 0 → J p l e R s m args below meth c D A cells slots Q n ad w nL tgt lv st) (kf : ¬ x ≤ 0 → J p l e R s m args below meth c D A cells slots Q n ad w nL (pc + 3) lv st) : J p l e R s m args below meth c D A cells slots Q n ad w nL pc lv (.int x :: st) :=
  fun H locs ls hP hS hl => lv_if_le B.1 B.2.1 hdg ht (fun h => kt h H locs ls hP hS hl) (fun h => kf h H locs ls hP hS hl)
theorem j_icmp_le (B : Cx p s m c args cc own D aC A n ad) {x y : Int32} {off : Int} {tgt : Nat} (hdg : decode cc pc = .ok (.if_icmp .le off, 3)) (ht : (pc : Int) + off = (tgt : Int))
    (kt : x ≤ y → J p l e R s m args below meth c D A cells slots Q n ad w nL tgt lv st) (kf : ¬ x ≤ y → J p l e R s m args below meth c D A cells slots Q n ad w nL (pc + 3) lv st) : J p l e R s m args below meth c D A cells slots Q n ad w nL pc lv (.int y :: .int x :: st) :=
  fun H locs ls hP hS hl => lv_icmp_le B.1 B.2.1 hdg ht (fun h => kt h H locs ls hP hS hl) (fun h => kf h H locs ls hP hS hl)
theorem j_tabOut (B : Cx p s m c args cc own D aC A n ad) {dflt lo hi : Int} {offs : Array Int} {len : Nat} {x : Int32} {tgt : Nat} (hdg : decode cc pc = .ok (.tableswitch dflt lo hi offs, len)) (h : x.toInt < lo ∨ hi < x.toInt) (ht : (pc : Int) + dflt = (tgt : Int))
    (kk : J p l e R s m args below meth c D A cells slots Q n ad w nL tgt lv st) : J p l e R s m args below meth c D A cells slots Q n ad w nL pc lv (.int x :: st) := fun H locs ls hP hS hl => lv_tableOut B.1 B.2.1 hdg h ht (kk H locs ls hP hS hl)
theorem j_tabIn (B : Cx p s m c args cc own D aC A n ad) {dflt lo hi : Int} {offs : Array Int} {len : Nat} {x : Int32} {off : Int} {tgt : Nat} (hdg : decode cc pc = .ok (.tableswitch dflt lo hi offs, len)) (h1 : ¬ x.toInt < lo) (h2 : ¬ hi < x.toInt) (ho : offs[(x.toInt - lo).toNat]? = some off) (ht : (pc : Int) + off = (tgt : Int))
    (kk : J p l e R s m args below meth c D A cells slots Q n ad w nL tgt lv st) : J p l e R s m args below meth c D A cells slots Q n ad w nL pc lv (.int x :: st) := fun H locs ls hP hS hl => lv_tableIn B.1 B.2.1 hdg h1 h2 ho ht (kk H locs ls hP hS hl)
theorem j_lookup (B : Cx p s m c args cc own D aC A n ad) {dflt : Int} {ps : Array (Int × Int)} {len : Nat} {x : Int32} {off : Int} {tgt : Nat} (hdg : decode cc pc = .ok (.lookupswitch dflt ps, len)) (hp : (ps.toList.zip (ps.toList.drop 1)).all (fun (a, next) => a.1 < next.1) = true) (ho : Op.lookupswitch.offset ps.toList dflt x.toInt = off) (ht : (pc : Int) + off = (tgt : Int))
    (kk : J p l e R s m args below meth c D A cells slots Q n ad w nL tgt lv st) : J p l e R s m args below meth c D A cells slots Q n ad w nL pc lv (.int x :: st) := fun H locs ls hP hS hl => lv_lookup B.1 B.2.1 hdg hp ho ht (kk H locs ls hP hS hl)
theorem j_getv (B : Cx p s m c args cc own D aC A n ad) {index ci j k : Nat} {fs : List Value} {v : Value} (F : FL own index ci j) (hk : k < n) (hw : w k = .inr (ci, fs)) (hv : fs[j]? = some v) (hdg : decode cc pc = .ok (.getfield index, 3))
    (kk : J p l e R s m args below meth c D A cells slots Q n ad w nL (pc + 3) lv (v :: st)) : J p l e R s m args below meth c D A cells slots Q n ad w nL pc lv (.ref (ad k) :: st) := by
  intro H locs ls hP hS hl
  obtain ⟨C, T, N, ty, f1, f2, f3, f4, f5, f6⟩ := F
  obtain ⟨hx, hb, hown, hts, hN, hK, hD⟩ := B
  have he : (fw n ad w)[k]? = some (ad k, .inr (ci, fs)) := by rw [fw_get hk, hw]
  rcases f6 with f6 | ⟨host, f6⟩
  · exact va_get hx hb hts f3 hown hK hP k he f1 j f2 (hts _ f6) (fun _ h => h) hv hdg (kk H locs ls hP hS hl)
  · exact va_getN hx hb hts f3 hown hK hP k he f1 j f2 (va_Nw.use rfl (hN _ f6)) (fun _ h => h) hv hdg (kk H locs ls hP hS hl)
theorem j_geti (B : Cx p s m c args cc own D aC A n ad) {index ci j k : Nat} {fl : List (Option Nat)} (F : FL own index ci j) (hc : k < n ∧ sh k = .inl (ci, fl) ∧ ky k = K) (hj : fl[j]? = some none) (hdg : decode cc pc = .ok (.getfield index, 3))
    (kk : J p l e R s m args below meth c D A cells slots Q n ad (tw ad aC sh ky x) nL (pc + 3) lv (.int (x.1 K j) :: st)) : J p l e R s m args below meth c D A cells slots Q n ad (tw ad aC sh ky x) nL pc lv (.ref (ad k) :: st) :=
  j_getv B F hc.1 (fs := tm_fs ad (x.1 (ky k)) 0 fl) (by simp [tw, hc.2.1, tm_cell]) (by rw [tm_fs_i fl 0 j hj, Nat.zero_add, hc.2.2]) hdg kk
theorem j_getr (B : Cx p s m c args cc own D aC A n ad) {index ci j k r : Nat} {fl : List (Option Nat)} (F : FL own index ci j) (hc : k < n ∧ sh k = .inl (ci, fl) ∧ ky k = K) (hj : fl[j]? = some (some r)) (hdg : decode cc pc = .ok (.getfield index, 3))
    (kk : J p l e R s m args below meth c D A cells slots Q n ad (tw ad aC sh ky x) nL (pc + 3) lv (.ref (ad r) :: st)) : J p l e R s m args below meth c D A cells slots Q n ad (tw ad aC sh ky x) nL pc lv (.ref (ad k) :: st) :=
  j_getv B F hc.1 (fs := tm_fs ad (x.1 (ky k)) 0 fl) (by simp [tw, hc.2.1, tm_cell]) (tm_fs_r fl 0 j hj) hdg kk
theorem j_puti (B : Cx p s m c args cc own D aC A n ad) {index ci j k : Nat} {v : Int32} {fl : List (Option Nat)} (hky : ∀ a b, ky a = ky b → a = b) (F : FLs own index ci j) (hc : k < n ∧ sh k = .inl (ci, fl) ∧ ky k = K) (hj : fl[j]? = some none) (hdg : decode cc pc = .ok (.putfield index, 3))
    (kk : J p l e R s m args below meth c D A cells slots Q n ad (tw ad aC sh ky (sI x K j v)) nL (pc + 3) lv st) : J p l e R s m args below meth c D A cells slots Q n ad (tw ad aC sh ky x) nL pc lv (.int v :: .ref (ad k) :: st) := by
  intro H locs ls hP hS hl
  obtain ⟨⟨C, T, N, ty, f1, f2, f3, f4, f5, f6⟩, q, g1, g2, g3⟩ := F
  obtain ⟨hx, hb, hown, hts, hN, hK, hD⟩ := B
  obtain ⟨hk, hs, rfl⟩ := hc
  cases Option.some.inj (f1.symm.trans g1)
  have he : (fw n ad (tw ad aC sh ky x))[k]? = some (ad k, .inr (ci, tm_fs ad (x.1 (ky k)) 0 fl)) := by rw [fw_get hk]; simp [tw, hs, tm_cell]
  have hlen : j < (tm_fs ad (x.1 (ky k)) 0 fl).length := by rw [tm_fs_len]; exact (List.getElem?_eq_some_iff.mp hj).1
  have fin : ∀ (H1 : Heap) (locs1 : List Loc), va_P D classes ((fw n ad (tw ad aC sh ky x)).set k (ad k, .inr (ci, (tm_fs ad (x.1 (ky k)) 0 fl).set j (.int v)))) H1 → va_D A ((fw n ad (tw ad aC sh ky x)).set k (ad k, .inr (ci, (tm_fs ad (x.1 (ky k)) 0 fl).set j (.int v)))) → va_S A s.heap H1 locs1 → W p l e R s m args below meth c H1 locs1 cells slots Q (F0 m (pc + 3) ls st) := by
    intro H1 locs1 h1 _ h3
    rw [fw_set hk, tw_sI hky hs hj] at h1
    exact kk H1 locs1 ls h1 h3 hl
  rcases f6 with f6 | ⟨host, f6⟩
  · exact va_put hx hb hts f3 ty f4 f5 hown hK hP hD.to hS k he f1 j f2 (hts _ f6) (fun _ h => h) g2 g3 rfl rfl hlen hdg fin
  · exact va_putN hx hb hts f3 ty f4 f5 hown hK hP hD.to hS k he f1 j f2 (va_Nw.use rfl (hN _ f6)) (fun _ h => h) g2 g3 rfl rfl hlen hdg fin
theorem j_iald (B : Cx p s m c args cc own D aC A n ad) {k N a : Nat} {i : Int32} (hc : k < n ∧ sh k = .inr (.inl N) ∧ ky k = K) (hi : i = nI a ∧ a < N ∧ N < 2 ^ 31) (hdg : decode cc pc = .ok (.iaload, 1))
    (kk : J p l e R s m args below meth c D A cells slots Q n ad (tw ad aC sh ky x) nL (pc + 1) lv (.int (x.2 K a) :: st)) : J p l e R s m args below meth c D A cells slots Q n ad (tw ad aC sh ky x) nL pc lv (.int i :: .ref (ad k) :: st) := by
  intro H locs ls hP hS hl
  obtain ⟨hx, hb, hown, hts, hN, hK, hD⟩ := B
  obtain ⟨hk, hs, rfl⟩ := hc
  obtain ⟨rfl, h1, h2⟩ := hi
  have kk' := (kk H locs ls hP hS hl)
  rw [← nI_clamp (n := a) (by omega)] at kk'
  exact va_iald hx hb hK hP k 0 (cA := aC 0) (n := N) (f := x.2 (ky k)) (by rw [fw_get hk]; simp [tw, hs, tm_cell]) rfl (vp_in_nI h1 h2) hdg kk'
theorem j_iast (B : Cx p s m c args cc own D aC A n ad) {k N a : Nat} {i v : Int32} (hky : ∀ a b, ky a = ky b → a = b) (hc : k < n ∧ sh k = .inr (.inl N) ∧ ky k = K) (hi : i = nI a ∧ a < N ∧ N < 2 ^ 31) (hdg : decode cc pc = .ok (.iastore, 1))
    (kk : J p l e R s m args below meth c D A cells slots Q n ad (tw ad aC sh ky (sA x K a v)) nL (pc + 1) lv st) : J p l e R s m args below meth c D A cells slots Q n ad (tw ad aC sh ky x) nL pc lv (.int v :: .int i :: .ref (ad k) :: st) := by
  intro H locs ls hP hS hl
  obtain ⟨hx, hb, hown, hts, hN, hK, hD⟩ := B
  obtain ⟨hk, hs, rfl⟩ := hc
  obtain ⟨rfl, g1, g2⟩ := hi
  refine va_iast hx hb hK hP hD.to hS k 0 (cA := aC 0) (n := N) (f := x.2 (ky k)) (by rw [fw_get hk]; simp [tw, hs, tm_cell]) rfl (vp_in_nI g1 g2) hdg fun H1 locs1 h1 _ h3 => ?_
  rw [fw_set hk, tw_sA hky hs, nI_clamp (by omega)] at h1
  exact kk H1 locs1 ls h1 h3 hl
theorem j_aald (B : Cx p s m c args cc own D aC A n ad) {k t N a : Nat} {g : Nat → Nat} {C : String} {i : Int32} (hc : k < n ∧ sh k = .inr (.inr (t, N, g))) (ht : (tyl aC)[t]? = some (aC t, .object C)) (hi : i = nI a ∧ a < N ∧ N < 2 ^ 31) (hdg : decode cc pc = .ok (.aaload, 1))
    (kk : J p l e R s m args below meth c D A cells slots Q n ad (tw ad aC sh ky x) nL (pc + 1) lv (.ref (ad (g a)) :: st)) : J p l e R s m args below meth c D A cells slots Q n ad (tw ad aC sh ky x) nL pc lv (.int i :: .ref (ad k) :: st) := by
  intro H locs ls hP hS hl
  obtain ⟨hx, hb, hown, hts, hN, hK, hD⟩ := B
  obtain ⟨hk, hs⟩ := hc
  obtain ⟨rfl, h1, h2⟩ := hi
  have kk' := (kk H locs ls hP hS hl)
  rw [← nI_clamp (n := a) (by omega)] at kk'
  exact va_aldq hx hb hK hP k t (cA := aC t) (n := N) (f := fun i => some (ad (g i))) (by rw [fw_get hk]; simp [tw, hs, tm_cell]) ht (vp_in_nI h1 h2) hdg kk'
end RW
