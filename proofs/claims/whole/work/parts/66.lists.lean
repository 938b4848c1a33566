/-- worlds by a list -/
def wl (xs : List va_E) : Nat → va_E := fun k => xs.getD k (.inr (0, []))
theorem wl_push (xs : List va_E) (e1 : va_E) : va_up (wl xs) xs.length e1 = wl (xs ++ [e1]) := by
  funext k
  unfold va_up wl
  by_cases h : k = xs.length
  · subst h; simp
  · rw [if_neg h]
    by_cases h2 : k < xs.length
    · simp [List.getD_eq_getElem?_getD, List.getElem?_append_left h2]
    · rw [List.getD_eq_getElem?_getD, List.getD_eq_getElem?_getD, List.getElem?_eq_none (by omega), List.getElem?_eq_none (by simp; omega)]
theorem wl_set (xs : List va_E) (i : Nat) (e1 : va_E) (h : i < xs.length) : va_up (wl xs) i e1 = wl (xs.set i e1) := by
  funext k
  unfold va_up wl
  by_cases hk : k = i
  · subst hk; simp [List.getD_eq_getElem?_getD, h]
  · simp [List.getD_eq_getElem?_getD, hk, Ne.symm hk, List.getElem?_set]
theorem wl_one (e1 : va_E) : ∀ k, k < 1 → (fun _ => e1 : Nat → va_E) k = wl [e1] k := fun k hk => match k, hk with | 0, _ => rfl
theorem arrV_congr {cA : ClassId} {N : Nat} {f g : Nat → Value} (h : ∀ j, j < N → f j = g j) : arrV cA N f = arrV cA N g := by
  unfold arrV
  congr 1
  apply Array.ext
  · simp
  · intro i h1 h2
    simp at h1
    simp [h i h1]
/-- alike, as a cell -/
def eqE (a b : va_E) : Prop := a = b ∨ ∃ (cA : ClassId) (N : Nat) (f g : Nat → Option Nat), a = .inl (cA, N, .inr (.inr (.inr (.inr f)))) ∧ b = .inl (cA, N, .inr (.inr (.inr (.inr g)))) ∧ ∀ j, j < N → f j = g j
theorem eqE_P {D : va_G} {n : Nat} {ad : Nat → Nat} {w w' : Nat → va_E} {H : Heap} (h : ∀ k, k < n → eqE (w k) (w' k)) (hP : va_P D classes (fw n ad w) H) : va_P D classes (fw n ad w') H := by
  intro k q hk
  obtain ⟨hk1, rfl⟩ := fw_of hk
  have h1 := hP k _ (fw_get hk1)
  rcases h k hk1 with e1 | ⟨cA, N, f, g, e1, e2, e3⟩
  · rw [← e1]; exact h1
  · rw [e2]
    rw [e1] at h1
    show H[ad k]? = some (vp_cell _ _)
    have h2 : H[ad k]? = some (vp_cell cA (N, .inr (.inr (.inr (.inr f))))) := h1
    rw [h2]
    congr 1
    show arrV cA N (fun j => va_rf (f j)) = arrV cA N (fun j => va_rf (g j))
    exact arrV_congr (fun j hj => by rw [e3 j hj])
section GQ
variable {p : Program} {l : Launch} {e : Env} {R : Room} {s : State} {m : MethodId} {args : Array Value} {below : List Frame} {meth : Method} {c : Code} {D : va_G} {A : Nat → Prop} {cells slots : Nat} {Q : State → Prop} {n b0 : Nat} {ad : Nat → Nat} {w : Nat → va_E} {nL : Nat}
variable {cc : ByteArray} {own : String} {aC : Nat → ClassId} {pc : Nat} {lv : List (Nat × Value)} {st : List Value}
theorem j_wf (w' : Nat → va_E) (h : w = w') (kk : J p l e R s m args below meth c D A cells slots Q n ad w' nL pc lv st) : J p l e R s m args below meth c D A cells slots Q n ad w nL pc lv st := h ▸ kk
theorem j_wc (w' : Nat → va_E) (h : ∀ k, k < n → w k = w' k) (kk : J p l e R s m args below meth c D A cells slots Q n ad w' nL pc lv st) : J p l e R s m args below meth c D A cells slots Q n ad w nL pc lv st :=
  fun H locs ls hP hS hl => kk H locs ls (by rw [← fw_congr h]; exact hP) hS hl
theorem j_we (w' : Nat → va_E) (h : ∀ k, k < n → eqE (w k) (w' k)) (kk : J p l e R s m args below meth c D A cells slots Q n ad w' nL pc lv st) : J p l e R s m args below meth c D A cells slots Q n ad w nL pc lv st :=
  fun H locs ls hP hS hl => kk H locs ls (eqE_P h hP) hS hl
end GQ
