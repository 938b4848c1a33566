theorem rI {x : tm_M} {K : tm_K} {j : Nat} {v : Int32} : (sI x K j v).1 K j = v := by simp [sI, upd]
theorem rIj {x : tm_M} {K : tm_K} {j j' : Nat} {v : Int32} (h : j' ≠ j) : (sI x K j v).1 K j' = x.1 K j' := by simp [sI, upd, h]
theorem rIK {x : tm_M} {K K' : tm_K} {j : Nat} {v : Int32} (h : K' ≠ K) : (sI x K j v).1 K' = x.1 K' := by simp [sI, h]
theorem rIA {x : tm_M} {K : tm_K} {j : Nat} {v : Int32} : (sI x K j v).2 = x.2 := rfl
theorem rA {x : tm_M} {K : tm_K} {i : Nat} {v : Int32} : (sA x K i v).2 K i = v := by simp [sA, upd]
theorem rAi {x : tm_M} {K : tm_K} {i i' : Nat} {v : Int32} (h : i' ≠ i) : (sA x K i v).2 K i' = x.2 K i' := by simp [sA, upd, h]
theorem rAK {x : tm_M} {K K' : tm_K} {i : Nat} {v : Int32} (h : K' ≠ K) : (sA x K i v).2 K' = x.2 K' := by simp [sA, h]
theorem rAI {x : tm_M} {K : tm_K} {i : Nat} {v : Int32} : (sA x K i v).1 = x.1 := rfl
section MR
variable {p : Program} {l : Launch} {e : Env} {R : Room} {s : State} {m : MethodId} {args : Array Value} {below : List Frame} {meth : Method} {c : Code} {D : va_G} {A : Nat → Prop} {cells slots : Nat} {Q : State → Prop} {n : Nat} {ad : Nat → Nat} {w : Nat → va_E} {nL : Nat}
variable {cc : ByteArray} {own : String} {aC : Nat → ClassId} {pc : Nat} {lv : List (Nat × Value)} {st : List Value}
theorem j_topi {v : Int32} (v' : Int32) (h : v = v') (kk : J p l e R s m args below meth c D A cells slots Q n ad w nL pc lv (.int v' :: st)) : J p l e R s m args below meth c D A cells slots Q n ad w nL pc lv (.int v :: st) := h ▸ kk
theorem j_topr {v : Nat} (v' : Nat) (h : v = v') (kk : J p l e R s m args below meth c D A cells slots Q n ad w nL pc lv (.ref v' :: st)) : J p l e R s m args below meth c D A cells slots Q n ad w nL pc lv (.ref v :: st) := h ▸ kk
theorem j_x {sh : Nat → tm_Sh} {ky : Nat → tm_K} {x : tm_M} (x' : tm_M) (h : x = x') (kk : J p l e R s m args below meth c D A cells slots Q n ad (tw ad aC sh ky x') nL pc lv st) : J p l e R s m args below meth c D A cells slots Q n ad (tw ad aC sh ky x) nL pc lv st := h ▸ kk
end MR
theorem sv {v v' : Int32} (h : v' = v) : some (Value.int v) = some (Value.int v') := by rw [h]
theorem nIle {c t : Nat} (h : nI c ≤ nI t) (hc : c < 2 ^ 31) (ht : t < 2 ^ 31) : c ≤ t := (nI_leI hc ht).mp h
theorem nIlt {c t : Nat} (h : nI c < nI t) (hc : c < 2 ^ 31) (ht : t < 2 ^ 31) : c < t := (nI_ltI hc ht).mp h
theorem nInle {c t : Nat} (h : ¬ nI c ≤ nI t) (hc : c < 2 ^ 31) (ht : t < 2 ^ 31) : t < c := Nat.lt_of_not_le fun q => h ((nI_leI hc ht).mpr q)
theorem nInlt {c t : Nat} (h : ¬ nI c < nI t) (hc : c < 2 ^ 31) (ht : t < 2 ^ 31) : t ≤ c := Nat.le_of_not_lt fun q => h ((nI_ltI hc ht).mpr q)
