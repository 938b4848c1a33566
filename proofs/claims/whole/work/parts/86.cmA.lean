def opv (r v : Nat) : Int32 := if r = 0 then nI v else -(nI r)
def CMp (f : Nat) (x : tm_M) (A : aM) : Prop :=
  x.2 (0, 0, 5) f = nI (A 0 0) ∧ x.2 (0, 0, 9) f = nI (A 0 1) ∧
  (∀ p, p < A 0 0 → x.2 (0, 0, 6) (128 * f + p) = nI (A 1 p) ∧ x.2 (0, 0, 7) (128 * f + p) = opv (A 4 p) (A 2 p) ∧ x.2 (0, 0, 8) (128 * f + p) = hv (A 3 p)) ∧
  (∀ k, k < A 0 1 → x.2 (0, 0, 10) (48 * f + k) = fI (A 7 k) ∧ x.2 (0, 0, 11) (48 * f + k) = nI (A 8 k) ∧ x.2 (0, 0, 12) (48 * f + k) = hv (A 9 k))
def CMr (x : tm_M) (A : aM) : Prop :=
  x.1 (0, 0, 0) 18 = nI (A 0 3) ∧ (∀ r, r ≤ A 0 3 → x.2 (0, 0, 18) r = hv (A 18 r)) ∧
  ∀ r, 1 ≤ r → r ≤ A 0 3 → x.2 (0, 0, 17) r = nI (A 17 r) ∧ x.2 (0, 0, 19) r = hv (A 18 (r - 1)) ∧ (A 17 r ≠ 6 → x.2 (0, 0, 20) r = nI (A 19 r)) ∧ (A 17 r = 4 → x.2 (0, 0, 21) r = hv (A 18 r)) ∧ (A 17 r = 6 → x.2 (0, 0, 22) r = nI (A 20 r))
def inF (f a i : Nat) : Prop := ((a = 5 ∨ a = 9 ∨ a = 13) ∧ i = f) ∨ ((a = 6 ∨ a = 7 ∨ a = 8) ∧ i / 128 = f) ∨ ((a = 10 ∨ a = 11 ∨ a = 12) ∧ i / 48 = f) ∨ ((a = 14 ∨ a = 15 ∨ a = 16) ∧ i / 64 = f) ∨ (17 ≤ a ∧ a ≤ 22)
def CMf (f : Nat) (x0 x : tm_M) : Prop := (∀ j, j ≠ 18 → x.1 (0, 0, 0) j = x0.1 (0, 0, 0) j) ∧ ∀ a i, ¬ inF f a i → x.2 (0, 0, a) i = x0.2 (0, 0, a) i
theorem em_CMp {f l v r c w : Nat} {a u : Int32} {x : tm_M} {A : aM} (ha : a = nI l) (hu : u = opv r v) (hr : CMr x A) (H : CMp f x A) : CMp f (emM f (A 0 0) (A 0 3) a u x) (emA l v (A 18 (A 0 3)) r c w A) := by
  subst ha; subst hu
  have h18 := hr.2.1 (A 0 3) (Nat.le_refl _)
  simp only [CMp, emM, emA, sA, au] at H ⊢
  simp [upd]
  grind
theorem em_CMr {f l v h r c w n q : Nat} {a u : Int32} {x : tm_M} {A : aM} (H : CMr x A) : CMr (emM f n q a u x) (emA l v h r c w A) := by
  simp only [CMr, emM, emA, sA, au] at H ⊢
  simpa using H
theorem ac_CMp {f k h e r s : Nat} {u v : Int32} {x : tm_M} {A : aM} (hu : u = fI k) (hv' : v = hv h) (H : CMp f x A) : CMp f (acM f (A 0 1) u v x) (acA k h e r s A) := by
  subst hu; subst hv'
  have : nI 0 = 0 := nI_0
  simp only [CMp, acM, acA, sA, au] at H ⊢
  simp [upd]
  grind
theorem ac_CMr {f k h e r s a : Nat} {u v : Int32} {x : tm_M} {A : aM} (H : CMr x A) : CMr (acM f a u v x) (acA k h e r s A) := by
  simp only [CMr, acM, acA, sA, au] at H ⊢
  simpa using H
theorem la_CMp {f k : Nat} {x : tm_M} {A : aM} (H : CMp f x A) : CMp f (laM f k (A 0 0) x) (laA k A) := by
  simp only [CMp, laM, laA, sA, au] at H ⊢
  simp [upd]
  grind
theorem la_CMr {f k j n : Nat} {x : tm_M} {A : aM} (H : CMr x A) : CMr (laM f k n x) (laA j A) := by
  simp only [CMr, laM, laA, sA, au] at H ⊢
  simpa using H
theorem si_CMp {f h : Nat} {x : tm_M} {A : aM} (H : CMp f x A) : CMp f x (siA h A) := by
  have HS := si_same (h := h) (A := A)
  unfold CMp at H ⊢
  rw [HS.o.1, HS.o.2.1, HS.f 1 (by decide), HS.f 2 (by decide), HS.f 3 (by decide), HS.f 4 (by decide), HS.f 7 (by decide), HS.f 8 (by decide), HS.f 9 (by decide)]
  exact H
theorem si_CMr {h : Nat} {x : tm_M} {A : aM} (H : CMr x A) : CMr x (siA h A) := by
  have HS := si_same (h := h) (A := A)
  unfold CMr at H ⊢
  rw [HS.o.2.2, HS.f 17 (by decide), HS.f 18 (by decide), HS.f 19 (by decide), HS.f 20 (by decide)]
  exact H
theorem op_CMp {f q kd nb h : Nat} {a u : Int32} {x : tm_M} {A : aM} (H : CMp f x A) : CMp f (opM q a u x) (opA kd nb h A) := by
  simp only [CMp, opM, opA, sI, sA, au] at H ⊢
  simpa using H
theorem w22_CMp {f i : Nat} {u : Int32} {x : tm_M} {A : aM} (H : CMp f x A) : CMp f (sA x (0, 0, 22) i u) A := by
  simp only [CMp, sA] at H ⊢
  simpa using H
theorem w20_CMp {f i : Nat} {u : Int32} {x : tm_M} {A : aM} (H : CMp f x A) : CMp f (sA x (0, 0, 20) i u) A := by
  simp only [CMp, sA] at H ⊢
  simpa using H
theorem w21_CMp {f i : Nat} {u : Int32} {x : tm_M} {A : aM} (H : CMp f x A) : CMp f (sA x (0, 0, 21) i u) A := by
  simp only [CMp, sA] at H ⊢
  simpa using H
theorem w18_CMp {f i : Nat} {u : Int32} {x : tm_M} {A : aM} (H : CMp f x A) : CMp f (sA x (0, 0, 18) i u) A := by
  simp only [CMp, sA] at H ⊢
  simpa using H
theorem w17_CMp {f i : Nat} {u : Int32} {x : tm_M} {A : aM} (H : CMp f x A) : CMp f (sA x (0, 0, 17) i u) A := by
  simp only [CMp, sA] at H ⊢
  simpa using H
theorem oI_CMp {f i : Nat} {u : Int32} {x : tm_M} {A : aM} (H : CMp f x A) : CMp f (sI x (0, 0, 0) i u) A := by
  simp only [CMp, sI] at H ⊢
  simpa using H
theorem opl_CMr {nb h : Nat} {x : tm_M} {A : aM} (hh : 0 < h) (H : CMr x A) : CMr (sA (opM (A 0 3) 6 (nI (h - 1)) x) (0, 0, 22) (A 0 3 + 1) (nI nb)) (opA 6 nb h A) := by
  have e : hv h = nI (h - 1) := hv_P hh
  have h18 := H.2.1 (A 0 3) (Nat.le_refl _)
  have n6 : (6 : Int32) = nI 6 := by decide
  rw [n6]
  simp only [CMr, opM, opA, sI, sA, au] at H ⊢
  simp [upd]
  grind
theorem opt_CMr {h : Nat} {x : tm_M} {A : aM} (hh : 0 < h) (H : CMr x A) : CMr (sA (opM (A 0 3) 3 (nI (h - 1)) x) (0, 0, 20) (A 0 3 + 1) (nI (h - 1))) (opA 3 0 h A) := by
  have e : hv h = nI (h - 1) := hv_P hh
  have h18 := H.2.1 (A 0 3) (Nat.le_refl _)
  have n6 : (3 : Int32) = nI 3 := by decide
  rw [n6]
  simp only [CMr, opM, opA, sI, sA, au] at H ⊢
  simp [upd]
  grind
theorem nx_CMp {f a b u w o : Nat} {x : tm_M} {A : aM} (H : CMp f x A) : CMp f x (au (au A (23 + o) a u) 22 b w) := by
  have HX := ex_same (A := A) (a := a) (b := b) (u := u) (v := w) (o := o)
  unfold CMp at H ⊢
  rw [HX.f 0 (by decide), HX.f 1 (by decide), HX.f 2 (by decide), HX.f 3 (by decide), HX.f 4 (by decide), HX.f 7 (by decide), HX.f 8 (by decide), HX.f 9 (by decide)]
  exact H
theorem nx_CMr {a b u w o : Nat} {x : tm_M} {A : aM} (H : CMr x A) : CMr x (au (au A (23 + o) a u) 22 b w) := by
  have HX := ex_same (A := A) (a := a) (b := b) (u := u) (v := w) (o := o)
  unfold CMr at H ⊢
  rw [HX.f 0 (by decide), HX.f 17 (by decide), HX.f 18 (by decide), HX.f 19 (by decide), HX.f 20 (by decide)]
  exact H
theorem ex_CMp {f c w : Nat} {x : tm_M} {A : aM} (ho : 0 < A 0 3) (hr : CMr x A) (H : CMp f x A) : CMp f (emM f (A 0 0) (A 0 3) 4 (-(nI (A 0 3))) x) (exA c w A) := by
  have HX := ex_same (A := A) (a := A 22 (A 0 3)) (b := A 0 3) (u := A 0 0) (v := A 22 (A 0 3) + 1) (o := A 0 3)
  have q := em_CMp (f := f) (l := 4) (v := 0) (r := A 0 3) (c := c) (w := w) (a := 4) (u := -(nI (A 0 3))) (by decide) (by unfold opv; rw [if_neg (by omega)]) (nx_CMr (a := A 22 (A 0 3)) (b := A 0 3) (u := A 0 0) (w := A 22 (A 0 3) + 1) (o := A 0 3) hr) (nx_CMp (a := A 22 (A 0 3)) (b := A 0 3) (u := A 0 0) (w := A 22 (A 0 3) + 1) (o := A 0 3) H)
  rw [HX.f 0 (by decide), HX.f 18 (by decide)] at q
  exact q
theorem ex_CMr {f c w n q : Nat} {a u : Int32} {x : tm_M} {A : aM} (H : CMr x A) : CMr (emM f n q a u x) (exA c w A) := em_CMr (nx_CMr H)
theorem fi_CM {f l w c : Nat} {a u : Int32} {x : tm_M} {A : aM} (ha : a = nI l) (hu : u = nI w) (ho : 0 < A 0 3) (hr : CMr x A) (H : CMp f x A) : CMp f (emM f (A 0 0 + 3) (A 0 3) 7 0 (emM f (A 0 0 + 2) (A 0 3) a u (laM f (A 18 (A 0 3) - 1) (A 0 0 + 2) (emM f (A 0 0 + 1) (A 0 3) 4 (-(nI (A 0 3))) (emM f (A 0 0) (A 0 3) a u x))))) (fiA l w c A) ∧ CMr (emM f (A 0 0 + 3) (A 0 3) 7 0 (emM f (A 0 0 + 2) (A 0 3) a u (laM f (A 18 (A 0 3) - 1) (A 0 0 + 2) (emM f (A 0 0 + 1) (A 0 3) 4 (-(nI (A 0 3))) (emM f (A 0 0) (A 0 3) a u x))))) (fiA l w c A) := by
  refine ⟨?_, em_CMr (em_CMr (la_CMr (ex_CMr (em_CMr hr))))⟩
  unfold fiA
  have hu' : u = opv 0 w := by rw [hu]; rfl
  have q1 := em_CMp (c := A 21 (A 0 3)) (w := 0) ha hu' hr H
  have r1 : CMr (emM f (A 0 0) (A 0 3) a u x) (emA l w (A 18 (A 0 3)) 0 (A 21 (A 0 3)) 0 A) := em_CMr hr
  obtain ⟨o3, o1, o2, o0, o17⟩ := em_o (l := l) (v := w) (h := A 18 (A 0 3)) (r := 0) (c := A 21 (A 0 3)) (w := 0) (A := A)
  have o18 : ∀ r, (emA l w (A 18 (A 0 3)) 0 (A 21 (A 0 3)) 0 A) 18 r = A 18 r := fun r => em_f (by decide) (by decide)
  generalize hA1 : emA l w (A 18 (A 0 3)) 0 (A 21 (A 0 3)) 0 A = A1 at *
  have q2 := ex_CMp (c := 0) (w := 2 * (A 18 (A 0 3) - 1) + 1) (by rw [o3]; exact ho) r1 q1
  rw [o0, o3] at q2
  have r2 : CMr (emM f (A 0 0 + 1) (A 0 3) 4 (-(nI (A 0 3))) (emM f (A 0 0) (A 0 3) a u x)) (exA 0 (2 * (A 18 (A 0 3) - 1) + 1) A1) := ex_CMr r1
  obtain ⟨p0, p1, p2, p3⟩ := ex_o (c := 0) (w := 2 * (A 18 (A 0 3) - 1) + 1) (A := A1)
  have p18 : ∀ r, (exA 0 (2 * (A 18 (A 0 3) - 1) + 1) A1) 18 r = A 18 r := fun r => by rw [ex_f (by decide) (by decide) (by decide), o18]
  generalize exA 0 (2 * (A 18 (A 0 3) - 1) + 1) A1 = A2 at *
  have q3 := la_CMp (k := A 18 (A 0 3) - 1) q2
  rw [p0, o0] at q3
  have l0 := la_o (k := A 18 (A 0 3) - 1) (A := A2)
  have l18 : ∀ r, (laA (A 18 (A 0 3) - 1) A2) 18 r = A 18 r := fun r => by rw [la_f (by decide), p18]
  have r3 : CMr (laM f (A 18 (A 0 3) - 1) (A 0 0 + 2) (emM f (A 0 0 + 1) (A 0 3) 4 (-(nI (A 0 3))) (emM f (A 0 0) (A 0 3) a u x))) (laA (A 18 (A 0 3) - 1) A2) := la_CMr r2
  have q4 := em_CMp (c := 0) (w := 2 * (A 18 (A 0 3) - 1) + 2) ha hu' r3 q3
  rw [l0, p0, o0, p3, o3, l18] at q4
  have r4 := em_CMr (f := f) (l := l) (v := w) (h := A 18 (A 0 3)) (r := 0) (c := 0) (w := 2 * (A 18 (A 0 3) - 1) + 2) (n := A 0 0 + 2) (q := A 0 3) (a := a) (u := u) r3
  obtain ⟨u3, u1, u2, u0, u17⟩ := em_o (l := l) (v := w) (h := A 18 (A 0 3)) (r := 0) (c := 0) (w := 2 * (A 18 (A 0 3) - 1) + 2) (A := laA (A 18 (A 0 3) - 1) A2)
  have u18 : (emA l w (A 18 (A 0 3)) 0 0 (2 * (A 18 (A 0 3) - 1) + 2) (laA (A 18 (A 0 3) - 1) A2)) 18 (A 0 3) = A 18 (A 0 3) := by rw [em_f (by decide) (by decide), l18]
  have q5 := em_CMp (l := 7) (v := 0) (r := 0) (c := c) (w := 0) (a := 7) (u := 0) (by decide) (by decide) r4 q4
  rw [u0, u3, l0, p0, o0, p3, o3, u18] at q5
  exact q5
