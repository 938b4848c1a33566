theorem fi_CXp {f l w c : Nat} {x : tm_M} {A : aM} (H : CXp f x A) : CXp f (emX f (A 0 0 + 3) (nI 7) (nI 0) (emX f (A 0 0 + 2) (nI l) (nI w) (laX f (A 18 (A 0 3) - 1) (A 0 0 + 2) (exX f (A 0 3 - 1) (A 0 0 + 1) (A 22 (A 0 3)) (emX f (A 0 0) (nI l) (nI w) x))))) (fiA l w c A) := by
  unfold fiA
  generalize hA1 : emA l w (A 18 (A 0 3)) 0 (A 21 (A 0 3)) 0 A = A1
  obtain ⟨o3, o1, o2, o0, o17⟩ := em_o (l := l) (v := w) (h := A 18 (A 0 3)) (r := 0) (c := A 21 (A 0 3)) (w := 0) (A := A)
  rw [hA1] at o3 o1 o2 o0 o17
  have q1 : CXp f (emX f (A 0 0) (nI l) (nI w) x) A1 := by rw [← hA1]; exact em_CXp H
  have q22 : A1 22 (A 0 3) = A 22 (A 0 3) := by rw [← hA1]; exact em_f (by omega) (by omega)
  have q2 := ex_CXp (c := 0) (w := 2 * (A 18 (A 0 3) - 1) + 1) q1
  rw [o0, o3, q22] at q2
  obtain ⟨p0, p1, p2, p3⟩ := ex_o (c := 0) (w := 2 * (A 18 (A 0 3) - 1) + 1) (A := A1)
  generalize exA 0 (2 * (A 18 (A 0 3) - 1) + 1) A1 = A2 at *
  have q3 := la_CXp (k := A 18 (A 0 3) - 1) q2
  rw [p0, o0] at q3
  have l0 := la_o (k := A 18 (A 0 3) - 1) (A := A2)
  have q4 := em_CXp (l := l) (v := w) (h := A 18 (A 0 3)) (r := 0) (c := 0) (w := 2 * (A 18 (A 0 3) - 1) + 2) q3
  rw [l0, p0, o0] at q4
  obtain ⟨u3, u1, u2, u0, u17⟩ := em_o (l := l) (v := w) (h := A 18 (A 0 3)) (r := 0) (c := 0) (w := 2 * (A 18 (A 0 3) - 1) + 2) (A := laA (A 18 (A 0 3) - 1) A2)
  have q5 := em_CXp (l := 7) (v := 0) (h := A 18 (A 0 3)) (r := 0) (c := c) (w := 0) q4
  rw [u0, l0, p0, o0] at q5
  exact q5
theorem fi_CXr {f l w c n n1 n2 n3 k : Nat} {a1 b1 a2 b2 a3 b3 : Int32} {x : tm_M} {A : aM} (ho : 0 < A 0 3) (hn1 : n1 = A 0 0 + 1) (H : CXr x A) : CXr (emX f n3 a3 b3 (emX f n2 a2 b2 (laX f k n2 (exX f (A 0 3 - 1) n1 (A 22 (A 0 3)) (emX f n a1 b1 x))))) (fiA l w c A) := by
  unfold fiA
  refine em_CXr (em_CXr (la_CXr ?_))
  obtain ⟨o3, o1, o2, o0, o17⟩ := em_o (l := l) (v := w) (h := A 18 (A 0 3)) (r := 0) (c := A 21 (A 0 3)) (w := 0) (A := A)
  have q22 : (emA l w (A 18 (A 0 3)) 0 (A 21 (A 0 3)) 0 A) 22 (A 0 3) = A 22 (A 0 3) := em_f (by omega) (by omega)
  have := ex_CXr (f := f) (c := 0) (w := 2 * (A 18 (A 0 3) - 1) + 1) (n := n1) (x := emX f n a1 b1 x) (A := emA l w (A 18 (A 0 3)) 0 (A 21 (A 0 3)) 0 A) (by rw [o3]; exact ho) (by rw [o0]; exact hn1) (em_CXr H)
  rw [o3, q22] at this
  exact this
theorem sI4_CXp {f i j : Nat} {v : Int32} {x : tm_M} {A : aM} (H : CXp f x A) : CXp f (sI x (4, i, 0) j v) A := by
  simp only [CXp, sI] at H ⊢
  simpa using H
theorem sI3_CXp {f : Nat} {v : Int32} {x : tm_M} {A : aM} (H : CXp f x A) : CXp f (sI x (3, 0, 0) 1 v) A := by
  simp only [CXp, sI] at H ⊢
  simpa using H
theorem ro_CXp {f o a : Nat} {x : tm_M} {A : aM} (H : CXp f x A) : CXp f x (roA o a A) := by
  unfold CXp at H ⊢
  rw [ro_ff (f := 0) (by decide), ro_ff (f := 1) (by decide), ro_ff (f := 2) (by decide), ro_ff (f := 7) (by decide), ro_ff (f := 8) (by decide), ro_ff (f := 9) (by decide), ro_ff (f := 14) (by decide), ro_ff (f := 15) (by decide), ro_ff (f := 16) (by decide)]
  exact H
theorem bc_CXp {f : Nat} {x : tm_M} {A : aM} (H : CXp f x A) : CXp f (bcX f (A 0 3 - 1) (A 0 0) (A 19 (A 0 3)) (A 0 1) (hv (A 18 (A 0 3 - 1))) x) (bcA A) := by
  rw [bc_eq, bcX]
  refine sI4_CXp (ro_CXp ?_)
  have q1 := la_CXp (k := A 19 (A 0 3)) H
  have q2 := sI4_CXp (i := A 0 3 - 1) (j := 0) (v := 4) (sI4_CXp (i := A 0 3 - 1) (j := 4) (v := nI (A 19 (A 0 3) + 1)) q1)
  have q3 := ac_CXp (k := 0) (h := A 18 (A 0 3 - 1)) (e := A 21 (A 0 3) + 1) (r := A 0 1 + 1) (s := 1) q2
  rw [la_o, fI_0] at q3
  exact q3
theorem bc_CXr {f n c : Nat} {u : Int32} {x : tm_M} {A : aM} (ho : 0 < A 0 3) (hc : c = A 19 (A 0 3)) (H : CXr x A) : CXr (bcX f (A 0 3 - 1) n c (A 0 1) u x) (bcA A) := by
  subst hc
  obtain ⟨q0, q1, q2, q3⟩ := bc_o (A := A)
  refine ⟨?_, ?_⟩
  · rw [q3]
    have := H.1
    simp only [bcX, acX, laX, sI, sA]
    simpa using this
  · intro r hr
    rw [q3] at hr
    have h1 := H.2 r hr
    have c24 : ∀ j, (bcA A) (24 + r) j = A (24 + r) j := by
      intro j
      have e0 : ¬ (24 + r = 0) := by omega
      have e7 : ¬ (24 + r = 7) := by omega
      have e8 : ¬ (24 + r = 8) := by omega
      have e9 : ¬ (24 + r = 9) := by omega
      have e10 : ¬ (24 + r = 10) := by omega
      have e11 : ¬ (24 + r = 11) := by omega
      have e12 : ¬ (24 + r = 12) := by omega
      have e13 : ¬ (24 + r = 13) := by omega
      have e17 : ¬ (24 + r = 17) := by omega
      have e18 : ¬ (24 + r = 18) := by omega
      have e19 : ¬ (24 + r = 19) := by omega
      have e21 : ¬ (24 + r = 21) := by omega
      simp only [bcA, acA, laA, au, e0, e7, e8, e9, e10, e11, e12, e13, e17, e18, e19, e21, false_and, if_false]
    simp only [c24]
    by_cases c : r = A 0 3 - 1
    · have c1 : r + 1 = A 0 3 := by omega
      have c2 : ¬ (r = A 0 3) := by omega
      have e1 : (bcA A) 17 (r + 1) = 4 := by simp [bcA, au, c1]
      have e2 : (bcA A) 18 (r + 1) = A 0 1 + 1 := by simp [bcA, au, c1]
      have e3 : (bcA A) 18 r = A 18 r := by simp [bcA, acA, laA, au, c2]
      have e4 : (bcA A) 19 (r + 1) = A 19 (A 0 3) + 1 := by simp [bcA, au, c1]
      have e5 : (bcA A) 20 (r + 1) = A 20 (r + 1) := by simp [bcA, acA, laA, au]
      have e6 : (bcA A) 22 (r + 1) = A 22 (r + 1) := by simp [bcA, acA, laA, au]
      rw [e1, e2, e3, e4, e5, e6, hv_S, ← c]
      simp only [bcX, acX, laX, sI, sA]
      simp [upd]
      obtain ⟨g1, g2, g3, g4, g5, g6, g7⟩ := h1
      refine ⟨by decide, g2, g4, g6, g7⟩
    · have c1 : ¬ (r + 1 = A 0 3) := by omega
      have c2 : ¬ (r = A 0 3) := by omega
      have e1 : (bcA A) 17 (r + 1) = A 17 (r + 1) := by simp [bcA, acA, laA, au, c1]
      have e2 : (bcA A) 18 (r + 1) = A 18 (r + 1) := by simp [bcA, acA, laA, au, c1]
      have e3 : (bcA A) 18 r = A 18 r := by simp [bcA, acA, laA, au, c2]
      have e4 : (bcA A) 19 (r + 1) = A 19 (r + 1) := by simp [bcA, acA, laA, au, c1]
      have e5 : (bcA A) 20 (r + 1) = A 20 (r + 1) := by simp [bcA, acA, laA, au]
      have e6 : (bcA A) 22 (r + 1) = A 22 (r + 1) := by simp [bcA, acA, laA, au]
      rw [e1, e2, e3, e4, e5, e6]
      simp only [bcX, acX, laX, sI, sA]
      simpa [c] using h1
theorem ae_val {f n : Nat} {E : Nat → Nat} {x : tm_M} : ∀ t, (aeX f n E x t).1 = x.1 ∧ (∀ K, K ≠ (6, f, 2) → (aeX f n E x t).2 K = x.2 K) ∧ ∀ p, (aeX f n E x t).2 (6, f, 2) p = if ∃ j, j < t ∧ E j = p then nI n else x.2 (6, f, 2) p
  | 0 => ⟨rfl, fun _ _ => rfl, fun p => by rw [if_neg (by rintro ⟨j, h, -⟩; omega)]; rfl⟩
  | t + 1 => by
    obtain ⟨h1, h2, h3⟩ := ae_val (f := f) (n := n) (E := E) (x := x) t
    refine ⟨h1, fun K hK => ?_, fun p => ?_⟩
    · show (if K = (6, f, 2) then _ else _) = _
      rw [if_neg hK]; exact h2 K hK
    · show (if ((6, f, 2) : tm_K) = (6, f, 2) then upd ((aeX f n E x t).2 (6, f, 2)) (E t) (nI n) else _) p = _
      rw [if_pos rfl]
      unfold upd
      by_cases c : p = E t
      · rw [if_pos c, if_pos ⟨t, by omega, c.symm⟩]
      · rw [if_neg c, h3 p]
        by_cases c2 : ∃ j, j < t ∧ E j = p
        · obtain ⟨j, a, b⟩ := c2
          rw [if_pos ⟨j, a, b⟩, if_pos ⟨j, by omega, b⟩]
        · rw [if_neg c2, if_neg]
          rintro ⟨j, a, b⟩
          by_cases c3 : j = t
          · subst c3; exact c b.symm
          · exact c2 ⟨j, by omega, b⟩
theorem cl_CXp {f t : Nat} {E : Nat → Nat} {x : tm_M} {A : aM} (hE : ∀ p, p < A 0 0 → ((∃ j, j < t ∧ E j = p) ↔ A 4 p = A 0 3)) (H : CXp f x A) : CXp f (clX f (A 0 0) t (A 0 3) E x) (clA A) := by
  obtain ⟨h1, h2, h3⟩ := ae_val (f := f) (n := A 0 0) (E := E) (x := x) t
  unfold clX
  refine sI3_CXp ?_
  obtain ⟨q0, q1, q2, q3⟩ := cl_o (A := A)
  unfold CXp at H ⊢
  rw [q0, q1, q2, cl_ff (f := 1) (by decide), cl_ff (f := 7) (by decide), cl_ff (f := 8) (by decide), cl_ff (f := 9) (by decide), cl_ff (f := 14) (by decide), cl_ff (f := 15) (by decide), cl_ff (f := 16) (by decide), h1, h2 (6, f, 1) (by simp), h2 (6, f, 3) (by simp), h2 (6, f, 4) (by simp), h2 (6, f, 5) (by simp), h2 (6, f, 6) (by simp), h2 (6, f, 7) (by simp), h2 (6, f, 8) (by simp)]
  obtain ⟨a1, a2, a3, a4, a5, a6⟩ := H
  refine ⟨a1, a2, a3, fun p hp => ⟨(a4 p hp).1, ?_⟩, a5, a6⟩
  rw [h3 p, cl_2]
  by_cases c : A 4 p = A 0 3
  · rw [if_pos c, if_pos ((hE p hp).mpr c)]
  · rw [if_neg c, if_neg (fun z => c ((hE p hp).mp z))]
    exact (a4 p hp).2
theorem cl_CXr {f t n : Nat} {E : Nat → Nat} {x : tm_M} {A : aM} (ho : 0 < A 0 3) (H : CXr x A) : CXr (clX f n t (A 0 3) E x) (clA A) := by
  obtain ⟨h1, h2, h3⟩ := ae_val (f := f) (n := n) (E := E) (x := x) t
  obtain ⟨q0, q1, q2, q3⟩ := cl_o (A := A)
  unfold clX
  refine ⟨by rw [q3, rI], ?_⟩
  rw [q3]
  intro r hr
  have e : ∀ j, (clA A) (24 + r) j = A (24 + r) j := fun j => cl_f (by omega)
  have k0 : ((4, r, 0) : tm_K) ≠ (3, 0, 0) := by simp
  simp only [rIK k0, rIA, h1, h2 (4, r, 1) (by simp), cl_ff (f := 17) (by decide : (17 : Nat) ≠ 0 ∧ (17 : Nat) ≠ 2 ∧ (17 : Nat) ≠ 4), cl_ff (f := 18) (by decide : (18 : Nat) ≠ 0 ∧ (18 : Nat) ≠ 2 ∧ (18 : Nat) ≠ 4), cl_ff (f := 19) (by decide : (19 : Nat) ≠ 0 ∧ (19 : Nat) ≠ 2 ∧ (19 : Nat) ≠ 4), cl_ff (f := 20) (by decide : (20 : Nat) ≠ 0 ∧ (20 : Nat) ≠ 2 ∧ (20 : Nat) ≠ 4), cl_ff (f := 22) (by decide : (22 : Nat) ≠ 0 ∧ (22 : Nat) ≠ 2 ∧ (22 : Nat) ≠ 4), e]
  exact H.2 r (by omega)
def kF (f : Nat) (K : tm_K) : Prop := K.1 = 3 ∨ K.1 = 4 ∨ (K.1 = 6 ∧ K.2.1 = f)
theorem cf_I {f j : Nat} {v : Int32} {K : tm_K} {x0 x : tm_M} (hK : kF f K) (H : CXf f x0 x) : CXf f x0 (sI x K j v) := by
  intro K' h1 h2 h3
  have hne : K' ≠ K := by
    rintro rfl
    rcases hK with h | h | h
    · exact h1 h
    · exact h2 h
    · exact h3 h
  simp only [sI, if_neg hne]
  exact H K' h1 h2 h3
theorem cf_A {f j : Nat} {v : Int32} {K : tm_K} {x0 x : tm_M} (hK : kF f K) (H : CXf f x0 x) : CXf f x0 (sA x K j v) := by
  intro K' h1 h2 h3
  have hne : K' ≠ K := by
    rintro rfl
    rcases hK with h | h | h
    · exact h1 h
    · exact h2 h
    · exact h3 h
  simp only [sA, if_neg hne]
  exact H K' h1 h2 h3
theorem cf_r {f : Nat} {x : tm_M} : CXf f x x := fun _ _ _ _ => ⟨rfl, rfl⟩
theorem k6 {f a : Nat} : kF f (6, f, a) := Or.inr (Or.inr ⟨rfl, rfl⟩)
theorem k4 {f a b : Nat} : kF f (4, a, b) := Or.inr (Or.inl rfl)
theorem k3 {f a b : Nat} : kF f (3, a, b) := Or.inl rfl
theorem cf_em {f n : Nat} {a v : Int32} {x0 x : tm_M} (H : CXf f x0 x) : CXf f x0 (emX f n a v x) := cf_I k6 (cf_A k6 (cf_A k6 H))
theorem cf_ac {f n : Nat} {a v : Int32} {x0 x : tm_M} (H : CXf f x0 x) : CXf f x0 (acX f n a v x) := cf_I k6 (cf_A k6 (cf_A k6 (cf_A k6 H)))
theorem cf_la {f n k : Nat} {x0 x : tm_M} (H : CXf f x0 x) : CXf f x0 (laX f k n x) := cf_A k6 H
theorem cf_nx {f i t : Nat} {v : Int32} {x0 x : tm_M} (H : CXf f x0 x) : CXf f x0 (nxX i t v x) := cf_I k4 (cf_A k4 H)
theorem cf_ex {f i n t : Nat} {x0 x : tm_M} (H : CXf f x0 x) : CXf f x0 (exX f i n t x) := cf_em (cf_nx H)
theorem cf_fl {f i n t k : Nat} {w : Int32} {x0 x : tm_M} (H : CXf f x0 x) : CXf f x0 (flX f i n t k w x) := cf_em (cf_em (cf_la (cf_ex (cf_em H))))
theorem cf_fc {f i n t k : Nat} {x0 x : tm_M} (H : CXf f x0 x) : CXf f x0 (fcX f i n t k x) := cf_em (cf_em (cf_la (cf_ex (cf_em H))))
theorem cf_si {f n q : Nat} {h : Int32} {x0 x : tm_M} (H : CXf f x0 x) : CXf f x0 (siX f n q h x) := by
  unfold siX
  split
  · exact cf_A k6 H
  · exact cf_I k6 (cf_A k6 (cf_A k6 (cf_A k6 H)))
theorem cf_op {f o : Nat} {a b h u : Int32} {x0 x : tm_M} (H : CXf f x0 x) : CXf f x0 (opX o a b h u x) := cf_I k3 (cf_I k4 (cf_I k4 (cf_I k4 (cf_I k4 (cf_I k4 (cf_I k4 H))))))
theorem cf_bc {f i n c a : Nat} {u : Int32} {x0 x : tm_M} (H : CXf f x0 x) : CXf f x0 (bcX f i n c a u x) := cf_I k4 (cf_ac (cf_I k4 (cf_I k4 (cf_la H))))
theorem cf_ae {f n : Nat} {E : Nat → Nat} {x0 x : tm_M} (H : CXf f x0 x) : ∀ t, CXf f x0 (aeX f n E x t)
  | 0 => H
  | t + 1 => cf_A k6 (cf_ae H t)
theorem cf_cl {f n t o : Nat} {E : Nat → Nat} {x0 x : tm_M} (H : CXf f x0 x) : CXf f x0 (clX f n t o E x) := cf_I k3 (cf_ae H t)
theorem cf_mc {f : Nat} {S O : Nat → Int32} {x0 : tm_M} : ∀ (r k d a : Nat) (x : tm_M), CXf f x0 x → CXf f x0 (mcF f S O r k d a x).2
  | 0, _, _, _, _, H => H
  | r + 1, k, d, a, x, H => by
    unfold mcF
    split
    · exact cf_mc r _ _ _ _ H
    · split
      · split
        · exact H
        · exact cf_mc r _ _ _ _ H
      · split
        · exact cf_mc r _ _ _ _ (cf_ac H)
        · exact cf_mc r _ _ _ _ H
theorem cf_mt {f : Nat} {S O : Nat → Int32} {r k a : Nat} {h : Int32} {x0 x : tm_M} (H : CXf f x0 x) : CXf f x0 (mtX f S O r k a h x) := cf_A k6 (cf_mc _ _ _ _ _ H)
theorem nS {s c : Nat} (hs : s ≤ 7) (hc : c ≤ 7) : nI s = nI c ↔ s = c := nI_eq (by omega) (by omega)
theorem cr_CX {S' : Nat → Int32} {S : Nat → Nat} : ∀ (r k d : Nat), (∀ j, k ≤ j → j < k + r → S' j = nI (S j) ∧ S j ≤ 7) → crF S' r k d = crA S r k d
  | 0, _, _, _ => rfl
  | r + 1, k, d, h => by
    obtain ⟨h1, h2⟩ := h k (Nat.le_refl _) (by omega)
    have ih := fun d => cr_CX (S' := S') (S := S) r (k + 1) d (fun j a b => h j (by omega) (by omega))
    unfold crF crA
    rw [ih, ih, ih, h1]
    have e3 : (nI (S k) = 3) = (S k = 3) := propext (nS (c := 3) h2 (by decide))
    have e4 : (nI (S k) = 4) = (S k = 4) := propext (nS (c := 4) h2 (by decide))
    have e5 : (nI (S k) = 5) = (S k = 5) := propext (nS (c := 5) h2 (by decide))
    have e6 : (nI (S k) = 6) = (S k = 6) := propext (nS (c := 6) h2 (by decide))
    simp only [e3, e4, e5, e6]
theorem mc_CX {f e b : Nat} {S' O' : Nat → Int32} {S O : Nat → Nat} : ∀ (r k d : Nat) (x : tm_M) (A : aM), (∀ j, k ≤ j → j < k + r → S' j = nI (S j) ∧ S j ≤ 7 ∧ O' j = hv (O j)) → CXp f x A → CXp f (mcF f S' O' r k d (A 0 1) x).2 (mcA S O e b r k d A)
  | 0, _, _, _, _, _, H => H
  | r + 1, k, d, x, A, h, H => by
    obtain ⟨h1, h2, h3⟩ := h k (Nat.le_refl _) (by omega)
    have ih := fun d x A => mc_CX (f := f) (e := e) (b := b) (S' := S') (O' := O') (S := S) (O := O) r (k + 1) d x A (fun j a b => h j (by omega) (by omega))
    unfold mcF mcA
    have e3 : (nI (S k) = 3) = (S k = 3) := propext (nS (c := 3) h2 (by decide))
    have e4 : (nI (S k) = 4) = (S k = 4) := propext (nS (c := 4) h2 (by decide))
    have e5 : (nI (S k) = 5) = (S k = 5) := propext (nS (c := 5) h2 (by decide))
    have e6 : (nI (S k) = 6) = (S k = 6) := propext (nS (c := 6) h2 (by decide))
    rw [h1, h3]
    simp only [e3, e4, e5, e6]
    split
    · exact ih _ _ _ H
    · split
      · split
        · exact H
        · exact ih _ _ _ H
      · split
        · have q := ac_CXp (k := O k + 1) (h := A 0 1 + 2) (e := e) (r := b - A 0 1) (s := 0) H
          rw [fI_S, hv_S] at q
          have := ih d _ _ q
          rw [ac_o.2.1] at this
          exact this
        · exact ih _ _ _ H
theorem mc_CXr {f e b : Nat} {S' O' : Nat → Int32} {S O : Nat → Nat} : ∀ (r k d : Nat) (x : tm_M) (A : aM) (a : Nat), (∀ j, k ≤ j → j < k + r → S' j = nI (S j) ∧ S j ≤ 7) → CXr x A → CXr (mcF f S' O' r k d a x).2 (mcA S O e b r k d A)
  | 0, _, _, _, _, _, _, H => H
  | r + 1, k, d, x, A, a, h, H => by
    obtain ⟨h1, h2⟩ := h k (Nat.le_refl _) (by omega)
    have ih := fun d x A a => mc_CXr (f := f) (e := e) (b := b) (S' := S') (O' := O') (S := S) (O := O) r (k + 1) d x A a (fun j a b => h j (by omega) (by omega))
    unfold mcF mcA
    have e3 : (nI (S k) = 3) = (S k = 3) := propext (nS (c := 3) h2 (by decide))
    have e4 : (nI (S k) = 4) = (S k = 4) := propext (nS (c := 4) h2 (by decide))
    have e5 : (nI (S k) = 5) = (S k = 5) := propext (nS (c := 5) h2 (by decide))
    have e6 : (nI (S k) = 6) = (S k = 6) := propext (nS (c := 6) h2 (by decide))
    rw [h1]
    simp only [e3, e4, e5, e6]
    split
    · exact ih _ _ _ _ H
    · split
      · split
        · exact H
        · exact ih _ _ _ _ H
      · split
        · exact ih _ _ _ _ (ac_CXr H)
        · exact ih _ _ _ _ H
theorem mt_CXp {f r k : Nat} {S' O' : Nat → Int32} {S O : Nat → Nat} {x : tm_M} {A : aM} (h : ∀ j, k ≤ j → j < k + r → S' j = nI (S j) ∧ S j ≤ 7 ∧ O' j = hv (O j)) (H : CXp f x A) {e b : Nat} : CXp f (mtX f S' O' r k (A 0 1) (hv (A 18 (A 0 3))) x) (au (mcA S O e b r k 0 A) 9 (A 0 1 + crA S r k 0 - 1) (A 18 (A 0 3))) := by
  have q := mc_CX (f := f) (e := e) (b := b) r k 0 x A h H
  have hc : crF S' r k 0 = crA S r k 0 := cr_CX r k 0 (fun j a b => ⟨(h j a b).1, (h j a b).2.1⟩)
  unfold mtX
  rw [hc]
  generalize (mcF f S' O' r k 0 (A 0 1) x).2 = y at *
  generalize mcA S O e b r k 0 A = B at *
  simp only [CXp, sA, au] at q ⊢
  simp [upd]
  grind
theorem mt_CXr {f r k a p v : Nat} {S' O' : Nat → Int32} {S O : Nat → Nat} {u : Int32} {x : tm_M} {A : aM} (h : ∀ j, k ≤ j → j < k + r → S' j = nI (S j) ∧ S j ≤ 7) (H : CXr x A) {e b : Nat} : CXr (mtX f S' O' r k a u x) (au (mcA S O e b r k 0 A) 9 p v) := by
  have q := mc_CXr (f := f) (e := e) (b := b) (S' := S') (O' := O') (O := O) r k 0 x A a h H
  unfold mtX
  generalize (mcF f S' O' r k 0 a x).2 = y at *
  generalize mcA S O e b r k 0 A = B at *
  simp only [CXr, sA, au] at q ⊢
  simp
  grind
theorem hdC_eq {x : tm_M} {A : aM} (h0 : A 18 0 = 0) (H : CXr x A) : hdC (A 0 3) x = hv (A 18 (A 0 3)) := by
  unfold hdC
  split
  · rename_i h
    have := (H.2 (A 0 3 - 1) (by omega)).2.2.1
    rw [show A 0 3 - 1 + 1 = A 0 3 by omega] at this
    exact this
  · rename_i h
    rw [show A 0 3 = 0 by omega, h0, hv_0]
