def sameX (A B : aM) : Prop := ∀ f p, f < 22 → B f p = A f p
theorem sameX.f {A B : aM} (H : sameX A B) (f : Nat) (h : f < 22) : B f = A f := funext fun p => H f p h
theorem sameX.tp {A B : aM} (H : sameX A B) {T p : Nat} (h : tyP T A p) : tyP T B p := by
  unfold tyP at h ⊢
  rw [H.f 0 (by decide), H.f 1 (by decide), H.f 2 (by decide), H.f 3 (by decide), H.f 4 (by decide), H.f 5 (by decide), H.f 6 (by decide), H.f 10 (by decide), H.f 12 (by decide), H.f 21 (by decide)]
  exact h
theorem sameX.ta {A B : aM} (H : sameX A B) {T p : Nat} (h : tyK T A p) : tyK T B p := by
  unfold tyK at h ⊢
  rw [H.f 0 (by decide), H.f 5 (by decide), H.f 6 (by decide), H.f 7 (by decide), H.f 8 (by decide), H.f 9 (by decide), H.f 10 (by decide), H.f 11 (by decide), H.f 12 (by decide), H.f 13 (by decide)]
  exact h
theorem sameX.tl {A B : aM} (H : sameX A B) {k : Nat} {rm : Nat → Nat} (h : tyL A rm k) : tyL B rm k := by
  unfold tyL at h ⊢
  rw [H.f 0 (by decide), H.f 13 (by decide), H.f 17 (by decide), H.f 18 (by decide), H.f 19 (by decide)]
  exact h
theorem sameX.ts {A B : aM} (H : sameX A B) (h : tyS A) : tyS B := by
  unfold tyS at h ⊢
  rw [H.f 0 (by decide), H.f 1 (by decide), H.f 3 (by decide), H.f 14 (by decide), H.f 15 (by decide), H.f 16 (by decide)]
  exact h
theorem sameX.tc {A B : aM} (H : sameX A B) (h : tyC A) : tyC B := by
  unfold tyC at h ⊢
  rw [H.f 0 (by decide), H.f 1 (by decide), H.f 3 (by decide), H.f 14 (by decide), H.f 15 (by decide), H.f 16 (by decide)]
  exact h
theorem ex_same {A : aM} {a b : Nat} {u v o : Nat} : sameX A (au (au A (23 + o) a u) 22 b v) := by
  intro f p h
  have h1 : f ≠ 22 := by omega
  have h2 : f ≠ 23 + o := by omega
  simp [au, h1, h2]
theorem ex_o {c w : Nat} {A : aM} : (exA c w A) 0 0 = A 0 0 + 1 ∧ (exA c w A) 0 1 = A 0 1 ∧ (exA c w A) 0 2 = A 0 2 ∧ (exA c w A) 0 3 = A 0 3 := by
  have h : ¬ (0 = 23 + A 0 3) := by omega
  simp [exA, emA, au, h]
theorem ex_f {c w f p : Nat} {A : aM} (h0 : f ≠ 0) (h : f < 1 ∨ 6 < f) (h2 : f < 22) : (exA c w A) f p = A f p := by
  have e1 : f ≠ 23 + A 0 3 := by omega
  have e2 : f ≠ 22 ∧ f ≠ 1 ∧ f ≠ 2 ∧ f ≠ 3 ∧ f ≠ 4 ∧ f ≠ 5 ∧ f ≠ 6 := by omega
  simp [exA, emA, au, e1, e2, h0]
theorem ex_n {c w : Nat} {A : aM} : (exA c w A) 6 (A 0 0 + 1) = w ∧ (exA c w A) 5 (A 0 0 + 1) = c := by
  have h : ¬ (0 = 23 + A 0 3) := by omega
  simp [exA, emA, au, h]
theorem ex_q {c w f p : Nat} {A : aM} (h0 : f ≠ 0) (h2 : f < 22) (hp : p < A 0 0 ∨ f = 5 ∧ p = A 0 0 ∨ f = 6 ∧ p = A 0 0) : (exA c w A) f p = A f p := by
  have e1 : f ≠ 23 + A 0 3 := by omega
  have e2 : f ≠ 22 := by omega
  have h : ¬ (0 = 23 + A 0 3) := by omega
  simp [exA, emA, au, e1, e2, h0, h]
  grind
theorem ex_TP {T c w : Nat} {A : aM} (H : ∀ p, p < A 0 0 → tyP T A p) (h6 : A 6 (A 0 0) = 0) (h5 : A 5 (A 0 0) = A 21 (A 0 3)) (ho : 0 < A 0 3) : ∀ p, p < A 0 0 + 1 → tyP T (exA c w A) p := by
  have hz : ¬ (0 = 23 + A 0 3) := by omega
  have HX := ex_same (A := A) (a := A 22 (A 0 3)) (b := A 0 3) (u := A 0 0) (v := A 22 (A 0 3) + 1) (o := A 0 3)
  have e := em_TP (T := T) (l := 4) (v := 0) (h := A 18 (A 0 3)) (r := A 0 3) (c := c) (w := w) (A := au (au A (23 + A 0 3) (A 22 (A 0 3)) (A 0 0)) 22 (A 0 3) (A 22 (A 0 3) + 1)) (fun p hp => HX.tp (H p (by rw [HX.f 0 (by decide)] at hp; exact hp))) ?_
  · rw [HX.f 0 (by decide)] at e; exact e
  · rw [HX.f 0 (by decide)]
    have g21 : ∀ p, ¬ (21 = 23 + A 0 3 ∧ p = A 22 (A 0 3)) := fun p z => by omega
    have g5 : ¬ (5 = 23 + A 0 3) := by omega
    have g6 : ¬ (6 = 23 + A 0 3) := by omega
    have g21 : ¬ (21 = 23 + A 0 3) := by omega
    simp only [tyP, emA, au]
    simp [hz, g5, g6, g21, h6, h5]
    omega
theorem ex_TA {T c w : Nat} {A : aM} (H : ∀ k, k < A 0 1 → tyK T A k) : ∀ k, k < A 0 1 → tyK T (exA c w A) k := by
  have HX := ex_same (A := A) (a := A 22 (A 0 3)) (b := A 0 3) (u := A 0 0) (v := A 22 (A 0 3) + 1) (o := A 0 3)
  have e := em_TA (T := T) (l := 4) (v := 0) (h := A 18 (A 0 3)) (r := A 0 3) (c := c) (w := w) (A := au (au A (23 + A 0 3) (A 22 (A 0 3)) (A 0 0)) 22 (A 0 3) (A 22 (A 0 3) + 1)) (fun p hp => HX.ta (H p (by rw [HX.f 0 (by decide)] at hp; exact hp)))
  rw [HX.f 0 (by decide)] at e
  exact e
theorem ex_TL {c w : Nat} {rm : Nat → Nat} {A : aM} {k : Nat} (H : tyL A rm k) : tyL (exA c w A) rm k := em_TL (ex_same.tl H)
theorem ex_TS {c w : Nat} {A : aM} (H : tyS A) : tyS (exA c w A) := em_TS (by omega) (ex_same.ts H)
theorem ex_TC {c w : Nat} {A : aM} (H : tyC A) : tyC (exA c w A) := em_TC (by omega) (ex_same.tc H)
theorem ex_TR {c w i : Nat} {rm : Nat → Nat} {A : aM} {r : Nat} (hr : 1 ≤ r) (ho : 0 < A 0 3) (H : tyR A i rm r) : tyR (exA c w A) (i + 1) rm r := by
  have hz : ¬ (0 = 23 + A 0 3) := by omega
  have h4 : ¬ (4 = 23 + A 0 3) := by omega
  have h7 : ¬ (7 = 23 + A 0 3) := by omega
  have h10 : ¬ (10 = 23 + A 0 3) := by omega
  have h12 : ¬ (12 = 23 + A 0 3) := by omega
  have h17 : ¬ (17 = 23 + A 0 3) := by omega
  have h18 : ¬ (18 = 23 + A 0 3) := by omega
  have h19 : ¬ (19 = 23 + A 0 3) := by omega
  have h21 : ¬ (21 = 23 + A 0 3) := by omega
  have h22 : ¬ (22 = 23 + A 0 3) := by omega
  have j0 : ¬ (23 + r = 0) := by omega
  have j1 : ¬ (23 + r = 1) := by omega
  have j2 : ¬ (23 + r = 2) := by omega
  have j3 : ¬ (23 + r = 3) := by omega
  have j4 : ¬ (23 + r = 4) := by omega
  have j5 : ¬ (23 + r = 5) := by omega
  have j6 : ¬ (23 + r = 6) := by omega
  have j22 : ¬ (23 + r = 22) := by omega
  have jj : (23 + r = 23 + A 0 3) = (r = A 0 3) := by simp
  simp only [tyR, exA, emA, au] at H ⊢
  simp only [hz, h4, h7, h10, h12, h17, h18, h19, h21, h22, j0, j1, j2, j3, j4, j5, j6, j22, jj, false_and, if_false, true_and]
  simp
  obtain ⟨a1, a2, a3, a4, a5, a6, a7, a8, a9, a10, a11, a12, a13⟩ := H
  refine ⟨a1, a2, a3, a4, a5, a6, by simpa using a7, by simpa using a8, a9, by simpa using a10, ?_, ?_, ?_⟩
  · by_cases z : r = A 0 3
    · rw [if_pos z, ← z]; omega
    · rw [if_neg z]; omega
  · intro j hj
    by_cases hro : r = A 0 3
    · by_cases hj2 : j = A 22 (A 0 3)
      · simp [hro, hj2]
      · simp only [hro, if_true] at hj
        have := a12 j (by rw [hro]; omega)
        simp only [hj2, and_false, if_false]
        simp [this]
        omega
    · simp only [hro, false_and, if_false] at hj ⊢
      have := a12 j hj
      simp [this]
      omega
  · intro p hp h
    by_cases hpn : p = A 0 0
    · rw [if_pos hpn] at h
      exact ⟨A 22 (A 0 3), by simp [h.symm], by simp [h.symm, hpn]⟩
    · rw [if_neg hpn] at h
      obtain ⟨j, b1, b2⟩ := a13 p (by omega) h
      refine ⟨j, ?_, ?_⟩
      · split
        · rename_i z; rw [← z]; omega
        · exact b1
      · by_cases hro : r = A 0 3
        · have : j ≠ A 22 (A 0 3) := by rw [← hro]; omega
          simp [this, b2]
        · simp [hro, b2]
theorem la_o {k : Nat} {A : aM} : (laA k A) 0 = A 0 := by funext j; simp [laA, au]
theorem la_f {k f p : Nat} {A : aM} (h : f ≠ 8 ∧ f ≠ 13) : (laA k A) f p = A f p := by simp [laA, au, h]
theorem la_TP {T k p : Nat} {A : aM} (H : tyP T A p) : tyP T (laA k A) p := by
  simp only [tyP, laA, au] at H ⊢
  simpa using H
theorem la_TA {T k : Nat} {A : aM} (H : ∀ k, k < A 0 1 → tyK T A k) (h0 : A 7 k = 0 → A 6 (A 0 0) = 2 * k + 1) (h1 : A 7 k ≠ 0 → A 6 (A 0 0) = 0 ∧ A 5 (A 0 0) = A 10 k + 1) : ∀ j, j < A 0 1 → tyK T (laA k A) j := by
  intro j hj
  have h2 := H j hj
  simp only [tyK, laA, au] at h2 ⊢
  simp
  grind
theorem la_TR {k i : Nat} {rm : Nat → Nat} {A : aM} {r : Nat} (H : tyR A i rm r) : tyR (laA k A) i rm r := by
  have h1 : ¬ (23 + r = 8) := by omega
  have h2 : ¬ (23 + r = 13) := by omega
  simp only [tyR, laA, au] at H ⊢
  simp only [h1, h2, false_and, if_false]
  simpa using H
theorem la_TL {k : Nat} {rm : Nat → Nat} {A : aM} {j : Nat} (H : tyL A rm j) : tyL (laA k A) rm j := by
  simp only [tyL, laA, au] at H ⊢
  simp
  grind
theorem la_TS {k : Nat} {A : aM} (H : tyS A) : tyS (laA k A) := by
  simp only [tyS, laA, au] at H ⊢
  simpa using H
theorem la_TC {k : Nat} {A : aM} (H : tyC A) : tyC (laA k A) := by
  have e : ∀ f, f ≠ 8 ∧ f ≠ 13 → (laA k A) f = A f := fun f hf => funext fun p => la_f hf
  unfold tyC at H ⊢
  rw [e 0 (by decide), e 1 (by decide), e 3 (by decide), e 14 (by decide), e 15 (by decide), e 16 (by decide)]
  exact H
theorem em_f {l v h r c w f p : Nat} {A : aM} (h0 : f ≠ 0) (hf : 6 < f) : (emA l v h r c w A) f p = A f p := by
  have e2 : f ≠ 1 ∧ f ≠ 2 ∧ f ≠ 3 ∧ f ≠ 4 ∧ f ≠ 5 ∧ f ≠ 6 := by omega
  simp [emA, au, e2, h0]
theorem em_n {l v h r c w : Nat} {A : aM} : (emA l v h r c w A) 6 (A 0 0 + 1) = w ∧ (emA l v h r c w A) 5 (A 0 0 + 1) = c := by
  simp [emA, au]
theorem em_q {l v h r c w f p : Nat} {A : aM} (h0 : f ≠ 0) (hp : p < A 0 0 ∨ f = 5 ∧ p = A 0 0 ∨ f = 6 ∧ p = A 0 0) : (emA l v h r c w A) f p = A f p := by
  simp [emA, au, h0]
  grind
def tyMd (_S : Nat → Nat) (T _len i : Nat) (rm : Nat → Nat) (c : Nat) (A B : aM) : Prop :=
  (∀ p, p < B 0 0 → tyP T B p) ∧ (∀ k, k < B 0 1 → tyK T B k) ∧ (∀ r, 1 ≤ r → r ≤ B 0 3 → tyR B (i + 1) rm r) ∧ (∀ k, k < B 0 1 → tyL B rm k) ∧ tyS B ∧ tyC B ∧
  B 0 1 = A 0 1 ∧ B 0 2 = A 0 2 ∧ B 0 3 = A 0 3 ∧ (∀ f p, f = 7 ∨ f = 10 ∨ f = 12 ∨ (17 ≤ f ∧ f < 22) → B f p = A f p) ∧ B 6 (B 0 0) = 0 ∧ B 5 (B 0 0) = c ∧ B 6 0 = 0 ∧ B 5 0 = 0 ∧ B 0 0 ≤ A 0 0 + 4 ∧ (A 17 (A 0 3) ≠ 3 → B 13 (A 18 (A 0 3) - 1) ≠ 0)
theorem ex_mid {S : Nat → Nat} {T len i c : Nat} {A : aM} (ho : 0 < A 0 3) (hk : A 17 (A 0 3) = 3) (H : tyI S T len i A) : tyMd S T len i (fun r => crA S (len - i) i (A 0 3 - r)) c A (exA c 0 A) := by
  obtain ⟨a1, a2, a3, a4, a5, a6, a7, a8, a9, a10, a11⟩ := H
  obtain ⟨g1, g2, g3, g4, g5, g6, g7⟩ := a5
  have hr := a3 (A 0 3) ho (Nat.le_refl _)
  have hdp : A 21 (A 0 3 + 1) = A 21 (A 0 3) := by
    have := hr.2.2.2.2.1
    rw [hk] at this
    simpa using this
  obtain ⟨q0, q1, q2, q3⟩ := ex_o (c := c) (w := 0) (A := A)
  unfold tyMd
  rw [q0, q1, q2, q3]
  refine ⟨ex_TP a1 g3 (g4.trans hdp) ho, ex_TA a2, fun r h1 h2 => ex_TR h1 ho (a3 r h1 h2), fun k hk => ex_TL (a4 k hk), ex_TS a6, ex_TC a7, rfl, rfl, rfl, fun f p h => ex_f (by omega) (by omega) (by omega), ex_n.1, ex_n.2, ?_, ?_, by omega, fun z => absurd hk z⟩
  · rw [ex_q (by omega) (by omega) (by omega)]; exact g5
  · rw [ex_q (by omega) (by omega) (by omega)]; exact g6
theorem fi_mid {S : Nat → Nat} {T len i c l w : Nat} {A : aM} (ho : 0 < A 0 3) (hk : (A 17 (A 0 3) = 6 ∧ l = 5) ∨ (A 17 (A 0 3) = 4 ∧ l = 6)) (H : tyI S T len i A) : tyMd S T len i (fun r => crA S (len - i) i (A 0 3 - r)) c A (fiA l w c A) := by
  obtain ⟨a1, a2, a3, a4, a5, a6, a7, a8, a9, a10, a11⟩ := H
  obtain ⟨g1, g2, g3, g4, g5, g6, g7⟩ := a5
  obtain ⟨r1, r2, r3, r4, r5, r6, r7, r8, -⟩ := a3 (A 0 3) ho (Nat.le_refl _)
  have hka : A 18 (A 0 3) - 1 < A 0 1 := by omega
  have hl : l = 5 + A 12 (A 18 (A 0 3) - 1) ∧ A 7 (A 18 (A 0 3) - 1) = 0 ∧ (l = 5 ∨ l = 6) ∧ (l = 5 → A 5 (A 0 0) = A 21 (A 0 3)) ∧ (l = 6 → A 5 (A 0 0) = A 21 (A 0 3) + 1) := by
    rcases hk with ⟨h1, h2⟩ | ⟨h1, h2⟩
    · have := r7 h1
      rw [h1] at r5
      simp at r5
      omega
    · have := r8 h1
      rw [h1] at r5
      simp at r5
      omega
  obtain ⟨l1, l2, l3, l4, l5⟩ := hl
  unfold fiA
  generalize hh : A 18 (A 0 3) = h at *
  generalize hA1 : emA l w h 0 (A 21 (A 0 3)) 0 A = A1
  obtain ⟨o3, o1, o2, o0, o17⟩ := em_o (l := l) (v := w) (h := h) (r := 0) (c := A 21 (A 0 3)) (w := 0) (A := A)
  rw [hA1] at o3 o1 o2 o0 o17
  have f1 : ∀ f p, 6 < f → A1 f p = A f p := fun f p hf => by rw [← hA1]; exact em_f (by omega) hf
  have n1 : A1 6 (A 0 0 + 1) = 0 ∧ A1 5 (A 0 0 + 1) = A 21 (A 0 3) := by rw [← hA1]; exact em_n
  have z1 : A1 6 0 = 0 ∧ A1 5 0 = 0 := by
    rw [← hA1, em_q (by omega) (by omega), em_q (by omega) (by omega)]; exact ⟨g5, g6⟩
  have P1 : ∀ p, p < A1 0 0 → tyP T A1 p := by
    rw [o0, ← hA1]
    refine em_TP a1 ?_
    simp only [tyP, emA, au]
    simp [g3]
    omega
  have Q1 : ∀ k, k < A1 0 1 → tyK T A1 k := by rw [o1, ← hA1]; exact em_TA a2
  have R1 : ∀ r, 1 ≤ r → r ≤ A1 0 3 → tyR A1 i (fun r => crA S (len - i) i (A 0 3 - r)) r := by rw [o3, ← hA1]; exact fun r h1 h2 => em_TR h1 (a3 r h1 h2)
  have L1 : ∀ k, k < A1 0 1 → tyL A1 (fun r => crA S (len - i) i (A 0 3 - r)) k := by rw [o1, ← hA1]; exact fun k hk => em_TL (a4 k hk)
  have S1 : tyS A1 := by rw [← hA1]; exact em_TS (by omega) a6
  have C1 : tyC A1 := by rw [← hA1]; exact em_TC (by omega) a7
  obtain ⟨p0, p1, p2, p3⟩ := ex_o (c := 0) (w := 2 * (h - 1) + 1) (A := A1)
  have n2 := ex_n (c := 0) (w := 2 * (h - 1) + 1) (A := A1)
  generalize hA2 : exA 0 (2 * (h - 1) + 1) A1 = A2 at *
  have f2 : ∀ f p, 6 < f → f < 22 → A2 f p = A1 f p := fun f p hf h2 => by rw [← hA2]; exact ex_f (by omega) (by omega) h2
  have z2 : A2 6 0 = 0 ∧ A2 5 0 = 0 := by
    rw [← hA2, ex_q (by omega) (by omega) (by omega), ex_q (by omega) (by omega) (by omega)]; exact z1
  have P2 : ∀ p, p < A2 0 0 → tyP T A2 p := by
    rw [p0, ← hA2]
    refine ex_TP P1 (by rw [o0]; exact n1.1) ?_ (by omega)
    rw [o0, n1.2, o3, f1 21 _ (by omega)]
  have Q2 : ∀ k, k < A2 0 1 → tyK T A2 k := by rw [p1, ← hA2]; exact ex_TA Q1
  have R2 : ∀ r, 1 ≤ r → r ≤ A2 0 3 → tyR A2 (i + 1) (fun r => crA S (len - i) i (A 0 3 - r)) r := by rw [p3, ← hA2]; exact fun r h1 h2 => ex_TR h1 (by omega) (R1 r h1 h2)
  have L2 : ∀ k, k < A2 0 1 → tyL A2 (fun r => crA S (len - i) i (A 0 3 - r)) k := by rw [p1, ← hA2]; exact fun k hk => ex_TL (L1 k hk)
  have S2 : tyS A2 := by rw [← hA2]; exact ex_TS S1
  have C2 : tyC A2 := by rw [← hA2]; exact ex_TC C1
  generalize hA3 : laA (h - 1) A2 = A3
  have l0 : A3 0 = A2 0 := by rw [← hA3]; exact la_o
  have f3 : ∀ f p, f ≠ 8 ∧ f ≠ 13 → A3 f p = A2 f p := fun f p hf => by rw [← hA3]; exact la_f hf
  have e7 : A2 7 (h - 1) = 0 := by rw [f2 7 _ (by omega) (by omega), f1 7 _ (by omega)]; exact l2
  have P3 : ∀ p, p < A3 0 0 → tyP T A3 p := by rw [l0, ← hA3]; exact fun p hp => la_TP (P2 p hp)
  have Q3 : ∀ k, k < A3 0 1 → tyK T A3 k := by
    rw [l0, ← hA3]
    exact la_TA Q2 (fun _ => by rw [p0]; exact n2.1) (fun z => absurd e7 z)
  have R3 : ∀ r, 1 ≤ r → r ≤ A3 0 3 → tyR A3 (i + 1) (fun r => crA S (len - i) i (A 0 3 - r)) r := by rw [l0, ← hA3]; exact fun r h1 h2 => la_TR (R2 r h1 h2)
  have L3 : ∀ k, k < A3 0 1 → tyL A3 (fun r => crA S (len - i) i (A 0 3 - r)) k := by rw [l0, ← hA3]; exact fun k hk => la_TL (L2 k hk)
  have S3 : tyS A3 := by rw [← hA3]; exact la_TS S2
  have C3 : tyC A3 := by rw [← hA3]; exact la_TC C2
  have n3 : A3 13 (h - 1) = 1 := by rw [← hA3]; simp [laA, au]
  have w3 : A3 6 (A3 0 0) = 2 * (h - 1) + 1 := by rw [l0, f3 6 _ (by decide), p0]; exact n2.1
  have z3 : A3 6 0 = 0 ∧ A3 5 0 = 0 := by rw [f3 6 _ (by decide), f3 5 _ (by decide)]; exact z2
  have e12 : A3 12 (h - 1) = A 12 (h - 1) := by rw [f3 12 _ (by decide), f2 12 _ (by omega) (by omega), f1 12 _ (by omega)]
  obtain ⟨u3, u1, u2, u0, u17⟩ := em_o (l := l) (v := w) (h := h) (r := 0) (c := 0) (w := 2 * (h - 1) + 2) (A := A3)
  have n4 := em_n (l := l) (v := w) (h := h) (r := 0) (c := 0) (w := 2 * (h - 1) + 2) (A := A3)
  generalize hA4 : emA l w h 0 0 (2 * (h - 1) + 2) A3 = A4 at *
  have f4 : ∀ f p, 6 < f → A4 f p = A3 f p := fun f p hf => by rw [← hA4]; exact em_f (by omega) hf
  have b1 : A3 0 1 = A 0 1 := by rw [l0]; omega
  have P4 : ∀ p, p < A4 0 0 → tyP T A4 p := by
    rw [u0, ← hA4]
    refine em_TP P3 ?_
    have t1 : (2 * (h - 1) + 1) % 2 = 1 := by omega
    have t2 : (2 * (h - 1) + 1) / 2 = h - 1 := by omega
    simp only [tyP, emA, au]
    simp [w3, t1, t2, e12, b1]
    omega
  have Q4 : ∀ k, k < A4 0 1 → tyK T A4 k := by rw [u1, ← hA4]; exact em_TA Q3
  have R4 : ∀ r, 1 ≤ r → r ≤ A4 0 3 → tyR A4 (i + 1) (fun r => crA S (len - i) i (A 0 3 - r)) r := by rw [u3, ← hA4]; exact fun r h1 h2 => em_TR h1 (R3 r h1 h2)
  have L4 : ∀ k, k < A4 0 1 → tyL A4 (fun r => crA S (len - i) i (A 0 3 - r)) k := by rw [u1, ← hA4]; exact fun k hk => em_TL (L3 k hk)
  have S4 : tyS A4 := by rw [← hA4]; exact em_TS (by omega) S3
  have C4 : tyC A4 := by rw [← hA4]; exact em_TC (by omega) C3
  have z4 : A4 6 0 = 0 ∧ A4 5 0 = 0 := by
    rw [← hA4, em_q (by omega) (by rw [l0]; omega), em_q (by omega) (by rw [l0]; omega)]; exact z3
  obtain ⟨v3, v1, v2, v0, v17⟩ := em_o (l := 7) (v := 0) (h := h) (r := 0) (c := c) (w := 0) (A := A4)
  have n5 := em_n (l := 7) (v := 0) (h := h) (r := 0) (c := c) (w := 0) (A := A4)
  generalize hA5 : emA 7 0 h 0 c 0 A4 = A5 at *
  have f5 : ∀ f p, 6 < f → A5 f p = A4 f p := fun f p hf => by rw [← hA5]; exact em_f (by omega) hf
  have l00 : A3 0 0 = A 0 0 + 2 := by rw [l0]; omega
  refine ⟨?_, ?_, ?_, ?_, ?_, ?_, ?_, ?_, ?_, ?_, ?_, ?_, ?_, ?_, ?_, ?_⟩
  · rw [v0, ← hA5]
    refine em_TP P4 ?_
    have t1 : (2 * (h - 1) + 2) % 2 = 0 := by omega
    have t2 : A4 6 (A4 0 0) = 2 * (h - 1) + 2 := by rw [u0]; exact n4.1
    simp only [tyP, emA, au]
    simp [t2, t1]
  · rw [v1, ← hA5]; exact em_TA Q4
  · rw [v3, ← hA5]; exact fun r h1 h2 => em_TR h1 (R4 r h1 h2)
  · rw [v1, ← hA5]; exact fun k hk => em_TL (L4 k hk)
  · rw [← hA5]; exact em_TS (by omega) S4
  · rw [← hA5]; exact em_TC (by omega) C4
  · rw [v1, u1]; exact b1
  · rw [v2, u2, l0]; omega
  · rw [v3, u3, l0]; omega
  · intro f p hf
    rw [f5 f p (by omega), f4 f p (by omega), f3 f p (by omega), f2 f p (by omega) (by omega), f1 f p (by omega)]
  · rw [v0]; exact n5.1
  · rw [v0]; exact n5.2
  · rw [← hA5, em_q (by omega) (by omega)]; exact z4.1
  · rw [← hA5, em_q (by omega) (by omega)]; exact z4.2
  · omega
  · intro _
    rw [hh, f5 13 _ (by omega), f4 13 _ (by omega), n3]
    decide
theorem bc_o {A : aM} : (bcA A) 0 0 = A 0 0 ∧ (bcA A) 0 1 = A 0 1 + 1 ∧ (bcA A) 0 2 = A 0 2 ∧ (bcA A) 0 3 = A 0 3 := by
  simp [bcA, acA, laA, au]
def roA (o a : Nat) (A : aM) : aM := au (au (au (au A 19 o (A 19 o + 1)) 17 o 4) 18 o (a + 1)) 21 (o + 1) (A 21 o + 1)
theorem bc_eq {A : aM} : bcA A = roA (A 0 3) (A 0 1) (acA 0 (A 18 (A 0 3 - 1)) (A 21 (A 0 3) + 1) (A 0 1 + 1) 1 (laA (A 19 (A 0 3)) A)) := by
  unfold bcA roA
  have e1 : (acA 0 (A 18 (A 0 3 - 1)) (A 21 (A 0 3) + 1) (A 0 1 + 1) 1 (laA (A 19 (A 0 3)) A)) 19 (A 0 3) = A 19 (A 0 3) := by simp [acA, laA, au]
  have e2 : (acA 0 (A 18 (A 0 3 - 1)) (A 21 (A 0 3) + 1) (A 0 1 + 1) 1 (laA (A 19 (A 0 3)) A)) 21 (A 0 3) = A 21 (A 0 3) := by simp [acA, laA, au]
  rw [e1, e2]
theorem ro_TP {T a p : Nat} {A : aM} (H : tyP T A p) : tyP T (roA (A 0 3) a A) p := by
  simp only [tyP, roA, au] at H ⊢
  simp
  grind
theorem ro_TA {T o a p : Nat} {A : aM} (H : tyK T A p) : tyK T (roA o a A) p := by
  simp only [tyK, roA, au] at H ⊢
  simp
  grind
theorem ro_f {o a f p : Nat} {A : aM} (h : f ≠ 17 ∧ f ≠ 18 ∧ f ≠ 19 ∧ f ≠ 21) : (roA o a A) f p = A f p := by
  simp [roA, au, h]
theorem ro_ff {o a f : Nat} {A : aM} (h : f ≠ 17 ∧ f ≠ 18 ∧ f ≠ 19 ∧ f ≠ 21) : (roA o a A) f = A f := funext fun _ => ro_f h
theorem ro_TS {o a : Nat} {A : aM} (H : tyS A) : tyS (roA o a A) := by
  unfold tyS at H ⊢
  rw [ro_ff (f := 0) (by decide), ro_ff (f := 1) (by decide), ro_ff (f := 3) (by decide), ro_ff (f := 14) (by decide), ro_ff (f := 15) (by decide), ro_ff (f := 16) (by decide)]
  exact H
theorem ro_TC {o a : Nat} {A : aM} (H : tyC A) : tyC (roA o a A) := by
  unfold tyC at H ⊢
  rw [ro_ff (f := 0) (by decide), ro_ff (f := 1) (by decide), ro_ff (f := 3) (by decide), ro_ff (f := 14) (by decide), ro_ff (f := 15) (by decide), ro_ff (f := 16) (by decide)]
  exact H
theorem ro_TR {o a i : Nat} {rm : Nat → Nat} {A : aM} {j : Nat} (hj2 : j < o) (H : tyR A i rm j) : tyR (roA o a A) i rm j := by
  have h2 : ¬ (23 + j = 17) := by omega
  have h3 : ¬ (23 + j = 18) := by omega
  have h4 : ¬ (23 + j = 19) := by omega
  have h6 : ¬ (23 + j = 21) := by omega
  simp only [tyR, roA, au] at H ⊢
  simp only [h2, h3, h4, h6, false_and, if_false]
  simp
  grind
theorem ci_bc {S : Nat → Nat} {T len i : Nat} {A B : aM} (hi : i < len) (hs : S i = 4) (H : tyI S T len i A) (M : tyMd S T len i (fun r => crA S (len - i) i (A 0 3 - r)) (A 21 (A 0 3) + 1) A B) : tyI S T len (i + 1) (bcA B) := by
  obtain ⟨-, -, b3, b4, b5, -, -, a8, a9, a10, a11⟩ := H
  obtain ⟨m1, m2, m3, m4, m5, m6, m7, m8, m9, m10, m11, m12, m13, m14, m15, m16⟩ := M
  obtain ⟨R, hR⟩ : ∃ R, len - i = R + 1 := ⟨len - (i + 1), by omega⟩
  have hR' : len - (i + 1) = R := by omega
  have cr0 : crA S (len - i) i 0 = crA S R (i + 1) 0 + 1 := by rw [hR, crA, if_neg (by omega), if_neg (by omega), if_pos ⟨hs, rfl⟩]
  have cr : ∀ d, 0 < d → crA S (len - i) i d = crA S R (i + 1) d := fun d hd => by
    rw [hR, crA, if_neg (by omega), if_neg (by omega), if_neg (by omega)]
  rw [hR, wfA, if_neg (by omega), if_pos hs] at a11
  obtain ⟨⟨ho, hk6⟩, hwf⟩ := a11
  rw [hR, fdA, if_pos (by omega)] at a10
  have k17 : B 17 (A 0 3) = A 17 (A 0 3) := m10 _ _ (by omega)
  have k18 : ∀ r, B 18 r = A 18 r := fun r => m10 _ _ (by omega)
  have k19 : ∀ r, B 19 r = A 19 r := fun r => m10 _ _ (by omega)
  have k21 : ∀ r, B 21 r = A 21 r := fun r => m10 _ _ (by omega)
  have k7 : ∀ r, B 7 r = A 7 r := fun r => m10 _ _ (by omega)
  have k10 : ∀ r, B 10 r = A 10 r := fun r => m10 _ _ (by omega)
  obtain ⟨r1, r2, r3, r4, r5, r6, r7, r8, r9, r10, r11, r12, r13⟩ := m3 (B 0 3) (by omega) (Nat.le_refl _)
  simp only [m9, Nat.sub_self, cr0] at r9 r10
  have hk6' : B 17 (B 0 3) ≠ 6 := by rw [m9, k17]; exact hk6
  rw [m9] at hk6' r1 r2 r3 r4 r5 r6 r7 r8 r11 r12 r13
  have hnc := r9 hk6'
  have hcat := r10 hk6' (B 19 (A 0 3)) (Nat.le_refl _) (by omega)
  have P1 : ∀ p, p < B 0 0 → tyP T (laA (B 19 (B 0 3)) B) p := fun p hp => la_TP (m1 p hp)
  have Q1 : ∀ k, k < B 0 1 → tyK T (laA (B 19 (B 0 3)) B) k := la_TA m2 (fun z => absurd z (by rw [m9]; exact hcat.1)) (fun _ => ⟨m11, by rw [m12, m9, hcat.2, k21]⟩)
  have l0 := la_o (k := B 19 (B 0 3)) (A := B)
  have hout : A 18 (A 0 3 - 1) = 0 ∨ (0 < A 18 (A 0 3 - 1) ∧ A 18 (A 0 3 - 1) ≤ B 0 1 ∧ B 10 (A 18 (A 0 3 - 1) - 1) = B 21 (A 0 3) ∧ B 11 (A 18 (A 0 3 - 1) - 1) ≤ B 0 1) := by
    by_cases h : A 0 3 = 1
    · left; rw [h]; exact b5.1
    · right
      have hr := m3 (A 0 3 - 1) (by omega) (by omega)
      obtain ⟨t1, t2, t3, t4, -⟩ := hr
      rw [k18] at t2 t3 t4
      rw [show A 0 3 - 1 + 1 = A 0 3 by omega] at t4
      exact ⟨t2, t3, t4, (m2 _ (by omega)).2.2.2.2.2.1⟩
  have Q2 : ∀ k, k < B 0 1 + 1 → tyK T (acA 0 (B 18 (B 0 3 - 1)) (B 21 (B 0 3) + 1) (B 0 1 + 1) 1 (laA (B 19 (B 0 3)) B)) k := by
    have := ac_TA (T := T) (k := 0) (h := B 18 (B 0 3 - 1)) (e := B 21 (B 0 3) + 1) (r := B 0 1 + 1) (s := 1) (A := laA (B 19 (B 0 3)) B) (by rw [l0]; exact Q1) ?_
    · rw [l0] at this; exact this
    · rw [l0, m9, k18]
      simp only [tyK, acA, laA, au]
      simp
      grind
  rw [bc_eq]
  generalize hC : acA 0 (B 18 (B 0 3 - 1)) (B 21 (B 0 3) + 1) (B 0 1 + 1) 1 (laA (B 19 (B 0 3)) B) = C at *
  obtain ⟨q0, q1, q2, q3⟩ := ac_o (k := 0) (h := B 18 (B 0 3 - 1)) (e := B 21 (B 0 3) + 1) (r := B 0 1 + 1) (s := 1) (A := laA (B 19 (B 0 3)) B)
  obtain ⟨-, -, -, -, -, e17, e18, e21⟩ := ac_1 (k := 0) (h := B 18 (B 0 3 - 1)) (e := B 21 (B 0 3) + 1) (r := B 0 1 + 1) (s := 1) (A := laA (B 19 (B 0 3)) B)
  rw [hC, l0] at q0 q1 q2 q3
  rw [hC] at e17 e18 e21
  have PC : ∀ p, p < B 0 0 → tyP T C p := fun p hp => by rw [← hC]; exact ac_TP (P1 p hp)
  have RC : ∀ r, 1 ≤ r → r ≤ B 0 3 → tyR C (i + 1) (fun r => crA S (len - i) i (A 0 3 - r)) r := fun r h1 h2 => by rw [← hC]; exact ac_TR h1 (la_TR (m3 r h1 h2))
  have LC : ∀ k, k < B 0 1 → tyL C (fun r => crA S (len - i) i (A 0 3 - r)) k := fun k hk => by rw [← hC]; exact ac_TL (by rw [l0]; exact hk) (la_TL (m4 k hk))
  have o17 : (roA (B 0 3) (B 0 1) C) 17 = fun j => if j = A 0 3 then 4 else A 17 j := by
    funext j
    have : C 17 j = A 17 j := by rw [e17, la_f (by decide)]; exact m10 _ _ (by omega)
    simp [roA, au, this, m9]
  have eA : C 0 3 = B 0 3 := q3
  unfold tyI
  rw [ro_ff (f := 0) (by decide), q0, q1, q2, q3, o17, m9, hR', m7]
  refine ⟨?_, ?_, ?_, ?_, ?_, ro_TS (by rw [← hC]; exact ac_TS (la_TS m5)), ro_TC (by rw [← hC]; exact ac_TC (la_TC m6)), by omega, by omega, by omega, hwf⟩
  · intro p hp
    have := ro_TP (a := A 0 1) (PC p hp)
    rw [q3, m9] at this; exact this
  · intro k hk
    exact ro_TA (Q2 k (by omega))
  · intro r g1 g2
    by_cases g3 : r = A 0 3
    · subst g3
      have c7 : ∀ k, k < A 0 1 → C 7 k = A 7 k := fun k hk => by rw [← hC]; simp [acA, laA, au, m7]; rw [if_neg (by omega)]; exact k7 k
      have c10 : ∀ k, k < A 0 1 → C 10 k = A 10 k := fun k hk => by rw [← hC]; simp [acA, laA, au, m7]; rw [if_neg (by omega)]; exact k10 k
      have cn : C 7 (A 0 1) = 0 ∧ C 12 (A 0 1) = 1 ∧ C 10 (A 0 1) = A 21 (A 0 3) + 1 := by rw [← hC]; simp [acA, laA, au, m7, m9, k21]
      have c19 : C 19 (A 0 3) = B 19 (A 0 3) := by rw [← hC]; simp [acA, laA, au]
      have c21 : C 21 (A 0 3) = A 21 (A 0 3) := by rw [e21, la_f (by decide), k21]
      have c22 : C 22 (A 0 3) = B 22 (A 0 3) := by rw [← hC]; simp [acA, laA, au]
      have c4 : C 4 = B 4 := by funext j; rw [← hC]; simp [acA, laA, au]
      have cx : C (23 + A 0 3) = B (23 + A 0 3) := by
        funext j; rw [← hC]
        have j0 : ¬ (23 + A 0 3 = 0) := by omega
        have j7 : ¬ (23 + A 0 3 = 7) := by omega
        have j8 : ¬ (23 + A 0 3 = 8) := by omega
        have j9 : ¬ (23 + A 0 3 = 9) := by omega
        have j10 : ¬ (23 + A 0 3 = 10) := by omega
        have j11 : ¬ (23 + A 0 3 = 11) := by omega
        have j12 : ¬ (23 + A 0 3 = 12) := by omega
        have j13 : ¬ (23 + A 0 3 = 13) := by omega
        simp only [acA, laA, au, j0, j7, j8, j9, j10, j11, j12, j13, false_and, if_false]
      have j17 : ¬ (23 + A 0 3 = 17) := by omega
      have j18 : ¬ (23 + A 0 3 = 18) := by omega
      have j19 : ¬ (23 + A 0 3 = 19) := by omega
      have j21 : ¬ (23 + A 0 3 = 21) := by omega
      have jn : ¬ (A 0 3 = A 0 3 + 1) := by omega
      simp only [tyR, roA, au, j17, j18, j19, j21, jn, false_and, and_false, if_false]
      simp
      rw [cn.1, cn.2.1, cn.2.2, c19, c21, c22, c4, cx, q0, q1, m7]
      refine ⟨Nat.le_refl _, rfl, by rw [k21] at r6; exact r6, ⟨rfl, rfl⟩, by rw [m7] at hnc; omega, ?_, r11, r12, r13⟩
      intro k z1 z2
      rw [m7] at hnc
      have h9 := r10 hk6' k (by omega) (by omega)
      rw [c7 k (by omega), c10 k (by omega), ← k7, ← k10, ← k21]
      exact h9
    · refine tyR.rm ?_ (ro_TR (o := A 0 3) (a := A 0 1) (by omega) (RC r g1 (by omega)))
      exact cr (A 0 3 - r) (by omega)
  · intro k hk
    by_cases g : k = A 0 1
    · subst g
      unfold tyL
      refine Or.inr ⟨A 0 3, ho, ?_, Or.inl ?_⟩
      · rw [ro_f (by decide), q3, m9]; exact Nat.le_refl _
      · simp [roA, au]
    · have h9 := LC k (by omega)
      have n13 : C 13 (B 19 (A 0 3)) = 1 := by rw [← hC]; simp [acA, laA, au, m9]; omega
      have n13' : A 17 (A 0 3) ≠ 3 → C 13 (A 18 (A 0 3) - 1) ≠ 0 := fun z => by
        have := m16 z
        have t2 := r2; have t3 := r3
        rw [k18] at t2 t3
        rw [← hC]; simp [acA, laA, au]
        grind
      have c19 : C 19 (A 0 3) = B 19 (A 0 3) := by rw [← hC]; simp [acA, laA, au]
      have c18 : C 18 (A 0 3) = A 18 (A 0 3) := by rw [e18, la_f (by decide), k18]
      have c17 : C 17 (A 0 3) = A 17 (A 0 3) := by rw [e17, la_f (by decide), k17]
      unfold tyL at h9 ⊢
      rw [ro_f (f := 13) (by decide), ro_f (f := 0) (by decide)]
      rcases h9 with h9 | ⟨r, z1, z2, z3⟩
      · exact Or.inl h9
      · by_cases g3 : r = A 0 3
        · subst g3
          rw [c17, c18, c19] at z3
          simp only [Nat.sub_self, cr0] at z3
          rcases z3 with ⟨z3, z4⟩ | ⟨z3, z4, z5⟩
          · left
            have := n13' z3
            rw [z4] at this
            exact this
          · by_cases g4 : k = B 19 (A 0 3)
            · left; rw [g4, n13]; decide
            · refine Or.inr ⟨A 0 3, ho, z2, Or.inr ?_⟩
              simp only [roA, au]
              simp [c19]
              omega
        · refine Or.inr ⟨r, z1, z2, ?_⟩
          rw [q3, m9] at z2
          simp only [cr (A 0 3 - r) (by omega)] at z3
          simp only [roA, au]
          simp [g3]
          simpa using z3
  · have c5 : ∀ p, C 5 p = B 5 p := fun p => by rw [← hC]; simp [acA, laA, au]
    have c6 : ∀ p, C 6 p = B 6 p := fun p => by rw [← hC]; simp [acA, laA, au]
    have c18 : ∀ p, C 18 p = A 18 p := fun p => by rw [e18, la_f (by decide), k18]
    have c21 : ∀ p, C 21 p = A 21 p := fun p => by rw [e21, la_f (by decide), k21]
    have h0 : ¬ (0 = A 0 3) := by omega
    have h1 : ¬ (1 = A 0 3 + 1) := by omega
    obtain ⟨g1, g2, -, -, -, -, g7⟩ := b5
    simp only [tyG, roA, au]
    simp [h0, h1, q0, q3, m9, c5, c6, c18, c21, m11, m12, m13, m14, g1, g2, g7]
    omega

theorem cl_o {A : aM} : (clA A) 0 0 = A 0 0 ∧ (clA A) 0 1 = A 0 1 ∧ (clA A) 0 2 = A 0 2 ∧ (clA A) 0 3 = A 0 3 - 1 := by simp [clA, au]
theorem cl_f {f p : Nat} {A : aM} (h : f ≠ 0 ∧ f ≠ 2 ∧ f ≠ 4) : (clA A) f p = A f p := by simp [clA, au, h]
theorem cl_ff {f : Nat} {A : aM} (h : f ≠ 0 ∧ f ≠ 2 ∧ f ≠ 4) : (clA A) f = A f := funext fun _ => cl_f h
theorem cl_4 {p : Nat} {A : aM} : (clA A) 4 p = if A 4 p = A 0 3 then 0 else A 4 p := by simp [clA, au]
theorem cl_2 {p : Nat} {A : aM} : (clA A) 2 p = if A 4 p = A 0 3 then A 0 0 else A 2 p := by simp [clA, au]
theorem ci_cl {S : Nat → Nat} {T len i : Nat} {A B : aM} (hi : i < len) (hs : S i = 5) (H : tyI S T len i A) (M : tyMd S T len i (fun r => crA S (len - i) i (A 0 3 - r)) (A 21 (A 0 3)) A B) : tyI S T len (i + 1) (clA B) := by
  obtain ⟨-, -, b3, b4, b5, -, -, a8, a9, a10, a11⟩ := H
  obtain ⟨m1, m2, m3, m4, m5, m6, m7, m8, m9, m10, m11, m12, m13, m14, m15, m16⟩ := M
  obtain ⟨R, hR⟩ : ∃ R, len - i = R + 1 := ⟨len - (i + 1), by omega⟩
  have hR' : len - (i + 1) = R := by omega
  have cr0 : crA S (len - i) i 0 = 0 := by rw [hR, crA, if_neg (by omega), if_pos hs, if_pos rfl]
  have cr : ∀ d, 0 < d → crA S (len - i) i d = crA S R (i + 1) (d - 1) := fun d hd => by
    rw [hR, crA, if_neg (by omega), if_pos hs, if_neg (by omega)]
  rw [hR, wfA, if_neg (by omega), if_neg (by omega), if_pos hs] at a11
  obtain ⟨⟨ho, hk3⟩, hwf⟩ := a11
  rw [hR, fdA, if_neg (by omega), if_neg (by omega)] at a10
  obtain ⟨q0, q1, q2, q3⟩ := cl_o (A := B)
  have k21 : ∀ r, B 21 r = A 21 r := fun r => m10 _ _ (by omega)
  have k18 : ∀ r, B 18 r = A 18 r := fun r => m10 _ _ (by omega)
  have k17 : ∀ r, B 17 r = A 17 r := fun r => m10 _ _ (by omega)
  have o17 : (clA B) 17 = A 17 := by rw [cl_ff (by decide)]; exact funext k17
  unfold tyI
  rw [q0, q1, q2, q3, o17, m9, hR', m7]
  refine ⟨?_, ?_, ?_, ?_, ?_, ?_, ?_, by omega, by omega, by omega, hwf⟩
  · intro p hp
    have h := m1 p hp
    have h5 := cl_ff (f := 5) (A := B) (by decide)
    have h6 := cl_ff (f := 6) (A := B) (by decide)
    have h1 := cl_ff (f := 1) (A := B) (by decide)
    have h3 := cl_ff (f := 3) (A := B) (by decide)
    have h10 := cl_ff (f := 10) (A := B) (by decide)
    have h12 := cl_ff (f := 12) (A := B) (by decide)
    have h21 := cl_ff (f := 21) (A := B) (by decide)
    have e21 := k21 (A 0 3)
    unfold tyP at h ⊢
    rw [q0, q1, q3, h1, h3, h5, h6, h10, h12, h21, cl_4, cl_2, m9]
    rw [m9] at h
    grind
  · intro k hk
    have h := m2 k (by omega)
    unfold tyK at h ⊢
    rw [q0, q1, cl_ff (f := 5) (by decide), cl_ff (f := 6) (by decide), cl_ff (f := 7) (by decide), cl_ff (f := 8) (by decide), cl_ff (f := 9) (by decide), cl_ff (f := 10) (by decide), cl_ff (f := 11) (by decide), cl_ff (f := 12) (by decide), cl_ff (f := 13) (by decide)]
    exact h
  · intro r g1 g2
    have h := m3 r g1 (by omega)
    have e : crA S (len - i) i (A 0 3 - r) = crA S R (i + 1) (A 0 3 - 1 - r) := by rw [cr _ (by omega), show A 0 3 - r - 1 = A 0 3 - 1 - r by omega]
    have e2 : ∀ p, (clA B) 4 p = r ↔ B 4 p = r := fun p => by
      rw [cl_4, m9]
      split <;> omega
    unfold tyR at h ⊢
    rw [q0, q1, cl_ff (f := 7) (by decide), cl_ff (f := 10) (by decide), cl_ff (f := 12) (by decide), cl_ff (f := 17) (by decide), cl_ff (f := 18) (by decide), cl_ff (f := 19) (by decide), cl_ff (f := 21) (by decide), cl_ff (f := 22) (by decide), cl_ff (f := 23 + r) (by omega)]
    simp only [e] at h
    simp only [e2]
    exact h
  · intro k hk
    have h := m4 k (by omega)
    unfold tyL at h ⊢
    rw [q3, m9, cl_ff (f := 13) (by decide), cl_ff (f := 17) (by decide), cl_ff (f := 18) (by decide), cl_ff (f := 19) (by decide)]
    rcases h with h | ⟨r, z1, z2, z3⟩
    · exact Or.inl h
    · rw [m9] at z2
      by_cases g3 : r = A 0 3
      · subst g3
        simp only [Nat.sub_self, cr0] at z3
        rcases z3 with ⟨z3, z4⟩ | ⟨z3, z4, z5⟩
        · left
          rw [k17] at z3
          rw [k18] at z4
          have := m16 z3
          rw [z4] at this
          exact this
        · omega
      · have e : crA S (len - i) i (A 0 3 - r) = crA S R (i + 1) (A 0 3 - 1 - r) := by rw [cr _ (by omega), show A 0 3 - r - 1 = A 0 3 - 1 - r by omega]
        simp only [e] at z3
        exact Or.inr ⟨r, z1, by omega, z3⟩
  · obtain ⟨g1, g2, -, -, -, -, g7⟩ := b5
    unfold tyG
    rw [q0, q3, m9, cl_ff (f := 5) (by decide), cl_ff (f := 6) (by decide), cl_ff (f := 18) (by decide), cl_ff (f := 21) (by decide), k18, k21, k21, m11, m12, m13, m14, show A 0 3 - 1 + 1 = A 0 3 by omega]
    exact ⟨g1, g2, rfl, rfl, rfl, rfl, by omega⟩
  · unfold tyS at m5 ⊢
    rw [q0, q2, cl_ff (f := 1) (by decide), cl_ff (f := 3) (by decide), cl_ff (f := 14) (by decide), cl_ff (f := 15) (by decide), cl_ff (f := 16) (by decide)]
    exact m5
  · unfold tyC at m6 ⊢
    rw [q0, q2, cl_ff (f := 1) (by decide), cl_ff (f := 3) (by decide), cl_ff (f := 14) (by decide), cl_ff (f := 15) (by decide), cl_ff (f := 16) (by decide)]
    exact m6
theorem ci_step {S O : Nat → Nat} {T len i : Nat} {A : aM} (h7 : ∀ k, k < len → S k ≤ 7) (h1 : ∀ k, k < len → S k = 1 → O k - 1 < 6) (h2 : ∀ k, k < len → S k = 2 → O k - 1 < T) (h4 : ∀ k, S k = 4 → O k ≤ T) (hi : i < len) (H : tyI S T len i A) : tyI S T len (i + 1) (stA S O len i A) := by
  have hb := h7 i hi
  by_cases c0 : S i = 0
  · exact ci_print hi c0 H
  by_cases c1 : S i = 1
  · rw [stA, if_neg c0, if_pos c1]
    exact ci_site hi (Or.inl c1) (Or.inl rfl) (fun _ => h1 i hi c1) (fun z => by omega) (fun z => by omega) H
  by_cases c2 : S i = 2
  · rw [stA, if_neg c0, if_neg c1, if_pos c2]
    exact ci_site hi (Or.inr (Or.inl c2)) (Or.inr (Or.inl rfl)) (fun z => by omega) (fun _ => h2 i hi c2) (fun z => by omega) H
  by_cases c7 : S i = 7
  · rw [stA, if_neg c0, if_neg c1, if_neg c2, if_pos c7]
    exact ci_site hi (Or.inr (Or.inr c7)) (Or.inr (Or.inr rfl)) (fun z => by omega) (fun z => by omega) (fun _ => c7) H
  by_cases c6 : S i = 6
  · exact ci_local hi c6 H
  by_cases c3 : S i = 3
  · exact (ci_try h4 hi c3 H).1
  obtain ⟨R, hR⟩ : ∃ R, len - i = R + 1 := ⟨len - (i + 1), by omega⟩
  have a11 := H.2.2.2.2.2.2.2.2.2.2
  rw [hR, wfA, if_neg (by omega)] at a11
  by_cases c4 : S i = 4
  · rw [if_pos c4] at a11
    rw [stA, if_neg c0, if_neg c1, if_neg c2, if_neg c7, if_neg c6, if_neg c3, if_pos c4]
    have hk := (H.2.2.1 (A 0 3) a11.1.1 (Nat.le_refl _)).1
    split
    · rename_i k3
      exact ci_bc hi c4 H (ex_mid a11.1.1 k3 H)
    · rename_i k3
      refine ci_bc hi c4 H (fi_mid a11.1.1 (Or.inr ⟨?_, rfl⟩) H)
      have := a11.1.2
      omega
  · have c5 : S i = 5 := by omega
    rw [if_neg c4, if_pos c5] at a11
    rw [stA, if_neg c0, if_neg c1, if_neg c2, if_neg c7, if_neg c6, if_neg c3, if_neg c4]
    have hk := (H.2.2.1 (A 0 3) a11.1.1 (Nat.le_refl _)).1
    split
    · rename_i k6
      exact ci_cl hi c5 H (fi_mid a11.1.1 (Or.inl ⟨k6, rfl⟩) H)
    · rename_i k6
      refine ci_cl hi c5 H (fi_mid a11.1.1 (Or.inr ⟨?_, rfl⟩) H)
      have := a11.1.2
      omega
def a0A (A : aM) : aM := au (au (au (au (au (au (au (au A 0 0 0) 0 1 0) 0 2 0) 0 3 0) 18 0 0) 21 1 0) 6 0 0) 5 0 0
theorem ci_0 {S : Nat → Nat} {T len : Nat} {A : aM} {K : Nat → Nat} (hl : len ≤ 20) (hw : wfA S len 0 0 K) : tyI S T len 0 (a0A A) := by
  have e0 : (a0A A) 0 0 = 0 ∧ (a0A A) 0 1 = 0 ∧ (a0A A) 0 2 = 0 ∧ (a0A A) 0 3 = 0 := by simp [a0A, au]
  have hf := fd_le (S := S) len 0 0
  unfold tyI
  rw [e0.1, e0.2.1, e0.2.2.1, e0.2.2.2, Nat.sub_zero]
  refine ⟨fun p hp => by omega, fun p hp => by omega, fun r h1 h2 => by omega, fun p hp => by omega, ?_, ?_, ?_, by omega, by omega, ?_, wfA_congr len 0 0 (fun j h1 h2 => by omega) hw⟩
  · simp [tyG, a0A, au]
  · unfold tyS
    rw [e0.1, e0.2.2.1]
    exact ⟨fun s h => by omega, fun s h => by omega, fun s h => by omega⟩
  · unfold tyC
    rw [e0.1, e0.2.2.1]
    exact ⟨rfl, fun s h => by omega⟩
  · simp only [suA] at hf
    omega
def runA (S O : Nat → Nat) (len : Nat) (A : aM) : Nat → aM
  | 0 => a0A A
  | i + 1 => stA S O len i (runA S O len A i)
theorem ci_all {S O : Nat → Nat} {T len : Nat} {A : aM} {K : Nat → Nat} (hl : len ≤ 20) (h7 : ∀ k, k < len → S k ≤ 7) (h1 : ∀ k, k < len → S k = 1 → O k - 1 < 6) (h2 : ∀ k, k < len → S k = 2 → O k - 1 < T) (h4 : ∀ k, S k = 4 → O k ≤ T) (hw : wfA S len 0 0 K) : ∀ i, i ≤ len → tyI S T len i (runA S O len A i)
  | 0, _ => ci_0 hl hw
  | i + 1, h => ci_step h7 h1 h2 h4 (by omega) (ci_all hl h7 h1 h2 h4 hw i (by omega))
