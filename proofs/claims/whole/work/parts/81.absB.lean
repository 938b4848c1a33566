theorem si_k {h f p : Nat} {A : aM} (h1 : f ≠ 14) (h2 : f ≠ 15) (h3 : f ≠ 16) (h4 : ¬ (f = 0 ∧ p = 2)) : siA h A f p = A f p := by
  unfold siA
  split <;> simp [au, h1, h2, h3, h4]
def sameS (A B : aM) : Prop := ∀ f p, f ≠ 14 → f ≠ 15 → f ≠ 16 → ¬ (f = 0 ∧ p = 2) → B f p = A f p
theorem si_same {h : Nat} {A : aM} : sameS A (siA h A) := fun f p h1 h2 h3 h4 => si_k h1 h2 h3 h4
theorem sameS.f {A B : aM} (H : sameS A B) (f : Nat) (h : f ≠ 14 ∧ f ≠ 15 ∧ f ≠ 16 ∧ f ≠ 0) : B f = A f := funext fun p => H f p h.1 h.2.1 h.2.2.1 (fun z => h.2.2.2 z.1)
theorem sameS.o {A B : aM} (H : sameS A B) : B 0 0 = A 0 0 ∧ B 0 1 = A 0 1 ∧ B 0 3 = A 0 3 := ⟨H 0 0 (by decide) (by decide) (by decide) (by decide), H 0 1 (by decide) (by decide) (by decide) (by decide), H 0 3 (by decide) (by decide) (by decide) (by decide)⟩
theorem sameS.tp {A B : aM} (H : sameS A B) {T p : Nat} (h : tyP T A p) : tyP T B p := by
  unfold tyP at h ⊢
  obtain ⟨o0, o1, o3⟩ := H.o
  rw [o0, o1, o3, H.f 1 (by decide), H.f 2 (by decide), H.f 3 (by decide), H.f 4 (by decide), H.f 5 (by decide), H.f 6 (by decide), H.f 10 (by decide), H.f 12 (by decide), H.f 21 (by decide)]
  exact h
theorem sameS.ta {A B : aM} (H : sameS A B) {T p : Nat} (h : tyK T A p) : tyK T B p := by
  unfold tyK at h ⊢
  obtain ⟨o0, o1, o3⟩ := H.o
  rw [o0, o1, H.f 5 (by decide), H.f 6 (by decide), H.f 7 (by decide), H.f 8 (by decide), H.f 9 (by decide), H.f 10 (by decide), H.f 11 (by decide), H.f 12 (by decide), H.f 13 (by decide)]
  exact h
theorem sameS.tr {A B : aM} (H : sameS A B) {i r : Nat} {rm : Nat → Nat} (h : tyR A i rm r) : tyR B i rm r := by
  unfold tyR at h ⊢
  obtain ⟨o0, o1, o3⟩ := H.o
  rw [o0, o1, H.f 4 (by decide), H.f 7 (by decide), H.f 10 (by decide), H.f 12 (by decide), H.f 17 (by decide), H.f 18 (by decide), H.f 19 (by decide), H.f 21 (by decide), H.f 22 (by decide), H.f (23 + r) (by omega)]
  exact h
theorem sameS.tl {A B : aM} (H : sameS A B) {k : Nat} {rm : Nat → Nat} (h : tyL A rm k) : tyL B rm k := by
  unfold tyL at h ⊢
  obtain ⟨o0, o1, o3⟩ := H.o
  rw [o3, H.f 13 (by decide), H.f 17 (by decide), H.f 18 (by decide), H.f 19 (by decide)]
  exact h
theorem sameS.tg {A B : aM} (H : sameS A B) (h : tyG A) : tyG B := by
  unfold tyG at h ⊢
  obtain ⟨o0, o1, o3⟩ := H.o
  rw [o0, o3, H.f 5 (by decide), H.f 6 (by decide), H.f 18 (by decide), H.f 21 (by decide)]
  exact h
theorem tyR.more {A : aM} {i j r : Nat} {rm : Nat → Nat} (h3 : tyR A i rm r) (h : i ≤ j) : tyR A j rm r :=
  ⟨h3.1, h3.2.1, h3.2.2.1, h3.2.2.2.1, h3.2.2.2.2.1, h3.2.2.2.2.2.1, h3.2.2.2.2.2.2.1, h3.2.2.2.2.2.2.2.1, h3.2.2.2.2.2.2.2.2.1, h3.2.2.2.2.2.2.2.2.2.1, Nat.le_trans h3.2.2.2.2.2.2.2.2.2.2.1 h, h3.2.2.2.2.2.2.2.2.2.2.2.1, h3.2.2.2.2.2.2.2.2.2.2.2.2⟩
theorem st_TS {l v h r c w : Nat} {A : aM} (H : tyS A) : tyS (emA l v h r c w (siA h A)) := by
  unfold siA
  split
  · simp only [tyS, emA, au] at H ⊢
    simp
    grind
  · simp only [tyS, emA, au] at H ⊢
    simp
    grind
theorem st_TC {l v h r c w : Nat} {A : aM} (hl : l = 1 ∨ l = 2 ∨ l = 3) (H : tyC A) : tyC (emA l v h r c w (siA h A)) := by
  have o0 := (si_same (h := h) (A := A)).o.1
  have e1 : csA ((emA l v h r c w (siA h A)) 1) ((emA l v h r c w (siA h A)) 3) (A 0 0) = csA (A 1) (A 3) (A 0 0) := csA_congr _ (fun k hk => by
    simp only [emA, au, o0]
    simp [(si_same (h := h) (A := A)).f 1 (by decide), (si_same (h := h) (A := A)).f 3 (by decide)]; omega)
  have e3 : (emA l v h r c w (siA h A)) 0 0 = A 0 0 + 1 := by simp [emA, au, o0]
  have e4 : (emA l v h r c w (siA h A)) 1 (A 0 0) = l := by simp [emA, au, o0]
  have e5 : (emA l v h r c w (siA h A)) 3 (A 0 0) = h := by simp [emA, au, o0]
  unfold tyC at H ⊢
  rw [e3, csA, e4, e5, e1, if_pos hl]
  obtain ⟨H1, H2⟩ := H
  rw [H1]
  by_cases h1 : 0 < A 0 2 ∧ A 16 (A 0 2 - 1) = h
  · rw [if_pos ⟨h1.1, by rw [(H2 (A 0 2 - 1) (by omega)).2.2]; exact h1.2⟩]
    have e6 : siA h A = au A 15 (A 0 2 - 1) (A 0 0) := by rw [siA, if_pos h1]
    rw [e6]
    simp only [emA, au]
    simp
    grind
  · rw [if_neg (fun z => h1 ⟨z.1, by rw [← (H2 (A 0 2 - 1) (by omega)).2.2]; exact z.2⟩)]
    have e6 : siA h A = au (au (au (au A 14 (A 0 2) (A 0 0)) 15 (A 0 2) (A 0 0)) 16 (A 0 2) h) 0 2 (A 0 2 + 1) := by rw [siA, if_neg h1]
    rw [e6]
    simp only [emA, au]
    simp
    grind
theorem si_q {h : Nat} {A : aM} : (siA h A) 0 2 ≤ A 0 2 + 1 := by
  unfold siA; split <;> simp [au]
theorem ci_site {S : Nat → Nat} {T len i l v : Nat} {A : aM} (hi : i < len) (hs : S i = 1 ∨ S i = 2 ∨ S i = 7) (hl : l = 1 ∨ l = 2 ∨ l = 3) (h1 : l = 1 → v < 6) (h2 : l = 2 → v < T) (h3 : l = 3 → S i = 7) (H : tyI S T len i A) : tyI S T len (i + 1) (emA l v (A 18 (A 0 3)) 0 (A 5 (A 0 0)) 0 (siA (A 18 (A 0 3)) A)) := by
  obtain ⟨a1, a2, a3, a4, a5, a6, a7, a8, a9, a10, a11⟩ := H
  obtain ⟨R, hR⟩ : ∃ R, len - i = R + 1 := ⟨len - (i + 1), by omega⟩
  have hR' : len - (i + 1) = R := by omega
  have cr : ∀ d, crA S (len - i) i d = crA S (len - (i + 1)) (i + 1) d := fun d => by
    rw [hR, hR', crA, if_neg (by omega), if_neg (by omega), if_neg (by omega)]
  simp only [cr] at a3 a4
  have HS := si_same (h := A 18 (A 0 3)) (A := A)
  obtain ⟨q0, q1, q3⟩ := HS.o
  obtain ⟨o1, o2, o3, o4, o5⟩ := em_o (l := l) (v := v) (h := A 18 (A 0 3)) (r := 0) (c := A 5 (A 0 0)) (w := 0) (A := siA (A 18 (A 0 3)) A)
  have hq := si_q (h := A 18 (A 0 3)) (A := A)
  have hcd : 0 < A 0 3 → A 18 (A 0 3) ≤ A 0 1 ∧ A 10 (A 18 (A 0 3) - 1) = A 21 (A 0 3 + 1) := fun h => ⟨(a3 (A 0 3) h (Nat.le_refl _)).2.2.1, (a3 (A 0 3) h (Nat.le_refl _)).2.2.2.1⟩
  have hwf := a11
  rw [hR] at hwf
  have hdep : ∀ r, 1 ≤ r → r ≤ A 0 3 → A 21 (r + 1) = A 21 r + (if A 17 r = 4 then 1 else 0) := fun r g1 g2 => (a3 r g1 g2).2.2.2.2.1
  have hmono : ∀ d r, r + d = A 0 3 → 1 ≤ r → A 17 r = 4 → 0 < A 21 (A 0 3 + 1) := by
    have base : ∀ d r, r + d = A 0 3 → 1 ≤ r → A 21 (r + 1) ≤ A 21 (A 0 3 + 1) := by
      intro d
      induction d with
      | zero => intro r g1 g2; rw [show r = A 0 3 by omega]; exact Nat.le_refl _
      | succ d ih =>
        intro r g1 g2
        have := ih (r + 1) (by omega) (by omega)
        have := hdep (r + 1) (by omega) (by omega)
        omega
    intro d r g1 g2 g3
    have := base d r g1 g2
    have := hdep r g2 (by omega)
    rw [if_pos g3] at this
    omega
  unfold tyI
  rw [o1, o2, o3, o4, o5, q0, q1, q3, HS.f 17 (by decide)]
  have a1' : ∀ p, p < (siA (A 18 (A 0 3)) A) 0 0 → tyP T (siA (A 18 (A 0 3)) A) p := fun p hp => HS.tp (a1 p (by rw [← q0]; exact hp))
  refine ⟨?_, fun k hk => em_TA (fun k hk => HS.ta (a2 k (by rw [← q1]; exact hk))) k (by rw [q1]; exact hk), ?_, ?_, ?_, st_TS a6, st_TC hl a7, by omega, by omega, ?_, ?_⟩
  · have h9 := em_TP (l := l) (v := v) (h := A 18 (A 0 3)) (r := 0) (c := A 5 (A 0 0)) (w := 0) a1' ?_
    · rw [q0] at h9; exact h9
    · have hR3 : l = 3 → 0 < A 21 (A 0 3 + 1) := by
        intro g
        have hs7 := h3 g
        rw [wfA, if_neg (by omega), if_neg (by omega), if_neg (by omega), if_pos hs7] at hwf
        obtain ⟨⟨j, g1, g2, g3⟩, -⟩ := hwf
        exact hmono (A 0 3 - j) j (by omega) g1 g3
      have k10 := HS.f 10 (by decide)
      have k12 := HS.f 12 (by decide)
      have k21 := HS.f 21 (by decide)
      have k5 := HS.f 5 (by decide)
      have k6 := HS.f 6 (by decide)
      unfold tyG at a5
      simp only [tyP, emA, au, q0, q1, q3, k10, k12, k21, k5, k6]
      simp
      have h0 : A 0 3 = 0 → A 18 (A 0 3) = 0 := fun z => by rw [z]; exact a5.1
      grind
  · intro r g1 g2
    exact tyR.more (em_TR g1 (HS.tr (a3 r g1 g2))) (by omega)
  · intro k hk
    exact em_TL (HS.tl (a4 k hk))
  · refine em_TG (HS.tg a5) ?_
    rw [q0, HS.f 5 (by decide)]
  · rw [hR, fdA, if_neg (by omega), if_neg (by omega)] at a10
    rw [hR']; omega
  · rw [wfA, if_neg (by omega), if_neg (by omega), if_neg (by omega)] at hwf
    rw [hR']
    by_cases c7 : S i = 7
    · rw [if_pos c7] at hwf; exact hwf.2
    · rw [if_neg c7] at hwf; exact hwf
theorem ac_TP {T k h e r s p : Nat} {A : aM} (H : tyP T A p) : tyP T (acA k h e r s A) p := by
  simp only [tyP, acA, au] at H ⊢
  simp
  grind
theorem ac_TA {T k h e r s : Nat} {A : aM} (H : ∀ k, k < A 0 1 → tyK T A k) (hn : tyK T (acA k h e r s A) (A 0 1)) : ∀ j, j < A 0 1 + 1 → tyK T (acA k h e r s A) j := by
  intro j hj
  by_cases h1 : j = A 0 1
  · rw [h1]; exact hn
  · have h2 := H j (by omega)
    simp only [tyK, acA, au] at h2 ⊢
    simp
    grind
theorem ac_TR {k h e r s i : Nat} {rm : Nat → Nat} {A : aM} {j : Nat} (hj : 1 ≤ j) (H : tyR A i rm j) : tyR (acA k h e r s A) i rm j := by
  have h1 : ¬ (23 + j = 0) := by omega
  have h2 : ¬ (23 + j = 7) := by omega
  have h3 : ¬ (23 + j = 8) := by omega
  have h4 : ¬ (23 + j = 9) := by omega
  have h5 : ¬ (23 + j = 10) := by omega
  have h6 : ¬ (23 + j = 11) := by omega
  have h7 : ¬ (23 + j = 12) := by omega
  have h8 : ¬ (23 + j = 13) := by omega
  simp only [tyR, acA, au] at H ⊢
  simp only [h1, h2, h3, h4, h5, h6, h7, h8, false_and, if_false]
  simp
  grind
theorem ac_TL {k h e r s : Nat} {rm : Nat → Nat} {A : aM} {j : Nat} (hj : j < A 0 1) (H : tyL A rm j) : tyL (acA k h e r s A) rm j := by
  simp only [tyL, acA, au] at H ⊢
  simp
  grind
theorem ac_TG {k h e r s : Nat} {A : aM} (H : tyG A) : tyG (acA k h e r s A) := by
  simp only [tyG, acA, au] at H ⊢
  simpa using H
theorem ac_TS {k h e r s : Nat} {A : aM} (H : tyS A) : tyS (acA k h e r s A) := by
  simp only [tyS, acA, au] at H ⊢
  simpa using H
theorem ac_1 {k h e r s : Nat} {A : aM} : (acA k h e r s A) 1 = A 1 ∧ (acA k h e r s A) 3 = A 3 ∧ (acA k h e r s A) 14 = A 14 ∧ (acA k h e r s A) 15 = A 15 ∧ (acA k h e r s A) 16 = A 16 ∧ (acA k h e r s A) 17 = A 17 ∧ (acA k h e r s A) 18 = A 18 ∧ (acA k h e r s A) 21 = A 21 := by
  refine ⟨?_, ?_, ?_, ?_, ?_, ?_, ?_, ?_⟩ <;> (funext j; simp [acA, au])
theorem ac_o {k h e r s : Nat} {A : aM} : (acA k h e r s A) 0 0 = A 0 0 ∧ (acA k h e r s A) 0 1 = A 0 1 + 1 ∧ (acA k h e r s A) 0 2 = A 0 2 ∧ (acA k h e r s A) 0 3 = A 0 3 := by
  simp [acA, au]
theorem ac_TC {k h e r s : Nat} {A : aM} (H : tyC A) : tyC (acA k h e r s A) := by
  unfold tyC at H ⊢
  obtain ⟨e1, e2, e3, e4, e5, -, -, -⟩ := ac_1 (k := k) (h := h) (e := e) (r := r) (s := s) (A := A)
  obtain ⟨q0, -, q2, -⟩ := ac_o (k := k) (h := h) (e := e) (r := r) (s := s) (A := A)
  rw [e1, e2, e3, e4, e5, q0, q2]
  exact H
theorem op_TP {T kd nb h p : Nat} {A : aM} (H : tyP T A p) : tyP T (opA kd nb h A) p := by
  simp only [tyP, opA, au] at H ⊢
  simp
  grind
theorem op_TA {T kd nb h p : Nat} {A : aM} (H : tyK T A p) : tyK T (opA kd nb h A) p := by
  simp only [tyK, opA, au] at H ⊢
  simp
  grind
theorem op_TR {kd nb h i : Nat} {rm : Nat → Nat} {A : aM} {j : Nat} (hj : 1 ≤ j) (hj2 : j ≤ A 0 3) (H : tyR A i rm j) : tyR (opA kd nb h A) i rm j := by
  have h1 : ¬ (23 + j = 0) := by omega
  have h2 : ¬ (23 + j = 17) := by omega
  have h3 : ¬ (23 + j = 18) := by omega
  have h4 : ¬ (23 + j = 19) := by omega
  have h5 : ¬ (23 + j = 20) := by omega
  have h6 : ¬ (23 + j = 21) := by omega
  have h7 : ¬ (23 + j = 22) := by omega
  simp only [tyR, opA, au] at H ⊢
  simp only [h1, h2, h3, h4, h5, h6, h7, false_and, if_false]
  simp
  grind
theorem op_TL {kd nb h : Nat} {rm : Nat → Nat} {A : aM} {j : Nat} (H : tyL A rm j) : tyL (opA kd nb h A) rm j := by
  simp only [tyL, opA, au] at H ⊢
  simp
  grind
theorem op_TG {kd nb h : Nat} {A : aM} (ho : A 0 3 < 5) (H : tyG A) : tyG (opA kd nb h A) := by
  simp only [tyG, opA, au] at H ⊢
  simp
  grind
theorem op_TS {kd nb h : Nat} {A : aM} (H : tyS A) : tyS (opA kd nb h A) := by
  simp only [tyS, opA, au] at H ⊢
  simpa using H
theorem op_1 {kd nb h : Nat} {A : aM} : (opA kd nb h A) 1 = A 1 ∧ (opA kd nb h A) 3 = A 3 ∧ (opA kd nb h A) 14 = A 14 ∧ (opA kd nb h A) 15 = A 15 ∧ (opA kd nb h A) 16 = A 16 := by
  refine ⟨?_, ?_, ?_, ?_, ?_⟩ <;> (funext j; simp [opA, au])
theorem op_o {kd nb h : Nat} {A : aM} : (opA kd nb h A) 0 0 = A 0 0 ∧ (opA kd nb h A) 0 1 = A 0 1 ∧ (opA kd nb h A) 0 2 = A 0 2 ∧ (opA kd nb h A) 0 3 = A 0 3 + 1 := by
  simp [opA, au]
theorem op_TC {kd nb h : Nat} {A : aM} (H : tyC A) : tyC (opA kd nb h A) := by
  unfold tyC at H ⊢
  obtain ⟨e1, e2, e3, e4, e5⟩ := op_1 (kd := kd) (nb := nb) (h := h) (A := A)
  obtain ⟨q0, -, q2, -⟩ := op_o (kd := kd) (nb := nb) (h := h) (A := A)
  rw [e1, e2, e3, e4, e5, q0, q2]
  exact H
theorem op_17 {kd nb h : Nat} {A : aM} : (opA kd nb h A) 17 = fun j => if j = A 0 3 + 1 then kd else A 17 j := by
  funext j; simp [opA, au]
theorem tyR.rm {A : aM} {i r : Nat} {rm rm' : Nat → Nat} (h : rm r = rm' r) (h3 : tyR A i rm r) : tyR A i rm' r := by
  unfold tyR at h3 ⊢
  rw [← h]; exact h3
theorem tyL.rm {A : aM} {k : Nat} {rm rm' : Nat → Nat} (h : ∀ r, 1 ≤ r → r ≤ A 0 3 → rm r = rm' r) (h3 : tyL A rm k) : tyL A rm' k := by
  unfold tyL at h3 ⊢
  rcases h3 with h3 | ⟨r, a, b, c⟩
  · exact Or.inl h3
  · exact Or.inr ⟨r, a, b, by rw [← h r a b]; exact c⟩
theorem tyI.head {S : Nat → Nat} {T len i : Nat} {A : aM} (H : tyI S T len i A) : A 18 (A 0 3) = 0 ∨ (0 < A 18 (A 0 3) ∧ A 18 (A 0 3) ≤ A 0 1 ∧ A 10 (A 18 (A 0 3) - 1) = A 21 (A 0 3 + 1) ∧ A 11 (A 18 (A 0 3) - 1) ≤ A 0 1) := by
  by_cases h : A 0 3 = 0
  · left; rw [h]; exact H.2.2.2.2.1.1
  · have := H.2.2.1 (A 0 3) (by omega) (Nat.le_refl _)
    right
    exact ⟨this.2.1, this.2.2.1, this.2.2.2.1, (H.2.1 (A 18 (A 0 3) - 1) (by have h1 := this.2.1; have h2 := this.2.2.1; omega)).2.2.2.2.2.1⟩
theorem ci_local {S O : Nat → Nat} {T len i : Nat} {A : aM} (hi : i < len) (hs : S i = 6) (H : tyI S T len i A) : tyI S T len (i + 1) (stA S O len i A) := by
  have hd := H.head
  rw [stA, if_neg (by omega), if_neg (by omega), if_neg (by omega), if_neg (by omega), if_pos hs]
  obtain ⟨a1, a2, a3, a4, a5, a6, a7, a8, a9, a10, a11⟩ := H
  obtain ⟨R, hR⟩ : ∃ R, len - i = R + 1 := ⟨len - (i + 1), by omega⟩
  have hR' : len - (i + 1) = R := by omega
  have cr : ∀ d, crA S (len - i) i d = crA S (len - (i + 1)) (i + 1) (d + 1) := fun d => by
    rw [hR, hR', crA, if_pos (by omega)]
  simp only [cr] at a3 a4
  rw [hR, wfA, if_pos (by omega)] at a11
  obtain ⟨q0, q1, q2, q3⟩ := ac_o (k := 0) (h := A 18 (A 0 3)) (e := A 21 (A 0 3 + 1)) (r := A 0 1 + 1) (s := 0) (A := A)
  obtain ⟨p0, p1, p2, p3⟩ := op_o (kd := 6) (nb := O i - 1) (h := A 0 1 + 1) (A := acA 0 (A 18 (A 0 3)) (A 21 (A 0 3 + 1)) (A 0 1 + 1) 0 A)
  have k17 := (ac_1 (k := 0) (h := A 18 (A 0 3)) (e := A 21 (A 0 3 + 1)) (r := A 0 1 + 1) (s := 0) (A := A)).2.2.2.2.2.1
  have hTA : ∀ j, j < A 0 1 + 1 → tyK T (acA 0 (A 18 (A 0 3)) (A 21 (A 0 3 + 1)) (A 0 1 + 1) 0 A) j := by
    refine ac_TA a2 ?_
    simp only [tyK, acA, au]
    simp
    grind
  unfold tyI
  rw [p0, p1, p2, p3, q0, q1, q2, q3, op_17, k17, q3]
  refine ⟨fun p hp => op_TP (ac_TP (a1 p hp)), fun k hk => op_TA (hTA k hk), ?_, ?_, op_TG (by rw [q3]; exact a11.1) (ac_TG a5), op_TS (ac_TS a6), op_TC (ac_TC a7), by omega, by omega, ?_, ?_⟩
  · intro r g1 g2
    by_cases g3 : r = A 0 3 + 1
    · subst g3
      have g5 : ∀ p, p < A 0 0 → ¬ A 4 p = A 0 3 + 1 := fun p hp z => by
        have := (a1 p hp).2.2.2.2.2.2.1 (by omega)
        omega
      have g6 : A 21 (A 0 3 + 1) + 1 ≤ A 0 3 + 1 := by
        by_cases h : A 0 3 = 0
        · rw [h, a5.2.1]; omega
        · have h5 := (a3 (A 0 3) (by omega) (Nat.le_refl _)).2.2.2.2.1
          have h6 := (a3 (A 0 3) (by omega) (Nat.le_refl _)).2.2.2.2.2.1
          split at h5 <;> omega
      simp only [tyR, opA, acA, au]
      simp
      grind
    · refine tyR.more (tyR.rm ?_ (op_TR g1 (by rw [q3]; omega) (ac_TR g1 (a3 r g1 (by omega))))) (by omega)
      show crA S (len - (i + 1)) (i + 1) (A 0 3 - r + 1) = crA S (len - (i + 1)) (i + 1) (A 0 3 + 1 - r)
      rw [show A 0 3 - r + 1 = A 0 3 + 1 - r by omega]
  · intro k hk
    by_cases g3 : k = A 0 1
    · subst g3
      simp only [tyL, opA, acA, au]
      simp
      refine ⟨A 0 3 + 1, by omega, by omega, by simp⟩
    · exact op_TL (ac_TL (show k < A 0 1 by omega) (tyL.rm (fun r b1 b2 => by
        show crA S (len - (i + 1)) (i + 1) (A 0 3 - r + 1) = crA S (len - (i + 1)) (i + 1) (A 0 3 + 1 - r)
        rw [show A 0 3 - r + 1 = A 0 3 + 1 - r by omega]) (a4 k (by omega))))
  · rw [hR, fdA, if_pos (by omega)] at a10
    rw [hR']; omega
  · rw [hR']
    rw [hs] at a11
    exact a11.2
def tyX (A M : aM) : Prop := (M 0 0 = A 0 0 ∧ M 0 2 = A 0 2 ∧ M 0 3 = A 0 3 ∧ A 0 1 ≤ M 0 1) ∧ (∀ f p, f ≠ 0 → f < 7 ∨ 13 < f → M f p = A f p) ∧ ∀ f p, 7 ≤ f → f ≤ 13 → p < A 0 1 → M f p = A f p
theorem tyX.f {A M : aM} (H : tyX A M) (f : Nat) (h : f ≠ 0 ∧ (f < 7 ∨ 13 < f)) : M f = A f := funext fun p => H.2.1 f p h.1 h.2
theorem tyX.tp {A M : aM} (H : tyX A M) {T p : Nat} (h : tyP T A p) : tyP T M p := by
  unfold tyP at h ⊢
  obtain ⟨o0, o2, o3, o1⟩ := H.1
  rw [o0, o3, H.f 1 (by decide), H.f 2 (by decide), H.f 3 (by decide), H.f 4 (by decide), H.f 5 (by decide), H.f 6 (by decide), H.f 21 (by decide)]
  have h10 := H.2.2 10 (A 3 p - 1) (by decide) (by decide)
  have h12 := H.2.2 12 (A 6 p / 2) (by decide) (by decide)
  grind
theorem tyX.ta {A M : aM} (H : tyX A M) {T k : Nat} (hk : k < A 0 1) (h : tyK T A k) : tyK T M k := by
  unfold tyK at h ⊢
  obtain ⟨o0, o2, o3, o1⟩ := H.1
  rw [o0, H.f 5 (by decide), H.f 6 (by decide), H.2.2 7 k (by decide) (by decide) hk, H.2.2 8 k (by decide) (by decide) hk, H.2.2 9 k (by decide) (by decide) hk, H.2.2 10 k (by decide) (by decide) hk, H.2.2 11 k (by decide) (by decide) hk, H.2.2 12 k (by decide) (by decide) hk, H.2.2 13 k (by decide) (by decide) hk]
  have h10 := H.2.2 10 (A 9 k - 1) (by decide) (by decide)
  have h11 := H.2.2 11 (A 9 k - 1) (by decide) (by decide)
  grind
theorem tyX.tr {A M : aM} (H : tyX A M) {i r : Nat} {rm : Nat → Nat} (h : tyR A i rm r) : tyR M i rm r := by
  unfold tyR at h ⊢
  obtain ⟨o0, o2, o3, o1⟩ := H.1
  rw [o0, H.f 4 (by decide), H.f 17 (by decide), H.f 18 (by decide), H.f 19 (by decide), H.f 21 (by decide), H.f 22 (by decide), H.f (23 + r) (by omega)]
  have h7 := H.2.2 7 (A 18 r - 1) (by decide) (by decide)
  have h10 := H.2.2 10 (A 18 r - 1) (by decide) (by decide)
  have h12 := H.2.2 12 (A 18 r - 1) (by decide) (by decide)
  obtain ⟨a1, a2, a3, a4, a5, a6, a7, a8, a9, a10, a11, a12, a13⟩ := h
  refine ⟨a1, a2, by omega, by rw [h10 (by omega)]; exact a4, a5, a6, by rw [h7 (by omega), h12 (by omega)]; exact a7, by rw [h7 (by omega), h12 (by omega)]; exact a8, fun z => Nat.le_trans (a9 z) o1, fun z k g1 g2 => ?_, a11, a12, a13⟩
  have := a9 z
  rw [H.2.2 7 k (by decide) (by decide) (by omega), H.2.2 10 k (by decide) (by decide) (by omega)]
  exact a10 z k g1 g2
theorem tyX.tl {A M : aM} (H : tyX A M) {k : Nat} {rm : Nat → Nat} (hk : k < A 0 1) (h : tyL A rm k) : tyL M rm k := by
  unfold tyL at h ⊢
  obtain ⟨o0, o2, o3, o1⟩ := H.1
  rw [o3, H.2.2 13 k (by decide) (by decide) hk, H.f 17 (by decide), H.f 18 (by decide), H.f 19 (by decide)]
  exact h
theorem tyX.tg {A M : aM} (H : tyX A M) (h : tyG A) : tyG M := by
  unfold tyG at h ⊢
  obtain ⟨o0, o2, o3, o1⟩ := H.1
  rw [o0, o3, H.f 5 (by decide), H.f 6 (by decide), H.f 18 (by decide), H.f 21 (by decide)]
  exact h
theorem tyX.ts {A M : aM} (H : tyX A M) (h : tyS A) : tyS M := by
  unfold tyS at h ⊢
  obtain ⟨o0, o2, o3, o1⟩ := H.1
  rw [o0, o2, H.f 1 (by decide), H.f 3 (by decide), H.f 14 (by decide), H.f 15 (by decide), H.f 16 (by decide)]
  exact h
theorem tyX.tc {A M : aM} (H : tyX A M) (h : tyC A) : tyC M := by
  unfold tyC at h ⊢
  obtain ⟨o0, o2, o3, o1⟩ := H.1
  rw [o0, o2, H.f 1 (by decide), H.f 3 (by decide), H.f 14 (by decide), H.f 15 (by decide), H.f 16 (by decide)]
  exact h
def nwK (T e b : Nat) (M : aM) (p : Nat) : Prop := (1 ≤ M 7 p ∧ M 7 p ≤ T + 1) ∧ M 8 p = 0 ∧ M 9 p = p + 2 ∧ M 10 p = e ∧ M 11 p = b - p ∧ M 12 p = 0 ∧ M 13 p = 0
theorem mc_spec {S O : Nat → Nat} {T e b : Nat} (hO : ∀ k, S k = 4 → O k ≤ T) : ∀ (r k d : Nat) (A : aM), tyX A (mcA S O e b r k d A) ∧ (mcA S O e b r k d A) 0 1 = A 0 1 + crA S r k d ∧ ∀ p, A 0 1 ≤ p → p < A 0 1 + crA S r k d → nwK T e b (mcA S O e b r k d A) p := by
  have refl : ∀ A : aM, tyX A A := fun A => ⟨⟨rfl, rfl, rfl, Nat.le_refl _⟩, fun _ _ _ _ => rfl, fun _ _ _ _ _ => rfl⟩
  intro r
  induction r with
  | zero => intro k d A; exact ⟨refl A, rfl, fun p h1 h2 => by simp [crA] at h2; omega⟩
  | succ r ih =>
    intro k d A
    unfold mcA crA
    by_cases c1 : S k = 6 ∨ S k = 3
    · rw [if_pos c1, if_pos c1]; exact ih _ _ _
    · rw [if_neg c1, if_neg c1]
      by_cases c2 : S k = 5
      · rw [if_pos c2, if_pos c2]
        by_cases c3 : d = 0
        · rw [if_pos c3, if_pos c3]; exact ⟨refl A, rfl, fun p h1 h2 => by omega⟩
        · rw [if_neg c3, if_neg c3]; exact ih _ _ _
      · rw [if_neg c2, if_neg c2]
        by_cases c4 : S k = 4 ∧ d = 0
        · rw [if_pos c4, if_pos c4]
          obtain ⟨q0, q1, q2, q3⟩ := ac_o (k := O k + 1) (h := A 0 1 + 2) (e := e) (r := b - A 0 1) (s := 0) (A := A)
          obtain ⟨h1, h2, h3⟩ := ih (k + 1) d (acA (O k + 1) (A 0 1 + 2) e (b - A 0 1) 0 A)
          rw [q1] at h2 h3
          obtain ⟨⟨x0, x2, x3, x1⟩, x4, x5⟩ := h1
          rw [q1] at x1 x5
          refine ⟨⟨⟨x0.trans q0, x2.trans q2, x3.trans q3, by omega⟩, fun f p g1 g2 => ?_, fun f p g1 g2 g3 => ?_⟩, by omega, fun p g1 g2 => ?_⟩
          · rw [x4 f p g1 g2]
            have k0 : f ≠ 7 ∧ f ≠ 8 ∧ f ≠ 9 ∧ f ≠ 10 ∧ f ≠ 11 ∧ f ≠ 12 ∧ f ≠ 13 := by omega
            simp [acA, au, k0, g1]
          · rw [x5 f p g1 g2 (by omega)]
            have k0 : f ≠ 0 := by omega
            have k1 : p ≠ A 0 1 := by omega
            simp [acA, au, k0, k1]
          · by_cases g3 : p = A 0 1
            · subst g3
              have hk := hO k c4.1
              unfold nwK
              rw [x5 7 _ (by decide) (by decide) (by omega), x5 8 _ (by decide) (by decide) (by omega), x5 9 _ (by decide) (by decide) (by omega), x5 10 _ (by decide) (by decide) (by omega), x5 11 _ (by decide) (by decide) (by omega), x5 12 _ (by decide) (by decide) (by omega), x5 13 _ (by decide) (by decide) (by omega)]
              simp [acA, au]
              omega
            · exact h3 p (by omega) (by omega)
        · rw [if_neg c4, if_neg c4]; exact ih _ _ _
theorem ci_try {S O : Nat → Nat} {T len i : Nat} {A : aM} (hO : ∀ k, S k = 4 → O k ≤ T) (hi : i < len) (hs : S i = 3) (H : tyI S T len i A) : tyI S T len (i + 1) (stA S O len i A) ∧ 0 < crA S (len - (i + 1)) (i + 1) 0 ∧ scA S (len - (i + 1)) (i + 1) 0 ∧ A 0 1 + crA S (len - (i + 1)) (i + 1) 0 ≤ 40 ∧ A 0 3 < 5 := by
  have hd := H.head
  rw [stA, if_neg (by omega), if_neg (by omega), if_neg (by omega), if_neg (by omega), if_neg (by omega), if_pos hs, tyA]
  obtain ⟨a1, a2, a3, a4, a5, a6, a7, a8, a9, a10, a11⟩ := H
  obtain ⟨R, hR⟩ : ∃ R, len - i = R + 1 := ⟨len - (i + 1), by omega⟩
  have hR' : len - (i + 1) = R := by omega
  have cr : ∀ d, crA S (len - i) i d = crA S (len - (i + 1)) (i + 1) (d + 1) := fun d => by
    rw [hR, hR', crA, if_pos (by omega)]
  simp only [cr] at a3 a4
  rw [hR, wfA, if_pos (by omega), hs] at a11
  rw [hR, fdA, if_neg (by omega), if_pos hs] at a10
  rw [hR'] at a3 a4 ⊢
  have hc0 : 0 < crA S R (i + 1) 0 := cr_pos R (i + 1) (A 0 3 + 1) 0 (by omega) (by simp) a11.2
  have hsc : scA S R (i + 1) 0 := sc_ok R (i + 1) (A 0 3 + 1) 0 (by omega) a11.2
  refine ⟨?_, hc0, hsc, by omega, a11.1⟩
  generalize hc : crA S R (i + 1) 0 = c at *
  have hbase : rkA A (A 18 (A 0 3)) ≤ A 0 1 := by
    unfold rkA; split
    · omega
    · rcases hd with hd | hd
      · contradiction
      · exact hd.2.2.2
  obtain ⟨X, X1, X2⟩ := mc_spec (S := S) (O := O) (T := T) (e := A 21 (A 0 3 + 1)) (b := rkA A (A 18 (A 0 3)) + A 0 1 + c) hO R (i + 1) 0 A
  rw [hc] at X1 X2
  generalize hB : mcA S O (A 21 (A 0 3 + 1)) (rkA A (A 18 (A 0 3)) + A 0 1 + c) R (i + 1) 0 A = B at *
  have Y : tyX A (au B 9 (A 0 1 + c - 1) (A 18 (A 0 3))) := by
    obtain ⟨⟨x0, x2, x3, x1⟩, x4, x5⟩ := X
    refine ⟨⟨by simp [au, x0], by simp [au, x2], by simp [au, x3], by simp [au, x1]⟩, fun f p g1 g2 => ?_, fun f p g1 g2 g3 => ?_⟩
    · have : f ≠ 9 := by omega
      simp [au, this]; exact x4 f p g1 g2
    · have : p ≠ A 0 1 + c - 1 := by omega
      simp [au, this]; exact x5 f p g1 g2 g3
  have Y1 : (au B 9 (A 0 1 + c - 1) (A 18 (A 0 3))) 0 1 = A 0 1 + c := by simp [au, X1]
  have Y2 : ∀ p, A 0 1 ≤ p → p < A 0 1 + c → tyK T (au B 9 (A 0 1 + c - 1) (A 18 (A 0 3))) p ∧ (au B 9 (A 0 1 + c - 1) (A 18 (A 0 3))) 7 p ≠ 0 ∧ (au B 9 (A 0 1 + c - 1) (A 18 (A 0 3))) 10 p = A 21 (A 0 3 + 1) := by
    intro p g1 g2
    have h6 : A 21 (A 0 3 + 1) ≤ 4 := by
      by_cases h : A 0 3 = 0
      · rw [h, a5.2.1]; omega
      · have h5 := (a3 (A 0 3) (by omega) (Nat.le_refl _)).2.2.2.2.1
        have h6 := (a3 (A 0 3) (by omega) (Nat.le_refl _)).2.2.2.2.2.1
        have h7 := a11.1
        split at h5 <;> omega
    have hn := X2 p g1 g2
    have hn1 : p + 1 < A 0 1 + c → nwK T (A 21 (A 0 3 + 1)) (rkA A (A 18 (A 0 3)) + A 0 1 + c) B (p + 1) := fun z => X2 (p + 1) (by omega) z
    have ho10 : A 18 (A 0 3) ≠ 0 → B 10 (A 18 (A 0 3) - 1) = A 21 (A 0 3 + 1) ∧ B 11 (A 18 (A 0 3) - 1) = rkA A (A 18 (A 0 3)) := fun z => by
      rcases hd with hd | hd
      · contradiction
      · rw [X.2.2 10 _ (by decide) (by decide) (by omega), X.2.2 11 _ (by decide) (by decide) (by omega), rkA, if_neg z]
        exact ⟨hd.2.2.1, rfl⟩
    refine ⟨?_, ?_, ?_⟩
    · unfold nwK at hn hn1
      obtain ⟨⟨n1, n2⟩, n3, n4, n5, n6, n7, n8⟩ := hn
      by_cases g : p = A 0 1 + c - 1
      · simp only [tyK, au]
        simp
        rw [X1, n5, n6, n7, n8]
        simp [g.symm]
        by_cases z : A 18 (A 0 3) = 0
        · omega
        · have := ho10 z
          rw [this.1, this.2]
          omega
      · obtain ⟨-, -, -, m5, m6, -, -⟩ := hn1 (by omega)
        simp only [tyK, au]
        simp [g]
        rw [X1, n4, n5, n6, n7, n8, show p + 2 - 1 = p + 1 by omega, m5, m6]
        omega
    · simp [au]; have := hn.1.1; omega
    · simp [au]; exact hn.2.2.2.1
  generalize hM : au B 9 (A 0 1 + c - 1) (A 18 (A 0 3)) = M at *
  obtain ⟨p0, p1, p2, p3⟩ := op_o (kd := 3) (nb := 0) (h := A 0 1 + 1) (A := M)
  have hM0 : M 0 0 = A 0 0 ∧ M 0 2 = A 0 2 ∧ M 0 3 = A 0 3 ∧ A 0 1 ≤ M 0 1 := Y.1
  unfold tyI
  rw [p0, p1, p2, p3, hM0.1, hM0.2.1, hM0.2.2.1, Y1, op_17, Y.f 17 (by decide), hM0.2.2.1]
  have hrm : ∀ r, 1 ≤ r → r ≤ A 0 3 → crA S R (i + 1) (A 0 3 - r + 1) = crA S R (i + 1) (A 0 3 + 1 - r) := fun r _ h => by rw [show A 0 3 - r + 1 = A 0 3 + 1 - r by omega]
  rw [hR']
  refine ⟨fun p hp => op_TP (Y.tp (a1 p hp)), fun k hk => ?_, ?_, ?_, op_TG (by rw [hM0.2.2.1]; exact a11.1) (Y.tg a5), op_TS (Y.ts a6), op_TC (Y.tc a7), by omega, by omega, by omega, a11.2⟩
  · by_cases g : k < A 0 1
    · exact op_TA (Y.ta g (a2 k g))
    · exact op_TA (Y2 k (by omega) hk).1
  · intro r g1 g2
    by_cases g3 : r = A 0 3 + 1
    · subst g3
      have g5 : ∀ p, p < A 0 0 → ¬ A 4 p = A 0 3 + 1 := fun p hp z => by
        have := (a1 p hp).2.2.2.2.2.2.1 (by omega)
        omega
      have g6 : A 21 (A 0 3 + 1) + 1 ≤ A 0 3 + 1 := by
        by_cases h : A 0 3 = 0
        · rw [h, a5.2.1]; omega
        · have h5 := (a3 (A 0 3) (by omega) (Nat.le_refl _)).2.2.2.2.1
          have h6 := (a3 (A 0 3) (by omega) (Nat.le_refl _)).2.2.2.2.2.1
          split at h5 <;> omega
      have y0 := Y2 (A 0 1) (Nat.le_refl _) (by omega)
      have y21 := Y.f 21 (by decide)
      have y4 := Y.f 4 (by decide)
      simp only [tyR, opA, au]
      simp [hM0.2.2.1, hM0.1, Y1, y21, y4, hc]
      refine ⟨by omega, y0.2.2, by omega, ?_, g5⟩
      intro k z1 z2
      exact ⟨(Y2 k z1 z2).2.1, (Y2 k z1 z2).2.2⟩
    · exact tyR.more (tyR.rm (hrm r g1 (by omega)) (op_TR g1 (by rw [hM0.2.2.1]; omega) (Y.tr (a3 r g1 (by omega))))) (by omega)
  · intro k hk
    by_cases g : k < A 0 1
    · exact op_TL (Y.tl g (tyL.rm hrm (a4 k g)))
    · unfold tyL
      refine Or.inr ⟨A 0 3 + 1, by omega, ?_, Or.inr ?_⟩
      · rw [p3, hM0.2.2.1]; omega
      · simp only [opA, au]
        simp [hM0.2.2.1, hc]
        omega
