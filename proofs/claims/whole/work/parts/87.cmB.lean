theorem ro_CMp {f o a : Nat} {x : tm_M} {A : aM} (H : CMp f x A) : CMp f x (roA o a A) := by
  unfold CMp at H ⊢
  rw [ro_ff (f := 0) (by decide), ro_ff (f := 1) (by decide), ro_ff (f := 2) (by decide), ro_ff (f := 3) (by decide), ro_ff (f := 4) (by decide), ro_ff (f := 7) (by decide), ro_ff (f := 8) (by decide), ro_ff (f := 9) (by decide)]
  exact H
theorem bc_CMp {f : Nat} {x : tm_M} {A : aM} (H : CMp f x A) : CMp f (bcM f (A 0 0) (A 0 3) (A 19 (A 0 3)) (A 0 1) (hv (A 18 (A 0 3 - 1))) x) (bcA A) := by
  rw [bc_eq, bcM]
  refine w18_CMp (w21_CMp (ro_CMp ?_))
  have q1 := w20_CMp (i := A 0 3) (u := nI (A 19 (A 0 3) + 1)) (la_CMp (k := A 19 (A 0 3)) (w17_CMp (i := A 0 3) (u := 4) H))
  have q3 := ac_CMp (k := 0) (h := A 18 (A 0 3 - 1)) (e := A 21 (A 0 3) + 1) (r := A 0 1 + 1) (s := 1) (u := -2) (v := hv (A 18 (A 0 3 - 1))) fI_0.symm rfl q1
  rw [la_o] at q3
  exact q3
theorem bc_CMr {f n k : Nat} {u : Int32} {x : tm_M} {A : aM} (ho : 0 < A 0 3) (hk : k = A 19 (A 0 3)) (H : CMr x A) : CMr (bcM f n (A 0 3) k (A 0 1) u x) (bcA A) := by
  subst hk
  obtain ⟨q0, q1, q2, q3⟩ := bc_o (A := A)
  have e17 : ∀ r, (bcA A) 17 r = if r = A 0 3 then 4 else A 17 r := fun r => by simp [bcA, acA, laA, au]
  have e18 : ∀ r, (bcA A) 18 r = if r = A 0 3 then A 0 1 + 1 else A 18 r := fun r => by simp [bcA, acA, laA, au]
  have e19 : ∀ r, (bcA A) 19 r = if r = A 0 3 then A 19 (A 0 3) + 1 else A 19 r := fun r => by simp [bcA, acA, laA, au]
  have e20 : ∀ r, (bcA A) 20 r = A 20 r := fun r => by simp [bcA, acA, laA, au]
  have n4 : (4 : Int32) = nI 4 := by decide
  unfold CMr at H ⊢
  rw [q3]
  simp only [e17, e18, e19, e20, bcM, acM, laM, sA, n4]
  obtain ⟨h1, h2, h3⟩ := H
  have hs := hv_S (A 0 1)
  refine ⟨by simpa using h1, ?_, ?_⟩
  · intro r hr
    have := h2 r hr
    simp [upd]
    grind
  · intro r hr1 hr2
    have := h3 r hr1 hr2
    have h0 : ¬ (r - 1 = A 0 3) := by omega
    simp [upd, h0]
    grind
theorem cl_val {f n q : Nat} {x : tm_M} : ∀ k, (clF f n q x k).1 = x.1 ∧ (∀ K, K ≠ (0, 0, 7) → (clF f n q x k).2 K = x.2 K) ∧ (∀ i, (∀ p, p < k → i ≠ 128 * f + p) → (clF f n q x k).2 (0, 0, 7) i = x.2 (0, 0, 7) i) ∧ ∀ p, p < k → (clF f n q x k).2 (0, 0, 7) (128 * f + p) = if x.2 (0, 0, 6) (128 * f + p) = 4 ∧ x.2 (0, 0, 7) (128 * f + p) = -(nI q) then nI n else x.2 (0, 0, 7) (128 * f + p)
  | 0 => ⟨rfl, fun _ _ => rfl, fun _ _ => rfl, fun p h => absurd h (Nat.not_lt_zero _)⟩
  | k + 1 => by
    obtain ⟨h1, h2, h3, h4⟩ := cl_val (f := f) (n := n) (q := q) (x := x) k
    have e6 := h2 (0, 0, 6) (by simp)
    have e7 : (clF f n q x k).2 (0, 0, 7) (128 * f + k) = x.2 (0, 0, 7) (128 * f + k) := h3 _ (fun p hp => by omega)
    unfold clF
    rw [e6, e7]
    by_cases c : x.2 (0, 0, 6) (128 * f + k) = 4 ∧ x.2 (0, 0, 7) (128 * f + k) = -(nI q)
    · rw [if_pos c]
      refine ⟨h1, fun K hK => ?_, fun i hi => ?_, fun p hp => ?_⟩
      · rw [rAK hK]; exact h2 K hK
      · rw [rAi (hi k (by omega))]; exact h3 i (fun p hp => hi p (by omega))
      · by_cases cp : p = k
        · subst cp; rw [rA, if_pos c]
        · rw [rAi (by omega)]; exact h4 p (by omega)
    · rw [if_neg c]
      refine ⟨h1, h2, fun i hi => h3 i (fun p hp => hi p (by omega)), fun p hp => ?_⟩
      by_cases cp : p = k
      · subst cp; rw [e7, if_neg c]
      · exact h4 p (by omega)
theorem negI {o : Nat} (h1 : 0 < o) (h2 : o ≤ 5) : -(nI o) < 0 := by
  have : o = 1 ∨ o = 2 ∨ o = 3 ∨ o = 4 ∨ o = 5 := by omega
  rcases this with h | h | h | h | h <;> (subst h; decide)
theorem negJ {a b : Nat} (ha : a ≤ 5) (hb : b ≤ 5) (h : -(nI a) = -(nI b)) : a = b := by
  have h2 : nI a = nI b := by have q := congrArg (fun z : Int32 => -z) h; simpa using q
  exact (nI_eq (by omega) (by omega)).mp h2
theorem cl_CMp {f T : Nat} {x : tm_M} {A : aM} (ho : 0 < A 0 3) (h5 : A 0 3 ≤ 5) (hn : A 0 0 ≤ 100) (hP : ∀ p, p < A 0 0 → tyP T A p) (H : CMp f x A) : CMp f (sI (clF f (A 0 0) (A 0 3) x (A 0 0)) (0, 0, 0) 18 (nI (A 0 3 - 1))) (clA A) := by
  refine oI_CMp ?_
  obtain ⟨h1, h2, h3, h4⟩ := cl_val (f := f) (n := A 0 0) (q := A 0 3) (x := x) (A 0 0)
  obtain ⟨q0, q1, q2, q3⟩ := cl_o (A := A)
  unfold CMp at H ⊢
  rw [q0, q1, cl_ff (f := 1) (by decide), cl_ff (f := 3) (by decide), cl_ff (f := 7) (by decide), cl_ff (f := 8) (by decide), cl_ff (f := 9) (by decide), h2 (0, 0, 5) (by simp), h2 (0, 0, 6) (by simp), h2 (0, 0, 8) (by simp), h2 (0, 0, 9) (by simp), h2 (0, 0, 10) (by simp), h2 (0, 0, 11) (by simp), h2 (0, 0, 12) (by simp)]
  obtain ⟨a1, a2, a3, a4⟩ := H
  refine ⟨a1, a2, fun p hp => ⟨(a3 p hp).1, ?_, (a3 p hp).2.2⟩, a4⟩
  have t := hP p hp
  obtain ⟨b1, b2, b3⟩ := a3 p hp
  rw [h4 p hp, b1, b2, cl_4, cl_2]
  have t4 := t.2.1
  have t7 := t.2.2.2.2.2.2.1
  by_cases c : A 4 p = A 0 3
  · have hL := (t4 (by omega)).1
    rw [if_pos c, if_pos c, if_pos ⟨by rw [hL]; decide, by rw [c]; unfold opv; rw [if_neg (by omega)]⟩]
    rfl
  · rw [if_neg c, if_neg c, if_neg]
    rintro ⟨z1, z2⟩
    have hL : A 1 p = 4 := (nI_eq (b := 4) (by have := t.1; omega) (by decide)).mp z1
    unfold opv at z2
    by_cases c0 : A 4 p = 0
    · rw [if_pos c0] at z2
      have hw : A 6 p = 0 := by
        apply Classical.byContradiction
        intro hne
        by_cases hm : A 6 p % 2 = 1
        · have := (t.2.2.2.2.2.2.2.2.2.2.2.1 hm).2.1; omega
        · have := t.2.2.2.2.2.2.2.2.2.2.2.2 hne (by omega); omega
      have hv2 := (t.2.2.2.2.2.1 hw hL c0).1
      have h9 := negI ho h5
      rw [← z2] at h9
      exact nI_pos (by omega) h9
    · rw [if_neg c0] at z2
      exact c (negJ (by have := t7 c0; omega) h5 z2)
theorem cl_CMr {f n k : Nat} {x : tm_M} {A : aM} (H : CMr x A) : CMr (sI (clF f n (A 0 3) x k) (0, 0, 0) 18 (nI (A 0 3 - 1))) (clA A) := by
  obtain ⟨h1, h2, h3, h4⟩ := cl_val (f := f) (n := n) (q := A 0 3) (x := x) k
  obtain ⟨q0, q1, q2, q3⟩ := cl_o (A := A)
  unfold CMr at H ⊢
  rw [q3, cl_ff (f := 17) (by decide), cl_ff (f := 18) (by decide), cl_ff (f := 19) (by decide), cl_ff (f := 20) (by decide), rI, rIA, h2 (0, 0, 17) (by simp), h2 (0, 0, 18) (by simp), h2 (0, 0, 19) (by simp), h2 (0, 0, 20) (by simp), h2 (0, 0, 21) (by simp), h2 (0, 0, 22) (by simp)]
  exact ⟨rfl, fun r hr => H.2.1 r (by omega), fun r hr1 hr2 => H.2.2 r hr1 (by omega)⟩
theorem sc_CX {S' : Nat → Int32} {S : Nat → Nat} : ∀ (r k d : Nat), (∀ j, k ≤ j → j < k + r → S' j = nI (S j) ∧ S j ≤ 7) → scA S r k d → scF S' r k d
  | 0, _, _, _, H => H
  | r + 1, k, d, h, H => by
    obtain ⟨h1, h2⟩ := h k (Nat.le_refl _) (by omega)
    have ih := fun d => sc_CX (S' := S') (S := S) r (k + 1) d (fun j a b => h j (by omega) (by omega))
    unfold scA at H
    unfold scF
    have e3 : (nI (S k) = 3) = (S k = 3) := propext (nS (c := 3) h2 (by decide))
    have e5 : (nI (S k) = 5) = (S k = 5) := propext (nS (c := 5) h2 (by decide))
    have e6 : (nI (S k) = 6) = (S k = 6) := propext (nS (c := 6) h2 (by decide))
    rw [h1]
    simp only [e3, e5, e6]
    split
    · rename_i c; rw [if_pos c] at H; exact ih _ H
    · rename_i c; rw [if_neg c] at H
      split
      · rename_i c2; rw [if_pos c2] at H
        split
        · trivial
        · rename_i c3; rw [if_neg c3] at H; exact ih _ H
      · rename_i c2; rw [if_neg c2] at H; exact ih _ H
theorem tm_CM {f e b : Nat} {S' O' : Nat → Int32} {S O : Nat → Nat} : ∀ (r k d : Nat) (x : tm_M) (A : aM), (∀ j, k ≤ j → j < k + r → S' j = nI (S j) ∧ S j ≤ 7 ∧ O' j = hv (O j)) → CMr x A → CMp f x A → CMp f (tmF f S' O' r k d (A 0 1) x).2 (mcA S O e b r k d A) ∧ CMr (tmF f S' O' r k d (A 0 1) x).2 (mcA S O e b r k d A)
  | 0, _, _, _, _, _, Hr, H => ⟨H, Hr⟩
  | r + 1, k, d, x, A, h, Hr, H => by
    obtain ⟨h1, h2, h3⟩ := h k (Nat.le_refl _) (by omega)
    have ih := fun d x A => tm_CM (f := f) (e := e) (b := b) (S' := S') (O' := O') (S := S) (O := O) r (k + 1) d x A (fun j a b => h j (by omega) (by omega))
    unfold tmF mcA
    have e3 : (nI (S k) = 3) = (S k = 3) := propext (nS (c := 3) h2 (by decide))
    have e4 : (nI (S k) = 4) = (S k = 4) := propext (nS (c := 4) h2 (by decide))
    have e5 : (nI (S k) = 5) = (S k = 5) := propext (nS (c := 5) h2 (by decide))
    have e6 : (nI (S k) = 6) = (S k = 6) := propext (nS (c := 6) h2 (by decide))
    rw [h1, h3]
    simp only [e3, e4, e5, e6]
    by_cases c1 : S k = 6 ∨ S k = 3
    · rw [if_pos c1, if_pos (by omega)]; exact ih _ _ _ Hr H
    · rw [if_neg c1, if_neg (by omega)]
      split
      · split
        · exact ⟨H, Hr⟩
        · exact ih _ _ _ Hr H
      · split
        · have q := ac_CMp (k := O k + 1) (h := A 0 1 + 2) (e := e) (r := b - A 0 1) (s := 0) (u := hv (O k)) (v := nI (A 0 1 + 1)) (fI_S _).symm (hv_S _).symm H
          have := ih d _ _ (ac_CMr Hr) q
          rw [ac_o.2.1] at this
          exact this
        · exact ih _ _ _ Hr H
theorem ty_CM {f r k : Nat} {S' O' : Nat → Int32} {S O : Nat → Nat} {T : Nat} {x : tm_M} {A : aM} (hO : ∀ k, S k = 4 → O k ≤ T) (h : ∀ j, k ≤ j → j < k + r → S' j = nI (S j) ∧ S j ≤ 7 ∧ O' j = hv (O j)) (hc0 : 0 < crA S r k 0) (Hr : CMr x A) (H : CMp f x A) : CMp f (tyM f S' O' r k (A 0 1) (A 0 3) (hv (A 18 (A 0 3))) x) (tyA S O r k A) ∧ CMr (tyM f S' O' r k (A 0 1) (A 0 3) (hv (A 18 (A 0 3))) x) (tyA S O r k A) := by
  have hc : crF S' r k 0 = crA S r k 0 := cr_CX r k 0 (fun j a b => ⟨(h j a b).1, (h j a b).2.1⟩)
  obtain ⟨q, qr⟩ := tm_CM (f := f) (e := A 21 (A 0 3 + 1)) (b := rkA A (A 18 (A 0 3)) + A 0 1 + crA S r k 0) r k 0 x A h Hr H
  obtain ⟨X, X1, -⟩ := mc_spec (S := S) (O := O) (T := T) (e := A 21 (A 0 3 + 1)) (b := rkA A (A 18 (A 0 3)) + A 0 1 + crA S r k 0) hO r k 0 A
  have x3 := X.1.2.2.1
  unfold tyM tyA
  rw [hc, show 48 * f + (A 0 1 + crA S r k 0) - 1 = 48 * f + (A 0 1 + crA S r k 0 - 1) by omega]
  generalize (tmF f S' O' r k 0 (A 0 1) x).2 = y at *
  generalize mcA S O (A 21 (A 0 3 + 1)) (rkA A (A 18 (A 0 3)) + A 0 1 + crA S r k 0) r k 0 A = B at *
  have m1 : CMp f (sA y (0, 0, 12) (48 * f + (A 0 1 + crA S r k 0 - 1)) (hv (A 18 (A 0 3)))) (au B 9 (A 0 1 + crA S r k 0 - 1) (A 18 (A 0 3))) := by
    simp only [CMp, sA, au] at q ⊢
    simp [upd]
    grind
  have m2 : CMr (sA y (0, 0, 12) (48 * f + (A 0 1 + crA S r k 0 - 1)) (hv (A 18 (A 0 3)))) (au B 9 (A 0 1 + crA S r k 0 - 1) (A 18 (A 0 3))) := by
    simp only [CMr, sA, au] at qr ⊢
    simpa using qr
  have y3 : (au B 9 (A 0 1 + crA S r k 0 - 1) (A 18 (A 0 3))) 0 3 = A 0 3 := by rw [au_n (by decide), x3]
  refine ⟨w20_CMp (op_CMp m1), ?_⟩
  have := opt_CMr (h := A 0 1 + 1) (by omega) m2
  rw [y3] at this
  exact this
