def txX (g len : Nat) (S O : Nat → Nat) (x : tm_M) : Prop := x.1 (1, g, 0) 2 = nI len ∧ ∀ k, k < len → x.2 (1, g, 1) k = nI (S k) ∧ x.2 (1, g, 2) k = hv (O k)
def txO' (T len : Nat) (S O : Nat → Nat) : Prop := len ≤ 20 ∧ (∀ k, k < len → S k ≤ 7) ∧ (∀ k, k < len → S k ≠ 4 → 1 ≤ O k) ∧ (∀ k, k < len → S k = 1 → O k - 1 < 6) ∧ (∀ k, k < len → S k = 2 → O k - 1 < T) ∧ (∀ k, S k = 4 → O k ≤ T)
theorem cx_step {f len i T : Nat} {S O : Nat → Nat} {x : tm_M} {A : aM} (hf : f < 6) (hx : txX f len S O x) (hO : txO' T len S O) (hi : i < len) (H : tyI S T len i A) (Hp : CXp f x A) (Hr : CXr x A) :
    ∃ x' : tm_M, (∀ (l : Launch) (D : va_G) (aC : Nat → ClassId) (ad : Nat → Nat), OkX l y_Co_translateStatement b_Co_translateStatement 5 none (rom 4 90) D aC ad [.ref (ad 22), .ref (ad (txO f)), .int (nI i), .ref (ad (prO f))] x none x') ∧ CXp f x' (stA S O len i A) ∧ CXr x' (stA S O len i A) ∧ CXf f x x' := by
  obtain ⟨hlen, htx⟩ := hx
  obtain ⟨hl20, h7, hO1, -, -, hO4⟩ := hO
  obtain ⟨hSi, hOi⟩ := htx i hi
  have h7i := h7 i hi
  have a40 := H.a40
  have sH := H.sH
  have hd := H.head
  have HH := H
  obtain ⟨a1, a2, a3, a4, a5, a6, a7, a8, a9, a10, a11⟩ := H
  have hn := Hp.1
  have ha := Hp.2.1
  have hq := Hp.2.2.1
  have ho := Hr.1
  have hdc := hdC_eq a5.1 Hr
  have h5 := a5.2.2.2.2.2.2
  obtain ⟨R, hR⟩ : ∃ R, len - i = R + 1 := ⟨len - (i + 1), by omega⟩
  rw [hR, wfA] at a11
  by_cases c0 : S i = 0
  · refine ⟨_, fun l D aC ad => ok_Co_translateStatement_print hf hf x hlen hl20 hi (by rw [hSi, c0]; decide) hn (by omega), ?_, ?_, cf_em cf_r⟩
    · rw [stA, if_pos c0, hOi, hv_P (hO1 i hi (by omega))]; exact em_CXp Hp
    · rw [stA, if_pos c0]; exact em_CXr Hr
  by_cases c1 : S i = 1
  · refine ⟨_, fun l D aC ad => ok_Co_translateStatement_call hf hf x hlen hl20 hi (by rw [hSi, c1]; decide) hn (by omega) ho h5 hq (by omega), ?_, ?_, cf_em (cf_si cf_r)⟩
    · rw [stA, if_neg c0, if_pos c1, hOi, hv_P (hO1 i hi (by omega)), hdc]
      have q := em_CXp (l := 1) (v := O i - 1) (h := A 18 (A 0 3)) (r := 0) (c := A 5 (A 0 0)) (w := 0) (si_CXp (h := A 18 (A 0 3)) (fun s hs => by have := sH s hs; omega) (by omega) Hp)
      rw [si_same.o.1] at q
      exact q
    · rw [stA, if_neg c0, if_pos c1]; exact em_CXr (si_CXr Hr)
  by_cases c2 : S i = 2
  · refine ⟨_, fun l D aC ad => ok_Co_translateStatement_throw hf hf x hlen hl20 hi (by rw [hSi, c2]; decide) hn (by omega) ho h5 hq (by omega), ?_, ?_, cf_em (cf_si cf_r)⟩
    · rw [stA, if_neg c0, if_neg c1, if_pos c2, hOi, hv_P (hO1 i hi (by omega)), hdc]
      have q := em_CXp (l := 2) (v := O i - 1) (h := A 18 (A 0 3)) (r := 0) (c := A 5 (A 0 0)) (w := 0) (si_CXp (h := A 18 (A 0 3)) (fun s hs => by have := sH s hs; omega) (by omega) Hp)
      rw [si_same.o.1] at q
      exact q
    · rw [stA, if_neg c0, if_neg c1, if_pos c2]; exact em_CXr (si_CXr Hr)
  by_cases c7 : S i = 7
  · refine ⟨_, fun l D aC ad => ok_Co_translateStatement_rethrow hf hf x hlen hl20 hi (by rw [hSi, c7]; decide) hn (by omega) ho h5 hq (by omega), ?_, ?_, cf_em (cf_si cf_r)⟩
    · rw [stA, if_neg c0, if_neg c1, if_neg c2, if_pos c7, hdc]
      have q := em_CXp (l := 3) (v := 0) (h := A 18 (A 0 3)) (r := 0) (c := A 5 (A 0 0)) (w := 0) (si_CXp (h := A 18 (A 0 3)) (fun s hs => by have := sH s hs; omega) (by omega) Hp)
      rw [si_same.o.1] at q
      exact q
    · rw [stA, if_neg c0, if_neg c1, if_neg c2, if_pos c7]; exact em_CXr (si_CXr Hr)
  by_cases c6 : S i = 6
  · rw [if_pos (by omega)] at a11
    have hfd : A 0 1 < 40 := by
      rw [hR, fdA, if_pos (by omega)] at a10
      omega
    refine ⟨_, fun l D aC ad => ok_Co_translateStatement_local hf hf x hlen hl20 hi (by rw [hSi, c6]; decide) ho a11.1 ha hfd, ?_, ?_, cf_op (cf_ac cf_r)⟩
    · rw [stA, if_neg c0, if_neg c1, if_neg c2, if_neg c7, if_pos c6, hdc, ← fI_0]
      exact op_CXp (ac_CXp Hp)
    · rw [stA, if_neg c0, if_neg c1, if_neg c2, if_neg c7, if_pos c6, hdc, hOi, hv_P (hO1 i hi (by omega))]
      have q := op_CXr (kd := 6) (nb := O i - 1) (h := A 0 1 + 1) (by omega) (ac_CXr (f := f) (k := 0) (h := A 18 (A 0 3)) (e := A 21 (A 0 3 + 1)) (r := A 0 1 + 1) (s := 0) (a := A 0 1) (u := -2) (v := hv (A 18 (A 0 3))) Hr)
      rw [ac_o.2.2.2, ac_1.2.2.2.2.2.2.1] at q
      exact q
  by_cases c3 : S i = 3
  · obtain ⟨-, g1, g2, g3, g4⟩ := ci_try hO4 hi c3 HH
    have hcr : crF (x.2 (1, f, 1)) (len - (i + 1)) (i + 1) 0 = crA S (len - (i + 1)) (i + 1) 0 := cr_CX _ _ _ (fun j _ h2 => ⟨(htx j (by omega)).1, h7 j (by omega)⟩)
    refine ⟨_, fun l D aC ad => ok_Co_translateStatement_try hf hf x hlen hl20 hi (by rw [hSi, c3]; decide) ho g4 ha (by rw [hcr]; exact g3) (by rw [hcr]; exact g1), ?_, ?_, cf_op (cf_mt cf_r)⟩
    · rw [stA, if_neg c0, if_neg c1, if_neg c2, if_neg c7, if_neg c6, if_pos c3, hdc, tyA]
      exact op_CXp (mt_CXp (fun j _ h2 => ⟨(htx j (by omega)).1, h7 j (by omega), (htx j (by omega)).2⟩) Hp)
    · rw [stA, if_neg c0, if_neg c1, if_neg c2, if_neg c7, if_neg c6, if_pos c3, hdc, tyA]
      have q1 := mt_CXr (f := f) (r := len - (i + 1)) (k := i + 1) (a := A 0 1) (p := A 0 1 + crA S (len - (i + 1)) (i + 1) 0 - 1) (v := A 18 (A 0 3)) (S' := x.2 (1, f, 1)) (O' := x.2 (1, f, 2)) (S := S) (O := O) (u := hv (A 18 (A 0 3))) (fun j _ h2 => ⟨(htx j (by omega)).1, h7 j (by omega)⟩) Hr (e := A 21 (A 0 3 + 1)) (b := rkA A (A 18 (A 0 3)) + A 0 1 + crA S (len - (i + 1)) (i + 1) 0)
      have q := op_CXr (kd := 3) (nb := 0) (h := A 0 1 + 1) (by omega) q1
      obtain ⟨X, -, -⟩ := mc_spec (S := S) (O := O) (T := T) (e := A 21 (A 0 3 + 1)) (b := rkA A (A 18 (A 0 3)) + A 0 1 + crA S (len - (i + 1)) (i + 1) 0) hO4 (len - (i + 1)) (i + 1) 0 A
      have x3 := X.1.2.2.1
      have x18 := X.f 18 (by decide)
      have y3 : (au (mcA S O (A 21 (A 0 3 + 1)) (rkA A (A 18 (A 0 3)) + A 0 1 + crA S (len - (i + 1)) (i + 1) 0) (len - (i + 1)) (i + 1) 0 A) 9 (A 0 1 + crA S (len - (i + 1)) (i + 1) 0 - 1) (A 18 (A 0 3))) 0 3 = A 0 3 := by
        rw [au_n (by decide), x3]
      have y18 : ∀ r, (au (mcA S O (A 21 (A 0 3 + 1)) (rkA A (A 18 (A 0 3)) + A 0 1 + crA S (len - (i + 1)) (i + 1) 0) (len - (i + 1)) (i + 1) 0 A) 9 (A 0 1 + crA S (len - (i + 1)) (i + 1) 0 - 1) (A 18 (A 0 3))) 18 r = A 18 r := fun r => by
        rw [au_n (by decide), x18]
      rw [y3, y18] at q
      exact q
  rw [if_neg (by omega)] at a11
  by_cases c4 : S i = 4
  · rw [if_pos c4] at a11
    have ho0 := a11.1.1
    have hk := a3 (A 0 3) ho0 (Nat.le_refl _)
    have hrow := Hr.2 (A 0 3 - 1) (by omega)
    rw [show A 0 3 - 1 + 1 = A 0 3 by omega] at hrow
    obtain ⟨w0, w1, w2, w3, w4, w6, w7⟩ := hrow
    have hcr0 : crA S (len - i) i (A 0 3 - A 0 3) = crA S R (i + 1) 0 + 1 := by rw [hR, Nat.sub_self, crA, if_neg (by omega), if_neg (by omega), if_pos ⟨c4, rfl⟩]
    have hnc := hk.2.2.2.2.2.2.2.2.1 a11.1.2
    simp only [hcr0] at hnc
    have hxc := hk.2.2.2.2.2.2.2.2.2.2.1
    have hfd : A 0 1 < 40 := by
      rw [hR, fdA, if_pos (by omega)] at a10
      omega
    by_cases k3 : A 17 (A 0 3) = 3
    · refine ⟨_, fun l D aC ad => ok_Co_translateStatement_catch_t hf hf x hlen hl20 hi (by rw [hSi, c4]; decide) ho ho0 h5 hn (by omega) w6 (by omega) w4 (by omega) ha hfd w3 (by rw [w0, k3]; decide), ?_, ?_, cf_bc (cf_ex cf_r)⟩
      · rw [stA, if_neg c0, if_neg c1, if_neg c2, if_neg c7, if_neg c6, if_neg c3, if_pos c4, if_pos k3]
        have q := bc_CXp (ex_CXp (c := A 21 (A 0 3) + 1) (w := 0) Hp)
        rw [ex_o.1, ex_o.2.1, ex_o.2.2.2, ex_f (by decide) (by decide) (by decide), ex_f (by decide) (by decide) (by decide)] at q
        exact q
      · rw [stA, if_neg c0, if_neg c1, if_neg c2, if_neg c7, if_neg c6, if_neg c3, if_pos c4, if_pos k3]
        have q := bc_CXr (f := f) (n := A 0 0 + 1) (c := A 19 (A 0 3)) (u := hv (A 18 (A 0 3 - 1))) (A := exA (A 21 (A 0 3) + 1) 0 A) (by rw [ex_o.2.2.2]; exact ho0) (by rw [ex_o.2.2.2, ex_f (by decide) (by decide) (by decide)]) (ex_CXr (f := f) (c := A 21 (A 0 3) + 1) (w := 0) ho0 rfl Hr)
        rw [ex_o.2.1, ex_o.2.2.2] at q
        exact q
    · have hh : A 18 (A 0 3) ≤ A 0 1 ∧ 0 < A 18 (A 0 3) := ⟨hk.2.2.1, hk.2.1⟩
      have fi0 := (fi_mid (S := S) (T := T) (len := len) (i := i) (c := A 21 (A 0 3) + 1) (l := 6) (w := 0) ho0 (Or.inr ⟨by have := hk.1; have := a11.1.2; omega, rfl⟩) HH)
      obtain ⟨-, -, -, -, -, -, m7, m8, m9, m10, -⟩ := fi0
      have m0 : (fiA 6 0 (A 21 (A 0 3) + 1) A) 0 0 = A 0 0 + 4 := by
        rw [fiA, em_o.2.2.2.1, em_o.2.2.2.1, la_o, ex_o.1, em_o.2.2.2.1]
      refine ⟨_, fun l D aC ad => ok_Co_translateStatement_catch_c hf hf x hlen hl20 hi (by rw [hSi, c4]; decide) ho ho0 h5 hn (by omega) w6 (by omega) w4 (by omega) ha hfd w3 (k := A 18 (A 0 3) - 1) (by rw [w0]; exact fun z => k3 ((nS (c := 3) (by have := hk.1; omega) (by decide)).mp z)) (by rw [w2, hv_P hh.2]) (by omega), ?_, ?_, cf_bc (cf_fc cf_r)⟩
      · rw [stA, if_neg c0, if_neg c1, if_neg c2, if_neg c7, if_neg c6, if_neg c3, if_pos c4, if_neg k3]
        have q := bc_CXp (fi_CXp (l := 6) (w := 0) (c := A 21 (A 0 3) + 1) Hp)
        rw [m0, m7, m9, m10 19 _ (by omega), m10 18 _ (by omega)] at q
        exact q
      · rw [stA, if_neg c0, if_neg c1, if_neg c2, if_neg c7, if_neg c6, if_neg c3, if_pos c4, if_neg k3]
        have q := bc_CXr (f := f) (n := A 0 0 + 4) (c := A 19 (A 0 3)) (u := hv (A 18 (A 0 3 - 1))) (A := fiA 6 0 (A 21 (A 0 3) + 1) A) (by rw [m9]; exact ho0) (by rw [m9, m10 19 _ (by omega)]) (fi_CXr (f := f) (l := 6) (w := 0) (c := A 21 (A 0 3) + 1) (n := A 0 0) (n1 := A 0 0 + 1) (n2 := A 0 0 + 2) (n3 := A 0 0 + 3) (k := A 18 (A 0 3) - 1) (a1 := 6) (b1 := 0) (a2 := 6) (b2 := 0) (a3 := 7) (b3 := 0) ho0 rfl Hr)
        rw [m7, m9] at q
        exact q
  · have c5 : S i = 5 := by omega
    rw [if_neg c4, if_pos c5] at a11
    have ho0 := a11.1.1
    have hk := a3 (A 0 3) ho0 (Nat.le_refl _)
    have hrow := Hr.2 (A 0 3 - 1) (by omega)
    rw [show A 0 3 - 1 + 1 = A 0 3 by omega] at hrow
    obtain ⟨w0, w1, w2, w3, w4, w6, w7⟩ := hrow
    obtain ⟨r1, r2, r3, -, -, -, -, -, -, -, r11, r12, r13⟩ := hk
    have e24 : 24 + (A 0 3 - 1) = 23 + A 0 3 := by omega
    rw [e24] at w7
    have hEE : ∀ j, j < A 22 (A 0 3) → x.2 (4, A 0 3 - 1, 1) j = nI ((fun j => if j < A 22 (A 0 3) then A (23 + A 0 3) j else A 0 0 + 1) j) ∧ (fun j => if j < A 22 (A 0 3) then A (23 + A 0 3) j else A 0 0 + 1) j < A 0 0 := fun j hj => by
      simp only [if_pos hj]
      exact ⟨w7 j hj, (r12 j hj).1⟩
    have hEt : (fun j => if j < A 22 (A 0 3) then A (23 + A 0 3) j else A 0 0 + 1) (A 22 (A 0 3)) = A 0 0 + 1 := by simp
    have fiE : ∀ l w c, ((A 17 (A 0 3) = 6 ∧ l = 5) ∨ (A 17 (A 0 3) = 4 ∧ l = 6)) → (fiA l w c A) 0 0 = A 0 0 + 4 ∧ (fiA l w c A) 0 3 = A 0 3 ∧ ∀ p, p < (fiA l w c A) 0 0 → ((∃ j, j < A 22 (A 0 3) + 1 ∧ (fun j => if j < A 22 (A 0 3) then A (23 + A 0 3) j else A 0 0 + 1) j = p) ↔ (fiA l w c A) 4 p = (fiA l w c A) 0 3) := by
      intro l w c hl
      obtain ⟨-, -, m3, -, -, -, m7, m8, m9, m10, -⟩ := fi_mid (S := S) (T := T) (len := len) (i := i) (c := c) (l := l) (w := w) ho0 hl HH
      have m0 : (fiA l w c A) 0 0 = A 0 0 + 4 := by
        rw [fiA, em_o.2.2.2.1, em_o.2.2.2.1, la_o, ex_o.1, em_o.2.2.2.1]
      obtain ⟨-, -, -, -, -, -, -, -, -, -, s11, s12, s13⟩ := m3 (A 0 3) ho0 (by rw [m9]; exact Nat.le_refl _)
      have x22 : (fiA l w c A) 22 (A 0 3) = A 22 (A 0 3) + 1 := by
        rw [fiA, em_f (by decide) (by decide), em_f (by decide) (by decide), la_f (by decide), exA, em_f (by decide) (by decide), em_o.1, em_f (by decide) (by decide)]
        simp [au]
      have x23 : ∀ j, j < A 22 (A 0 3) + 1 → (fiA l w c A) (23 + A 0 3) j = (fun j => if j < A 22 (A 0 3) then A (23 + A 0 3) j else A 0 0 + 1) j := by
        intro j hj
        rw [fiA, em_f (by omega) (by omega), em_f (by omega) (by omega), la_f (by omega), exA, em_f (by omega) (by omega), em_o.1, em_f (by decide) (by decide), em_o.2.2.2.1]
        have n22 : ¬ (23 + A 0 3 = 22) := by omega
        simp only [au, n22, false_and, if_false, true_and]
        by_cases cj : j = A 22 (A 0 3)
        · simp [cj]
        · rw [if_neg cj, em_f (by omega) (by omega)]
          simp only [if_pos (show j < A 22 (A 0 3) by omega)]
      rw [x22] at s12 s13
      refine ⟨m0, m9, fun p hp => ?_⟩
      rw [m9]
      constructor
      · rintro ⟨j, j1, j2⟩
        have := (s12 j j1).2
        rw [x23 j j1, j2] at this
        exact this
      · intro hp4
        obtain ⟨j, j1, j2⟩ := s13 p hp hp4
        rw [x23 j j1] at j2
        exact ⟨j, j1, j2⟩
    by_cases k6 : A 17 (A 0 3) = 6
    · obtain ⟨m0, m9, hE⟩ := fiE 5 (A 20 (A 0 3)) (A 21 (A 0 3)) (Or.inl ⟨k6, rfl⟩)
      refine ⟨_, fun l D aC ad => ok_Co_translateStatement_end_l hf hf x hlen hl20 hi (by rw [hSi, c5]; decide) (fun j => if j < A 22 (A 0 3) then A (23 + A 0 3) j else A 0 0 + 1) ho ho0 h5 hn (by omega) w6 (by omega) (k := A 18 (A 0 3) - 1) (by rw [w2, hv_P r2]) (by omega) ha a40 hEE hEt (by rw [w0, k6]; decide) w1, ?_, ?_, cf_cl (cf_fl cf_r)⟩
      · rw [stA, if_neg c0, if_neg c1, if_neg c2, if_neg c7, if_neg c6, if_neg c3, if_neg c4, if_pos k6]
        have q := cl_CXp hE (fi_CXp (l := 5) (w := A 20 (A 0 3)) (c := A 21 (A 0 3)) Hp)
        rw [m0, m9] at q
        exact q
      · rw [stA, if_neg c0, if_neg c1, if_neg c2, if_neg c7, if_neg c6, if_neg c3, if_neg c4, if_pos k6]
        have q := cl_CXr (f := f) (t := A 22 (A 0 3) + 1) (n := A 0 0 + 4) (E := fun j => if j < A 22 (A 0 3) then A (23 + A 0 3) j else A 0 0 + 1) (by rw [m9]; exact ho0) (fi_CXr (f := f) (l := 5) (w := A 20 (A 0 3)) (c := A 21 (A 0 3)) (n := A 0 0) (n1 := A 0 0 + 1) (n2 := A 0 0 + 2) (n3 := A 0 0 + 3) (k := A 18 (A 0 3) - 1) (a1 := 5) (b1 := nI (A 20 (A 0 3))) (a2 := 5) (b2 := nI (A 20 (A 0 3))) (a3 := 7) (b3 := 0) ho0 rfl Hr)
        rw [m9] at q
        exact q
    · obtain ⟨m0, m9, hE⟩ := fiE 6 0 (A 21 (A 0 3)) (Or.inr ⟨by have := a11.1.2; omega, rfl⟩)
      refine ⟨_, fun l D aC ad => ok_Co_translateStatement_end_c hf hf x hlen hl20 hi (by rw [hSi, c5]; decide) (fun j => if j < A 22 (A 0 3) then A (23 + A 0 3) j else A 0 0 + 1) ho ho0 h5 hn (by omega) w6 (by omega) (k := A 18 (A 0 3) - 1) (by rw [w2, hv_P r2]) (by omega) ha a40 hEE hEt (by rw [w0]; exact fun z => k6 ((nS (c := 6) (by omega) (by decide)).mp z)), ?_, ?_, cf_cl (cf_fc cf_r)⟩
      · rw [stA, if_neg c0, if_neg c1, if_neg c2, if_neg c7, if_neg c6, if_neg c3, if_neg c4, if_neg k6]
        have q := cl_CXp hE (fi_CXp (l := 6) (w := 0) (c := A 21 (A 0 3)) Hp)
        rw [m0, m9] at q
        exact q
      · rw [stA, if_neg c0, if_neg c1, if_neg c2, if_neg c7, if_neg c6, if_neg c3, if_neg c4, if_neg k6]
        have q := cl_CXr (f := f) (t := A 22 (A 0 3) + 1) (n := A 0 0 + 4) (E := fun j => if j < A 22 (A 0 3) then A (23 + A 0 3) j else A 0 0 + 1) (by rw [m9]; exact ho0) (fi_CXr (f := f) (l := 6) (w := 0) (c := A 21 (A 0 3)) (n := A 0 0) (n1 := A 0 0 + 1) (n2 := A 0 0 + 2) (n3 := A 0 0 + 3) (k := A 18 (A 0 3) - 1) (a1 := 6) (b1 := 0) (a2 := 6) (b2 := 0) (a3 := 7) (b3 := 0) ho0 rfl Hr)
        rw [m9] at q
        exact q
