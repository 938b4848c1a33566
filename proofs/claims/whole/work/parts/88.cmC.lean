theorem cm_A {f a i : Nat} {v : Int32} {x0 x : tm_M} (h : inF f a i) (H : CMf f x0 x) : CMf f x0 (sA x (0, 0, a) i v) := by
  refine ⟨fun j hj => H.1 j hj, fun b k hb => ?_⟩
  have := H.2 b k hb
  simp only [sA]
  split
  · rename_i z
    have z2 : b = a := by simpa using z
    subst z2
    unfold upd
    rw [if_neg (fun z3 => hb (by rw [z3]; exact h))]
    exact this
  · exact this
theorem cm_I {f : Nat} {v : Int32} {x0 x : tm_M} (H : CMf f x0 x) : CMf f x0 (sI x (0, 0, 0) 18 v) := by
  refine ⟨fun j hj => ?_, fun b k hb => H.2 b k hb⟩
  rw [rIj hj]; exact H.1 j hj
theorem cm_r {f : Nat} {x : tm_M} : CMf f x x := ⟨fun _ _ => rfl, fun _ _ _ => rfl⟩
theorem in5 {f : Nat} : inF f 5 f := Or.inl ⟨by omega, rfl⟩
theorem in9 {f : Nat} : inF f 9 f := Or.inl ⟨by omega, rfl⟩
theorem in13 {f : Nat} : inF f 13 f := Or.inl ⟨by omega, rfl⟩
theorem in6 {f n a : Nat} (ha : a = 6 ∨ a = 7 ∨ a = 8) (h : n < 128) : inF f a (128 * f + n) := Or.inr (Or.inl ⟨ha, by omega⟩)
theorem in10 {f n a : Nat} (ha : a = 10 ∨ a = 11 ∨ a = 12) (h : n < 48) : inF f a (48 * f + n) := Or.inr (Or.inr (Or.inl ⟨ha, by omega⟩))
theorem in14 {f n a : Nat} (ha : a = 14 ∨ a = 15 ∨ a = 16) (h : n < 64) : inF f a (64 * f + n) := Or.inr (Or.inr (Or.inr (Or.inl ⟨ha, by omega⟩)))
theorem in17 {f n a : Nat} (h : 17 ≤ a ∧ a ≤ 22) : inF f a n := Or.inr (Or.inr (Or.inr (Or.inr h)))
theorem cm_em {f n q : Nat} {a v : Int32} {x0 x : tm_M} (hn : n < 128) (H : CMf f x0 x) : CMf f x0 (emM f n q a v x) := cm_A in5 (cm_A (in6 (by omega) hn) (cm_A (in6 (by omega) hn) (cm_A (in6 (by omega) hn) H)))
theorem cm_ac {f n : Nat} {a v : Int32} {x0 x : tm_M} (hn : n < 48) (H : CMf f x0 x) : CMf f x0 (acM f n a v x) := cm_A in9 (cm_A (in10 (by omega) hn) (cm_A (in10 (by omega) hn) (cm_A (in10 (by omega) hn) H)))
theorem cm_la {f n k : Nat} {x0 x : tm_M} (hn : k < 48) (H : CMf f x0 x) : CMf f x0 (laM f k n x) := cm_A (in10 (by omega) hn) H
theorem cm_op {f q : Nat} {a h : Int32} {x0 x : tm_M} (H : CMf f x0 x) : CMf f x0 (opM q a h x) := cm_A (in17 (by omega)) (cm_A (in17 (by omega)) (cm_I (cm_A (in17 (by omega)) H)))
theorem cm_bc {f n q k a : Nat} {u : Int32} {x0 x : tm_M} (hk : k < 48) (ha : a < 48) (H : CMf f x0 x) : CMf f x0 (bcM f n q k a u x) := cm_A (in17 (by omega)) (cm_A (in17 (by omega)) (cm_ac ha (cm_A (in17 (by omega)) (cm_la hk (cm_A (in17 (by omega)) H)))))
theorem cm_fi {f n q k : Nat} {a v : Int32} {x0 x : tm_M} (hn : n + 4 ≤ 128) (hk : k < 48) (H : CMf f x0 x) : CMf f x0 (emM f (n + 3) q 7 0 (emM f (n + 2) q a v (laM f k (n + 2) (emM f (n + 1) q 4 (-(nI q)) (emM f n q a v x))))) := cm_em (by omega) (cm_em (by omega) (cm_la hk (cm_em (by omega) (cm_em (by omega) H))))
theorem cm_cl {f n q : Nat} {x0 x : tm_M} (H : CMf f x0 x) : ∀ k, k ≤ 128 → CMf f x0 (clF f n q x k)
  | 0, _ => H
  | k + 1, h => by
    unfold clF
    split
    · exact cm_A (in6 (by omega) (by omega)) (cm_cl H k (by omega))
    · exact cm_cl H k (by omega)
theorem cm_tm {f : Nat} {S O : Nat → Int32} {x0 : tm_M} : ∀ (r k d a : Nat) (x : tm_M), a + crF S r k d ≤ 48 → CMf f x0 x → CMf f x0 (tmF f S O r k d a x).2
  | 0, _, _, _, _, _, H => H
  | r + 1, k, d, a, x, h, H => by
    unfold crF at h
    unfold tmF
    by_cases c1 : S k = 3 ∨ S k = 6
    · rw [if_pos (Or.symm c1)] at h
      rw [if_pos c1]; exact cm_tm r _ _ _ _ h H
    · rw [if_neg (fun z => c1 (Or.symm z))] at h
      rw [if_neg c1]
      split
      · rename_i c2; rw [if_pos c2] at h
        split
        · exact H
        · rename_i c3; rw [if_neg c3] at h; exact cm_tm r _ _ _ _ h H
      · rename_i c2; rw [if_neg c2] at h
        split
        · rename_i c3; rw [if_pos c3] at h; exact cm_tm r _ _ _ _ (by omega) (cm_ac (by omega) H)
        · rename_i c3; rw [if_neg c3] at h; exact cm_tm r _ _ _ _ h H
def txM (f len : Nat) (S O : Nat → Nat) (x : tm_M) : Prop := x.2 (0, 0, 2) f = nI len ∧ ∀ k, k < len → x.2 (0, 0, 3) (20 * f + k) = nI (S k) ∧ x.2 (0, 0, 4) (20 * f + k) = hv (O k)
theorem cm_step {f len i T : Nat} {S O : Nat → Nat} {x : tm_M} {A : aM} (hx : txM f len S O x) (hO : txO' T len S O) (hi : i < len) (H : tyI S T len i A) (Hp : CMp f x A) (Hr : CMr x A) :
    ∃ x' : tm_M, StM f len i x x' ∧ CMp f x' (stA S O len i A) ∧ CMr x' (stA S O len i A) ∧ CMf f x x' := by
  obtain ⟨hlen, htx⟩ := hx
  obtain ⟨hl20, h7, hO1, -, -, hO4⟩ := hO
  obtain ⟨hSi, hOi⟩ := htx i hi
  have h7i := h7 i hi
  have a40 := H.a40
  have HH := H
  obtain ⟨a1, a2, a3, a4, a5, a6, a7, a8, a9, a10, a11⟩ := H
  have hn := Hp.1
  have ha := Hp.2.1
  have ho := Hr.1
  have h18 := Hr.2.1 (A 0 3) (Nat.le_refl _)
  have h5 := a5.2.2.2.2.2.2
  obtain ⟨R, hR⟩ : ∃ R, len - i = R + 1 := ⟨len - (i + 1), by omega⟩
  rw [hR, wfA] at a11
  by_cases c0 : S i = 0
  · refine ⟨_, Or.inl ⟨by rw [hSi, c0]; decide, A 0 0, A 0 3, hn, by omega, ho, by omega, rfl⟩, ?_, ?_, cm_em (by omega) cm_r⟩
    · rw [stA, if_pos c0, hOi]; exact em_CMp rfl (by rw [hv_P (hO1 i hi (by omega))]; rfl) Hr Hp
    · rw [stA, if_pos c0]; exact em_CMr Hr
  by_cases c1 : S i = 1
  · refine ⟨_, Or.inr (Or.inl ⟨by rw [hSi, c1]; decide, A 0 0, A 0 3, hn, by omega, ho, by omega, rfl⟩), ?_, ?_, cm_em (by omega) cm_r⟩
    · rw [stA, if_neg c0, if_pos c1, hOi]
      have q := em_CMp (f := f) (l := 1) (v := O i - 1) (r := 0) (c := A 5 (A 0 0)) (w := 0) (a := 1) (u := hv (O i)) rfl (by rw [hv_P (hO1 i hi (by omega))]; rfl) (si_CMr (h := A 18 (A 0 3)) Hr) (si_CMp (h := A 18 (A 0 3)) Hp)
      rw [si_same.o.1, si_same.o.2.2, si_same.f 18 (by decide)] at q
      exact q
    · rw [stA, if_neg c0, if_pos c1]; exact em_CMr (si_CMr Hr)
  by_cases c2 : S i = 2
  · refine ⟨_, Or.inr (Or.inr (Or.inl ⟨by rw [hSi, c2]; decide, A 0 0, A 0 3, hn, by omega, ho, by omega, rfl⟩)), ?_, ?_, cm_em (by omega) cm_r⟩
    · rw [stA, if_neg c0, if_neg c1, if_pos c2, hOi]
      have q := em_CMp (f := f) (l := 2) (v := O i - 1) (r := 0) (c := A 5 (A 0 0)) (w := 0) (a := 2) (u := hv (O i)) rfl (by rw [hv_P (hO1 i hi (by omega))]; rfl) (si_CMr (h := A 18 (A 0 3)) Hr) (si_CMp (h := A 18 (A 0 3)) Hp)
      rw [si_same.o.1, si_same.o.2.2, si_same.f 18 (by decide)] at q
      exact q
    · rw [stA, if_neg c0, if_neg c1, if_pos c2]; exact em_CMr (si_CMr Hr)
  by_cases c7 : S i = 7
  · refine ⟨_, Or.inr (Or.inr (Or.inr (Or.inl ⟨by rw [hSi, c7]; decide, A 0 0, A 0 3, hn, by omega, ho, by omega, rfl⟩))), ?_, ?_, cm_em (by omega) cm_r⟩
    · rw [stA, if_neg c0, if_neg c1, if_neg c2, if_pos c7]
      have q := em_CMp (f := f) (l := 3) (v := 0) (r := 0) (c := A 5 (A 0 0)) (w := 0) (a := 3) (u := 0) rfl rfl (si_CMr (h := A 18 (A 0 3)) Hr) (si_CMp (h := A 18 (A 0 3)) Hp)
      rw [si_same.o.1, si_same.o.2.2, si_same.f 18 (by decide)] at q
      exact q
    · rw [stA, if_neg c0, if_neg c1, if_neg c2, if_pos c7]; exact em_CMr (si_CMr Hr)
  by_cases c6 : S i = 6
  · rw [if_pos (by omega)] at a11
    have hfd : A 0 1 < 40 := by
      rw [hR, fdA, if_pos (by omega)] at a10
      omega
    refine ⟨_, Or.inr (Or.inr (Or.inr (Or.inr (Or.inl ⟨by rw [hSi, c6]; decide, A 0 1, A 0 3, ha, by omega, ho, a11.1, rfl⟩)))), ?_, ?_, cm_A (in17 (by omega)) (cm_op (cm_ac (by omega) cm_r))⟩
    · rw [stA, if_neg c0, if_neg c1, if_neg c2, if_neg c7, if_pos c6, h18]
      exact w22_CMp (op_CMp (ac_CMp fI_0.symm rfl Hp))
    · rw [stA, if_neg c0, if_neg c1, if_neg c2, if_neg c7, if_pos c6, hOi, hv_P (hO1 i hi (by omega))]
      have q := opl_CMr (nb := O i - 1) (h := A 0 1 + 1) (by omega) (ac_CMr (f := f) (k := 0) (h := A 18 (A 0 3)) (e := A 21 (A 0 3 + 1)) (r := A 0 1 + 1) (s := 0) (a := A 0 1) (u := -2) (v := x.2 (0, 0, 18) (A 0 3)) Hr)
      rw [ac_o.2.2.2] at q
      exact q
  by_cases c3 : S i = 3
  · obtain ⟨-, g1, g2, g3, g4⟩ := ci_try hO4 hi c3 HH
    have hj : ∀ j, i + 1 ≤ j → j < i + 1 + (len - (i + 1)) → (fun j => x.2 (0, 0, 3) (20 * f + j)) j = nI (S j) ∧ S j ≤ 7 ∧ (fun j => x.2 (0, 0, 4) (20 * f + j)) j = hv (O j) := fun j _ h2 => ⟨(htx j (by omega)).1, h7 j (by omega), (htx j (by omega)).2⟩
    have hj2 : ∀ j, i + 1 ≤ j → j < i + 1 + (len - (i + 1)) → (fun j => x.2 (0, 0, 3) (20 * f + j)) j = nI (S j) ∧ S j ≤ 7 := fun j h1 h2 => ⟨(hj j h1 h2).1, (hj j h1 h2).2.1⟩
    have hcr : crF (fun j => x.2 (0, 0, 3) (20 * f + j)) (len - (i + 1)) (i + 1) 0 = crA S (len - (i + 1)) (i + 1) 0 := cr_CX _ _ _ hj2
    obtain ⟨t1, t2⟩ := ty_CM (f := f) hO4 hj g1 Hr Hp
    rw [← h18] at t1 t2
    refine ⟨_, Or.inr (Or.inr (Or.inr (Or.inr (Or.inr (Or.inl ⟨by rw [hSi, c3]; decide, A 0 1, A 0 3, ha, by rw [hcr]; exact g3, by rw [hcr]; exact g1, sc_CX _ _ _ hj2 g2, ho, g4, rfl⟩))))), ?_, ?_, ?_⟩
    · rw [stA, if_neg c0, if_neg c1, if_neg c2, if_neg c7, if_neg c6, if_pos c3]; exact t1
    · rw [stA, if_neg c0, if_neg c1, if_neg c2, if_neg c7, if_neg c6, if_pos c3]; exact t2
    · unfold tyM
      rw [hcr, show 48 * f + (A 0 1 + crA S (len - (i + 1)) (i + 1) 0) - 1 = 48 * f + (A 0 1 + crA S (len - (i + 1)) (i + 1) 0 - 1) by omega]
      exact cm_A (in17 (by omega)) (cm_op (cm_A (in10 (by omega) (by omega)) (cm_tm _ _ _ _ _ (by rw [hcr]; omega) cm_r)))
  rw [if_neg (by omega)] at a11
  by_cases c4 : S i = 4
  · rw [if_pos c4] at a11
    have ho0 := a11.1.1
    have hk := a3 (A 0 3) ho0 (Nat.le_refl _)
    obtain ⟨w17, w19, w20, w21, w22⟩ := Hr.2.2 (A 0 3) ho0 (Nat.le_refl _)
    have hcr0 : crA S (len - i) i (A 0 3 - A 0 3) = crA S R (i + 1) 0 + 1 := by rw [hR, Nat.sub_self, crA, if_neg (by omega), if_neg (by omega), if_pos ⟨c4, rfl⟩]
    have hnc := hk.2.2.2.2.2.2.2.2.1 a11.1.2
    simp only [hcr0] at hnc
    have hfd : A 0 1 < 40 := by
      rw [hR, fdA, if_pos (by omega)] at a10
      omega
    by_cases k3 : A 17 (A 0 3) = 3
    · refine ⟨_, Or.inr (Or.inr (Or.inr (Or.inr (Or.inr (Or.inr (Or.inl ⟨by rw [hSi, c4]; decide, A 0 0, A 0 3, A 19 (A 0 3), A 0 1, hn, by omega, ho, by omega, w20 a11.1.2, by omega, ha, by omega, by rw [w17, k3]; decide, rfl⟩)))))), ?_, ?_, cm_bc (by omega) (by omega) (cm_em (by omega) cm_r)⟩
      · rw [stA, if_neg c0, if_neg c1, if_neg c2, if_neg c7, if_neg c6, if_neg c3, if_pos c4, if_pos k3, w19]
        have q := bc_CMp (ex_CMp (c := A 21 (A 0 3) + 1) (w := 0) ho0 Hr Hp)
        rw [ex_o.1, ex_o.2.1, ex_o.2.2.2, ex_f (by decide) (by decide) (by decide), ex_f (by decide) (by decide) (by decide)] at q
        exact q
      · rw [stA, if_neg c0, if_neg c1, if_neg c2, if_neg c7, if_neg c6, if_neg c3, if_pos c4, if_pos k3]
        have q := bc_CMr (f := f) (n := A 0 0 + 1) (k := A 19 (A 0 3)) (u := x.2 (0, 0, 19) (A 0 3)) (A := exA (A 21 (A 0 3) + 1) 0 A) (by rw [ex_o.2.2.2]; exact ho0) (by rw [ex_o.2.2.2, ex_f (by decide) (by decide) (by decide)]) (ex_CMr (f := f) (c := A 21 (A 0 3) + 1) (w := 0) (n := A 0 0) (q := A 0 3) (a := 4) (u := -(nI (A 0 3))) Hr)
        rw [ex_o.2.1, ex_o.2.2.2] at q
        exact q
    · have hh : A 18 (A 0 3) ≤ A 0 1 ∧ 0 < A 18 (A 0 3) := ⟨hk.2.2.1, hk.2.1⟩
      have k4 : A 17 (A 0 3) = 4 := by have := hk.1; have := a11.1.2; omega
      obtain ⟨-, -, -, -, -, -, m7, m8, m9, m10, -⟩ := fi_mid (S := S) (T := T) (len := len) (i := i) (c := A 21 (A 0 3) + 1) (l := 6) (w := 0) ho0 (Or.inr ⟨k4, rfl⟩) HH
      have m0 : (fiA 6 0 (A 21 (A 0 3) + 1) A) 0 0 = A 0 0 + 4 := by
        rw [fiA, em_o.2.2.2.1, em_o.2.2.2.1, la_o, ex_o.1, em_o.2.2.2.1]
      obtain ⟨p1, p2⟩ := fi_CM (f := f) (l := 6) (w := 0) (c := A 21 (A 0 3) + 1) (a := 6) (u := 0) rfl rfl ho0 Hr Hp
      refine ⟨_, Or.inr (Or.inr (Or.inr (Or.inr (Or.inr (Or.inr (Or.inr (Or.inl ⟨by rw [hSi, c4]; decide, A 0 0, A 0 3, A 19 (A 0 3), A 0 1, A 18 (A 0 3) - 1, hn, by omega, ho, by omega, w20 a11.1.2, by omega, ha, by omega, by rw [w17, k4]; decide, by rw [w21 k4, hv_P hh.2], by omega, rfl⟩))))))), ?_, ?_, cm_bc (by omega) (by omega) (cm_fi (by omega) (by omega) cm_r)⟩
      · rw [stA, if_neg c0, if_neg c1, if_neg c2, if_neg c7, if_neg c6, if_neg c3, if_pos c4, if_neg k3, w19]
        have q := bc_CMp p1
        rw [m0, m7, m9, m10 19 _ (by omega), m10 18 _ (by omega)] at q
        exact q
      · rw [stA, if_neg c0, if_neg c1, if_neg c2, if_neg c7, if_neg c6, if_neg c3, if_pos c4, if_neg k3]
        have q := bc_CMr (f := f) (n := A 0 0 + 4) (k := A 19 (A 0 3)) (u := x.2 (0, 0, 19) (A 0 3)) (A := fiA 6 0 (A 21 (A 0 3) + 1) A) (by rw [m9]; exact ho0) (by rw [m9, m10 19 _ (by omega)]) p2
        rw [m7, m9] at q
        exact q
  · have c5 : S i = 5 := by omega
    rw [if_neg c4, if_pos c5] at a11
    have ho0 := a11.1.1
    have hk := a3 (A 0 3) ho0 (Nat.le_refl _)
    obtain ⟨w17, w19, w20, w21, w22⟩ := Hr.2.2 (A 0 3) ho0 (Nat.le_refl _)
    obtain ⟨r1, r2, r3, -, -, -, -, -, -, -, r11, r12, r13⟩ := hk
    by_cases k6 : A 17 (A 0 3) = 6
    · obtain ⟨m1, -, -, -, -, -, m7, m8, m9, m10, -⟩ := fi_mid (S := S) (T := T) (len := len) (i := i) (c := A 21 (A 0 3)) (l := 5) (w := A 20 (A 0 3)) ho0 (Or.inl ⟨k6, rfl⟩) HH
      have m0 : (fiA 5 (A 20 (A 0 3)) (A 21 (A 0 3)) A) 0 0 = A 0 0 + 4 := by
        rw [fiA, em_o.2.2.2.1, em_o.2.2.2.1, la_o, ex_o.1, em_o.2.2.2.1]
      obtain ⟨p1, p2⟩ := fi_CM (f := f) (l := 5) (w := A 20 (A 0 3)) (c := A 21 (A 0 3)) (a := 5) (u := x.2 (0, 0, 22) (A 0 3)) rfl (w22 k6) ho0 Hr Hp
      refine ⟨_, Or.inr (Or.inr (Or.inr (Or.inr (Or.inr (Or.inr (Or.inr (Or.inr (Or.inr ⟨by rw [hSi, c5]; decide, A 0 0, A 0 3, A 18 (A 0 3) - 1, hn, by omega, ho, by omega, ho0, by omega, by rw [w17, k6]; decide, by rw [h18, hv_P r2], rfl⟩)))))))), ?_, ?_, cm_I (cm_cl (cm_fi (by omega) (by omega) cm_r) _ (by omega))⟩
      · rw [stA, if_neg c0, if_neg c1, if_neg c2, if_neg c7, if_neg c6, if_neg c3, if_neg c4, if_pos k6]
        have q := cl_CMp (T := T) (by rw [m9]; exact ho0) (by rw [m9]; exact h5) (by rw [m0]; omega) m1 p1
        rw [m0, m9] at q
        exact q
      · rw [stA, if_neg c0, if_neg c1, if_neg c2, if_neg c7, if_neg c6, if_neg c3, if_neg c4, if_pos k6]
        have q := cl_CMr (f := f) (n := A 0 0 + 4) (k := A 0 0 + 4) p2
        rw [m9] at q
        exact q
    · have k4 : A 17 (A 0 3) = 4 := by have := a11.1.2; omega
      obtain ⟨m1, -, -, -, -, -, m7, m8, m9, m10, -⟩ := fi_mid (S := S) (T := T) (len := len) (i := i) (c := A 21 (A 0 3)) (l := 6) (w := 0) ho0 (Or.inr ⟨k4, rfl⟩) HH
      have m0 : (fiA 6 0 (A 21 (A 0 3)) A) 0 0 = A 0 0 + 4 := by
        rw [fiA, em_o.2.2.2.1, em_o.2.2.2.1, la_o, ex_o.1, em_o.2.2.2.1]
      obtain ⟨p1, p2⟩ := fi_CM (f := f) (l := 6) (w := 0) (c := A 21 (A 0 3)) (a := 6) (u := 0) rfl rfl ho0 Hr Hp
      refine ⟨_, Or.inr (Or.inr (Or.inr (Or.inr (Or.inr (Or.inr (Or.inr (Or.inr (Or.inl ⟨by rw [hSi, c5]; decide, A 0 0, A 0 3, A 18 (A 0 3) - 1, hn, by omega, ho, by omega, ho0, by omega, by rw [w17, k4]; decide, by rw [w21 k4, hv_P r2], rfl⟩)))))))), ?_, ?_, cm_I (cm_cl (cm_fi (by omega) (by omega) cm_r) _ (by omega))⟩
      · rw [stA, if_neg c0, if_neg c1, if_neg c2, if_neg c7, if_neg c6, if_neg c3, if_neg c4, if_neg k6]
        have q := cl_CMp (T := T) (by rw [m9]; exact ho0) (by rw [m9]; exact h5) (by rw [m0]; omega) m1 p1
        rw [m0, m9] at q
        exact q
      · rw [stA, if_neg c0, if_neg c1, if_neg c2, if_neg c7, if_neg c6, if_neg c3, if_neg c4, if_neg k6]
        have q := cl_CMr (f := f) (n := A 0 0 + 4) (k := A 0 0 + 4) p2
        rw [m9] at q
        exact q
