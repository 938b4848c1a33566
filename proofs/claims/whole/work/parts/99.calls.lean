theorem both_compile {x m : tm_M} (H : Rel x m) (a : Int32) : ∃ (k r : Int32) (x' m' : tm_M), (∀ (l : Launch) (D : va_G) (aC : Nat → ClassId) (ad : Nat → Nat) (f : Nat → Int64), l.stackTraces = false → OkL l y_La_compile b_La_compile 4 hh_compile (romT 8 187) D aC ad [.ref (ad 0), .int a, .ref (ad 111)] x f k x' (fo k r f)) ∧ (∀ (l : Launch) (D : va_G) (aC : Nat → ClassId) (ad : Nat → Nat), OkM l y_Mo_compile b_Mo_compile 6 (some .int) (rom 3 66) D aC ad [.ref (ad 0), .int a] m (some (.int r)) m') ∧ m'.1 (0, 0, 0) 0 = k ∧ Rel x' m' := by
  have H0 := H
  obtain ⟨T, Pa, len, S, O, G, t, H⟩ := H
  rcases fcase a with ⟨f, hf, rfl⟩ | ⟨q1, q2⟩
  · obtain ⟨c1, c2, c3⟩ := H.2.2.1 f hf
    by_cases hw : wfA (S f) (len f) 0 0 (fun _ => 0)
    · obtain ⟨x', s1, s2, s3⟩ := cx_compile (fun _ _ => 0) hf c3 c1 hw
      obtain ⟨m', u1, u2, u3, u4, u5, u6⟩ := cm_compile (fun _ _ => 0) hf c3 c2 hw
      exact ⟨0, nI ((fnA (S f) (O f) (len f) (fun _ _ => 0)) 0 0), x', m', fun l D aC ad fn htr => ok_La_compile x fn _ (s1 l D aC ad), fun l D aC ad => u1 l D aC ad, u5, T, Pa, len, S, O, _, t, rel_prog H s3 u4 ⟨s2, u2, u3, u6⟩⟩
    · have hzX : (wfF (x.2 (1, f, 1)) (len f) 0 0 (x.2 (2, 0, 1))).1 = 0 := (wf_CX (len f) 0 0 _ (fun _ => 0) (by omega) (fun j _ h => ⟨(c1.2 j (by omega)).1, c3.2.1 j (by omega)⟩) (fun j h => by omega)).mpr hw
      have hzM : (wmF (fun j => m.2 (0, 0, 3) (20 * f + j)) (len f) 0 0 (m.2 (0, 0, 17))).1 = 0 := (wm_CM (len f) 0 0 _ (fun _ => 0) (by omega) (fun j _ h => ⟨(c2.2 j (by omega)).1, c3.2.1 j (by omega)⟩) (fun j h h2 => by omega)).mpr hw
      refine ⟨2, 0, ckX (wfF (x.2 (1, f, 1)) (len f) 0 0 (x.2 (2, 0, 1))).2.1 (wfF (x.2 (1, f, 1)) (len f) 0 0 (x.2 (2, 0, 1))).2.2 x, sI (ckM (wmF (fun j => m.2 (0, 0, 3) (20 * f + j)) (len f) 0 0 (m.2 (0, 0, 17))).2.1 (wmF (fun j => m.2 (0, 0, 3) (20 * f + j)) (len f) 0 0 (m.2 (0, 0, 17))).2.2 m) (0, 0, 0) 0 2, fun l D aC ad fn htr => ?_, fun l D aC ad => ?_, rI, rel_thr ?_⟩
      · exact th_La_compile_2 x fn _ (th_Lp_compile_2 htr hf x c1.1 c3.1 hzX)
      · exact ok_Mo_compile_2 hf m c2.1 c3.1 hzM
      · obtain ⟨R, Y⟩ := H.s
        generalize (wfF (x.2 (1, f, 1)) (len f) 0 0 (x.2 (2, 0, 1))).2.1 = w1
        generalize (wfF (x.2 (1, f, 1)) (len f) 0 0 (x.2 (2, 0, 1))).2.2 = w2
        generalize (wmF (fun j => m.2 (0, 0, 3) (20 * f + j)) (len f) 0 0 (m.2 (0, 0, 17))).2.1 = w3
        generalize (wmF (fun j => m.2 (0, 0, 3) (20 * f + j)) (len f) 0 0 (m.2 (0, 0, 17))).2.2 = w4
        have hX : CXg 6 x (ckX w1 w2 x) := fun K hK => by
          have e1 : K ≠ (2, 0, 1) := fun z => by rw [z] at hK; simp at hK
          have e0 : K ≠ (2, 0, 0) := fun z => by rw [z] at hK; simp at hK
          unfold ckX sAA
          rw [rIK e0, rIA]
          simp [e1]
        have hM : ∀ a, a ≠ 17 → (ckM w3 w4 m).2 (0, 0, a) = m.2 (0, 0, a) := fun a ha => by
          unfold ckM sAA
          rw [rIA]
          simp [ha]
        have hM1 : (ckM w3 w4 m).1 (0, 0, 0) 1 = m.1 (0, 0, 0) 1 := by
          unfold ckM sAA
          rw [rIj (by decide)]
        refine ⟨T, Pa, len, S, O, G, t, ?_⟩
        obtain ⟨⟨a1, a2, a3, a4⟩, b, c, d, e⟩ := H
        refine ⟨⟨a1, a2, by rw [(hX (5, 0, 1) (by simp)).1]; exact a3, by rw [hM1]; exact a4⟩, fun k hk => ?_, fun g hg => ?_, fun g hg => ?_, ?_⟩
        · rw [(hX (5, 0, 2) (by simp)).2, hM 1 (by decide)]; exact b k hk
        · obtain ⟨v1, v2, v3⟩ := c g hg
          refine ⟨?_, ?_, v3⟩
          · unfold txX at v1 ⊢
            rw [(hX (1, g, 0) (by simp)).1, (hX (1, g, 1) (by simp)).2, (hX (1, g, 2) (by simp)).2]; exact v1
          · unfold txM at v2 ⊢
            rw [hM 2 (by decide), hM 3 (by decide), hM 4 (by decide)]; exact v2
        · obtain ⟨d1, d2, d3, d4⟩ := d g hg
          have kX : ∀ a, (ckX w1 w2 x).1 (6, g, a) = x.1 (6, g, a) ∧ (ckX w1 w2 x).2 (6, g, a) = x.2 (6, g, a) := fun a => hX (6, g, a) (Or.inr (Or.inr ⟨rfl, by show g ≠ 6; omega⟩))
          refine ⟨?_, ?_, ?_, d4⟩
          · unfold CXp at d1 ⊢
            rw [(kX 0).1, (kX 1).2, (kX 2).2, (kX 3).2, (kX 4).2, (kX 5).2, (kX 6).2, (kX 7).2, (kX 8).2]; exact d1
          · unfold CMp at d2 ⊢
            rw [hM 5 (by decide), hM 6 (by decide), hM 7 (by decide), hM 8 (by decide), hM 9 (by decide), hM 10 (by decide), hM 11 (by decide), hM 12 (by decide)]; exact d2
          · unfold CMs at d3 ⊢
            rw [hM 13 (by decide), hM 14 (by decide), hM 15 (by decide), hM 16 (by decide)]; exact d3
        · rw [(hX (5, 0, 3) (by simp)).1, (hX (5, 0, 4) (by simp)).2, hM 28 (by decide), hM 29 (by decide)]
          exact e
  · refine ⟨1, 0, x, sI m (0, 0, 0) 0 1, fun l D aC ad fn htr => ?_, fun l D aC ad => ?_, rI, rel_thr H0⟩
    · exact th_La_compile_1 x fn a (th_Lp_compile_1 htr x a q1)
    · exact ok_Mo_compile_1 m a q2

theorem wcase (v : Int32) (M : Nat) (hM : M < 1000) : (∃ j, j ≤ M ∧ v = nI j) ∨ (v < 0 ∨ nI M < v) := by
  by_cases h : v < 0
  · exact Or.inr (Or.inl h)
  · obtain ⟨j, g1, g2⟩ := nI_of h
    by_cases hj : j ≤ M
    · exact Or.inl ⟨j, hj, g2⟩
    · exact Or.inr (Or.inr (by rw [g2]; exact nI_lt (by omega) g1))
theorem pcase (v c : Int32) {n : Nat} (hc : c = nI n) (hn : n < 1000) : (∃ j, j < n ∧ v = nI j) ∨ ¬ (0 ≤ v ∧ v < c) := by
  by_cases h : 0 ≤ v ∧ v < c
  · obtain ⟨j, g1, g2⟩ := nI_of (Int32.not_lt.mpr h.1)
    refine Or.inl ⟨j, ?_, g2⟩
    have := h.2
    rw [hc, g2] at this
    exact (nI_ltI g1 (by omega)).mp this
  · exact Or.inr h

theorem both_size {x m : tm_M} (H : Rel x m) (a b : Int32) : ∃ (k r : Int32) (x' m' : tm_M), (∀ (l : Launch) (D : va_G) (aC : Nat → ClassId) (ad : Nat → Nat) (f : Nat → Int64), l.stackTraces = false → OkL l y_La_size b_La_size 5 hh_size (romT 8 187) D aC ad [.ref (ad 0), .int a, .int b, .ref (ad 111)] x f k x' (fo k r f)) ∧ (∀ (l : Launch) (D : va_G) (aC : Nat → ClassId) (ad : Nat → Nat), OkM l y_Mo_size b_Mo_size 3 (some .int) (rom 1 22) D aC ad [.ref (ad 0), .int a, .int b] m (some (.int r)) m') ∧ m'.1 (0, 0, 0) 0 = k ∧ Rel x' m' := by
  have H0 := H
  obtain ⟨T, Pa, len, S, O, G, t, H⟩ := H
  rcases fcase a with ⟨f, hf, rfl⟩ | ⟨q1, q2⟩
  · obtain ⟨p1, p2, p3, p4⟩ := H.2.2.2.1 f hf
    rcases wcase b 2 (by decide) with ⟨j, hj, rfl⟩ | hb
    · have : j = 0 ∨ j = 1 ∨ j = 2 := by omega
      rcases this with h | h | h
      · subst h
        exact ⟨0, nI ((G f) 0 0), x, sI m (0, 0, 0) 0 0, fun l D aC ad fn htr => ok_La_size x fn _ _ (by have := ok_Lp_size_0 (l := l) (D := D) (aC := aC) (ad := ad) hf x; rw [p1.1] at this; exact this), fun l D aC ad => by have := ok_Mo_size_0_0 (l := l) (D := D) (aC := aC) (ad := ad) hf m; rw [p2.1] at this; exact this, rI, rel_thr H0⟩
      · subst h
        exact ⟨0, nI ((G f) 0 1), x, sI m (0, 0, 0) 0 0, fun l D aC ad fn htr => ok_La_size x fn _ _ (by have := ok_Lp_size_1 (l := l) (D := D) (aC := aC) (ad := ad) hf x; rw [p1.2.1] at this; exact this), fun l D aC ad => by have := ok_Mo_size_0_1 (l := l) (D := D) (aC := aC) (ad := ad) hf m; rw [p2.2.1] at this; exact this, rI, rel_thr H0⟩
      · subst h
        exact ⟨0, nI ((G f) 0 2), x, sI m (0, 0, 0) 0 0, fun l D aC ad fn htr => ok_La_size x fn _ _ (by have := ok_Lp_size_2 (l := l) (D := D) (aC := aC) (ad := ad) hf x; rw [p1.2.2.1] at this; exact this), fun l D aC ad => by have := ok_Mo_size_0_2 (l := l) (D := D) (aC := aC) (ad := ad) hf m; rw [p3.1] at this; exact this, rI, rel_thr H0⟩
    · exact ⟨1, 0, x, sI m (0, 0, 0) 0 1, fun l D aC ad fn htr => th_La_size_1 x fn _ b (th_Lp_size_1 htr hf x b hb), fun l D aC ad => ok_Mo_size_1 m _ b (Or.inr hb), rI, rel_thr H0⟩
  · exact ⟨1, 0, x, sI m (0, 0, 0) 0 1, fun l D aC ad fn htr => th_La_size_1 x fn a b (th_Lp_size_0 htr x a q1 b), fun l D aC ad => ok_Mo_size_1 m a b (Or.inl q2), rI, rel_thr H0⟩

theorem le3 {v : Int32} (h : v < 3) : v ≤ 2 := by
  have h2 : v.toInt < 3 := by have := Int32.lt_iff_toInt_lt.mp h; simpa using this
  exact Int32.le_iff_toInt_le.mpr (by show v.toInt ≤ 2; omega)

theorem both_code {x m : tm_M} (H : Rel x m) (a b c : Int32) : ∃ (k r : Int32) (x' m' : tm_M), (∀ (l : Launch) (D : va_G) (aC : Nat → ClassId) (ad : Nat → Nat) (f : Nat → Int64), l.stackTraces = false → OkL l y_La_code b_La_code 6 hh_code (romT 8 187) D aC ad [.ref (ad 0), .int a, .int b, .int c, .ref (ad 111)] x f k x' (fo k r f)) ∧ (∀ (l : Launch) (D : va_G) (aC : Nat → ClassId) (ad : Nat → Nat), OkM l y_Mo_code b_Mo_code 5 (some .int) (rom 1 22) D aC ad [.ref (ad 0), .int a, .int b, .int c] m (some (.int r)) m') ∧ m'.1 (0, 0, 0) 0 = k ∧ Rel x' m' := by
  have H0 := H
  obtain ⟨T, Pa, len, S, O, G, t, H⟩ := H
  rcases fcase a with ⟨f, hf, rfl⟩ | ⟨q1, q2⟩
  · obtain ⟨p1, p2, p3, p4⟩ := H.2.2.2.1 f hf
    have hbd := p4.1
    rcases pcase b (x.1 (6, f, 0) 2) (p1.1) (by omega) with ⟨j, hj, rfl⟩ | hb
    · rcases wcase c 1 (by decide) with ⟨w, hw, rfl⟩ | hc
      · have hcases : w = 0 ∨ w = 1 := by omega
        rcases hcases with h | h
        · subst h
          exact ⟨0, nI ((G f) 1 j), x, sI m (0, 0, 0) 0 0, fun l D aC ad fn htr => ok_La_code x fn _ _ _ (by have := ok_Lp_code_0 (l := l) (D := D) (aC := aC) (ad := ad) hf x (p1.1) hj (by omega); rw [(p1.2.2.2.1 j hj).1] at this; exact this), fun l D aC ad => by have := ok_Mo_code_0_0 (l := l) (D := D) (aC := aC) (ad := ad) hf m (p2.1) hj (by omega); rw [(p2.2.2.1 j hj).1] at this; exact this, rI, rel_thr H0⟩
        · subst h
          exact ⟨0, nI ((G f) 2 j), x, sI m (0, 0, 0) 0 0, fun l D aC ad fn htr => ok_La_code x fn _ _ _ (by have := ok_Lp_code_1 (l := l) (D := D) (aC := aC) (ad := ad) hf x (p1.1) hj (by omega); rw [(p1.2.2.2.1 j hj).2] at this; exact this), fun l D aC ad => by have := ok_Mo_code_0_1 (l := l) (D := D) (aC := aC) (ad := ad) hf m (p2.1) hj (by omega); rw [(p2.2.2.1 j hj).2.1, (p4.2.2.2.1 j hj).2] at this; exact this, rI, rel_thr H0⟩
      · exact ⟨1, 0, x, sI m (0, 0, 0) 0 1, fun l D aC ad fn htr => th_La_code_1 x fn _ _ c (th_Lp_code_2 htr hf x _ c ⟨nI_pos' (by omega), by rw [p1.1]; exact nI_lt hj (by omega)⟩ (by rintro (z | z) <;> rcases hc with hc | hc <;> (rw [z] at hc; revert hc; decide))), fun l D aC ad => ok_Mo_code_1 m _ _ c (fun z => by obtain ⟨-, -, -, -, z⟩ := z; rcases z with z | z <;> rcases hc with hc | hc <;> (rw [z] at hc; revert hc; decide)), rI, rel_thr H0⟩
    · refine ⟨1, 0, x, sI m (0, 0, 0) 0 1, fun l D aC ad fn htr => th_La_code_1 x fn _ b c (th_Lp_code_1 htr hf x b c hb), fun l D aC ad => ok_Mo_code_1 m _ b c (fun z => hb ⟨z.2.2.1, ?_⟩), rI, rel_thr H0⟩
      have := z.2.2.2.1 f hf rfl
      rw [p2.1] at this
      rw [p1.1]; exact this
  · exact ⟨1, 0, x, sI m (0, 0, 0) 0 1, fun l D aC ad fn htr => th_La_code_1 x fn a b c (th_Lp_code_0 htr x a q1 b c), fun l D aC ad => ok_Mo_code_1 m a b c (fun z => q1 ⟨z.1, z.2.1⟩), rI, rel_thr H0⟩

theorem both_action {x m : tm_M} (H : Rel x m) (a b c : Int32) : ∃ (k r : Int32) (x' m' : tm_M), (∀ (l : Launch) (D : va_G) (aC : Nat → ClassId) (ad : Nat → Nat) (f : Nat → Int64), l.stackTraces = false → OkL l y_La_action b_La_action 6 hh_action (romT 8 187) D aC ad [.ref (ad 0), .int a, .int b, .int c, .ref (ad 111)] x f k x' (fo k r f)) ∧ (∀ (l : Launch) (D : va_G) (aC : Nat → ClassId) (ad : Nat → Nat), OkM l y_Mo_action b_Mo_action 6 (some .int) (rom 1 22) D aC ad [.ref (ad 0), .int a, .int b, .int c] m (some (.int r)) m') ∧ m'.1 (0, 0, 0) 0 = k ∧ Rel x' m' := by
  have H0 := H
  obtain ⟨T, Pa, len, S, O, G, t, H⟩ := H
  rcases fcase a with ⟨f, hf, rfl⟩ | ⟨q1, q2⟩
  · obtain ⟨p1, p2, p3, p4⟩ := H.2.2.2.1 f hf
    have hbd := p4.2.1
    rcases pcase b (x.1 (6, f, 0) 6) (p1.2.1) (by omega) with ⟨j, hj, rfl⟩ | hb
    · rcases wcase c 2 (by decide) with ⟨w, hw, rfl⟩ | hc
      · have hcases : w = 0 ∨ w = 1 ∨ w = 2 := by omega
        rcases hcases with h | h | h
        · subst h
          exact ⟨0, fI ((G f) 7 j), x, sI m (0, 0, 0) 0 0, fun l D aC ad fn htr => ok_La_action x fn _ _ _ (by have := ok_Lp_action_0 (l := l) (D := D) (aC := aC) (ad := ad) hf x (p1.2.1) hj (by omega); rw [(p1.2.2.2.2.1 j hj).1] at this; exact this), fun l D aC ad => by have := ok_Mo_action_0_0 (l := l) (D := D) (aC := aC) (ad := ad) hf m (p2.2.1) hj (by omega); rw [(p2.2.2.2 j hj).1] at this; exact this, rI, rel_thr H0⟩
        · subst h
          exact ⟨0, nI ((G f) 8 j), x, sI m (0, 0, 0) 0 0, fun l D aC ad fn htr => ok_La_action x fn _ _ _ (by have := ok_Lp_action_1 (l := l) (D := D) (aC := aC) (ad := ad) hf x (p1.2.1) hj (by omega); rw [(p1.2.2.2.2.1 j hj).2.1] at this; exact this), fun l D aC ad => by have := ok_Mo_action_0_1 (l := l) (D := D) (aC := aC) (ad := ad) hf m (p2.2.1) hj (by omega); rw [(p2.2.2.2 j hj).2.1] at this; exact this, rI, rel_thr H0⟩
        · subst h
          exact ⟨0, hv ((G f) 9 j), x, sI m (0, 0, 0) 0 0, fun l D aC ad fn htr => ok_La_action x fn _ _ _ (by have := ok_Lp_action_2 (l := l) (D := D) (aC := aC) (ad := ad) hf x (p1.2.1) hj (by omega); rw [(p1.2.2.2.2.1 j hj).2.2] at this; exact this), fun l D aC ad => by have := ok_Mo_action_0_2 (l := l) (D := D) (aC := aC) (ad := ad) hf m (p2.2.1) hj (by omega); rw [(p2.2.2.2 j hj).2.2] at this; exact this, rI, rel_thr H0⟩
      · exact ⟨1, 0, x, sI m (0, 0, 0) 0 1, fun l D aC ad fn htr => th_La_action_1 x fn _ _ c (th_Lp_action_2 htr hf x _ c ⟨nI_pos' (by omega), by rw [p1.2.1]; exact nI_lt hj (by omega)⟩ hc), fun l D aC ad => ok_Mo_action_1 m _ _ c (fun z => by obtain ⟨-, -, -, -, z1, z2⟩ := z; rcases hc with hc | hc; exact Int32.not_lt.mpr z1 hc; exact absurd (Int32.lt_of_lt_of_le hc (le3 z2)) (by decide)), rI, rel_thr H0⟩
    · refine ⟨1, 0, x, sI m (0, 0, 0) 0 1, fun l D aC ad fn htr => th_La_action_1 x fn _ b c (th_Lp_action_1 htr hf x b c hb), fun l D aC ad => ok_Mo_action_1 m _ b c (fun z => hb ⟨z.2.2.1, ?_⟩), rI, rel_thr H0⟩
      have := z.2.2.2.1 f hf rfl
      rw [p2.2.1] at this
      rw [p1.2.1]; exact this
  · exact ⟨1, 0, x, sI m (0, 0, 0) 0 1, fun l D aC ad fn htr => th_La_action_1 x fn a b c (th_Lp_action_0 htr x a q1 b c), fun l D aC ad => ok_Mo_action_1 m a b c (fun z => q1 ⟨z.1, z.2.1⟩), rI, rel_thr H0⟩

theorem both_site {x m : tm_M} (H : Rel x m) (a b c : Int32) : ∃ (k r : Int32) (x' m' : tm_M), (∀ (l : Launch) (D : va_G) (aC : Nat → ClassId) (ad : Nat → Nat) (f : Nat → Int64), l.stackTraces = false → OkL l y_La_site b_La_site 6 hh_site (romT 8 187) D aC ad [.ref (ad 0), .int a, .int b, .int c, .ref (ad 111)] x f k x' (fo k r f)) ∧ (∀ (l : Launch) (D : va_G) (aC : Nat → ClassId) (ad : Nat → Nat), OkM l y_Mo_site b_Mo_site 6 (some .int) (rom 1 22) D aC ad [.ref (ad 0), .int a, .int b, .int c] m (some (.int r)) m') ∧ m'.1 (0, 0, 0) 0 = k ∧ Rel x' m' := by
  have H0 := H
  obtain ⟨T, Pa, len, S, O, G, t, H⟩ := H
  rcases fcase a with ⟨f, hf, rfl⟩ | ⟨q1, q2⟩
  · obtain ⟨p1, p2, p3, p4⟩ := H.2.2.2.1 f hf
    have hbd := p4.2.2.1
    rcases pcase b (x.1 (6, f, 0) 10) (p1.2.2.1) (by omega) with ⟨j, hj, rfl⟩ | hb
    · rcases wcase c 2 (by decide) with ⟨w, hw, rfl⟩ | hc
      · have hcases : w = 0 ∨ w = 1 ∨ w = 2 := by omega
        rcases hcases with h | h | h
        · subst h
          exact ⟨0, nI ((G f) 14 j), x, sI m (0, 0, 0) 0 0, fun l D aC ad fn htr => ok_La_site x fn _ _ _ (by have := ok_Lp_site_0 (l := l) (D := D) (aC := aC) (ad := ad) hf x (p1.2.2.1) hj (by omega); rw [(p1.2.2.2.2.2 j hj).1] at this; exact this), fun l D aC ad => by have := ok_Mo_site_0_0 (l := l) (D := D) (aC := aC) (ad := ad) hf m (p3.1) hj (by omega); rw [(p3.2 j hj).1] at this; exact this, rI, rel_thr H0⟩
        · subst h
          exact ⟨0, nI ((G f) 15 j), x, sI m (0, 0, 0) 0 0, fun l D aC ad fn htr => ok_La_site x fn _ _ _ (by have := ok_Lp_site_1 (l := l) (D := D) (aC := aC) (ad := ad) hf x (p1.2.2.1) hj (by omega); rw [(p1.2.2.2.2.2 j hj).2.1] at this; exact this), fun l D aC ad => by have := ok_Mo_site_0_1 (l := l) (D := D) (aC := aC) (ad := ad) hf m (p3.1) hj (by omega); rw [(p3.2 j hj).2.1] at this; exact this, rI, rel_thr H0⟩
        · subst h
          exact ⟨0, hv ((G f) 16 j), x, sI m (0, 0, 0) 0 0, fun l D aC ad fn htr => ok_La_site x fn _ _ _ (by have := ok_Lp_site_2 (l := l) (D := D) (aC := aC) (ad := ad) hf x (p1.2.2.1) hj (by omega); rw [(p1.2.2.2.2.2 j hj).2.2] at this; exact this), fun l D aC ad => by have := ok_Mo_site_0_2 (l := l) (D := D) (aC := aC) (ad := ad) hf m (p3.1) hj (by omega); rw [(p3.2 j hj).2.2] at this; exact this, rI, rel_thr H0⟩
      · exact ⟨1, 0, x, sI m (0, 0, 0) 0 1, fun l D aC ad fn htr => th_La_site_1 x fn _ _ c (th_Lp_site_2 htr hf x _ c ⟨nI_pos' (by omega), by rw [p1.2.2.1]; exact nI_lt hj (by omega)⟩ hc), fun l D aC ad => ok_Mo_site_1 m _ _ c (fun z => by obtain ⟨-, -, -, -, z1, z2⟩ := z; rcases hc with hc | hc; exact Int32.not_lt.mpr z1 hc; exact absurd (Int32.lt_of_lt_of_le hc (le3 z2)) (by decide)), rI, rel_thr H0⟩
    · refine ⟨1, 0, x, sI m (0, 0, 0) 0 1, fun l D aC ad fn htr => th_La_site_1 x fn _ b c (th_Lp_site_1 htr hf x b c hb), fun l D aC ad => ok_Mo_site_1 m _ b c (fun z => hb ⟨z.2.2.1, ?_⟩), rI, rel_thr H0⟩
      have := z.2.2.2.1 f hf rfl
      rw [p3.1] at this
      rw [p1.2.2.1]; exact this
  · exact ⟨1, 0, x, sI m (0, 0, 0) 0 1, fun l D aC ad fn htr => th_La_site_1 x fn a b c (th_Lp_site_0 htr x a q1 b c), fun l D aC ad => ok_Mo_site_1 m a b c (fun z => q1 ⟨z.1, z.2.1⟩), rI, rel_thr H0⟩

theorem both_run {x m : tm_M} (H : Rel x m) (a : Int32) : ∃ (k r : Int32) (x' m' : tm_M), (∀ (l : Launch) (D : va_G) (aC : Nat → ClassId) (ad : Nat → Nat) (f : Nat → Int64), l.stackTraces = false → OkL l y_La_run b_La_run 4 hh_run (romT 8 187) D aC ad [.ref (ad 0), .int a, .ref (ad 111)] x f k x' (fo k r f)) ∧ (∀ (l : Launch) (D : va_G) (aC : Nat → ClassId) (ad : Nat → Nat), OkM l y_Mo_run b_Mo_run 4 (some .int) (rom 4 94) D aC ad [.ref (ad 0), .int a] m (some (.int r)) m') ∧ m'.1 (0, 0, 0) 0 = k ∧ Rel x' m' := by
  have H0 := H
  obtain ⟨T, Pa, len, S, O, G, t, H⟩ := H
  rcases fcase a with ⟨f, hf, rfl⟩ | ⟨q1, q2⟩
  · obtain ⟨p1, p2, p3, p4⟩ := H.2.2.2.1 f hf
    by_cases hn : (G f) 0 0 = 0
    · exact ⟨2, 0, x, sI m (0, 0, 0) 0 2, fun l D aC ad fn htr => th_La_run_2 x fn _ (th_Lp_run_2 htr hf x (by rw [p1.1, hn]; decide)), fun l D aC ad => ok_Mo_run_2 hf m (by rw [p2.1, hn]; decide), rI, rel_thr H0⟩
    · obtain ⟨x', m', r, s1, s2, s3, t', s4⟩ := run_ok H hf (by omega)
      exact ⟨0, r, x', m', fun l D aC ad fn htr => ok_La_run x fn _ (s1 l D aC ad), s2, s3, T, Pa, len, S, O, G, t', s4⟩
  · exact ⟨1, 0, x, sI m (0, 0, 0) 0 1, fun l D aC ad fn htr => th_La_run_1 x fn a (th_Lp_run_1 htr x a q1), fun l D aC ad => ok_Mo_run_1 m a q2, rI, rel_thr H0⟩

theorem both_count {x m : tm_M} (H : Rel x m) (a : Int32) : ∃ (k r : Int32) (x' m' : tm_M), (∀ (l : Launch) (D : va_G) (aC : Nat → ClassId) (ad : Nat → Nat) (f : Nat → Int64), l.stackTraces = false → OkL l y_La_count b_La_count 4 hh_count (romT 8 187) D aC ad [.ref (ad 0), .int a, .ref (ad 111)] x f k x' (fo k r f)) ∧ (∀ (l : Launch) (D : va_G) (aC : Nat → ClassId) (ad : Nat → Nat), OkM l y_Mo_count b_Mo_count 2 (some .int) (rom 1 22) D aC ad [.ref (ad 0), .int a] m (some (.int r)) m') ∧ m'.1 (0, 0, 0) 0 = k ∧ Rel x' m' := by
  have H0 := H
  obtain ⟨T, Pa, len, S, O, G, t, H⟩ := H
  obtain ⟨t1, t2, t3, t4, t5⟩ := H.2.2.2.2
  rcases wcase a 5 (by decide) with ⟨j, hj, rfl⟩ | ha
  · have hcases : j = 0 ∨ j = 1 ∨ j = 2 ∨ j = 3 ∨ j = 4 ∨ j = 5 := by omega
    rcases hcases with h | h | h | h | h | h
    · subst h
      exact ⟨0, nI t, x, sI m (0, 0, 0) 0 0, fun l D aC ad fn htr => ok_La_count x fn _ (by have := ok_Lp_count_0 (l := l) (D := D) (aC := aC) (ad := ad) x; rw [t2] at this; exact this), fun l D aC ad => by have := ok_Mo_count_0 (l := l) (D := D) (aC := aC) (ad := ad) (f := 0) (by omega) m; rw [t3] at this; exact this, rI, rel_thr H0⟩
    · subst h
      exact ⟨0, m.2 (0, 0, 28) 1, x, sI m (0, 0, 0) 0 0, fun l D aC ad fn htr => ok_La_count x fn _ (by have := ok_Lp_count_1 (l := l) (D := D) (aC := aC) (ad := ad) x; rw [t5 1 (by omega) (by omega)] at this; exact this), fun l D aC ad => by have := ok_Mo_count_0 (l := l) (D := D) (aC := aC) (ad := ad) (f := 1) (by omega) m; exact this, rI, rel_thr H0⟩
    · subst h
      exact ⟨0, m.2 (0, 0, 28) 2, x, sI m (0, 0, 0) 0 0, fun l D aC ad fn htr => ok_La_count x fn _ (by have := ok_Lp_count_2 (l := l) (D := D) (aC := aC) (ad := ad) x; rw [t5 2 (by omega) (by omega)] at this; exact this), fun l D aC ad => by have := ok_Mo_count_0 (l := l) (D := D) (aC := aC) (ad := ad) (f := 2) (by omega) m; exact this, rI, rel_thr H0⟩
    · subst h
      exact ⟨0, m.2 (0, 0, 28) 3, x, sI m (0, 0, 0) 0 0, fun l D aC ad fn htr => ok_La_count x fn _ (by have := ok_Lp_count_3 (l := l) (D := D) (aC := aC) (ad := ad) x; rw [t5 3 (by omega) (by omega)] at this; exact this), fun l D aC ad => by have := ok_Mo_count_0 (l := l) (D := D) (aC := aC) (ad := ad) (f := 3) (by omega) m; exact this, rI, rel_thr H0⟩
    · subst h
      exact ⟨0, m.2 (0, 0, 28) 4, x, sI m (0, 0, 0) 0 0, fun l D aC ad fn htr => ok_La_count x fn _ (by have := ok_Lp_count_4 (l := l) (D := D) (aC := aC) (ad := ad) x; rw [t5 4 (by omega) (by omega)] at this; exact this), fun l D aC ad => by have := ok_Mo_count_0 (l := l) (D := D) (aC := aC) (ad := ad) (f := 4) (by omega) m; exact this, rI, rel_thr H0⟩
    · subst h
      exact ⟨0, m.2 (0, 0, 28) 5, x, sI m (0, 0, 0) 0 0, fun l D aC ad fn htr => ok_La_count x fn _ (by have := ok_Lp_count_5 (l := l) (D := D) (aC := aC) (ad := ad) x; rw [t5 5 (by omega) (by omega)] at this; exact this), fun l D aC ad => by have := ok_Mo_count_0 (l := l) (D := D) (aC := aC) (ad := ad) (f := 5) (by omega) m; exact this, rI, rel_thr H0⟩
  · exact ⟨1, 0, x, sI m (0, 0, 0) 0 1, fun l D aC ad fn htr => th_La_count_1 x fn a (th_Lp_count htr x a ha), fun l D aC ad => ok_Mo_count_1 m a ha, rI, rel_thr H0⟩

theorem both_out {x m : tm_M} (H : Rel x m) (a : Int32) : ∃ (k r : Int32) (x' m' : tm_M), (∀ (l : Launch) (D : va_G) (aC : Nat → ClassId) (ad : Nat → Nat) (f : Nat → Int64), l.stackTraces = false → OkL l y_La_out b_La_out 4 hh_out (romT 8 187) D aC ad [.ref (ad 0), .int a, .ref (ad 111)] x f k x' (fo k r f)) ∧ (∀ (l : Launch) (D : va_G) (aC : Nat → ClassId) (ad : Nat → Nat), OkM l y_Mo_out b_Mo_out 2 (some .int) (rom 1 22) D aC ad [.ref (ad 0), .int a] m (some (.int r)) m') ∧ m'.1 (0, 0, 0) 0 = k ∧ Rel x' m' := by
  have H0 := H
  obtain ⟨T, Pa, len, S, O, G, t, H⟩ := H
  obtain ⟨t1, t2, t3, t4, t5⟩ := H.2.2.2.2
  rcases pcase a (x.1 (5, 0, 3) 1) t2 (by omega) with ⟨j, hj, rfl⟩ | ha
  · refine ⟨0, m.2 (0, 0, 29) j, x, sI m (0, 0, 0) 0 0, fun l D aC ad fn htr => ok_La_out x fn _ (by have := ok_Lp_out (l := l) (D := D) (aC := aC) (ad := ad) x t2 hj t1; rw [t4 j hj] at this; exact this), fun l D aC ad => ok_Mo_out_0 m (by omega) ?_, rI, rel_thr H0⟩
    rw [t3]
    rintro (z | z)
    · exact nI_pos (by omega) z
    · have e1 : nI t - 1 = nI (t - 1) := by rw [← nI_pred (t - 1), show t - 1 + 1 = t by omega]
      rw [e1] at z
      have := (nI_ltI (by omega) (by omega)).mp z
      omega
  · refine ⟨1, 0, x, sI m (0, 0, 0) 0 1, fun l D aC ad fn htr => th_La_out_1 x fn a (th_Lp_out htr x a ha), fun l D aC ad => ok_Mo_out_1 m a ?_, rI, rel_thr H0⟩
    rw [t3]
    rw [t2] at ha
    by_cases h : a < 0
    · exact Or.inl h
    · right
      obtain ⟨j, g1, g2⟩ := nI_of h
      have hj : t ≤ j := by
        apply Classical.byContradiction
        intro w
        exact ha ⟨Int32.not_lt.mp h, by rw [g2]; exact nI_lt (by omega) (by omega)⟩
      rw [g2]
      by_cases t0 : t = 0
      · subst t0
        show nI 0 - 1 < nI j
        have : nI 0 - 1 = -1 := by decide
        rw [this]
        exact Int32.lt_of_lt_of_le (by decide : (-1 : Int32) < 0) (nI_pos' g1)
      · have e1 : nI t - 1 = nI (t - 1) := by rw [← nI_pred (t - 1), show t - 1 + 1 = t by omega]
        rw [e1]; exact nI_lt (by omega) g1
