def fo (k r : Int32) (f : Nat → Int64) : Nat → Int64 := if k = 0 then vp_updL f 0 r.toInt64 else f
theorem rel_thr {x m : tm_M} {v : Int32} (H : Rel x m) : Rel x (sI m (0, 0, 0) 0 v) := by
  obtain ⟨T, Pa, len, S, O, G, t, H⟩ := H
  obtain ⟨R, Y⟩ := H.s
  exact ⟨T, Pa, len, S, O, G, t, (R.keep kx_r (km_I (by omega) km_r)).rel Y⟩
theorem fcase (k : Int32) : (∃ f, f < 6 ∧ k = nI f) ∨ (¬ (0 ≤ k ∧ k < 6) ∧ (k < 0 ∨ 5 < k)) := by
  by_cases h : k < 0
  · exact Or.inr ⟨fun z => Int32.not_lt.mpr z.1 h, Or.inl h⟩
  · obtain ⟨j, h1, h2⟩ := nI_of h
    by_cases h6 : j < 6
    · exact Or.inl ⟨j, h6, h2⟩
    · refine Or.inr ⟨fun z => ?_, Or.inr ?_⟩
      · rw [h2] at z
        have := (nI_ltI (b := 6) h1 (by decide)).mp z.2
        omega
      · rw [h2]; exact nI_lt (a := 5) (by omega) h1
theorem tcase {T : Nat} (h1 : 1 ≤ T) (h8 : T ≤ 8) (k : Int32) : (∃ p, p ≤ T ∧ k = hv p ∧ (k = -1 ∨ (0 ≤ k ∧ k < nI T)) ∧ ¬ (k < -1 ∨ nI T - 1 < k)) ∨ (¬ (k = -1 ∨ (0 ≤ k ∧ k < nI T)) ∧ (k < -1 ∨ nI T - 1 < k)) := by
  have e1 : nI T - 1 = nI (T - 1) := by rw [← nI_pred (T - 1), show T - 1 + 1 = T by omega]
  rw [e1]
  by_cases h : k < 0
  · by_cases hm : k = -1
    · refine Or.inl ⟨0, by omega, hm.trans hv_0.symm, Or.inl hm, ?_⟩
      rw [hm]
      rintro (z | z)
      · exact absurd z (by decide)
      · exact absurd (Int32.lt_trans z (by decide : (-1 : Int32) < 0)) (nI_pos (by omega))
    · refine Or.inr ⟨?_, Or.inl ?_⟩
      · rintro (z | z)
        · exact hm z
        · exact Int32.not_lt.mpr z.1 h
      · have h2 : k.toInt < 0 := by have := Int32.lt_iff_toInt_lt.mp h; simpa using this
        have h3 : k.toInt ≠ -1 := fun z => hm (Int32.toInt_inj.mp (by rw [z]; decide))
        exact Int32.lt_iff_toInt_lt.mpr (by show k.toInt < -1; omega)
  · obtain ⟨j, g1, g2⟩ := nI_of h
    by_cases hj : j < T
    · refine Or.inl ⟨j + 1, by omega, by rw [hv_S]; exact g2, Or.inr ⟨Int32.not_lt.mp h, by rw [g2]; exact nI_lt hj (by omega)⟩, ?_⟩
      rintro (z | z)
      · exact h (Int32.lt_trans z (by decide))
      · rw [g2] at z
        have := (nI_ltI (by omega) g1).mp z
        omega
    · refine Or.inr ⟨?_, Or.inr ?_⟩
      · rintro (z | z)
        · exact h (by rw [z]; decide)
        · rw [g2] at z
          have := (nI_ltI g1 (by omega)).mp z.2
          omega
      · rw [g2]; exact nI_lt (by omega) g1
theorem txO_le {T T' len : Nat} {S O : Nat → Nat} (h : T ≤ T') (H : txO' T len S O) : txO' T' len S O :=
  ⟨H.1, H.2.1, H.2.2.1, H.2.2.2.1, fun k a b => Nat.lt_of_lt_of_le (H.2.2.2.2.1 k a b) h, fun k a => Nat.le_trans (H.2.2.2.2.2 k a) h⟩
theorem both_type {x m : tm_M} (H : Rel x m) (a : Int32) : ∃ (k r : Int32) (x' m' : tm_M), (∀ (l : Launch) (D : va_G) (aC : Nat → ClassId) (ad : Nat → Nat) (f : Nat → Int64), l.stackTraces = false → OkL l y_La_type b_La_type 4 hh_type (romT 8 187) D aC ad [.ref (ad 0), .int a, .ref (ad 111)] x f k x' (fo k r f)) ∧ (∀ (l : Launch) (D : va_G) (aC : Nat → ClassId) (ad : Nat → Nat), OkM l y_Mo_type b_Mo_type 2 (some .int) (rom 1 22) D aC ad [.ref (ad 0), .int a] m (some (.int r)) m') ∧ m'.1 (0, 0, 0) 0 = k ∧ Rel x' m' := by
  have H0 := H
  obtain ⟨T, Pa, len, S, O, G, t, H⟩ := H
  obtain ⟨⟨a1, a2, a3, a4⟩, b, c, d, e⟩ := H
  rcases tcase a1 a2 a with ⟨p, q1, q2, q3, q4⟩ | ⟨q1, q2⟩
  · by_cases h8 : T < 8
    · refine ⟨0, nI T, sI (sA x (5, 0, 2) T a) (5, 0, 1) 1 (nI (T + 1)), sI (sA (sI m (0, 0, 0) 0 0) (0, 0, 1) T a) (0, 0, 0) 1 (nI (T + 1)), fun l D aC ad f htr => ?_, fun l D aC ad => ?_, ?_, T + 1, fun k => if k = T then p else Pa k, len, S, O, G, t, ?_⟩
      · exact ok_La_type x f a (ok_Lp_type x a a3 h8 (by rw [a3]; exact q3))
      · exact ok_Mo_type_0 m a a4 h8 (by rw [a4]; exact q4)
      · rw [rIj (by decide), rAI, rI]
      · have kX : ∀ K : tm_K, K ≠ (5, 0, 1) → (sI (sA x (5, 0, 2) T a) (5, 0, 1) 1 (nI (T + 1))).1 K = x.1 K := fun K hK => by rw [rIK hK]; rfl
        have kX2 : ∀ K : tm_K, K ≠ (5, 0, 2) → (sI (sA x (5, 0, 2) T a) (5, 0, 1) 1 (nI (T + 1))).2 K = x.2 K := fun K hK => by rw [rIA, rAK hK]
        have kM : ∀ i, i ≠ 1 → (sI (sA (sI m (0, 0, 0) 0 0) (0, 0, 1) T a) (0, 0, 0) 1 (nI (T + 1))).2 (0, 0, i) = m.2 (0, 0, i) := fun i hi => by rw [rIA, rAK (by simp; exact hi)]; rfl
        refine ⟨⟨by omega, by omega, by rw [rI], by rw [rI]⟩, fun k hk => ?_, fun f hf => ?_, fun f hf => ?_, ?_⟩
        · rw [rIA, rIA]
          by_cases ck : k = T
          · subst ck; rw [rA, rA]; simp only [if_true]; exact ⟨q1, q2, q2⟩
          · rw [rAi ck, rAi ck]; simp only [if_neg ck]; exact b k (by omega)
        · obtain ⟨c1, c2, c3⟩ := c f hf
          refine ⟨?_, ?_, txO_le (by omega) c3⟩
          · unfold txX at c1 ⊢
            rw [kX (1, f, 0) (by simp), kX2 (1, f, 1) (by simp), kX2 (1, f, 2) (by simp)]
            exact c1
          · unfold txM at c2 ⊢
            rw [kM 2 (by decide), kM 3 (by decide), kM 4 (by decide)]
            exact c2
        · obtain ⟨d1, d2, d3, d4⟩ := d f hf
          refine ⟨?_, ?_, ?_, gp_le (by omega) d4⟩
          · unfold CXp at d1 ⊢
            rw [kX (6, f, 0) (by simp), kX2 (6, f, 1) (by simp), kX2 (6, f, 2) (by simp), kX2 (6, f, 3) (by simp), kX2 (6, f, 4) (by simp), kX2 (6, f, 5) (by simp), kX2 (6, f, 6) (by simp), kX2 (6, f, 7) (by simp), kX2 (6, f, 8) (by simp)]
            exact d1
          · unfold CMp at d2 ⊢
            rw [kM 5 (by decide), kM 6 (by decide), kM 7 (by decide), kM 8 (by decide), kM 9 (by decide), kM 10 (by decide), kM 11 (by decide), kM 12 (by decide)]
            exact d2
          · unfold CMs at d3 ⊢
            rw [kM 13 (by decide), kM 14 (by decide), kM 15 (by decide), kM 16 (by decide)]
            exact d3
        · rw [kX (5, 0, 3) (by simp), kX2 (5, 0, 4) (by simp), kM 28 (by decide), kM 29 (by decide)]
          exact e
    · refine ⟨2, 0, x, sI m (0, 0, 0) 0 2, fun l D aC ad f htr => ?_, fun l D aC ad => ?_, rI, rel_thr H0⟩
      · exact th_La_type_2 x f a (th_Lp_type_2 htr x a a3 (by omega) (by omega) (by rw [a3]; exact q3))
      · exact ok_Mo_type_2 m a (by rw [a4, show T = 8 by omega]) (by rw [a4]; exact q4)
  · refine ⟨1, 0, x, sI m (0, 0, 0) 0 1, fun l D aC ad f htr => ?_, fun l D aC ad => ?_, rI, rel_thr H0⟩
    · exact th_La_type_1 x f a (th_Lp_type_1 htr x a (by rw [a3]; exact q1))
    · exact ok_Mo_type_1 m a (by rw [a4]; exact q2)
theorem fit_of {T : Nat} (h1 : 1 ≤ T) (h8 : T ≤ 8) {u v : Int32} (h : ¬ fitF (nI T) u v = 0) : ∃ s o, u = nI s ∧ v = hv o ∧ s ≤ 7 ∧ (s ≠ 4 → 1 ≤ o) ∧ (s = 1 → o - 1 < 6) ∧ (s = 2 → o - 1 < T) ∧ (s = 4 → o ≤ T) := by
  have e1 : nI T - 1 = nI (T - 1) := by rw [← nI_pred (T - 1), show T - 1 + 1 = T by omega]
  have bz : ∀ (P : Prop) [Decidable P], ¬ bI P = 0 → P := fun P _ z => by
    unfold bI at z
    split at z
    · assumption
    · exact absurd rfl z
  have rng : ∀ M : Nat, M < 2 ^ 31 → ¬ (v < 0 ∨ nI M < v) → ∃ j, j ≤ M ∧ v = nI j := fun M hM z => by
    obtain ⟨j, g1, g2⟩ := nI_of (fun w => z (Or.inl w))
    refine ⟨j, ?_, g2⟩
    apply Classical.byContradiction
    intro w
    exact z (Or.inr (by rw [g2]; exact nI_lt (by omega) g1))
  unfold fitF at h
  rw [e1] at h
  by_cases c0 : u = 0 ∨ u = 6
  · rw [if_pos c0] at h
    obtain ⟨j, g1, g2⟩ := rng 99 (by decide) (bz _ h)
    rcases c0 with c | c
    · exact ⟨0, j + 1, c, by rw [hv_S]; exact g2, by omega, fun _ => by omega, fun z => by omega, fun z => by omega, fun z => by omega⟩
    · exact ⟨6, j + 1, c, by rw [hv_S]; exact g2, by omega, fun _ => by omega, fun z => by omega, fun z => by omega, fun z => by omega⟩
  · rw [if_neg c0] at h
    by_cases c1 : u = 1
    · rw [if_pos c1] at h
      obtain ⟨j, g1, g2⟩ := rng 5 (by decide) (bz _ h)
      exact ⟨1, j + 1, c1, by rw [hv_S]; exact g2, by omega, fun _ => by omega, fun z => by omega, fun z => by omega, fun z => by omega⟩
    · rw [if_neg c1] at h
      by_cases c2 : u = 2
      · rw [if_pos c2] at h
        obtain ⟨j, g1, g2⟩ := rng (T - 1) (by omega) (bz _ h)
        exact ⟨2, j + 1, c2, by rw [hv_S]; exact g2, by omega, fun _ => by omega, fun z => by omega, fun z => by omega, fun z => by omega⟩
      · rw [if_neg c2] at h
        by_cases c4 : u = 4
        · rw [if_pos c4] at h
          have h2 := bz _ h
          rw [← e1] at h2
          rcases tcase h1 h8 v with ⟨p, q1, q2, -, -⟩ | ⟨-, q2⟩
          · exact ⟨4, p, c4, q2, by omega, fun z => absurd rfl z, fun z => by omega, fun z => by omega, fun _ => q1⟩
          · exact absurd q2 h2
        · rw [if_neg c4] at h
          by_cases c3 : u = 3 ∨ u = 5 ∨ u = 7
          · rw [if_pos c3] at h
            have h2 := bz _ h
            rcases c3 with c | c | c
            · exact ⟨3, 1, c, h2, by omega, fun _ => by omega, fun z => by omega, fun z => by omega, fun z => by omega⟩
            · exact ⟨5, 1, c, h2, by omega, fun _ => by omega, fun z => by omega, fun z => by omega, fun z => by omega⟩
            · exact ⟨7, 1, c, h2, by omega, fun _ => by omega, fun z => by omega, fun z => by omega, fun z => by omega⟩
          · rw [if_neg c3] at h
            exact absurd rfl h
theorem rel_text {x m x' m' : tm_M} {T : Nat} {Pa len : Nat → Nat} {S O : Nat → Nat → Nat} {G : Nat → aM} {t f n : Nat} {S1 O1 : Nat → Nat} (H : Rel' x m T Pa len S O G t) (hf : f < 6) (hX : ∀ K : tm_K, ¬ (K.1 = 1 ∧ K.2.1 = f) → x'.1 K = x.1 K ∧ x'.2 K = x.2 K) (hM1 : m'.1 (0, 0, 0) 1 = m.1 (0, 0, 0) 1) (hM2 : ∀ a, a ≠ 2 → a ≠ 3 → a ≠ 4 → m'.2 (0, 0, a) = m.2 (0, 0, a)) (hMt : ∀ g, g < 6 → g ≠ f → m'.2 (0, 0, 2) g = m.2 (0, 0, 2) g ∧ ∀ k, k < 20 → m'.2 (0, 0, 3) (20 * g + k) = m.2 (0, 0, 3) (20 * g + k) ∧ m'.2 (0, 0, 4) (20 * g + k) = m.2 (0, 0, 4) (20 * g + k)) (hx : txX f n S1 O1 x') (hm : txM f n S1 O1 m') (hO : txO' T n S1 O1) : Rel x' m' := by
  obtain ⟨⟨a1, a2, a3, a4⟩, b, c, d, e⟩ := H
  refine ⟨T, Pa, fun g => if g = f then n else len g, fun g => if g = f then S1 else S g, fun g => if g = f then O1 else O g, G, t, ⟨a1, a2, by rw [(hX (5, 0, 1) (by simp)).1]; exact a3, by rw [hM1]; exact a4⟩, fun k hk => ?_, fun g hg => ?_, fun g hg => ?_, ?_⟩
  · rw [(hX (5, 0, 2) (by simp)).2, hM2 1 (by decide) (by decide) (by decide)]; exact b k hk
  · by_cases cg : g = f
    · subst cg
      simp only [if_true]
      exact ⟨hx, hm, hO⟩
    · simp only [if_neg cg]
      obtain ⟨c1, c2, c3⟩ := c g hg
      refine ⟨?_, ?_, c3⟩
      · unfold txX at c1 ⊢
        rw [(hX (1, g, 0) (fun z => cg z.2)).1, (hX (1, g, 1) (fun z => cg z.2)).2, (hX (1, g, 2) (fun z => cg z.2)).2]
        exact c1
      · obtain ⟨w1, w2⟩ := hMt g hg cg
        refine ⟨by rw [w1]; exact c2.1, fun k hk => ?_⟩
        have := c3.1
        rw [(w2 k (by omega)).1, (w2 k (by omega)).2]
        exact c2.2 k hk
  · obtain ⟨d1, d2, d3, d4⟩ := d g hg
    have kX : ∀ a, x'.1 (6, g, a) = x.1 (6, g, a) ∧ x'.2 (6, g, a) = x.2 (6, g, a) := fun a => hX (6, g, a) (by simp)
    refine ⟨?_, ?_, ?_, d4⟩
    · unfold CXp at d1 ⊢
      rw [(kX 0).1, (kX 1).2, (kX 2).2, (kX 3).2, (kX 4).2, (kX 5).2, (kX 6).2, (kX 7).2, (kX 8).2]
      exact d1
    · unfold CMp at d2 ⊢
      rw [hM2 5 (by decide) (by decide) (by decide), hM2 6 (by decide) (by decide) (by decide), hM2 7 (by decide) (by decide) (by decide), hM2 8 (by decide) (by decide) (by decide), hM2 9 (by decide) (by decide) (by decide), hM2 10 (by decide) (by decide) (by decide), hM2 11 (by decide) (by decide) (by decide), hM2 12 (by decide) (by decide) (by decide)]
      exact d2
    · unfold CMs at d3 ⊢
      rw [hM2 13 (by decide) (by decide) (by decide), hM2 14 (by decide) (by decide) (by decide), hM2 15 (by decide) (by decide) (by decide), hM2 16 (by decide) (by decide) (by decide)]
      exact d3
  · rw [(hX (5, 0, 3) (by simp)).1, (hX (5, 0, 4) (by simp)).2, hM2 28 (by decide) (by decide) (by decide), hM2 29 (by decide) (by decide) (by decide)]
    exact e
theorem both_add {x m : tm_M} (H : Rel x m) (a u v : Int32) : ∃ (k r : Int32) (x' m' : tm_M), (∀ (l : Launch) (D : va_G) (aC : Nat → ClassId) (ad : Nat → Nat) (f : Nat → Int64), l.stackTraces = false → OkL l y_La_add b_La_add 6 hh_add (romT 8 187) D aC ad [.ref (ad 0), .int a, .int u, .int v, .ref (ad 111)] x f k x' (fo k r f)) ∧ (∀ (l : Launch) (D : va_G) (aC : Nat → ClassId) (ad : Nat → Nat), OkM l y_Mo_add b_Mo_add 5 (some .int) (rom 2 45) D aC ad [.ref (ad 0), .int a, .int u, .int v] m (some (.int r)) m') ∧ m'.1 (0, 0, 0) 0 = k ∧ Rel x' m' := by
  have H0 := H
  obtain ⟨T, Pa, len, S, O, G, t, H⟩ := H
  have H1 := H
  obtain ⟨⟨a1, a2, a3, a4⟩, b, c, d, e⟩ := H
  rcases fcase a with ⟨f, hf, rfl⟩ | ⟨q1, q2⟩
  · by_cases hfit : fitF (nI T) u v = 0
    · refine ⟨1, 0, x, sI m (0, 0, 0) 0 1, fun l D aC ad fn htr => ?_, fun l D aC ad => ?_, rI, rel_thr H0⟩
      · exact th_La_add_1 x fn _ u v (th_Lp_add_1 htr hf x u v a3 (by omega) a2 (by rw [a3]; exact hfit))
      · exact ok_Mo_add_1 m _ u v (Or.inr (by rw [a4]; exact hfit))
    · obtain ⟨c1, c2, c3⟩ := c f hf
      obtain ⟨s, o, g1, g2, g3, g4, g5, g6, g7⟩ := fit_of a1 a2 hfit
      by_cases h20 : len f < 20
      · refine ⟨0, nI (len f + 1), sI (sA (sA x (1, f, 1) (len f) u) (1, f, 2) (len f) v) (1, f, 0) 2 (nI (len f + 1)), sA (sA (sA (sI m (0, 0, 0) 0 0) (0, 0, 3) (20 * f + len f) u) (0, 0, 4) (20 * f + len f) v) (0, 0, 2) f (nI (len f + 1)), fun l D aC ad fn htr => ?_, fun l D aC ad => ?_, ?_, ?_⟩
        · exact ok_La_add x fn _ u v (ok_Lp_add hf x u v a3 (by omega) a2 (by rw [a3]; exact hfit) c1.1 h20)
        · exact ok_Mo_add_0 hf m u v c2.1 (by rw [a4]; exact hfit) h20
        · rw [rAI, rAI, rAI, rI]
        · refine rel_text (f := f) (n := len f + 1) (S1 := fun k => if k = len f then s else S f k) (O1 := fun k => if k = len f then o else O f k) H1 hf (fun K hK => ?_) ?_ (fun i h1 h2 h3 => ?_) (fun g hg hgf => ?_) ?_ ?_ ?_
          · have n0 : K ≠ (1, f, 0) := fun z => hK (by rw [z]; exact ⟨rfl, rfl⟩)
            have n1 : K ≠ (1, f, 1) := fun z => hK (by rw [z]; exact ⟨rfl, rfl⟩)
            have n2 : K ≠ (1, f, 2) := fun z => hK (by rw [z]; exact ⟨rfl, rfl⟩)
            rw [rIK n0, rIA, rAK n2, rAK n1]; exact ⟨rfl, rfl⟩
          · rw [rAI, rAI, rAI, rIj (by decide)]
          · rw [rAK (by simp; exact h1), rAK (by simp; exact h3), rAK (by simp; exact h2)]; rfl
          · refine ⟨by rw [rAi hgf, rAK (by simp), rAK (by simp)]; rfl, fun k hk => ⟨?_, ?_⟩⟩
            · rw [rAK (by simp), rAK (by simp), rAi (by omega)]; rfl
            · rw [rAK (by simp), rAi (by omega), rAK (by simp)]; rfl
          · refine ⟨by rw [rI], fun k hk => ?_⟩
            rw [rIA, rAK (K' := (1, f, 1)) (by simp)]
            by_cases ck : k = len f
            · subst ck; rw [rA, rA]; simp only [if_true]; exact ⟨g1, g2⟩
            · rw [rAi ck, rAi ck, rAK (by simp)]; simp only [if_neg ck]; exact c1.2 k (by omega)
          · refine ⟨by rw [rA], fun k hk => ?_⟩
            rw [rAK (K' := (0, 0, 3)) (K := (0, 0, 2)) (by simp), rAK (K' := (0, 0, 4)) (K := (0, 0, 2)) (by simp), rAK (K' := (0, 0, 3)) (K := (0, 0, 4)) (by simp)]
            by_cases ck : k = len f
            · subst ck; rw [rA, rA]; simp only [if_true]; exact ⟨g1, g2⟩
            · rw [rAi (by omega), rAi (by omega), rAK (by simp)]; simp only [if_neg ck]; exact c2.2 k (by omega)
          · obtain ⟨w1, w2, w3, w4, w5, w6⟩ := c3
            refine ⟨by omega, fun k hk => ?_, fun k hk => ?_, fun k hk => ?_, fun k hk => ?_, fun k => ?_⟩
            · by_cases ck : k = len f
              · simp only [if_pos ck]; exact g3
              · simp only [if_neg ck]; exact w2 k (by omega)
            · by_cases ck : k = len f
              · simp only [if_pos ck]; exact g4
              · simp only [if_neg ck]; exact w3 k (by omega)
            · by_cases ck : k = len f
              · simp only [if_pos ck]; exact g5
              · simp only [if_neg ck]; exact w4 k (by omega)
            · by_cases ck : k = len f
              · simp only [if_pos ck]; exact g6
              · simp only [if_neg ck]; exact w5 k (by omega)
            · by_cases ck : k = len f
              · simp only [if_pos ck]; exact g7
              · simp only [if_neg ck]; exact w6 k
      · have h20' : len f = 20 := by have := c3.1; omega
        refine ⟨2, 0, x, sI m (0, 0, 0) 0 2, fun l D aC ad fn htr => ?_, fun l D aC ad => ?_, rI, rel_thr H0⟩
        · exact th_La_add_2 x fn _ u v (th_Lp_add_2 htr hf x u v a3 (by omega) a2 (by rw [a3]; exact hfit) c1.1 (by omega) (by omega))
        · exact ok_Mo_add_2 hf m u v c2.1 (by rw [a4]; exact hfit) h20'
  · refine ⟨1, 0, x, sI m (0, 0, 0) 0 1, fun l D aC ad fn htr => ?_, fun l D aC ad => ?_, rI, rel_thr H0⟩
    · exact th_La_add_1 x fn a u v (th_Lp_add_0 htr x a q1 u v)
    · exact ok_Mo_add_1 m a u v (Or.inl q2)
theorem both_wipe {x m : tm_M} (H : Rel x m) (a : Int32) : ∃ (k : Int32) (x' m' : tm_M), (∀ (l : Launch) (D : va_G) (aC : Nat → ClassId) (ad : Nat → Nat) (f : Nat → Int64), l.stackTraces = false → OkL l y_La_wipe b_La_wipe 3 hh_wipe (romT 8 187) D aC ad [.ref (ad 0), .int a] x f k x' f) ∧ (∀ (l : Launch) (D : va_G) (aC : Nat → ClassId) (ad : Nat → Nat), OkM l y_Mo_wipe b_Mo_wipe 2 none (rom 1 22) D aC ad [.ref (ad 0), .int a] m none m') ∧ m'.1 (0, 0, 0) 0 = k ∧ Rel x' m' := by
  have H0 := H
  obtain ⟨T, Pa, len, S, O, G, t, H⟩ := H
  rcases fcase a with ⟨f, hf, rfl⟩ | ⟨q1, q2⟩
  · refine ⟨0, sI x (1, f, 0) 2 0, sA (sI m (0, 0, 0) 0 0) (0, 0, 2) f 0, fun l D aC ad fn htr => ?_, fun l D aC ad => ?_, ?_, ?_⟩
    · exact ok_La_wipe x fn _ (ok_Lp_wipe hf x)
    · exact ok_Mo_wipe_0 hf m
    · rw [rAI, rI]
    · have c3 := (H.2.2.1 f hf).2.2
      refine rel_text (f := f) (n := 0) (S1 := S f) (O1 := O f) H hf (fun K hK => ?_) ?_ (fun i h1 h2 h3 => ?_) (fun g hg hgf => ?_) ?_ ?_ ?_
      · have n0 : K ≠ (1, f, 0) := fun z => hK (by rw [z]; exact ⟨rfl, rfl⟩)
        rw [rIK n0]; exact ⟨rfl, rfl⟩
      · rw [rAI, rIj (by decide)]
      · rw [rAK (by simp; exact h1)]; rfl
      · refine ⟨by rw [rAi hgf]; rfl, fun k hk => ⟨?_, ?_⟩⟩
        · rw [rAK (by simp)]; rfl
        · rw [rAK (by simp)]; rfl
      · exact ⟨by rw [rI]; rfl, fun k hk => absurd hk (Nat.not_lt_zero _)⟩
      · exact ⟨by rw [rA]; rfl, fun k hk => absurd hk (Nat.not_lt_zero _)⟩
      · exact ⟨by omega, fun k hk => absurd hk (Nat.not_lt_zero _), fun k hk => absurd hk (Nat.not_lt_zero _), fun k hk => absurd hk (Nat.not_lt_zero _), fun k hk => absurd hk (Nat.not_lt_zero _), c3.2.2.2.2.2⟩
  · refine ⟨1, x, sI m (0, 0, 0) 0 1, fun l D aC ad fn htr => ?_, fun l D aC ad => ?_, rI, rel_thr H0⟩
    · exact th_La_wipe_1 x fn a (th_Lp_wipe htr x a q1)
    · exact ok_Mo_wipe_1 m a q2
