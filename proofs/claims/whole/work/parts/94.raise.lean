theorem fh_both {x m : tm_M} {T : Nat} {Pa len : Nat → Nat} {S O : Nat → Nat → Nat} {G : Nat → aM} {B : aM} {e u : Nat} (R : Rs x m T Pa len S O G) (M : MB x m T G B e) (hu : u < T) : ∀ d, d ≤ e →
    ∃ L g, fhM x (nI u) d = (L, hv g) ∧ fsR m (nI u) d = (L, hv g) ∧ ((L = 0 ∧ g = 0) ∨ (1 ≤ L ∧ L ≤ d ∧ 0 < g ∧ g ≤ (G (B 1 (L - 1))) 0 1 ∧ (G (B 1 (L - 1))) 7 (g - 1) ≠ 0 ∧ ∃ r, rcA (G (B 1 (L - 1))) r (Hw G B (L - 1)) (g - 1)))
  | 0, _ => ⟨0, 0, by unfold fhM; rw [hv_0], by unfold fsR; rw [hv_0], Or.inl ⟨rfl, rfl⟩⟩
  | d + 1, hd => by
    have M' := M
    obtain ⟨mx, mm, m1, m8, me, mF, mW⟩ := M'
    have hF := mF d (by omega)
    obtain ⟨p1, p2, p3, p4⟩ := R.2.2.2 (B 1 d) hF.1
    obtain ⟨w1, w2, w3, w4⟩ := Hw_ok R M (i := d) (by omega)
    have ea : acR m d = (G (B 1 d)) 0 1 := by unfold acR; rw [fnR_eq mm (by omega) hF, p2.2.1, nI_clamp (by have := p4.2.1; omega)]
    obtain ⟨g, c1, c2, c3⟩ := ct_sm (T := T) (A := G (B 1 d)) (Pa := Pa) (Fi := x.2 (6, B 1 d, 3)) (Ne := x.2 (6, B 1 d, 5)) (P := x.2 (5, 0, 2)) (Fi' := fiR m d) (Ne' := neR m d) (P' := m.2 (0, 0, 1)) (c := x.1 (6, B 1 d, 0) 6) (c' := nI (acR m d)) (u := u) p4 R.1.2.1 hu p1.2.1 (by rw [ea]) (fun k hk => ⟨(p1.2.2.2.2.1 k hk).1, (p1.2.2.2.2.1 k hk).2.2⟩) (fun k hk => by unfold fiR neR; rw [fnR_eq mm (by omega) hF]; exact ⟨(p2.2.2.2 k hk).1, (p2.2.2.2 k hk).2.2⟩) (fun k hk => ⟨(R.2.1 k hk).1, (R.2.1 k hk).2.1⟩) (fun k hk => ⟨(R.2.1 k hk).1, (R.2.1 k hk).2.2⟩) 40 (Hw G B d) w3
    have hct : ctM x d (nI u) = hv g := by
      unfold ctM
      rw [fnM_eq mx (by omega) hF, w1, R.1.2.2.1]; exact c1
    have hsm : smR m (nI u) d = hv g := by
      unfold smR
      rw [w2]; exact c2
    unfold fhM fsR
    rw [hct, hsm]
    rcases c3 with c3 | ⟨c3, c4, c5, c6⟩
    · rw [c3, hv_0, if_pos rfl, if_pos rfl]
      obtain ⟨L, g', i1, i2, i3⟩ := fh_both R M hu d (by omega)
      refine ⟨L, g', i1, i2, ?_⟩
      rcases i3 with i3 | ⟨i3, i4, i5⟩
      · exact Or.inl i3
      · exact Or.inr ⟨i3, by omega, i5⟩
    · have hne : ¬ hv g = -1 := by rw [hv_P c5]; exact nI_m1 (by have := p4.2.1; omega)
      rw [if_neg hne, if_neg hne]
      exact ⟨d + 1, g, rfl, rfl, Or.inr ⟨by omega, Nat.le_refl _, c5, c3, c4, 40, c6⟩⟩
theorem Ty.same {x x' m m' : tm_M} {t : Nat} (H : Ty x m t) (h : sameT x x' m m') : Ty x' m' t := by
  unfold Ty at H ⊢
  rw [h.1, h.2.1, h.2.2.1, h.2.2.2]
  exact H
theorem raise_ok {x m : tm_M} {T : Nat} {Pa len : Nat → Nat} {S O : Nat → Nat → Nat} {G : Nat → aM} {B : aM} {u t : Nat} (R : Rs x m T Pa len S O G) (Y : Ty x m t) (M : MB x m T G B (B 0 0)) (hu : u < T) (hE : m.1 (0, 0, 0) 35 = -1) :
    ∃ (x' m' : tm_M) (r : Int32), (∀ (l : Launch) (D : va_G) (aC : Nat → ClassId) (ad : Nat → Nat), OkX l y_Ma_raise b_Ma_raise 2 (some .int) (rom 4 96) D aC ad [.ref (ad 34), .int (nI u)] x (some (.int r)) x') ∧ (∀ (l : Launch) (D : va_G) (aC : Nat → ClassId) (ad : Nat → Nat), OkM l y_Mo_raises b_Mo_raises 2 none (rom 2 50) D aC ad [.ref (ad 0), .int (nI u)] m none m') ∧
      kxR x x' ∧ kmR m m' ∧ Ty x' m' t ∧ m'.1 (0, 0, 0) 35 = r ∧ m'.1 (0, 0, 0) 0 = m.1 (0, 0, 0) 0 ∧ x'.1 (5, 0, 3) 2 = x.1 (5, 0, 3) 2 ∧ m'.2 (0, 0, 28) 1 = m.2 (0, 0, 28) 1 ∧ (r = -1 ∨ r = 1) ∧ (r = -1 → ∃ B' : aM, MB x' m' T G B' (B' 0 0 - 1) ∧ Tp x' m' T G B') := by
  have M' := M
  obtain ⟨mx, mm, m1, m8, me, mF, mW⟩ := M'
  have hT8 := R.1.2.1
  have hPm : ∀ a, a < T → m.2 (0, 0, 1) a = -1 ∨ ∃ j, j < a ∧ m.2 (0, 0, 1) a = nI j := fun a ha => by
    obtain ⟨k1, -, k3⟩ := R.2.1 a ha
    rw [k3]
    by_cases z : Pa a = 0
    · left; rw [z, hv_0]
    · right; exact ⟨Pa a - 1, by omega, hv_P (by omega)⟩
  have hu' : nI u = -1 ∨ ∃ a, a < T ∧ nI u = nI a := Or.inr ⟨u, hu, rfl⟩
  obtain ⟨L, g, i1, i2, i3⟩ := fh_both R M hu (B 0 0) (Nat.le_refl _)
  have i2' : fsR (sI m (0, 0, 0) 31 (nI u)) (nI u) (B 0 0) = (L, hv g) := by
    have : ∀ d, fsR (sI m (0, 0, 0) 31 (nI u)) (nI u) d = fsR m (nI u) d := by
      intro d
      induction d with
      | zero => rfl
      | succ d ih => unfold fsR; rw [ih]; rfl
    rw [this]; exact i2
  rcases i3 with ⟨i3, i4⟩ | ⟨j1, j2, j3, j4, j5, r, j6⟩
  · refine ⟨sI x (5, 0, 3) 6 (nI u), sI (sA (sI m (0, 0, 0) 31 (nI u)) (0, 0, 28) 5 (nI u)) (0, 0, 0) 35 1, 1, ?_, ?_, kx_I k53 kx_r, km_I (by omega) (km_A (by omega) (km_I (by omega) km_r)), ?_, ?_, ?_, ?_, ?_, Or.inr rfl, fun z => absurd z (by decide)⟩
    · intro l D aC ad
      exact ok_Ma_raise_n x (nI u) mx.1 m1 m8 (MW_ok R M) R.1.2.2.1 hT8 (by rw [i1]; exact i3)
    · intro l D aC ad
      exact ok_Mo_raises_n m (nI u) mm.1 m1 m8 (MR_ok R M) hT8 hu' hPm (by rw [i2']; exact i3)
    · obtain ⟨t1, t2, t3, t4, t5⟩ := Y
      refine ⟨t1, by rw [rIj (by decide)]; exact t2, by rw [rIA, rAi (by decide)]; exact t3, fun k hk => ?_, fun j h1 h2 => ?_⟩
      · rw [rIA, rIA, rAK (by simp), rIA]; exact t4 k hk
      · by_cases c : j = 5
        · subst c; rw [rI, rIA, rA]
        · rw [rIj (by omega), rIA, rAi c]; exact t5 j h1 h2
    · rw [rI]
    · rw [rIj (by decide), rAI, rIj (by decide)]
    · rw [rIj (by decide)]
    · rw [rIA, rAi (by decide), rIA]
  · have hgb : g ≤ 40 := by
      have := (R.2.2.2 (B 1 (L - 1)) (mF (L - 1) (by omega)).1).2.2.2.2.1
      omega
    have hgv : hv g = nI (g - 1) := hv_P j3
    obtain ⟨B1, hb0, hz1, hz2, hz3, hb1, hb2, hb3, hbc⟩ : ∃ B1 : aM, B1 0 0 = B 0 0 ∧ B1 0 1 = u ∧ B1 0 2 = L ∧ B1 0 3 = g - 1 ∧ (∀ i, B1 1 i = B 1 i) ∧ (∀ i, B1 2 i = B 2 i) ∧ (∀ i, B1 3 i = B 3 i) ∧ ∀ i j, B1 (10 + i) j = B (10 + i) j := by
      refine ⟨au (au (au B 0 1 u) 0 2 L) 0 3 (g - 1), by simp [au], by simp [au], by simp [au], by simp [au], fun i => by simp [au], fun i => by simp [au], fun i => by simp [au], fun i j => ?_⟩
      have k0' : ¬ (10 + i = 0) := by omega
      simp [au, k0']
    have hB1 : B1 1 = B 1 := funext hb1
    have hB2 : B1 2 = B 2 := funext hb2
    have hB3 : B1 3 = B 3 := funext hb3
    have kx : kxR x (rsX L (hv g) (nI u) x) := kx_I k50 (kx_I k53 (kx_I k50 (kx_I k50 kx_r)))
    have km : kmR m (rsR L (hv g) (nI u) m) := km_A (by omega) (km_I (by omega) (km_I (by omega) (km_I (by omega) km_r)))
    have R1 := R.keep kx km
    have M1 : MB (rsX L (hv g) (nI u) x) (rsR L (hv g) (nI u) m) T G B1 (B 0 0) := by
      refine ⟨⟨?_, fun i hi => ?_⟩, ⟨?_, fun i hi => ?_, fun i hi => ?_⟩, by rw [hb0]; exact m1, by rw [hb0]; exact m8, by rw [hb0]; exact me, fun i hi => ?_, fun i hi => ?_⟩
      · rw [hb0]; unfold rsX; rw [rIj (by decide), rIK (by simp), rIj (by decide), rIj (by decide)]; exact mx.1
      · rw [hb0] at hi
        have g' := mx.2 i hi
        have e1 : (rsX L (hv g) (nI u) x).1 (8, i, 0) = x.1 (8, i, 0) := by unfold rsX; rw [rIK (by simp), rIK (by simp), rIK (by simp), rIK (by simp)]
        have e2 : (rsX L (hv g) (nI u) x).2 = x.2 := rfl
        rw [e1, e2, hb1, hb2, hb3]
        simp only [hbc]
        exact g'
      · rw [hb0]; unfold rsR; rw [rAI, rIj (by decide), rIj (by decide), rIj (by decide)]; exact mm.1
      · rw [hb0] at hi
        have g' := mm.2.1 i hi
        have e2 : ∀ a, a ≠ 28 → (rsR L (hv g) (nI u) m).2 (0, 0, a) = m.2 (0, 0, a) := fun a ha => by unfold rsR; rw [rAK (by simp; exact ha)]; rfl
        rw [e2 23 (by decide), e2 25 (by decide), e2 26 (by decide), e2 27 (by decide), hb1, hb2, hb3]
        simp only [hbc]
        exact g'
      · have e2 : (rsR L (hv g) (nI u) m).2 (0, 0, 24) = m.2 (0, 0, 24) := by unfold rsR; rw [rAK (by simp)]; rfl
        rw [e2, hb2]; exact mm.2.2 i hi
      · rw [hb0] at hi
        have g' := mF i hi
        unfold Fm at g' ⊢
        simp only [hb1, hb3, hbc]; exact g'
      · have g' := mW i hi
        unfold Wt at g' ⊢
        simp only [hb0, hb1, hb2, hb3]; exact g'
    have Q1 : Rg (rsX L (hv g) (nI u) x) (rsR L (hv g) (nI u) m) T B1 := by
      unfold Rg
      rw [hz1, hz2, hz3]
      refine ⟨hu, j1, by omega, by omega, ?_, ?_, ?_, ?_, ?_, ?_⟩
      · unfold rsX; rw [rI]
      · unfold rsX; rw [rIj (by decide), rIK (by simp), rIj (by decide), rI]
      · unfold rsX; rw [rIj (by decide), rIK (by simp), rI, hgv]
      · unfold rsR; rw [rAI, rIj (by decide), rIj (by decide), rI]
      · unfold rsR; rw [rAI, rIj (by decide), rI]
      · unfold rsR; rw [rAI, rI, hgv]
    obtain ⟨w1, w2, w3, w4⟩ := Hw_ok R1 M1 (i := B 0 0 - 1) (by omega)
    obtain ⟨-, v2, -, -⟩ := Hw_ok R M (i := B 0 0 - 1) (by omega)
    have hHw : ∀ i, Hw G B1 i = Hw G B i := fun i => by unfold Hw; rw [hb1, hb2]
    have V1 : HV G B1 (B1 0 0) (Hw G B1 (B 0 0 - 1)) := by
      unfold HV
      rw [hz2, hz3, hb0, hb1, hHw, hHw]
      refine ⟨j1, j2, j5, by omega, r, ?_⟩
      by_cases c : L = B 0 0
      · rw [if_pos c, ← c]; exact j6
      · rw [if_neg c]; exact j6
    obtain ⟨x', m', B', o1, o2, o3, o4, o5, o6, o7, o8, o9⟩ := unwind_ok R1 M1 Q1 (by rw [hb0]; omega) (by rw [hb0]; exact w3) (by rw [hb0]; exact w4) V1
    have hLne : ¬ L = 0 := by omega
    have Y1 : Ty (rsX L (hv g) (nI u) x) (rsR L (hv g) (nI u) m) t := by
      obtain ⟨t1, t2, t3, t4, t5⟩ := Y
      unfold rsX rsR
      refine ⟨t1, ?_, ?_, fun k hk => ?_, fun j h1 h2 => ?_⟩
      · rw [rIK (by simp), rIj (by decide), rIK (by simp), rIK (by simp)]; exact t2
      · rw [rAi (by decide), rIA, rIA, rIA]; exact t3
      · rw [rIA, rIA, rIA, rIA, rAK (by simp), rIA, rIA, rIA]; exact t4 k hk
      · rw [rIK (by simp)]
        by_cases c : j = 3
        · subst c; rw [rI, rA, t5 3 (by omega) (by omega)]
        · rw [rIj (by omega), rIK (by simp), rIK (by simp), rAi c, rIA, rIA, rIA]; exact t5 j h1 h2
    refine ⟨x', m', -1, ?_, ?_, kx_t kx o3, km_t km o4, Y1.same o5, ?_, ?_, ?_, ?_, Or.inl rfl, fun _ => ⟨B', o8, o9⟩⟩
    · intro l D aC ad
      refine ok_Ma_raise_y x (nI u) mx.1 m1 m8 (MW_ok R M) R.1.2.2.1 hT8 i1 hLne ?_
      rw [w1]; exact o1 l D aC ad
    · intro l D aC ad
      refine ok_Mo_raises_y m (nI u) mm.1 m1 m8 (MR_ok R M) hT8 hu' hPm i2' hLne ?_
      rw [v2, ← hHw]; exact o2 l D aC ad
    · rw [o6]; unfold rsR; rw [rAI, rIj (by decide), rIj (by decide), rIj (by decide)]; exact hE
    · rw [o7]; unfold rsR; rw [rAI, rIj (by decide), rIj (by decide), rIj (by decide)]
    · rw [o5.1]; unfold rsX; rw [rIK (by simp), rIj (by decide), rIK (by simp), rIK (by simp)]
    · rw [o5.2.2.1]; unfold rsR; rw [rAi (by decide), rIA, rIA, rIA]
