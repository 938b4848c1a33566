def Tp (x m : tm_M) (T : Nat) (G : Nat → aM) (B : aM) : Prop :=
  B 2 (B 0 0 - 1) < (G (B 1 (B 0 0 - 1))) 0 0 ∧
  (((G (B 1 (B 0 0 - 1))) 6 (B 2 (B 0 0 - 1)) = 0 ∧ B 3 (B 0 0 - 1) = (G (B 1 (B 0 0 - 1))) 5 (B 2 (B 0 0 - 1))) ∨
   ((G (B 1 (B 0 0 - 1))) 6 (B 2 (B 0 0 - 1)) ≠ 0 ∧ B 0 4 = ((G (B 1 (B 0 0 - 1))) 6 (B 2 (B 0 0 - 1)) - 1) / 2 ∧ B 0 4 < (G (B 1 (B 0 0 - 1))) 0 1 ∧ x.1 (5, 0, 0) 8 = nI (B 0 4) ∧ m.1 (0, 0, 0) 34 = nI (B 0 4) ∧
    B 3 (B 0 0 - 1) = (G (B 1 (B 0 0 - 1))) 10 (B 0 4) - (if (G (B 1 (B 0 0 - 1))) 6 (B 2 (B 0 0 - 1)) % 2 = 1 then 0 else (G (B 1 (B 0 0 - 1))) 12 (B 0 4)) ∧ Rg x m T B ∧ HV G B (B 0 0) ((G (B 1 (B 0 0 - 1))) 9 (B 0 4))))
def sameT (x x' m m' : tm_M) : Prop := x'.1 (5, 0, 3) = x.1 (5, 0, 3) ∧ x'.2 (5, 0, 4) = x.2 (5, 0, 4) ∧ m'.2 (0, 0, 28) = m.2 (0, 0, 28) ∧ m'.2 (0, 0, 29) = m.2 (0, 0, 29)
theorem ha_range {F L H : Nat → Int32} {u : Int32} : ∀ r k b, haF F L H u r k b = b ∨ ∃ s, k ≤ s ∧ s < k + r ∧ haF F L H u r k b = H s
  | 0, k, b => Or.inl rfl
  | r + 1, k, b => by
    unfold haF
    rcases ha_range (F := F) (L := L) (H := H) (u := u) r (k + 1) (if F k ≤ u ∧ u ≤ L k then H k else b) with h | ⟨s, h1, h2, h3⟩
    · rw [h]
      split
      · exact Or.inr ⟨k, by omega, by omega, rfl⟩
      · exact Or.inl rfl
    · exact Or.inr ⟨s, by omega, by omega, h3⟩
theorem MR_ok {x m : tm_M} {T : Nat} {Pa len : Nat → Nat} {S O : Nat → Nat → Nat} {G : Nat → aM} {B : aM} {e : Nat} (R : Rs x m T Pa len S O G) (M : MB x m T G B e) : MR m (B 0 0) := by
  obtain ⟨mx, mm, m1, m8, me, mF, mW⟩ := M
  intro i hi
  have hF := mF i hi
  obtain ⟨p1, p2, p3, p4⟩ := R.2.2.2 (B 1 i) hF.1
  have e1 := fnR_eq mm hi hF
  have ea : acR m i = (G (B 1 i)) 0 1 := by unfold acR; rw [e1, p2.2.1, nI_clamp (by have := p4.2.1; omega)]
  rw [ea, e1]
  have hq := p4.2.2.1
  refine ⟨(mm.2.1 i hi).1, hF.1, p2.2.1, by have := p4.2.1; omega, ⟨(G (B 1 i)) 0 2, by omega, p3.1⟩, ?_⟩
  have hne : ∀ k, k < (G (B 1 i)) 0 1 → neR m i k = hv ((G (B 1 i)) 9 k) := fun k hk => by unfold neR; rw [e1]; exact (p2.2.2.2 k hk).2.2
  unfold hdR
  rw [e1, p3.1, nI_clamp (by omega)]
  rcases ha_range (F := fun j => m.2 (0, 0, 14) (64 * B 1 i + j)) (L := fun j => m.2 (0, 0, 15) (64 * B 1 i + j)) (H := fun j => m.2 (0, 0, 16) (64 * B 1 i + j)) (u := m.2 (0, 0, 24) i) ((G (B 1 i)) 0 2) 0 (-1) with h | ⟨s, h1, h2, h3⟩
  · rw [h, ← hv_0]
    exact ch_40 p4 hne (by omega)
  · rw [h3]
    show chE _ _ _ (m.2 (0, 0, 16) (64 * B 1 i + s))
    rw [(p3.2 s (by omega)).2.2]
    exact ch_40 p4 hne (p4.2.2.2.2.2.2.2.2 s (by omega))
theorem MW_ok {x m : tm_M} {T : Nat} {Pa len : Nat → Nat} {S O : Nat → Nat → Nat} {G : Nat → aM} {B : aM} {e : Nat} (R : Rs x m T Pa len S O G) (M : MB x m T G B e) : MW x (B 0 0) := by
  obtain ⟨mx, mm, m1, m8, me, mF, mW⟩ := M
  refine ⟨fun i hi => ⟨B 1 i, (mF i hi).1, (mx.2 i hi).1⟩, fun g hg => ?_⟩
  obtain ⟨p1, p2, p3, p4⟩ := R.2.2.2 g hg
  exact ⟨⟨(G g) 0 1, p4.2.1, p1.2.1⟩, ⟨(G g) 0 2, p4.2.2.1, p1.2.2.1⟩, ⟨(G g) 0 0, p4.1, p1.1⟩⟩
theorem unwind_ok {x m : tm_M} {T : Nat} {Pa len : Nat → Nat} {S O : Nat → Nat → Nat} {G : Nat → aM} {B : aM} {e h : Nat} (R : Rs x m T Pa len S O G) (M : MB x m T G B e) (Q : Rg x m T B) (he : B 0 0 ≤ e + 1) (hh : h ≤ (G (B 1 (B 0 0 - 1))) 0 1) (hcc : h ≠ 0 → B 3 (B 0 0 - 1) = (G (B 1 (B 0 0 - 1))) 10 (h - 1)) (V : HV G B (B 0 0) h) :
    ∃ (x' m' : tm_M) (B' : aM), (∀ (l : Launch) (D : va_G) (aC : Nat → ClassId) (ad : Nat → Nat), OkX l y_Ma_unwind b_Ma_unwind 3 (some .int) (rom 3 66) D aC ad [.ref (ad 34), .int (hv h)] x (some (.int (-1))) x') ∧ (∀ (l : Launch) (D : va_G) (aC : Nat → ClassId) (ad : Nat → Nat), OkM l y_Mo_unwinds b_Mo_unwinds 6 none (rom 1 25) D aC ad [.ref (ad 0), .int (hv h)] m none m') ∧
      kxR x x' ∧ kmR m m' ∧ sameT x x' m m' ∧ m'.1 (0, 0, 0) 35 = m.1 (0, 0, 0) 35 ∧ m'.1 (0, 0, 0) 0 = m.1 (0, 0, 0) 0 ∧ MB x' m' T G B' (B' 0 0 - 1) ∧ Tp x' m' T G B' := by
  have M' := M
  obtain ⟨mx, mm, m1, m8, me, mF, mW⟩ := M'
  have Q' := Q
  obtain ⟨q1, q2, q3, q4, q5, q6, q7, q8, q9, q10⟩ := Q'
  obtain ⟨d2, k2, i1, i2, i3, i4, i5, i6, i7, i8⟩ := uw_both R M Q (B 0 0) h m1 (Nat.le_refl _) he hh hcc V
  have hF := mF (d2 - 1) (by omega)
  have hFtop := mF (B 0 0 - 1) (by omega)
  obtain ⟨p1, p2, p3, p4⟩ := R.2.2.2 (B 1 (d2 - 1)) hF.1
  obtain ⟨pt1, pt2, pt3, pt4⟩ := R.2.2.2 (B 1 (B 0 0 - 1)) hFtop.1
  obtain ⟨y1, y2, y3, y4⟩ := mx.2 (d2 - 1) (by omega)
  obtain ⟨z1, z2, z3, z4⟩ := mm.2.1 (d2 - 1) (by omega)
  have tk := (p4.2.2.2.2.1 k2 i5).1
  have tl := tk.2.2.2.2.2.2.2 (p4.2.2.2.2.1 k2 i5).2
  have a40 := p4.2.1
  have n81 := p4.1
  have hla := (p1.2.2.2.2.1 k2 i5).2.1
  have hlm := (p2.2.2.2 k2 i5).2.1
  have fr := fnR_eq mm (i := d2 - 1) (by omega) hF
  have hch : chE (acR m (B 0 0 - 1)) (neR m (B 0 0 - 1)) 40 (hv h) := by
    have e1 := fnR_eq mm (i := B 0 0 - 1) (by omega) hFtop
    have ea : acR m (B 0 0 - 1) = (G (B 1 (B 0 0 - 1))) 0 1 := by unfold acR; rw [e1, pt2.2.1, nI_clamp (by have := pt4.2.1; omega)]
    rw [ea]
    exact ch_40 pt4 (fun k hk => by unfold neR; rw [e1]; exact (pt2.2.2.2 k hk).2.2) hh
  have hend : (G (B 1 (d2 - 1))) 6 ((G (B 1 (d2 - 1))) 0 0) = 1000 := p4.2.2.2.2.2.2.2.1
  by_cases c : d2 = B 0 2 ∧ k2 = B 0 3
  · -- the handler
    have h7 : (G (B 1 (d2 - 1))) 7 k2 ≠ 0 := by rw [c.1, c.2]; exact V.2.2.1
    have ht5 : B 3 (d2 - 1) < 5 := by
      rw [i7]
      have := (tk.2.2.2.1 h7).2
      omega
    have hl8 := tl.2.2 h7
    have hlt : (G (B 1 (d2 - 1))) 8 k2 < (G (B 1 (d2 - 1))) 0 0 := by
      have h1 := tl.1
      rcases Nat.lt_or_ge ((G (B 1 (d2 - 1))) 8 k2) ((G (B 1 (d2 - 1))) 0 0) with h2 | h2
      · exact h2
      · have h3 : (G (B 1 (d2 - 1))) 8 k2 = (G (B 1 (d2 - 1))) 0 0 := by omega
        rw [h3, hend] at hl8
        have h4 := hl8.1
        omega
    obtain ⟨B', hb0, hb1, hb2, hb3, hbc⟩ : ∃ B' : aM, B' 0 0 = d2 ∧ (∀ i, B' 1 i = B 1 i) ∧ (∀ i, B' 2 i = if i = d2 - 1 then (G (B 1 (d2 - 1))) 8 k2 else B 2 i) ∧ (∀ i, B' 3 i = if i = d2 - 1 then B 3 (d2 - 1) + 1 else B 3 i) ∧ ∀ i j, B' (10 + i) j = if i = d2 - 1 ∧ j = B 3 (d2 - 1) then B 0 1 else B (10 + i) j := by
      have n0 : ¬ (0 = 10 + (d2 - 1)) := by omega
      have n1 : ¬ (1 = 10 + (d2 - 1)) := by omega
      have n2 : ¬ (2 = 10 + (d2 - 1)) := by omega
      have n3 : ¬ (3 = 10 + (d2 - 1)) := by omega
      refine ⟨au (au (au (au B 0 0 d2) (10 + (d2 - 1)) (B 3 (d2 - 1)) (B 0 1)) 3 (d2 - 1) (B 3 (d2 - 1) + 1)) 2 (d2 - 1) ((G (B 1 (d2 - 1))) 8 k2), by simp [au, n0], fun i => by simp [au, n1], fun i => by simp [au, n2], fun i => by simp [au, n3], fun i j => ?_⟩
      have k2' : ¬ (10 + i = 2) := by omega
      have k3' : ¬ (10 + i = 3) := by omega
      have k0' : ¬ (10 + i = 0) := by omega
      simp [au, k2', k3', k0']
    refine ⟨sI (sI (sA (dpX x d2) (8, d2 - 1, 1) (B 3 (d2 - 1)) (nI (B 0 1))) (8, d2 - 1, 0) 3 (nI (B 3 (d2 - 1) + 1))) (8, d2 - 1, 0) 1 (nI ((G (B 1 (d2 - 1))) 8 k2)),
      sA (sA (sA (dpR m d2) (0, 0, 27) (24 * (d2 - 1) + B 3 (d2 - 1)) (nI (B 0 1))) (0, 0, 26) (d2 - 1) (nI (B 3 (d2 - 1) + 1))) (0, 0, 25) (d2 - 1) (nI ((G (B 1 (d2 - 1))) 8 k2)),
      B', ?_, ?_, kx_I k8 (kx_I k8 (kx_A k8 (kx_I k50 kx_r))), km_A (by omega) (km_A (by omega) (km_A (by omega) (km_I (by omega) km_r))), ?_, ?_, ?_, ?_, ?_⟩
    · intro l D aC ad
      refine ok_Ma_unwind x (hv h) mx.1 m1 m8 (MW_ok R M) i1 ?_
      have := ok_Ma_land_h (l := l) (D := D) (aC := aC) (ad := ad) (dpX x d2) (d := d2) (g := B 1 (d2 - 1)) (a := (G (B 1 (d2 - 1))) 0 1) (b := k2) (t := B 3 (d2 - 1)) rI i3 (by omega) hF.1 (by rw [rIK (by simp)]; exact y1) (by rw [rIK (by simp)]; exact p1.2.1) a40 i5 (by rw [rIK (by simp)]; exact y3) ht5 (by rw [rI, rIj (by decide), rIj (by decide), q6, q7, c.1, c.2]; exact ⟨rfl, rfl⟩)
      rw [rIj (by decide : (5 : Nat) ≠ 4), q5, rIA, hla] at this
      exact this
    · intro l D aC ad
      refine ok_Mo_unwinds m (hv h) (b := k2) mm.1 m1 m8 (MR_ok R M) hch (by omega) i2 (Or.inl ⟨B 3 (d2 - 1), z3, by omega, ?_, ?_⟩)
      · rw [q9, q10, nI_1, show B 0 2 - 1 + 1 = B 0 2 by omega, c.1, c.2]; exact ⟨rfl, rfl⟩
      · rw [q8, fr, hlm]
    · refine ⟨?_, ?_, ?_, ?_⟩
      · rw [rIK (by simp), rIK (by simp), rAI, rIK (by simp)]
      · rw [rIA, rIA, rAK (by simp), rIA]
      · rw [rAK (by simp), rAK (by simp), rAK (by simp), rIA]
      · rw [rAK (by simp), rAK (by simp), rAK (by simp), rIA]
    · rw [rAI, rAI, rAI, rIj (by decide)]
    · rw [rAI, rAI, rAI, rIj (by decide)]
    · refine ⟨⟨?_, ?_⟩, ⟨?_, ?_, ?_⟩, ?_, ?_, ?_, ?_, ?_⟩
      · rw [hb0, rIK (by simp), rIK (by simp), rAI, rI]
      · rw [hb0]
        intro i hi
        have g := mx.2 i (by omega)
        simp only [hb1, hb2, hb3, hbc, sI, sA]
        by_cases ci : i = d2 - 1
        · subst ci
          simp [upd]
          grind
        · simp [ci]
          exact g
      · rw [hb0, rAI, rAI, rAI, rI]
      · rw [hb0]
        intro i hi
        have g := mm.2.1 i (by omega)
        simp only [hb1, hb2, hb3, hbc, sI, sA]
        by_cases ci : i = d2 - 1
        · subst ci
          simp [upd]
          grind
        · simp [ci, upd]
          refine ⟨g.1, g.2.1, g.2.2.1, ?_⟩
          intro j hj
          have hF' := mF i (by omega)
          have hj5 : j < 5 := by have := hF'.2.1; omega
          have : ¬ (24 * i + j = 24 * (d2 - 1) + B 3 (d2 - 1)) := by omega
          rw [if_neg this]
          exact g.2.2.2 j hj
      · rw [hb0]
        intro i hi
        have g := mm.2.2 i (by omega)
        have ci : ¬ (i = d2 - 1) := by omega
        rw [hb2, if_neg ci, rAK (by simp), rAK (by simp), rAK (by simp), rIA]
        exact g
      · rw [hb0]; exact i3
      · rw [hb0]; omega
      · omega
      · rw [hb0]
        intro i hi
        have g := mF i (by omega)
        unfold Fm at g ⊢
        simp only [hb1, hb3, hbc]
        by_cases ci : i = d2 - 1
        · subst ci
          simp
          grind
        · simp [ci]
          exact g
      · rw [hb0]
        intro i hi
        have g := mW i (by omega)
        have ci : ¬ (i = d2 - 1) := by omega
        unfold Wt at g ⊢
        simp only [hb0, hb1, hb2, hb3, if_neg ci]
        exact ⟨g.1, g.2.1, g.2.2.1, fun w => g.2.2.2.1 (by omega), g.2.2.2.2.1, g.2.2.2.2.2⟩
    · unfold Tp
      simp only [hb0, hb1, hb2, hb3, if_true]
      exact ⟨hlt, Or.inl ⟨hl8.1, by rw [hl8.2, i7]⟩⟩
  · -- a clean-up
    have h7 : (G (B 1 (d2 - 1))) 7 k2 = 0 := i6.resolve_right c
    have hl8 := tl.2.1 h7
    have hlt : (G (B 1 (d2 - 1))) 8 k2 < (G (B 1 (d2 - 1))) 0 0 := by
      have h1 := tl.1
      rcases Nat.lt_or_ge ((G (B 1 (d2 - 1))) 8 k2) ((G (B 1 (d2 - 1))) 0 0) with h2 | h2
      · exact h2
      · have h3 : (G (B 1 (d2 - 1))) 8 k2 = (G (B 1 (d2 - 1))) 0 0 := by omega
        rw [h3, hend] at hl8
        omega
    have cc : ¬ (nI d2 = nI (B 0 2) ∧ nI k2 = nI (B 0 3)) := by
      rintro ⟨w1, w2⟩
      exact c ⟨(nI_eq (by omega) (by omega)).mp w1, (nI_eq (by omega) (by omega)).mp w2⟩
    obtain ⟨B', hb0, hb4, hbz1, hbz2, hbz3, hb1, hb2, hb3, hbc⟩ : ∃ B' : aM, B' 0 0 = d2 ∧ B' 0 4 = k2 ∧ B' 0 1 = B 0 1 ∧ B' 0 2 = B 0 2 ∧ B' 0 3 = B 0 3 ∧ (∀ i, B' 1 i = B 1 i) ∧ (∀ i, B' 2 i = if i = d2 - 1 then (G (B 1 (d2 - 1))) 8 k2 else B 2 i) ∧ (∀ i, B' 3 i = B 3 i) ∧ ∀ i j, B' (10 + i) j = B (10 + i) j := by
      refine ⟨au (au (au B 0 0 d2) 0 4 k2) 2 (d2 - 1) ((G (B 1 (d2 - 1))) 8 k2), by simp [au], by simp [au], by simp [au], by simp [au], by simp [au], fun i => by simp [au], fun i => by simp [au], fun i => by simp [au], fun i j => ?_⟩
      have k2' : ¬ (10 + i = 2) := by omega
      have k0' : ¬ (10 + i = 0) := by omega
      simp [au, k2', k0']
    refine ⟨sI (sI (dpX x d2) (5, 0, 0) 8 (nI k2)) (8, d2 - 1, 0) 1 (nI ((G (B 1 (d2 - 1))) 8 k2)),
      sA (sI (dpR m d2) (0, 0, 0) 34 (nI k2)) (0, 0, 25) (d2 - 1) (nI ((G (B 1 (d2 - 1))) 8 k2)),
      B', ?_, ?_, kx_I k8 (kx_I k50 (kx_I k50 kx_r)), km_A (by omega) (km_I (by omega) (km_I (by omega) km_r)), ?_, ?_, ?_, ?_, ?_⟩
    · intro l D aC ad
      refine ok_Ma_unwind x (hv h) mx.1 m1 m8 (MW_ok R M) i1 ?_
      have := ok_Ma_land_c (l := l) (D := D) (aC := aC) (ad := ad) (dpX x d2) (d := d2) (g := B 1 (d2 - 1)) (a := (G (B 1 (d2 - 1))) 0 1) (b := k2) rI i3 (by omega) hF.1 (by rw [rIK (by simp)]; exact y1) (by rw [rIK (by simp)]; exact p1.2.1) a40 i5 (by rw [rI, rIj (by decide), rIj (by decide), q6, q7]; exact cc)
      rw [rIA, hla] at this
      exact this
    · intro l D aC ad
      refine ok_Mo_unwinds m (hv h) (b := k2) mm.1 m1 m8 (MR_ok R M) hch (by omega) i2 (Or.inr ⟨?_, ?_⟩)
      · rw [q9, q10, nI_1, show B 0 2 - 1 + 1 = B 0 2 by omega]; exact cc
      · rw [fr, hlm]
    · refine ⟨?_, ?_, ?_, ?_⟩
      · rw [rIK (by simp), rIK (by simp), rIK (by simp)]
      · rw [rIA, rIA, rIA]
      · rw [rAK (by simp), rIA, rIA]
      · rw [rAK (by simp), rIA, rIA]
    · rw [rAI, rIj (by decide), rIj (by decide)]
    · rw [rAI, rIj (by decide), rIj (by decide)]
    · refine ⟨⟨?_, ?_⟩, ⟨?_, ?_, ?_⟩, ?_, ?_, ?_, ?_, ?_⟩
      · rw [hb0, rIK (by simp), rIj (by decide), rI]
      · rw [hb0]
        intro i hi
        have g := mx.2 i (by omega)
        simp only [hb1, hb2, hb3, hbc, sI, sA]
        by_cases ci : i = d2 - 1
        · subst ci
          simp [upd]
          exact ⟨g.1, g.2.2.1, g.2.2.2⟩
        · simp [ci]
          exact g
      · rw [hb0, rAI, rIj (by decide), rI]
      · rw [hb0]
        intro i hi
        have g := mm.2.1 i (by omega)
        simp only [hb1, hb2, hb3, hbc, sI, sA]
        by_cases ci : i = d2 - 1
        · subst ci
          simp [upd]
          exact ⟨g.1, g.2.2.1, g.2.2.2⟩
        · simp [ci, upd]
          exact g
      · rw [hb0]
        intro i hi
        have g := mm.2.2 i (by omega)
        have ci : ¬ (i = d2 - 1) := by omega
        rw [hb2, if_neg ci, rAK (by simp), rIA, rIA]
        exact g
      · rw [hb0]; exact i3
      · rw [hb0]; omega
      · omega
      · rw [hb0]
        intro i hi
        have g := mF i (by omega)
        unfold Fm at g ⊢
        simp only [hb1, hb3, hbc]
        exact g
      · rw [hb0]
        intro i hi
        have g := mW i (by omega)
        have ci : ¬ (i = d2 - 1) := by omega
        unfold Wt at g ⊢
        simp only [hb0, hb1, hb2, hb3, if_neg ci]
        exact ⟨g.1, g.2.1, g.2.2.1, fun w => g.2.2.2.1 (by omega), g.2.2.2.2.1, g.2.2.2.2.2⟩
    · have V8 := i8 h7
      have hB1 : B' 1 = B 1 := funext hb1
      have hB3 : B' 3 = B 3 := funext hb3
      unfold Tp
      rw [hb0, hb4, hB1, hB3, hb2, if_pos rfl]
      refine ⟨hlt, Or.inr ⟨by omega, by omega, i5, ?_, ?_, ?_, ?_, ?_⟩⟩
      · rw [rIK (by simp), rI]
      · rw [rAI, rI]
      · rw [hl8, if_pos (by omega), Nat.sub_zero]; exact i7
      · unfold Rg
        rw [hbz1, hbz2, hbz3, rIK (by simp), rIj (by decide), rIj (by decide), rIj (by decide), rIj (by decide), rIj (by decide), rIj (by decide), rAI, rIj (by decide), rIj (by decide), rIj (by decide), rIj (by decide), rIj (by decide), rIj (by decide)]
        exact Q
      · unfold HV at V8 ⊢
        rw [hbz2, hbz3, hB1]
        refine ⟨V8.1, V8.2.1, V8.2.2.1, V8.2.2.2.1, ?_⟩
        obtain ⟨r, v5⟩ := V8.2.2.2.2
        refine ⟨r, ?_⟩
        by_cases c2 : B 0 2 = d2
        · rw [if_pos c2] at v5 ⊢; exact v5
        · rw [if_neg c2] at v5 ⊢
          unfold Hw at v5 ⊢
          have v2 := V8.2.1
          have v1 := V8.1
          rw [hB1, hb2, if_neg (by omega)]; exact v5
