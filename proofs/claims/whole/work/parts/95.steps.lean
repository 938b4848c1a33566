theorem np_ok {x m : tm_M} {T : Nat} {G : Nat → aM} {B : aM} {p : Nat} (hp : B 2 (B 0 0 - 1) = p) (M : MB x m T G B (B 0 0 - 1)) :
    MB (npX (B 0 0) p x) (npR (B 0 0) p m) T G (au B 2 (B 0 0 - 1) (p + 1)) (B 0 0 - 1) ∧ ∀ i, i < B 0 0 → (npR (B 0 0) p m).2 (0, 0, 24) i = nI ((au B 2 (B 0 0 - 1) (p + 1)) 2 i - 1) := by
  obtain ⟨mx, mm, m1, m8, me, mF, mW⟩ := M
  have hb0 : (au B 2 (B 0 0 - 1) (p + 1)) 0 = B 0 := by funext j; simp [au]
  have hb1 : (au B 2 (B 0 0 - 1) (p + 1)) 1 = B 1 := by funext j; simp [au]
  have hb3 : (au B 2 (B 0 0 - 1) (p + 1)) 3 = B 3 := by funext j; simp [au]
  have hb2 : ∀ i, (au B 2 (B 0 0 - 1) (p + 1)) 2 i = if i = B 0 0 - 1 then p + 1 else B 2 i := fun i => by simp [au]
  have hbc : ∀ i j, (au B 2 (B 0 0 - 1) (p + 1)) (10 + i) j = B (10 + i) j := fun i j => by
    have : ¬ (10 + i = 2) := by omega
    simp [au, this]
  have h24 : ∀ i, i < B 0 0 → (npR (B 0 0) p m).2 (0, 0, 24) i = nI ((au B 2 (B 0 0 - 1) (p + 1)) 2 i - 1) := by
    intro i hi
    rw [hb2]
    unfold npR
    rw [rAK (by simp)]
    by_cases c : i = B 0 0 - 1
    · rw [if_pos c, c, rA]; rfl
    · rw [if_neg c, rAi c]; exact mm.2.2 i (by omega)
  refine ⟨⟨⟨?_, fun i hi => ?_⟩, ⟨?_, fun i hi => ?_, fun i hi => h24 i (by omega)⟩, by rw [hb0]; exact m1, by rw [hb0]; exact m8, by rw [hb0]; exact me, fun i hi => ?_, fun i hi => ?_⟩, h24⟩
  · rw [hb0]; unfold npX; rw [rIK (by simp)]; exact mx.1
  · rw [hb0] at hi
    have g := mx.2 i hi
    rw [hb1, hb2, hb3]
    simp only [hbc]
    unfold npX
    rw [rIA]
    by_cases c : i = B 0 0 - 1
    · rw [if_pos c]
      subst c
      rw [rI, rIj (by decide), rIj (by decide)]
      exact ⟨g.1, rfl, g.2.2⟩
    · rw [if_neg c, rIK (by simp; exact c)]
      exact g
  · rw [hb0]; unfold npR; rw [rAI, rAI]; exact mm.1
  · rw [hb0] at hi
    have g := mm.2.1 i hi
    rw [hb1, hb2, hb3]
    simp only [hbc]
    have e23 : (npR (B 0 0) p m).2 (0, 0, 23) = m.2 (0, 0, 23) := by unfold npR; rw [rAK (by simp), rAK (by simp)]
    have e26 : (npR (B 0 0) p m).2 (0, 0, 26) = m.2 (0, 0, 26) := by unfold npR; rw [rAK (by simp), rAK (by simp)]
    have e27 : (npR (B 0 0) p m).2 (0, 0, 27) = m.2 (0, 0, 27) := by unfold npR; rw [rAK (by simp), rAK (by simp)]
    rw [e23, e26, e27]
    refine ⟨g.1, ?_, g.2.2⟩
    unfold npR
    by_cases c : i = B 0 0 - 1
    · rw [if_pos c, c, rA]
    · rw [if_neg c, rAi c, rAK (by simp)]
      exact g.2.1
  · rw [hb0] at hi
    have g := mF i hi
    unfold Fm at g ⊢
    simp only [hb1, hb3, hbc]; exact g
  · have g := mW i hi
    unfold Wt at g ⊢
    rw [hb0, hb1, hb3, hb2, if_neg (by omega)]
    exact g
theorem kx_np {x : tm_M} {d p : Nat} : kxR x (npX d p x) := kx_I k8 kx_r
theorem km_np {m : tm_M} {d p : Nat} : kmR m (npR d p m) := km_A (by omega) (km_A (by omega) km_r)
theorem sT_np {x m : tm_M} {d p : Nat} : sameT x (npX d p x) m (npR d p m) := by
  unfold sameT npX npR
  refine ⟨by rw [rIK (by simp)], by rw [rIA], by rw [rAK (by simp), rAK (by simp)], by rw [rAK (by simp), rAK (by simp)]⟩
def StepR (x m : tm_M) (T : Nat) (G : Nat → aM) (d : Nat) : Prop :=
  ∃ (x' m' : tm_M) (r : Int32), (∀ (l : Launch) (D : va_G) (aC : Nat → ClassId) (ad : Nat → Nat), OkX l y_Ma_step b_Ma_step 5 (some .int) (rom 5 117) D aC ad [.ref (ad 34), .ref (ad (frO (d - 1)))] x (some (.int r)) x') ∧ (∀ (l : Launch) (D : va_G) (aC : Nat → ClassId) (ad : Nat → Nat), OkM l y_Mo_step b_Mo_step 4 none (rom 3 71) D aC ad [.ref (ad 0)] m none m') ∧
    kxR x x' ∧ kmR m m' ∧ (∃ t, Ty x' m' t) ∧ m'.1 (0, 0, 0) 35 = r ∧ m'.1 (0, 0, 0) 0 = m.1 (0, 0, 0) 0 ∧ x'.1 (5, 0, 3) 2 = x.1 (5, 0, 3) 2 ∧ m'.2 (0, 0, 28) 1 = m.2 (0, 0, 28) 1 ∧ (r = -1 ∨ 0 ≤ r) ∧ (r = -1 → ∃ B' : aM, MB x' m' T G B' (B' 0 0 - 1) ∧ Tp x' m' T G B')
theorem MB.other {x m x' m' : tm_M} {T : Nat} {G : Nat → aM} {B : aM} {e : Nat} (M : MB x m T G B e) (h1 : x'.1 (5, 0, 0) 4 = x.1 (5, 0, 0) 4) (h2 : ∀ i, x'.1 (8, i, 0) = x.1 (8, i, 0) ∧ x'.2 (8, i, 1) = x.2 (8, i, 1)) (h3 : m'.1 (0, 0, 0) 25 = m.1 (0, 0, 0) 25) (h4 : ∀ a, 23 ≤ a → a ≤ 27 → m'.2 (0, 0, a) = m.2 (0, 0, a)) : MB x' m' T G B e := by
  obtain ⟨mx, mm, r⟩ := M
  refine ⟨⟨by rw [h1]; exact mx.1, fun i hi => ?_⟩, ⟨by rw [h3]; exact mm.1, fun i hi => ?_, fun i hi => ?_⟩, r⟩
  · rw [(h2 i).1, (h2 i).2]; exact mx.2 i hi
  · rw [h4 23 (by omega) (by omega), h4 25 (by omega) (by omega), h4 26 (by omega) (by omega), h4 27 (by omega) (by omega)]; exact mm.2.1 i hi
  · rw [h4 24 (by omega) (by omega)]; exact mm.2.2 i hi
theorem put_Ty {x m : tm_M} {t : Nat} {v : Int32} (Y : Ty x m t) (h : t < 60) : Ty (sI (sA x (5, 0, 4) t v) (5, 0, 3) 1 (nI (t + 1))) (sA (sA m (0, 0, 29) t v) (0, 0, 28) 0 (nI (t + 1))) (t + 1) := by
  obtain ⟨t1, t2, t3, t4, t5⟩ := Y
  refine ⟨by omega, by rw [rI], by rw [rA], fun k hk => ?_, fun j h1 h2 => ?_⟩
  · rw [rIA, rAK (K' := (0, 0, 29)) (by simp)]
    by_cases c : k = t
    · subst c; rw [rA, rA]
    · rw [rAi c, rAi c]; exact t4 k (by omega)
  · rw [rIj (by omega), rAI, rAi (by omega), rAK (by simp)]; exact t5 j h1 h2
theorem Tp_next {x m : tm_M} {T : Nat} {G : Nat → aM} {B : aM} {p c : Nat} (hg : gpA T (G (B 1 (B 0 0 - 1)))) (h6 : (G (B 1 (B 0 0 - 1))) 6 (p + 1) = 0) (hn : p + 1 ≤ (G (B 1 (B 0 0 - 1))) 0 0) (hc : c = (G (B 1 (B 0 0 - 1))) 5 (p + 1)) : Tp x m T G (au (au B 2 (B 0 0 - 1) (p + 1)) 3 (B 0 0 - 1) c) := by
  have hb0 : (au (au B 2 (B 0 0 - 1) (p + 1)) 3 (B 0 0 - 1) c) 0 = B 0 := by funext j; simp [au]
  have hb1 : (au (au B 2 (B 0 0 - 1) (p + 1)) 3 (B 0 0 - 1) c) 1 = B 1 := by funext j; simp [au]
  have hb2 : (au (au B 2 (B 0 0 - 1) (p + 1)) 3 (B 0 0 - 1) c) 2 (B 0 0 - 1) = p + 1 := by simp [au]
  have hb3 : (au (au B 2 (B 0 0 - 1) (p + 1)) 3 (B 0 0 - 1) c) 3 (B 0 0 - 1) = c := by simp [au]
  unfold Tp
  rw [hb0, hb1, hb2, hb3]
  refine ⟨?_, Or.inl ⟨h6, hc⟩⟩
  rcases Nat.lt_or_ge (p + 1) ((G (B 1 (B 0 0 - 1))) 0 0) with h | h
  · exact h
  · have e : p + 1 = (G (B 1 (B 0 0 - 1))) 0 0 := by omega
    have := hg.2.2.2.2.2.2.2.1
    rw [← e, h6] at this
    omega
theorem au_id {B : aM} {f i : Nat} : au B f i (B f i) = B := by
  funext a b
  unfold au
  by_cases c : a = f ∧ b = i
  · rw [if_pos c, c.1, c.2]
  · rw [if_neg c]
theorem ow_0 {T : Nat} {A : aM} {p : Nat} (hg : gpA T A) (hp : p < A 0 0) (hl : A 1 p ≠ 5 ∧ A 1 p ≠ 6 ∧ A 1 p ≠ 7) : A 6 p = 0 := by
  have h := (hg.2.2.2.1 p hp).1
  apply Classical.byContradiction
  intro z
  by_cases c : A 6 p % 2 = 1
  · obtain ⟨h1, h2, -⟩ := (h.2.2.2.2.2.2.2.2.2.2.2.1 c)
    have h3 := (hg.2.2.2.2.1 _ h1).1.2.1
    omega
  · have := h.2.2.2.2.2.2.2.2.2.2.2.2 z (by omega)
    omega
