theorem Tp_next0 {x m : tm_M} {T : Nat} {G : Nat → aM} {B : aM} {p : Nat} (hg : gpA T (G (B 1 (B 0 0 - 1)))) (h6 : (G (B 1 (B 0 0 - 1))) 6 (p + 1) = 0) (hn : p + 1 ≤ (G (B 1 (B 0 0 - 1))) 0 0) (hc : B 3 (B 0 0 - 1) = (G (B 1 (B 0 0 - 1))) 5 (p + 1)) : Tp x m T G (au B 2 (B 0 0 - 1) (p + 1)) := by
  have h := Tp_next (x := x) (m := m) hg h6 hn hc
  have e : au (au B 2 (B 0 0 - 1) (p + 1)) 3 (B 0 0 - 1) (B 3 (B 0 0 - 1)) = au B 2 (B 0 0 - 1) (p + 1) := by
    have := au_id (B := au B 2 (B 0 0 - 1) (p + 1)) (f := 3) (i := B 0 0 - 1)
    rw [au_n (f' := 3) (f := 2) (by decide)] at this
    exact this
  rw [e] at h
  exact h
theorem Tp_clean {x m x' m' : tm_M} {T : Nat} {G : Nat → aM} {B : aM} {p c : Nat} (hp : B 2 (B 0 0 - 1) = p) (hg : gpA T (G (B 1 (B 0 0 - 1)))) (hpn : p < (G (B 1 (B 0 0 - 1))) 0 0) (ho : (G (B 1 (B 0 0 - 1))) 6 p % 2 = 1) (hk : B 0 4 = ((G (B 1 (B 0 0 - 1))) 6 p - 1) / 2) (hka : B 0 4 < (G (B 1 (B 0 0 - 1))) 0 1) (hx8 : x'.1 (5, 0, 0) 8 = nI (B 0 4)) (hm8 : m'.1 (0, 0, 0) 34 = nI (B 0 4)) (hc : c = (G (B 1 (B 0 0 - 1))) 10 (B 0 4) - (G (B 1 (B 0 0 - 1))) 12 (B 0 4)) (Q : Rg x m T B) (hq : ∀ j, x'.1 (5, 0, 0) j = x.1 (5, 0, 0) j) (hq' : ∀ j, 31 ≤ j → j ≤ 33 → m'.1 (0, 0, 0) j = m.1 (0, 0, 0) j) (V : HV G B (B 0 0) ((G (B 1 (B 0 0 - 1))) 9 (B 0 4))) : Tp x' m' T G (au (au B 2 (B 0 0 - 1) (p + 1)) 3 (B 0 0 - 1) c) := by
  have hb0 : (au (au B 2 (B 0 0 - 1) (p + 1)) 3 (B 0 0 - 1) c) 0 = B 0 := by funext j; simp [au]
  have hb1 : (au (au B 2 (B 0 0 - 1) (p + 1)) 3 (B 0 0 - 1) c) 1 = B 1 := by funext j; simp [au]
  have hb2 : ∀ i, (au (au B 2 (B 0 0 - 1) (p + 1)) 3 (B 0 0 - 1) c) 2 i = if i = B 0 0 - 1 then p + 1 else B 2 i := fun i => by simp [au]
  have hb3 : (au (au B 2 (B 0 0 - 1) (p + 1)) 3 (B 0 0 - 1) c) 3 (B 0 0 - 1) = c := by simp [au]
  have tp := (hg.2.2.2.1 p hpn).1
  obtain ⟨h1, h2, h3⟩ := tp.2.2.2.2.2.2.2.2.2.2.2.1 ho
  have hend := hg.2.2.2.2.2.2.2.1
  have hn40 := hg.2.1
  unfold Tp
  rw [hb0, hb1, hb2, if_pos rfl, hb3, h3]
  refine ⟨?_, Or.inr ⟨by omega, by omega, hka, hx8, hm8, ?_, ?_, ?_⟩⟩
  · rcases Nat.lt_or_ge (p + 1) ((G (B 1 (B 0 0 - 1))) 0 0) with h | h
    · exact h
    · have e : p + 1 = (G (B 1 (B 0 0 - 1))) 0 0 := by omega
      rw [← e, h3] at hend
      omega
  · rw [if_neg (by omega)]; exact hc
  · unfold Rg at Q ⊢
    rw [hb0, hq, hq, hq, hq' 31 (by omega) (by omega), hq' 32 (by omega) (by omega), hq' 33 (by omega) (by omega)]
    exact Q
  · unfold HV at V ⊢
    rw [hb0, hb1]
    refine ⟨V.1, V.2.1, V.2.2.1, V.2.2.2.1, ?_⟩
    obtain ⟨r, v5⟩ := V.2.2.2.2
    refine ⟨r, ?_⟩
    by_cases c2 : B 0 2 = B 0 0
    · rw [if_pos c2] at v5 ⊢; exact v5
    · rw [if_neg c2] at v5 ⊢
      unfold Hw at v5 ⊢
      have v1 := V.1
      have v2 := V.2.1
      rw [hb1, hb2, if_neg (by omega)]; exact v5
theorem au3_MB {x m : tm_M} {T : Nat} {G : Nat → aM} {B : aM} {c : Nat} (hd : 1 ≤ B 0 0) (hc : c ≤ B 3 (B 0 0 - 1)) (M : MB x m T G B (B 0 0 - 1)) : MB (sI x (8, B 0 0 - 1, 0) 3 (nI c)) (sA m (0, 0, 26) (B 0 0 - 1) (nI c)) T G (au B 3 (B 0 0 - 1) c) (B 0 0 - 1) := by
  obtain ⟨mx, mm, m1, m8, me, mF, mW⟩ := M
  have hb0 : (au B 3 (B 0 0 - 1) c) 0 = B 0 := by funext j; simp [au]
  have hb1 : (au B 3 (B 0 0 - 1) c) 1 = B 1 := by funext j; simp [au]
  have hb2 : (au B 3 (B 0 0 - 1) c) 2 = B 2 := by funext j; simp [au]
  have hb3 : ∀ i, (au B 3 (B 0 0 - 1) c) 3 i = if i = B 0 0 - 1 then c else B 3 i := fun i => by simp [au]
  have hbc : ∀ i j, (au B 3 (B 0 0 - 1) c) (10 + i) j = B (10 + i) j := fun i j => by
    have : ¬ (10 + i = 3) := by omega
    simp [au, this]
  refine ⟨⟨?_, fun i hi => ?_⟩, ⟨?_, fun i hi => ?_, fun i hi => ?_⟩, by rw [hb0]; exact m1, by rw [hb0]; exact m8, by rw [hb0]; exact me, fun i hi => ?_, fun i hi => ?_⟩
  · rw [hb0, rIK (by simp)]; exact mx.1
  · rw [hb0] at hi
    have g := mx.2 i hi
    rw [hb1, hb2, hb3, rIA]
    simp only [hbc]
    by_cases ci : i = B 0 0 - 1
    · subst ci
      rw [if_pos rfl, rI, rIj (by decide), rIj (by decide)]
      exact ⟨g.1, g.2.1, rfl, fun j hj => g.2.2.2 j (by omega)⟩
    · rw [if_neg ci, rIK (by simp; exact ci)]
      exact g
  · rw [hb0, rAI]; exact mm.1
  · rw [hb0] at hi
    have g := mm.2.1 i hi
    rw [hb1, hb2, hb3, rAK (K' := (0, 0, 23)) (by simp), rAK (K' := (0, 0, 25)) (by simp), rAK (K' := (0, 0, 27)) (by simp)]
    simp only [hbc]
    by_cases ci : i = B 0 0 - 1
    · subst ci
      rw [if_pos rfl, rA]
      exact ⟨g.1, g.2.1, rfl, fun j hj => g.2.2.2 j (by omega)⟩
    · rw [if_neg ci, rAi ci]
      exact g
  · rw [hb2, rAK (by simp)]; exact mm.2.2 i hi
  · rw [hb0] at hi
    have g := mF i hi
    unfold Fm at g ⊢
    rw [hb1, hb3]
    simp only [hbc]
    by_cases ci : i = B 0 0 - 1
    · subst ci
      rw [if_pos rfl]
      exact ⟨g.1, by omega, fun j hj => g.2.2 j (by omega)⟩
    · rw [if_neg ci]; exact g
  · have g := mW i hi
    unfold Wt at g ⊢
    rw [hb0, hb1, hb2, hb3, if_neg (by omega)]
    exact g
theorem step_ok {x m : tm_M} {T : Nat} {Pa len : Nat → Nat} {S O : Nat → Nat → Nat} {G : Nat → aM} {B : aM} {t : Nat} (R : Rs x m T Pa len S O G) (Y : Ty x m t) (M : MB x m T G B (B 0 0 - 1)) (P : Tp x m T G B) (hE : m.1 (0, 0, 0) 35 = -1) : StepR x m T G (B 0 0) := by
  have M' := M
  obtain ⟨mx, mm, m1, m8, me, mF, mW⟩ := M'
  have hF := mF (B 0 0 - 1) (by omega)
  obtain ⟨p1, p2, p3, p4⟩ := R.2.2.2 (B 1 (B 0 0 - 1)) hF.1
  obtain ⟨y1, y2, y3, y4⟩ := mx.2 (B 0 0 - 1) (by omega)
  obtain ⟨z1, z2, z3, z4⟩ := mm.2.1 (B 0 0 - 1) (by omega)
  obtain ⟨hpn, P⟩ := P
  generalize hp : B 2 (B 0 0 - 1) = p at *
  generalize hA : G (B 1 (B 0 0 - 1)) = A at *
  have n81 := p4.1
  obtain ⟨tp, pd0⟩ := p4.2.2.2.1 p hpn
  have hlx := (p1.2.2.2.1 p hpn).1
  have hvx := (p1.2.2.2.1 p hpn).2
  have hlm := (p2.2.2.1 p hpn).1
  have hvm : m.2 (0, 0, 7) (128 * B 1 (B 0 0 - 1) + p) = nI (A 2 p) := by rw [(p2.2.2.1 p hpn).2.1, pd0]; rfl
  have hnX := p1.1
  obtain ⟨MN, N24⟩ := np_ok hp M
  have hb0 : (au B 2 (B 0 0 - 1) (p + 1)) 0 = B 0 := by funext j; simp [au]
  have hb1 : (au B 2 (B 0 0 - 1) (p + 1)) 1 = B 1 := by funext j; simp [au]
  have hb3 : (au B 2 (B 0 0 - 1) (p + 1)) 3 = B 3 := by funext j; simp [au]
  have hb2 : (au B 2 (B 0 0 - 1) (p + 1)) 2 (B 0 0 - 1) = p + 1 := by simp [au]
  have RN := R.keep (kx_np (d := B 0 0) (p := p)) (km_np (d := B 0 0) (p := p))
  have YN := Y.same (sT_np (d := B 0 0) (p := p))
  have sT := sT_np (x := x) (m := m) (d := B 0 0) (p := p)
  have hg : gpA T (G (B 1 (B 0 0 - 1))) := by rw [hA]; exact p4
  have L8 := tp.1
  have hd1 : B 0 0 - 1 < 8 := by omega
  by_cases c0 : A 1 p = 0
  · have h6 := ow_0 p4 hpn (by omega)
    have nx := tp.2.2.2.1 h6 (Or.inl c0)
    have hcc : B 3 (B 0 0 - 1) = A 5 p := by
      rcases P with P | P
      · exact P.2
      · exact absurd h6 P.1
    by_cases c : t < 60
    · refine ⟨sI (sA (npX (B 0 0) p x) (5, 0, 4) t (nI (A 2 p))) (5, 0, 3) 1 (nI (t + 1)), sA (sA (npR (B 0 0) p m) (0, 0, 29) t (nI (A 2 p))) (0, 0, 28) 0 (nI (t + 1)), -1, fun l D aC ad => ?_, fun l D aC ad => ?_, kx_I k53 (kx_A k54 kx_np), km_A (by omega) (km_A (by omega) km_np), ⟨t + 1, put_Ty YN c⟩, hE, rfl, ?_, ?_, Or.inl rfl, fun _ => ⟨au B 2 (B 0 0 - 1) (p + 1), ?_, ?_⟩⟩
      · refine ok_Ma_step_P x hd1 hF.1 y1 y2 hnX n81 hpn (by rw [hlx, c0]; decide) ?_
        rw [hvx]; exact ok_Ma_print _ _ YN.2.1 c
      · refine ok_Mo_step_P m mm.1 m1 m8 hF.1 z1 z2 (by omega) (by rw [hlm, c0]; decide) ?_
        rw [hvm]; exact ok_Mo_puts _ _ YN.2.2.1 c
      · rw [rIj (by decide), rAI]; exact congrFun sT.1 2
      · rw [rAi (by decide), rAK (by simp)]; exact congrFun sT.2.2.1 1
      · rw [hb0]
        refine MN.other ?_ (fun i => ⟨?_, ?_⟩) rfl (fun a h1 h2 => ?_)
        · rw [rIK (by simp), rAI]
        · rw [rIK (by simp), rAI]
        · rw [rIA, rAK (by simp)]
        · rw [rAK (by simp; omega), rAK (by simp; omega)]
      · exact Tp_next0 hg (by rw [hA]; exact nx.1) (by rw [hA]; omega) (by rw [hA, nx.2]; exact hcc)
    · have t60 : t = 60 := by have := Y.1; omega
      refine ⟨npX (B 0 0) p x, sI (npR (B 0 0) p m) (0, 0, 0) 35 5, 5, fun l D aC ad => ?_, fun l D aC ad => ?_, kx_np, km_I (by omega) km_np, ⟨t, YN⟩, rI, ?_, congrFun sT.1 2, congrFun sT.2.2.1 1, Or.inr (by decide), fun z => absurd z (by decide)⟩
      · refine ok_Ma_step_P x hd1 hF.1 y1 y2 hnX n81 hpn (by rw [hlx, c0]; decide) ?_
        exact ok_Ma_print_full _ _ (by rw [← t60]; exact YN.2.1)
      · refine ok_Mo_step_P m mm.1 m1 m8 hF.1 z1 z2 (by omega) (by rw [hlm, c0]; decide) ?_
        exact ok_Mo_puts_full _ _ (by rw [← t60]; exact YN.2.2.1)
      · rw [rIj (by decide)]; rfl
  by_cases c1 : A 1 p = 1
  · have h6 := ow_0 p4 hpn (by omega)
    have nx := tp.2.2.2.1 h6 (Or.inr (Or.inl c1))
    have hcc : B 3 (B 0 0 - 1) = A 5 p := by
      rcases P with P | P
      · exact P.2
      · exact absurd h6 P.1
    have hv6 := tp.2.2.2.2.2.2.2.2.1 c1
    obtain ⟨g1, g2, g3, g4⟩ := RN.2.2.2 (A 2 p) hv6
    by_cases cz : (G (A 2 p)) 0 0 = 0
    · refine ⟨npX (B 0 0) p x, sI (npR (B 0 0) p m) (0, 0, 0) 35 4, 4, fun l D aC ad => ?_, fun l D aC ad => ?_, kx_np, km_I (by omega) km_np, ⟨t, YN⟩, rI, ?_, congrFun sT.1 2, congrFun sT.2.2.1 1, Or.inr (by decide), fun z => absurd z (by decide)⟩
      · refine ok_Ma_step_C x hd1 hF.1 y1 y2 hnX n81 hpn (by rw [hlx, c1]; decide) ?_
        rw [hvx]; exact ok_Ma_enter_none hv6 _ (by rw [g1.1, cz]; decide)
      · refine ok_Mo_step_C m mm.1 m1 m8 hF.1 z1 z2 (by omega) (by rw [hlm, c1]; decide) ?_
        rw [hvm]; exact ok_Mo_calls_none hv6 _ (by rw [g2.1, cz]; decide)
      · rw [rIj (by decide)]; rfl
    · have gn := g4.1
      have hposX : 0 < (npX (B 0 0) p x).1 (6, A 2 p, 0) 2 := by rw [g1.1]; exact nI_lt (a := 0) (by omega) (by omega)
      have hposM : ¬ (npR (B 0 0) p m).2 (0, 0, 5) (A 2 p) = 0 := by rw [g2.1]; exact nI_ne0 (by omega) (by omega)
      by_cases c8 : B 0 0 = 8
      · refine ⟨npX (B 0 0) p x, sI (npR (B 0 0) p m) (0, 0, 0) 35 2, 2, fun l D aC ad => ?_, fun l D aC ad => ?_, kx_np, km_I (by omega) km_np, ⟨t, YN⟩, rI, ?_, congrFun sT.1 2, congrFun sT.2.2.1 1, Or.inr (by decide), fun z => absurd z (by decide)⟩
        · refine ok_Ma_step_C x hd1 hF.1 y1 y2 hnX n81 hpn (by rw [hlx, c1]; decide) ?_
          rw [hvx]; exact ok_Ma_enter_deep hv6 _ hposX (by rw [MN.1.1, hb0, c8])
        · refine ok_Mo_step_C m mm.1 m1 m8 hF.1 z1 z2 (by omega) (by rw [hlm, c1]; decide) ?_
          rw [hvm]; exact ok_Mo_calls_deep hv6 _ hposM (by rw [MN.2.1.1, hb0, c8])
        · rw [rIj (by decide)]; rfl
      · have hd7 : B 0 0 < 8 := by omega
        obtain ⟨B', k0, k1, k2, k3, kc⟩ : ∃ B' : aM, B' 0 0 = B 0 0 + 1 ∧ (∀ i, B' 1 i = if i = B 0 0 then A 2 p else B 1 i) ∧ (∀ i, B' 2 i = if i = B 0 0 then 0 else if i = B 0 0 - 1 then p + 1 else B 2 i) ∧ (∀ i, B' 3 i = if i = B 0 0 then 0 else B 3 i) ∧ ∀ i j, B' (10 + i) j = B (10 + i) j := by
          refine ⟨au (au (au (au (au B 2 (B 0 0 - 1) (p + 1)) 1 (B 0 0) (A 2 p)) 2 (B 0 0) 0) 3 (B 0 0) 0) 0 0 (B 0 0 + 1), by simp [au], fun i => by simp [au], fun i => by simp [au], fun i => by simp [au], fun i j => ?_⟩
          have q0 : ¬ (10 + i = 0) := by omega
          have q1 : ¬ (10 + i = 1) := by omega
          have q2 : ¬ (10 + i = 2) := by omega
          have q3 : ¬ (10 + i = 3) := by omega
          simp [au, q0, q1, q2, q3]
        have hX4 : (npX (B 0 0) p x).1 (5, 0, 0) 4 = nI (B 0 0) := by rw [MN.1.1, hb0]
        have hM25 : (npR (B 0 0) p m).1 (0, 0, 0) 25 = nI (B 0 0) := mm.1
        have MNx : ∀ i, i < B 0 0 → (npX (B 0 0) p x).1 (8, i, 0) 0 = nI (B 1 i) ∧ (npX (B 0 0) p x).1 (8, i, 0) 1 = nI (if i = B 0 0 - 1 then p + 1 else B 2 i) ∧ (npX (B 0 0) p x).1 (8, i, 0) 3 = nI (B 3 i) ∧ ∀ j, j < B 3 i → (npX (B 0 0) p x).2 (8, i, 1) j = nI (B (10 + i) j) := fun i hi => by
          have g := MN.1.2 i (by rw [hb0]; exact hi)
          rw [hb1, hb3] at g
          have e2 : (au B 2 (B 0 0 - 1) (p + 1)) 2 i = if i = B 0 0 - 1 then p + 1 else B 2 i := by simp [au]
          have ec : ∀ j, (au B 2 (B 0 0 - 1) (p + 1)) (10 + i) j = B (10 + i) j := fun j => by
            have q2 : ¬ (10 + i = 2) := by omega
            simp [au, q2]
          rw [e2] at g
          simp only [ec] at g
          exact g
        have MNm : ∀ i, i < B 0 0 → (npR (B 0 0) p m).2 (0, 0, 23) i = nI (B 1 i) ∧ (npR (B 0 0) p m).2 (0, 0, 25) i = nI (if i = B 0 0 - 1 then p + 1 else B 2 i) ∧ (npR (B 0 0) p m).2 (0, 0, 26) i = nI (B 3 i) ∧ ∀ j, j < B 3 i → (npR (B 0 0) p m).2 (0, 0, 27) (24 * i + j) = nI (B (10 + i) j) := fun i hi => by
          have g := MN.2.1.2.1 i (by rw [hb0]; exact hi)
          rw [hb1, hb3] at g
          have e2 : (au B 2 (B 0 0 - 1) (p + 1)) 2 i = if i = B 0 0 - 1 then p + 1 else B 2 i := by simp [au]
          have ec : ∀ j, (au B 2 (B 0 0 - 1) (p + 1)) (10 + i) j = B (10 + i) j := fun j => by
            have q2 : ¬ (10 + i = 2) := by omega
            simp [au, q2]
          rw [e2] at g
          simp only [ec] at g
          exact g
        have N24' : ∀ i, i < B 0 0 → (npR (B 0 0) p m).2 (0, 0, 24) i = nI ((if i = B 0 0 - 1 then p + 1 else B 2 i) - 1) := fun i hi => by
          have g := N24 i hi
          have e2 : (au B 2 (B 0 0 - 1) (p + 1)) 2 i = if i = B 0 0 - 1 then p + 1 else B 2 i := by simp [au]
          rw [e2] at g
          exact g
        generalize hXX : npX (B 0 0) p x = X at *
        generalize hMM : npR (B 0 0) p m = N at *
        obtain ⟨N', q1, q2, q3, q4⟩ : ∃ N' : tm_M, enM (B 0 0) (A 2 p) N = N' ∧ N'.1 = (sI N (0, 0, 0) 25 (nI (B 0 0 + 1))).1 ∧ (∀ a, a ≠ 28 → N'.2 (0, 0, a) = (sA (sA (sA (sA N (0, 0, 23) (B 0 0) (nI (A 2 p))) (0, 0, 24) (B 0 0) 0) (0, 0, 25) (B 0 0) 0) (0, 0, 26) (B 0 0) 0).2 (0, 0, a)) ∧ (∀ j, N'.2 (0, 0, 28) j = if j = 4 ∧ ¬ nI (B 0 0 + 1) ≤ N.2 (0, 0, 28) 4 then nI (B 0 0 + 1) else N.2 (0, 0, 28) j) := by
          unfold enM
          by_cases cq : nI (B 0 0 + 1) ≤ N.2 (0, 0, 28) 4
          · rw [if_pos cq]
            refine ⟨_, rfl, rfl, fun a ha => rfl, fun j => ?_⟩
            rw [if_neg (fun z => z.2 cq), rIA, rAK (by simp), rAK (by simp), rAK (by simp), rAK (by simp)]
          · rw [if_neg cq]
            refine ⟨_, rfl, rfl, fun a ha => ?_, fun j => ?_⟩
            · rw [rAK (by simp; exact ha), rIA]
            · by_cases cj : j = 4
              · subst cj; rw [if_pos ⟨rfl, cq⟩, rA]
              · rw [if_neg (fun z => cj z.1), rAi cj, rIA, rAK (by simp), rAK (by simp), rAK (by simp), rAK (by simp)]
        refine ⟨sI (sI (sI (sI (sI X (8, B 0 0, 0) 0 (nI (A 2 p))) (8, B 0 0, 0) 1 0) (8, B 0 0, 0) 3 0) (5, 0, 0) 4 (nI (B 0 0 + 1))) (5, 0, 3) 5 (if X.1 (5, 0, 3) 5 < nI (B 0 0 + 1) then nI (B 0 0 + 1) else X.1 (5, 0, 3) 5), N', -1, fun l D aC ad => ?_, fun l D aC ad => ?_, kx_I k53 (kx_I k50 (kx_I k8 (kx_I k8 (kx_I k8 (by rw [← hXX]; exact kx_np))))), ?_, ⟨t, ?_⟩, ?_, ?_, ?_, ?_, Or.inl rfl, fun _ => ⟨B', ?_, ?_⟩⟩
        · refine ok_Ma_step_C x hd1 hF.1 y1 y2 hnX n81 hpn (by rw [hlx, c1]; decide) ?_
          rw [hvx, hXX]; exact ok_Ma_enter hv6 _ hposX hX4 hd7
        · refine ok_Mo_step_C m mm.1 m1 m8 hF.1 z1 z2 (by omega) (by rw [hlm, c1]; decide) ?_
          rw [hvm, hMM, ← q1]; exact ok_Mo_calls hv6 _ hposM hM25 hd7
        · have kmN : kmR m N := by rw [← hMM]; exact km_np
          refine km_t kmN ⟨by rw [q2, rIj (by decide)], fun a ha => ?_⟩
          rw [q3 a (by omega), rAK (by simp; omega), rAK (by simp; omega), rAK (by simp; omega), rAK (by simp; omega)]
        · obtain ⟨t1, t2, t3, t4, t5⟩ := YN
          refine ⟨t1, ?_, ?_, fun k hk => ?_, fun j h1 h2 => ?_⟩
          · rw [rIj (by decide), rIK (by simp), rIK (by simp), rIK (by simp), rIK (by simp)]; exact t2
          · rw [q4, if_neg (fun z => absurd z.1 (by decide))]; exact t3
          · rw [rIA, rIA, rIA, rIA, rIA, q3 29 (by decide), rAK (by simp), rAK (by simp), rAK (by simp), rAK (by simp)]; exact t4 k hk
          · rw [q4]
            by_cases cj : j = 4
            · subst cj
              have h5 := t5 4 (by omega) (by omega)
              rw [rI, h5]
              by_cases cq : nI (B 0 0 + 1) ≤ N.2 (0, 0, 28) 4
              · rw [if_neg (Int32.not_lt.mpr cq), if_neg (show ¬ (4 = 4 ∧ ¬ nI (B 0 0 + 1) ≤ N.2 (0, 0, 28) 4) from fun z => z.2 cq)]
              · rw [if_pos (Int32.not_le.mp cq), if_pos (show (4 = 4 ∧ ¬ nI (B 0 0 + 1) ≤ N.2 (0, 0, 28) 4) from ⟨rfl, cq⟩)]
            · rw [if_neg (show ¬ (j = 4 ∧ ¬ nI (B 0 0 + 1) ≤ N.2 (0, 0, 28) 4) from fun z => cj z.1), rIj (by omega), rIK (by simp), rIK (by simp), rIK (by simp), rIK (by simp)]; exact t5 j h1 h2
        · rw [q2, rIj (by decide), ← hMM]; exact hE
        · rw [q2, rIj (by decide), ← hMM]; rfl
        · rw [rIj (by decide), rIK (by simp), rIK (by simp), rIK (by simp), rIK (by simp)]; exact congrFun sT.1 2
        · rw [q4, if_neg (fun z => absurd z.1 (by decide))]; exact congrFun sT.2.2.1 1
        · rw [k0, Nat.add_sub_cancel]
          refine ⟨⟨?_, fun i hi => ?_⟩, ⟨?_, fun i hi => ?_, fun i hi => ?_⟩, by omega, by omega, by omega, fun i hi => ?_, fun i hi => ?_⟩
          · rw [k0, rIK (by simp), rI]
          · rw [k0] at hi
            rw [k1, k2, k3]
            simp only [kc]
            rw [rIK (K' := (8, i, 0)) (K := (5, 0, 3)) (by simp), rIK (K' := (8, i, 0)) (K := (5, 0, 0)) (by simp), rIA, rIA, rIA, rIA, rIA]
            by_cases ci : i = B 0 0
            · subst ci
              rw [if_pos rfl, if_pos rfl, if_pos rfl]
              refine ⟨?_, ?_, ?_, fun j hj => absurd hj (Nat.not_lt_zero _)⟩
              · rw [rIj (by decide), rIj (by decide), rI]
              · rw [rIj (by decide), rI]; rfl
              · rw [rI]; rfl
            · rw [if_neg ci, if_neg ci, if_neg ci, rIK (by simp; exact ci), rIK (by simp; exact ci), rIK (by simp; exact ci)]
              exact MNx i (by omega)
          · rw [k0, q2, rI]
          · rw [k0] at hi
            rw [k1, k2, k3, q3 23 (by decide), q3 25 (by decide), q3 26 (by decide), q3 27 (by decide)]
            simp only [kc]
            rw [rAK (K' := (0, 0, 23)) (K := (0, 0, 26)) (by simp), rAK (K' := (0, 0, 23)) (K := (0, 0, 25)) (by simp), rAK (K' := (0, 0, 23)) (K := (0, 0, 24)) (by simp), rAK (K' := (0, 0, 25)) (K := (0, 0, 26)) (by simp), rAK (K' := (0, 0, 27)) (K := (0, 0, 26)) (by simp), rAK (K' := (0, 0, 27)) (K := (0, 0, 25)) (by simp), rAK (K' := (0, 0, 27)) (K := (0, 0, 24)) (by simp), rAK (K' := (0, 0, 27)) (K := (0, 0, 23)) (by simp)]
            by_cases ci : i = B 0 0
            · subst ci
              rw [if_pos rfl, if_pos rfl, if_pos rfl, rA, rA, rA]
              exact ⟨rfl, rfl, rfl, fun j hj => absurd hj (Nat.not_lt_zero _)⟩
            · rw [if_neg ci, if_neg ci, if_neg ci, rAi ci, rAi ci, rAi ci, rAK (K' := (0, 0, 25)) (K := (0, 0, 24)) (by simp), rAK (K' := (0, 0, 25)) (K := (0, 0, 23)) (by simp), rAK (K' := (0, 0, 26)) (K := (0, 0, 25)) (by simp), rAK (K' := (0, 0, 26)) (K := (0, 0, 24)) (by simp), rAK (K' := (0, 0, 26)) (K := (0, 0, 23)) (by simp)]
              exact MNm i (by omega)
          · have ci : ¬ i = B 0 0 := by omega
            rw [k2, if_neg ci, q3 24 (by decide), rAK (K' := (0, 0, 24)) (K := (0, 0, 26)) (by simp), rAK (K' := (0, 0, 24)) (K := (0, 0, 25)) (by simp), rAi ci, rAK (by simp)]
            exact N24' i hi
          · rw [k0] at hi
            unfold Fm
            rw [k1, k3]
            simp only [kc]
            by_cases ci : i = B 0 0
            · rw [if_pos ci, if_pos ci]
              exact ⟨hv6, by omega, fun j hj => absurd hj (Nat.not_lt_zero _)⟩
            · rw [if_neg ci, if_neg ci]
              exact mF i (by omega)
          · have ci : ¬ i = B 0 0 := by omega
            unfold Wt
            rw [k0, k1, k2, k3, if_neg ci, if_neg ci, if_neg ci]
            by_cases cj : i = B 0 0 - 1
            · subst cj
              rw [if_pos rfl, hA, Nat.add_sub_cancel]
              exact ⟨by omega, hpn, Or.inl c1, fun _ => c1, h6, hcc⟩
            · rw [if_neg cj]
              have g := mW i (by omega)
              exact ⟨g.1, g.2.1, g.2.2.1, fun _ => g.2.2.2.1 (by omega), g.2.2.2.2.1, g.2.2.2.2.2⟩
        · unfold Tp
          rw [k0, Nat.add_sub_cancel, k1, k2, k3, if_pos rfl, if_pos rfl, if_pos rfl]
          have ent := g4.2.2.2.2.2.2.1 (by omega)
          exact ⟨by omega, Or.inl ⟨ent.1, ent.2.symm⟩⟩
  by_cases c23 : A 1 p = 2 ∨ A 1 p = 3
  · have h6 := ow_0 p4 hpn (by omega)
    have hcc : B 3 (B 0 0 - 1) = A 5 p := by
      rcases P with P | P
      · exact P.2
      · exact absurd h6 P.1
    have MD : MB (npX (B 0 0) p x) (npR (B 0 0) p m) T G (au B 2 (B 0 0 - 1) (p + 1)) ((au B 2 (B 0 0 - 1) (p + 1)) 0 0) := by
      obtain ⟨o1, ⟨o2, o3, o4⟩, o5, o6, o7, o8, o9⟩ := MN
      refine ⟨o1, ⟨o2, o3, fun i hi => N24 i (by rw [hb0] at hi; exact hi)⟩, o5, o6, Nat.le_refl _, o8, fun i hi => ?_⟩
      rw [hb0] at hi
      by_cases ci : i = B 0 0 - 1
      · subst ci
        unfold Wt
        rw [hb0, hb1, hb2, hb3, hA, Nat.add_sub_cancel]
        exact ⟨by omega, hpn, Or.inr c23, fun z => by omega, h6, hcc⟩
      · exact o9 i (by omega)
    rcases c23 with c2 | c3
    · have hu := tp.2.2.2.2.2.2.2.2.2.1 c2
      obtain ⟨x', m', r, s1, s2, s3, s4, s5, s6, s7, s8, s9, s10, s11⟩ := raise_ok RN YN MD hu hE
      refine ⟨x', m', r, fun l D aC ad => ?_, fun l D aC ad => ?_, kx_t kx_np s3, km_t km_np s4, ⟨t, s5⟩, s6, s7, s8.trans (congrFun sT.1 2), s9.trans (congrFun sT.2.2.1 1), ?_, s11⟩
      · refine ok_Ma_step_T x hd1 hF.1 y1 y2 hnX n81 hpn (by rw [hlx, c2]; decide) ?_
        rw [hvx]; exact s1 l D aC ad
      · refine ok_Mo_step_T m mm.1 m1 m8 hF.1 z1 z2 (by omega) (by rw [hlm, c2]; decide) ?_
        rw [hvm]; exact s2 l D aC ad
      · rcases s10 with h | h
        · exact Or.inl h
        · exact Or.inr (by rw [h]; decide)
    · have hpos := tp.2.2.2.2.2.2.2.1 h6 c3
      have h5 := hF.2.1
      have hu := hF.2.2 (B 3 (B 0 0 - 1) - 1) (by omega)
      obtain ⟨x', m', r, s1, s2, s3, s4, s5, s6, s7, s8, s9, s10, s11⟩ := raise_ok RN YN MD hu hE
      refine ⟨x', m', r, fun l D aC ad => ?_, fun l D aC ad => ?_, kx_t kx_np s3, km_t km_np s4, ⟨t, s5⟩, s6, s7, s8.trans (congrFun sT.1 2), s9.trans (congrFun sT.2.2.1 1), ?_, s11⟩
      · refine ok_Ma_step_R x hd1 hF.1 y1 y2 hnX n81 hpn (by rw [hlx, c3]; decide) (t := B 3 (B 0 0 - 1) - 1) (by rw [y3, show B 3 (B 0 0 - 1) - 1 + 1 = B 3 (B 0 0 - 1) by omega]) (by omega) ?_
        rw [y4 _ (by omega)]; exact s1 l D aC ad
      · refine ok_Mo_step_R m mm.1 m1 m8 hF.1 z1 z2 (by omega) (by rw [hlm, c3]; decide) (t := B 3 (B 0 0 - 1) - 1) (by rw [z3, show B 3 (B 0 0 - 1) - 1 + 1 = B 3 (B 0 0 - 1) by omega]) (by omega) ?_
        rw [z4 _ (by omega)]; exact s2 l D aC ad
      · rcases s10 with h | h
        · exact Or.inl h
        · exact Or.inr (by rw [h]; decide)
  by_cases c4 : A 1 p = 4
  · have h6 := ow_0 p4 hpn (by omega)
    have hcc : B 3 (B 0 0 - 1) = A 5 p := by
      rcases P with P | P
      · exact P.2
      · exact absurd h6 P.1
    obtain ⟨g1, g2, g3⟩ := tp.2.2.2.2.2.1 h6 c4 pd0
    have hlt : A 2 p < A 0 0 := by
      rcases Nat.lt_or_ge (A 2 p) (A 0 0) with h | h
      · exact h
      · have e : A 2 p = A 0 0 := by omega
        have := p4.2.2.2.2.2.2.2.1
        rw [← e, g2] at this
        omega
    have kb0 : (au B 2 (B 0 0 - 1) (A 2 p)) 0 = B 0 := by funext j; simp [au]
    have kb1 : (au B 2 (B 0 0 - 1) (A 2 p)) 1 = B 1 := by funext j; simp [au]
    have kb3 : (au B 2 (B 0 0 - 1) (A 2 p)) 3 = B 3 := by funext j; simp [au]
    have kb2 : ∀ i, (au B 2 (B 0 0 - 1) (A 2 p)) 2 i = if i = B 0 0 - 1 then A 2 p else B 2 i := fun i => by simp [au]
    have kbc : ∀ i j, (au B 2 (B 0 0 - 1) (A 2 p)) (10 + i) j = B (10 + i) j := fun i j => by
      have : ¬ (10 + i = 2) := by omega
      simp [au, this]
    refine ⟨sI x (8, B 0 0 - 1, 0) 1 (nI (A 2 p)), sA (npR (B 0 0) p m) (0, 0, 25) (B 0 0 - 1) (nI (A 2 p)), -1, fun l D aC ad => ?_, fun l D aC ad => ?_, kx_I k8 kx_r, km_A (by omega) km_np, ⟨t, ?_⟩, hE, rfl, ?_, ?_, Or.inl rfl, fun _ => ⟨au B 2 (B 0 0 - 1) (A 2 p), ?_, ?_⟩⟩
    · have := ok_Ma_step_G (l := l) (D := D) (aC := aC) (ad := ad) x hd1 hF.1 y1 y2 hnX n81 hpn (by rw [hlx, c4]; decide)
      rw [hvx] at this; exact this
    · have := ok_Mo_step_G (l := l) (D := D) (aC := aC) (ad := ad) m mm.1 m1 m8 hF.1 z1 z2 (by omega) (by rw [hlm, c4]; decide)
      rw [hvm] at this; exact this
    · refine Y.same ⟨by rw [rIK (by simp)], by rw [rIA], ?_, ?_⟩
      · rw [rAK (by simp)]; exact sT.2.2.1
      · rw [rAK (by simp)]; exact sT.2.2.2
    · rw [rIK (by simp)]
    · rw [rAK (by simp)]; exact congrFun sT.2.2.1 1
    · rw [kb0]
      refine ⟨⟨?_, fun i hi => ?_⟩, ⟨?_, fun i hi => ?_, fun i hi => ?_⟩, by rw [kb0]; exact m1, by rw [kb0]; exact m8, by rw [kb0]; exact me, fun i hi => ?_, fun i hi => ?_⟩
      · rw [kb0, rIK (by simp)]; exact mx.1
      · rw [kb0] at hi
        have g := mx.2 i hi
        rw [kb1, kb2, kb3, rIA]
        simp only [kbc]
        by_cases ci : i = B 0 0 - 1
        · subst ci
          rw [if_pos rfl, rI, rIj (by decide), rIj (by decide)]
          exact ⟨g.1, rfl, g.2.2⟩
        · rw [if_neg ci, rIK (by simp; exact ci)]
          exact g
      · rw [kb0]; exact mm.1
      · rw [kb0] at hi
        have g := mm.2.1 i hi
        have e23 : (npR (B 0 0) p m).2 (0, 0, 23) = m.2 (0, 0, 23) := by unfold npR; rw [rAK (by simp), rAK (by simp)]
        have e26 : (npR (B 0 0) p m).2 (0, 0, 26) = m.2 (0, 0, 26) := by unfold npR; rw [rAK (by simp), rAK (by simp)]
        have e27 : (npR (B 0 0) p m).2 (0, 0, 27) = m.2 (0, 0, 27) := by unfold npR; rw [rAK (by simp), rAK (by simp)]
        rw [kb1, kb2, kb3, rAK (K' := (0, 0, 23)) (by simp), rAK (K' := (0, 0, 26)) (by simp), rAK (K' := (0, 0, 27)) (by simp), e23, e26, e27]
        simp only [kbc]
        refine ⟨g.1, ?_, g.2.2⟩
        by_cases ci : i = B 0 0 - 1
        · subst ci
          rw [if_pos rfl, rA]
        · rw [if_neg ci, rAi ci]
          unfold npR
          rw [rAi ci, rAK (by simp)]
          exact g.2.1
      · rw [kb2, if_neg (by omega), rAK (by simp)]
        unfold npR
        rw [rAK (by simp), rAi (by omega)]
        exact mm.2.2 i hi
      · rw [kb0] at hi
        have g := mF i hi
        unfold Fm at g ⊢
        simp only [kb1, kb3, kbc]; exact g
      · have g := mW i hi
        unfold Wt at g ⊢
        rw [kb0, kb1, kb3, kb2, if_neg (by omega)]
        exact g
    · unfold Tp
      rw [kb0, kb1, kb2, if_pos rfl, kb3, hA]
      exact ⟨hlt, Or.inl ⟨g2, by rw [g3]; exact hcc⟩⟩
  by_cases c5 : A 1 p = 5
  · have hnext : ∀ (x' m' : tm_M), x'.1 (5, 0, 0) = x.1 (5, 0, 0) → m'.1 = m.1 → Tp x' m' T G (au B 2 (B 0 0 - 1) (p + 1)) := by
      intro x' m' hx' hm'
      by_cases h6 : A 6 p = 0
      · have nx := tp.2.2.2.1 h6 (Or.inr (Or.inr c5))
        have hcc : B 3 (B 0 0 - 1) = A 5 p := by
          rcases P with P | P
          · exact P.2
          · exact absurd h6 P.1
        exact Tp_next0 hg (by rw [hA]; exact nx.1) (by rw [hA]; omega) (by rw [hA, nx.2]; exact hcc)
      · rcases P with P | ⟨-, P1, P2, P3, P4, P5, P6, P7⟩
        · exact absurd P.1 h6
        · have hodd : A 6 p % 2 = 1 := by
            apply Classical.byContradiction
            intro z
            have := tp.2.2.2.2.2.2.2.2.2.2.2.2 h6 (by omega)
            omega
          obtain ⟨h1, h2, h3⟩ := tp.2.2.2.2.2.2.2.2.2.2.2.1 hodd
          have hk2 : A 6 p / 2 = B 0 4 := by omega
          rw [hk2] at h2
          rw [if_pos hodd, Nat.sub_zero] at P5
          have := Tp_clean (x := x) (m := m) (x' := x') (m' := m') (T := T) (G := G) (c := B 3 (B 0 0 - 1)) hp hg (by rw [hA]; exact hpn) (by rw [hA]; exact hodd) (by rw [hA]; exact P1) (by rw [hA]; exact P2) (by rw [hx']; exact P3) (by rw [hm']; exact P4) (by rw [hA]; omega) P6 (fun j => by rw [hx']) (fun j _ _ => by rw [hm']) (by rw [hA]; exact P7)
          have e := au_id (B := au B 2 (B 0 0 - 1) (p + 1)) (f := 3) (i := B 0 0 - 1)
          rw [au_n (f' := 3) (f := 2) (by decide)] at e
          rw [e] at this
          exact this
    by_cases c : t < 60
    · have hY1 := put_Ty (v := 100 + nI (A 2 p)) YN c
      have hj2 := hY1.2.2.2.2 2 (by omega) (by omega)
      rw [rIj (by decide), rAI] at hj2
      refine ⟨sI (sI (sA (npX (B 0 0) p x) (5, 0, 4) t (100 + nI (A 2 p))) (5, 0, 3) 1 (nI (t + 1))) (5, 0, 3) 3 ((npX (B 0 0) p x).1 (5, 0, 3) 3 + 1), sA (sA (sA (npR (B 0 0) p m) (0, 0, 29) t (100 + nI (A 2 p))) (0, 0, 28) 0 (nI (t + 1))) (0, 0, 28) 2 ((sA (sA (npR (B 0 0) p m) (0, 0, 29) t (100 + nI (A 2 p))) (0, 0, 28) 0 (nI (t + 1))).2 (0, 0, 28) 2 + 1), -1, fun l D aC ad => ?_, fun l D aC ad => ?_, kx_I k53 (kx_I k53 (kx_A k54 kx_np)), km_A (by omega) (km_A (by omega) (km_A (by omega) km_np)), ⟨t + 1, ?_⟩, hE, rfl, ?_, ?_, Or.inl rfl, fun _ => ⟨au B 2 (B 0 0 - 1) (p + 1), ?_, ?_⟩⟩
      · refine ok_Ma_step_D x hd1 hF.1 y1 y2 hnX n81 hpn (by rw [hlx, c5]; decide) ?_
        rw [hvx]; exact ok_Ma_clean _ _ YN.2.1 c
      · have := ok_Mo_step_D (l := l) (D := D) (aC := aC) (ad := ad) m mm.1 m1 m8 hF.1 z1 z2 (by omega) (by rw [hlm, c5]; decide) (x2 := sA (sA (npR (B 0 0) p m) (0, 0, 29) t (100 + nI (A 2 p))) (0, 0, 28) 0 (nI (t + 1))) (by rw [hvm]; exact ok_Mo_puts _ _ YN.2.2.1 c)
        rw [if_pos (by rw [rAI, rAI]; show m.1 (0, 0, 0) 35 < 0; rw [hE]; decide)] at this
        exact this
      · obtain ⟨t1, t2, t3, t4, t5⟩ := hY1
        refine ⟨t1, by rw [rIj (by decide)]; exact t2, by rw [rAi (by decide)]; exact t3, fun k hk => ?_, fun j h1 h2 => ?_⟩
        · rw [rIA, rAK (K' := (0, 0, 29)) (by simp)]; exact t4 k hk
        · by_cases cj : j = 2
          · subst cj; rw [rI, rA, hj2]
          · rw [rIj (by omega), rAi cj]; exact t5 j h1 h2
      · rw [rIj (by decide), rIj (by decide), rAI]; exact congrFun sT.1 2
      · rw [rAi (by decide), rAi (by decide), rAK (by simp)]; exact congrFun sT.2.2.1 1
      · rw [hb0]
        refine MN.other ?_ (fun i => ⟨?_, ?_⟩) rfl (fun a h1 h2 => ?_)
        · rw [rIK (by simp), rIK (by simp), rAI]
        · rw [rIK (by simp), rIK (by simp), rAI]
        · rw [rIA, rIA, rAK (by simp)]
        · rw [rAK (by simp; omega), rAK (by simp; omega), rAK (by simp; omega)]
      · refine hnext _ _ ?_ rfl
        rw [rIK (by simp), rIK (by simp), rAI]
        unfold npX
        rw [rIK (by simp)]
    · have t60 : t = 60 := by have := Y.1; omega
      refine ⟨npX (B 0 0) p x, sA (sI (npR (B 0 0) p m) (0, 0, 0) 35 5) (0, 0, 28) 2 ((sI (npR (B 0 0) p m) (0, 0, 0) 35 5).2 (0, 0, 28) 2 + 0), 5, fun l D aC ad => ?_, fun l D aC ad => ?_, kx_np, km_A (by omega) (km_I (by omega) km_np), ⟨t, ?_⟩, ?_, ?_, congrFun sT.1 2, ?_, Or.inr (by decide), fun z => absurd z (by decide)⟩
      · refine ok_Ma_step_D x hd1 hF.1 y1 y2 hnX n81 hpn (by rw [hlx, c5]; decide) ?_
        exact ok_Ma_clean_full _ _ (by rw [← t60]; exact YN.2.1)
      · have := ok_Mo_step_D (l := l) (D := D) (aC := aC) (ad := ad) m mm.1 m1 m8 hF.1 z1 z2 (by omega) (by rw [hlm, c5]; decide) (x2 := sI (npR (B 0 0) p m) (0, 0, 0) 35 5) (ok_Mo_puts_full _ _ (by rw [← t60]; exact YN.2.2.1))
        rw [if_neg (by rw [rI]; decide)] at this
        exact this
      · obtain ⟨t1, t2, t3, t4, t5⟩ := YN
        refine ⟨t1, t2, by rw [rAi (by decide), rIA]; exact t3, fun k hk => ?_, fun j h1 h2 => ?_⟩
        · rw [rAK (by simp), rIA]; exact t4 k hk
        · by_cases cj : j = 2
          · subst cj; rw [rA, rIA, Int32.add_zero]; exact t5 2 h1 h2
          · rw [rAi cj, rIA]; exact t5 j h1 h2
      · rw [rAI, rI]
      · rw [rAI, rIj (by decide)]; rfl
      · rw [rAi (by decide), rIA]; exact congrFun sT.2.2.1 1
  by_cases c6 : A 1 p = 6
  · have h5 := hF.2.1
    have hE' : 0 < B 3 (B 0 0 - 1) ∧ ∀ (x' m' : tm_M), x'.1 (5, 0, 0) = x.1 (5, 0, 0) → m'.1 = m.1 → Tp x' m' T G (au (au B 2 (B 0 0 - 1) (p + 1)) 3 (B 0 0 - 1) (B 3 (B 0 0 - 1) - 1)) := by
      by_cases h6 : A 6 p = 0
      · have nx := tp.2.2.2.2.1 h6 c6
        have hcc : B 3 (B 0 0 - 1) = A 5 p := by
          rcases P with P | P
          · exact P.2
          · exact absurd h6 P.1
        refine ⟨by omega, fun x' m' _ _ => Tp_next hg (by rw [hA]; exact nx.1) (by rw [hA]; omega) (by rw [hA]; omega)⟩
      · rcases P with P | ⟨-, P1, P2, P3, P4, P5, P6, P7⟩
        · exact absurd P.1 h6
        · have hodd : A 6 p % 2 = 1 := by
            apply Classical.byContradiction
            intro z
            have := tp.2.2.2.2.2.2.2.2.2.2.2.2 h6 (by omega)
            omega
          obtain ⟨h1, h2, h3⟩ := tp.2.2.2.2.2.2.2.2.2.2.2.1 hodd
          have hk2 : A 6 p / 2 = B 0 4 := by omega
          rw [hk2] at h1 h2
          have hsu := (p4.2.2.2.2.1 _ h1).1.2.2.1
          rw [if_pos hodd, Nat.sub_zero] at P5
          refine ⟨by omega, fun x' m' hx' hm' => ?_⟩
          exact Tp_clean (x := x) (m := m) (x' := x') (m' := m') (T := T) (G := G) hp hg (by rw [hA]; exact hpn) (by rw [hA]; exact hodd) (by rw [hA]; exact P1) (by rw [hA]; exact P2) (by rw [hx']; exact P3) (by rw [hm']; exact P4) (by rw [hA]; omega) P6 (fun j => by rw [hx']) (fun j _ _ => by rw [hm']) (by rw [hA]; exact P7)
    obtain ⟨hpos, hT⟩ := hE'
    have M3 := au3_MB (B := au B 2 (B 0 0 - 1) (p + 1)) (c := B 3 (B 0 0 - 1) - 1) (by rw [hb0]; exact m1) (by rw [hb0, hb3]; omega) (by rw [hb0]; exact MN)
    rw [hb0] at M3
    refine ⟨sI (npX (B 0 0) p x) (8, B 0 0 - 1, 0) 3 (nI (B 3 (B 0 0 - 1) - 1)), sA (npR (B 0 0) p m) (0, 0, 26) (B 0 0 - 1) (nI (B 3 (B 0 0 - 1) - 1)), -1, fun l D aC ad => ?_, fun l D aC ad => ?_, kx_I k8 kx_np, km_A (by omega) km_np, ⟨t, ?_⟩, hE, rfl, ?_, ?_, Or.inl rfl, fun _ => ⟨_, ?_, hT _ _ ?_ rfl⟩⟩
    · exact ok_Ma_step_E x hd1 hF.1 y1 y2 hnX n81 hpn (by rw [hlx, c6]; decide) (by rw [y3, show B 3 (B 0 0 - 1) - 1 + 1 = B 3 (B 0 0 - 1) by omega]) (by omega)
    · exact ok_Mo_step_E m mm.1 m1 m8 hF.1 z1 z2 (by omega) (by rw [hlm, c6]; decide) (by rw [z3, show B 3 (B 0 0 - 1) - 1 + 1 = B 3 (B 0 0 - 1) by omega]) (by omega)
    · exact YN.same ⟨by rw [rIK (by simp)], by rw [rIA], by rw [rAK (by simp)], by rw [rAK (by simp)]⟩
    · rw [rIK (by simp)]; exact congrFun sT.1 2
    · rw [rAK (by simp)]; exact congrFun sT.2.2.1 1
    · have e : (au (au B 2 (B 0 0 - 1) (p + 1)) 3 (B 0 0 - 1) (B 3 (B 0 0 - 1) - 1)) 0 = B 0 := by funext j; simp [au]
      rw [e]; exact M3
    · rw [rIK (by simp)]; unfold npX; rw [rIK (by simp)]
  by_cases c7 : A 1 p = 7
  · have h6 : A 6 p ≠ 0 := fun z => tp.2.2.1 z c7
    rcases P with P | ⟨-, P1, P2, P3, P4, P5, P6, P7⟩
    · exact absurd P.1 h6
    · have heven : ¬ A 6 p % 2 = 1 := fun z => by
        obtain ⟨h1, h2, h3⟩ := tp.2.2.2.2.2.2.2.2.2.2.2.1 z
        have := (p4.2.2.2.2.1 _ h1).1.2.1
        omega
      rw [if_neg heven] at P5
      have tk := (p4.2.2.2.2.1 (B 0 4) P2).1
      have a40 := p4.2.1
      have Q1 : Rg (npX (B 0 0) p x) (npR (B 0 0) p m) T (au B 2 (B 0 0 - 1) (p + 1)) := by
        unfold Rg at P6 ⊢
        rw [hb0]
        have e1 : (npX (B 0 0) p x).1 (5, 0, 0) = x.1 (5, 0, 0) := by unfold npX; rw [rIK (by simp)]
        rw [e1]; exact P6
      have V1 : HV G (au B 2 (B 0 0 - 1) (p + 1)) ((au B 2 (B 0 0 - 1) (p + 1)) 0 0) (A 9 (B 0 4)) := by
        unfold HV at P7 ⊢
        rw [hb0, hb1]
        refine ⟨P7.1, P7.2.1, P7.2.2.1, P7.2.2.2.1, ?_⟩
        obtain ⟨r, v5⟩ := P7.2.2.2.2
        refine ⟨r, ?_⟩
        by_cases c2 : B 0 2 = B 0 0
        · rw [if_pos c2] at v5 ⊢; exact v5
        · rw [if_neg c2] at v5 ⊢
          unfold Hw at v5 ⊢
          have v1 := P7.1
          have v2 := P7.2.1
          have e2 : (au B 2 (B 0 0 - 1) (p + 1)) 2 (B 0 2 - 1) = B 2 (B 0 2 - 1) := by
            have : ¬ (B 0 2 - 1 = B 0 0 - 1) := by omega
            simp [au, this]
          rw [hb1, e2]; exact v5
      obtain ⟨x', m', B', s1, s2, s3, s4, s5, s6, s7, s8, s9⟩ := unwind_ok RN MN Q1 (by rw [hb0]; omega) (h := A 9 (B 0 4)) (by rw [hb0, hb1, hA]; exact ne_le p4 P2) (by
        rw [hb0, hb1, hb3, hA]
        intro z
        rcases tk.2.2.2.2.2.2.1 with h | h
        · exact absurd h z
        · rw [h.2.1]; exact P5) V1
      refine ⟨x', m', -1, fun l D aC ad => ?_, fun l D aC ad => ?_, kx_t kx_np s3, km_t km_np s4, ⟨t, YN.same s5⟩, s6.trans hE, s7, (congrFun s5.1 2).trans (congrFun sT.1 2), (congrFun s5.2.2.1 1).trans (congrFun sT.2.2.1 1), Or.inl rfl, fun _ => ⟨B', s8, s9⟩⟩
      · refine ok_Ma_step_U x hd1 hF.1 y1 y2 hnX n81 hpn (by rw [hlx, c7]; decide) p1.2.1 a40 P3 P2 ?_
        rw [(p1.2.2.2.2.1 _ P2).2.2]; exact s1 l D aC ad
      · refine ok_Mo_step_U m mm.1 m1 m8 hF.1 z1 z2 (by omega) (by rw [hlm, c7]; decide) P4 (by omega) ?_
        rw [(p2.2.2.2 _ P2).2.2]; exact s2 l D aC ad
  · have c8 : A 1 p = 8 := by omega
    have hde : x.1 (5, 0, 0) 4 = nI (B 0 0 - 1 + 1) := by rw [mx.1, show B 0 0 - 1 + 1 = B 0 0 by omega]
    by_cases ce : B 0 0 - 1 = 0
    · refine ⟨sI (npX (B 0 0) p x) (5, 0, 0) 4 (nI (B 0 0 - 1)), sI (sI (npR (B 0 0) p m) (0, 0, 0) 25 (nI (B 0 0 - 1))) (0, 0, 0) 35 0, 0, fun l D aC ad => ?_, fun l D aC ad => ?_, kx_I k50 kx_np, km_I (by omega) (km_I (by omega) km_np), ⟨t, ?_⟩, rI, ?_, ?_, ?_, Or.inr (by decide), fun z => absurd z (by decide)⟩
      · have := ok_Ma_step_X (l := l) (D := D) (aC := aC) (ad := ad) x hd1 hF.1 y1 y2 hnX n81 hpn (by rw [hlx, c8]; decide) hde hd1
        rw [if_neg (by omega)] at this
        exact this
      · have := ok_Mo_step_X (l := l) (D := D) (aC := aC) (ad := ad) m mm.1 m1 m8 hF.1 z1 z2 (by omega) (by rw [hlm, c8]; decide)
        rw [if_pos ce] at this
        exact this
      · exact YN.same ⟨by rw [rIK (by simp)], by rw [rIA], by rw [rIA, rIA], by rw [rIA, rIA]⟩
      · rw [rIj (by decide), rIj (by decide)]; rfl
      · rw [rIK (by simp)]; exact congrFun sT.1 2
      · rw [rIA, rIA]; exact congrFun sT.2.2.1 1
    · obtain ⟨o1, ⟨o2, o3, o4⟩, o5, o6, o7, o8, o9⟩ := MN
      obtain ⟨B', k0, k1, k2, k3, kc⟩ : ∃ B' : aM, B' 0 0 = B 0 0 - 1 ∧ (∀ i, B' 1 i = B 1 i) ∧ (∀ i, B' 2 i = (au B 2 (B 0 0 - 1) (p + 1)) 2 i) ∧ (∀ i, B' 3 i = B 3 i) ∧ ∀ i j, B' (10 + i) j = (au B 2 (B 0 0 - 1) (p + 1)) (10 + i) j := by
        refine ⟨au (au B 2 (B 0 0 - 1) (p + 1)) 0 0 (B 0 0 - 1), by simp [au], fun i => by simp [au], fun i => by simp [au], fun i => by simp [au], fun i j => ?_⟩
        have q0 : ¬ (10 + i = 0) := by omega
        simp [au, q0]
      refine ⟨sI (npX (B 0 0) p x) (5, 0, 0) 4 (nI (B 0 0 - 1)), sI (npR (B 0 0) p m) (0, 0, 0) 25 (nI (B 0 0 - 1)), -1, fun l D aC ad => ?_, fun l D aC ad => ?_, kx_I k50 kx_np, km_I (by omega) km_np, ⟨t, ?_⟩, ?_, ?_, ?_, ?_, Or.inl rfl, fun _ => ⟨B', ?_, ?_⟩⟩
      · have := ok_Ma_step_X (l := l) (D := D) (aC := aC) (ad := ad) x hd1 hF.1 y1 y2 hnX n81 hpn (by rw [hlx, c8]; decide) hde hd1
        rw [if_pos (by omega)] at this
        exact this
      · have := ok_Mo_step_X (l := l) (D := D) (aC := aC) (ad := ad) m mm.1 m1 m8 hF.1 z1 z2 (by omega) (by rw [hlm, c8]; decide)
        rw [if_neg ce] at this
        exact this
      · exact YN.same ⟨by rw [rIK (by simp)], by rw [rIA], by rw [rIA], by rw [rIA]⟩
      · rw [rIj (by decide)]; exact hE
      · rw [rIj (by decide)]; rfl
      · rw [rIK (by simp)]; exact congrFun sT.1 2
      · rw [rIA]; exact congrFun sT.2.2.1 1
      · refine ⟨⟨?_, fun i hi => ?_⟩, ⟨?_, fun i hi => ?_, fun i hi => ?_⟩, by omega, by omega, by omega, fun i hi => ?_, fun i hi => ?_⟩
        · rw [k0, rI]
        · rw [k0] at hi
          have g := o1.2 i (by rw [hb0]; omega)
          rw [hb1, hb3] at g
          rw [k1, k2, k3, rIA, rIK (by simp)]
          simp only [kc]
          exact g
        · rw [k0, rI]
        · rw [k0] at hi
          have g := o3 i (by rw [hb0]; omega)
          rw [hb1, hb3] at g
          rw [k1, k2, k3, rIA]
          simp only [kc]
          exact g
        · rw [k0] at hi
          rw [k2, rIA]
          exact N24 i (by omega)
        · rw [k0] at hi
          have g := o8 i (by rw [hb0]; omega)
          unfold Fm at g ⊢
          rw [hb1, hb3] at g
          rw [k1, k3]
          simp only [kc]
          exact g
        · rw [k0] at hi
          have g := o9 i (by omega)
          unfold Wt at g ⊢
          rw [hb0, hb1, hb3] at g
          rw [k0, k1, k2, k3]
          exact ⟨g.1, g.2.1, g.2.2.1, fun z => g.2.2.2.1 (by omega), g.2.2.2.2.1, g.2.2.2.2.2⟩
      · have g := mW (B 0 0 - 1 - 1) (by omega)
        have e2 : (au B 2 (B 0 0 - 1) (p + 1)) 2 (B 0 0 - 1 - 1) = B 2 (B 0 0 - 1 - 1) := by
          have : ¬ (B 0 0 - 1 - 1 = B 0 0 - 1) := by omega
          simp [au, this]
        unfold Tp
        rw [k0, k1, k2, k3, e2]
        obtain ⟨w1, w2, w3, w4, w5, w6⟩ := g
        have hF2 := mF (B 0 0 - 1 - 1) (by omega)
        obtain ⟨-, -, -, u4⟩ := R.2.2.2 (B 1 (B 0 0 - 1 - 1)) hF2.1
        have tq := (u4.2.2.2.1 _ w2).1
        have hl1 := w4 (by omega)
        have nx := tq.2.2.2.1 w5 (Or.inr (Or.inl hl1))
        rw [show B 2 (B 0 0 - 1 - 1) - 1 + 1 = B 2 (B 0 0 - 1 - 1) by omega] at nx
        refine ⟨?_, Or.inl ⟨nx.1, by rw [nx.2]; exact w6⟩⟩
        rcases Nat.lt_or_ge (B 2 (B 0 0 - 1 - 1)) ((G (B 1 (B 0 0 - 1 - 1))) 0 0) with h | h
        · exact h
        · have e : B 2 (B 0 0 - 1 - 1) = (G (B 1 (B 0 0 - 1 - 1))) 0 0 := by omega
          have := u4.2.2.2.2.2.2.2.1
          rw [← e, nx.1] at this
          omega
