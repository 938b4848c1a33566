def kRx (K : tm_K) : Prop := K.1 = 8 ∨ K = (5, 0, 0) ∨ K = (5, 0, 3) ∨ K = (5, 0, 4)
def kxR (x0 x : tm_M) : Prop := ∀ K : tm_K, ¬ kRx K → x.1 K = x0.1 K ∧ x.2 K = x0.2 K
def kmR (m0 m : tm_M) : Prop := m.1 (0, 0, 0) 1 = m0.1 (0, 0, 0) 1 ∧ ∀ a, a < 23 → m.2 (0, 0, a) = m0.2 (0, 0, a)
theorem kx_r {x : tm_M} : kxR x x := fun _ _ => ⟨rfl, rfl⟩
theorem kx_I {x0 x : tm_M} {K : tm_K} {j : Nat} {v : Int32} (hK : kRx K) (H : kxR x0 x) : kxR x0 (sI x K j v) := by
  intro K' h
  have hne : K' ≠ K := fun z => h (by rw [z]; exact hK)
  simp only [sI, if_neg hne]
  exact H K' h
theorem kx_A {x0 x : tm_M} {K : tm_K} {j : Nat} {v : Int32} (hK : kRx K) (H : kxR x0 x) : kxR x0 (sA x K j v) := by
  intro K' h
  have hne : K' ≠ K := fun z => h (by rw [z]; exact hK)
  simp only [sA, if_neg hne]
  exact H K' h
theorem k8 {i a : Nat} : kRx (8, i, a) := Or.inl rfl
theorem k50 : kRx (5, 0, 0) := Or.inr (Or.inl rfl)
theorem k53 : kRx (5, 0, 3) := Or.inr (Or.inr (Or.inl rfl))
theorem k54 : kRx (5, 0, 4) := Or.inr (Or.inr (Or.inr rfl))
theorem km_r {x : tm_M} : kmR x x := ⟨rfl, fun _ _ => rfl⟩
theorem km_I {x0 x : tm_M} {j : Nat} {v : Int32} (hj : 1 ≠ j) (H : kmR x0 x) : kmR x0 (sI x (0, 0, 0) j v) := ⟨by rw [rIj hj]; exact H.1, H.2⟩
theorem km_A {x0 x : tm_M} {a j : Nat} {v : Int32} (ha : 23 ≤ a) (H : kmR x0 x) : kmR x0 (sA x (0, 0, a) j v) := ⟨H.1, fun b hb => by rw [rAK (by simp; omega)]; exact H.2 b hb⟩
theorem kx_t {a b c : tm_M} (h1 : kxR a b) (h2 : kxR b c) : kxR a c := fun K h => ⟨(h2 K h).1.trans (h1 K h).1, (h2 K h).2.trans (h1 K h).2⟩
theorem km_t {a b c : tm_M} (h1 : kmR a b) (h2 : kmR b c) : kmR a c := ⟨h2.1.trans h1.1, fun i hi => (h2.2 i hi).trans (h1.2 i hi)⟩
def Rs (x m : tm_M) (T : Nat) (Pa len : Nat → Nat) (S O : Nat → Nat → Nat) (G : Nat → aM) : Prop :=
  (1 ≤ T ∧ T ≤ 8 ∧ x.1 (5, 0, 1) 1 = nI T ∧ m.1 (0, 0, 0) 1 = nI T) ∧ (∀ k, k < T → Pa k ≤ k ∧ x.2 (5, 0, 2) k = hv (Pa k) ∧ m.2 (0, 0, 1) k = hv (Pa k)) ∧
  (∀ f, f < 6 → txX f (len f) (S f) (O f) x ∧ txM f (len f) (S f) (O f) m ∧ txO' T (len f) (S f) (O f)) ∧
  (∀ f, f < 6 → prR f T x m (G f))
def Ty (x m : tm_M) (t : Nat) : Prop := t ≤ 60 ∧ x.1 (5, 0, 3) 1 = nI t ∧ m.2 (0, 0, 28) 0 = nI t ∧ (∀ k, k < t → x.2 (5, 0, 4) k = m.2 (0, 0, 29) k) ∧ ∀ j, 1 ≤ j → j ≤ 5 → x.1 (5, 0, 3) (j + 1) = m.2 (0, 0, 28) j
theorem Rel'.s {x m : tm_M} {T : Nat} {Pa len : Nat → Nat} {S O : Nat → Nat → Nat} {G : Nat → aM} {t : Nat} (H : Rel' x m T Pa len S O G t) : Rs x m T Pa len S O G ∧ Ty x m t := ⟨⟨H.1, H.2.1, H.2.2.1, H.2.2.2.1⟩, H.2.2.2.2⟩
theorem Rs.rel {x m : tm_M} {T : Nat} {Pa len : Nat → Nat} {S O : Nat → Nat → Nat} {G : Nat → aM} {t : Nat} (H : Rs x m T Pa len S O G) (h : Ty x m t) : Rel' x m T Pa len S O G t := ⟨H.1, H.2.1, H.2.2.1, H.2.2.2, h⟩
theorem Rs.keep {x m x' m' : tm_M} {T : Nat} {Pa len : Nat → Nat} {S O : Nat → Nat → Nat} {G : Nat → aM} (H : Rs x m T Pa len S O G) (hx : kxR x x') (hm : kmR m m') : Rs x' m' T Pa len S O G := by
  obtain ⟨⟨a1, a2, a3, a4⟩, b, c, d⟩ := H
  have e1 := hx (5, 0, 1) (by unfold kRx; simp)
  have e2 := hx (5, 0, 2) (by unfold kRx; simp)
  have kX : ∀ a f b, a = 1 ∨ a = 6 → x'.1 (a, f, b) = x.1 (a, f, b) ∧ x'.2 (a, f, b) = x.2 (a, f, b) := fun a f b h => hx (a, f, b) (by unfold kRx; rcases h with h | h <;> (subst h; simp))
  refine ⟨⟨a1, a2, by rw [e1.1]; exact a3, by rw [hm.1]; exact a4⟩, fun k hk => ?_, fun f hf => ?_, fun f hf => ?_⟩
  · rw [e2.2, hm.2 1 (by omega)]; exact b k hk
  · obtain ⟨c1, c2, c3⟩ := c f hf
    refine ⟨?_, ?_, c3⟩
    · unfold txX at c1 ⊢
      rw [(kX 1 f 0 (Or.inl rfl)).1, (kX 1 f 1 (Or.inl rfl)).2, (kX 1 f 2 (Or.inl rfl)).2]
      exact c1
    · unfold txM at c2 ⊢
      rw [hm.2 2 (by omega), hm.2 3 (by omega), hm.2 4 (by omega)]
      exact c2
  · obtain ⟨d1, d2, d3, d4⟩ := d f hf
    refine ⟨?_, ?_, ?_, d4⟩
    · unfold CXp at d1 ⊢
      rw [(kX 6 f 0 (Or.inr rfl)).1, (kX 6 f 1 (Or.inr rfl)).2, (kX 6 f 2 (Or.inr rfl)).2, (kX 6 f 3 (Or.inr rfl)).2, (kX 6 f 4 (Or.inr rfl)).2, (kX 6 f 5 (Or.inr rfl)).2, (kX 6 f 6 (Or.inr rfl)).2, (kX 6 f 7 (Or.inr rfl)).2, (kX 6 f 8 (Or.inr rfl)).2]
      exact d1
    · unfold CMp at d2 ⊢
      rw [hm.2 5 (by omega), hm.2 6 (by omega), hm.2 7 (by omega), hm.2 8 (by omega), hm.2 9 (by omega), hm.2 10 (by omega), hm.2 11 (by omega), hm.2 12 (by omega)]
      exact d2
    · unfold CMs at d3 ⊢
      rw [hm.2 13 (by omega), hm.2 14 (by omega), hm.2 15 (by omega), hm.2 16 (by omega)]
      exact d3
def RX (x : tm_M) (B : aM) : Prop := x.1 (5, 0, 0) 4 = nI (B 0 0) ∧ ∀ i, i < B 0 0 → x.1 (8, i, 0) 0 = nI (B 1 i) ∧ x.1 (8, i, 0) 1 = nI (B 2 i) ∧ x.1 (8, i, 0) 3 = nI (B 3 i) ∧ ∀ j, j < B 3 i → x.2 (8, i, 1) j = nI (B (10 + i) j)
def RMm (m : tm_M) (B : aM) (e : Nat) : Prop := m.1 (0, 0, 0) 25 = nI (B 0 0) ∧ (∀ i, i < B 0 0 → m.2 (0, 0, 23) i = nI (B 1 i) ∧ m.2 (0, 0, 25) i = nI (B 2 i) ∧ m.2 (0, 0, 26) i = nI (B 3 i) ∧ ∀ j, j < B 3 i → m.2 (0, 0, 27) (24 * i + j) = nI (B (10 + i) j)) ∧ ∀ i, i < e → m.2 (0, 0, 24) i = nI (B 2 i - 1)
def Fm (T : Nat) (B : aM) (i : Nat) : Prop := B 1 i < 6 ∧ B 3 i ≤ 5 ∧ ∀ j, j < B 3 i → B (10 + i) j < T
def Wt (G : Nat → aM) (B : aM) (i : Nat) : Prop := 1 ≤ B 2 i ∧ B 2 i - 1 < (G (B 1 i)) 0 0 ∧ ((G (B 1 i)) 1 (B 2 i - 1) = 1 ∨ (G (B 1 i)) 1 (B 2 i - 1) = 2 ∨ (G (B 1 i)) 1 (B 2 i - 1) = 3) ∧ (i + 1 < B 0 0 → (G (B 1 i)) 1 (B 2 i - 1) = 1) ∧ (G (B 1 i)) 6 (B 2 i - 1) = 0 ∧ B 3 i = (G (B 1 i)) 5 (B 2 i - 1)
def Hw (G : Nat → aM) (B : aM) (i : Nat) : Nat := (G (B 1 i)) 3 (B 2 i - 1)
def MB (x m : tm_M) (T : Nat) (G : Nat → aM) (B : aM) (e : Nat) : Prop := RX x B ∧ RMm m B e ∧ 1 ≤ B 0 0 ∧ B 0 0 ≤ 8 ∧ e ≤ B 0 0 ∧ (∀ i, i < B 0 0 → Fm T B i) ∧ ∀ i, i < e → Wt G B i
def Rg (x m : tm_M) (T : Nat) (B : aM) : Prop := B 0 1 < T ∧ 1 ≤ B 0 2 ∧ B 0 2 ≤ 8 ∧ B 0 3 < 100 ∧ x.1 (5, 0, 0) 5 = nI (B 0 1) ∧ x.1 (5, 0, 0) 6 = nI (B 0 2) ∧ x.1 (5, 0, 0) 7 = nI (B 0 3) ∧ m.1 (0, 0, 0) 31 = nI (B 0 1) ∧ m.1 (0, 0, 0) 32 = nI (B 0 2 - 1) ∧ m.1 (0, 0, 0) 33 = nI (B 0 3)
def HV (G : Nat → aM) (B : aM) (d h : Nat) : Prop := 1 ≤ B 0 2 ∧ B 0 2 ≤ d ∧ (G (B 1 (B 0 2 - 1))) 7 (B 0 3) ≠ 0 ∧ B 0 3 < (G (B 1 (B 0 2 - 1))) 0 1 ∧ ∃ r, rcA (G (B 1 (B 0 2 - 1))) r (if B 0 2 = d then h else Hw G B (B 0 2 - 1)) (B 0 3)
theorem fnM_eq {x : tm_M} {B : aM} {T i : Nat} (H : RX x B) (hi : i < B 0 0) (hF : Fm T B i) : fnM x i = B 1 i := by
  unfold fnM; rw [(H.2 i hi).1, nI_clamp (by have := hF.1; omega)]
theorem fnR_eq {m : tm_M} {B : aM} {T i e : Nat} (H : RMm m B e) (hi : i < B 0 0) (hF : Fm T B i) : fnR m i = B 1 i := by
  unfold fnR; rw [(H.2.1 i hi).1, nI_clamp (by have := hF.1; omega)]
theorem Hw_ok {x m : tm_M} {T : Nat} {Pa len : Nat → Nat} {S O : Nat → Nat → Nat} {G : Nat → aM} {B : aM} {e i : Nat} (R : Rs x m T Pa len S O G) (M : MB x m T G B e) (hi : i < e) : hdM x i = hv (Hw G B i) ∧ hdR m i = hv (Hw G B i) ∧ Hw G B i ≤ (G (B 1 i)) 0 1 ∧ (Hw G B i ≠ 0 → B 3 i = (G (B 1 i)) 10 (Hw G B i - 1)) := by
  obtain ⟨mx, mm, m1, m8, me, mF, mW⟩ := M
  have hF := mF i (by omega)
  obtain ⟨w1, w2, w3, w4, w5, w6⟩ := mW i hi
  obtain ⟨p1, p2, p3, p4⟩ := R.2.2.2 (B 1 i) hF.1
  obtain ⟨y1, y2, y3, y4⟩ := mx.2 i (by omega)
  have hq := p4.2.2.1
  have tp := (p4.2.2.2.1 _ w2).1
  have h3 := tp.2.2.2.2.2.2.2.2.2.2.1 w3
  refine ⟨?_, ?_, ?_, ?_⟩
  · unfold hdM
    rw [fnM_eq mx (by omega) hF, y2, p1.2.2.1, nI_clamp (by omega)]
    have e1 : nI (B 2 i) - 1 = nI (B 2 i - 1) := by
      rw [← nI_pred (B 2 i - 1), show B 2 i - 1 + 1 = B 2 i by omega]
    rw [e1]
    exact (head_at p4 w2 w3 p1.2.2.2.2.2).1
  · unfold hdR
    rw [fnR_eq mm (by omega) hF, mm.2.2 i hi, p3.1, nI_clamp (by omega)]
    exact (head_at p4 w2 w3 p3.2).2
  · unfold Hw; omega
  · intro z
    unfold Hw at z ⊢
    rcases h3 with h3 | h3
    · exact absurd h3 z
    · rw [h3.2]; exact w6
theorem uw_both {x m : tm_M} {T : Nat} {Pa len : Nat → Nat} {S O : Nat → Nat → Nat} {G : Nat → aM} {B : aM} {e : Nat} (R : Rs x m T Pa len S O G) (M : MB x m T G B e) (Q : Rg x m T B) : ∀ d h, 1 ≤ d → d ≤ B 0 0 → d ≤ e + 1 → h ≤ (G (B 1 (d - 1))) 0 1 → (h ≠ 0 → B 3 (d - 1) = (G (B 1 (d - 1))) 10 (h - 1)) → HV G B d h →
    ∃ d2 k2, uwM x d (lnM x d (hv h)) = (d2, nI k2) ∧ umR m d (lmG m d 40 (hv h)) = (d2, nI k2) ∧ 1 ≤ d2 ∧ d2 ≤ d ∧ k2 < (G (B 1 (d2 - 1))) 0 1 ∧ ((G (B 1 (d2 - 1))) 7 k2 = 0 ∨ (d2 = B 0 2 ∧ k2 = B 0 3)) ∧ B 3 (d2 - 1) = (G (B 1 (d2 - 1))) 10 k2 ∧ ((G (B 1 (d2 - 1))) 7 k2 = 0 → HV G B d2 ((G (B 1 (d2 - 1))) 9 k2))
  | 0, h, h1, _, _, _, _, _ => by omega
  | d + 1, h, h1, h2, hde, hh, hcc, V => by
    have M' := M
    obtain ⟨mx, mm, m1, m8, me, mF, mW⟩ := M'
    obtain ⟨q1, q2, q3, q4, q5, q6, q7, q8, q9, q10⟩ := Q
    have hF := mF d (by omega)
    obtain ⟨p1, p2, p3, p4⟩ := R.2.2.2 (B 1 d) hF.1
    simp only [Nat.add_sub_cancel] at hh hcc
    have a40 := p4.2.1
    have hl : lnM x (d + 1) (hv h) = hv (lnA (G (B 1 d)) (B 0 2) (B 0 3) (d + 1) 40 h) := by
      unfold lnM
      simp only [Nat.add_sub_cancel]
      rw [fnM_eq mx (by omega) hF]
      exact ln_CX p4 R.1.2.1 p1.2.1 (by omega) q3 q6 q7 (by omega) (fun k hk => ⟨(p1.2.2.2.2.1 k hk).1, (p1.2.2.2.2.1 k hk).2.2⟩) 40 h hh
    have hl2 : lmG m (d + 1) 40 (hv h) = hv (lnA (G (B 1 d)) (B 0 2) (B 0 3) (d + 1) 40 h) := by
      unfold lmG
      simp only [Nat.add_sub_cancel]
      have e9 : m.1 (0, 0, 0) 32 + 1 = nI (B 0 2) := by rw [q9, nI_1, show B 0 2 - 1 + 1 = B 0 2 by omega]
      have ea : acR m d = (G (B 1 d)) 0 1 := by unfold acR; rw [fnR_eq mm (by omega) hF, p2.2.1, nI_clamp (by omega)]
      rw [ea]
      exact ln_CX p4 R.1.2.1 rfl (by omega) q3 e9 q10 (by omega) (fun k hk => by unfold fiR neR; rw [fnR_eq mm (by omega) hF]; exact ⟨(p2.2.2.2 k hk).1, (p2.2.2.2 k hk).2.2⟩) 40 h hh
    rw [hl, hl2]
    rcases ln_spec (hd := B 0 2) (ha := B 0 3) (d := d + 1) p4 40 h hh with z | ⟨z1, z2, z3, z4, z5⟩
    · rw [z, hv_0]
      obtain ⟨v1, v2, v3, v4, r, v5⟩ := V
      have hne : ¬ B 0 2 = d + 1 := fun w => by
        rw [if_pos w] at v5
        rw [w] at v3 v4 v5
        simp only [Nat.add_sub_cancel] at v3 v4 v5
        have := (ln_reach (hd := d + 1) p4 v3 r h 40 hh v5 (fun y => by have := (p4.2.2.2.2.1 (h - 1) (by omega)).1.2.2.2.2.2.1; omega)).1
        rw [w] at z
        exact this z
      have hd0 : 0 < d := by omega
      have hd : d - 1 + 1 = d := by omega
      unfold uwM umR
      rw [if_pos ⟨rfl, hd0⟩, if_pos ⟨rfl, hd0⟩]
      obtain ⟨w1, w2, w3, w4⟩ := Hw_ok R M (i := d - 1) (by omega)
      rw [w1, w2]
      have V' : HV G B d (Hw G B (d - 1)) := by
        refine ⟨v1, by omega, v3, v4, r, ?_⟩
        rw [if_neg hne] at v5
        by_cases c : B 0 2 = d
        · rw [if_pos c, ← c]; exact v5
        · rw [if_neg c]; exact v5
      obtain ⟨d2, k2, i1, i2, i3, i4, i5, i6, i7, i8⟩ := uw_both R M ⟨q1, q2, q3, q4, q5, q6, q7, q8, q9, q10⟩ d (Hw G B (d - 1)) hd0 (by omega) (by omega) w3 w4 V'
      exact ⟨d2, k2, i1, i2, i3, by omega, i5, i6, i7, i8⟩
    · have hk : hv (lnA (G (B 1 d)) (B 0 2) (B 0 3) (d + 1) 40 h) = nI (lnA (G (B 1 d)) (B 0 2) (B 0 3) (d + 1) 40 h - 1) := hv_P z1
      have hm1 : ¬ nI (lnA (G (B 1 d)) (B 0 2) (B 0 3) (d + 1) 40 h - 1) = -1 := nI_m1 (by omega)
      refine ⟨d + 1, lnA (G (B 1 d)) (B 0 2) (B 0 3) (d + 1) 40 h - 1, ?_, ?_, h1, Nat.le_refl _, ?_, ?_, ?_, ?_⟩
      · rw [hk]; unfold uwM; rw [if_neg (fun w => hm1 w.1)]
      · rw [hk]; unfold umR; rw [if_neg (fun w => hm1 w.1)]
      · simp only [Nat.add_sub_cancel]; omega
      · simp only [Nat.add_sub_cancel]; exact z3
      · simp only [Nat.add_sub_cancel]; rw [z5]; exact hcc z4
      · simp only [Nat.add_sub_cancel]
        intro w
        obtain ⟨v1, v2, v3, v4, r, v5⟩ := V
        by_cases c : B 0 2 = d + 1
        · rw [if_pos c] at v5
          refine ⟨v1, v2, v3, v4, ?_⟩
          rw [if_pos c]
          rw [c] at v3 v5 w ⊢
          simp only [Nat.add_sub_cancel] at v3 v5 ⊢
          exact (ln_reach (hd := d + 1) p4 v3 r h 40 hh v5 (fun y => by have := (p4.2.2.2.2.1 (h - 1) (by omega)).1.2.2.2.2.2.1; omega)).2 w
        · rw [if_neg c] at v5
          refine ⟨v1, v2, v3, v4, r, ?_⟩
          rw [if_neg c]; exact v5
