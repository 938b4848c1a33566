theorem Tp.other {x m x' m' : tm_M} {T : Nat} {G : Nat → aM} {B : aM} (P : Tp x m T G B) (h1 : x'.1 (5, 0, 0) = x.1 (5, 0, 0)) (h2 : m'.1 (0, 0, 0) = m.1 (0, 0, 0)) : Tp x' m' T G B := by
  unfold Tp Rg at P ⊢
  rw [h1, h2]
  exact P
def Inv (T : Nat) (Pa len : Nat → Nat) (S O : Nat → Nat → Nat) (G : Nat → aM) (j : Nat) (x m : tm_M) : Prop :=
  Rs x m T Pa len S O G ∧ (∃ t, Ty x m t) ∧ (∃ B : aM, MB x m T G B (B 0 0 - 1) ∧ Tp x m T G B) ∧ m.1 (0, 0, 0) 35 = -1 ∧ x.1 (5, 0, 3) 2 = nI j
def SeqR (T : Nat) (Pa len : Nat → Nat) (S O : Nat → Nat → Nat) (G : Nat → aM) (k j : Nat) (x m : tm_M) (N : Nat) (r : Int32) (X M : Nat → tm_M) (dp : Nat → Nat) : Prop :=
  1 ≤ N ∧ N ≤ k ∧ X 0 = x ∧ M 0 = m ∧ (∀ i, i ≤ N → (X i).1 (5, 0, 3) 2 = nI (j + i) ∧ (M i).2 (0, 0, 28) 1 = nI (j + i)) ∧ (∀ i, i < N → (M i).1 (0, 0, 0) 35 = -1) ∧ (∀ i, i < N → (X i).1 (5, 0, 0) 4 = nI (dp i) ∧ 0 < dp i ∧ dp i ≤ 8) ∧
  (∀ i, i < N → ∀ (l : Launch) (D : va_G) (aC : Nat → ClassId) (ad : Nat → Nat), OkX l y_Ma_step b_Ma_step 5 (some .int) (rom 5 117) D aC ad [.ref (ad 34), .ref (ad (frO (dp i - 1)))] (sI (X i) (5, 0, 3) 2 (nI (j + i + 1))) (some (.int (if i + 1 = N then r else -1))) (X (i + 1))) ∧
  (∀ i, i < N → ∀ (l : Launch) (D : va_G) (aC : Nat → ClassId) (ad : Nat → Nat), OkM l y_Mo_step b_Mo_step 4 none (rom 3 71) D aC ad [.ref (ad 0)] (sA (M i) (0, 0, 28) 1 (nI (j + i + 1))) none (M (i + 1))) ∧
  (M N).1 (0, 0, 0) 35 = r ∧ (M N).1 (0, 0, 0) 0 = m.1 (0, 0, 0) 0 ∧ Rs (X N) (M N) T Pa len S O G ∧ (∃ t, Ty (X N) (M N) t) ∧ (r = -1 ∨ 0 ≤ r) ∧ (r = -1 → N = k)
theorem run_seq {T : Nat} {Pa len : Nat → Nat} {S O : Nat → Nat → Nat} {G : Nat → aM} : ∀ (k j : Nat) (x m : tm_M), 0 < k → Inv T Pa len S O G j x m → ∃ N r X M dp, SeqR T Pa len S O G k j x m N r X M dp
  | 0, _, _, _, h, _ => by omega
  | k + 1, j, x, m, _, H => by
    obtain ⟨R, ⟨t, Y⟩, ⟨B, MBx, P⟩, hE, hj⟩ := H
    have hjm : m.2 (0, 0, 28) 1 = nI j := by rw [← Y.2.2.2.2 1 (by omega) (by omega)]; exact hj
    have R1 := R.keep (kx_I (j := 2) (v := nI (j + 1)) k53 kx_r) (km_A (a := 28) (j := 1) (v := nI (j + 1)) (by omega) km_r)
    have Y1 : Ty (sI x (5, 0, 3) 2 (nI (j + 1))) (sA m (0, 0, 28) 1 (nI (j + 1))) t := by
      obtain ⟨t1, t2, t3, t4, t5⟩ := Y
      refine ⟨t1, by rw [rIj (by decide)]; exact t2, by rw [rAi (by decide)]; exact t3, fun k hk => ?_, fun i h1 h2 => ?_⟩
      · rw [rIA, rAK (by simp)]; exact t4 k hk
      · by_cases c : i = 1
        · subst c; rw [rI, rA]
        · rw [rIj (by omega), rAi c]; exact t5 i h1 h2
    have M1 : MB (sI x (5, 0, 3) 2 (nI (j + 1))) (sA m (0, 0, 28) 1 (nI (j + 1))) T G B (B 0 0 - 1) := by
      refine MBx.other ?_ (fun i => ⟨?_, ?_⟩) rfl (fun a h1 h2 => ?_)
      · rw [rIK (by simp)]
      · rw [rIK (by simp)]
      · rw [rIA]
      · rw [rAK (by simp; omega)]
    have P1 : Tp (sI x (5, 0, 3) 2 (nI (j + 1))) (sA m (0, 0, 28) 1 (nI (j + 1))) T G B := P.other (by rw [rIK (by simp)]) rfl
    obtain ⟨x', m', r', s1, s2, s3, s4, s5, s6, s7, s8, s9, s10, s11⟩ := step_ok R1 Y1 M1 P1 hE
    have R2 := R1.keep s3 s4
    rw [rI] at s8
    rw [rA] at s9
    have hdx := MBx.1.1
    have hd1 := MBx.2.2.1
    have hd8 := MBx.2.2.2.1
    by_cases c : r' = -1 ∧ 0 < k
    · obtain ⟨N, r, X, M, dp, i1, i2, i3, i4, i5, i6, i7, i8, i9, i10, i11, i12, i13, i14, i15⟩ := run_seq k (j + 1) x' m' c.2 ⟨R2, s5, s11 c.1, by rw [s6]; exact c.1, s8⟩
      refine ⟨N + 1, r, fun i => if i = 0 then x else X (i - 1), fun i => if i = 0 then m else M (i - 1), fun i => if i = 0 then B 0 0 else dp (i - 1), by omega, by omega, rfl, rfl, fun i hi => ?_, fun i hi => ?_, fun i hi => ?_, fun i hi l D aC ad => ?_, fun i hi l D aC ad => ?_, ?_, ?_, ?_, ?_, i14, fun z => by have := i15 z; omega⟩
      · by_cases ci : i = 0
        · subst ci; simp only [if_true, Nat.add_zero]; exact ⟨hj, hjm⟩
        · simp only [if_neg ci]
          have := i5 (i - 1) (by omega)
          rw [show j + 1 + (i - 1) = j + i by omega] at this
          exact this
      · by_cases ci : i = 0
        · subst ci; simp only [if_true]; exact hE
        · simp only [if_neg ci]; exact i6 (i - 1) (by omega)
      · by_cases ci : i = 0
        · subst ci; simp only [if_true]; exact ⟨hdx, hd1, hd8⟩
        · simp only [if_neg ci]; exact i7 (i - 1) (by omega)
      · by_cases ci : i = 0
        · subst ci
          simp only [if_true, Nat.add_zero, Nat.zero_add]
          rw [if_neg (by omega), if_neg (by decide), Nat.sub_self, i3, ← c.1]
          exact s1 l D aC ad
        · simp only [if_neg ci, if_neg (Nat.succ_ne_zero i), Nat.add_sub_cancel]
          have := i8 (i - 1) (by omega) l D aC ad
          rw [show j + 1 + (i - 1) + 1 = j + i + 1 by omega, show i - 1 + 1 = i by omega] at this
          have e : (if i = N then r else (-1 : Int32)) = if i + 1 = N + 1 then r else -1 := by
            by_cases ce : i = N
            · rw [if_pos ce, if_pos (by omega)]
            · rw [if_neg ce, if_neg (by omega)]
          rw [e] at this
          exact this
      · by_cases ci : i = 0
        · subst ci
          simp only [if_true, Nat.add_zero, Nat.zero_add]
          rw [if_neg (by decide), Nat.sub_self, i4]
          exact s2 l D aC ad
        · simp only [if_neg ci, if_neg (Nat.succ_ne_zero i), Nat.add_sub_cancel]
          have := i9 (i - 1) (by omega) l D aC ad
          rw [show j + 1 + (i - 1) + 1 = j + i + 1 by omega, show i - 1 + 1 = i by omega] at this
          exact this
      · simp only [if_neg (Nat.succ_ne_zero N), Nat.add_sub_cancel]; exact i10
      · simp only [if_neg (Nat.succ_ne_zero N), Nat.add_sub_cancel]; rw [i11, s7]; rfl
      · simp only [if_neg (Nat.succ_ne_zero N), Nat.add_sub_cancel]; exact i12
      · simp only [if_neg (Nat.succ_ne_zero N), Nat.add_sub_cancel]; exact i13
    · refine ⟨1, r', fun i => if i = 0 then x else x', fun i => if i = 0 then m else m', fun _ => B 0 0, by omega, by omega, rfl, rfl, fun i hi => ?_, fun i hi => ?_, fun i hi => ?_, fun i hi l D aC ad => ?_, fun i hi l D aC ad => ?_, s6, by simp only [if_neg (show ¬ (1 = 0) by decide)]; rw [s7]; rfl, R2, s5, s10, fun z => ?_⟩
      · by_cases ci : i = 0
        · subst ci; simp only [if_true, Nat.add_zero]; exact ⟨hj, hjm⟩
        · obtain rfl : i = 1 := by omega
          exact ⟨s8, s9⟩
      · obtain rfl : i = 0 := by omega
        exact hE
      · obtain rfl : i = 0 := by omega
        exact ⟨hdx, hd1, hd8⟩
      · obtain rfl : i = 0 := by omega
        exact s1 l D aC ad
      · obtain rfl : i = 0 := by omega
        exact s2 l D aC ad
      · apply Classical.byContradiction
        intro w
        exact c ⟨z, by omega⟩
theorem run_ok {x m : tm_M} {T : Nat} {Pa len : Nat → Nat} {S O : Nat → Nat → Nat} {G : Nat → aM} {t f : Nat} (H : Rel' x m T Pa len S O G t) (hf : f < 6) (hn : 0 < (G f) 0 0) :
    ∃ (x' m' : tm_M) (r : Int32), (∀ (l : Launch) (D : va_G) (aC : Nat → ClassId) (ad : Nat → Nat), OkX l y_Lp_run b_Lp_run 2 (some .int) (rom 7 163) D aC ad [.ref (ad 0), .int (nI f)] x (some (.int r)) x') ∧ (∀ (l : Launch) (D : va_G) (aC : Nat → ClassId) (ad : Nat → Nat), OkM l y_Mo_run b_Mo_run 4 (some .int) (rom 4 94) D aC ad [.ref (ad 0), .int (nI f)] m (some (.int r)) m') ∧ m'.1 (0, 0, 0) 0 = 0 ∧ ∃ t', Rel' x' m' T Pa len S O G t' := by
  obtain ⟨R, Y⟩ := H.s
  obtain ⟨p1, p2, p3, p4⟩ := R.2.2.2 f hf
  have n81 := p4.1
  have hposX : 0 < x.1 (6, f, 0) 2 := by rw [p1.1]; exact nI_lt (a := 0) (by omega) (by omega)
  have hposM : ¬ m.2 (0, 0, 5) f = 0 := by rw [p2.1]; exact nI_ne0 (by omega) (by omega)
  generalize hx0 : (sI (sI (sI (sI (sI (sI (sI x (5, 0, 3) 1 0) (5, 0, 3) 2 0) (5, 0, 3) 3 0) (5, 0, 3) 4 0) (5, 0, 3) 5 0) (5, 0, 3) 6 (-1)) (5, 0, 0) 4 0) = x0
  generalize hm0 : (sI (sI (sA (sA (sA (sA (sA (sA (sI m (0, 0, 0) 0 0) (0, 0, 28) 0 0) (0, 0, 28) 1 0) (0, 0, 28) 2 0) (0, 0, 28) 3 0) (0, 0, 28) 4 0) (0, 0, 28) 5 (-1)) (0, 0, 0) 25 0) (0, 0, 0) 35 (-1)) = m0
  have kx0 : kxR x x0 := by rw [← hx0]; exact kx_I k50 (kx_I k53 (kx_I k53 (kx_I k53 (kx_I k53 (kx_I k53 (kx_I k53 kx_r))))))
  have km0 : kmR m m0 := by rw [← hm0]; exact km_I (by omega) (km_I (by omega) (km_A (by omega) (km_A (by omega) (km_A (by omega) (km_A (by omega) (km_A (by omega) (km_A (by omega) (km_I (by omega) km_r))))))))
  have hx3 : ∀ j, 1 ≤ j → j ≤ 6 → x0.1 (5, 0, 3) j = if j = 6 then -1 else 0 := fun j h1 h2 => by
    rw [← hx0]
    have : j = 1 ∨ j = 2 ∨ j = 3 ∨ j = 4 ∨ j = 5 ∨ j = 6 := by omega
    rcases this with h | h | h | h | h | h <;> (subst h; simp only [sI]; simp [upd])
  have hm3 : ∀ j, j ≤ 5 → m0.2 (0, 0, 28) j = if j = 5 then -1 else 0 := fun j h2 => by
    rw [← hm0]
    have : j = 0 ∨ j = 1 ∨ j = 2 ∨ j = 3 ∨ j = 4 ∨ j = 5 := by omega
    rcases this with h | h | h | h | h | h <;> (subst h; simp only [sI, sA]; simp [upd])
  have hx4 : x0.1 (5, 0, 0) 4 = nI 0 := by rw [← hx0, rI]; rfl
  have hm25 : m0.1 (0, 0, 0) 25 = nI 0 := by rw [← hm0, rIj (by decide), rI]; rfl
  have hm35 : m0.1 (0, 0, 0) 35 = -1 := by rw [← hm0, rI]
  have hm00 : m0.1 (0, 0, 0) 0 = 0 := by
    rw [← hm0, rIj (by decide), rIj (by decide), rAI, rAI, rAI, rAI, rAI, rAI, rI]
  have R0 := R.keep kx0 km0
  obtain ⟨g1, g2, g3, g4⟩ := R0.2.2.2 f hf
  have hx5 : x0.1 (5, 0, 3) 5 = 0 := by rw [hx3 5 (by omega) (by omega)]; rfl
  have hm5 : m0.2 (0, 0, 28) 4 = 0 := by rw [hm3 4 (by omega)]; rfl
  have hen : enM 0 f m0 = sA (sI (sA (sA (sA (sA m0 (0, 0, 23) 0 (nI f)) (0, 0, 24) 0 0) (0, 0, 25) 0 0) (0, 0, 26) 0 0) (0, 0, 0) 25 (nI 1)) (0, 0, 28) 4 (nI 1) := by
    unfold enM
    rw [if_neg (by rw [hm5]; decide)]
  generalize hx1 : sI (sI (sI (sI (sI x0 (8, 0, 0) 0 (nI f)) (8, 0, 0) 1 0) (8, 0, 0) 3 0) (5, 0, 0) 4 (nI 1)) (5, 0, 3) 5 (nI 1) = x1
  have hE : ∀ (l : Launch) (D : va_G) (aC : Nat → ClassId) (ad : Nat → Nat), OkX l y_Ma_enter b_Ma_enter 2 (some .int) (rom 1 26) D aC ad [.ref (ad 34), .int (nI f)] x0 (some (.int (-1))) x1 := fun l D aC ad => by
    have := ok_Ma_enter (l := l) (D := D) (aC := aC) (ad := ad) hf x0 (by rw [g1.1]; exact nI_lt (a := 0) (by omega) (by omega)) hx4 (by omega)
    rw [hx5, if_pos (by decide)] at this
    rw [hx1] at this
    exact this
  generalize hm1 : enM 0 f m0 = m1 at *
  have kx1 : kxR x0 x1 := by rw [← hx1]; exact kx_I k53 (kx_I k50 (kx_I k8 (kx_I k8 (kx_I k8 kx_r))))
  have km1 : kmR m0 m1 := by rw [hen]; exact km_A (by omega) (km_I (by omega) (km_A (by omega) (km_A (by omega) (km_A (by omega) (km_A (by omega) km_r)))))
  have hI : Inv T Pa len S O G 0 x1 m1 := by
    refine ⟨R0.keep kx1 km1, ⟨0, ?_⟩, ⟨au (au (fun _ _ => 0) 0 0 1) 1 0 f, ?_, ?_⟩, ?_, ?_⟩
    · refine ⟨by omega, ?_, ?_, fun k hk => by omega, fun j h1 h2 => ?_⟩
      · rw [← hx1, rIj (by decide), rIK (by simp), rIK (by simp), rIK (by simp), rIK (by simp), hx3 1 (by omega) (by omega)]; rfl
      · rw [hen, rAi (by decide), rIA, rAK (by simp), rAK (by simp), rAK (by simp), rAK (by simp), hm3 0 (by omega)]; rfl
      · by_cases c : j = 4
        · subst c; rw [← hx1, hen, rI, rA]
        · rw [← hx1, hen, rIj (by omega), rIK (by simp), rIK (by simp), rIK (by simp), rIK (by simp), rAi c, rIA, rAK (by simp), rAK (by simp), rAK (by simp), rAK (by simp), hx3 (j + 1) (by omega) (by omega), hm3 j h2]
          by_cases c5 : j = 5
          · subst c5; rfl
          · rw [if_neg (by omega), if_neg c5]
    · have b0 : (au (au (fun _ _ => 0) 0 0 1) 1 0 f) 0 0 = 1 := by simp [au]
      have b1 : (au (au (fun _ _ => 0) 0 0 1) 1 0 f) 1 0 = f := by simp [au]
      have b2 : (au (au (fun _ _ => 0) 0 0 1) 1 0 f) 2 0 = 0 := by simp [au]
      have b3 : (au (au (fun _ _ => 0) 0 0 1) 1 0 f) 3 0 = 0 := by simp [au]
      refine ⟨⟨?_, fun i hi => ?_⟩, ⟨?_, fun i hi => ?_, fun i hi => ?_⟩, by omega, by omega, by omega, fun i hi => ?_, fun i hi => ?_⟩
      · rw [b0, ← hx1, rIK (by simp), rI]
      · rw [b0] at hi
        obtain rfl : i = 0 := by omega
        rw [b1, b2, b3]
        refine ⟨?_, ?_, ?_, fun j hj => absurd hj (Nat.not_lt_zero _)⟩
        · rw [← hx1, rIK (by simp), rIK (by simp), rIj (by decide), rIj (by decide), rI]
        · rw [← hx1, rIK (by simp), rIK (by simp), rIj (by decide), rI]; rfl
        · rw [← hx1, rIK (by simp), rIK (by simp), rI]; rfl
      · rw [b0, hen, rAI, rI]
      · rw [b0] at hi
        obtain rfl : i = 0 := by omega
        rw [b1, b2, b3]
        refine ⟨?_, ?_, ?_, fun j hj => absurd hj (Nat.not_lt_zero _)⟩
        · rw [hen, rAK (by simp), rIA, rAK (by simp), rAK (by simp), rAK (by simp), rA]
        · rw [hen, rAK (by simp), rIA, rAK (by simp), rA]; rfl
        · rw [hen, rAK (by simp), rIA, rA]; rfl
      · rw [b0] at hi; omega
      · rw [b0] at hi
        obtain rfl : i = 0 := by omega
        unfold Fm
        rw [b1, b3]
        exact ⟨hf, by omega, fun j hj => absurd hj (Nat.not_lt_zero _)⟩
      · rw [b0] at hi; omega
    · have b0 : (au (au (fun _ _ => 0) 0 0 1) 1 0 f) 0 0 = 1 := by simp [au]
      have b1 : (au (au (fun _ _ => 0) 0 0 1) 1 0 f) 1 0 = f := by simp [au]
      have b2 : (au (au (fun _ _ => 0) 0 0 1) 1 0 f) 2 0 = 0 := by simp [au]
      have b3 : (au (au (fun _ _ => 0) 0 0 1) 1 0 f) 3 0 = 0 := by simp [au]
      unfold Tp
      rw [b0, Nat.sub_self, b1, b2, b3]
      have ent := p4.2.2.2.2.2.2.1 hn
      exact ⟨hn, Or.inl ⟨ent.1, ent.2.symm⟩⟩
    · rw [hen, rAI, rIj (by decide), rAI, rAI, rAI, rAI]; exact hm35
    · rw [← hx1, rIj (by decide), rIK (by simp), rIK (by simp), rIK (by simp), rIK (by simp), hx3 2 (by omega) (by omega)]; rfl
  have hm10 : m1.1 (0, 0, 0) 0 = 0 := by rw [hen, rAI, rIj (by decide), rAI, rAI, rAI, rAI]; exact hm00
  obtain ⟨N, r, X, M, dp, i1, i2, i3, i4, i5, i6, i7, i8, i9, i10, i11, i12, ⟨t', i13⟩, i14, i15⟩ := run_seq 300 0 x1 m1 (by omega) hI
  have hrr : (if r = -1 then (3 : Int32) else r) = if r < 0 then 3 else r := by
    by_cases c : r = -1
    · subst c; decide
    · have h0 := i14.resolve_left c
      rw [if_neg c, if_neg (Int32.not_lt.mpr h0)]
  refine ⟨X N, if r < 0 then sI (M N) (0, 0, 0) 35 3 else M N, if r = -1 then 3 else r, fun l D aC ad => ?_, fun l D aC ad => ?_, ?_, t', ?_⟩
  · refine ok_Lp_run hf x hposX ?_
    refine ok_Ma_execute x X dp (by rw [hx0, i3]; exact hE l D aC ad) (by omega) (by omega) (fun j hj => by have := (i5 j hj).1; rwa [Nat.zero_add] at this) i7 (fun j hj => by have := i8 j hj l D aC ad; rwa [Nat.zero_add] at this) i15
  · rw [hrr]
    refine ok_Mo_run_0 hf m hposM M (by rw [hm0, i4, ← hm1]) (by omega) (by omega) (fun j hj => by have := (i5 j hj).2; rwa [Nat.zero_add] at this) i6 i10 (fun j hj => by have := i9 j hj l D aC ad; rwa [Nat.zero_add] at this) (fun z => i15 (i14.resolve_right (Int32.not_le.mpr z)))
  · by_cases c : r < 0
    · rw [if_pos c, rIj (by decide), i11]; exact hm10
    · rw [if_neg c, i11]; exact hm10
  · by_cases c : r < 0
    · rw [if_pos c]
      exact (i12.keep kx_r (km_I (by omega) km_r)).rel i13
    · rw [if_neg c]; exact i12.rel i13
