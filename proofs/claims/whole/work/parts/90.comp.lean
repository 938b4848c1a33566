def CMs (f : Nat) (x : tm_M) (A : aM) : Prop := x.2 (0, 0, 13) f = nI (A 0 2) ∧ ∀ s, s < A 0 2 → x.2 (0, 0, 14) (64 * f + s) = nI (A 14 s) ∧ x.2 (0, 0, 15) (64 * f + s) = nI (A 15 s) ∧ x.2 (0, 0, 16) (64 * f + s) = hv (A 16 s)
def gpA (T : Nat) (A : aM) : Prop := A 0 0 ≤ 81 ∧ A 0 1 ≤ 40 ∧ A 0 2 ≤ 20 ∧ (∀ p, p < A 0 0 → tyP T A p ∧ A 4 p = 0) ∧ (∀ k, k < A 0 1 → tyK T A k ∧ A 13 k ≠ 0) ∧ tyS A ∧ (0 < A 0 0 → A 6 0 = 0 ∧ A 5 0 = 0) ∧ A 6 (A 0 0) = 1000 ∧ ∀ s, s < A 0 2 → A 16 s ≤ A 0 1
def fnA (S O : Nat → Nat) (len : Nat) (A : aM) : aM := emA 8 0 ((runA S O len A len) 18 ((runA S O len A len) 0 3)) 0 0 1000 (runA S O len A len)
theorem gp_end {S : Nat → Nat} {T len : Nat} {A : aM} (hl : len ≤ 20) (H : tyI S T len len A) : A 0 3 = 0 ∧ gpA T (emA 8 0 (A 18 (A 0 3)) 0 0 1000 A) := by
  have a40 := H.a40
  have sHa : ∀ s, s < A 0 2 → A 16 s ≤ A 0 1 := by
    intro s hs
    obtain ⟨t1, t2⟩ := H.2.2.2.2.2.2.1
    obtain ⟨k, h1, h2, h3⟩ := csA_heads (L := A 1) (H := A 3) (A 0 0) s (by rw [t1]; exact hs)
    have := (H.1 k h1).2.2.2.2.2.2.2.2.2.2.1 h2
    rw [(t2 s hs).2.2] at h3
    omega
  obtain ⟨a1, a2, a3, a4, a5, a6, a7, a8, a9, a10, a11⟩ := H
  rw [Nat.sub_self] at a11
  have ho : A 0 3 = 0 := a11
  obtain ⟨o1, o2, o3, o4, o5⟩ := em_o (l := 8) (v := 0) (h := A 18 (A 0 3)) (r := 0) (c := 0) (w := 1000) (A := A)
  refine ⟨ho, by omega, by omega, by omega, ?_, ?_, em_TS (by omega) a6, ?_, ?_, ?_⟩
  · rw [o4]
    have hP := em_TP (T := T) (l := 8) (v := 0) (h := A 18 (A 0 3)) (r := 0) (c := 0) (w := 1000) a1 (by
      have h6 := a5.2.2.1
      simp only [tyP, emA, au]
      simp [h6])
    intro p hp
    refine ⟨hP p hp, ?_⟩
    have h7 := (hP p hp).2.2.2.2.2.2.1
    apply Classical.byContradiction
    intro z
    have h8 := (h7 z).1
    rw [o1] at h8
    omega
  · rw [o2]
    intro k hk
    refine ⟨em_TA a2 k hk, ?_⟩
    rw [em_f (by decide) (by decide)]
    rcases a4 k hk with h | ⟨r, h1, h2, -⟩
    · exact h
    · omega
  · intro _
    rw [em_q (by decide) (by omega), em_q (by decide) (by omega)]
    exact ⟨a5.2.2.2.2.1, a5.2.2.2.2.2.1⟩
  · rw [o4]; exact em_n.1
  · rw [o3, o2]
    intro s hs
    rw [em_f (by decide) (by decide)]
    exact sHa s hs
theorem gp_le {T T' : Nat} {A : aM} (h : T ≤ T') (H : gpA T A) : gpA T' A := by
  obtain ⟨h1, h2, h3, h4, h5, h6, h7, h8⟩ := H
  refine ⟨h1, h2, h3, fun p hp => ?_, fun k hk => ?_, h6, h7, h8⟩
  · obtain ⟨⟨b1, b2, b3, b4, b5, b6, b7, b8, b9, b10, b11⟩, b12⟩ := h4 p hp
    exact ⟨⟨b1, b2, b3, b4, b5, b6, b7, b8, b9, fun z => Nat.lt_of_lt_of_le (b10 z) h, b11⟩, b12⟩
  · obtain ⟨⟨b1, b2⟩, b3⟩ := h5 k hk
    exact ⟨⟨by omega, b2⟩, b3⟩
def CXg (f : Nat) (x0 x : tm_M) : Prop := ∀ K : tm_K, K.1 = 1 ∨ K.1 = 5 ∨ (K.1 = 6 ∧ K.2.1 ≠ f) → x.1 K = x0.1 K ∧ x.2 K = x0.2 K
def CMg (f : Nat) (x0 x : tm_M) : Prop := x.1 (0, 0, 0) 1 = x0.1 (0, 0, 0) 1 ∧ ∀ a i, ¬ inF f a i → x.2 (0, 0, a) i = x0.2 (0, 0, a) i
theorem cx_all {f len T : Nat} {S O : Nat → Nat} {x0 : tm_M} {A0 : aM} (hf : f < 6) (hO : txO' T len S O) (hI : ∀ i, i ≤ len → tyI S T len i (runA S O len A0 i)) (hx : txX f len S O x0) (Hp : CXp f x0 (runA S O len A0 0)) (Hr : CXr x0 (runA S O len A0 0)) :
    ∃ X : Nat → tm_M, X 0 = x0 ∧ (∀ k, k < len → ∀ (l : Launch) (D : va_G) (aC : Nat → ClassId) (ad : Nat → Nat), OkX l y_Co_translateStatement b_Co_translateStatement 5 none (rom 4 90) D aC ad [.ref (ad 22), .ref (ad (txO f)), .int (nI k), .ref (ad (prO f))] (X k) none (X (k + 1))) ∧ ∀ k, k ≤ len → CXp f (X k) (runA S O len A0 k) ∧ CXr (X k) (runA S O len A0 k) ∧ CXf f x0 (X k) := by
  have txk : ∀ x, CXf f x0 x → txX f len S O x := fun x h => by
    obtain ⟨h1, h2⟩ := hx
    have e0 := h (1, f, 0) (by simp) (by simp) (by simp)
    have e1 := h (1, f, 1) (by simp) (by simp) (by simp)
    have e2 := h (1, f, 2) (by simp) (by simp) (by simp)
    unfold txX
    rw [e0.1, e1.2, e2.2]
    exact ⟨h1, h2⟩
  have trans : ∀ {a b c : tm_M}, CXf f a b → CXf f b c → CXf f a c := fun h1 h2 K k1 k2 k3 => ⟨(h2 K k1 k2 k3).1.trans (h1 K k1 k2 k3).1, (h2 K k1 k2 k3).2.trans (h1 K k1 k2 k3).2⟩
  have go : ∀ n, n ≤ len → ∃ X : Nat → tm_M, X 0 = x0 ∧ (∀ k, k < n → ∀ (l : Launch) (D : va_G) (aC : Nat → ClassId) (ad : Nat → Nat), OkX l y_Co_translateStatement b_Co_translateStatement 5 none (rom 4 90) D aC ad [.ref (ad 22), .ref (ad (txO f)), .int (nI k), .ref (ad (prO f))] (X k) none (X (k + 1))) ∧ ∀ k, k ≤ n → CXp f (X k) (runA S O len A0 k) ∧ CXr (X k) (runA S O len A0 k) ∧ CXf f x0 (X k) := by
    intro n
    induction n with
    | zero => intro _; exact ⟨fun _ => x0, rfl, fun k hk => absurd hk (Nat.not_lt_zero _), fun k hk => by have hk0 : k = 0 := (by omega); subst hk0; exact ⟨Hp, Hr, cf_r⟩⟩
    | succ n ih =>
      intro hn
      obtain ⟨X, g1, g2, g3⟩ := ih (by omega)
      obtain ⟨q1, q2, q3⟩ := g3 n (Nat.le_refl _)
      obtain ⟨x', w1, w2, w3, w4⟩ := cx_step hf (txk _ q3) hO (by omega) (hI n (by omega)) q1 q2
      refine ⟨fun k => if k ≤ n then X k else x', by simp [g1], fun k hk => ?_, fun k hk => ?_⟩
      · by_cases c : k = n
        · subst c
          simp only [Nat.le_refl, if_true, if_neg (show ¬ k + 1 ≤ k by omega)]
          exact w1
        · simp only [if_pos (show k ≤ n by omega), if_pos (show k + 1 ≤ n by omega)]
          exact g2 k (by omega)
      · by_cases c : k ≤ n
        · simp only [if_pos c]; exact g3 k c
        · simp only [if_neg c]
          obtain rfl : k = n + 1 := by omega
          exact ⟨w2, w3, trans q3 w4⟩
  exact go len (Nat.le_refl _)
theorem cm_all {f len T : Nat} {S O : Nat → Nat} {x0 : tm_M} {A0 : aM} (hO : txO' T len S O) (hI : ∀ i, i ≤ len → tyI S T len i (runA S O len A0 i)) (hx : txM f len S O x0) (Hp : CMp f x0 (runA S O len A0 0)) (Hr : CMr x0 (runA S O len A0 0)) :
    ∃ X : Nat → tm_M, X 0 = x0 ∧ (∀ k, k < len → StM f len k (X k) (X (k + 1))) ∧ ∀ k, k ≤ len → CMp f (X k) (runA S O len A0 k) ∧ CMr (X k) (runA S O len A0 k) ∧ CMf f x0 (X k) ∧ txM f len S O (X k) := by
  have txk : ∀ x, CMf f x0 x → txM f len S O x := fun x h => by
    obtain ⟨h1, h2⟩ := hx
    have e : ∀ a i, a ≤ 4 → x.2 (0, 0, a) i = x0.2 (0, 0, a) i := fun a i ha => h.2 a i (by unfold inF; omega)
    unfold txM
    refine ⟨by rw [e 2 f (by omega)]; exact h1, fun k hk => ?_⟩
    rw [e 3 _ (by omega), e 4 _ (by omega)]
    exact h2 k hk
  have trans : ∀ {a b c : tm_M}, CMf f a b → CMf f b c → CMf f a c := fun h1 h2 => ⟨fun j hj => (h2.1 j hj).trans (h1.1 j hj), fun a i hi => (h2.2 a i hi).trans (h1.2 a i hi)⟩
  have go : ∀ n, n ≤ len → ∃ X : Nat → tm_M, X 0 = x0 ∧ (∀ k, k < n → StM f len k (X k) (X (k + 1))) ∧ ∀ k, k ≤ n → CMp f (X k) (runA S O len A0 k) ∧ CMr (X k) (runA S O len A0 k) ∧ CMf f x0 (X k) ∧ txM f len S O (X k) := by
    intro n
    induction n with
    | zero => intro _; exact ⟨fun _ => x0, rfl, fun k hk => absurd hk (Nat.not_lt_zero _), fun k hk => by have hk0 : k = 0 := (by omega); subst hk0; exact ⟨Hp, Hr, cm_r, hx⟩⟩
    | succ n ih =>
      intro hn
      obtain ⟨X, g1, g2, g3⟩ := ih (by omega)
      obtain ⟨q1, q2, q3, q4⟩ := g3 n (Nat.le_refl _)
      obtain ⟨x', w1, w2, w3, w4⟩ := cm_step q4 hO (by omega) (hI n (by omega)) q1 q2
      refine ⟨fun k => if k ≤ n then X k else x', by simp [g1], fun k hk => ?_, fun k hk => ?_⟩
      · by_cases c : k = n
        · subst c
          simp only [Nat.le_refl, if_true, if_neg (show ¬ k + 1 ≤ k by omega)]
          exact w1
        · simp only [if_pos (show k ≤ n by omega), if_pos (show k + 1 ≤ n by omega)]
          exact g2 k (by omega)
      · by_cases c : k ≤ n
        · simp only [if_pos c]; exact g3 k c
        · simp only [if_neg c]
          obtain rfl : k = n + 1 := by omega
          exact ⟨w2, w3, trans q3 w4, txk _ (trans q3 w4)⟩
  exact go len (Nat.le_refl _)
theorem cx_compile {f len T : Nat} {S O : Nat → Nat} {x : tm_M} {Ka : Nat → Nat} (A0 : aM) (hf : f < 6) (hO : txO' T len S O) (hx : txX f len S O x) (hw : wfA S len 0 0 Ka) :
    ∃ x' : tm_M, (∀ (l : Launch) (D : va_G) (aC : Nat → ClassId) (ad : Nat → Nat), OkX l y_Lp_compile b_Lp_compile 4 (some .int) (rom 7 163) D aC ad [.ref (ad 0), .int (nI f)] x (some (.int (nI ((fnA S O len A0) 0 0)))) x') ∧ CXp f x' (fnA S O len A0) ∧ CXg f x x' := by
  have hI := ci_all (A := A0) hO.1 hO.2.1 hO.2.2.2.1 hO.2.2.2.2.1 hO.2.2.2.2.2 hw
  have hnz : ¬ (wfF (x.2 (1, f, 1)) len 0 0 (x.2 (2, 0, 1))).1 = 0 := fun z => (wf_CX len 0 0 _ Ka (by omega) (fun j _ h => ⟨(hx.2 j (by omega)).1, hO.2.1 j (by omega)⟩) (fun j h => by omega)).mp z hw
  generalize hck : ckX (wfF (x.2 (1, f, 1)) len 0 0 (x.2 (2, 0, 1))).2.1 (wfF (x.2 (1, f, 1)) len 0 0 (x.2 (2, 0, 1))).2.2 x = y
  have hy : ∀ K : tm_K, K.1 ≠ 2 → y.1 K = x.1 K ∧ y.2 K = x.2 K := fun K hK => by
    rw [← hck]
    have e1 : K ≠ (2, 0, 1) := fun z => hK (by rw [z])
    have e0 : K ≠ (2, 0, 0) := fun z => hK (by rw [z])
    unfold ckX sAA
    rw [rIK e0, rIA]
    simp [e1]
  have hyx : txX f len S O y := by
    unfold txX
    rw [(hy (1, f, 0) (by simp)).1, (hy (1, f, 1) (by simp)).2, (hy (1, f, 2) (by simp)).2]
    exact hx
  have e0 : (runA S O len A0 0) 0 0 = 0 ∧ (runA S O len A0 0) 0 1 = 0 ∧ (runA S O len A0 0) 0 2 = 0 ∧ (runA S O len A0 0) 0 3 = 0 := by simp [runA, a0A, au]
  obtain ⟨X, g1, g2, g3⟩ := cx_all (A0 := A0) (x0 := sI (sI (sI (sI y (6, f, 0) 2 0) (6, f, 0) 6 0) (6, f, 0) 10 0) (3, 0, 0) 1 0) hf hO hI (by
      unfold txX
      simp only [sI]
      simpa [txX] using hyx) (by
      unfold CXp
      rw [e0.1, e0.2.1, e0.2.2.1]
      refine ⟨?_, ?_, ?_, fun p hp => absurd hp (Nat.not_lt_zero _), fun p hp => absurd hp (Nat.not_lt_zero _), fun p hp => absurd hp (Nat.not_lt_zero _)⟩ <;> (simp only [sI]; simp [upd]; rfl)) (by
      unfold CXr
      rw [e0.2.2.2]
      refine ⟨?_, fun r hr => absurd hr (Nat.not_lt_zero _)⟩
      rw [rI]; rfl)
  obtain ⟨q1, q2, q3⟩ := g3 len (Nat.le_refl _)
  have hn81 : (runA S O len A0 len) 0 0 < 81 := by
    have := (hI len (Nat.le_refl _)).2.2.2.2.2.2.2.1
    have := hO.1
    omega
  have hfr : ∀ k, k ≤ len → CXf f (sI (sI (sI (sI y (6, f, 0) 2 0) (6, f, 0) 6 0) (6, f, 0) 10 0) (3, 0, 0) 1 0) (X k) := fun k hk => (g3 k hk).2.2
  have hend : CXp f (emX f ((runA S O len A0 len) 0 0) 8 0 (X len)) (fnA S O len A0) := em_CXp (l := 8) (v := 0) q1
  have hn0 : (fnA S O len A0) 0 0 = (runA S O len A0 len) 0 0 + 1 := em_o.2.2.2.1
  refine ⟨emX f ((runA S O len A0 len) 0 0) 8 0 (X len), fun l D aC ad => ?_, hend, ?_⟩
  · refine ok_Lp_compile hf x hx.1 hO.1 hnz (x2 := emX f ((runA S O len A0 len) 0 0) 8 0 (X len)) ?_ hend.1
    rw [hck]
    refine ok_Co_translate hf hf y X g1 (fun k hk => ?_) hO.1 (fun k hk => g2 k hk l D aC ad) q1.1 hn81
    rw [(hfr k hk (1, f, 0) (by simp) (by simp) (by simp)).1]
    have := hyx.1
    simp only [sI]
    simpa using this
  · intro K hK
    have k3 : K.1 ≠ 3 := by omega
    have k4 : K.1 ≠ 4 := by omega
    have k6 : ¬ (K.1 = 6 ∧ K.2.1 = f) := by omega
    have e := em_CXf (n := (runA S O len A0 len) 0 0) (a := 8) (b := 0) q3 K k3 k4 k6
    have n1 : K ≠ (6, f, 0) := fun z => k6 (by rw [z]; exact ⟨rfl, rfl⟩)
    have n2 : K ≠ (3, 0, 0) := fun z => k3 (by rw [z])
    have hy' := hy K (by omega)
    rw [e.1, e.2]
    simp only [sI, if_neg n1, if_neg n2]
    exact hy'
theorem cm_compile {f len T : Nat} {S O : Nat → Nat} {x : tm_M} {Ka : Nat → Nat} (A0 : aM) (hf : f < 6) (hO : txO' T len S O) (hx : txM f len S O x) (hw : wfA S len 0 0 Ka) :
    ∃ x' : tm_M, (∀ (l : Launch) (D : va_G) (aC : Nat → ClassId) (ad : Nat → Nat), OkM l y_Mo_compile b_Mo_compile 6 (some .int) (rom 3 66) D aC ad [.ref (ad 0), .int (nI f)] x (some (.int (nI ((fnA S O len A0) 0 0)))) x') ∧ CMp f x' (fnA S O len A0) ∧ CMs f x' (fnA S O len A0) ∧ CMg f x x' ∧ x'.1 (0, 0, 0) 0 = 0 ∧ gpA T (fnA S O len A0) := by
  have hI := ci_all (A := A0) hO.1 hO.2.1 hO.2.2.2.1 hO.2.2.2.2.1 hO.2.2.2.2.2 hw
  have hnz : ¬ (wmF (fun j => x.2 (0, 0, 3) (20 * f + j)) len 0 0 (x.2 (0, 0, 17))).1 = 0 := fun z => (wm_CM len 0 0 _ Ka (by omega) (fun j _ h => ⟨(hx.2 j (by omega)).1, hO.2.1 j (by omega)⟩) (fun j h h2 => by omega)).mp z hw
  generalize hy0 : (sA (sI (sA (sA (sI (ckM (wmF (fun j => x.2 (0, 0, 3) (20 * f + j)) len 0 0 (x.2 (0, 0, 17))).2.1 (wmF (fun j => x.2 (0, 0, 3) (20 * f + j)) len 0 0 (x.2 (0, 0, 17))).2.2 x) (0, 0, 0) 0 0) (0, 0, 5) f 0) (0, 0, 9) f 0) (0, 0, 0) 18 0) (0, 0, 18) 0 (-1)) = y
  have hy1 : ∀ j, j ≠ 0 → j ≠ 18 → y.1 (0, 0, 0) j = x.1 (0, 0, 0) j := fun j h0 h18 => by
    rw [← hy0]
    simp only [ckM, sAA, sI, sA]
    simp [upd, h0, h18]
  have hy00 : y.1 (0, 0, 0) 0 = 0 ∧ y.1 (0, 0, 0) 18 = 0 := by
    rw [← hy0]
    simp only [ckM, sAA, sI, sA]
    simp [upd]
  have hy2 : ∀ a i, ¬ inF f a i → y.2 (0, 0, a) i = x.2 (0, 0, a) i := fun a i h => by
    have h5 : ¬ (a = 5 ∧ i = f) := fun z => h (by rw [z.1, z.2]; exact in5)
    have h9 : ¬ (a = 9 ∧ i = f) := fun z => h (by rw [z.1, z.2]; exact in9)
    have h17 : a ≠ 17 := fun z => h (by rw [z]; exact in17 (by omega))
    have h18 : a ≠ 18 := fun z => h (by rw [z]; exact in17 (by omega))
    rw [← hy0]
    simp only [ckM, sAA, sI, sA]
    simp [h17, h18, upd]
    by_cases c9 : a = 9
    · have ci : i ≠ f := fun z => h9 ⟨c9, z⟩
      simp [c9, ci, upd]
    · by_cases c5 : a = 5
      · have ci : i ≠ f := fun z => h5 ⟨c5, z⟩
        simp [c5, ci, upd]
      · simp [c9, c5]
  have e0 : (runA S O len A0 0) 0 0 = 0 ∧ (runA S O len A0 0) 0 1 = 0 ∧ (runA S O len A0 0) 0 3 = 0 ∧ (runA S O len A0 0) 18 0 = 0 := by simp [runA, a0A, au]
  have hyx : txM f len S O y := by
    have e : ∀ a i, a ≤ 4 → y.2 (0, 0, a) i = x.2 (0, 0, a) i := fun a i ha => hy2 a i (by unfold inF; omega)
    refine ⟨by rw [e 2 f (by omega)]; exact hx.1, fun k hk => ?_⟩
    rw [e 3 _ (by omega), e 4 _ (by omega)]
    exact hx.2 k hk
  obtain ⟨X, g1, g2, g3⟩ := cm_all (A0 := A0) (x0 := y) hO hI hyx (by
      unfold CMp
      rw [e0.1, e0.2.1]
      refine ⟨?_, ?_, fun p hp => absurd hp (Nat.not_lt_zero _), fun p hp => absurd hp (Nat.not_lt_zero _)⟩ <;> (rw [← hy0]; simp only [sI, sA]; simp [upd]; rfl)) (by
      unfold CMr
      rw [e0.2.2.1]
      refine ⟨hy00.2.trans rfl, fun r hr => ?_, fun r hr h2 => by omega⟩
      obtain rfl : r = 0 := by omega
      rw [e0.2.2.2, hv_0, ← hy0, rA])
  obtain ⟨q1, q2, q3, q4⟩ := g3 len (Nat.le_refl _)
  obtain ⟨ho0, hgp⟩ := gp_end hO.1 (hI len (Nat.le_refl _))
  have hn80 : (runA S O len A0 len) 0 0 ≤ 80 := by
    have := (hI len (Nat.le_refl _)).2.2.2.2.2.2.2.1
    have := hO.1
    omega
  have hn0 : (fnA S O len A0) 0 0 = (runA S O len A0 len) 0 0 + 1 := em_o.2.2.2.1
  have hgp' : gpA T (fnA S O len A0) := hgp
  have hTC : tyC (fnA S O len A0) := em_TC (by omega) (hI len (Nat.le_refl _)).2.2.2.2.2.2.1
  generalize hz : emM f ((runA S O len A0 len) 0 0) ((runA S O len A0 len) 0 3) 8 0 (X len) = z
  have hzp : CMp f z (fnA S O len A0) := by rw [← hz]; exact em_CMp (l := 8) (v := 0) (r := 0) rfl rfl q2 q1
  have hzf : CMf f y z := by rw [← hz]; exact cm_em (by omega) q3
  have hcs := cs_CM (f := f) (N := (fnA S O len A0) 0 0) (L := (fnA S O len A0) 1) (H := (fnA S O len A0) 3) (x := z) (fun p hp => by
      obtain ⟨w1, w2, w3⟩ := hzp.2.2.1 p hp
      have tp := (hgp'.2.2.2.1 p hp).1
      refine ⟨w1, tp.1, w3, fun hl => ?_⟩
      have := tp.2.2.2.2.2.2.2.2.2.2.1 hl
      have := hgp'.2.1
      omega) (by rw [hTC.1]; exact hgp'.2.2.1)
  have hlt : ∀ k, k < (fnA S O len A0) 0 0 → (csF f z k).1 < 64 := fun k hk => by
    rw [(hcs k (by omega)).1]
    have := cs_mono (L := (fnA S O len A0) 1) (H := (fnA S O len A0) 3) (k := k) ((fnA S O len A0) 0 0 - k)
    rw [show k + ((fnA S O len A0) 0 0 - k) = (fnA S O len A0) 0 0 by omega, hTC.1] at this
    have := hgp'.2.2.1
    omega
  obtain ⟨c1, c2, c3, c4, c5, c6⟩ := hcs ((fnA S O len A0) 0 0) (Nat.le_refl _)
  refine ⟨(csF f z ((fnA S O len A0) 0 0)).2, fun l D aC ad => ?_, ?_, ?_, ?_, ?_, hgp'⟩
  · have := ok_Mo_compile_0 (l := l) (D := D) (aC := aC) (ad := ad) hf x hx.1 hO.1 hnz X (g1.trans hy0.symm) (fun k hk => (g3 k hk).2.2.2.1) g2 q1.1 (by omega) q2.1 (by omega) (by rw [hz, ← hn0]; exact hlt)
    rw [hz, ← hn0] at this
    exact this
  · unfold CMp at hzp ⊢
    rw [c3 5 (by decide) (by decide) (by decide) (by decide), c3 6 (by decide) (by decide) (by decide) (by decide), c3 7 (by decide) (by decide) (by decide) (by decide), c3 8 (by decide) (by decide) (by decide) (by decide), c3 9 (by decide) (by decide) (by decide) (by decide), c3 10 (by decide) (by decide) (by decide) (by decide), c3 11 (by decide) (by decide) (by decide) (by decide), c3 12 (by decide) (by decide) (by decide) (by decide)]
    exact hzp
  · refine ⟨by rw [c4, hTC.1], fun s hs => ?_⟩
    obtain ⟨t1, t2, t3⟩ := c5 s (by rw [hTC.1]; exact hs)
    obtain ⟨u1, u2, u3⟩ := hTC.2 s hs
    rw [t1, t2, t3, u1, u2, u3]
    exact ⟨rfl, rfl, rfl⟩
  · refine ⟨?_, fun a i h => ?_⟩
    · rw [c2, hzf.1 1 (by decide), hy1 1 (by decide) (by decide)]
    · rw [c6.2 a i h, hzf.2 a i h, hy2 a i h]
  · rw [c2, hzf.1 0 (by decide), hy00.1]
def prR (f T : Nat) (x m : tm_M) (A : aM) : Prop := CXp f x A ∧ CMp f m A ∧ CMs f m A ∧ gpA T A
def Rel' (x m : tm_M) (T : Nat) (Pa len : Nat → Nat) (S O : Nat → Nat → Nat) (G : Nat → aM) (t : Nat) : Prop :=
  (1 ≤ T ∧ T ≤ 8 ∧ x.1 (5, 0, 1) 1 = nI T ∧ m.1 (0, 0, 0) 1 = nI T) ∧ (∀ k, k < T → Pa k ≤ k ∧ x.2 (5, 0, 2) k = hv (Pa k) ∧ m.2 (0, 0, 1) k = hv (Pa k)) ∧
  (∀ f, f < 6 → txX f (len f) (S f) (O f) x ∧ txM f (len f) (S f) (O f) m ∧ txO' T (len f) (S f) (O f)) ∧
  (∀ f, f < 6 → prR f T x m (G f)) ∧
  (t ≤ 60 ∧ x.1 (5, 0, 3) 1 = nI t ∧ m.2 (0, 0, 28) 0 = nI t ∧ (∀ k, k < t → x.2 (5, 0, 4) k = m.2 (0, 0, 29) k) ∧ ∀ j, 1 ≤ j → j ≤ 5 → x.1 (5, 0, 3) (j + 1) = m.2 (0, 0, 28) j)
def Rel (x m : tm_M) : Prop := ∃ T Pa len S O G t, Rel' x m T Pa len S O G t
theorem rel_prog {x m x' m' : tm_M} {T : Nat} {Pa len : Nat → Nat} {S O : Nat → Nat → Nat} {G : Nat → aM} {t f : Nat} {A : aM} (H : Rel' x m T Pa len S O G t) (hX : CXg f x x') (hM : CMg f m m') (hp : prR f T x' m' A) : Rel' x' m' T Pa len S O (fun g => if g = f then A else G g) t := by
  obtain ⟨⟨a1, a2, a3, a4⟩, b, c, d, e1, e2, e3, e4, e5⟩ := H
  refine ⟨⟨a1, a2, by rw [(hX (5, 0, 1) (by simp)).1]; exact a3, by rw [hM.1]; exact a4⟩, fun k hk => ?_, fun g hg => ?_, fun g hg => ?_, e1, by rw [(hX (5, 0, 3) (by simp)).1]; exact e2, by rw [hM.2 28 0 (by unfold inF; omega)]; exact e3, fun k hk => ?_, fun j h1 h2 => ?_⟩
  · rw [(hX (5, 0, 2) (by simp)).2, hM.2 1 k (by unfold inF; omega)]; exact b k hk
  · obtain ⟨c1, c2, c3⟩ := c g hg
    refine ⟨?_, ?_, c3⟩
    · unfold txX at c1 ⊢
      rw [(hX (1, g, 0) (by simp)).1, (hX (1, g, 1) (by simp)).2, (hX (1, g, 2) (by simp)).2]
      exact c1
    · refine ⟨by rw [hM.2 2 g (by unfold inF; omega)]; exact c2.1, fun k hk => ?_⟩
      rw [hM.2 3 _ (by unfold inF; omega), hM.2 4 _ (by unfold inF; omega)]
      exact c2.2 k hk
  · by_cases cg : g = f
    · subst cg
      simp only [if_true]
      exact hp
    · simp only [if_neg cg]
      obtain ⟨d1, d2, d3, d4⟩ := d g hg
      have kX : ∀ a, x'.1 (6, g, a) = x.1 (6, g, a) ∧ x'.2 (6, g, a) = x.2 (6, g, a) := fun a => hX (6, g, a) (Or.inr (Or.inr ⟨rfl, cg⟩))
      have hn := d4.1
      have ha := d4.2.1
      have hq := d4.2.2.1
      refine ⟨?_, ?_, ?_, d4⟩
      · unfold CXp at d1 ⊢
        rw [(kX 0).1, (kX 1).2, (kX 2).2, (kX 3).2, (kX 4).2, (kX 5).2, (kX 6).2, (kX 7).2, (kX 8).2]
        exact d1
      · refine ⟨by rw [hM.2 5 g (by unfold inF; omega)]; exact d2.1, by rw [hM.2 9 g (by unfold inF; omega)]; exact d2.2.1, fun p hp => ?_, fun k hk => ?_⟩
        · rw [hM.2 6 _ (by unfold inF; omega), hM.2 7 _ (by unfold inF; omega), hM.2 8 _ (by unfold inF; omega)]
          exact d2.2.2.1 p hp
        · rw [hM.2 10 _ (by unfold inF; omega), hM.2 11 _ (by unfold inF; omega), hM.2 12 _ (by unfold inF; omega)]
          exact d2.2.2.2 k hk
      · refine ⟨by rw [hM.2 13 g (by unfold inF; omega)]; exact d3.1, fun s hs => ?_⟩
        rw [hM.2 14 _ (by unfold inF; omega), hM.2 15 _ (by unfold inF; omega), hM.2 16 _ (by unfold inF; omega)]
        exact d3.2 s hs
  · rw [(hX (5, 0, 4) (by simp)).2, hM.2 29 k (by unfold inF; omega)]; exact e4 k hk
  · rw [(hX (5, 0, 3) (by simp)).1, hM.2 28 j (by unfold inF; omega)]; exact e5 j h1 h2
