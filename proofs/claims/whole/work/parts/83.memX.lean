def hv (h : Nat) : Int32 := if h = 0 then -1 else nI (h - 1)
def fI (k : Nat) : Int32 := if k = 0 then -2 else hv (k - 1)
theorem hv_S (h : Nat) : hv (h + 1) = nI h := by simp [hv]
theorem hv_0 : hv 0 = -1 := by simp [hv]
theorem hv_P {h : Nat} (h0 : 0 < h) : hv h = nI (h - 1) := by unfold hv; rw [if_neg (by omega)]
theorem fI_0 : fI 0 = -2 := by simp [fI]
theorem fI_S (h : Nat) : fI (h + 1) = hv h := by simp [fI]
theorem hv_eq {a b : Nat} (ha : a < 2 ^ 31) (hb : b < 2 ^ 31) : hv a = hv b ↔ a = b := by
  unfold hv
  by_cases h1 : a = 0
  · by_cases h2 : b = 0
    · simp [h1, h2]
    · simp only [h1, if_true, if_neg h2]
      exact ⟨fun z => absurd z.symm (nI_m1 (by omega)), fun z => absurd z.symm h2⟩
  · by_cases h2 : b = 0
    · simp only [h2, if_true, if_neg h1]
      exact ⟨fun z => absurd z (nI_m1 (by omega)), fun z => absurd z h1⟩
    · rw [if_neg h1, if_neg h2, nI_eq (by omega) (by omega)]; omega
def CXp (f : Nat) (x : tm_M) (A : aM) : Prop :=
  x.1 (6, f, 0) 2 = nI (A 0 0) ∧ x.1 (6, f, 0) 6 = nI (A 0 1) ∧ x.1 (6, f, 0) 10 = nI (A 0 2) ∧
  (∀ p, p < A 0 0 → x.2 (6, f, 1) p = nI (A 1 p) ∧ x.2 (6, f, 2) p = nI (A 2 p)) ∧
  (∀ k, k < A 0 1 → x.2 (6, f, 3) k = fI (A 7 k) ∧ x.2 (6, f, 4) k = nI (A 8 k) ∧ x.2 (6, f, 5) k = hv (A 9 k)) ∧
  (∀ s, s < A 0 2 → x.2 (6, f, 6) s = nI (A 14 s) ∧ x.2 (6, f, 7) s = nI (A 15 s) ∧ x.2 (6, f, 8) s = hv (A 16 s))
def CXr (x : tm_M) (A : aM) : Prop :=
  x.1 (3, 0, 0) 1 = nI (A 0 3) ∧ ∀ r, r < A 0 3 → x.1 (4, r, 0) 0 = nI (A 17 (r + 1)) ∧ x.1 (4, r, 0) 1 = nI (A 20 (r + 1)) ∧ x.1 (4, r, 0) 2 = hv (A 18 (r + 1)) ∧ x.1 (4, r, 0) 3 = hv (A 18 r) ∧ x.1 (4, r, 0) 4 = nI (A 19 (r + 1)) ∧ x.1 (4, r, 0) 6 = nI (A 22 (r + 1)) ∧ ∀ j, j < A 22 (r + 1) → x.2 (4, r, 1) j = nI (A (24 + r) j)
def CXf (f : Nat) (x0 x : tm_M) : Prop := ∀ K : tm_K, K.1 ≠ 3 → K.1 ≠ 4 → ¬ (K.1 = 6 ∧ K.2.1 = f) → x.1 K = x0.1 K ∧ x.2 K = x0.2 K
theorem em_CXp {f l v h r c w : Nat} {x : tm_M} {A : aM} (H : CXp f x A) : CXp f (emX f (A 0 0) (nI l) (nI v) x) (emA l v h r c w A) := by
  simp only [CXp, emX, emA, sI, sA, au] at H ⊢
  simp [upd]
  grind
theorem em_CXr {f l v h r c w n : Nat} {a b : Int32} {x : tm_M} {A : aM} (H : CXr x A) : CXr (emX f n a b x) (emA l v h r c w A) := by
  simp only [CXr, emX, emA, sI, sA, au] at H ⊢
  simp
  grind
theorem em_CXf {f n : Nat} {a b : Int32} {x0 x : tm_M} (H : CXf f x0 x) : CXf f x0 (emX f n a b x) := by
  intro K h1 h2 h3
  have := H K h1 h2 h3
  have k0 : K ≠ (6, f, 0) := fun z => h3 (by rw [z]; exact ⟨rfl, rfl⟩)
  have k1 : K ≠ (6, f, 1) := fun z => h3 (by rw [z]; exact ⟨rfl, rfl⟩)
  have k2 : K ≠ (6, f, 2) := fun z => h3 (by rw [z]; exact ⟨rfl, rfl⟩)
  simp only [emX, sI, sA, k0, k1, k2, if_false]
  exact this
theorem csA_heads {L H : Nat → Nat} : ∀ n s, s < (csA L H n).1 → ∃ k, k < n ∧ (L k = 1 ∨ L k = 2 ∨ L k = 3) ∧ (csA L H n).2.2.2 s = H k
  | 0, s, h => absurd h (Nat.not_lt_zero _)
  | n + 1, s, h => by
    have ih := csA_heads (L := L) (H := H) n
    unfold csA at h ⊢
    by_cases c : L n = 1 ∨ L n = 2 ∨ L n = 3
    · rw [if_pos c] at h ⊢
      by_cases c2 : 0 < (csA L H n).1 ∧ (csA L H n).2.2.2 ((csA L H n).1 - 1) = H n
      · rw [if_pos c2] at h ⊢
        obtain ⟨k, h1, h2, h3⟩ := ih s h
        exact ⟨k, by omega, h2, h3⟩
      · rw [if_neg c2] at h ⊢
        by_cases c3 : s = (csA L H n).1
        · exact ⟨n, by omega, c, by simp [c3]⟩
        · obtain ⟨k, h1, h2, h3⟩ := ih s (by have : s < (csA L H n).1 + 1 := h; omega)
          exact ⟨k, by omega, h2, by simp [c3, h3]⟩
    · rw [if_neg c] at h ⊢
      obtain ⟨k, h1, h2, h3⟩ := ih s h
      exact ⟨k, by omega, h2, h3⟩
theorem tyI.a40 {S : Nat → Nat} {T len i : Nat} {A : aM} (H : tyI S T len i A) : A 0 1 ≤ 40 := by
  have := H.2.2.2.2.2.2.2.2.2.1
  omega
theorem tyI.sH {S : Nat → Nat} {T len i : Nat} {A : aM} (H : tyI S T len i A) : ∀ s, s < A 0 2 → A 16 s ≤ 40 := by
  intro s hs
  have a40 := H.a40
  obtain ⟨t1, t2⟩ := H.2.2.2.2.2.2.1
  obtain ⟨k, h1, h2, h3⟩ := csA_heads (L := A 1) (H := A 3) (A 0 0) s (by rw [t1]; exact hs)
  have := (H.1 k h1).2.2.2.2.2.2.2.2.2.2.1 h2
  rw [(t2 s hs).2.2] at h3
  omega
theorem ac_CXp {f k h e r s : Nat} {x : tm_M} {A : aM} (H : CXp f x A) : CXp f (acX f (A 0 1) (fI k) (hv h) x) (acA k h e r s A) := by
  simp only [CXp, acX, acA, sI, sA, au] at H ⊢
  simp [upd]
  have : nI 0 = 0 := nI_0
  grind
theorem ac_CXr {f k h e r s a : Nat} {u v : Int32} {x : tm_M} {A : aM} (H : CXr x A) : CXr (acX f a u v x) (acA k h e r s A) := by
  simp only [CXr, acX, acA, sI, sA, au] at H ⊢
  simp
  grind
theorem la_CXp {f k : Nat} {x : tm_M} {A : aM} (H : CXp f x A) : CXp f (laX f k (A 0 0) x) (laA k A) := by
  simp only [CXp, laX, laA, sA, au] at H ⊢
  simp [upd]
  grind
theorem la_CXr {f k n : Nat} {j : Nat} {x : tm_M} {A : aM} (H : CXr x A) : CXr (laX f k n x) (laA j A) := by
  simp only [CXr, laX, laA, sA, au] at H ⊢
  simp
  grind
theorem si_CXp {f h : Nat} {x : tm_M} {A : aM} (hq : ∀ s, s < A 0 2 → A 16 s < 2 ^ 31) (hh : h < 2 ^ 31) (H : CXp f x A) : CXp f (siX f (A 0 0) (A 0 2) (hv h) x) (siA h A) := by
  unfold siX siA
  have e : (0 < A 0 2 ∧ x.2 (6, f, 8) (A 0 2 - 1) = hv h) ↔ (0 < A 0 2 ∧ A 16 (A 0 2 - 1) = h) := by
    constructor
    · rintro ⟨a, b⟩
      rw [(H.2.2.2.2.2 (A 0 2 - 1) (by omega)).2.2, hv_eq (hq _ (by omega)) hh] at b
      exact ⟨a, b⟩
    · rintro ⟨a, b⟩
      rw [(H.2.2.2.2.2 (A 0 2 - 1) (by omega)).2.2, hv_eq (hq _ (by omega)) hh]
      exact ⟨a, b⟩
  by_cases c : 0 < A 0 2 ∧ A 16 (A 0 2 - 1) = h
  · rw [if_pos c, if_pos (e.mpr c)]
    simp only [CXp, sI, sA, au] at H ⊢
    simp [upd]
    grind
  · rw [if_neg c, if_neg (fun z => c (e.mp z))]
    simp only [CXp, sI, sA, au] at H ⊢
    simp [upd]
    grind
theorem si_CXr {f h n q : Nat} {u : Int32} {x : tm_M} {A : aM} (H : CXr x A) : CXr (siX f n q u x) (siA h A) := by
  unfold siX siA
  split <;> split
  all_goals
    simp only [CXr, sI, sA, au] at H ⊢
    simp
    grind
theorem op_CXp {f o kd nb h : Nat} {a b c d : Int32} {x : tm_M} {A : aM} (H : CXp f x A) : CXp f (opX o a b c d x) (opA kd nb h A) := by
  simp only [CXp, opX, opA, sI, au] at H ⊢
  simp
  grind
theorem op_CXr {kd nb h : Nat} {x : tm_M} {A : aM} (hh : 0 < h) (H : CXr x A) : CXr (opX (A 0 3) (nI kd) (nI nb) (nI (h - 1)) (hv (A 18 (A 0 3))) x) (opA kd nb h A) := by
  have e : hv h = nI (h - 1) := hv_P hh
  have z : nI 0 = 0 := nI_0
  simp only [CXr, opX, opA, sI, au] at H ⊢
  simp [upd]
  intro r hr
  by_cases c : r = A 0 3
  · subst c
    simp [e, z, upd]
  · have h1 := H.2 r (by omega)
    have c2 : ¬ (r + 1 = A 0 3 + 1) := by omega
    have c3 : ¬ (24 + r = 0) := by omega
    have c4 : ¬ (24 + r = 17) := by omega
    have c5 : ¬ (24 + r = 18) := by omega
    have c6 : ¬ (24 + r = 19) := by omega
    have c7 : ¬ (24 + r = 20) := by omega
    have c8 : ¬ (24 + r = 21) := by omega
    have c9 : ¬ (24 + r = 22) := by omega
    have c10 : ¬ (r = A 0 3 + 1) := by omega
    simp only [c, c2, c3, c4, c5, c6, c7, c8, c9, c10, false_and, if_false]
    exact h1
theorem nx_CXp {f i t o a b u w : Nat} {v : Int32} {x : tm_M} {A : aM} (H : CXp f x A) : CXp f (nxX i t v x) (au (au A (23 + o) a u) 22 b w) := by
  have HX := ex_same (A := A) (a := a) (b := b) (u := u) (v := w) (o := o)
  unfold CXp at H ⊢
  rw [HX.f 0 (by decide), HX.f 1 (by decide), HX.f 2 (by decide), HX.f 7 (by decide), HX.f 8 (by decide), HX.f 9 (by decide), HX.f 14 (by decide), HX.f 15 (by decide), HX.f 16 (by decide)]
  simp only [nxX, sI, sA]
  simpa using H
theorem nx_CXr {n : Nat} {x : tm_M} {A : aM} (ho : 0 < A 0 3) (H : CXr x A) : CXr (nxX (A 0 3 - 1) (A 22 (A 0 3)) (nI n) x) (au (au A (23 + A 0 3) (A 22 (A 0 3)) n) 22 (A 0 3) (A 22 (A 0 3) + 1)) := by
  have HX := ex_same (A := A) (a := A 22 (A 0 3)) (b := A 0 3) (u := n) (v := A 22 (A 0 3) + 1) (o := A 0 3)
  unfold CXr at H ⊢
  rw [HX.f 0 (by decide), HX.f 17 (by decide), HX.f 18 (by decide), HX.f 19 (by decide), HX.f 20 (by decide)]
  refine ⟨by simp only [nxX, sI, sA]; simpa using H.1, ?_⟩
  intro r hr
  have h1 := H.2 r hr
  have c24 : ¬ (22 = 23 + A 0 3) := by omega
  have c25 : ¬ (24 + r = 22) := by omega
  by_cases c : r = A 0 3 - 1
  · have c1 : r + 1 = A 0 3 := by omega
    have c2 : 24 + r = 23 + A 0 3 := by omega
    simp only [nxX, sI, sA, au, c2, c1, c24] at h1 ⊢
    rw [← c]
    simp [upd, c24]
    have c3 : ¬ (23 + A 0 3 = 22) := by omega
    simp only [c3, false_and, if_false]
    grind
  · have c1 : ¬ (r + 1 = A 0 3) := by omega
    have c2 : ¬ (24 + r = 23 + A 0 3) := by omega
    simp only [nxX, sI, sA, au, c2, c1, c, c24, c25]
    simp [c, c1, c24]
    simpa using h1
theorem ex_CXp {f c w : Nat} {x : tm_M} {A : aM} (H : CXp f x A) : CXp f (exX f (A 0 3 - 1) (A 0 0) (A 22 (A 0 3)) x) (exA c w A) := by
  unfold exX exA
  have h1 := nx_CXp (f := f) (i := A 0 3 - 1) (t := A 22 (A 0 3)) (o := A 0 3) (a := A 22 (A 0 3)) (b := A 0 3) (u := A 0 0) (w := A 22 (A 0 3) + 1) (v := nI (A 0 0)) H
  have h2 := em_CXp (l := 4) (v := 0) (h := A 18 (A 0 3)) (r := A 0 3) (c := c) (w := w) h1
  have HX := ex_same (A := A) (a := A 22 (A 0 3)) (b := A 0 3) (u := A 0 0) (v := A 22 (A 0 3) + 1) (o := A 0 3)
  rw [HX.f 0 (by decide)] at h2
  exact h2
theorem ex_CXr {f c w n : Nat} {x : tm_M} {A : aM} (ho : 0 < A 0 3) (hn : n = A 0 0) (H : CXr x A) : CXr (exX f (A 0 3 - 1) n (A 22 (A 0 3)) x) (exA c w A) := by
  subst hn
  exact em_CXr (nx_CXr ho H)
