abbrev aM : Type := Nat → Nat → Nat
def au (A : aM) (f i v : Nat) : aM := fun f' i' => if f' = f ∧ i' = i then v else A f' i'
theorem au_s {A : aM} {f i v j : Nat} : au A f i v f j = if j = i then v else A f j := by simp [au]
theorem au_n {A : aM} {f f' i v j : Nat} (h : f' ≠ f) : au A f i v f' j = A f' j := by simp [au, h]
def tyP (T : Nat) (A : aM) (p : Nat) : Prop :=
  A 1 p ≤ 8 ∧ (A 4 p ≠ 0 → A 1 p = 4 ∧ A 6 p = 0) ∧
  (A 6 p = 0 → A 1 p ≠ 7) ∧
  (A 6 p = 0 → A 1 p = 0 ∨ A 1 p = 1 ∨ A 1 p = 5 → A 6 (p + 1) = 0 ∧ A 5 (p + 1) = A 5 p) ∧
  (A 6 p = 0 → A 1 p = 6 → A 6 (p + 1) = 0 ∧ A 5 (p + 1) + 1 = A 5 p) ∧
  (A 6 p = 0 → A 1 p = 4 → A 4 p = 0 → A 2 p ≤ A 0 0 ∧ A 6 (A 2 p) = 0 ∧ A 5 (A 2 p) = A 5 p) ∧
  (A 4 p ≠ 0 → A 4 p ≤ A 0 3 ∧ A 5 p = A 21 (A 4 p)) ∧
  (A 6 p = 0 → A 1 p = 3 → 0 < A 5 p) ∧ (A 1 p = 1 → A 2 p < 6) ∧ (A 1 p = 2 → A 2 p < T) ∧
  (A 1 p = 1 ∨ A 1 p = 2 ∨ A 1 p = 3 → A 3 p = 0 ∨ (A 3 p ≤ A 0 1 ∧ A 10 (A 3 p - 1) = A 5 p)) ∧
  (A 6 p % 2 = 1 → A 6 p / 2 < A 0 1 ∧ A 1 p = 5 + A 12 (A 6 p / 2) ∧ A 6 (p + 1) = A 6 p + 1) ∧ (A 6 p ≠ 0 → A 6 p % 2 = 0 → A 1 p = 7)
def tyK (T : Nat) (A : aM) (k : Nat) : Prop :=
  A 7 k ≤ T + 1 ∧ A 12 k ≤ 1 ∧ A 12 k ≤ A 10 k ∧ (A 7 k ≠ 0 → A 12 k = 0 ∧ A 10 k ≤ 4) ∧ 0 < A 11 k ∧ A 11 k ≤ A 0 1 ∧
  (A 9 k = 0 ∨ (A 9 k ≤ A 0 1 ∧ A 10 (A 9 k - 1) = A 10 k - A 12 k ∧ A 11 (A 9 k - 1) < A 11 k)) ∧
  (A 13 k ≠ 0 → A 8 k ≤ A 0 0 ∧ (A 7 k = 0 → A 6 (A 8 k) = 2 * k + 1) ∧ (A 7 k ≠ 0 → A 6 (A 8 k) = 0 ∧ A 5 (A 8 k) = A 10 k + 1))
def emA (l v h r c w : Nat) (A : aM) : aM := au (au (au (au (au (au (au A 1 (A 0 0) l) 2 (A 0 0) v) 3 (A 0 0) h) 4 (A 0 0) r) 5 (A 0 0 + 1) c) 6 (A 0 0 + 1) w) 0 0 (A 0 0 + 1)
theorem em_TP {T l v h r c w : Nat} {A : aM} (H : ∀ p, p < A 0 0 → tyP T A p) (hn : tyP T (emA l v h r c w A) (A 0 0)) : ∀ p, p < A 0 0 + 1 → tyP T (emA l v h r c w A) p := by
  intro p hp
  by_cases h1 : p = A 0 0
  · rw [h1]; exact hn
  · have h2 := H p (by omega)
    simp only [tyP, emA, au] at h2 ⊢
    simp
    grind
theorem em_TA {T l v h r c w : Nat} {A : aM} (H : ∀ k, k < A 0 1 → tyK T A k) : ∀ k, k < A 0 1 → tyK T (emA l v h r c w A) k := by
  intro k hk
  have h2 := H k hk
  simp only [tyK, emA, au] at h2 ⊢
  simp
  grind
def acA (k h e r s : Nat) (A : aM) : aM := au (au (au (au (au (au (au (au A 7 (A 0 1) k) 8 (A 0 1) 0) 9 (A 0 1) h) 10 (A 0 1) e) 11 (A 0 1) r) 12 (A 0 1) s) 13 (A 0 1) 0) 0 1 (A 0 1 + 1)
def laA (k : Nat) (A : aM) : aM := au (au A 8 k (A 0 0)) 13 k 1
def siA (h : Nat) (A : aM) : aM := if 0 < A 0 2 ∧ A 16 (A 0 2 - 1) = h then au A 15 (A 0 2 - 1) (A 0 0) else au (au (au (au A 14 (A 0 2) (A 0 0)) 15 (A 0 2) (A 0 0)) 16 (A 0 2) h) 0 2 (A 0 2 + 1)
def exA (c w : Nat) (A : aM) : aM := emA 4 0 (A 18 (A 0 3)) (A 0 3) c w (au (au A (23 + A 0 3) (A 22 (A 0 3)) (A 0 0)) 22 (A 0 3) (A 22 (A 0 3) + 1))
def opA (kd nb h : Nat) (A : aM) : aM := au (au (au (au (au (au (au A 17 (A 0 3 + 1) kd) 18 (A 0 3 + 1) h) 19 (A 0 3 + 1) (h - 1)) 20 (A 0 3 + 1) nb) 21 (A 0 3 + 2) (A 21 (A 0 3 + 1))) 22 (A 0 3 + 1) 0) 0 3 (A 0 3 + 1)
def fiA (l w c : Nat) (A : aM) : aM :=
  emA 7 0 (A 18 (A 0 3)) 0 c 0 (emA l w (A 18 (A 0 3)) 0 0 (2 * (A 18 (A 0 3) - 1) + 2) (laA (A 18 (A 0 3) - 1) (exA 0 (2 * (A 18 (A 0 3) - 1) + 1) (emA l w (A 18 (A 0 3)) 0 (A 21 (A 0 3)) 0 A))))
def bcA (A : aM) : aM := au (au (au (au (acA 0 (A 18 (A 0 3 - 1)) (A 21 (A 0 3) + 1) (A 0 1 + 1) 1 (laA (A 19 (A 0 3)) A)) 19 (A 0 3) (A 19 (A 0 3) + 1)) 17 (A 0 3) 4) 18 (A 0 3) (A 0 1 + 1)) 21 (A 0 3 + 1) (A 21 (A 0 3) + 1)
def clA (A : aM) : aM := au (fun f p => if f = 2 then (if A 4 p = A 0 3 then A 0 0 else A 2 p) else if f = 4 then (if A 4 p = A 0 3 then 0 else A 4 p) else A f p) 0 3 (A 0 3 - 1)
def crA (S : Nat → Nat) : Nat → Nat → Nat → Nat
  | 0, _, _ => 0
  | r + 1, k, d => if S k = 6 ∨ S k = 3 then crA S r (k + 1) (d + 1) else if S k = 5 then (if d = 0 then 0 else crA S r (k + 1) (d - 1)) else if S k = 4 ∧ d = 0 then crA S r (k + 1) d + 1 else crA S r (k + 1) d
def mcA (S O : Nat → Nat) (e b : Nat) : Nat → Nat → Nat → aM → aM
  | 0, _, _, A => A
  | r + 1, k, d, A => if S k = 6 ∨ S k = 3 then mcA S O e b r (k + 1) (d + 1) A else if S k = 5 then (if d = 0 then A else mcA S O e b r (k + 1) (d - 1) A) else if S k = 4 ∧ d = 0 then mcA S O e b r (k + 1) d (acA (O k + 1) (A 0 1 + 2) e (b - A 0 1) 0 A) else mcA S O e b r (k + 1) d A
def rkA (A : aM) (h : Nat) : Nat := if h = 0 then 0 else A 11 (h - 1)
def tyA (S O : Nat → Nat) (r k : Nat) (A : aM) : aM :=
  opA 3 0 (A 0 1 + 1) (au (mcA S O (A 21 (A 0 3 + 1)) (rkA A (A 18 (A 0 3)) + A 0 1 + crA S r k 0) r k 0 A) 9 (A 0 1 + crA S r k 0 - 1) (A 18 (A 0 3)))
def stA (S O : Nat → Nat) (len i : Nat) (A : aM) : aM :=
  if S i = 0 then emA 0 (O i - 1) (A 18 (A 0 3)) 0 (A 5 (A 0 0)) 0 A
  else if S i = 1 then emA 1 (O i - 1) (A 18 (A 0 3)) 0 (A 5 (A 0 0)) 0 (siA (A 18 (A 0 3)) A)
  else if S i = 2 then emA 2 (O i - 1) (A 18 (A 0 3)) 0 (A 5 (A 0 0)) 0 (siA (A 18 (A 0 3)) A)
  else if S i = 7 then emA 3 0 (A 18 (A 0 3)) 0 (A 5 (A 0 0)) 0 (siA (A 18 (A 0 3)) A)
  else if S i = 6 then opA 6 (O i - 1) (A 0 1 + 1) (acA 0 (A 18 (A 0 3)) (A 21 (A 0 3 + 1)) (A 0 1 + 1) 0 A)
  else if S i = 3 then tyA S O (len - (i + 1)) (i + 1) A
  else if S i = 4 then (if A 17 (A 0 3) = 3 then bcA (exA (A 21 (A 0 3) + 1) 0 A) else bcA (fiA 6 0 (A 21 (A 0 3) + 1) A))
  else (if A 17 (A 0 3) = 6 then clA (fiA 5 (A 20 (A 0 3)) (A 21 (A 0 3)) A) else clA (fiA 6 0 (A 21 (A 0 3)) A))
def wfA (S : Nat → Nat) : Nat → Nat → Nat → (Nat → Nat) → Prop
  | 0, _, o, _ => o = 0
  | r + 1, k, o, K =>
    if S k = 3 ∨ S k = 6 then o < 5 ∧ wfA S r (k + 1) (o + 1) (fun j => if j = o + 1 then S k else K j)
    else if S k = 4 then (0 < o ∧ K o ≠ 6) ∧ wfA S r (k + 1) o (fun j => if j = o then 4 else K j)
    else if S k = 5 then (0 < o ∧ K o ≠ 3) ∧ wfA S r (k + 1) (o - 1) K
    else if S k = 7 then (∃ j, 1 ≤ j ∧ j ≤ o ∧ K j = 4) ∧ wfA S r (k + 1) o K
    else wfA S r (k + 1) o K
theorem wfA_congr {S : Nat → Nat} : ∀ (r k o : Nat) {K K' : Nat → Nat}, (∀ j, 1 ≤ j → j ≤ o → K j = K' j) → wfA S r k o K → wfA S r k o K' := by
  intro r
  induction r with
  | zero => intro k o K K' h hw; exact hw
  | succ r ih =>
    intro k o K K' h hw
    unfold wfA at hw ⊢
    split
    · rw [if_pos (by assumption)] at hw
      exact ⟨hw.1, ih _ _ (fun j h1 h2 => by by_cases hj : j = o + 1 <;> simp [hj]; exact h j h1 (by omega)) hw.2⟩
    · rw [if_neg (by assumption)] at hw
      split
      · rw [if_pos (by assumption)] at hw
        obtain ⟨⟨a1, a2⟩, a3⟩ := hw
        exact ⟨⟨a1, by rw [← h o (by omega) (Nat.le_refl o)]; exact a2⟩, ih _ _ (fun j h1 h2 => by by_cases hj : j = o <;> simp [hj]; exact h j h1 h2) a3⟩
      · rw [if_neg (by assumption)] at hw
        split
        · rw [if_pos (by assumption)] at hw
          obtain ⟨⟨a1, a2⟩, a3⟩ := hw
          exact ⟨⟨a1, by rw [← h o (by omega) (Nat.le_refl o)]; exact a2⟩, ih _ _ (fun j h1 h2 => h j h1 (by omega)) a3⟩
        · rw [if_neg (by assumption)] at hw
          split
          · rw [if_pos (by assumption)] at hw
            obtain ⟨⟨j, a1, a2, a4⟩, a3⟩ := hw
            exact ⟨⟨j, a1, a2, by rw [← h j a1 a2]; exact a4⟩, ih _ _ h a3⟩
          · rw [if_neg (by assumption)] at hw
            exact ih _ _ h hw
theorem cr_pos {S : Nat → Nat} : ∀ (r k o d : Nat) {K : Nat → Nat}, d < o → K (o - d) = 3 → wfA S r k o K → 0 < crA S r k d := by
  intro r
  induction r with
  | zero => intro k o d K h1 h2 hw; unfold wfA at hw; omega
  | succ r ih =>
    intro k o d K h1 h2 hw
    unfold wfA at hw
    unfold crA
    by_cases c1 : S k = 3 ∨ S k = 6
    · rw [if_pos c1] at hw
      rw [if_pos (by omega)]
      exact ih _ _ (d + 1) (by omega) (by show (if _ then _ else _) = _; rw [if_neg (by omega), show o + 1 - (d + 1) = o - d by omega]; exact h2) hw.2
    · rw [if_neg c1] at hw
      rw [if_neg (by omega)]
      by_cases c2 : S k = 4
      · rw [if_pos c2] at hw
        rw [if_neg (by omega)]
        by_cases c3 : d = 0
        · rw [if_pos ⟨c2, c3⟩]; omega
        · rw [if_neg (fun z => c3 z.2)]
          exact ih _ _ d h1 (by show (if _ then _ else _) = _; rw [if_neg (by omega)]; exact h2) hw.2
      · rw [if_neg c2] at hw
        by_cases c4 : S k = 5
        · rw [if_pos c4] at hw ⊢
          by_cases c3 : d = 0
          · subst c3; exact absurd h2 hw.1.2
          · rw [if_neg c3]
            exact ih _ _ (d - 1) (by omega) (by rw [show o - 1 - (d - 1) = o - d by omega]; exact h2) hw.2
        · rw [if_neg c4] at hw ⊢
          rw [if_neg (fun z => c2 z.1)]
          by_cases c5 : S k = 7
          · rw [if_pos c5] at hw; exact ih _ _ d h1 h2 hw.2
          · rw [if_neg c5] at hw; exact ih _ _ d h1 h2 hw
def scA (S : Nat → Nat) : Nat → Nat → Nat → Prop
  | 0, _, _ => False
  | r + 1, k, d => if S k = 3 ∨ S k = 6 then scA S r (k + 1) (d + 1) else if S k = 5 then (if d = 0 then True else scA S r (k + 1) (d - 1)) else scA S r (k + 1) d
theorem sc_ok {S : Nat → Nat} : ∀ (r k o d : Nat) {K : Nat → Nat}, d < o → wfA S r k o K → scA S r k d := by
  intro r
  induction r with
  | zero => intro k o d K h1 hw; unfold wfA at hw; omega
  | succ r ih =>
    intro k o d K h1 hw
    unfold wfA at hw
    unfold scA
    by_cases c1 : S k = 3 ∨ S k = 6
    · rw [if_pos c1] at hw ⊢
      exact ih _ _ (d + 1) (by omega) hw.2
    · rw [if_neg c1] at hw ⊢
      by_cases c2 : S k = 4
      · rw [if_pos c2] at hw
        rw [if_neg (by omega)]
        exact ih _ _ d h1 hw.2
      · rw [if_neg c2] at hw
        by_cases c4 : S k = 5
        · rw [if_pos c4] at hw ⊢
          by_cases c3 : d = 0
          · rw [if_pos c3]; trivial
          · rw [if_neg c3]
            exact ih _ _ (d - 1) (by omega) hw.2
        · rw [if_neg c4] at hw ⊢
          by_cases c5 : S k = 7
          · rw [if_pos c5] at hw; exact ih _ _ d h1 hw.2
          · rw [if_neg c5] at hw; exact ih _ _ d h1 hw
def fdA (S : Nat → Nat) : Nat → Nat → Nat
  | 0, _ => 0
  | r + 1, k => (if S k = 6 ∨ S k = 4 then 1 else if S k = 3 then crA S r (k + 1) 0 else 0) + fdA S r (k + 1)
def suA (g : Nat → Nat) : Nat → Nat
  | 0 => 0
  | o + 1 => suA g o + g o
theorem suA_congr {g g' : Nat → Nat} : ∀ o, (∀ t, t < o → g t = g' t) → suA g o = suA g' o
  | 0, _ => rfl
  | o + 1, h => by unfold suA; rw [suA_congr o (fun t ht => h t (by omega)), h o (by omega)]
theorem suA_shift {g : Nat → Nat} : ∀ o, suA (fun t => g (t + 1)) o + g 0 = suA g (o + 1)
  | 0 => by simp [suA]
  | o + 1 => by
    have := suA_shift (g := g) o
    unfold suA at this ⊢
    unfold suA
    omega
theorem fd_le {S : Nat → Nat} : ∀ (r k o : Nat), fdA S r k + suA (crA S r k) o ≤ 2 * r := by
  intro r
  induction r with
  | zero =>
    intro k o
    have : suA (crA S 0 k) o = 0 := by
      induction o with
      | zero => rfl
      | succ o ih => unfold suA; rw [ih]; rfl
    rw [this]; simp [fdA]
  | succ r ih =>
    intro k o
    unfold fdA
    by_cases c1 : S k = 6 ∨ S k = 3
    · have e1 : suA (crA S (r + 1) k) o = suA (fun t => crA S r (k + 1) (t + 1)) o := suA_congr o (fun t _ => by rw [crA, if_pos c1])
      have e2 := suA_shift (g := crA S r (k + 1)) o
      have e3 := ih (k + 1) (o + 1)
      rw [e1]
      rcases c1 with c1 | c1
      · rw [if_pos (Or.inl c1)]; omega
      · rw [if_neg (by omega), if_pos c1]; omega
    · by_cases c2 : S k = 5
      · rw [if_neg (by omega), if_neg (by omega)]
        cases o with
        | zero => have := ih (k + 1) 0; simp [suA] at this ⊢; omega
        | succ o =>
          have e0 := suA_shift (g := crA S (r + 1) k) o
          have e1 : suA (fun t => crA S (r + 1) k (t + 1)) o = suA (crA S r (k + 1)) o := suA_congr o (fun t _ => by rw [crA, if_neg c1, if_pos c2, if_neg (by omega)]; rfl)
          have e2 : crA S (r + 1) k 0 = 0 := by rw [crA, if_neg c1, if_pos c2, if_pos rfl]
          have e3 := ih (k + 1) o
          omega
      · by_cases c3 : S k = 4
        · rw [if_pos (Or.inr c3)]
          cases o with
          | zero => have := ih (k + 1) 0; simp [suA] at this ⊢; omega
          | succ o =>
            have e0 := suA_shift (g := crA S (r + 1) k) o
            have e0' := suA_shift (g := crA S r (k + 1)) o
            have e1 : suA (fun t => crA S (r + 1) k (t + 1)) o = suA (fun t => crA S r (k + 1) (t + 1)) o := suA_congr o (fun t _ => by rw [crA, if_neg c1, if_neg c2, if_neg (by omega)])
            have e2 : crA S (r + 1) k 0 = crA S r (k + 1) 0 + 1 := by rw [crA, if_neg c1, if_neg c2, if_pos ⟨c3, rfl⟩]
            have e3 := ih (k + 1) (o + 1)
            omega
        · rw [if_neg (by omega), if_neg (by omega)]
          have e1 : suA (crA S (r + 1) k) o = suA (crA S r (k + 1)) o := suA_congr o (fun t _ => by rw [crA, if_neg c1, if_neg c2, if_neg (fun z => c3 z.1)])
          have e3 := ih (k + 1) o
          omega
def tyR (A : aM) (i : Nat) (rm : Nat → Nat) (r : Nat) : Prop :=
  (A 17 r = 3 ∨ A 17 r = 4 ∨ A 17 r = 6) ∧ 0 < A 18 r ∧ A 18 r ≤ A 0 1 ∧ A 10 (A 18 r - 1) = A 21 (r + 1) ∧ A 21 (r + 1) = A 21 r + (if A 17 r = 4 then 1 else 0) ∧ A 21 r + 1 ≤ r ∧
  (A 17 r = 6 → A 7 (A 18 r - 1) = 0 ∧ A 12 (A 18 r - 1) = 0) ∧ (A 17 r = 4 → A 7 (A 18 r - 1) = 0 ∧ A 12 (A 18 r - 1) = 1) ∧
  (A 17 r ≠ 6 → A 19 r + rm r ≤ A 0 1) ∧ (A 17 r ≠ 6 → ∀ k, A 19 r ≤ k → k < A 19 r + rm r → A 7 k ≠ 0 ∧ A 10 k = A 21 r) ∧
  A 22 r ≤ i ∧ (∀ j, j < A 22 r → A (23 + r) j < A 0 0 ∧ A 4 (A (23 + r) j) = r) ∧ (∀ p, p < A 0 0 → A 4 p = r → ∃ j, j < A 22 r ∧ A (23 + r) j = p)
def tyL (A : aM) (rm : Nat → Nat) (k : Nat) : Prop := A 13 k ≠ 0 ∨ ∃ r, 1 ≤ r ∧ r ≤ A 0 3 ∧ ((A 17 r ≠ 3 ∧ A 18 r = k + 1) ∨ (A 17 r ≠ 6 ∧ A 19 r ≤ k ∧ k < A 19 r + rm r))
def tyG (A : aM) : Prop := A 18 0 = 0 ∧ A 21 1 = 0 ∧ A 6 (A 0 0) = 0 ∧ A 5 (A 0 0) = A 21 (A 0 3 + 1) ∧ A 6 0 = 0 ∧ A 5 0 = 0 ∧ A 0 3 ≤ 5
def tyS (A : aM) : Prop := (∀ s, s < A 0 2 → A 14 s ≤ A 15 s ∧ A 15 s < A 0 0) ∧ (∀ s, s + 1 < A 0 2 → A 15 s < A 14 (s + 1)) ∧ ∀ p, p < A 0 0 → A 1 p = 1 ∨ A 1 p = 2 ∨ A 1 p = 3 → ∃ s, s < A 0 2 ∧ A 14 s ≤ p ∧ p ≤ A 15 s ∧ A 16 s = A 3 p
def csA (L H : Nat → Nat) : Nat → Nat × (Nat → Nat) × (Nat → Nat) × (Nat → Nat)
  | 0 => (0, fun _ => 0, fun _ => 0, fun _ => 0)
  | k + 1 => if L k = 1 ∨ L k = 2 ∨ L k = 3 then
      (if 0 < (csA L H k).1 ∧ (csA L H k).2.2.2 ((csA L H k).1 - 1) = H k then ((csA L H k).1, (csA L H k).2.1, (fun j => if j = (csA L H k).1 - 1 then k else (csA L H k).2.2.1 j), (csA L H k).2.2.2)
       else ((csA L H k).1 + 1, (fun j => if j = (csA L H k).1 then k else (csA L H k).2.1 j), (fun j => if j = (csA L H k).1 then k else (csA L H k).2.2.1 j), (fun j => if j = (csA L H k).1 then H k else (csA L H k).2.2.2 j)))
    else csA L H k
theorem csA_congr {L H L' H' : Nat → Nat} : ∀ n, (∀ k, k < n → L k = L' k ∧ H k = H' k) → csA L H n = csA L' H' n
  | 0, _ => rfl
  | n + 1, h => by
    have h1 := csA_congr n (fun k hk => h k (by omega))
    obtain ⟨h2, h3⟩ := h n (by omega)
    unfold csA
    rw [h1, h2, h3]
def tyC (A : aM) : Prop := (csA (A 1) (A 3) (A 0 0)).1 = A 0 2 ∧ ∀ s, s < A 0 2 → (csA (A 1) (A 3) (A 0 0)).2.1 s = A 14 s ∧ (csA (A 1) (A 3) (A 0 0)).2.2.1 s = A 15 s ∧ (csA (A 1) (A 3) (A 0 0)).2.2.2 s = A 16 s
def tyI (S : Nat → Nat) (T len i : Nat) (A : aM) : Prop :=
  (∀ p, p < A 0 0 → tyP T A p) ∧ (∀ k, k < A 0 1 → tyK T A k) ∧ (∀ r, 1 ≤ r → r ≤ A 0 3 → tyR A i (fun r => crA S (len - i) i (A 0 3 - r)) r) ∧ (∀ k, k < A 0 1 → tyL A (fun r => crA S (len - i) i (A 0 3 - r)) k) ∧ tyG A ∧ tyS A ∧ tyC A ∧
  A 0 0 ≤ 4 * i ∧ A 0 2 ≤ i ∧ A 0 1 + fdA S (len - i) i ≤ 40 ∧ wfA S (len - i) i (A 0 3) (A 17)
theorem em_TG {l v h c : Nat} {A : aM} (H : tyG A) (hc : c = A 5 (A 0 0)) : tyG (emA l v h 0 c 0 A) := by
  simp only [tyG, emA, au] at H ⊢
  simp
  grind
theorem em_TR {l v h c w i : Nat} {rm : Nat → Nat} {A : aM} {r : Nat} (hr : 1 ≤ r) (H : tyR A i rm r) : tyR (emA l v h 0 c w A) i rm r := by
  have h1 : ¬ (23 + r = 0) := by omega
  have h2 : ¬ (23 + r = 6) := by omega
  have h3 : ¬ (23 + r = 5) := by omega
  have h4 : ¬ (23 + r = 4) := by omega
  have h5 : ¬ (23 + r = 3) := by omega
  have h6 : ¬ (23 + r = 2) := by omega
  have h7 : ¬ (23 + r = 1) := by omega
  simp only [tyR, emA, au] at H ⊢
  simp only [h1, h2, h3, h4, h5, h6, h7, false_and, if_false]
  simp
  grind
theorem em_TL {l v h r c w : Nat} {rm : Nat → Nat} {A : aM} {k : Nat} (H : tyL A rm k) : tyL (emA l v h r c w A) rm k := by
  simp only [tyL, emA, au] at H ⊢
  simpa using H
theorem em_TS {l v h r c w : Nat} {A : aM} (hl : ¬ (l = 1 ∨ l = 2 ∨ l = 3)) (H : tyS A) : tyS (emA l v h r c w A) := by
  simp only [tyS, emA, au] at H ⊢
  simp
  grind
theorem em_TC {l v h r c w : Nat} {A : aM} (hl : ¬ (l = 1 ∨ l = 2 ∨ l = 3)) (H : tyC A) : tyC (emA l v h r c w A) := by
  have e1 : csA ((emA l v h r c w A) 1) ((emA l v h r c w A) 3) (A 0 0) = csA (A 1) (A 3) (A 0 0) := csA_congr _ (fun k hk => by simp only [emA, au]; simp; omega)
  have e2 : csA ((emA l v h r c w A) 1) ((emA l v h r c w A) 3) (A 0 0 + 1) = csA (A 1) (A 3) (A 0 0) := by
    rw [csA, e1, if_neg]
    simp only [emA, au]; simpa using hl
  have e3 : (emA l v h r c w A) 0 0 = A 0 0 + 1 := by simp [emA, au]
  unfold tyC at H ⊢
  rw [e3, e2]
  simpa [emA, au] using H
theorem em_o {l v h r c w : Nat} {A : aM} : (emA l v h r c w A) 0 3 = A 0 3 ∧ (emA l v h r c w A) 0 1 = A 0 1 ∧ (emA l v h r c w A) 0 2 = A 0 2 ∧ (emA l v h r c w A) 0 0 = A 0 0 + 1 ∧ (emA l v h r c w A) 17 = A 17 := by
  refine ⟨?_, ?_, ?_, ?_, ?_⟩ <;> first | (simp [emA, au]; done) | (funext j; simp [emA, au])
theorem ci_print {S O : Nat → Nat} {T len i : Nat} {A : aM} (hi : i < len) (hs : S i = 0) (H : tyI S T len i A) : tyI S T len (i + 1) (stA S O len i A) := by
  rw [stA, if_pos hs]
  obtain ⟨a1, a2, a3, a4, a5, a6, a7, a8, a9, a10, a11⟩ := H
  obtain ⟨R, hR⟩ : ∃ R, len - i = R + 1 := ⟨len - (i + 1), by omega⟩
  have hR' : len - (i + 1) = R := by omega
  have cr : ∀ d, crA S (len - i) i d = crA S (len - (i + 1)) (i + 1) d := fun d => by
    rw [hR, hR', crA, if_neg (by omega), if_neg (by omega), if_neg (by omega)]
  simp only [cr] at a3 a4
  obtain ⟨o1, o2, o3, o4, o5⟩ := em_o (l := 0) (v := O i - 1) (h := A 18 (A 0 3)) (r := 0) (c := A 5 (A 0 0)) (w := 0) (A := A)
  unfold tyI
  rw [o1, o2, o3, o4, o5]
  refine ⟨em_TP a1 ?_, em_TA a2, ?_, ?_, em_TG a5 rfl, em_TS (by omega) a6, em_TC (by omega) a7, by omega, by omega, ?_, ?_⟩
  · simp only [tyG, tyP, emA, au] at a5 ⊢
    simp
    omega
  · intro r h1 h2
    have h3 := em_TR (l := 0) (v := O i - 1) (h := A 18 (A 0 3)) (c := A 5 (A 0 0)) (w := 0) h1 (a3 r h1 h2)
    unfold tyR at h3 ⊢
    refine ⟨h3.1, h3.2.1, h3.2.2.1, h3.2.2.2.1, h3.2.2.2.2.1, h3.2.2.2.2.2.1, h3.2.2.2.2.2.2.1, h3.2.2.2.2.2.2.2.1, h3.2.2.2.2.2.2.2.2.1, h3.2.2.2.2.2.2.2.2.2.1, Nat.le_succ_of_le h3.2.2.2.2.2.2.2.2.2.2.1, h3.2.2.2.2.2.2.2.2.2.2.2.1, h3.2.2.2.2.2.2.2.2.2.2.2.2⟩
  · intro k hk
    exact em_TL (a4 k hk)
  · rw [hR, fdA, if_neg (by omega), if_neg (by omega)] at a10
    rw [hR']; omega
  · rw [hR, wfA, if_neg (by omega), if_neg (by omega), if_neg (by omega), if_neg (by omega)] at a11
    rw [hR']; exact a11
