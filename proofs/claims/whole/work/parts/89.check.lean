theorem inC_CX {K : Nat → Int32} {Ka : Nat → Nat} : ∀ (r i : Nat), (∀ j, i ≤ j → j < i + r → K j = nI (Ka (j + 1)) ∧ Ka (j + 1) ≤ 7) → ((inCF K r i = 0 ↔ ¬ ∃ j, i + 1 ≤ j ∧ j ≤ i + r ∧ Ka j = 4) ∧ (inCF K r i = 0 ∨ inCF K r i = 1))
  | 0, i, _ => ⟨⟨fun _ => by rintro ⟨j, a, b, -⟩; omega, fun _ => rfl⟩, Or.inl rfl⟩
  | r + 1, i, h => by
    obtain ⟨h1, h2⟩ := h i (Nat.le_refl _) (by omega)
    have ih := inC_CX (K := K) (Ka := Ka) r (i + 1) (fun j a b => h j (by omega) (by omega))
    unfold inCF
    rw [h1]
    have e4 : (nI (Ka (i + 1)) = 4) = (Ka (i + 1) = 4) := propext (nS (c := 4) h2 (by decide))
    simp only [e4]
    by_cases c : Ka (i + 1) = 4
    · rw [if_pos c]
      refine ⟨⟨fun z => absurd z (by decide), fun z => absurd ⟨i + 1, by omega, by omega, c⟩ z⟩, Or.inr rfl⟩
    · rw [if_neg c]
      refine ⟨ih.1.trans ?_, ih.2⟩
      constructor
      · rintro z ⟨j, a, b, d⟩
        by_cases cj : j = i + 1
        · subst cj; exact c d
        · exact z ⟨j, by omega, by omega, d⟩
      · rintro z ⟨j, a, b, d⟩
        exact z ⟨j, by omega, by omega, d⟩
theorem wf_CX {S' : Nat → Int32} {S : Nat → Nat} : ∀ (r k o : Nat) (K : Nat → Int32) (Ka : Nat → Nat), o ≤ 5 → (∀ j, k ≤ j → j < k + r → S' j = nI (S j) ∧ S j ≤ 7) → (∀ j, j < o → K j = nI (Ka (j + 1)) ∧ Ka (j + 1) ≤ 7) → ((wfF S' r k o K).1 = 0 ↔ ¬ wfA S r k o Ka)
  | 0, k, o, K, Ka, _, _, _ => by
    unfold wfF wfA
    by_cases c : o = 0 <;> simp [c]
  | r + 1, k, o, K, Ka, ho, h, hK => by
    obtain ⟨h1, h2⟩ := h k (Nat.le_refl _) (by omega)
    have ih := fun o K Ka h3 h4 => wf_CX (S' := S') (S := S) r (k + 1) o K Ka h3 (fun j a b => h j (by omega) (by omega)) h4
    have e3 : (nI (S k) = 3) = (S k = 3) := propext (nS (c := 3) h2 (by decide))
    have e4 : (nI (S k) = 4) = (S k = 4) := propext (nS (c := 4) h2 (by decide))
    have e5 : (nI (S k) = 5) = (S k = 5) := propext (nS (c := 5) h2 (by decide))
    have e6 : (nI (S k) = 6) = (S k = 6) := propext (nS (c := 6) h2 (by decide))
    have e7 : (nI (S k) = 7) = (S k = 7) := propext (nS (c := 7) h2 (by decide))
    unfold wfF wfA
    rw [h1]
    have hc : ckS o K (nI (S k)) = if S k = 3 ∨ S k = 6 then (if o < 5 then (1, o + 1, upd K o (nI (S k))) else (0, o, K)) else if S k = 4 then (if 0 < o ∧ K (o - 1) ≠ 6 then (1, o, upd K (o - 1) 4) else (0, o, K)) else if S k = 5 then (if 0 < o ∧ K (o - 1) ≠ 3 then (1, o - 1, K) else (0, o, K)) else if S k = 7 then (inCF K o 0, o, K) else (1, o, K) := by
      unfold ckS
      simp only [e3, e4, e5, e6, e7]
    rw [hc]
    by_cases c1 : S k = 3 ∨ S k = 6
    · rw [if_pos c1, if_pos c1]
      by_cases c : o < 5
      · rw [if_pos c]; dsimp only; rw [if_neg (by decide)]
        rw [ih _ _ (fun j => if j = o + 1 then S k else Ka j) (by omega) (fun j hj => by
          unfold upd
          by_cases cj : j = o
          · simp [cj, h2]
          · rw [if_neg cj, if_neg (by omega)]; exact hK j (by omega))]
        exact ⟨fun z w => z w.2, fun z w => z ⟨c, w⟩⟩
      · rw [if_neg c]; dsimp only; rw [if_pos rfl]
        exact ⟨fun _ z => c z.1, fun _ => rfl⟩
    · rw [if_neg c1, if_neg c1]
      by_cases c2 : S k = 4
      · rw [if_pos c2, if_pos c2]
        by_cases co : 0 < o
        · obtain ⟨k1, k2⟩ := hK (o - 1) (by omega)
          rw [show o - 1 + 1 = o by omega] at k1 k2
          have ek : (K (o - 1) ≠ 6) = (Ka o ≠ 6) := by rw [k1]; exact propext (not_congr (nS (c := 6) k2 (by decide)))
          simp only [ek]
          by_cases c : 0 < o ∧ Ka o ≠ 6
          · rw [if_pos c]; dsimp only; rw [if_neg (by decide)]
            rw [ih _ _ (fun j => if j = o then 4 else Ka j) ho (fun j hj => by
              unfold upd
              by_cases cj : j = o - 1
              · rw [if_pos cj, if_pos (by omega)]; exact ⟨by decide, by decide⟩
              · rw [if_neg cj, if_neg (by omega)]; exact hK j (by omega))]
            exact ⟨fun z w => z w.2, fun z w => z ⟨c, w⟩⟩
          · rw [if_neg c]; dsimp only; rw [if_pos rfl]
            exact ⟨fun _ z => c z.1, fun _ => rfl⟩
        · rw [if_neg (show ¬ (0 < o ∧ K (o - 1) ≠ 6) from fun z => co z.1)]; dsimp only; rw [if_pos rfl]
          exact ⟨fun _ z => co z.1.1, fun _ => rfl⟩
      · rw [if_neg c2, if_neg c2]
        by_cases c3 : S k = 5
        · rw [if_pos c3, if_pos c3]
          by_cases co : 0 < o
          · obtain ⟨k1, k2⟩ := hK (o - 1) (by omega)
            rw [show o - 1 + 1 = o by omega] at k1 k2
            have ek : (K (o - 1) ≠ 3) = (Ka o ≠ 3) := by rw [k1]; exact propext (not_congr (nS (c := 3) k2 (by decide)))
            simp only [ek]
            by_cases c : 0 < o ∧ Ka o ≠ 3
            · rw [if_pos c]; dsimp only; rw [if_neg (by decide)]
              rw [ih _ _ Ka (by omega) (fun j hj => hK j (by omega))]
              exact ⟨fun z w => z w.2, fun z w => z ⟨c, w⟩⟩
            · rw [if_neg c]; dsimp only; rw [if_pos rfl]
              exact ⟨fun _ z => c z.1, fun _ => rfl⟩
          · rw [if_neg (show ¬ (0 < o ∧ K (o - 1) ≠ 3) from fun z => co z.1)]; dsimp only; rw [if_pos rfl]
            exact ⟨fun _ z => co z.1.1, fun _ => rfl⟩
        · rw [if_neg c3, if_neg c3]
          by_cases c4 : S k = 7
          · rw [if_pos c4, if_pos c4]
            obtain ⟨i1, i2⟩ := inC_CX (K := K) (Ka := Ka) o 0 (fun j _ hj => hK j (by omega))
            simp only [Nat.zero_add] at i1
            dsimp only
            by_cases c : inCF K o 0 = 0
            · rw [if_pos c]
              exact ⟨fun _ z => i1.mp c z.1, fun _ => rfl⟩
            · rw [if_neg c]
              rw [ih _ _ Ka ho hK]
              have hex : ∃ j, 1 ≤ j ∧ j ≤ o ∧ Ka j = 4 := Classical.byContradiction fun z => c (i1.mpr z)
              exact ⟨fun z w => z w.2, fun z w => z ⟨hex, w⟩⟩
          · rw [if_neg c4, if_neg c4]; dsimp only; rw [if_neg (by decide)]
            exact ih _ _ Ka ho hK
theorem inM_CX {K : Nat → Int32} {Ka : Nat → Nat} : ∀ (r i : Nat) (b : Int32), (∀ j, i ≤ j → j < i + r → K j = nI (Ka j) ∧ Ka j ≤ 7) → (inMF K r i b = 0 ↔ b = 0 ∧ ¬ ∃ j, i ≤ j ∧ j < i + r ∧ Ka j = 4)
  | 0, i, b, _ => by
    unfold inMF
    exact ⟨fun z => ⟨z, by rintro ⟨j, a, c, -⟩; omega⟩, fun z => z.1⟩
  | r + 1, i, b, h => by
    obtain ⟨h1, h2⟩ := h i (Nat.le_refl _) (by omega)
    have ih := fun b => inM_CX (K := K) (Ka := Ka) r (i + 1) b (fun j a b => h j (by omega) (by omega))
    unfold inMF
    rw [h1]
    have e4 : (nI (Ka i) = 4) = (Ka i = 4) := propext (nS (c := 4) h2 (by decide))
    simp only [e4]
    rw [ih]
    by_cases cb : b = 0
    · by_cases c : Ka i = 4
      · rw [if_pos (Or.inr c)]
        exact ⟨fun z => absurd z.1 (by decide), fun z => absurd ⟨i, by omega, by omega, c⟩ z.2⟩
      · rw [if_neg (by simp [cb, c])]
        refine ⟨fun z => ⟨cb, ?_⟩, fun z => ⟨rfl, ?_⟩⟩
        · rintro ⟨j, a, d, e⟩
          by_cases cj : j = i
          · subst cj; exact c e
          · exact z.2 ⟨j, by omega, by omega, e⟩
        · rintro ⟨j, a, d, e⟩
          exact z.2 ⟨j, by omega, by omega, e⟩
    · rw [if_pos (Or.inl cb)]
      exact ⟨fun z => absurd z.1 (by decide), fun z => absurd z.1 cb⟩
theorem wm_CM {S' : Nat → Int32} {S : Nat → Nat} : ∀ (r k o : Nat) (K : Nat → Int32) (Ka : Nat → Nat), o ≤ 5 → (∀ j, k ≤ j → j < k + r → S' j = nI (S j) ∧ S j ≤ 7) → (∀ j, 1 ≤ j → j ≤ o → K j = nI (Ka j) ∧ Ka j ≤ 7) → ((wmF S' r k o K).1 = 0 ↔ ¬ wfA S r k o Ka)
  | 0, k, o, K, Ka, _, _, _ => by
    unfold wmF wfA
    by_cases c : o = 0 <;> simp [c]
  | r + 1, k, o, K, Ka, ho, h, hK => by
    obtain ⟨h1, h2⟩ := h k (Nat.le_refl _) (by omega)
    have ih := fun o K Ka h3 h4 => wm_CM (S' := S') (S := S) r (k + 1) o K Ka h3 (fun j a b => h j (by omega) (by omega)) h4
    have e3 : (nI (S k) = 3) = (S k = 3) := propext (nS (c := 3) h2 (by decide))
    have e4 : (nI (S k) = 4) = (S k = 4) := propext (nS (c := 4) h2 (by decide))
    have e5 : (nI (S k) = 5) = (S k = 5) := propext (nS (c := 5) h2 (by decide))
    have e6 : (nI (S k) = 6) = (S k = 6) := propext (nS (c := 6) h2 (by decide))
    have e7 : (nI (S k) = 7) = (S k = 7) := propext (nS (c := 7) h2 (by decide))
    unfold wmF wfA
    rw [h1]
    have hc : mkS o K (nI (S k)) = if S k = 3 ∨ S k = 6 then (if o = 5 then (0, o, K) else (1, o + 1, upd K (o + 1) (nI (S k)))) else if S k = 4 then (if o = 0 ∨ K o = 6 then (0, o, K) else (1, o, upd K o 4)) else if S k = 5 then (if o = 0 ∨ K o = 3 then (0, o, K) else (1, o - 1, K)) else if S k = 7 then (if inMF K o 1 0 = 0 then 0 else 1, o, K) else (1, o, K) := by
      unfold mkS
      simp only [e3, e4, e5, e6, e7]
    rw [hc]
    by_cases c1 : S k = 3 ∨ S k = 6
    · rw [if_pos c1, if_pos c1]
      by_cases c : o = 5
      · rw [if_pos c]; dsimp only; rw [if_pos rfl]
        exact ⟨fun _ z => by omega, fun _ => rfl⟩
      · rw [if_neg c]; dsimp only; rw [if_neg (by decide)]
        rw [ih _ _ (fun j => if j = o + 1 then S k else Ka j) (by omega) (fun j hj1 hj => by
          unfold upd
          by_cases cj : j = o + 1
          · rw [if_pos cj]; simp only [if_pos cj]; exact ⟨trivial, h2⟩
          · rw [if_neg cj]; simp only [if_neg cj]; exact hK j hj1 (by omega))]
        exact ⟨fun z w => z w.2, fun z w => z ⟨by omega, w⟩⟩
    · rw [if_neg c1, if_neg c1]
      by_cases c2 : S k = 4
      · rw [if_pos c2, if_pos c2]
        by_cases co : o = 0
        · rw [if_pos (show o = 0 ∨ K o = 6 from Or.inl co)]; dsimp only; rw [if_pos rfl]
          exact ⟨fun _ z => by omega, fun _ => rfl⟩
        · obtain ⟨k1, k2⟩ := hK o (by omega) (Nat.le_refl _)
          have ek : (K o = 6) = (Ka o = 6) := by rw [k1]; exact propext (nS (c := 6) k2 (by decide))
          simp only [ek]
          by_cases c : o = 0 ∨ Ka o = 6
          · rw [if_pos c]; dsimp only; rw [if_pos rfl]
            exact ⟨fun _ z => by omega, fun _ => rfl⟩
          · rw [if_neg c]; dsimp only; rw [if_neg (by decide)]
            rw [ih _ _ (fun j => if j = o then 4 else Ka j) ho (fun j hj1 hj => by
              unfold upd
              by_cases cj : j = o
              · rw [if_pos cj]; simp only [if_pos cj]; exact ⟨by decide, by decide⟩
              · rw [if_neg cj]; simp only [if_neg cj]; exact hK j hj1 hj)]
            exact ⟨fun z w => z w.2, fun z w => z ⟨by omega, w⟩⟩
      · rw [if_neg c2, if_neg c2]
        by_cases c3 : S k = 5
        · rw [if_pos c3, if_pos c3]
          by_cases co : o = 0
          · rw [if_pos (show o = 0 ∨ K o = 3 from Or.inl co)]; dsimp only; rw [if_pos rfl]
            exact ⟨fun _ z => by omega, fun _ => rfl⟩
          · obtain ⟨k1, k2⟩ := hK o (by omega) (Nat.le_refl _)
            have ek : (K o = 3) = (Ka o = 3) := by rw [k1]; exact propext (nS (c := 3) k2 (by decide))
            simp only [ek]
            by_cases c : o = 0 ∨ Ka o = 3
            · rw [if_pos c]; dsimp only; rw [if_pos rfl]
              exact ⟨fun _ z => by omega, fun _ => rfl⟩
            · rw [if_neg c]; dsimp only; rw [if_neg (by decide)]
              rw [ih _ _ Ka (by omega) (fun j hj1 hj => hK j hj1 (by omega))]
              exact ⟨fun z w => z w.2, fun z w => z ⟨by omega, w⟩⟩
        · rw [if_neg c3, if_neg c3]
          by_cases c4 : S k = 7
          · rw [if_pos c4, if_pos c4]
            have i1 := inM_CX (K := K) (Ka := Ka) o 1 0 (fun j h1 hj => hK j h1 (by omega))
            by_cases c : inMF K o 1 0 = 0
            · rw [if_pos c]; dsimp only; rw [if_pos rfl]
              refine ⟨fun _ z => (i1.mp c).2 ?_, fun _ => rfl⟩
              obtain ⟨j, a, b, d⟩ := z.1
              exact ⟨j, a, by omega, d⟩
            · rw [if_neg c]; dsimp only; rw [if_neg (by decide)]
              rw [ih _ _ Ka ho hK]
              have hex : ∃ j, 1 ≤ j ∧ j ≤ o ∧ Ka j = 4 := Classical.byContradiction fun z => c (i1.mpr ⟨rfl, fun ⟨j, a, b, d⟩ => z ⟨j, a, by omega, d⟩⟩)
              exact ⟨fun z w => z w.2, fun z w => z ⟨hex, w⟩⟩
          · rw [if_neg c4, if_neg c4]; dsimp only; rw [if_neg (by decide)]
            exact ih _ _ Ka ho hK
theorem cs_le {L H : Nat → Nat} (k : Nat) : (csA L H k).1 ≤ (csA L H (k + 1)).1 := by
  have e : csA L H (k + 1) = if L k = 1 ∨ L k = 2 ∨ L k = 3 then
      (if 0 < (csA L H k).1 ∧ (csA L H k).2.2.2 ((csA L H k).1 - 1) = H k then ((csA L H k).1, (csA L H k).2.1, (fun j => if j = (csA L H k).1 - 1 then k else (csA L H k).2.2.1 j), (csA L H k).2.2.2)
       else ((csA L H k).1 + 1, (fun j => if j = (csA L H k).1 then k else (csA L H k).2.1 j), (fun j => if j = (csA L H k).1 then k else (csA L H k).2.2.1 j), (fun j => if j = (csA L H k).1 then H k else (csA L H k).2.2.2 j)))
    else csA L H k := rfl
  rw [e]
  split
  · split
    · exact Nat.le_refl _
    · exact Nat.le_succ _
  · exact Nat.le_refl _
theorem cs_mono {L H : Nat → Nat} {k : Nat} : ∀ d, (csA L H k).1 ≤ (csA L H (k + d)).1
  | 0 => Nat.le_refl _
  | d + 1 => Nat.le_trans (cs_mono d) (cs_le (k + d))
theorem cs_CM {f N : Nat} {L H : Nat → Nat} {x : tm_M} (hL : ∀ p, p < N → x.2 (0, 0, 6) (128 * f + p) = nI (L p) ∧ L p ≤ 8 ∧ x.2 (0, 0, 8) (128 * f + p) = hv (H p) ∧ (L p = 1 ∨ L p = 2 ∨ L p = 3 → H p ≤ 40)) (h20 : (csA L H N).1 ≤ 20) : ∀ k, k ≤ N →
    (csF f x k).1 = (csA L H k).1 ∧ (csF f x k).2.1 = x.1 ∧ (∀ a, a ≠ 13 → a ≠ 14 → a ≠ 15 → a ≠ 16 → (csF f x k).2.2 (0, 0, a) = x.2 (0, 0, a)) ∧ (csF f x k).2.2 (0, 0, 13) f = nI (csA L H k).1 ∧
    (∀ s, s < (csA L H k).1 → (csF f x k).2.2 (0, 0, 14) (64 * f + s) = nI ((csA L H k).2.1 s) ∧ (csF f x k).2.2 (0, 0, 15) (64 * f + s) = nI ((csA L H k).2.2.1 s) ∧ (csF f x k).2.2 (0, 0, 16) (64 * f + s) = hv ((csA L H k).2.2.2 s)) ∧ CMf f x (csF f x k).2
  | 0, _ => by
    refine ⟨rfl, rfl, fun a h1 h2 h3 h4 => ?_, ?_, fun s hs => absurd hs (Nat.not_lt_zero _), cm_A in13 cm_r⟩
    · show (sA x (0, 0, 13) f 0).2 (0, 0, a) = _
      rw [rAK (by simp; exact h1)]
    · show (sA x (0, 0, 13) f 0).2 (0, 0, 13) f = _
      rw [rA]; rfl
  | k + 1, hk => by
    obtain ⟨i1, i2, i3, i4, i5, i6⟩ := cs_CM hL h20 k (by omega)
    obtain ⟨g1, g2, g3, g4⟩ := hL k (by omega)
    have e1 : (nI (L k) = 1) = (L k = 1) := propext (nI_eq (b := 1) (by omega) (by decide))
    have e2 : (nI (L k) = 2) = (L k = 2) := propext (nI_eq (b := 2) (by omega) (by decide))
    have e3 : (nI (L k) = 3) = (L k = 3) := propext (nI_eq (b := 3) (by omega) (by decide))
    have hq : (csA L H k).1 ≤ 20 := Nat.le_trans (by have := cs_mono (L := L) (H := H) (k := k) (N - k); rwa [show k + (N - k) = N by omega] at this) h20
    have hq1 : (csA L H (k + 1)).1 ≤ 20 := Nat.le_trans (by have := cs_mono (L := L) (H := H) (k := k + 1) (N - (k + 1)); rwa [show k + 1 + (N - (k + 1)) = N by omega] at this) h20
    have ea : csA L H (k + 1) = if L k = 1 ∨ L k = 2 ∨ L k = 3 then
      (if 0 < (csA L H k).1 ∧ (csA L H k).2.2.2 ((csA L H k).1 - 1) = H k then ((csA L H k).1, (csA L H k).2.1, (fun j => if j = (csA L H k).1 - 1 then k else (csA L H k).2.2.1 j), (csA L H k).2.2.2)
       else ((csA L H k).1 + 1, (fun j => if j = (csA L H k).1 then k else (csA L H k).2.1 j), (fun j => if j = (csA L H k).1 then k else (csA L H k).2.2.1 j), (fun j => if j = (csA L H k).1 then H k else (csA L H k).2.2.2 j)))
      else csA L H k := rfl
    rw [ea] at hq1 ⊢
    unfold csF
    rw [g1, g3]
    simp only [e1, e2, e3]
    by_cases c : L k = 1 ∨ L k = 2 ∨ L k = 3
    · rw [if_pos c, if_pos c]
      rw [if_pos c] at hq1
      have g5 := g4 c
      have hc : (0 < (csF f x k).1 ∧ (csF f x k).2.2 (0, 0, 16) (64 * f + (csF f x k).1 - 1) = hv (H k)) ↔ (0 < (csA L H k).1 ∧ (csA L H k).2.2.2 ((csA L H k).1 - 1) = H k) := by
        rw [i1]
        by_cases z : 0 < (csA L H k).1
        · rw [show 64 * f + (csA L H k).1 - 1 = 64 * f + ((csA L H k).1 - 1) by omega, (i5 _ (by omega)).2.2]
          obtain ⟨p, p1, p2, p3⟩ := csA_heads (L := L) (H := H) k ((csA L H k).1 - 1) (by omega)
          have := (hL p (by omega)).2.2.2 p2
          rw [hv_eq (by omega) (by omega)]
        · exact ⟨fun w => absurd w.1 z, fun w => absurd w.1 z⟩
      by_cases c2 : 0 < (csA L H k).1 ∧ (csA L H k).2.2.2 ((csA L H k).1 - 1) = H k
      · rw [if_pos (hc.mpr c2), if_pos c2]
        dsimp only
        rw [i1, show 64 * f + (csA L H k).1 - 1 = 64 * f + ((csA L H k).1 - 1) by omega]
        refine ⟨rfl, i2, fun a h1 h2 h3 h4 => ?_, ?_, fun s hs => ?_, cm_A (in14 (by omega) (by omega)) i6⟩
        · rw [rAK (by simp; exact h3)]; exact i3 a h1 h2 h3 h4
        · rw [rAK (by simp)]; exact i4
        · have j5 := i5 s hs
          rw [rAK (K' := (0, 0, 14)) (by simp), rAK (K' := (0, 0, 16)) (by simp)]
          refine ⟨j5.1, ?_, j5.2.2⟩
          by_cases cs : s = (csA L H k).1 - 1
          · subst cs; rw [rA, if_pos rfl]
          · rw [rAi (by omega), if_neg cs]; exact j5.2.1
      · rw [if_neg (fun z => c2 (hc.mp z)), if_neg c2]
        rw [if_neg c2] at hq1
        dsimp only at hq1 ⊢
        rw [i1]
        refine ⟨rfl, i2, fun a h1 h2 h3 h4 => ?_, ?_, fun s hs => ?_, cm_A in13 (cm_A (in14 (by omega) (by omega)) (cm_A (in14 (by omega) (by omega)) (cm_A (in14 (by omega) (by omega)) i6)))⟩
        · rw [rAK (by simp; exact h1), rAK (by simp; exact h4), rAK (by simp; exact h3), rAK (by simp; exact h2)]; exact i3 a h1 h2 h3 h4
        · rw [rA]
        · by_cases cs : s = (csA L H k).1
          · subst cs
            simp only [sA]
            simp [upd]
          · have j5 := i5 s (by omega)
            simp only [sA]
            simp [upd, cs]
            exact j5
    · rw [if_neg c, if_neg c]
      exact ⟨i1, i2, i3, i4, i5, i6⟩
