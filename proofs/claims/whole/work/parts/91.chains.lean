theorem hd_first {A : aM} {F L H : Nat → Int32} {p : Nat} (hp : p < 2 ^ 31) (hs : ∀ s, s < A 0 2 → F s = nI (A 14 s) ∧ L s = nI (A 15 s) ∧ H s = hv (A 16 s)) (hb : ∀ s, s < A 0 2 → A 14 s < 2 ^ 31 ∧ A 15 s < 2 ^ 31) {s0 : Nat} (h0 : s0 < A 0 2) (hin : A 14 s0 ≤ p ∧ p ≤ A 15 s0) (hun : ∀ s, s < A 0 2 → A 14 s ≤ p → p ≤ A 15 s → s = s0) : ∀ r k, k + r = A 0 2 → k ≤ s0 → hdF F L H (nI p) r k = hv (A 16 s0)
  | 0, k, h1, h2 => by omega
  | r + 1, k, h1, h2 => by
    obtain ⟨a, b, c⟩ := hs k (by omega)
    obtain ⟨d, e⟩ := hb k (by omega)
    unfold hdF
    rw [a, b, c]
    have hz : (nI (A 14 k) ≤ nI p ∧ nI p ≤ nI (A 15 k)) ↔ (A 14 k ≤ p ∧ p ≤ A 15 k) := and_congr (nI_leI d hp) (nI_leI hp e)
    by_cases z : A 14 k ≤ p ∧ p ≤ A 15 k
    · rw [if_pos (hz.mpr z), hun k (by omega) z.1 z.2]
    · rw [if_neg (fun w => z (hz.mp w))]
      have : k ≠ s0 := fun w => z (by rw [w]; exact hin)
      exact hd_first hp hs hb h0 hin hun r (k + 1) (by omega) (by omega)
theorem ha_last {A : aM} {F L H : Nat → Int32} {p : Nat} (hp : p < 2 ^ 31) (hs : ∀ s, s < A 0 2 → F s = nI (A 14 s) ∧ L s = nI (A 15 s) ∧ H s = hv (A 16 s)) (hb : ∀ s, s < A 0 2 → A 14 s < 2 ^ 31 ∧ A 15 s < 2 ^ 31) {s0 : Nat} (h0 : s0 < A 0 2) (hin : A 14 s0 ≤ p ∧ p ≤ A 15 s0) (hun : ∀ s, s < A 0 2 → A 14 s ≤ p → p ≤ A 15 s → s = s0) : ∀ r k b, k + r = A 0 2 → (s0 < k → b = hv (A 16 s0)) → haF F L H (nI p) r k b = hv (A 16 s0)
  | 0, k, b, h1, h2 => by unfold haF; exact h2 (by omega)
  | r + 1, k, b, h1, h2 => by
    obtain ⟨a, b', c⟩ := hs k (by omega)
    obtain ⟨d, e⟩ := hb k (by omega)
    unfold haF
    refine ha_last hp hs hb h0 hin hun r (k + 1) _ (by omega) (fun hk => ?_)
    rw [a, b', c]
    have hz : (nI (A 14 k) ≤ nI p ∧ nI p ≤ nI (A 15 k)) ↔ (A 14 k ≤ p ∧ p ≤ A 15 k) := and_congr (nI_leI d hp) (nI_leI hp e)
    by_cases z : A 14 k ≤ p ∧ p ≤ A 15 k
    · rw [if_pos (hz.mpr z), hun k (by omega) z.1 z.2]
    · rw [if_neg (fun w => z (hz.mp w))]
      have : k ≠ s0 := fun w => z (by rw [w]; exact hin)
      exact h2 (by omega)
theorem site_un {A : aM} {p : Nat} (H : tyS A) : ∀ s s', s < A 0 2 → s' < A 0 2 → A 14 s ≤ p → p ≤ A 15 s → A 14 s' ≤ p → p ≤ A 15 s' → s = s' := by
  have key : ∀ d s, s + d + 1 < A 0 2 → A 15 s < A 14 (s + d + 1) := by
    intro d
    induction d with
    | zero => intro s h; exact H.2.1 s h
    | succ d ih =>
      intro s h
      have h1 := ih s (by omega)
      have h2 := (H.1 (s + d + 1) (by omega)).1
      have h3 := H.2.1 (s + d + 1) (by omega)
      rw [show s + (d + 1) + 1 = s + d + 1 + 1 by omega]
      omega
  intro s s' h1 h2 h3 h4 h5 h6
  rcases Nat.lt_trichotomy s s' with h | h | h
  · have := key (s' - s - 1) s (by omega)
    rw [show s + (s' - s - 1) + 1 = s' by omega] at this
    omega
  · exact h
  · have := key (s - s' - 1) s' (by omega)
    rw [show s' + (s - s' - 1) + 1 = s by omega] at this
    omega
theorem head_at {T : Nat} {A : aM} {F L H : Nat → Int32} {p : Nat} (hg : gpA T A) (hp : p < A 0 0) (hl : A 1 p = 1 ∨ A 1 p = 2 ∨ A 1 p = 3) (hs : ∀ s, s < A 0 2 → F s = nI (A 14 s) ∧ L s = nI (A 15 s) ∧ H s = hv (A 16 s)) : hdF F L H (nI p) (A 0 2) 0 = hv (A 3 p) ∧ haF F L H (nI p) (A 0 2) 0 (-1) = hv (A 3 p) := by
  have hS := hg.2.2.2.2.2.1
  have hn := hg.1
  obtain ⟨s0, h0, h1, h2, h3⟩ := hS.2.2 p hp hl
  have hb : ∀ s, s < A 0 2 → A 14 s < 2 ^ 31 ∧ A 15 s < 2 ^ 31 := fun s hs => by
    have := hS.1 s hs
    omega
  have hun : ∀ s, s < A 0 2 → A 14 s ≤ p → p ≤ A 15 s → s = s0 := fun s a b c => site_un hS s s0 a h0 b c h1 h2
  rw [← h3]
  exact ⟨hd_first (by omega) hs hb h0 ⟨h1, h2⟩ hun _ 0 (by omega) (by omega), ha_last (by omega) hs hb h0 ⟨h1, h2⟩ hun _ 0 _ (by omega) (fun z => by omega)⟩
def lnA (A : aM) (hd ha d : Nat) : Nat → Nat → Nat
  | 0, _ => 0
  | r + 1, h => if h = 0 then 0 else if A 7 (h - 1) = 0 ∨ (d = hd ∧ h - 1 = ha) then h else lnA A hd ha d r (A 9 (h - 1))
def chG (T : Nat) (A : aM) (h : Nat) : Prop := h ≤ A 0 1
theorem ne_le {T : Nat} {A : aM} (hg : gpA T A) {k : Nat} (hk : k < A 0 1) : A 9 k ≤ A 0 1 := by
  have := (hg.2.2.2.2.1 k hk).1.2.2.2.2.2.2.1
  omega
theorem hv_in {a h : Nat} (hh : h ≤ a) (ha : a < 2 ^ 31) : (0 ≤ hv h ∧ hv h < nI a) ↔ h ≠ 0 := by
  unfold hv
  by_cases c : h = 0
  · rw [if_pos c]
    exact ⟨fun z => absurd z.1 (by decide), fun z => absurd c z⟩
  · rw [if_neg c]
    exact ⟨fun _ => c, fun _ => ⟨nI_pos' (by omega), nI_lt (by omega) ha⟩⟩
theorem hv_cl {h : Nat} (h0 : h ≠ 0) (hh : h < 2 ^ 31) : (hv h).toNatClampNeg = h - 1 := by
  unfold hv; rw [if_neg h0, nI_clamp (by omega)]
theorem fI_m2 {k : Nat} (hk : k < 2 ^ 30) : fI k = -2 ↔ k = 0 := by
  unfold fI
  by_cases c : k = 0
  · simp [c]
  · rw [if_neg c]
    refine ⟨fun z => ?_, fun z => absurd z c⟩
    unfold hv at z
    split at z
    · exact absurd z (by decide)
    · exact absurd (z ▸ (by decide : (-2 : Int32) < 0)) (nI_pos (by omega))
theorem fI_m1 {k : Nat} (hk : k < 2 ^ 30) : fI k = -1 ↔ k = 1 := by
  unfold fI
  by_cases c : k = 0
  · rw [if_pos c]; exact ⟨fun z => absurd z (by decide), fun z => by omega⟩
  · rw [if_neg c]
    have := hv_eq (a := k - 1) (b := 0) (by omega) (by decide)
    rw [hv_0] at this
    rw [this]; omega
theorem ln_CX {T hd ha d : Nat} {A : aM} {Fi Ne : Nat → Int32} {c hD hA : Int32} (hg : gpA T A) (hT : T ≤ 8) (hc : c = nI (A 0 1)) (hd8 : d ≤ 8) (hhd : hd ≤ 8) (hD' : hD = nI hd) (hA' : hA = nI ha) (hha : ha < 2 ^ 31) (hk : ∀ k, k < A 0 1 → Fi k = fI (A 7 k) ∧ Ne k = hv (A 9 k)) : ∀ r h, h ≤ A 0 1 → lnF c Fi Ne (nI d) hD hA r (hv h) = hv (lnA A hd ha d r h)
  | 0, h, _ => by unfold lnF lnA; rw [hv_0]
  | r + 1, h, hh => by
    have a40 := hg.2.1
    unfold lnF lnA
    rw [hc]
    by_cases z : h = 0
    · rw [if_neg (fun w => (hv_in hh (by omega)).mp w z), if_pos z, hv_0]
    · rw [if_pos ((hv_in hh (by omega)).mpr z), if_neg z, hv_cl z (by omega)]
      obtain ⟨f1, f2⟩ := hk (h - 1) (by omega)
      have f7 := (hg.2.2.2.2.1 (h - 1) (by omega)).1.1
      rw [f1, f2]
      have hz : (fI (A 7 (h - 1)) = -2 ∨ (nI d = hD ∧ hv h = hA)) ↔ (A 7 (h - 1) = 0 ∨ (d = hd ∧ h - 1 = ha)) := by
        rw [hD', hA', hv_P (by omega)]
        exact or_congr (fI_m2 (by omega)) (and_congr (nI_eq (by omega) (by omega)) (nI_eq (by omega) hha))
      by_cases q : A 7 (h - 1) = 0 ∨ (d = hd ∧ h - 1 = ha)
      · rw [if_pos (hz.mpr q), if_pos q]
      · rw [if_neg (fun w => q (hz.mp w)), if_neg q]
        have := ln_CX hg hT hc hd8 hhd hD' hA' hha hk r (A 9 (h - 1)) (ne_le hg (by omega))
        rw [hc] at this
        exact this
def anA (Pa : Nat → Nat) (w : Nat) : Nat → Nat → Prop
  | 0, _ => False
  | r + 1, h => h ≠ 0 ∧ (h = w + 1 ∨ anA Pa w r (Pa (h - 1)))
theorem anA_more {Pa : Nat → Nat} {T w : Nat} (hP : ∀ k, k < T → Pa k ≤ k) : ∀ r r' h, h ≤ T → h ≤ r → h ≤ r' → (anA Pa w r h ↔ anA Pa w r' h)
  | 0, r', h, _, h1, _ => by
    obtain rfl : h = 0 := by omega
    cases r' with
    | zero => exact Iff.rfl
    | succ r' => unfold anA; exact ⟨fun z => z.elim, fun z => absurd rfl z.1⟩
  | r + 1, 0, h, _, _, h2 => by
    obtain rfl : h = 0 := by omega
    unfold anA; exact ⟨fun z => absurd rfl z.1, fun z => z.elim⟩
  | r + 1, r' + 1, h, hT, h1, h2 => by
    unfold anA
    by_cases z : h = 0
    · exact ⟨fun w => absurd z w.1, fun w => absurd z w.1⟩
    · have hp := hP (h - 1) (by omega)
      rw [anA_more hP r r' (Pa (h - 1)) (by omega) (by omega) (by omega)]
theorem an_CX {Pa : Nat → Nat} {P : Nat → Int32} {T w : Nat} (hT : T ≤ 8) (hw : w < 2 ^ 30) (hP : ∀ k, k < T → Pa k ≤ k ∧ P k = hv (Pa k)) : ∀ r h, h ≤ T → (¬ anF (nI T) P (nI w) r (hv h) = 0 ↔ anA Pa w r h)
  | 0, h, _ => by unfold anF anA; simp
  | r + 1, h, hh => by
    unfold anF anA
    by_cases z : h = 0
    · rw [if_neg (fun q => (hv_in hh (by omega)).mp q z)]
      exact ⟨fun q => absurd rfl q, fun q => absurd z q.1⟩
    · rw [if_pos ((hv_in hh (by omega)).mpr z), hv_cl z (by omega), (hP (h - 1) (by omega)).2]
      have e : hv h = nI w ↔ h = w + 1 := by rw [hv_P (by omega), nI_eq (by omega) (by omega)]; omega
      have ih := an_CX hT hw hP r (Pa (h - 1)) (by have := (hP (h - 1) (by omega)).1; omega)
      by_cases q : hv h = nI w
      · rw [if_pos q]
        exact ⟨fun _ => ⟨z, Or.inl (e.mp q)⟩, fun _ => by decide⟩
      · rw [if_neg q, ih]
        exact ⟨fun k => ⟨z, Or.inr k⟩, fun k => k.2.resolve_left (fun v => q (e.mpr v))⟩
theorem an_m2 {P : Nat → Int32} {T : Nat} : ∀ r u, anF (nI T) P (-2) r u = 0
  | 0, _ => rfl
  | r + 1, u => by
    unfold anF
    split
    · rename_i h
      rw [if_neg (fun z => absurd h.1 (by rw [z]; decide))]
      exact an_m2 r _
    · rfl
theorem am_CM {Pa : Nat → Nat} {P : Nat → Int32} {T w : Nat} (hT : T ≤ 8) (hw : w < 2 ^ 30) (hP : ∀ k, k < T → Pa k ≤ k ∧ P k = hv (Pa k)) : ∀ r h, h ≤ T → h ≤ r → (¬ amF P (nI w) r (hv h) = 0 ↔ anA Pa w r h)
  | 0, h, _, h2 => by
    obtain rfl : h = 0 := by omega
    unfold amF anA bI
    rw [hv_0, if_neg (fun z => nI_m1 (by omega) z.symm)]
    simp
  | r + 1, h, hh, h2 => by
    unfold amF anA
    by_cases z : h = 0
    · subst z
      rw [hv_0, if_pos (Or.inl (by decide))]
      unfold bI
      rw [if_neg (fun z => nI_m1 (by omega) z.symm)]
      simp
    · have e : hv h = nI w ↔ h = w + 1 := by rw [hv_P (by omega), nI_eq (by omega) (by omega)]; omega
      have hnn : ¬ hv h < 0 := by rw [hv_P (by omega)]; exact nI_pos (by omega)
      have hp := (hP (h - 1) (by omega)).1
      have ih := am_CM hT hw hP r (Pa (h - 1)) (by omega) (by omega)
      by_cases q : hv h = nI w
      · rw [if_pos (Or.inr q)]
        unfold bI
        rw [if_pos q]
        exact ⟨fun _ => ⟨z, Or.inl (e.mp q)⟩, fun _ => by decide⟩
      · rw [if_neg (by rintro (k | k); exact hnn k; exact q k), hv_cl z (by omega), (hP (h - 1) (by omega)).2, ih]
        exact ⟨fun k => ⟨z, Or.inr k⟩, fun k => k.2.resolve_left (fun v => q (e.mpr v))⟩
def rcA (A : aM) : Nat → Nat → Nat → Prop
  | 0, _, _ => False
  | r + 1, h, k => h ≠ 0 ∧ (h = k + 1 ∨ rcA A r (A 9 (h - 1)) k)
theorem ct_sm {T : Nat} {A : aM} {Pa : Nat → Nat} {Fi Ne P Fi' Ne' P' : Nat → Int32} {c c' : Int32} {u : Nat} (hg : gpA T A) (hT : T ≤ 8) (hu : u < T) (hc : c = nI (A 0 1)) (hc' : c' = nI (A 0 1)) (hk : ∀ k, k < A 0 1 → Fi k = fI (A 7 k) ∧ Ne k = hv (A 9 k)) (hk' : ∀ k, k < A 0 1 → Fi' k = fI (A 7 k) ∧ Ne' k = hv (A 9 k)) (hP : ∀ k, k < T → Pa k ≤ k ∧ P k = hv (Pa k)) (hP' : ∀ k, k < T → Pa k ≤ k ∧ P' k = hv (Pa k)) : ∀ r h, h ≤ A 0 1 →
    ∃ g, ctF c Fi Ne (nI T) P (nI u) r (hv h) = hv g ∧ smF c' Fi' Ne' P' (nI u) r (hv h) = hv g ∧ (g = 0 ∨ (g ≤ A 0 1 ∧ A 7 (g - 1) ≠ 0 ∧ 0 < g ∧ rcA A r h (g - 1)))
  | 0, h, _ => ⟨0, by unfold ctF; rw [hv_0], by unfold smF; rw [hv_0], Or.inl rfl⟩
  | r + 1, h, hh => by
    have a40 := hg.2.1
    unfold ctF smF
    rw [hc, hc']
    by_cases z : h = 0
    · rw [if_neg (fun w => (hv_in hh (by omega)).mp w z), if_neg (fun w => (hv_in hh (by omega)).mp w z)]
      exact ⟨0, hv_0.symm, hv_0.symm, Or.inl rfl⟩
    · rw [if_pos ((hv_in hh (by omega)).mpr z), if_pos ((hv_in hh (by omega)).mpr z), hv_cl z (by omega)]
      obtain ⟨f1, f2⟩ := hk (h - 1) (by omega)
      obtain ⟨g1, g2⟩ := hk' (h - 1) (by omega)
      have f7 := (hg.2.2.2.2.1 (h - 1) (by omega)).1.1
      rw [f1, f2, g1, g2]
      have hm : (fI (A 7 (h - 1)) = -1 ∨ ¬ anF (nI T) P (fI (A 7 (h - 1))) 8 (nI u) = 0) ↔ (fI (A 7 (h - 1)) = -1 ∨ (0 ≤ fI (A 7 (h - 1)) ∧ ¬ amF P' (fI (A 7 (h - 1))) 9 (nI u) = 0)) := by
        refine or_congr Iff.rfl ?_
        by_cases k0 : A 7 (h - 1) = 0
        · rw [k0, fI_0, an_m2]
          exact ⟨fun w => absurd rfl w, fun w => absurd w.1 (by decide)⟩
        · by_cases k1 : A 7 (h - 1) = 1
          · rw [k1, show fI 1 = -1 by decide]
            refine ⟨fun w => ?_, fun w => absurd w.1 (by decide)⟩
            exfalso
            apply w
            have : ∀ r v, anF (nI T) P (-1) r v = 0 := by
              intro r
              induction r with
              | zero => intro v; rfl
              | succ r ih =>
                intro v
                unfold anF
                split
                · rename_i q
                  rw [if_neg (fun e => absurd q.1 (by rw [e]; decide))]
                  exact ih _
                · rfl
            exact this _ _
          · have e : fI (A 7 (h - 1)) = nI (A 7 (h - 1) - 2) := by
              unfold fI
              rw [if_neg k0, hv_P (by omega), show A 7 (h - 1) - 1 - 1 = A 7 (h - 1) - 2 by omega]
            rw [e, ← hv_S u, an_CX hT (by omega) hP 8 (u + 1) (by omega), am_CM hT (by omega) hP' 9 (u + 1) (by omega) (by omega), anA_more (fun k hk => (hP k hk).1) 8 9 (u + 1) (by omega) (by omega) (by omega)]
            exact ⟨fun w => ⟨nI_pos' (by omega), w⟩, fun w => w.2⟩
      by_cases q : fI (A 7 (h - 1)) = -1 ∨ ¬ anF (nI T) P (fI (A 7 (h - 1))) 8 (nI u) = 0
      · rw [if_pos q, if_pos (hm.mp q)]
        refine ⟨h, rfl, rfl, Or.inr ⟨hh, fun w => ?_, by omega, z, Or.inl (by omega)⟩⟩
        rw [w, fI_0, an_m2] at q
        rcases q with q | q
        · exact absurd q (by decide)
        · exact q rfl
      · rw [if_neg q, if_neg (fun w => q (hm.mpr w))]
        obtain ⟨g, i1, i2, i3⟩ := ct_sm hg hT hu hc hc' hk hk' hP hP' r (A 9 (h - 1)) (ne_le hg (by omega))
        rw [hc] at i1
        rw [hc'] at i2
        refine ⟨g, i1, i2, ?_⟩
        rcases i3 with i3 | ⟨i3, i4, i5, i6⟩
        · exact Or.inl i3
        · exact Or.inr ⟨i3, i4, i5, z, Or.inr i6⟩
theorem ch_ok {T : Nat} {A : aM} {Ne : Nat → Int32} (hg : gpA T A) (hk : ∀ k, k < A 0 1 → Ne k = hv (A 9 k)) : ∀ r h, h ≤ A 0 1 → (h ≠ 0 → A 11 (h - 1) ≤ r) → chE (A 0 1) Ne r (hv h)
  | 0, h, hh, hr => by
    unfold chE
    by_cases z : h = 0
    · rw [z, hv_0]
    · have := hr z
      have := (hg.2.2.2.2.1 (h - 1) (by omega)).1.2.2.2.2.1
      omega
  | r + 1, h, hh, hr => by
    unfold chE
    by_cases z : h = 0
    · left; rw [z, hv_0]
    · right
      have tk := (hg.2.2.2.2.1 (h - 1) (by omega)).1
      refine ⟨h - 1, by omega, hv_P (by omega), ?_⟩
      rw [hk (h - 1) (by omega)]
      refine ch_ok hg hk r (A 9 (h - 1)) (ne_le hg (by omega)) (fun w => ?_)
      have h1 := tk.2.2.2.2.2.2.1
      have h2 := hr z
      rcases h1 with h1 | h1
      · exact absurd h1 w
      · omega
theorem ch_40 {T : Nat} {A : aM} {Ne : Nat → Int32} (hg : gpA T A) (hk : ∀ k, k < A 0 1 → Ne k = hv (A 9 k)) {h : Nat} (hh : h ≤ A 0 1) : chE (A 0 1) Ne 40 (hv h) := by
  refine ch_ok hg hk 40 h hh (fun z => ?_)
  have := (hg.2.2.2.2.1 (h - 1) (by omega)).1.2.2.2.2.2.1
  have := hg.2.1
  omega
theorem ln_spec {T hd ha d : Nat} {A : aM} (hg : gpA T A) : ∀ r h, h ≤ A 0 1 → (lnA A hd ha d r h = 0 ∨ (0 < lnA A hd ha d r h ∧ lnA A hd ha d r h ≤ A 0 1 ∧ (A 7 (lnA A hd ha d r h - 1) = 0 ∨ (d = hd ∧ lnA A hd ha d r h - 1 = ha)) ∧ h ≠ 0 ∧ A 10 (lnA A hd ha d r h - 1) = A 10 (h - 1)))
  | 0, h, _ => Or.inl rfl
  | r + 1, h, hh => by
    unfold lnA
    by_cases z : h = 0
    · rw [if_pos z]; exact Or.inl rfl
    · rw [if_neg z]
      by_cases q : A 7 (h - 1) = 0 ∨ (d = hd ∧ h - 1 = ha)
      · rw [if_pos q]; exact Or.inr ⟨by omega, hh, q, z, rfl⟩
      · rw [if_neg q]
        have tk := (hg.2.2.2.2.1 (h - 1) (by omega)).1
        rcases ln_spec hg r (A 9 (h - 1)) (ne_le hg (by omega)) with i | ⟨i1, i2, i3, i4, i5⟩
        · exact Or.inl i
        · refine Or.inr ⟨i1, i2, i3, z, ?_⟩
          rw [i5]
          have h0 : A 7 (h - 1) ≠ 0 := fun w => q (Or.inl w)
          have h1 := tk.2.2.2.1 h0
          rcases tk.2.2.2.2.2.2.1 with h2 | h2
          · exact absurd h2 i4
          · omega
theorem ln_reach {T hd ha : Nat} {A : aM} (hg : gpA T A) (h7 : A 7 ha ≠ 0) : ∀ r h R, h ≤ A 0 1 → rcA A r h ha → (h ≠ 0 → A 11 (h - 1) ≤ R) → lnA A hd ha hd R h ≠ 0 ∧ (A 7 (lnA A hd ha hd R h - 1) = 0 → ∃ r', rcA A r' (A 9 (lnA A hd ha hd R h - 1)) ha)
  | 0, h, R, _, hr, _ => hr.elim
  | r + 1, h, R, hh, hr, hR => by
    obtain ⟨z, hr⟩ := hr
    have tk := (hg.2.2.2.2.1 (h - 1) (by omega)).1
    have hpos := tk.2.2.2.2.1
    have hR' := hR z
    cases R with
    | zero => omega
    | succ R =>
      unfold lnA
      rw [if_neg z]
      by_cases q : A 7 (h - 1) = 0 ∨ (hd = hd ∧ h - 1 = ha)
      · rw [if_pos q]
        refine ⟨z, fun w => ?_⟩
        rcases hr with hr | hr
        · exfalso
          apply h7
          rw [hr] at w
          exact w
        · exact ⟨r, hr⟩
      · rw [if_neg q]
        rcases hr with hr | hr
        · exact absurd (Or.inr ⟨rfl, by omega⟩) q
        · refine ln_reach hg h7 r (A 9 (h - 1)) R (ne_le hg (by omega)) hr (fun w => ?_)
          rcases tk.2.2.2.2.2.2.1 with h2 | h2
          · exact absurd h2 w
          · omega
