/-! what is new is fresh; the open pointer stays -/
def Frs (σ u : CS) : Prop := sO u = sO σ ∧ (∀ p, sS σ p = true → sS u p = true) ∧ ∀ c x d, x < 6 → sE u (c * 6 + x) = some d → sE σ (c * 6 + x) = some d ∨ sS u (c * 6 + x) = true ∨ sS u (d * 6 + (x ^^^ 1)) = true
theorem Frs.refl (σ : CS) : Frs σ σ := ⟨rfl, fun _ h => h, fun _ _ _ _ h => Or.inl h⟩
theorem Frs.trans {σ τ u : CS} (h1 : Frs σ τ) (h2 : Frs τ u) : Frs σ u := ⟨h2.1.trans h1.1, fun p h => h2.2.1 p (h1.2.1 p h), fun c x d hx h => by
  rcases h2.2.2 c x d hx h with e | e
  · rcases h1.2.2 c x d hx e with w | w | w
    · exact Or.inl w
    · exact Or.inr (Or.inl (h2.2.1 _ w))
    · exact Or.inr (Or.inr (h2.2.1 _ w))
  · exact Or.inr e⟩
theorem Frs.clr (σ : CS) (k x d : Nat) : Frs σ (fClr σ k x d) := ⟨rfl, fun _ h => h, fun c y e hy h => by
  left
  have q' : va_up (va_up (sE σ) (k * 6 + x) none) (d * 6 + (x ^^^ 1)) none (c * 6 + y) = some e := h
  simp only [va_up] at q'
  split at q'
  · cases q'
  · split at q'
    · cases q'
    · exact q'⟩
theorem Frs.fall (σ : CS) (a b : Nat) : Frs σ (fFall σ a b) := by
  unfold fFall
  split
  · exact Frs.refl σ
  · split <;> exact ⟨rfl, fun _ h => h, fun _ _ _ _ h => Or.inl h⟩
theorem Frs.join {σ : CS} {k x d : Nat} (hx : x < 6) : Frs σ (fJoin σ k x d) := by
  obtain ⟨g1, g2, g3, g4, g5, g6, g7, g8⟩ := fJoin_L σ k x d
  have hS : sS (fJoin σ k x d) (k * 6 + x) = true ∧ ∀ p, sS σ p = true → sS (fJoin σ k x d) p = true := by
    unfold fJoin
    by_cases q : sS σ (k * 6 + x) = true
    · rw [if_pos q]; exact ⟨q, fun _ h => h⟩
    · rw [if_neg q]
      refine ⟨by show va_up (sS σ) (k * 6 + x) true (k * 6 + x) = true; simp [va_up], fun p h => ?_⟩
      show va_up (sS σ) (k * 6 + x) true p = true
      simp only [va_up]; split
      · rfl
      · exact h
  refine ⟨g8, hS.2, fun c y e hy h => ?_⟩
  rw [g6] at h
  have hx1 := xor1_lt hx
  simp only [va_up] at h
  split at h
  · rename_i z
    cases h
    obtain ⟨rfl, rfl⟩ : c = d ∧ y = x ^^^ 1 := by omega
    right; right; rw [xor1_xor1]; exact hS.1
  · split at h
    · rename_i z
      cases h
      right; left; rw [z]; exact hS.1
    · exact Or.inl h
theorem Frs.ho {τ : CS} {k x : Nat} (hx : x < 6) : Frs τ (hoStep τ k x) := by
  cases he : sE τ (k * 6 + x) with
  | none => rw [ho_none he]; exact Frs.refl τ
  | some d =>
    obtain ⟨ρ, hρ⟩ : ∃ q, q = fClr τ k x d := ⟨_, rfl⟩
    have h0 : Frs τ ρ := by rw [hρ]; exact Frs.clr τ k x d
    cases ha : sE ρ (sL ρ k * 6 + x) with
    | some f => rw [ho_a he hρ ha]; exact h0.trans (Frs.fall _ _ _)
    | none =>
      cases hb : sE ρ (sL ρ d * 6 + (x ^^^ 1)) with
      | some f => rw [ho_b he hρ ha hb]; exact h0.trans (Frs.fall _ _ _)
      | none => rw [ho_c he hρ ha hb]; exact h0.trans (Frs.join hx)
theorem Frs.hoI {τ : CS} {k : Nat} : ∀ n, n ≤ 6 → Frs τ (hoI τ k n) := by
  intro n
  induction n with
  | zero => intro _; exact Frs.refl τ
  | succ n ih => intro hn; exact (ih (by omega)).trans (Frs.ho (by omega))
theorem sC_unI (τ : CS) (i : Nat) : sC (unI τ i) = sC τ := by
  induction i with
  | zero => rfl
  | succ i ih => rw [unI, sC_ho, ih]
theorem Frs.unI {τ : CS} (h6 : sC τ ≤ 6) : ∀ i, Frs τ (unI τ i) := by
  intro i
  induction i with
  | zero => exact Frs.refl τ
  | succ i ih =>
    have := sC_unI τ i
    exact ih.trans (Frs.hoI _ (by omega))
theorem un_frs {σ u : CS} {a b : Nat} (h6 : sC σ ≤ 6) (hu : UnEnd (fFall (fU0 σ) a b) u) : Frs σ u ∧ (sL σ a = sL σ b → u = fU0 σ) := by
  obtain ⟨N, rfl, hN2, hj, he⟩ := hu
  refine ⟨?_, fun q => ?_⟩
  · have h1 : Frs σ (fU0 σ) := Frs.refl σ
    exact (h1.trans (Frs.fall (fU0 σ) a b)).trans (Frs.unI (by rw [sC_fall]; exact h6) N)
  · have e : fFall (fU0 σ) a b = fU0 σ := by unfold fFall; rw [if_pos (show sL (fU0 σ) a = sL (fU0 σ) b from q)]
    rw [e] at hj ⊢
    rcases Nat.eq_zero_or_pos N with z | z
    · rw [z]; rfl
    · exact absurd (hj 0 z) (Nat.not_lt_zero _)
/-! what is known, at living names -/
theorem Kn.at {K : Nat} {u : CS} {c x d : Nat} (h : IV K u) (hN : NRM u) (hx : x < 6) (hd : d < sM u) (hk : Kn u c x d) : sE u (sL u c * 6 + x) = some (sL u d) := by
  obtain ⟨c', d', a1, a2, a3, a4⟩ := hk
  obtain ⟨i1, i2, i3⟩ := h.2.2.2.2.2.1 c' x d' a1 hx a2
  have l1 := hN c' x d' a1 hx a2
  have l2 := hN d' _ _ i2 (xor1_lt hx) i3
  rw [← a3, l1, ← a4, l2]; exact a2
theorem Kn.of {u : CS} {c x d : Nat} (hc : c < sM u) (h : sE u (c * 6 + x) = some d) : Kn u c x d := ⟨c, d, hc, h, rfl, rfl⟩
theorem Kn.inv {K : Nat} {u : CS} {c x d : Nat} (h : IV K u) (hx : x < 6) (hk : Kn u c x d) : Kn u d (x ^^^ 1) c := by
  obtain ⟨c', d', a1, a2, a3, a4⟩ := hk
  obtain ⟨i1, i2, i3⟩ := h.2.2.2.2.2.1 c' x d' a1 hx a2
  exact ⟨d', c', i2, i3, a4, a3⟩
theorem Kn.congr {u : CS} {c c' x d d' : Nat} (h1 : sL u c = sL u c') (h2 : sL u d = sL u d') (hk : Kn u c x d) : Kn u c' x d' := by
  obtain ⟨e, f, a1, a2, a3, a4⟩ := hk
  exact ⟨e, f, a1, a2, a3.trans h1, a4.trans h2⟩
/-- both ends of an entry live -/
theorem NRM.two {K : Nat} {u : CS} {c x d : Nat} (hN : NRM u) (h : IV K u) (hc : c < sM u) (hx : x < 6) (q : sE u (c * 6 + x) = some d) : sL u c = c ∧ d < sM u ∧ sL u d = d := by
  obtain ⟨i1, i2, i3⟩ := h.2.2.2.2.2.1 c x d hc hx q
  exact ⟨hN c x d hc hx q, i2, hN d _ _ i2 (xor1_lt hx) i3⟩
/-- an entry stays, where its ends live on -/
theorem Mon.ent {K : Nat} {σ u : CS} {c x d : Nat} (hm : Mon σ u) (hN : NRM u) (h : IV K u) (hc : c < sM σ) (hd : d < sM σ) (hx : x < 6) (q : sE σ (c * 6 + x) = some d) (h1 : sL u c = c) (h2 : sL u d = d) : sE u (c * 6 + x) = some d := by
  have := (hm.2.2 c x d hc hd hx (Kn.of hc q)).at h hN hx (by rw [hm.1]; exact hd)
  rw [h1, h2] at this; exact this
/-! paths and rings -/
theorem pth_inj {M : Nat} {E : Nat → Option Nat} (hE : Inv6 M E) {g : Nat → Nat} (hg : ∀ j, g j < 6) {a b : Nat} (ha : a < M) (hb : b < M) {i : Nat} : ∀ {c : Nat}, pth E g a i = some c → pth E g b i = some c → a = b := by
  have hI : InM M E := fun c x d a b q => (hE c x d a b q).1
  induction i with
  | zero => intro c h1 h2; cases h1; cases h2; rfl
  | succ i ih =>
    intro c h1 h2
    replace h1 : (match pth E g a i with | none => none | some p => E (p * 6 + g i)) = some c := h1
    replace h2 : (match pth E g b i with | none => none | some p => E (p * 6 + g i)) = some c := h2
    cases e1 : pth E g a i with
    | none => rw [e1] at h1; cases h1
    | some p =>
      cases e2 : pth E g b i with
      | none => rw [e2] at h2; cases h2
      | some p' =>
        rw [e1] at h1; rw [e2] at h2
        have k1 := (hE p _ _ (pth_lt2 hI hg ha e1) (hg i) h1).2
        have k2 := (hE p' _ _ (pth_lt2 hI hg hb e2) (hg i) h2).2
        rw [k1] at k2
        exact ih e1 (by rw [e2, Option.some.inj k2])
theorem pth_succ {E : Nat → Option Nat} {g : Nat → Nat} {c i p : Nat} (h : pth E g c i = some p) : pth E g c (i + 1) = E (p * 6 + g i) := by
  show (match pth E g c i with | none => none | some p => E (p * 6 + g i)) = _
  rw [h]
/-- a step of a path -/
theorem pth_step {E : Nat → Option Nat} {g : Nat → Nat} {c n r : Nat} (h : pth E g c n = some r) {t : Nat} (ht : t < n) : ∃ a b, pth E g c t = some a ∧ pth E g c (t + 1) = some b ∧ E (a * 6 + g t) = some b := by
  obtain ⟨b, hb⟩ := pth_pre (i := t + 1) (j := n - (t + 1)) (by rw [show t + 1 + (n - (t + 1)) = n by omega]; exact h)
  obtain ⟨a, ha⟩ := pth_pre (i := t) (j := 1) hb
  exact ⟨a, b, ha, hb, (pth_succ ha).symm.trans hb⟩
/-- two tables that agree on the steps of a path -/
theorem pth_sub {E E' : Nat → Option Nat} {g : Nat → Nat} {c n r : Nat} (h : pth E g c n = some r) (hs : ∀ t a b, t < n → pth E g c t = some a → pth E g c (t + 1) = some b → E (a * 6 + g t) = some b → E' (a * 6 + g t) = some b) : pth E' g c n = some r := by
  have : ∀ t, t ≤ n → ∀ a, pth E g c t = some a → pth E' g c t = some a := by
    intro t
    induction t with
    | zero => intro _ a q; exact q
    | succ t ih =>
      intro ht b q
      obtain ⟨a, b', e1, e2, e3⟩ := pth_step h (t := t) (by omega)
      rw [q] at e2; cases e2
      rw [pth_succ (ih (by omega) a e1)]
      exact hs t a b (by omega) e1 q e3
  exact this n (Nat.le_refl _) r h
