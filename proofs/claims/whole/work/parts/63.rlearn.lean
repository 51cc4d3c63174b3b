/-! the reference: learn -/
def RN (τ : RS) (f : Nat → Nat) : Prop := ∀ c, c < rMd τ → f (rNw τ c) = f c
/-- names that a function must not tell apart -/
def Resp (τ : RS) (f : Nat → Nat) : Prop := RN τ f ∧ ∀ j, j < rPr τ → f (rOn τ j) = f (rTw τ j)
def Eqv (τ : RS) (a b : Nat) : Prop := ∀ f, Resp τ f → f a = f b
def Ents (τ : RS) (LT : Nat → Nat) (ET : Nat → Option Nat) : Prop := ∀ c x d, c < rMd τ → x < 6 → rTb τ (c * 6 + x) = some d → ET (LT c * 6 + x) = some (LT d)
abbrev rL (τ : RS) : Nat → Nat := rep (rNw τ)
def Frm (σ τ : RS) : Prop := rN τ = rN σ ∧ rLe τ = rLe σ ∧ rSz τ = rSz σ ∧ rRe τ = rRe σ ∧ rSu τ = rSu σ ∧ rMd τ = rMd σ
theorem Frm.refl (σ : RS) : Frm σ σ := ⟨rfl, rfl, rfl, rfl, rfl, rfl⟩
theorem Frm.trans {σ τ u : RS} (h : Frm σ τ) (k : Frm τ u) : Frm σ u := ⟨k.1.trans h.1, k.2.1.trans h.2.1, k.2.2.1.trans h.2.2.1, k.2.2.2.1.trans h.2.2.2.1, k.2.2.2.2.1.trans h.2.2.2.2.1, k.2.2.2.2.2.trans h.2.2.2.2.2⟩
theorem rep_resp {nw f : Nat → Nat} {M : Nat} (hnw : ∀ i, nw i ≤ i) (hf : ∀ c, c < M → f (nw c) = f c) (c : Nat) (hc : c < M) : f (rep nw c) = f c := by
  induction c using Nat.strongRecOn with
  | _ c ih =>
    by_cases h : nw c = c
    · rw [rep_fix h]
    · have := hnw c
      rw [rep_step hnw h, ih (nw c) (by omega) (by omega), hf c hc]
theorem rep_nw {nw : Nat → Nat} (hnw : ∀ i, nw i ≤ i) (c : Nat) : rep nw (nw c) = rep nw c := by
  by_cases h : nw c = c
  · rw [h]
  · exact (rep_step hnw h).symm
theorem rep_rep {nw : Nat → Nat} (hnw : ∀ i, nw i ≤ i) (c : Nat) : rep nw (rep nw c) = rep nw c := rep_fix (rep_now hnw c)
theorem rep_iff {nw : Nat → Nat} (hnw : ∀ i, nw i ≤ i) {c : Nat} : rep nw c = c ↔ nw c = c := ⟨fun h => by have := rep_now hnw c; rw [h] at this; exact this, rep_fix⟩
def PB (τ : RS) (M : Nat) : Prop := ∀ j, j < rPr τ → rOn τ j < M ∧ rTw τ j < M
theorem half_ok {ρ : RS} {c x d : Nat} (hnw : ∀ i, rNw ρ i ≤ i) (hc : c < rMd ρ) (hx : x < 6) (hd : d < rMd ρ) (hE : InM (rMd ρ) (rTb ρ)) : Frm ρ (gHalf ρ c x d) ∧ rNw (gHalf ρ c x d) = rNw ρ ∧ (∃ a, rTb (gHalf ρ c x d) (c * 6 + x) = some a ∧ Eqv (gHalf ρ c x d) a d) ∧ (∀ i v, rTb ρ i = some v → rTb (gHalf ρ c x d) i = some v) ∧ (∀ i v, rTb (gHalf ρ c x d) i = some v → rTb ρ i = some v ∨ (i = c * 6 + x ∧ v = d)) ∧ (∀ f, Resp (gHalf ρ c x d) f → Resp ρ f) ∧ (∀ LT ET, Resp ρ LT → Ents ρ LT ET → ET (LT c * 6 + x) = some (LT d) → Resp (gHalf ρ c x d) LT ∧ Ents (gHalf ρ c x d) LT ET) ∧ rPr (gHalf ρ c x d) ≤ rPr ρ + 1 ∧ (PB ρ (rMd ρ) → PB (gHalf ρ c x d) (rMd ρ)) ∧ (rTb ρ (c * 6 + x) = none → rCh (gHalf ρ c x d) = true ∧ rPr (gHalf ρ c x d) = rPr ρ) ∧ (rCh ρ = true → rCh (gHalf ρ c x d) = true) := by
  have e6 : 6 * c + x = c * 6 + x := by omega
  cases e : rTb ρ (c * 6 + x) with
  | none =>
    have hu : gHalf ρ c x d = gSet ρ (c * 6 + x) d := by unfold gHalf; rw [e6, e]
    rw [hu]
    refine ⟨⟨rfl, rfl, rfl, rfl, rfl, rfl⟩, rfl, ⟨d, by show va_up (rTb ρ) _ _ _ = _; simp [va_up], fun f _ => rfl⟩, fun i v h => ?_, fun i v h => ?_, fun f h => h, fun LT ET h1 h2 h3 => ⟨h1, fun k y z hk hy q => ?_⟩, Nat.le_succ _, fun h => h, fun _ => ⟨rfl, rfl⟩, fun _ => rfl⟩
    · show va_up (rTb ρ) _ _ _ = _
      have hne : ¬ i = c * 6 + x := fun z => by rw [z, e] at h; cases h
      simp only [va_up, if_neg hne]; exact h
    · have h' : va_up (rTb ρ) (c * 6 + x) (some d) i = some v := h
      simp only [va_up] at h'
      split at h'
      · right; cases h'; exact ⟨by assumption, rfl⟩
      · exact Or.inl h'
    · have q' : va_up (rTb ρ) (c * 6 + x) (some d) (k * 6 + y) = some z := q
      simp only [va_up] at q'
      split at q'
      · cases q'
        obtain ⟨rfl, rfl⟩ : k = c ∧ y = x := by omega
        exact h3
      · exact h2 k y z hk hy q'
  | some a =>
    have ha := hE c x a hc hx e
    by_cases z : rep (rNw ρ) a = d
    · have hu : gHalf ρ c x d = ρ := by unfold gHalf; rw [e6, e]; exact if_pos z
      rw [hu]
      refine ⟨Frm.refl _, rfl, ⟨a, e, fun f h => by rw [← z]; exact (rep_resp hnw h.1 a ha).symm⟩, fun i v h => h, fun i v h => Or.inl h, fun f h => h, fun LT ET h1 h2 _ => ⟨h1, h2⟩, Nat.le_succ _, fun h => h, fun h => by (cases h), fun h => h⟩
    · have hu : gHalf ρ c x d = gPair ρ a d := by unfold gHalf; rw [e6, e]; exact if_neg z
      rw [hu]
      have hon : rOn (gPair ρ a d) = va_up (rOn ρ) (rPr ρ) a := rfl
      have htw : rTw (gPair ρ a d) = va_up (rTw ρ) (rPr ρ) d := rfl
      have hpr : rPr (gPair ρ a d) = rPr ρ + 1 := rfl
      refine ⟨⟨rfl, rfl, rfl, rfl, rfl, rfl⟩, rfl, ⟨a, e, fun f h => ?_⟩, fun i v h => h, fun i v h => Or.inl h, fun f h => ⟨h.1, fun j hj => ?_⟩, fun LT ET h1 h2 h3 => ⟨⟨h1.1, fun j hj => ?_⟩, h2⟩, Nat.le_refl _, fun h j hj => ?_, fun h => by (cases h), fun h => h⟩
      · have := h.2 (rPr ρ) (by rw [hpr]; omega)
        rw [hon, htw] at this
        simpa [va_up] using this
      · have := h.2 j (by rw [hpr]; omega)
        rw [hon, htw] at this
        simp only [va_up, if_neg (show ¬ j = rPr ρ by omega)] at this; exact this
      · rw [hon, htw]
        rw [hpr] at hj
        simp only [va_up]
        by_cases w : j = rPr ρ
        · rw [if_pos w, if_pos w]
          have := h2 c x a hc hx e
          rw [h3] at this; exact (Option.some.inj this).symm
        · rw [if_neg w, if_neg w]; exact h1.2 j (by omega)
      · rw [hon, htw]
        rw [hpr] at hj
        simp only [va_up]
        by_cases w : j = rPr ρ
        · rw [if_pos w, if_pos w]; exact ⟨ha, hd⟩
        · rw [if_neg w, if_neg w]; exact h j (by omega)
theorem lrn_ok {ρ : RS} {c x d : Nat} (hnw : ∀ i, rNw ρ i ≤ i) (hc : c < rMd ρ) (hx : x < 6) (hd : d < rMd ρ) (hE : InM (rMd ρ) (rTb ρ)) : Frm ρ (gLearn ρ c x d) ∧ rNw (gLearn ρ c x d) = rNw ρ ∧ (∃ a, rTb (gLearn ρ c x d) (rL ρ c * 6 + x) = some a ∧ Eqv (gLearn ρ c x d) a d) ∧ (∃ b, rTb (gLearn ρ c x d) (rL ρ d * 6 + (x ^^^ 1)) = some b ∧ Eqv (gLearn ρ c x d) b c) ∧ (∀ i v, rTb ρ i = some v → rTb (gLearn ρ c x d) i = some v) ∧ (∀ i v, rTb (gLearn ρ c x d) i = some v → rTb ρ i = some v ∨ (i = rL ρ c * 6 + x ∧ v = rL ρ d) ∨ (i = rL ρ d * 6 + (x ^^^ 1) ∧ v = rL ρ c)) ∧ (∀ f, Resp (gLearn ρ c x d) f → Resp ρ f) ∧ (∀ LT ET, Resp ρ LT → Ents ρ LT ET → ET (LT c * 6 + x) = some (LT d) → ET (LT d * 6 + (x ^^^ 1)) = some (LT c) → Resp (gLearn ρ c x d) LT ∧ Ents (gLearn ρ c x d) LT ET) ∧ rPr (gLearn ρ c x d) ≤ rPr ρ + 2 ∧ (PB ρ (rMd ρ) → PB (gLearn ρ c x d) (rMd ρ)) ∧ (rTb ρ (rL ρ c * 6 + x) = none → rCh (gLearn ρ c x d) = true) ∧ (rTb ρ (rL ρ c * 6 + x) = none → rTb ρ (rL ρ d * 6 + (x ^^^ 1)) = none → rPr (gLearn ρ c x d) = rPr ρ) ∧ (rCh ρ = true → rCh (gLearn ρ c x d) = true) := by
  have hcl : rL ρ c ≤ c := rep_le hnw c
  have hdl : rL ρ d ≤ d := rep_le hnw d
  have hx1 := xor1_lt hx
  obtain ⟨a1, a2, ⟨a, a3, a4⟩, a5, a6, a7, a8, a9, a10, a11, a12⟩ := half_ok (c := rL ρ c) (x := x) (d := rL ρ d) hnw (by omega) hx (by omega) hE
  have hM : rMd (gHalf ρ (rL ρ c) x (rL ρ d)) = rMd ρ := a1.2.2.2.2.2
  have hE2 : InM (rMd (gHalf ρ (rL ρ c) x (rL ρ d))) (rTb (gHalf ρ (rL ρ c) x (rL ρ d))) := by
    rw [hM]
    intro k y z hk hy q
    rcases a6 _ _ q with w | ⟨-, w⟩
    · exact hE k y z hk hy w
    · rw [w]; omega
  obtain ⟨b1, b2, ⟨b, b3, b4⟩, b5, b6, b7, b8, b9, b10, b11, b12⟩ := half_ok (ρ := gHalf ρ (rL ρ c) x (rL ρ d)) (c := rL ρ d) (x := x ^^^ 1) (d := rL ρ c) (by rw [a2]; exact hnw) (by omega) hx1 (by omega) hE2
  have hg : gLearn ρ c x d = gHalf (gHalf ρ (rL ρ c) x (rL ρ d)) (rL ρ d) (x ^^^ 1) (rL ρ c) := rfl
  rw [← hg] at b1 b2 b3 b4 b5 b6 b7 b8 b9 b10 b11 b12
  have hR : ∀ f, Resp (gLearn ρ c x d) f → Resp ρ f := fun f h => a7 f (b7 f h)
  refine ⟨a1.trans b1, b2.trans a2, ⟨a, b5 _ _ a3, fun f h => ?_⟩, ⟨b, b3, fun f h => ?_⟩, fun i v h => b5 _ _ (a5 _ _ h), fun i v h => ?_, hR, fun LT ET h1 h2 h3 h4 => ?_, by omega, fun h => ?_, fun h => b12 (a11 h).1, fun h1 h2 => ?_, fun h => b12 (a12 h)⟩
  · rw [a4 f (b7 f h)]; exact rep_resp hnw (hR f h).1 d hd
  · rw [b4 f h]; exact rep_resp hnw (hR f h).1 c hc
  · rcases b6 _ _ h with w | w
    · rcases a6 _ _ w with w | w
      · exact Or.inl w
      · exact Or.inr (Or.inl w)
    · exact Or.inr (Or.inr w)
  · have ec := rep_resp hnw h1.1 c hc
    have ed := rep_resp hnw h1.1 d hd
    obtain ⟨k1, k2⟩ := a8 LT ET h1 h2 (by rw [ec, ed]; exact h3)
    exact b8 LT ET k1 k2 (by rw [ec, ed]; exact h4)
  · rw [hM] at b10; exact b10 (a10 h)
  · have h3 : rTb (gHalf ρ (rL ρ c) x (rL ρ d)) (rL ρ d * 6 + (x ^^^ 1)) = none := by
      cases e : rTb (gHalf ρ (rL ρ c) x (rL ρ d)) (rL ρ d * 6 + (x ^^^ 1)) with
      | none => rfl
      | some v =>
        exfalso
        rcases a6 _ _ e with w | ⟨w, -⟩
        · rw [h2] at w; cases w
        · have := xor1_ne x; omega
    rw [(b11 h3).2, (a11 h1).2]
