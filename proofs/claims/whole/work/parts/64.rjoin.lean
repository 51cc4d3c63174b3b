/-! the reference: join -/
def KeptR (σ τ : RS) : Prop := (∀ f, RN τ f → RN σ f) ∧ (∀ f, Resp τ f → Resp σ f) ∧ ∀ c x d, c < rMd σ → x < 6 → rTb σ (c * 6 + x) = some d → ∃ c' e, c' < rMd σ ∧ rTb τ (c' * 6 + x) = some e ∧ rL τ c' = rL τ c ∧ Eqv τ e d
def EntR (H : Nat → Nat → Prop) (τ : RS) : Prop := ∀ c x d, c < rMd τ → x < 6 → rTb τ (c * 6 + x) = some d → (rNw τ c = c ∨ H c x) ∧ x < 2 * rN τ ∧ d < rMd τ ∧ ∃ c' e, c' < rMd τ ∧ rTb τ (c' * 6 + (x ^^^ 1)) = some e ∧ rL τ c' = rL τ d ∧ Eqv τ e c
def JV (σ : RS) (A : (Nat → Nat) → (Nat → Option Nat) → Prop) (H : Nat → Nat → Prop) (τ : RS) : Prop := BR τ ∧ (∀ i, rNw τ i ≤ i) ∧ Frm σ τ ∧ EntR H τ ∧ PB τ (rMd τ) ∧ (∀ i, rMd τ * 6 ≤ i → i < 1200 → rTb τ i = none) ∧ KeptR σ τ ∧ ∀ LT ET, A LT ET → Resp τ LT ∧ Ents τ LT ET
theorem EntR.inM {H : Nat → Nat → Prop} {τ : RS} (h : EntR H τ) : InM (rMd τ) (rTb τ) := fun c x d hc hx q => (h c x d hc hx q).2.2.1
theorem xor1_lt2 {k x : Nat} (h : x < 2 * k) : x ^^^ 1 < 2 * k := by
  have h1 : (x ^^^ 1) / 2 = x / 2 := by rw [Nat.xor_div_two]; simp
  omega
theorem JV_js {σ β : RS} {A : (Nat → Nat) → (Nat → Option Nat) → Prop} {ls go x : Nat} (hA : ∀ LT ET, A LT ET → WTb (rMd σ) (2 * rN σ) LT ET) (h : JV σ A (fun c y => c = go ∧ x ≤ y) β) (h1 : rNw β ls = ls) (h2 : rNw β go = ls) (hlg : ls < go) (hgo : go < rMd β) (hx : x < 6) (hp : rPr β + 2 ≤ 8000) : JV σ A (fun c y => c = go ∧ x + 1 ≤ y) (gJs β ls go x) ∧ rNw (gJs β ls go x) = rNw β ∧ rPr (gJs β ls go x) ≤ rPr β + 2 ∧ (rCh β = true → rCh (gJs β ls go x) = true) := by
  obtain ⟨hB, hnw, hF, hE, hPB, hUp, hK, hS⟩ := h
  cases e : rTb β (go * 6 + x) with
  | none =>
    have hu : gJs β ls go x = β := by unfold gJs; rw [show 6 * go + x = go * 6 + x by omega, e]
    rw [hu]
    refine ⟨⟨hB, hnw, hF, fun c y d hc hy q => ?_, hPB, hUp, hK, hS⟩, rfl, by omega, fun w => w⟩
    obtain ⟨q1, q2⟩ := hE c y d hc hy q
    refine ⟨?_, q2⟩
    rcases q1 with w | ⟨w1, w2⟩
    · exact Or.inl w
    · right
      refine ⟨w1, ?_⟩
      by_cases z : y = x
      · rw [w1, z, e] at q; cases q
      · show x + 1 ≤ y; omega
  | some d =>
    have hu : gJs β ls go x = gLearn (gClrT β (go * 6 + x)) ls x d := by unfold gJs; rw [show 6 * go + x = go * 6 + x by omega, e]
    rw [hu]
    obtain ⟨g1, g2, g3, gc, ge, g4, g5, g6, g7⟩ := hE go x d hgo hx e
    have hc1 : ∀ i v, rTb (gClrT β (go * 6 + x)) i = some v → rTb β i = some v ∧ i ≠ go * 6 + x := by
      intro i v q
      have q' : va_up (rTb β) (go * 6 + x) none i = some v := q
      simp only [va_up] at q'
      split at q'
      · cases q'
      · exact ⟨q', by assumption⟩
    have hc2 : ∀ i v, rTb β i = some v → i ≠ go * 6 + x → rTb (gClrT β (go * 6 + x)) i = some v := by
      intro i v q hne
      show va_up (rTb β) (go * 6 + x) none i = some v
      simp only [va_up, if_neg hne]; exact q
    have hB' : BR (gClrT β (go * 6 + x)) := hB.clr
    have hE' : InM (rMd β) (rTb (gClrT β (go * 6 + x))) := fun c y v hc hy q => hE.inM c y v hc hy (hc1 _ _ q).1
    have hx1 := xor1_lt hx
    obtain ⟨b1, b2, ⟨a, b3, b4⟩, ⟨b, b5, b6⟩, b7, b8, b9, b10, b11, b12, b13, b14, b15⟩ := lrn_ok (ρ := gClrT β (go * 6 + x)) (c := ls) (x := x) (d := d) hnw (show ls < rMd β by omega) hx g3 hE'
    have hBl : BR (gLearn (gClrT β (go * 6 + x)) ls x d) := by
      have hM2 := hB.2.2.2.2.2.1
      have k1 := BR.half (c := rL β ls) (x := x) (d := rL β d) hB' (by have := rep_le hnw d; show rep (rNw β) d < 200; omega) (show rPr β < 8000 by omega)
      exact (BR.half (c := rL β d) (x := x ^^^ 1) (d := rL β ls) k1.1 (by have := rep_le hnw ls; show rep (rNw β) ls < 200; omega) (by have := k1.2.2; have e0 : rPr (gClrT β (go * 6 + x)) = rPr β := rfl; omega)).1
    generalize hw : gLearn (gClrT β (go * 6 + x)) ls x d = u at *
    have hLs : rL (gClrT β (go * 6 + x)) ls = ls := rep_fix h1
    have hLd : rL (gClrT β (go * 6 + x)) d = rL β d := rfl
    have hLu : rNw u = rNw β := b2
    have hMu : rMd u = rMd β := b1.2.2.2.2.2
    have hNu : rN u = rN β := b1.1
    have hgl : rL β go = rL β ls := by show rep _ _ = rep _ _; rw [← rep_nw hnw go, h2]
    have hRu : ∀ f, Resp u f → Resp β f := b9
    have hdM : rL β d < rMd β := by have := rep_le hnw d; show rep (rNw β) d < _; omega
    rw [hLs] at b3 b8 b13 b14
    rw [hLd] at b5 b8 b14
    -- an entry of β lives on
    have hkeep : ∀ c y v, c < rMd β → y < 6 → rTb β (c * 6 + y) = some v → ∃ c' e, c' < rMd β ∧ rTb u (c' * 6 + y) = some e ∧ rL β c' = rL β c ∧ Eqv u e v := by
      intro c y v hc hy q
      by_cases z : c * 6 + y = go * 6 + x
      · obtain ⟨rfl, rfl⟩ : c = go ∧ y = x := by omega
        rw [e] at q; cases q
        exact ⟨ls, a, by omega, b3, hgl.symm, b4⟩
      · exact ⟨c, v, hc, b7 _ _ (hc2 _ _ q z), rfl, fun f _ => rfl⟩
    refine ⟨⟨hBl, by rw [hLu]; exact hnw, hF.trans b1, fun c y v hc hy q => ?_, by rw [hMu]; exact b12 hPB, fun i hi1 hi2 => ?_, ⟨fun f hf => hK.1 f (fun c hc => ?_), fun f hf => hK.2.1 f (hRu f hf), fun c y v hc hy q => ?_⟩, fun LT ET hAt => ?_⟩, hLu, b11, b15⟩
    · rw [hMu] at hc
      have hxK := g2
      show (rNw u c = c ∨ _) ∧ y < 2 * rN u ∧ v < rMd u ∧ ∃ c' e, c' < rMd u ∧ rTb u (c' * 6 + (y ^^^ 1)) = some e ∧ rep (rNw u) c' = rep (rNw u) v ∧ Eqv u e c
      rw [hMu, hNu, hLu]
      rcases b8 _ _ q with w | ⟨w1, w2⟩ | ⟨w1, w2⟩
      · obtain ⟨w1, w2⟩ := hc1 _ _ w
        obtain ⟨q1, q2, q3, c', e', q4, q5, q6, q7⟩ := hE c y v hc hy w1
        refine ⟨?_, q2, q3, ?_⟩
        · rcases q1 with q1 | ⟨q1, q1'⟩
          · exact Or.inl q1
          · right; exact ⟨q1, by show x + 1 ≤ y; omega⟩
        · obtain ⟨c2, e2, k1, k2, k3, k4⟩ := hkeep c' (y ^^^ 1) e' q4 (xor1_lt hy) q5
          exact ⟨c2, e2, k1, k2, k3.trans q6, fun f hf => by rw [k4 f hf, q7 f (hRu f hf)]⟩
      · obtain ⟨rfl, rfl⟩ : c = ls ∧ y = x := by omega
        subst w2
        refine ⟨Or.inl h1, g2, hdM, rL β d, b, hdM, b5, rfl, b6⟩
      · obtain ⟨rfl, rfl⟩ : c = rL β d ∧ y = x ^^^ 1 := by omega
        subst w2
        refine ⟨Or.inl (rep_now hnw d), xor1_lt2 g2, by omega, v, a, by omega, by rw [xor1_xor1]; exact b3, rfl, fun f hf => ?_⟩
        rw [b4 f hf]
        exact (rep_resp hnw (hRu f hf).1 d g3).symm
    · rw [hMu] at hi1
      cases ee : rTb u i with
      | none => rfl
      | some v =>
        exfalso
        rcases b8 _ _ ee with w | ⟨w1, w2⟩ | ⟨w1, w2⟩
        · have := hUp i hi1 hi2
          rw [(hc1 _ _ w).1] at this; cases this
        · omega
        · omega
    · have := hf c (by rw [hMu]; exact hc)
      rw [hLu] at this; exact this
    · obtain ⟨c1, e1, k1, k2, k3, k4⟩ := hK.2.2 c y v hc hy q
      have hMs : rMd σ = rMd β := hF.2.2.2.2.2.symm
      obtain ⟨c2, e2, j1, j2, j3, j4⟩ := hkeep c1 y e1 (by omega) hy k2
      refine ⟨c2, e2, by omega, j2, ?_, fun f hf => by rw [j4 f hf, k4 f (hRu f hf)]⟩
      show rep (rNw u) c2 = rep (rNw u) c
      rw [hLu]; exact j3.trans k3
    · obtain ⟨s1, s2⟩ := hS LT ET hAt
      have s3 := s2 go x d hgo hx e
      have s4 : LT ls = LT go := by have := s1.1 go hgo; rw [h2] at this; exact this
      have hW := hA LT ET hAt
      have hMs : rMd σ = rMd β := hF.2.2.2.2.2.symm
      have s5 := hW.1 go (by omega)
      have s6 := (hW.2.2 (LT go) x (LT d) (by omega) hx s3).2.2.2.2
      exact b10 LT ET s1 (fun c y v hc hy q => s2 c y v hc hy (hc1 _ _ q).1) (by rw [s4]; exact s3) (by rw [s4]; exact s6)
