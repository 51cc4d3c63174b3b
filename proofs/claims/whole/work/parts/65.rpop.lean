/-! the reference: pop and norm -/
abbrev noH : Nat → Nat → Prop := fun _ _ => False
theorem pop_f {τ : RS} {M : Nat} (hM : M = rMd τ) (hnw : ∀ i, rNw τ i ≤ i) (hp : 0 < rPr τ) (hPB : PB τ M) {f : Nat → Nat} (hf : RN τ f) : f (rOn τ (rPr τ - 1)) = f (pA τ) ∧ f (rTw τ (rPr τ - 1)) = f (pB τ) ∧ pA τ < M ∧ pB τ < M := by
  obtain ⟨b1, b2⟩ := hPB (rPr τ - 1) (by omega)
  subst hM
  have k1 := rep_le hnw (rOn τ (rPr τ - 1))
  have k2 := rep_le hnw (rTw τ (rPr τ - 1))
  exact ⟨(rep_resp hnw hf _ b1).symm, (rep_resp hnw hf _ b2).symm, Nat.lt_of_le_of_lt k1 b1, Nat.lt_of_le_of_lt k2 b2⟩
theorem BR.dec {τ : RS} (h : BR τ) : BR (gDec τ) := by
  obtain ⟨tn, tLe, tSz, tRe, tSu, tMd, tNw, tTb, tPr, r⟩ := h
  exact ⟨tn, tLe, tSz, tRe, tSu, tMd, tNw, tTb, by show rPr τ - 1 ≤ 8000; omega, r⟩
theorem JV_dec {σ τ : RS} {A : (Nat → Nat) → (Nat → Option Nat) → Prop} {H : Nat → Nat → Prop} (h : JV σ A H τ) (hp : 0 < rPr τ) (he : pA τ = pB τ) : JV σ A H (gDec τ) ∧ ∀ f, Resp (gDec τ) f → Resp τ f := by
  obtain ⟨hB, hnw, hF, hE, hPB, hUp, hK, hS⟩ := h
  have hpr : rPr (gDec τ) = rPr τ - 1 := rfl
  have hR : ∀ f, Resp (gDec τ) f → Resp τ f := by
    intro f hf
    refine ⟨hf.1, fun j hj => ?_⟩
    by_cases z : j = rPr τ - 1
    · obtain ⟨k1, k2, -, -⟩ := pop_f rfl hnw hp hPB (f := f) hf.1
      rw [z, k1, k2, he]
    · exact hf.2 j (by rw [hpr]; omega)
  refine ⟨⟨hB.dec, hnw, hF, fun c x d hc hx q => ?_, fun j hj => hPB j (by rw [hpr] at hj; omega), hUp, ⟨hK.1, fun f hf => hK.2.1 f (hR f hf), fun c x d hc hx q => ?_⟩, fun LT ET hAt => ?_⟩, hR⟩
  · obtain ⟨q1, q2, q3, c', e', q4, q5, q6, q7⟩ := hE c x d hc hx q
    exact ⟨q1, q2, q3, c', e', q4, q5, q6, fun f hf => q7 f (hR f hf)⟩
  · obtain ⟨c', e', q4, q5, q6, q7⟩ := hK.2.2 c x d hc hx q
    exact ⟨c', e', q4, q5, q6, fun f hf => q7 f (hR f hf)⟩
  · obtain ⟨s1, s2⟩ := hS LT ET hAt
    exact ⟨⟨s1.1, fun j hj => s1.2 j (by rw [hpr] at hj; omega)⟩, s2⟩
theorem up_le {nw : Nat → Nat} {go ls : Nat} (hnw : ∀ i, nw i ≤ i) (h : ls < go) : ∀ i, va_up nw go ls i ≤ i := by
  intro i
  simp only [va_up]; split
  · omega
  · exact hnw i
theorem JV_mrg {σ τ : RS} {A : (Nat → Nat) → (Nat → Option Nat) → Prop} {ls go : Nat} (h : JV σ A noH τ) (hp : 0 < rPr τ) (hlg : ls < go) (hx : (ls = pA τ ∧ go = pB τ) ∨ (ls = pB τ ∧ go = pA τ)) : JV σ A (fun c y => c = go ∧ 0 ≤ y) (gMrg (gDec τ) ls go) ∧ (∀ f, Resp (gMrg (gDec τ) ls go) f → Resp τ f) ∧ rNw (gMrg (gDec τ) ls go) ls = ls ∧ rNw (gMrg (gDec τ) ls go) go = ls ∧ go < rMd τ ∧ lvs (rMd τ) (rNw (gMrg (gDec τ) ls go)) + 1 = lvs (rMd τ) (rNw τ) := by
  obtain ⟨hB, hnw, hF, hE, hPB, hUp, hK, hS⟩ := h
  have hpr : rPr (gMrg (gDec τ) ls go) = rPr τ - 1 := rfl
  have hnu : rNw (gMrg (gDec τ) ls go) = va_up (rNw τ) go ls := rfl
  have hA0 : rNw τ (pA τ) = pA τ := rep_now hnw _
  have hB0 : rNw τ (pB τ) = pB τ := rep_now hnw _
  obtain ⟨-, -, m1, m2⟩ := pop_f (f := fun _ => 0) rfl hnw hp hPB (fun c hc => rfl)
  have hgo : go < rMd τ ∧ rNw τ go = go := by rcases hx with ⟨-, w⟩ | ⟨-, w⟩ <;> rw [w] <;> exact ⟨by omega, by assumption⟩
  have hls : ls < rMd τ ∧ rNw τ ls = ls := by rcases hx with ⟨w, -⟩ | ⟨w, -⟩ <;> rw [w] <;> exact ⟨by omega, by assumption⟩
  have hnw' : ∀ i, rNw (gMrg (gDec τ) ls go) i ≤ i := by rw [hnu]; exact up_le hnw hlg
  have hRN : ∀ f, RN (gMrg (gDec τ) ls go) f → RN τ f := by
    intro f hf c hc
    by_cases z : c = go
    · rw [z, hgo.2]
    · have := hf c hc
      rw [hnu] at this
      simp only [va_up, if_neg z] at this; exact this
  have hfg : ∀ f, RN (gMrg (gDec τ) ls go) f → f ls = f go := by
    intro f hf
    have := hf go hgo.1
    rw [hnu] at this
    simpa [va_up] using this
  have hR : ∀ f, Resp (gMrg (gDec τ) ls go) f → Resp τ f := by
    intro f hf
    refine ⟨hRN f hf.1, fun j hj => ?_⟩
    by_cases z : j = rPr τ - 1
    · obtain ⟨k1, k2, -, -⟩ := pop_f rfl hnw hp hPB (f := f) (hRN f hf.1)
      have := hfg f hf.1
      rw [z, k1, k2]
      rcases hx with ⟨w1, w2⟩ | ⟨w1, w2⟩
      · rw [← w1, ← w2]; exact this
      · rw [← w1, ← w2]; exact this.symm
    · exact hf.2 j (by rw [hpr]; omega)
  have hLL : ∀ a b, a < rMd τ → b < rMd τ → rL τ a = rL τ b → rL (gMrg (gDec τ) ls go) a = rL (gMrg (gDec τ) ls go) b := by
    intro a b ha hb hab
    have hq : RN τ (rL (gMrg (gDec τ) ls go)) := hRN _ (fun c hc => rep_nw hnw' c)
    rw [← rep_resp hnw hq a ha, ← rep_resp hnw hq b hb]
    have : rep (rNw τ) a = rep (rNw τ) b := hab
    rw [this]
  have hMs : rMd σ = rMd τ := hF.2.2.2.2.2.symm
  refine ⟨⟨?_, hnw', hF, fun c x d hc hx' q => ?_, fun j hj => hPB j (by rw [hpr] at hj; omega), hUp, ⟨fun f hf => hK.1 f (hRN f hf), fun f hf => hK.2.1 f (hR f hf), fun c x d hc hx' q => ?_⟩, fun LT ET hAt => ?_⟩, hR, ?_, ?_, hgo.1, ?_⟩
  · obtain ⟨tn, tLe, tSz, tRe, tSu, tMd, tNw, tTb, tPr, r⟩ := hB.dec
    exact ⟨tn, tLe, tSz, tRe, tSu, tMd, fun i => up_lt tNw (by have := hB.2.2.2.2.2.1; omega), tTb, tPr, r⟩
  · obtain ⟨q1, q2, q3, c', e', q4, q5, q6, q7⟩ := hE c x d hc hx' q
    refine ⟨?_, q2, q3, c', e', q4, q5, hLL _ _ q4 q3 q6, fun f hf => q7 f (hR f hf)⟩
    rcases q1 with q1 | q1
    · by_cases z : c = go
      · exact Or.inr ⟨z, Nat.zero_le _⟩
      · left; rw [hnu]; simp only [va_up, if_neg z]; exact q1
    · exact q1.elim
  · obtain ⟨c', e', q4, q5, q6, q7⟩ := hK.2.2 c x d hc hx' q
    exact ⟨c', e', q4, q5, hLL _ _ (by omega) (by omega) q6, fun f hf => q7 f (hR f hf)⟩
  · obtain ⟨s1, s2⟩ := hS LT ET hAt
    refine ⟨⟨fun c hc => ?_, fun j hj => s1.2 j (by rw [hpr] at hj; omega)⟩, s2⟩
    rw [hnu]
    by_cases z : c = go
    · simp only [va_up, if_pos z]
      obtain ⟨k1, k2, -, -⟩ := pop_f rfl hnw hp hPB s1.1
      have := s1.2 (rPr τ - 1) (by omega)
      rw [k1, k2] at this
      rw [z]
      rcases hx with ⟨w1, w2⟩ | ⟨w1, w2⟩
      · rw [w1, w2]; exact this
      · rw [w1, w2]; exact this.symm
    · simp only [va_up, if_neg z]; exact s1.1 c hc
  · rw [hnu]; simp only [va_up, if_neg (show ¬ ls = go by omega)]; exact hls.2
  · rw [hnu]; simp [va_up]
  · rw [hnu]
    have hf : (fun c => decide (va_up (rNw τ) go ls c = c)) = va_up (fun c => decide (rNw τ c = c)) go false := by
      funext c
      simp only [va_up]
      by_cases z : c = go
      · simp only [if_pos z]; exact decide_eq_false (by omega)
      · simp only [if_neg z]
    unfold lvs
    rw [hf]
    exact cntT_dn hgo.1 (decide_eq_true hgo.2)
theorem JV_ji {σ β : RS} {A : (Nat → Nat) → (Nat → Option Nat) → Prop} {ls go : Nat} (hA : ∀ LT ET, A LT ET → WTb (rMd σ) (2 * rN σ) LT ET) (h : JV σ A (fun c y => c = go ∧ 0 ≤ y) β) (h1 : rNw β ls = ls) (h2 : rNw β go = ls) (hlg : ls < go) (hgo : go < rMd β) (hp : rPr β + 12 ≤ 8000) (x : Nat) : x ≤ 6 → JV σ A (fun c y => c = go ∧ x ≤ y) (gJi β ls go x) ∧ rNw (gJi β ls go x) = rNw β ∧ rPr (gJi β ls go x) ≤ rPr β + 2 * x ∧ (∀ f, Resp (gJi β ls go x) f → Resp β f) ∧ (rCh β = true → rCh (gJi β ls go x) = true) := by
  induction x with
  | zero => intro _; exact ⟨h, rfl, Nat.le_refl _, fun f hf => hf, fun w => w⟩
  | succ x ih =>
    intro hx
    obtain ⟨i1, i2, i3, i4, i5⟩ := ih (by omega)
    have hM : rMd (gJi β ls go x) = rMd β := i1.2.2.1.2.2.2.2.2.trans h.2.2.1.2.2.2.2.2.symm
    have hJ : gJi β ls go (x + 1) = gJs (gJi β ls go x) ls go x := rfl
    obtain ⟨j1, j2, j3, j4⟩ := JV_js hA i1 (by rw [i2]; exact h1) (by rw [i2]; exact h2) hlg (by omega) (by omega) (by omega)
    rw [hJ]
    refine ⟨j1, j2.trans i2, by omega, fun f hf => i4 f ?_, fun w => j4 (i5 w)⟩
    obtain ⟨hB, hnw, hF, hE, r⟩ := i1
    revert hf
    unfold gJs
    cases e : rTb (gJi β ls go x) (6 * go + x) with
    | none => exact fun w => w
    | some d =>
      intro hf
      have hgx : rTb (gJi β ls go x) (go * 6 + x) = some d := by rw [← e]; congr 1; omega
      have hd := hE.inM go x d (by omega) (by omega) hgx
      have hE' : InM (rMd (gJi β ls go x)) (rTb (gClrT (gJi β ls go x) (6 * go + x))) := fun c y v hc hy q => by
        have q' : va_up (rTb (gJi β ls go x)) (6 * go + x) none (c * 6 + y) = some v := q
        simp only [va_up] at q'
        split at q'
        · cases q'
        · exact hE.inM c y v hc hy q'
      obtain ⟨b1, b2, b3, b4, b5, b6, b9, br⟩ := lrn_ok (ρ := gClrT (gJi β ls go x) (6 * go + x)) (c := ls) (x := x) (d := d) hnw (show ls < rMd (gJi β ls go x) by omega) (by omega) hd hE'
      exact b9 f hf
/-- what the join loop keeps -/
def JI (σ : RS) (A : (Nat → Nat) → (Nat → Option Nat) → Prop) (σj τ : RS) : Prop := JV σ A noH τ ∧ rPr τ + 12 * lvs (rMd τ) (rNw τ) ≤ 2500 ∧ ((rNw τ = rNw σj ∧ rTb τ = rTb σj ∧ rCh τ = rCh σj) ∨ (lvs (rMd σj) (rNw τ) < lvs (rMd σj) (rNw σj) ∧ rCh τ = true)) ∧ (∀ f, Resp τ f → Resp σj f) ∧ rMd τ = rMd σj
theorem JI_mrg {σ τ σj : RS} {A : (Nat → Nat) → (Nat → Option Nat) → Prop} {ls go : Nat} (hA : ∀ LT ET, A LT ET → WTb (rMd σ) (2 * rN σ) LT ET) (h : JI σ A σj τ) (hp : 0 < rPr τ) (hlg : ls < go) (hx : (ls = pA τ ∧ go = pB τ) ∨ (ls = pB τ ∧ go = pA τ)) : (∀ x, x < 6 → LrnPre (gJi (gMrg (gDec τ) ls go) ls go x)) ∧ JI σ A σj (gJi (gMrg (gDec τ) ls go) ls go 6) ∧ rPr (gJi (gMrg (gDec τ) ls go) ls go 6) + 12 * lvs (rMd (gJi (gMrg (gDec τ) ls go) ls go 6)) (rNw (gJi (gMrg (gDec τ) ls go) ls go 6)) < rPr τ + 12 * lvs (rMd τ) (rNw τ) := by
  obtain ⟨h1, h2, h3, h4, h5⟩ := h
  obtain ⟨m1, m2, m3, m4, m5, m6⟩ := JV_mrg h1 hp hlg hx
  have hpr : rPr (gMrg (gDec τ) ls go) = rPr τ - 1 := rfl
  have key := JV_ji hA m1 m3 m4 hlg m5 (by rw [hpr]; omega)
  refine ⟨fun x hx6 => ?_, ?_⟩
  · obtain ⟨k1, k2, k3, -⟩ := key x (by omega)
    exact ⟨k1.1, k1.2.1, by rw [hpr] at k3; omega⟩
  · obtain ⟨k1, k2, k3, k4, k5⟩ := key 6 (Nat.le_refl _)
    have hM : rMd (gJi (gMrg (gDec τ) ls go) ls go 6) = rMd τ := k1.2.2.1.2.2.2.2.2.trans h1.2.2.1.2.2.2.2.2.symm
    rw [hpr] at k3
    have hlt : rPr (gJi (gMrg (gDec τ) ls go) ls go 6) + 12 * lvs (rMd (gJi (gMrg (gDec τ) ls go) ls go 6)) (rNw (gJi (gMrg (gDec τ) ls go) ls go 6)) < rPr τ + 12 * lvs (rMd τ) (rNw τ) := by
      rw [hM, k2]; omega
    refine ⟨⟨?_, by omega, Or.inr ⟨?_, k5 rfl⟩, fun f hf => h4 f (m2 f (k4 f hf)), hM.trans h5⟩, hlt⟩
    · obtain ⟨a1, a2, a3, a4, ar⟩ := k1
      refine ⟨a1, a2, a3, fun c y d hc hy q => ?_, ar⟩
      obtain ⟨q1, q2⟩ := a4 c y d hc hy q
      refine ⟨?_, q2⟩
      rcases q1 with q1 | ⟨-, q1⟩
      · exact Or.inl q1
      · omega
    · rw [k2, ← h5]
      rcases h3 with ⟨w, -⟩ | ⟨w, -⟩
      · rw [← w]; omega
      · rw [← h5] at w; omega
theorem JI_pop {σ τ σj : RS} {A : (Nat → Nat) → (Nat → Option Nat) → Prop} (hA : ∀ LT ET, A LT ET → WTb (rMd σ) (2 * rN σ) LT ET) (h : JI σ A σj τ) (hp : 0 < rPr τ) : JI σ A σj (gPop τ) ∧ rPr (gPop τ) + 12 * lvs (rMd (gPop τ)) (rNw (gPop τ)) < rPr τ + 12 * lvs (rMd τ) (rNw τ) := by
  unfold gPop
  by_cases z : pA τ = pB τ
  · rw [if_pos z]
    obtain ⟨h1, h2, h3, h4, h5⟩ := h
    obtain ⟨d1, d2⟩ := JV_dec h1 hp z
    have hpr : rPr (gDec τ) = rPr τ - 1 := rfl
    have hM : rMd (gDec τ) = rMd τ := rfl
    have hN : rNw (gDec τ) = rNw τ := rfl
    exact ⟨⟨d1, by rw [hpr, hM, hN]; omega, h3, fun f hf => h4 f (d2 f hf), h5⟩, by rw [hpr, hM, hN]; omega⟩
  · rw [if_neg z]
    by_cases w : pA τ < pB τ
    · rw [if_pos w]; exact (JI_mrg hA h hp w (Or.inl ⟨rfl, rfl⟩)).2
    · rw [if_neg w]; exact (JI_mrg hA h hp (by omega) (Or.inr ⟨rfl, rfl⟩)).2
theorem joinOK {σ σj : RS} {A : (Nat → Nat) → (Nat → Option Nat) → Prop} {F : RS → Prop} (hA : ∀ LT ET, A LT ET → WTb (rMd σ) (2 * rN σ) LT ET) (h : JV σ A noH σj) (hb : rPr σj ≤ 2) (hF : ∀ τ, JI σ A σj τ → rPr τ = 0 → F (gNorm τ)) : JoinOK σj F := by
  refine ⟨JI σ A σj, fun τ => rPr τ + 12 * lvs (rMd τ) (rNw τ), ⟨h, ?_, Or.inl ⟨rfl, rfl, rfl⟩, fun f hf => hf, rfl⟩, fun τ hI => ⟨hI.1.1, hI.1.2.1⟩, fun τ hI hp ls go x hx hlg he => (JI_mrg hA hI hp hlg he).1 x hx, fun τ hI hp => JI_pop hA hI hp, hF⟩
  have := lvs_le (rMd σj) (rNw σj)
  have := h.1.2.2.2.2.2.1
  omega
