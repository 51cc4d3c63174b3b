/-- the reference's numbers are these -/
def gNm (ρ : RS) (nu : Nat → Option Nat) (na : Nat → Nat) (nd : Nat) : RS := (rN ρ, rLe ρ, rSz ρ, rRe ρ, rSu ρ, rMd ρ, rNw ρ, rTb ρ, rCh ρ, rPr ρ, rOn ρ, rTw ρ, nu, na, nd, rSe ρ, rLo ρ)
def AgR (s : NT) (nu : Nat → Option Nat) (na : Nat → Nat) (nd : Nat) : Prop := nd = qZ s ∧ (∀ i, i < 200 → nu i = qU s i) ∧ ∀ j, j < qZ s → na j = qN s j
theorem gnnR_some {τ : RS} {d v : Nat} (h : rNu τ d = some v) : gnnR d τ = τ := by unfold gnnR; rw [h]
theorem gnnR_none {τ : RS} {d : Nat} (h : rNu τ d = none) : gnnR d τ = gNm τ (va_up (rNu τ) d (some (rNd τ))) (va_up (rNa τ) (rNd τ) d) (rNd τ + 1) := by unfold gnnR gNm; rw [h]
theorem gNm_gNm (ρ : RS) (nu nu' : Nat → Option Nat) (na na' : Nat → Nat) (nd nd' : Nat) : gNm (gNm ρ nu na nd) nu' na' nd' = gNm ρ nu' na' nd' := rfl
theorem BR_nm {ρ : RS} {nu : Nat → Option Nat} {na : Nat → Nat} {nd : Nat} (h : BR ρ) (h1 : ∀ i d, nu i = some d → d < 200) (h2 : ∀ i, na i < 200) (h3 : nd ≤ 200) : BR (gNm ρ nu na nd) := by
  obtain ⟨tn, tLe, tSz, tRe, tSu, tMd, tNw, tTb, tPr, tOn, tTw, tNu, tNa, tNd, tLo⟩ := h
  exact ⟨tn, tLe, tSz, tRe, tSu, tMd, tNw, tTb, tPr, tOn, tTw, h1, h2, h3, tLo⟩
theorem BR_of {ρ : RS} {nu : Nat → Option Nat} {na : Nat → Nat} {nd : Nat} (h : BR (gNm ρ nu na nd)) : (∀ i d, nu i = some d → d < 200) ∧ (∀ i, na i < 200) ∧ nd ≤ 200 := by
  obtain ⟨tn, tLe, tSz, tRe, tSu, tMd, tNw, tTb, tPr, tOn, tTw, tNu, tNa, tNd, tLo⟩ := h
  exact ⟨tNu, tNa, tNd⟩
theorem gnnR_nm {ρ : RS} {s : NT} {nu : Nat → Option Nat} {na : Nat → Nat} {nd d : Nat} (h : AgR s nu na nd) (hd : d < 200) (hB0 : BR ρ) (hB : BR (gNm ρ nu na nd)) (hz : nu d = none → nd < 200) : ∃ nu' na' nd', gnnR d (gNm ρ nu na nd) = gNm ρ nu' na' nd' ∧ AgR (gn d s) nu' na' nd' ∧ BR (gNm ρ nu' na' nd') := by
  obtain ⟨h1, h2, h3⟩ := h
  have hs := h2 d hd
  cases hu : qU s d with
  | some v =>
    rw [hu] at hs
    refine ⟨nu, na, nd, gnnR_some (v := v) hs, ?_, hB⟩
    unfold gn; rw [hu]; exact ⟨h1, h2, h3⟩
  | none =>
    rw [hu] at hs
    obtain ⟨k1, k2, k3⟩ := BR_of hB
    have hz' := hz hs
    refine ⟨va_up nu d (some nd), va_up na nd d, nd + 1, ?_, ?_, BR_nm hB0 (fun i e q => up_some k1 (fun z w => by cases w; exact hz') q) (fun i => up_lt k2 hd) (by omega)⟩
    · have hs' : rNu (gNm ρ nu na nd) d = none := hs
      rw [gnnR_none hs', gNm_gNm]; rfl
    · unfold gn; rw [hu]
      refine ⟨by show nd + 1 = qZ s + 1; omega, fun i hi => ?_, fun j hj => ?_⟩
      · show va_up nu d (some nd) i = va_up (qU s) d (some (qZ s)) i
        simp only [va_up, h1, h2 i hi]
      · have hj' : j < qZ s + 1 := hj
        show va_up na nd d j = va_up (qN s) (qZ s) d j
        simp only [va_up, h1]
        split
        · rfl
        · exact h3 j (by omega)
theorem numOK {ρ : RS} {F : RS → Prop} (hR : RB ρ) (hC : Cm (rMd ρ) (2 * rN ρ) (rL ρ) (rTb ρ)) (hF : ∀ nu na nd, BR (gNm ρ nu na nd) → AgR (numF (cut (rMd ρ) (rTb ρ)) (2 * rN ρ)) nu na nd → F (gNm ρ nu na nd)) : NumOK ρ F := by
  obtain ⟨hB, hnw, hp0, hM1, hW, hUp, hG⟩ := hR
  have hK6 : 2 * rN ρ ≤ 6 := by have := hB.1; omega
  have hM2 := hB.2.2.2.2.2.1
  have hWc := cut_wt hW
  have hCc := cut_cm hK6 hC
  have hok := nal_ok hK6 hM1 hWc hCc
  have hB0 := hB
  obtain ⟨tn, tLe, tSz, tRe, tSu, tMd, tNw, tTb, tPr, tOn, tTw, tNu, tNa, tNd, tLo⟩ := hB
  refine ⟨fun k x β => k ≤ 200 ∧ x ≤ 2 * rN ρ ∧ (x = 0 ∨ k < qZ (nal (cut (rMd ρ) (rTb ρ)) (2 * rN ρ) k)) ∧ ∃ nu na nd, β = gNm ρ nu na nd ∧ BR (gNm ρ nu na nd) ∧ AgR (nrw (cut (rMd ρ) (rTb ρ)) k (nal (cut (rMd ρ) (rTb ρ)) (2 * rN ρ) k) x) nu na nd, ⟨by omega, by omega, Or.inl rfl, va_up (filI (rNu ρ) 200) 0 (some 0), va_up (rNa ρ) 0 0, 1, rfl, BR_nm hB0 (fun i e q => up_some (fun i d q => filI_b tNu q) (fun z w => by cases w; omega) q) (fun i => up_lt tNa (by omega)) (by omega), ?_⟩, fun k x β ⟨h1, h2, h3, nu, na, nd, hb, h4, h5⟩ => by rw [hb]; exact h4, fun k x β ⟨h1, h2, h3, nu, na, nd, hb, h4, h5⟩ hk hx => ?_, fun k x β ⟨h1, h2, h3, nu, na, nd, hb, h4, h5⟩ hk hx => ?_, fun k u ⟨h1, h2, h3, nu, na, nd, hb, h4, h5⟩ hz => ?_⟩
  · show AgR n0 _ _ _
    refine ⟨rfl, fun i hi => ?_, fun j hj => ?_⟩
    · show va_up (filI (rNu ρ) 200) 0 (some 0) i = if i = 0 then some 0 else none
      simp only [va_up, filI_at hi]
    · have : j = 0 := by have hj' : j < 1 := hj; omega
      subst this
      show va_up (rNa ρ) 0 0 0 = 0
      simp [va_up]
  · subst hb
    have hk' : k < nd := hk
    have hx' : x < 2 * rN ρ := hx
    have hz : k < qZ (nal (cut (rMd ρ) (rTb ρ)) (2 * rN ρ) k) := by
      rcases h3 with w | w
      · subst w; rw [h5.1] at hk'; exact hk'
      · exact w
    obtain ⟨g1, g2, g3⟩ := nrw_ok hK6 hWc hCc (hok k) hz x h2
    obtain ⟨c1, c2⟩ := g1.2.2.1 k g3
    obtain ⟨d, hd⟩ := hCc _ x c1 c2 hx'
    have w := hWc.2.2 _ x d c1 (by omega) hd
    have hzz : nu d = none → nd < 200 := fun hu => by
      rw [h5.2.1 d (by omega)] at hu
      rw [h5.1]
      have := g1.zlt w.2.2.1 hu
      omega
    obtain ⟨nu', na', nd', j1, j2, j3⟩ := gnnR_nm (ρ := ρ) h5 (show d < 200 by omega) hB0 h4 hzz
    refine ⟨d, ?_, hzz, h1, by omega, Or.inr hz, nu', na', nd', j1, j3, by rw [nrw_some hd]; exact j2⟩
    show rTb ρ (6 * na k + x) = some d
    rw [show 6 * na k + x = na k * 6 + x by omega, h5.2.2 k g3, ← cut_at (E := rTb ρ) (x := x) c1 (by omega)]; exact hd
  · subst hb
    have hk' : k < nd := hk
    have hx' : 2 * rN ρ ≤ x := hx
    obtain rfl : x = 2 * rN ρ := by omega
    have hz : k < qZ (nal (cut (rMd ρ) (rTb ρ)) (2 * rN ρ) k) := by
      rcases h3 with w | w
      · rw [h5.1] at hk'
        have e0 : nrw (cut (rMd ρ) (rTb ρ)) k (nal (cut (rMd ρ) (rTb ρ)) (2 * rN ρ) k) (2 * rN ρ) = nal (cut (rMd ρ) (rTb ρ)) (2 * rN ρ) k := by rw [show nrw (cut (rMd ρ) (rTb ρ)) k (nal (cut (rMd ρ) (rTb ρ)) (2 * rN ρ) k) (2 * rN ρ) = nrw (cut (rMd ρ) (rTb ρ)) k (nal (cut (rMd ρ) (rTb ρ)) (2 * rN ρ) k) 0 from congrArg _ w]; rfl
        rw [e0] at hk'; exact hk'
      · exact w
    have hb : nd ≤ 200 := (BR_of h4).2.2
    refine ⟨by omega, by omega, Or.inl rfl, nu, na, nd, rfl, h4, ?_⟩
    show AgR (nal (cut (rMd ρ) (rTb ρ)) (2 * rN ρ) (k + 1)) nu na nd
    rw [nal, if_pos hz]; exact h5
  · subst hb
    have h5' : AgR (nal (cut (rMd ρ) (rTb ρ)) (2 * rN ρ) k) nu na nd := h5
    have hz' : nd ≤ k := hz
    refine hF nu na nd h4 ?_
    unfold numF
    rw [h5'.1] at hz'
    rw [show 200 = k + (200 - k) by omega, nal_st hz']; exact h5'
