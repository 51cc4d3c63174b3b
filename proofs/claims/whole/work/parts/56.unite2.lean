/-! unite, whole -/
def DE (τ : CS) (i : Nat) : Prop := (∀ j, j < sFc τ → sF τ j < sM τ ∧ sL τ (sF τ j) ≠ sF τ j) ∧ ∀ c x d, c < sM τ → x < 6 → sE τ (c * 6 + x) = some d → sL τ c = c ∨ ∃ j, i ≤ j ∧ j < sFc τ ∧ sF τ j = c
def NRM (σ : CS) : Prop := ∀ c x d, c < sM σ → x < 6 → sE σ (c * 6 + x) = some d → sL σ c = c
theorem IV.u0 {K : Nat} {σ : CS} (h : IV K σ) : IV K (fU0 σ) := by
  obtain ⟨⟨b1, b2, b3, b4, b5, b6, b7, b8, b9, b10⟩, r⟩ := h
  exact ⟨⟨b1, b2, b3, b4, b5, b6, b7, by show 0 ≤ 200; decide, b9, b10⟩, r⟩
theorem IV.z {K : Nat} {σ : CS} (h : IV K σ) : sL σ 0 = 0 := Nat.le_zero.mp (h.2.2.2.2.1.1 0 h.2.1)
theorem DE_fall {K : Nat} {σ : CS} {a b : Nat} (h : IV K σ) (hN : NRM σ) (ha : a < sM σ) (hb : b < sM σ) : DE (fFall (fU0 σ) a b) 0 := by
  have hI := h.u0
  have hL := hI.2.2.2.2.1
  have ha1 := hL.1 a ha; have hb1 := hL.1 b hb
  have ha2 := hL.2 a ha; have hb2 := hL.2 b hb
  have key : ∀ lo hi, lo < hi → hi < sM σ → sL (fU0 σ) lo = lo → sL (fU0 σ) hi = hi → DE (fFl (fU0 σ) lo hi) 0 := by
    intro lo hh h1 h2 h3 h4
    have eL : ∀ c, c < sM σ → sL (fFl (fU0 σ) lo hh) c = mrg (sL (fU0 σ)) lo hh c := rl_mrg hL
    have eN : sF (fFl (fU0 σ) lo hh) 0 = hh := by show va_up (sF σ) 0 hh 0 = hh; simp [va_up]
    refine ⟨fun j hj => ?_, fun c x d hc hx q => ?_⟩
    · have hj' : j < 0 + 1 := hj
      obtain rfl : j = 0 := by omega
      rw [eN]
      refine ⟨h2, ?_⟩
      rw [eL hh h2, mrg, if_pos h4]; omega
    · have e := hN c x d hc hx q
      by_cases z : c = hh
      · exact Or.inr ⟨0, Nat.le_refl _, Nat.lt_succ_self _, by rw [eN, z]⟩
      · left; rw [eL c hc, mrg, if_neg (show ¬ sL (fU0 σ) c = hh from fun w => z (e.symm.trans w))]; exact e
  unfold fFall
  by_cases q : sL (fU0 σ) a = sL (fU0 σ) b
  · rw [if_pos q]
    exact ⟨fun j hj => absurd (show j < 0 from hj) (Nat.not_lt_zero j), fun c x d hc hx w => Or.inl (hN c x d hc hx w)⟩
  · rw [if_neg q]
    by_cases w : sL (fU0 σ) a < sL (fU0 σ) b
    · rw [if_pos w]; exact key _ _ w (Nat.lt_of_le_of_lt hb1 hb) ha2 hb2
    · rw [if_neg w]; exact key _ _ (by omega) (Nat.lt_of_le_of_lt ha1 ha) hb2 ha2
theorem lvs_le (M : Nat) (L : Nat → Nat) : lvs M L ≤ M := cntT_le _ _
theorem un_inv {K : Nat} {τ : CS} (h : IV K τ) (hv : sFc τ + sV τ ≤ 200) (hD : DE τ 0) : ∀ i, i ≤ 200 → (∀ j, j < i → j < sFc (unI τ j)) → Okk K τ (unI τ i) ∧ DE (unI τ i) i := by
  intro i
  induction i with
  | zero => intro _ _; exact ⟨⟨h, Mon.refl τ, rfl, Nat.le_refl _, fun _ _ _ q => q⟩, hD⟩
  | succ i ih =>
    intro hi hj
    obtain ⟨o1, o2⟩ := ih (by omega) (fun j q => hj j (by omega))
    have hlt := hj i (by omega)
    have hs := o1.2.2.1
    obtain ⟨kM, kd⟩ := o2.1 i hlt
    have hC : sC (unI τ i) = K := o1.1.2.2.1
    have hK6 : K ≤ 6 := by have := o1.1.1.2.1; omega
    have hX0 : DX (unI τ i) i 0 := ⟨o2.1, fun c x d hc hx q => by
      rcases o2.2 c x d hc hx q with e | ⟨j, j1, j2, j3⟩
      · exact Or.inl e
      · by_cases z : j = i
        · exact Or.inr (Or.inr ⟨(by subst z; exact j3.symm), Nat.zero_le _⟩)
        · exact Or.inr (Or.inl ⟨j, by omega, j2, j3⟩)⟩
    obtain ⟨p1, p2⟩ := Okk_hoI o1.1 kM (by omega) o1.1.z K hK6
    obtain ⟨d1, d2⟩ := DX_ho o1.1 hlt (by omega) o1.1.z hX0 K hK6
    rw [unI, hC]
    refine ⟨o1.trans p1, d1.1, fun c x d hc hx q => ?_⟩
    rcases d1.2 c x d hc hx q with e | ⟨j, j1, j2, j3⟩ | ⟨e1, e2⟩
    · exact Or.inl e
    · exact Or.inr ⟨j, j1, j2, j3⟩
    · have := (p1.1.2.2.2.2.2.1 c x d hc hx q).1; omega
theorem pos_V {K : Nat} {u : CS} (h : IV K u) : 1 ≤ sV u := by
  have hV := h.2.2.2.2.2.2.2
  have hz := h.z
  rw [hV]
  unfold lvs
  have : cntT (va_up (fun c => decide (sL u c = c)) 0 false) (sM u) + 1 = cntT (fun c => decide (sL u c = c)) (sM u) := cntT_dn h.2.1 (by simp [hz])
  omega
theorem un_sum {K : Nat} {σ : CS} {a b : Nat} (h : IV K σ) (ha : a < sM σ) (hb : b < sM σ) : IV K (fFall (fU0 σ) a b) ∧ sFc (fFall (fU0 σ) a b) + sV (fFall (fU0 σ) a b) = sV σ ∧ sV σ ≤ 200 ∧ sM (fFall (fU0 σ) a b) = sM σ := by
  obtain ⟨g1, g2, g3, -⟩ := h.u0.fall (a := a) (b := b) ha hb (by show 0 < 200; decide)
  refine ⟨g1, ?_, h.1.2.2.2.2.2.2.2.2.1, g2⟩
  rw [g3]; show 0 + sV σ = sV σ; omega
theorem preUn {K : Nat} {σ : CS} {a b : Nat} (h : IV K σ) (hN : NRM σ) (ha : a < sM σ) (hb : b < sM σ) : PreUn σ a b := by
  obtain ⟨g1, g2, g3, g4⟩ := un_sum h ha hb
  have hD := DE_fall h hN ha hb
  refine ⟨fun _ => pos_V h.u0, h.u0.1, fun i hi hj => (un_inv g1 (by omega) hD i hi hj).1.1.1, fun i hi hj x hx => ?_⟩
  obtain ⟨o1, o2⟩ := un_inv g1 (by omega) hD i (by omega) (fun j q => hj j (by omega))
  have hlt := hj i (by omega)
  have hs := o1.2.2.1
  obtain ⟨kM, kd⟩ := o2.1 i hlt
  have hC : sC (unI (fFall (fU0 σ) a b) i) = K := o1.1.2.2.1
  have hK6 : K ≤ 6 := by have := o1.1.1.2.1; omega
  obtain ⟨p1, p2⟩ := Okk_hoI o1.1 kM (by omega) o1.1.z x (by omega)
  have hs2 := p1.2.2.1
  exact ⟨p1.1.1, by omega, p2, p1.1.2.2.2.2.2.2.1.cap⟩
/-- what unite leaves -/
theorem un_end {K : Nat} {σ u : CS} {a b : Nat} (h : IV K σ) (hN : NRM σ) (ha : a < sM σ) (hb : b < sM σ) (hu : UnEnd (fFall (fU0 σ) a b) u) : IV K u ∧ NRM u ∧ Mon σ u ∧ sL u a = sL u b ∧ sV u ≤ sV σ ∧ (sL σ a ≠ sL σ b → sV u < sV σ) ∧ ∀ LT ET, WTb (sM σ) K LT ET → HomT σ LT ET → LT a = LT b → HomT u LT ET := by
  obtain ⟨g1, g2, g3, g4⟩ := un_sum h ha hb
  have hD := DE_fall h hN ha hb
  obtain ⟨N, rfl, hN2, hj, he⟩ := hu
  obtain ⟨o1, o2⟩ := un_inv g1 (by omega) hD N hN2 hj
  have hs := o1.2.2.1
  have hp := pos_V o1.1
  have hlt : N < 200 := by
    rcases Nat.lt_or_ge N 200 with q | q
    · exact q
    · exfalso
      have h199 := hj 199 (by omega)
      obtain ⟨q1, q2⟩ := un_inv g1 (by omega) hD 199 (by omega) (fun j z => hj j (by omega))
      have := pos_V q1.1
      have := q1.2.2.1
      omega
  have hfe := he hlt
  obtain ⟨m1, m2⟩ := fall_mon h.u0 (a := a) (b := b) ha hb (by show 0 < 200; decide)
  have m0 : Mon σ (fU0 σ) := Mon.refl σ
  refine ⟨o1.1, fun c x d hc hx q => ?_, (m0.trans m1).trans o1.2.1, ?_, ?_, ?_, ?_⟩
  · rcases o2.2 c x d hc hx q with e | ⟨j, j1, j2, j3⟩
    · exact e
    · omega
  · exact o1.2.1.2.1 a b (by rw [g4]; exact ha) (by rw [g4]; exact hb) m2
  · omega
  · intro hne
    have hfc : 1 ≤ sFc (fFall (fU0 σ) a b) := by
      unfold fFall
      rw [if_neg (show ¬ sL (fU0 σ) a = sL (fU0 σ) b from hne)]
      split <;> exact Nat.le_refl 1
    have := o1.2.2.2.1
    omega
  · intro LT ET hW hH hT
    exact o1.2.2.2.2 LT ET (by rw [g4]; exact hW) (Hom.fall h.u0 hH ha hb (by show 0 < 200; decide) hT)
