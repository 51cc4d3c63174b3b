/-! unite: the fallen are handed over until none is left -/
/-- the fallen are dead names; entries stand at living names, at the fallen from i + 1 on, and at the i-th from column n on -/
def DX (τ : CS) (i n : Nat) : Prop := (∀ j, j < sFc τ → sF τ j < sM τ ∧ sL τ (sF τ j) ≠ sF τ j) ∧ ∀ c x d, c < sM τ → x < 6 → sE τ (c * 6 + x) = some d → sL τ c = c ∨ (∃ j, i < j ∧ j < sFc τ ∧ sF τ j = c) ∨ (c = sF τ i ∧ n ≤ x)
theorem DX_fall {K : Nat} {ρ : CS} {a b i n : Nat} (h : IV K ρ) (ha : a < sM ρ) (hb : b < sM ρ) (hf : sFc ρ < 200) (hi : i < sFc ρ) (hD : DX ρ i n) : DX (fFall ρ a b) i n ∧ sF (fFall ρ a b) i = sF ρ i := by
  have hL := h.2.2.2.2.1
  have ha1 := hL.1 a ha; have hb1 := hL.1 b hb
  have ha2 := hL.2 a ha; have hb2 := hL.2 b hb
  have key : ∀ lo hi, lo < hi → hi < sM ρ → sL ρ lo = lo → sL ρ hi = hi → DX (fFl ρ lo hi) i n ∧ sF (fFl ρ lo hi) i = sF ρ i := by
    intro lo hh h1 h2 h3 h4
    have eL : ∀ c, c < sM ρ → sL (fFl ρ lo hh) c = mrg (sL ρ) lo hh c := rl_mrg hL
    have eF : ∀ j, j < sFc ρ → sF (fFl ρ lo hh) j = sF ρ j := fun j hj => by show va_up (sF ρ) (sFc ρ) hh j = _; simp [va_up, show ¬ j = sFc ρ by omega]
    have eN : sF (fFl ρ lo hh) (sFc ρ) = hh := by show va_up (sF ρ) (sFc ρ) hh (sFc ρ) = hh; simp [va_up]
    refine ⟨⟨fun j hj => ?_, fun c x d hc hx q => ?_⟩, eF i hi⟩
    · have hj' : j < sFc ρ + 1 := hj
      by_cases z : j = sFc ρ
      · rw [z, eN]
        refine ⟨h2, ?_⟩
        rw [eL hh h2, mrg, if_pos h4]; omega
      · rw [eF j (by omega)]
        obtain ⟨d1, d2⟩ := hD.1 j (by omega)
        refine ⟨d1, ?_⟩
        rw [eL _ d1, mrg]
        have := hL.1 _ d1
        split <;> omega
    · have hc' : c < sM ρ := hc
      rcases hD.2 c x d hc' hx q with e | ⟨j, j1, j2, j3⟩ | e
      · by_cases z : c = hh
        · exact Or.inr (Or.inl ⟨sFc ρ, hi, Nat.lt_succ_self _, by rw [eN, z]⟩)
        · left; rw [eL c hc', mrg, if_neg (by omega)]; exact e
      · exact Or.inr (Or.inl ⟨j, j1, Nat.lt_succ_of_lt j2, by rw [eF j j2]; exact j3⟩)
      · exact Or.inr (Or.inr ⟨by rw [eF i hi]; exact e.1, e.2⟩)
  unfold fFall
  by_cases q : sL ρ a = sL ρ b
  · rw [if_pos q]; exact ⟨hD, rfl⟩
  · rw [if_neg q]
    by_cases w : sL ρ a < sL ρ b
    · rw [if_pos w]; exact key _ _ w (by omega) ha2 hb2
    · rw [if_neg w]; exact key _ _ (by omega) (by omega) hb2 ha2
theorem DX_step {K : Nat} {τ : CS} {i n : Nat} (h : IV K τ) (hi : i < sFc τ) (hn : n < 6) (hf : sFc τ < 200) (hD : DX τ i n) : DX (hoStep τ (sF τ i) n) i (n + 1) ∧ sF (hoStep τ (sF τ i) n) i = sF τ i := by
  obtain ⟨kM, kd⟩ := hD.1 i hi
  generalize hk : sF τ i = k at *
  cases he : sE τ (k * 6 + n) with
  | none =>
    rw [ho_none he]
    refine ⟨⟨hD.1, fun c x d hc hx q => ?_⟩, hk⟩
    rcases hD.2 c x d hc hx q with e | e | ⟨e1, e2⟩
    · exact Or.inl e
    · exact Or.inr (Or.inl e)
    · refine Or.inr (Or.inr ⟨e1, ?_⟩)
      rcases Nat.lt_or_ge n x with z | z
      · exact z
      · exfalso
        have : x = n := by omega
        rw [this, e1, hk, he] at q; cases q
  | some d =>
    obtain ⟨k1, k2, k3⟩ := h.2.2.2.2.2.1 k n d kM hn he
    have hx1 := xor1_lt hn
    obtain ⟨ρ, hρ⟩ : ∃ q, q = fClr τ k n d := ⟨_, rfl⟩
    have hI : IV K ρ := by rw [hρ]; exact h.clr kM hn he
    have hM : sM ρ = sM τ := by rw [hρ]; rfl
    have hFc : sFc ρ = sFc τ := by rw [hρ]; rfl
    have hFl : sF ρ = sF τ := by rw [hρ]; rfl
    have hLl : sL ρ = sL τ := by rw [hρ]; rfl
    have hDρ : DX ρ i (n + 1) := by
      refine ⟨fun j hj => by rw [hFl, hM, hLl]; exact hD.1 j (by omega), fun c x e hc hx q => ?_⟩
      rw [hFl, hFc, hLl]
      have q' : va_up (va_up (sE τ) (k * 6 + n) none) (d * 6 + (n ^^^ 1)) none (c * 6 + x) = some e := by rw [hρ] at q; exact q
      have z1 : ¬ c * 6 + x = d * 6 + (n ^^^ 1) := fun z => by rw [z] at q'; simp [va_up] at q'
      have z2 : ¬ c * 6 + x = k * 6 + n := fun z => by simp only [va_up, if_neg z1, if_pos z] at q'; cases q'
      simp only [va_up, if_neg z1, if_neg z2] at q'
      rcases hD.2 c x e (by omega) hx q' with e | e | ⟨e1, e2⟩
      · exact Or.inl e
      · exact Or.inr (Or.inl e)
      · refine Or.inr (Or.inr ⟨e1, ?_⟩)
        rw [hk] at e1
        rcases Nat.lt_or_ge n x with z | z
        · exact z
        · exact absurd (show c * 6 + x = k * 6 + n by rw [e1, show x = n by omega]) z2
    have hld := hI.2.2.2.2.1
    have hfr := hld.1 k (by omega)
    have hto := hld.1 d (by omega)
    cases ha : sE ρ (sL ρ k * 6 + n) with
    | some f =>
      rw [ho_a he hρ ha]
      obtain ⟨g1, g2⟩ := DX_fall hI (hI.inM _ _ _ (by omega) hn ha) (show sL ρ d < sM ρ by omega) (by omega) (by omega) hDρ
      exact ⟨g1, by rw [g2, hFl, hk]⟩
    | none =>
      cases hb : sE ρ (sL ρ d * 6 + (n ^^^ 1)) with
      | some f =>
        rw [ho_b he hρ ha hb]
        obtain ⟨g1, g2⟩ := DX_fall hI (hI.inM _ _ _ (by omega) hx1 hb) (show sL ρ k < sM ρ by omega) (by omega) (by omega) hDρ
        exact ⟨g1, by rw [g2, hFl, hk]⟩
      | none =>
        rw [ho_c he hρ ha hb]
        obtain ⟨j1, j2, j3, j4, j5, j6, j7, j8⟩ := fJoin_L ρ (sL ρ k) n (sL ρ d)
        refine ⟨⟨fun j hj => ?_, fun c x e hc hx q => ?_⟩, by rw [j5, hFl, hk]⟩
        · rw [j5, j2, j1]; exact hDρ.1 j (by omega)
        · rw [j1, j5, j3]
          rw [j6] at q
          have hc' : c < sM ρ := by omega
          simp only [va_up] at q
          split at q
          · left
            rename_i z
            obtain ⟨rfl, -⟩ : c = sL ρ d ∧ x = n ^^^ 1 := by omega
            exact hld.2 d (by omega)
          · split at q
            · left
              rename_i z
              obtain ⟨rfl, -⟩ : c = sL ρ k ∧ x = n := by omega
              exact hld.2 k (by omega)
            · exact hDρ.2 c x e hc' hx q
theorem DX_ho {K : Nat} {τ : CS} {i : Nat} (h : IV K τ) (hi : i < sFc τ) (hv : sFc τ + sV τ ≤ 200) (h0 : sL τ 0 = 0) (hD : DX τ i 0) : ∀ n, n ≤ 6 → DX (hoI τ (sF τ i) n) i n ∧ sF (hoI τ (sF τ i) n) i = sF τ i := by
  intro n
  obtain ⟨kM, kd⟩ := hD.1 i hi
  induction n with
  | zero => intro _; exact ⟨hD, rfl⟩
  | succ n ih =>
    intro hn
    obtain ⟨a1, a2⟩ := ih (by omega)
    obtain ⟨o1, o2⟩ := Okk_hoI h kM hv h0 n (by omega)
    have hs := o1.2.2.1
    have hm := o1.2.2.2.1
    have := DX_step o1.1 (by omega) (by omega) (by omega) a1
    rw [a2] at this
    exact this
