/-! clear, fall, hand over: the structure, and that nothing untrue is said -/
theorem IV.clr {K : Nat} {σ : CS} {k x d : Nat} (h : IV K σ) (hk : k < sM σ) (hx : x < 6) (he : sE σ (k * 6 + x) = some d) : IV K (fClr σ k x d) := by
  obtain ⟨hB, hM, hC, hX, hL, hE, hF, hV⟩ := h
  obtain ⟨k1, k2, k3⟩ := hE k x d hk hx he
  have hK6 : K ≤ 6 := by have := hB.2.1; omega
  refine ⟨hB.clr, hM, hC, hX, hL, ?_, hF, hV⟩
  intro c y e hc hy q
  have q' : va_up (va_up (sE σ) (k * 6 + x) none) (d * 6 + (x ^^^ 1)) none (c * 6 + y) = some e := q
  have z1 : ¬ c * 6 + y = d * 6 + (x ^^^ 1) := fun z => by rw [z] at q'; simp [va_up] at q'
  have z2 : ¬ c * 6 + y = k * 6 + x := fun z => by simp only [va_up, if_neg z1, if_pos z] at q'; cases q'
  simp only [va_up, if_neg z1, if_neg z2] at q'
  obtain ⟨q1, q2, q3⟩ := hE c y e hc hy q'
  refine ⟨q1, q2, ?_⟩
  have hy1 := hX y q1
  have hx1 := hX x k1
  have w1 : ¬ e * 6 + (y ^^^ 1) = d * 6 + (x ^^^ 1) := by
    intro w
    have w' : e = d ∧ y ^^^ 1 = x ^^^ 1 := by omega
    rw [w'.1, w'.2, k3] at q3
    have hyx : y = x := by rw [← xor1_xor1 y, w'.2, xor1_xor1]
    cases q3
    exact z2 (by rw [hyx])
  have w2 : ¬ e * 6 + (y ^^^ 1) = k * 6 + x := by
    intro w
    have w' : e = k ∧ y ^^^ 1 = x := by omega
    rw [w'.1, w'.2, he] at q3
    cases q3
    exact z1 (by rw [← w'.2, xor1_xor1])
  show va_up (va_up (sE σ) (k * 6 + x) none) (d * 6 + (x ^^^ 1)) none (e * 6 + (y ^^^ 1)) = some c
  simp only [va_up, if_neg w1, if_neg w2]
  exact q3
theorem IV.fl {K : Nat} {σ : CS} {lo hi : Nat} (h : IV K σ) (hlo : lo < hi) (hhi : hi < sM σ) (h1 : sL σ lo = lo) (h2 : sL σ hi = hi) (hf : sFc σ < 200) : IV K (fFl σ lo hi) ∧ sV (fFl σ lo hi) + 1 = sV σ := by
  obtain ⟨hB, hM, hC, hX, hL, hE, hF, hV⟩ := h
  obtain ⟨b1, b2, b3, b4, b5, b6, b7, b8, b9, b10⟩ := hB
  obtain ⟨g1, g2⟩ := Ld_mrg (L' := rl (sL σ) hi lo (sM σ - hi)) hL hlo hhi h1 h2 (rl_mrg hL)
  have hv : 1 ≤ sV σ := by rw [hV]; omega
  refine ⟨⟨⟨b1, b2, rl_lt b3 (by omega) _, fun i => up_lt b4 (by omega), b5, b6, b7, by show sFc σ + 1 ≤ 200; omega, by show sV σ - 1 ≤ 200; omega, b10⟩, hM, hC, hX, g1, hE, hF, ?_⟩, ?_⟩
  · show sV σ - 1 = lvs (sM σ) (rl (sL σ) hi lo (sM σ - hi)); omega
  · show sV σ - 1 + 1 = sV σ; omega
theorem IV.fall {K : Nat} {σ : CS} {a b : Nat} (h : IV K σ) (ha : a < sM σ) (hb : b < sM σ) (hf : sFc σ < 200) : IV K (fFall σ a b) ∧ sM (fFall σ a b) = sM σ ∧ sFc (fFall σ a b) + sV (fFall σ a b) = sFc σ + sV σ ∧ sE (fFall σ a b) = sE σ ∧ sRc (fFall σ a b) = sRc σ := by
  have hL := h.2.2.2.2.1
  have ha1 := hL.1 a ha; have hb1 := hL.1 b hb
  have ha2 := hL.2 a ha; have hb2 := hL.2 b hb
  unfold fFall
  by_cases q : sL σ a = sL σ b
  · rw [if_pos q]; exact ⟨h, rfl, rfl, rfl, rfl⟩
  · rw [if_neg q]
    by_cases w : sL σ a < sL σ b
    · rw [if_pos w]
      obtain ⟨g1, g2⟩ := h.fl w (by omega) ha2 hb2 hf
      exact ⟨g1, rfl, by show sFc σ + 1 + sV (fFl σ (sL σ a) (sL σ b)) = _; omega, rfl, rfl⟩
    · rw [if_neg w]
      obtain ⟨g1, g2⟩ := h.fl (show sL σ b < sL σ a by omega) (by omega) hb2 ha2 hf
      exact ⟨g1, rfl, by show sFc σ + 1 + sV (fFl σ (sL σ b) (sL σ a)) = _; omega, rfl, rfl⟩
/-- the leaders behind a fall, in all cases -/
theorem fall_L {K : Nat} {σ : CS} {a b : Nat} (h : IV K σ) (ha : a < sM σ) (hb : b < sM σ) : ∃ lo hi, (∀ c, c < sM σ → sL (fFall σ a b) c = mrg (sL σ) lo hi c) ∧ ((lo = sL σ a ∧ hi = sL σ b) ∨ (lo = sL σ b ∧ hi = sL σ a)) ∧ lo ≤ hi := by
  have hL := h.2.2.2.2.1
  unfold fFall
  by_cases q : sL σ a = sL σ b
  · rw [if_pos q]
    refine ⟨sL σ a, sL σ b, fun c hc => ?_, Or.inl ⟨rfl, rfl⟩, by omega⟩
    unfold mrg; split <;> omega
  · rw [if_neg q]
    by_cases w : sL σ a < sL σ b
    · rw [if_pos w]; exact ⟨_, _, rl_mrg hL, Or.inl ⟨rfl, rfl⟩, by omega⟩
    · rw [if_neg w]; exact ⟨_, _, rl_mrg hL, Or.inr ⟨rfl, rfl⟩, by omega⟩
abbrev HomT (σ : CS) (LT : Nat → Nat) (ET : Nat → Option Nat) : Prop := Hom (sM σ) (sL σ) (sE σ) LT ET
theorem Hom.fall {K : Nat} {σ : CS} {a b : Nat} {LT : Nat → Nat} {ET : Nat → Option Nat} (h : IV K σ) (hH : HomT σ LT ET) (ha : a < sM σ) (hb : b < sM σ) (hf : sFc σ < 200) (hT : LT a = LT b) : HomT (fFall σ a b) LT ET := by
  obtain ⟨g1, g2, g3, g4, g5⟩ := h.fall ha hb hf
  obtain ⟨lo, hi, e1, e2, e3⟩ := fall_L h ha hb
  show Hom (sM (fFall σ a b)) (sL (fFall σ a b)) (sE (fFall σ a b)) LT ET
  rw [g2, g4]
  refine ⟨fun c hc => ?_, hH.2⟩
  rw [e1 c hc]
  have hc1 := hH.1 c hc
  unfold mrg
  by_cases q : sL σ c = hi
  · rw [if_pos q]
    rw [q] at hc1
    have hA := hH.1 a ha; have hB := hH.1 b hb
    rcases e2 with ⟨r1, r2⟩ | ⟨r1, r2⟩
    · rw [r1, hA, hT, ← hB, ← r2, hc1]
    · rw [r1, hB, ← hT, ← hA, ← r2, hc1]
  · rw [if_neg q]; exact hc1
theorem Hom.clr {σ : CS} {k x d : Nat} {LT : Nat → Nat} {ET : Nat → Option Nat} (hH : HomT σ LT ET) : HomT (fClr σ k x d) LT ET := by
  refine ⟨hH.1, fun c y e hc hy q => hH.2 c y e hc hy ?_⟩
  have q' : va_up (va_up (sE σ) (k * 6 + x) none) (d * 6 + (x ^^^ 1)) none (c * 6 + y) = some e := q
  simp only [va_up] at q'
  split at q'
  · cases q'
  · split at q'
    · cases q'
    · exact q'
theorem fJoin_L (σ : CS) (k x d : Nat) : sL (fJoin σ k x d) = sL σ ∧ sM (fJoin σ k x d) = sM σ ∧ sFc (fJoin σ k x d) = sFc σ ∧ sV (fJoin σ k x d) = sV σ ∧ sF (fJoin σ k x d) = sF σ ∧ sE (fJoin σ k x d) = va_up (va_up (sE σ) (k * 6 + x) (some d)) (d * 6 + (x ^^^ 1)) (some k) ∧ sRc (fJoin σ k x d) ≤ sRc σ + 1 ∧ sO (fJoin σ k x d) = sO σ := by
  unfold fJoin; split
  · exact ⟨rfl, rfl, rfl, rfl, rfl, rfl, Nat.le_add_right _ _, rfl⟩
  · exact ⟨rfl, rfl, rfl, rfl, rfl, rfl, Nat.le_refl _, rfl⟩
theorem Hom.join {K : Nat} {σ : CS} {k x d : Nat} {LT : Nat → Nat} {ET : Nat → Option Nat} (hH : HomT σ LT ET) (hx : x < 6) (h1 : ET (LT k * 6 + x) = some (LT d)) (h2 : ET (LT d * 6 + (x ^^^ 1)) = some (LT k)) : HomT (fJoin σ k x d) LT ET := by
  obtain ⟨g1, g2, g3, g4, g5, g6, g7, g8⟩ := fJoin_L σ k x d
  show Hom (sM (fJoin σ k x d)) (sL (fJoin σ k x d)) (sE (fJoin σ k x d)) LT ET
  rw [g1, g2, g6]
  refine ⟨hH.1, fun c y e hc hy q => ?_⟩
  have hx1 := xor1_lt hx
  simp only [va_up] at q
  split at q
  · rename_i z
    cases q
    obtain ⟨rfl, rfl⟩ : c = d ∧ y = x ^^^ 1 := by omega
    exact h2
  · split at q
    · rename_i z
      cases q
      obtain ⟨rfl, rfl⟩ : c = k ∧ y = x := by omega
      exact h1
    · exact hH.2 c y e hc hy q
