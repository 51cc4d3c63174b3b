/-! the structure that every step of Cosets keeps -/
theorem rl_eq (f : Nat → Nat) (hi lo j : Nat) : rl f hi lo j = fun i => if hi ≤ i ∧ i < hi + j ∧ f i = hi then lo else f i := by
  induction j with
  | zero =>
    funext i
    show f i = _
    rw [if_neg (by omega)]
  | succ j ih =>
    funext i
    have e0 : rl f hi lo j (hi + j) = f (hi + j) := by rw [ih]; exact if_neg (by omega)
    rw [rl]
    by_cases q : f (hi + j) = hi
    · rw [if_pos (by rw [e0]; exact q), ih]
      by_cases e : i = hi + j
      · subst e; simp [va_up, q]
      · simp only [va_up, if_neg e]
        by_cases z : hi ≤ i ∧ i < hi + j ∧ f i = hi
        · rw [if_pos z, if_pos ⟨z.1, by omega, z.2.2⟩]
        · rw [if_neg z, if_neg (fun w => z ⟨w.1, by omega, w.2.2⟩)]
    · rw [if_neg (by rw [e0]; exact q), ih]
      simp only
      by_cases z : hi ≤ i ∧ i < hi + j ∧ f i = hi
      · rw [if_pos z, if_pos ⟨z.1, by omega, z.2.2⟩]
      · rw [if_neg z, if_neg (fun w => z ⟨w.1, by
          have : i ≠ hi + j := fun e => q (by rw [← e]; exact w.2.2)
          omega, w.2.2⟩)]
theorem cntT_congr {f g : Nat → Bool} {n : Nat} (h : ∀ i, i < n → f i = g i) : cntT f n = cntT g n := by
  induction n with
  | zero => rfl
  | succ n ih => rw [cntT, cntT, ih (fun i hi => h i (by omega)), h n (by omega)]
def Ent (K M : Nat) (E : Nat → Option Nat) : Prop := ∀ c x d, c < M → x < 6 → E (c * 6 + x) = some d → x < K ∧ d < M ∧ E (d * 6 + (x ^^^ 1)) = some c
def FR (σ : CS) : Prop := cntT (sS σ) 1200 = sRc σ ∧ (∀ j, j < sRc σ → sR σ j < sM σ * 6 ∧ sS σ (sR σ j) = true) ∧ (∀ i j, i < sRc σ → j < sRc σ → sR σ i = sR σ j → i = j) ∧ ∀ p, p < 1200 → sS σ p = true → ∃ j, j < sRc σ ∧ sR σ j = p
def Ld (M : Nat) (L : Nat → Nat) : Prop := (∀ c, c < M → L c ≤ c) ∧ ∀ c, c < M → L (L c) = L c
def lvs (M : Nat) (L : Nat → Nat) : Nat := cntT (fun c => decide (L c = c)) M
/-- K: the columns that are used -/
def IV (K : Nat) (σ : CS) : Prop := BD σ ∧ 1 ≤ sM σ ∧ sC σ = K ∧ (∀ x, x < K → x ^^^ 1 < K) ∧ Ld (sM σ) (sL σ) ∧ Ent K (sM σ) (sE σ) ∧ FR σ ∧ sV σ = lvs (sM σ) (sL σ)
theorem FR.cap {σ : CS} (h : FR σ) : ∀ p, p < 1200 → sS σ p = false → sRc σ < 1200 := fun p hp hs => by rw [← h.1]; exact cntT_lt hp hs
/-- the leaders behind a fall -/
def mrg (L : Nat → Nat) (lo hi : Nat) : Nat → Nat := fun c => if L c = hi then lo else L c
theorem rl_mrg {L : Nat → Nat} {M lo hi : Nat} (hL : Ld M L) : ∀ c, c < M → rl L hi lo (M - hi) c = mrg L lo hi c := by
  intro c hc
  rw [rl_eq]
  simp only [mrg]
  have := hL.1 c hc
  by_cases q : L c = hi
  · rw [if_pos ⟨by omega, by omega, q⟩, if_pos q]
  · rw [if_neg (fun w => q w.2.2), if_neg q]
theorem Ld_mrg {L L' : Nat → Nat} {M lo hi : Nat} (hL : Ld M L) (hlo : lo < hi) (hhi : hi < M) (h1 : L lo = lo) (h2 : L hi = hi) (hL' : ∀ c, c < M → L' c = mrg L lo hi c) : Ld M L' ∧ lvs M L' + 1 = lvs M L := by
  have ev : ∀ c, c < M → L' c = if L c = hi then lo else L c := fun c hc => hL' c hc
  refine ⟨⟨fun c hc => ?_, fun c hc => ?_⟩, ?_⟩
  · rw [ev c hc]; have := hL.1 c hc; split <;> omega
  · have hcc := hL.1 c hc
    rw [ev c hc]
    by_cases q : L c = hi
    · rw [if_pos q, ev lo (by omega), h1, if_neg (by omega)]
    · rw [if_neg q, ev (L c) (by omega), hL.2 c hc, if_neg q]
  · unfold lvs
    have e : cntT (fun c => decide (L' c = c)) M = cntT (va_up (fun c => decide (L c = c)) hi false) M := by
      refine cntT_congr (fun c hc => ?_)
      by_cases q : c = hi
      · subst q
        simp [va_up, ev c hc, h2]; omega
      · simp only [va_up, if_neg q]
        rw [ev c hc]
        have hcc := hL.1 c hc
        by_cases z : L c = hi
        · rw [if_pos z]; simp; omega
        · rw [if_neg z]
    rw [e]
    exact cntT_dn hhi (by simp [h2])
theorem IV.join {K : Nat} {σ : CS} {k x d : Nat} (h : IV K σ) (hk : k < sM σ) (hx : x < K) (hd : d < sM σ) (h1 : sE σ (k * 6 + x) = none) (h2 : sE σ (d * 6 + (x ^^^ 1)) = none) : IV K (fJoin σ k x d) := by
  obtain ⟨hB, hM, hC, hX, hL, hE, hF, hV⟩ := h
  obtain ⟨b1, b2, b3, b4, b5, b6, b7, b8, b9, b10⟩ := hB
  have hK6 : K ≤ 6 := by omega
  have hx1 := hX x hx
  have he : Ent K (sM σ) (va_up (va_up (sE σ) (k * 6 + x) (some d)) (d * 6 + (x ^^^ 1)) (some k)) := by
    intro c y e hc hy q
    by_cases z1 : c * 6 + y = d * 6 + (x ^^^ 1)
    · obtain ⟨rfl, rfl⟩ : c = d ∧ y = x ^^^ 1 := by omega
      simp only [va_up, if_pos] at q
      cases q
      refine ⟨hx1, hk, ?_⟩
      rw [xor1_xor1]
      by_cases z2 : k * 6 + x = c * 6 + (x ^^^ 1)
      · rw [z2]; simp only [va_up, if_pos]
        obtain ⟨rfl, -⟩ : k = c ∧ x = x ^^^ 1 := by omega
        rfl
      · simp only [va_up, if_neg z2, if_pos]
    · by_cases z2 : c * 6 + y = k * 6 + x
      · obtain ⟨rfl, rfl⟩ : c = k ∧ y = x := by omega
        simp only [va_up, if_neg z1, if_pos] at q
        cases q
        exact ⟨hx, hd, by simp only [va_up, if_pos]⟩
      · simp only [va_up, if_neg z1, if_neg z2] at q
        obtain ⟨q1, q2, q3⟩ := hE c y e hc hy q
        refine ⟨q1, q2, ?_⟩
        have hy1 := hX y q1
        have w1 : ¬ e * 6 + (y ^^^ 1) = d * 6 + (x ^^^ 1) := by
          intro w
          have : e = d ∧ y ^^^ 1 = x ^^^ 1 := by omega
          rw [this.1, this.2, h2] at q3; cases q3
        have w2 : ¬ e * 6 + (y ^^^ 1) = k * 6 + x := by
          intro w
          have : e = k ∧ y ^^^ 1 = x := by omega
          rw [this.1, this.2, h1] at q3; cases q3
        simp only [va_up, if_neg w1, if_neg w2]
        exact q3
  have hb : ∀ i e, va_up (va_up (sE σ) (k * 6 + x) (some d)) (d * 6 + (x ^^^ 1)) (some k) i = some e → e < 200 := fun i e q => up_some (fun i e q => up_some b6 (fun z hz => by cases hz; omega) q) (fun z hz => by cases hz; omega) q
  unfold fJoin
  by_cases hs : sS σ (k * 6 + x) = true
  · rw [if_pos hs]
    exact ⟨⟨b1, b2, b3, b4, b5, hb, b7, b8, b9, b10⟩, hM, hC, hX, hL, he, hF, hV⟩
  · rw [if_neg hs]
    have hs' : sS σ (k * 6 + x) = false := by cases e : sS σ (k * 6 + x) <;> simp_all
    have hp : k * 6 + x < 1200 := by omega
    have hcap := hF.cap _ hp hs'
    obtain ⟨f1, f2, f3, f4⟩ := hF
    refine ⟨⟨b1, b2, b3, b4, fun i => up_lt b5 hp, hb, by show sRc σ + 1 ≤ 1200; omega, b8, b9, b10⟩, hM, hC, hX, hL, he, ⟨?_, ?_, ?_, ?_⟩, hV⟩
    · show cntT (va_up (sS σ) (k * 6 + x) true) 1200 = sRc σ + 1
      rw [cntT_up hp hs', f1]
    · intro j hj
      have hj' : j < sRc σ + 1 := hj
      show va_up (sR σ) (sRc σ) (k * 6 + x) j < sM σ * 6 ∧ va_up (sS σ) (k * 6 + x) true (va_up (sR σ) (sRc σ) (k * 6 + x) j) = true
      by_cases q : j = sRc σ
      · simp [va_up, q]; omega
      · obtain ⟨g1, g2⟩ := f2 j (by omega)
        simp only [va_up, if_neg q]
        refine ⟨g1, ?_⟩
        split
        · rfl
        · exact g2
    · intro i j hi hj e
      have hi' : i < sRc σ + 1 := hi
      have hj' : j < sRc σ + 1 := hj
      have e' : va_up (sR σ) (sRc σ) (k * 6 + x) i = va_up (sR σ) (sRc σ) (k * 6 + x) j := e
      by_cases q : i = sRc σ <;> by_cases w : j = sRc σ
      · omega
      · simp only [va_up, if_pos q, if_neg w] at e'
        have := (f2 j (by omega)).2; rw [← e', hs'] at this; cases this
      · simp only [va_up, if_neg q, if_pos w] at e'
        have := (f2 i (by omega)).2; rw [e', hs'] at this; cases this
      · simp only [va_up, if_neg q, if_neg w] at e'
        exact f3 i j (by omega) (by omega) e'
    · intro p hp2 hs2
      have hs3 : va_up (sS σ) (k * 6 + x) true p = true := hs2
      show ∃ j, j < sRc σ + 1 ∧ va_up (sR σ) (sRc σ) (k * 6 + x) j = p
      by_cases q : p = k * 6 + x
      · exact ⟨sRc σ, by omega, by simp [va_up, q]⟩
      · simp only [va_up, if_neg q] at hs3
        obtain ⟨j, hj, e⟩ := f4 p hp2 hs3
        exact ⟨j, by omega, by simp [va_up, show ¬ j = sRc σ by omega, e]⟩
