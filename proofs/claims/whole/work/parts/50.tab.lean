/-! tables: made, least names, entries; one below another; closed ones -/
def Hom (M : Nat) (LS : Nat → Nat) (ES : Nat → Option Nat) (LT : Nat → Nat) (ET : Nat → Option Nat) : Prop := (∀ c, c < M → LT (LS c) = LT c) ∧ ∀ c x d, c < M → x < 6 → ES (c * 6 + x) = some d → ET (LT c * 6 + x) = some (LT d)
def InM (M : Nat) (E : Nat → Option Nat) : Prop := ∀ c x d, c < M → x < 6 → E (c * 6 + x) = some d → d < M
/-- entries of living cosets alone, to living ones, with their inverses -/
def WTb (M K : Nat) (L : Nat → Nat) (E : Nat → Option Nat) : Prop := (∀ c, c < M → L c ≤ c) ∧ (∀ c, c < M → L (L c) = L c) ∧ ∀ c x d, c < M → x < 6 → E (c * 6 + x) = some d → L c = c ∧ x < K ∧ d < M ∧ L d = d ∧ E (d * 6 + (x ^^^ 1)) = some c
theorem tab_eq {M K : Nat} {LS LT : Nat → Nat} {ES ET : Nat → Option Nat} (hS : WTb M K LS ES) (hT : WTb M K LT ET) (h1 : Hom M LS ES LT ET) (h2 : Hom M LT ET LS ES) : (∀ c, c < M → LS c = LT c) ∧ ∀ c x, c < M → x < 6 → ES (c * 6 + x) = ET (c * 6 + x) := by
  have hL : ∀ c, c < M → LS c = LT c := by
    intro c hc
    have a1 := h1.1 c hc
    have a2 := h2.1 c hc
    have b1 := hS.1 c hc
    have b2 := hT.1 c hc
    have c1 := hT.1 (LS c) (by omega)
    have c2 := hS.1 (LT c) (by omega)
    omega
  refine ⟨hL, fun c x hc hx => ?_⟩
  cases e1 : ES (c * 6 + x) with
  | some d =>
    obtain ⟨q1, q2, q3, q4, q5⟩ := hS.2.2 c x d hc hx e1
    have := h1.2 c x d hc hx e1
    rw [← hL c hc, q1, ← hL d q3, q4] at this
    exact this.symm
  | none =>
    cases e2 : ET (c * 6 + x) with
    | none => rfl
    | some d =>
      obtain ⟨q1, q2, q3, q4, q5⟩ := hT.2.2 c x d hc hx e2
      have := h2.2 c x d hc hx e2
      rw [hL c hc, q1, hL d q3, q4, e1] at this
      cases this
theorem Hom_pth {M : Nat} {LS LT : Nat → Nat} {ES ET : Nat → Option Nat} (h : Hom M LS ES LT ET) (hi : InM M ES) {g : Nat → Nat} (hg : ∀ j, g j < 6) {c : Nat} (hc : c < M) {i : Nat} : ∀ {p : Nat}, pth ES g c i = some p → pth ET g (LT c) i = some (LT p) := by
  induction i with
  | zero => intro p q; cases q; rfl
  | succ i ih =>
    intro p q
    replace q : (match pth ES g c i with | none => none | some p => ES (p * 6 + g i)) = some p := q
    cases e1 : pth ES g c i with
    | none => rw [e1] at q; cases q
    | some r =>
      rw [e1] at q
      show (match pth ET g (LT c) i with | none => none | some p => ET (p * 6 + g i)) = _
      rw [ih e1]
      exact h.2 r _ _ (pth_lt2 hi hg hc e1) (hg i) q
theorem Hom_bp {M : Nat} {LS LT : Nat → Nat} {ES ET : Nat → Option Nat} (h : Hom M LS ES LT ET) (hi : InM M ES) {g : Nat → Nat} (hg : ∀ j, g j < 6) {len c : Nat} (hc : c < M) {i : Nat} : ∀ {p : Nat}, bp ES g len c i = some p → bp ET g len (LT c) i = some (LT p) := by
  induction i with
  | zero => intro p q; cases q; rfl
  | succ i ih =>
    intro p q
    replace q : (match bp ES g len c i with | none => none | some q => ES (q * 6 + (g (len - 1 - i) ^^^ 1))) = some p := q
    cases e1 : bp ES g len c i with
    | none => rw [e1] at q; cases q
    | some r =>
      rw [e1] at q
      show (match bp ET g len (LT c) i with | none => none | some q => ET (q * 6 + (g (len - 1 - i) ^^^ 1))) = _
      rw [ih e1]
      exact h.2 r _ _ (bp_lt2 hi hg hc e1) (xor1_lt (hg _)) q
theorem Hom_trans {M : Nat} {L1 L2 L3 : Nat → Nat} {E1 E2 E3 : Nat → Option Nat} (h1 : Hom M L1 E1 L2 E2) (h2 : Hom M L2 E2 L3 E3) (hL1 : ∀ c, c < M → L1 c < M) (hL2 : ∀ c, c < M → L2 c < M) (hE : InM M E1) : Hom M L1 E1 L3 E3 := by
  refine ⟨fun c hc => ?_, fun c x d hc hx q => ?_⟩
  · rw [← h2.1 (L1 c) (hL1 c hc), h1.1 c hc, h2.1 c hc]
  · have a := h1.2 c x d hc hx q
    have b := h2.2 (L2 c) x _ (hL2 c hc) hx a
    rw [h2.1 c hc, h2.1 d (hE c x d hc hx q)] at b
    exact b
theorem Hom_refl {M : Nat} {L : Nat → Nat} {E : Nat → Option Nat} (hL : ∀ c, c < M → L (L c) = L c) (hE : ∀ c x d, c < M → x < 6 → E (c * 6 + x) = some d → L c = c ∧ L d = d) : Hom M L E L E := ⟨hL, fun c x d hc hx q => by obtain ⟨a, b⟩ := hE c x d hc hx q; rw [a, b]; exact q⟩
/-! paths -/
theorem pth_add {E : Nat → Option Nat} {g : Nat → Nat} {c p : Nat} (i : Nat) (h : pth E g c i = some p) (j : Nat) : pth E g c (i + j) = pth E (fun t => g (i + t)) p j := by
  induction j with
  | zero => exact h
  | succ j ih =>
    show (match pth E g c (i + j) with | none => none | some p => E (p * 6 + g (i + j))) = (match pth E (fun t => g (i + t)) p j with | none => none | some p => E (p * 6 + g (i + j)))
    rw [ih]
theorem pth_pre {E : Nat → Option Nat} {g : Nat → Nat} {c r : Nat} {i j : Nat} (h : pth E g c (i + j) = some r) : ∃ p, pth E g c i = some p := by
  induction j generalizing r with
  | zero => exact ⟨r, h⟩
  | succ j ih =>
    have h' : (match pth E g c (i + j) with | none => none | some p => E (p * 6 + g (i + j))) = some r := h
    cases e : pth E g c (i + j) with
    | none => rw [e] at h'; cases h'
    | some q => exact ih e
theorem pth_congr {E : Nat → Option Nat} {g g' : Nat → Nat} {c : Nat} {n : Nat} (h : ∀ j, j < n → g j = g' j) : ∀ i, i ≤ n → pth E g c i = pth E g' c i := by
  intro i
  induction i with
  | zero => intro _; rfl
  | succ i ih =>
    intro hi
    show (match pth E g c i with | none => none | some p => E (p * 6 + g i)) = (match pth E g' c i with | none => none | some p => E (p * 6 + g' i))
    rw [ih (by omega), h i (by omega)]
theorem xor1_xor1 (x : Nat) : x ^^^ 1 ^^^ 1 = x := by rw [Nat.xor_assoc, Nat.xor_self, Nat.xor_zero]
def Inv6 (M : Nat) (E : Nat → Option Nat) : Prop := ∀ c x d, c < M → x < 6 → E (c * 6 + x) = some d → d < M ∧ E (d * 6 + (x ^^^ 1)) = some c
/-- the way back is a way there -/
theorem bp_pth {M : Nat} {E : Nat → Option Nat} (hE : Inv6 M E) {g : Nat → Nat} (hg : ∀ j, g j < 6) {len c : Nat} (hc : c < M) {k : Nat} : ∀ {q : Nat}, k ≤ len → bp E g len c k = some q → pth E (fun t => g (len - k + t)) q k = some c := by
  induction k with
  | zero => intro q _ h; cases h; rfl
  | succ k ih =>
    intro q hk h
    have h' : (match bp E g len c k with | none => none | some q => E (q * 6 + (g (len - 1 - k) ^^^ 1))) = some q := h
    cases e : bp E g len c k with
    | none => rw [e] at h'; cases h'
    | some r =>
      rw [e] at h'
      have hr : r < M := bp_lt2 (fun c x d a b q => (hE c x d a b q).1) hg hc e
      obtain ⟨q1, q2⟩ := hE r _ _ hr (xor1_lt (hg _)) h'
      rw [xor1_xor1] at q2
      have a1 : pth E (fun t => g (len - (k + 1) + t)) q 1 = some r := by
        show E (q * 6 + g (len - (k + 1) + 0)) = some r
        rw [show len - (k + 1) + 0 = len - 1 - k by omega]; exact q2
      rw [show k + 1 = 1 + k by omega, pth_add 1 (by rw [show 1 + k = k + 1 by omega]; exact a1) k]
      have := ih (by omega) e
      rw [← this]
      exact pth_congr (fun j hj => by show g (len - (1 + k) + (1 + j)) = g (len - k + j); rw [show len - (1 + k) + (1 + j) = len - k + j by omega]) k (Nat.le_refl _)
