/-! a run, step by step: the table that it must come to -/
def OP (K : Nat) (L : Nat → Nat) (E : Nat → Option Nat) (p : Nat) : Prop := p % 6 < K ∧ L (p / 6) = p / 6 ∧ E p = none
def FO (M K : Nat) (L : Nat → Nat) (E : Nat → Option Nat) (p : Nat) : Prop := p < M * 6 ∧ OP K L E p ∧ ∀ q, q < p → ¬ OP K L E q
def nxE (E : Nat → Option Nat) (M p : Nat) : Nat → Option Nat := fun i => if i = p then some M else if i = M * 6 + (p % 6 ^^^ 1) then some (p / 6) else if M * 6 ≤ i then none else E i
def Rch (G : GP) (lim M0 : Nat) (L0 : Nat → Nat) (E0 : Nat → Option Nat) (n : Nat) (L : Nat → Nat) (E : Nat → Option Nat) : Prop := match n with
  | 0 => LCl G M0 L0 E0 L E
  | n + 1 => M0 + n < lim ∧ ∃ L1 E1 p, Rch G lim M0 L0 E0 n L1 E1 ∧ FO (M0 + n) (uK G) L1 E1 p ∧ LCl G (M0 + n + 1) (va_up L1 (M0 + n) (M0 + n)) (nxE E1 (M0 + n) p) L E
/-- two tables agree on M names -/
def TEq (M : Nat) (L : Nat → Nat) (E : Nat → Option Nat) (L' : Nat → Nat) (E' : Nat → Option Nat) : Prop := (∀ c, c < M → L c = L' c) ∧ ∀ i, i < M * 6 → E i = E' i
theorem TEq.symm {M : Nat} {L L' : Nat → Nat} {E E' : Nat → Option Nat} (h : TEq M L E L' E') : TEq M L' E' L E := ⟨fun c hc => (h.1 c hc).symm, fun i hi => (h.2 i hi).symm⟩
theorem TEq.trans {M : Nat} {L L' L2 : Nat → Nat} {E E' E2 : Nat → Option Nat} (h : TEq M L E L' E') (h2 : TEq M L' E' L2 E2) : TEq M L E L2 E2 := ⟨fun c hc => (h.1 c hc).trans (h2.1 c hc), fun i hi => (h.2 i hi).trans (h2.2 i hi)⟩
theorem Hom_congr {M : Nat} {L L' LT : Nat → Nat} {E E' ET : Nat → Option Nat} (h : TEq M L E L' E') (hH : Hom M L E LT ET) : Hom M L' E' LT ET := ⟨fun c hc => by rw [← h.1 c hc]; exact hH.1 c hc, fun c x d hc hx q => hH.2 c x d hc hx (by rw [h.2 _ (by omega)]; exact q)⟩
theorem LCl_congr {G : GP} {M : Nat} {L0 L0' L : Nat → Nat} {E0 E0' E : Nat → Option Nat} (h : TEq M L0 E0 L0' E0') (hL : LCl G M L0 E0 L E) : LCl G M L0' E0' L E := ⟨hL.1, Hom_congr h hL.2.1, fun LT ET hC hH => hL.2.2 LT ET hC (Hom_congr h.symm hH)⟩
theorem LCl_eq {G : GP} {M : Nat} {L0 L L' : Nat → Nat} {E0 E E' : Nat → Option Nat} (h : LCl G M L0 E0 L E) (h' : LCl G M L0 E0 L' E') : TEq M L E L' E' := by
  obtain ⟨a, b⟩ := tab_eq h.1.1 h'.1.1 (h.2.2 L' E' h'.1 h'.2.1) (h'.2.2 L E h.1 h.2.1)
  refine ⟨a, fun i hi => ?_⟩
  have := b (i / 6) (i % 6) (by omega) (Nat.mod_lt _ (by decide))
  rw [show i / 6 * 6 + i % 6 = i by omega] at this
  exact this
theorem OP_congr {M K : Nat} {L L' : Nat → Nat} {E E' : Nat → Option Nat} (h : TEq M L E L' E') {p : Nat} (hp : p < M * 6) : OP K L E p ↔ OP K L' E' p := by
  unfold OP
  rw [h.1 (p / 6) (by omega), h.2 p hp]
theorem FO_eq {M K : Nat} {L L' : Nat → Nat} {E E' : Nat → Option Nat} (h : TEq M L E L' E') {p p' : Nat} (h1 : FO M K L E p) (h2 : FO M K L' E' p') : p = p' := by
  rcases Nat.lt_trichotomy p p' with z | z | z
  · exact absurd ((OP_congr h h1.1).mp h1.2.1) (h2.2.2 p z)
  · exact z
  · exact absurd ((OP_congr h h2.1).mpr h2.2.1) (h1.2.2 p' z)
theorem nxE_congr {M p : Nat} {L L' : Nat → Nat} {E E' : Nat → Option Nat} (h : TEq M L E L' E') : TEq (M + 1) (va_up L M M) (nxE E M p) (va_up L' M M) (nxE E' M p) := by
  refine ⟨fun c hc => ?_, fun i hi => ?_⟩
  · simp only [va_up]; split
    · rfl
    · exact h.1 c (by omega)
  · unfold nxE; split
    · rfl
    · split
      · rfl
      · split
        · rfl
        · exact h.2 i (by omega)
theorem Rch_cl {G : GP} {lim M0 n : Nat} {L0 L : Nat → Nat} {E0 E : Nat → Option Nat} (h : Rch G lim M0 L0 E0 n L E) : Cl G (M0 + n) L E := by
  cases n with
  | zero => exact h.1
  | succ n => obtain ⟨-, L1, E1, p, -, -, h3⟩ := h; exact h3.1
theorem Rch_eq {G : GP} {lim M0 : Nat} {L0 L0' : Nat → Nat} {E0 E0' : Nat → Option Nat} (hb : TEq M0 L0 E0 L0' E0') (n : Nat) : ∀ {L L' : Nat → Nat} {E E' : Nat → Option Nat}, Rch G lim M0 L0 E0 n L E → Rch G lim M0 L0' E0' n L' E' → TEq (M0 + n) L E L' E' := by
  induction n with
  | zero => intro L L' E E' h h'; exact LCl_eq (LCl_congr hb h) h'
  | succ n ih =>
    intro L L' E E' h h'
    obtain ⟨-, L1, E1, p, a1, a2, a3⟩ := h
    obtain ⟨-, L2, E2, p', b1, b2, b3⟩ := h'
    have e := ih a1 b1
    have := FO_eq e a2 b2
    subst this
    exact LCl_eq (LCl_congr (nxE_congr e) a3) b3
/-- where the run must stop -/
def Stop (K lim M : Nat) (L : Nat → Nat) (E : Nat → Option Nat) : Prop := lim ≤ M ∨ ∀ p, p < M * 6 → ¬ OP K L E p
theorem Rch_down {G : GP} {lim M0 n m : Nat} {L0 L : Nat → Nat} {E0 E : Nat → Option Nat} (h : Rch G lim M0 L0 E0 n L E) (hm : m < n) : ∃ L1 E1 p, Rch G lim M0 L0 E0 m L1 E1 ∧ FO (M0 + m) (uK G) L1 E1 p ∧ M0 + m < lim := by
  induction n generalizing L E with
  | zero => omega
  | succ n ih =>
    obtain ⟨a0, L1, E1, p, a1, a2, a3⟩ := h
    by_cases z : m = n
    · subst z; exact ⟨L1, E1, p, a1, a2, a0⟩
    · exact ih a1 (by omega)
theorem Rch_stop {G : GP} {lim M0 n m : Nat} {L0 L0' L L' : Nat → Nat} {E0 E0' E E' : Nat → Option Nat} (hb : TEq M0 L0 E0 L0' E0') (h : Rch G lim M0 L0 E0 n L E) (h' : Rch G lim M0 L0' E0' m L' E') (hs : Stop (uK G) lim (M0 + n) L E) (hs' : Stop (uK G) lim (M0 + m) L' E') : n = m := by
  have key : ∀ {n m : Nat} {L0 L0' L L' : Nat → Nat} {E0 E0' E E' : Nat → Option Nat}, TEq M0 L0 E0 L0' E0' → Rch G lim M0 L0 E0 n L E → Rch G lim M0 L0' E0' m L' E' → Stop (uK G) lim (M0 + n) L E → ¬ n < m := by
    intro n m L0 L0' L L' E0 E0' E E' hb h h' hs hlt
    obtain ⟨L1, E1, p, a1, a2, a3⟩ := Rch_down h' hlt
    have e := Rch_eq hb n h a1
    rcases hs with w | w
    · omega
    · exact w p a2.1 ((OP_congr e a2.1).mpr a2.2.1)
  have k1 := key hb h h' hs
  have k2 := key hb.symm h' h hs'
  omega
