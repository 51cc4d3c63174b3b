/-! rings: a full one closes every instance through it -/
theorem mod_shift {i len j : Nat} (hi : i < len) : (i + len + j) % len = (i + j) % len := by
  rw [show i + len + j = i + j + len by omega, Nat.add_mod_right]
/-- the instance (i, q) goes through c at position st, after t letters -/
theorem gi_rot {col : Nat → Nat} {len i st t s : Nat} (hst : (i + 1 + t) % len = st) (hs : s < len) (hl : 0 < len) : gi col len i (t + s) = rot col len st s := by
  have h : st < len := by rw [← hst]; exact Nat.mod_lt _ hl
  rw [rot_mod h hs, gi, ← hst, Nat.mod_add_mod, show i + 1 + t + s = i + 1 + (t + s) by omega]
theorem rot_gi {col : Nat → Nat} {len i st t s : Nat} (hst : (i + 1 + t) % len = st) (ht : t ≤ len) (hs : s < t) (hl : 0 < len) : rot col len st (len - t + s) = gi col len i s := by
  have h : st < len := by rw [← hst]; exact Nat.mod_lt _ hl
  rw [rot_mod h (by omega), gi, ← hst, Nat.mod_add_mod, show i + 1 + t + (len - t + s) = i + 1 + s + len by omega, Nat.add_mod_right]
theorem rot_end {col : Nat → Nat} {len i st t : Nat} (hst : (i + 1 + t) % len = st) (hi : i < len) (ht : t < len) : rot col len st (len - 1 - t) = col i := by
  have h : st < len := by rw [← hst]; exact Nat.mod_lt _ (by omega)
  rw [rot_mod h (by omega), ← hst, Nat.mod_add_mod, show i + 1 + t + (len - 1 - t) = i + len by omega, Nat.add_mod_right, Nat.mod_eq_of_lt hi]
theorem ring_fwd {E : Nat → Option Nat} {col : Nat → Nat} {len st c i q p t : Nat} (ht : t < len) (hq : pth E (gi col len i) q (len - 1) = some p) (hn : pth E (gi col len i) q t = some c) (hst : (i + 1 + t) % len = st) : pth E (rot col len st) c (len - 1 - t) = some p := by
  have := pth_add t hn (len - 1 - t)
  rw [show t + (len - 1 - t) = len - 1 by omega, hq] at this
  rw [this]
  exact (pth_congr (n := len - 1 - t) (fun j hj => gi_rot hst (by omega) (by omega)) _ (Nat.le_refl _)).symm
theorem ring_full {M : Nat} {E : Nat → Option Nat} {col : Nat → Nat} {len st c i q p t : Nat} (hE : Inv6 M E) (hcol : ∀ j, col j < 6) (hi : i < len) (hqM : q < M) (ht : t < len) (hq : pth E (gi col len i) q (len - 1) = some p) (hn : pth E (gi col len i) q t = some c) (hst : (i + 1 + t) % len = st) (hf : pth E (rot col len st) c len = some c) : E (p * 6 + col i) = some q := by
  have a1 := ring_fwd ht hq hn hst
  obtain ⟨a, b, e1, e2, e3⟩ := pth_step hf (t := len - 1 - t) (by omega)
  rw [a1] at e1; cases e1
  rw [rot_end hst hi ht] at e3
  have hg : ∀ j, gi col len i j < 6 := fun j => hcol _
  have hcM : c < M := pth_lt2 (fun c x d a b q => (hE c x d a b q).1) hg hqM hn
  have hbM : b < M := pth_lt2 (fun c x d a b q => (hE c x d a b q).1) (fun j => rnd_lt hcol len (st + j)) hcM e2
  have a2 := pth_add (len - 1 - t + 1) e2 t
  rw [show len - 1 - t + 1 + t = len by omega, hf] at a2
  have a3 : pth E (gi col len i) b t = some c := by
    rw [a2]
    exact pth_congr (n := t) (fun j hj => by rw [show len - 1 - t + 1 + j = len - t + j by omega]; exact (rot_gi hst (by omega) hj (by omega)).symm) _ (Nat.le_refl _)
  rw [e3, pth_inj hE hg hbM hqM a3 hn]
/-- the way back along a known way -/
theorem bp_back {M : Nat} {E : Nat → Option Nat} (hE : Inv6 M E) {g g' : Nat → Nat} (hg : ∀ j, g' j < 6) {len q c t : Nat} (hqM : q < M) (hn : pth E g' q t = some c) (hgg : ∀ j, j < t → g (len - 1 - j) = g' (t - 1 - j)) : ∀ k, k ≤ t → bp E g len c k = pth E g' q (t - k) := by
  intro k
  induction k with
  | zero => intro _; exact hn.symm
  | succ k ih =>
    intro hk
    obtain ⟨a, b, e1, e2, e3⟩ := pth_step hn (t := t - (k + 1)) (by omega)
    rw [show t - (k + 1) + 1 = t - k by omega] at e2
    have := ih (by omega)
    rw [e2] at this
    show (match bp E g len c k with | none => none | some q => E (q * 6 + (g (len - 1 - k) ^^^ 1))) = _
    rw [this, e1, hgg k (by omega), show t - 1 - k = t - (k + 1) by omega]
    exact (hE a _ b (pth_lt2 (fun c x d a b q => (hE c x d a b q).1) hg hqM e1) (hg _) e3).2
/-- where close found nothing to say no instance goes through -/
theorem ring_stkE {M : Nat} {E : Nat → Option Nat} {col : Nat → Nat} {len st c i q p t : Nat} (h : Inv6 M E) (hcol : ∀ j, col j < 6) (hi : i < len) (hqM : q < M) (ht : t < len) (hq : pth E (gi col len i) q (len - 1) = some p) (hn : pth E (gi col len i) q t = some c) (hst : (i + 1 + t) % len = st) (hs : StkE E (rot col len st) len c) : False := by
  obtain ⟨i', p', k, h1, h2, h3, h4, h5⟩ := hs
  have a1 := ring_fwd ht hq hn hst
  have hle : len - 1 - t ≤ i' := by
    rcases Nat.lt_or_ge i' (len - 1 - t) with z | z
    · obtain ⟨a, b, e1, e2, e3⟩ := pth_step a1 z
      rw [h2] at e1; cases e1
      rw [h3] at e3; cases e3
    · exact z
  have hg : ∀ j, gi col len i j < 6 := fun j => hcol _
  have := bp_back h (g := rot col len st) (len := len) hg hqM hn (fun j hj => by
    have := rot_gi (col := col) (s := t - 1 - j) hst (by omega) (by omega) (by omega)
    rw [← this, show len - t + (t - 1 - j) = len - 1 - j by omega]) (k + 1) (by omega)
  obtain ⟨r, hr⟩ := pth_pre (i := t - (k + 1)) (j := k + 1) (by rw [show t - (k + 1) + (k + 1) = t by omega]; exact hn)
  rw [h5, hr] at this; cases this
theorem ring_stk {K : Nat} {τ : CS} {col : Nat → Nat} {len st c i q p t : Nat} (h : IV K τ) (hcol : ∀ j, col j < 6) (hi : i < len) (hqM : q < sM τ) (ht : t < len) (hq : pth (sE τ) (gi col len i) q (len - 1) = some p) (hn : pth (sE τ) (gi col len i) q t = some c) (hst : (i + 1 + t) % len = st) (hs : Stk τ (rot col len st) len c) : False := ring_stkE h.inv hcol hi hqM ht hq hn hst hs
/-! rings that are known but for one letter and not closed -/
def RI (τ : CS) (col : Nat → Nat) (len i q p : Nat) : Prop := i < len ∧ q < sM τ ∧ sL τ q = q ∧ pth (sE τ) (gi col len i) q (len - 1) = some p ∧ sE τ (p * 6 + col i) ≠ some q
def Fsh (τ : CS) (a x b : Nat) : Prop := sS τ (a * 6 + x) = true ∨ sS τ (b * 6 + (x ^^^ 1)) = true
/-- a step of the ring -/
def St (τ : CS) (col : Nat → Nat) (len i q t a b : Nat) : Prop := t < len - 1 ∧ pth (sE τ) (gi col len i) q t = some a ∧ pth (sE τ) (gi col len i) q (t + 1) = some b
def HF (τ : CS) (col : Nat → Nat) (len i q : Nat) : Prop := ∃ t a b, St τ col len i q t a b ∧ Fsh τ a (gi col len i t) b
def RInv (G : GP) (τ : CS) (X : Nat → Nat → Nat → Prop) : Prop := ∀ r, r < uRn G → ∀ i q p, RI τ (uR G r) (uRl G r) i q p → HF τ (uR G r) (uRl G r) i q ∨ X r i q
theorem RI_step {K : Nat} {τ u : CS} {col : Nat → Nat} {len i q p : Nat} (h : IV K τ) (hm : Mon τ u) (hf : Frs τ u) (hu : IV K u) (hN : NRM u) (hcol : ∀ j, col j < 6) (hR : RI u col len i q p) : HF u col len i q ∨ (RI τ col len i q p ∧ (∀ t, t ≤ len - 1 → pth (sE u) (gi col len i) q t = pth (sE τ) (gi col len i) q t) ∧ ¬ HF τ col len i q) := by
  obtain ⟨r1, r2, r3, r4, r5⟩ := hR
  have hg : ∀ j, gi col len i j < 6 := fun j => hcol _
  by_cases hF : HF u col len i q
  · exact Or.inl hF
  · right
    have hq : q < sM τ := by rw [← hm.1]; exact r2
    have hs : ∀ t a b, t < len - 1 → pth (sE u) (gi col len i) q t = some a → pth (sE u) (gi col len i) q (t + 1) = some b → sE u (a * 6 + gi col len i t) = some b → sE τ (a * 6 + gi col len i t) = some b := by
      intro t a b ht e1 e2 e3
      rcases hf.2.2 a _ b (hg t) e3 with w | w
      · exact w
      · exact absurd ⟨t, a, b, ⟨ht, e1, e2⟩, w⟩ hF
    have hp : ∀ t, t ≤ len - 1 → pth (sE u) (gi col len i) q t = pth (sE τ) (gi col len i) q t := by
      intro t ht
      obtain ⟨a, ha⟩ := pth_pre (i := t) (j := len - 1 - t) (by rw [show t + (len - 1 - t) = len - 1 by omega]; exact r4)
      rw [ha]
      exact (pth_sub ha (fun s a b hs' e1 e2 e3 => hs s a b (by omega) e1 e2 e3)).symm
    have hql : sL τ q = q := by
      have a1 := h.2.2.2.2.1.1 q hq
      have a2 := h.2.2.2.2.1.2 q hq
      have a3 := hm.2.1 (sL τ q) q (by omega) hq a2
      have a4 := hu.2.2.2.2.1.1 (sL τ q) (by rw [hm.1]; omega)
      omega
    obtain ⟨p1, p2⟩ := NRM_pth hu hN hg r2 r3 r4
    refine ⟨⟨r1, hq, hql, by rw [← hp _ (Nat.le_refl _)]; exact r4, fun e => r5 ?_⟩, hp, ?_⟩
    · exact hm.ent hN hu (by rw [← hm.1]; exact p1) hq (hcol i) e p2 r3
    · rintro ⟨t, a, b, ⟨e0, e1, e2⟩, e3⟩
      refine hF ⟨t, a, b, ⟨e0, by rw [hp t (by omega)]; exact e1, by rw [hp (t + 1) (by omega)]; exact e2⟩, ?_⟩
      rcases e3 with w | w
      · exact Or.inl (hf.2.1 _ w)
      · exact Or.inr (hf.2.1 _ w)
/-- an instance of a subgroup word is a ring through coset 0 -/
theorem sc_inst {E : Nat → Option Nat} {col : Nat → Nat} {len i q p : Nat} (hi : i < len) (h1 : pth E col 0 i = some p) (h2 : pth E (fun t => col (i + 1 + t)) q (len - 1 - i) = some 0) : pth E (gi col len i) q (len - 1) = some p ∧ pth E (gi col len i) q (len - 1 - i) = some 0 ∧ (i + 1 + (len - 1 - i)) % len = 0 := by
  have a2 : pth E (gi col len i) q (len - 1 - i) = some 0 := by
    rw [← h2]
    exact pth_congr (n := len - 1 - i) (fun j hj => by show col ((i + 1 + j) % len) = col (i + 1 + j); rw [Nat.mod_eq_of_lt (by omega)]) _ (Nat.le_refl _)
  refine ⟨?_, a2, by rw [show i + 1 + (len - 1 - i) = len by omega, Nat.mod_self]⟩
  have a3 := pth_add (len - 1 - i) a2 i
  rw [show len - 1 - i + i = len - 1 by omega] at a3
  rw [a3, ← h1]
  exact pth_congr (n := i) (fun j hj => by show col ((i + 1 + (len - 1 - i + j)) % len) = col j; rw [show i + 1 + (len - 1 - i + j) = j + len by omega, Nat.add_mod_right, Nat.mod_eq_of_lt (by omega)]) _ (Nat.le_refl _)
theorem sc_of {G : GP} {σ τ u : CS} {col : Nat → Nat} {len : Nat} (hB : CB G σ τ) (hw : WD (uK G) col len) (hT : TW G (sM σ) col len 0 0) (hR : CloseR τ col len 0 0 u) : SC (sM u) (sE u) col len := by
  have hI := hB.1
  obtain ⟨g1, g2, g3, g4, g5⟩ := close_ok hB hw (by have := hw.1; omega) hI.2.1 hI.z hT hR
  intro i q p hi hq h1 h2
  obtain ⟨a1, a2, a3⟩ := sc_inst hi h1 h2
  rcases g5 with w | ⟨rfl, w⟩
  · rw [g1.1.z] at w
    exact ring_full g1.1.inv hw.2.2.1 hi hq (by omega) a1 a2 a3 w
  · exact absurd (ring_stk hI hw.2.2.1 hi hq (by omega) a1 a2 a3 w) id
theorem FR_le {K : Nat} {τ u : CS} (h : IV K τ) (hu : IV K u) (hf : Frs τ u) : sRc τ ≤ sRc u := by
  rw [← h.2.2.2.2.2.2.1.1, ← hu.2.2.2.2.2.2.1.1]
  exact cntT_sub (fun i _ q => hf.2.1 i q)
theorem FR_no {K : Nat} {u : CS} (hu : IV K u) (h0 : sRc u = 0) {p : Nat} (hp : p < 1200) : sS u p ≠ true := by
  intro q
  obtain ⟨j, hj, -⟩ := hu.2.2.2.2.2.2.1.2.2.2 p hp q
  omega
/-- without a new entry nothing opens -/
theorem ent_old {K : Nat} {τ u : CS} (hu : IV K u) (hf : Frs τ u) (h0 : sRc u = 0) {c x d : Nat} (hc : c < sM u) (hx : x < 6) (q : sE u (c * 6 + x) = some d) : sE τ (c * 6 + x) = some d := by
  have hM := hu.1.1
  have hd := hu.inM c x d hc hx q
  rcases hf.2.2 c x d hx q with w | w | w
  · exact w
  · exact absurd w (FR_no hu h0 (by omega))
  · have := xor1_lt hx
    exact absurd w (FR_no hu h0 (by omega))
theorem SC_step {K : Nat} {τ u : CS} {col : Nat → Nat} {len : Nat} (hm : Mon τ u) (hf : Frs τ u) (hu : IV K u) (hN : NRM u) (h0 : sRc u = 0) (hcol : ∀ j, col j < 6) (h : SC (sM τ) (sE τ) col len) : SC (sM u) (sE u) col len := by
  intro i q p hi hq h1 h2
  have e1 : ∀ {g : Nat → Nat} {a n r : Nat}, (∀ j, g j < 6) → a < sM u → pth (sE u) g a n = some r → pth (sE τ) g a n = some r := by
    intro g a n r hg ha hp
    exact pth_sub hp (fun t a' b ht w1 w2 w3 => ent_old hu hf h0 (pth_lt2 hu.inM hg ha w1) (hg t) w3)
  have := h i q p hi (by rw [← hm.1]; exact hq) (e1 hcol hu.2.1 h1) (e1 (fun j => hcol _) hq h2)
  obtain ⟨p1, p2⟩ := NRM_pth hu hN hcol hu.2.1 hu.z h1
  have hql : sL u q = q := by
    rcases Nat.eq_zero_or_pos (len - 1 - i) with z | z
    · rw [z] at h2; cases h2; exact hu.z
    · obtain ⟨a, b, w1, w2, w3⟩ := pth_step h2 (t := 0) z
      cases w1
      exact hN _ _ _ hq (hcol _) w3
  exact hm.ent hN hu (by rw [← hm.1]; exact p1) (by rw [← hm.1]; exact hq) (hcol i) this p2 hql
