/-! the reference: follow -/
def grp (ρ : RS) : GP := (fun w i => rLe ρ (24 * w + i), rSz ρ, rRe ρ, fun w i => rLe ρ (24 * (10 + w) + i), fun w => rSz ρ (10 + w), rSu ρ, 2 * rN ρ)
/-- what the reference keeps between calls -/
def RB (ρ : RS) : Prop := BR ρ ∧ (∀ i, rNw ρ i ≤ i) ∧ rPr ρ = 0 ∧ 1 ≤ rMd ρ ∧ WTb (rMd ρ) (2 * rN ρ) (rL ρ) (rTb ρ) ∧ (∀ i, rMd ρ * 6 ≤ i → i < 1200 → rTb ρ i = none) ∧ GW (grp ρ)
theorem bp_congr {E : Nat → Option Nat} {g g' : Nat → Nat} {len c : Nat} (h : ∀ j, j < len → g j = g' j) : ∀ k, k ≤ len → bp E g len c k = bp E g' len c k := by
  intro k
  induction k with
  | zero => intro _; rfl
  | succ k ih =>
    intro hk
    show (match bp E g len c k with | none => none | some q => E (q * 6 + (g (len - 1 - k) ^^^ 1))) = (match bp E g' len c k with | none => none | some q => E (q * 6 + (g' (len - 1 - k) ^^^ 1)))
    rw [ih (by omega), h (len - 1 - k) (by omega)]
theorem rot0 {col : Nat → Nat} {len j : Nat} (hj : j < len) : rot col len 0 j = col j := by rw [rot_mod (by omega) hj, Nat.zero_add, Nat.mod_eq_of_lt hj]
theorem TWA_of {G : GP} {M : Nat} {A : (Nat → Nat) → (Nat → Option Nat) → Prop} {col : Nat → Nat} {len c : Nat} (hA : ∀ LT ET, A LT ET → Cl G M LT ET) (hT : TW G M col len 0 c) : TWA A col len c := by
  intro LT ET hAt
  obtain ⟨t1, t2⟩ := hT LT ET (hA LT ET hAt)
  have e1 : ∀ i, i ≤ len → pth ET (rot col len 0) (LT c) i = pth ET col (LT c) i := fun i hi => pth_congr (n := len) (fun j hj => rot0 hj) i hi
  have e2 : ∀ i, i ≤ len → bp ET (rot col len 0) len (LT c) i = bp ET col len (LT c) i := fun i hi => bp_congr (fun j hj => rot0 hj) i hi
  refine ⟨fun p h => t1 p (by rw [e1 _ (Nat.le_refl _)]; exact h), fun i p q hi h1 h2 h3 => ?_⟩
  have := t2 i p q hi (by rw [e1 _ (by omega)]; exact h1) (by rw [e2 _ (by omega)]; exact h2) h3
  rw [rot0 hi] at this; exact this
def FoS (T : Nat → Option Nat) (col : Nat → Nat) (len k : Nat) : Prop := pth T col k len = some k ∨ StkE T col len k
theorem FoS_rot {T : Nat → Option Nat} {col : Nat → Nat} {len k : Nat} (h : FoS T col len k) : pth T (rot col len 0) k len = some k ∨ StkE T (rot col len 0) len k := by
  rcases h with h | ⟨i, p, j, h1, h2, h3, h4, h5⟩
  · left; rw [pth_congr (n := len) (fun j hj => rot0 hj) len (Nat.le_refl _)]; exact h
  · right
    refine ⟨i, p, j, h1, ?_, by rw [rot0 h1]; exact h3, h4, ?_⟩
    · rw [pth_congr (n := len) (fun j hj => rot0 hj) i (by omega)]; exact h2
    · rw [bp_congr (fun j hj => rot0 hj) (j + 1) (by omega)]; exact h5
theorem cl_of {G : GP} {M : Nat} {L : Nat → Nat} {E : Nat → Option Nat} (hG : GW G) (hW : WTb M (uK G) L E) (hM : 0 < M) (hr : ∀ w k, w < uRn G → k < M → L k = k → FoS E (uR G w) (uRl G w) k) (hs : ∀ w, w < uSn G → FoS E (uS G w) (uSl G w) 0) : Cl G M L E := by
  have hL0 : L 0 = 0 := by have := hW.1 0 hM; omega
  refine ⟨hW, hL0, fun w hw i q p hi hq hql hp => ?_, fun w hw i q p hi hq h1 h2 => ?_⟩
  · have hwd := hG.2.2.1 w hw
    have hg : ∀ j, gi (uR G w) (uRl G w) i j < 6 := fun j => hwd.2.2.1 _
    have hp' : pth E (gi (uR G w) (uRl G w) i) q (uRl G w - 1) = some p := hp
    obtain ⟨c, hcq⟩ := pth_pre (i := uRl G w - 1 - i) (j := i) (by rw [show uRl G w - 1 - i + i = uRl G w - 1 by omega]; exact hp')
    obtain ⟨hcM, hcl⟩ := pth_liv hW hg hq hql hcq
    have hst : (i + 1 + (uRl G w - 1 - i)) % uRl G w = 0 := by rw [show i + 1 + (uRl G w - 1 - i) = uRl G w by omega, Nat.mod_self]
    rcases FoS_rot (hr w c hw hcM hcl) with z | z
    · exact ring_full hW.inv hwd.2.2.1 hi hq (by omega) hp' hcq hst z
    · exact (ring_stkE hW.inv hwd.2.2.1 hi hq (by omega) hp' hcq hst z).elim
  · have hwd := hG.2.2.2 w hw
    obtain ⟨k1, k2, k3⟩ := sc_inst hi h1 h2
    rcases FoS_rot (hs w hw) with z | z
    · exact ring_full hW.inv hwd.2.2.1 hi hq (by omega) k1 k2 k3 z
    · exact (ring_stkE hW.inv hwd.2.2.1 hi hq (by omega) k1 k2 k3 z).elim
def fA (σ : RS) (LT : Nat → Nat) (ET : Nat → Option Nat) : Prop := Cl (grp σ) (rMd σ) LT ET ∧ Hom (rMd σ) (rL σ) (rTb σ) LT ET
theorem RBd.start {σ : RS} (h : RB σ) : RBd σ (fA σ) σ := by
  obtain ⟨hB, hnw, h0, hM, hW, hUp, hG⟩ := h
  refine ⟨⟨hB, hnw, Frm.refl _, fun c x d hc hx q => ?_, fun j hj => by omega, hUp, ⟨fun f hf => hf, fun f hf => hf, fun c x d hc hx q => ⟨c, d, hc, q, rfl, fun f _ => rfl⟩⟩, fun LT ET hAt => ⟨⟨fun c hc => ?_, fun j hj => by omega⟩, hAt.2.2⟩⟩, h0, hW⟩
  · obtain ⟨w1, w2, w3, w4, w5⟩ := hW.2.2 c x d hc hx q
    exact ⟨Or.inl ((rep_iff hnw).mp w1), w2, w3, d, c, w3, w5, rfl, fun f _ => rfl⟩
  · have h1 := hAt.2.1 c hc
    have h2 := hAt.2.1 (rNw σ c) (by have := hnw c; omega)
    have h3 : rL σ (rNw σ c) = rL σ c := rep_nw hnw c
    rw [h3] at h2
    rw [← h2, h1]
theorem RBd.lcl {σ u : RS} (hG : GW (grp σ)) (hnwS : ∀ i, rNw σ i ≤ i) (h : RBd σ (fA σ) u) (hC : Cl (grp σ) (rMd σ) (rL u) (rTb u)) (hM : 1 ≤ rMd σ) : RB u ∧ Frm σ u ∧ LCl (grp σ) (rMd σ) (rL σ) (rTb σ) (rL u) (rTb u) := by
  obtain ⟨⟨hB, hnw, hF, hE, hPB, hUp, hK, hS⟩, h0, hW⟩ := h
  have hMs : rMd u = rMd σ := hF.2.2.2.2.2
  have hg : grp u = grp σ := by
    obtain ⟨f1, f2, f3, f4, f5, f6⟩ := hF
    unfold grp
    rw [f1, f2, f3, f4, f5]
  have hRr : Resp u (rL u) := ⟨fun c _ => rep_nw hnw c, fun j hj => by omega⟩
  refine ⟨⟨hB, hnw, h0, by omega, hW, hUp, by rw [hg]; exact hG⟩, hF, hC, ⟨fun c hc => ?_, fun c x d hc hx q => ?_⟩, fun LT ET h1 h2 => ?_⟩
  · exact rep_resp hnwS (hK.1 _ hRr.1) c hc
  · obtain ⟨c', e', q4, q5, q6, q7⟩ := hK.2.2 c x d hc hx q
    obtain ⟨w1, w2, w3, w4, w5⟩ := hW.2.2 c' x e' (by omega) hx q5
    have e1 := q7 _ hRr
    rw [← q6, ← e1, w1, w4]; exact q5
  · have := RBd.hom ⟨⟨hB, hnw, hF, hE, hPB, hUp, hK, hS⟩, h0, hW⟩ (A := fA σ) ⟨h1, h2⟩
    rw [hMs] at this; exact this
