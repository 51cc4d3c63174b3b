/-! closed tables: a relator is a ring -/
def RC (M : Nat) (L : Nat → Nat) (E : Nat → Option Nat) (col : Nat → Nat) (len : Nat) : Prop := ∀ i q p, i < len → q < M → L q = q → pth E (fun t => col ((i + 1 + t) % len)) q (len - 1) = some p → E (p * 6 + col i) = some q
def SC (M : Nat) (E : Nat → Option Nat) (col : Nat → Nat) (len : Nat) : Prop := ∀ i q p, i < len → q < M → pth E col 0 i = some p → pth E (fun t => col (i + 1 + t)) q (len - 1 - i) = some 0 → E (p * 6 + col i) = some q
theorem rnd_mod {col : Nat → Nat} {len k : Nat} (h : k < 2 * len) : rnd col len k = col (k % len) := by
  unfold rnd
  by_cases q : k < len
  · rw [if_pos q, Nat.mod_eq_of_lt q]
  · rw [if_neg q, Nat.mod_eq_sub_mod (by omega), Nat.mod_eq_of_lt (by omega)]
theorem rot_mod {col : Nat → Nat} {len st j : Nat} (hst : st < len) (hj : j < len) : rot col len st j = col ((st + j) % len) := rnd_mod (by omega)
theorem rc_close {M : Nat} {L : Nat → Nat} {E : Nat → Option Nat} {col : Nat → Nat} {len st c i p q : Nat} (hE : Inv6 M E) (hcol : ∀ j, col j < 6) (hRC : RC M L E col len) (hst : st < len) (hi : i < len) (hc : c < M) (h1 : pth E (rot col len st) c i = some p) (h2 : bp E (rot col len st) len c (len - 1 - i) = some q) (hq : L q = q) : E (p * 6 + rot col len st i) = some q := by
  have hg : ∀ j, rot col len st j < 6 := fun j => rnd_lt hcol len (st + j)
  have b := bp_pth hE hg hc (by omega) h2
  have hqM : q < M := bp_lt2 (fun c x d a b q => (hE c x d a b q).1) hg hc h2
  have e1 : pth E (fun t => col (((st + i) % len + 1 + t) % len)) q (len - 1 - i) = some c := by
    rw [← b]
    refine pth_congr (n := len - 1 - i) (fun j hj => ?_) _ (Nat.le_refl _)
    show col _ = rot col len st (len - (len - 1 - i) + j)
    rw [rot_mod hst (by omega), show len - (len - 1 - i) + j = i + 1 + j by omega, Nat.add_assoc ((st + i) % len), Nat.mod_add_mod, show st + i + (1 + j) = st + (i + 1 + j) by omega]
  have e2 := pth_add (len - 1 - i) e1 i
  have e3 : pth E (fun t => col (((st + i) % len + 1 + (len - 1 - i + t)) % len)) c i = pth E (rot col len st) c i := by
    refine pth_congr (n := i) (fun j hj => ?_) _ (Nat.le_refl _)
    show col _ = rot col len st j
    rw [rot_mod hst (by omega), Nat.add_assoc ((st + i) % len), Nat.mod_add_mod, show st + i + (1 + (len - 1 - i + j)) = st + j + len by omega, Nat.add_mod_right]
  rw [show len - 1 - i + i = len - 1 by omega, e3, h1] at e2
  have := hRC ((st + i) % len) q p (Nat.mod_lt _ (by omega)) hqM hq e2
  rw [rot_mod hst hi]
  exact this
theorem rc_full {M : Nat} {L : Nat → Nat} {E : Nat → Option Nat} {col : Nat → Nat} {len st c p : Nat} (hE : Inv6 M E) (hcol : ∀ j, col j < 6) (hRC : RC M L E col len) (hst : st < len) (hc : c < M) (hcl : L c = c) (h1 : pth E (rot col len st) c len = some p) : p = c := by
  obtain ⟨r, hr⟩ := pth_pre (i := len - 1) (j := 1) (by rw [show len - 1 + 1 = len by omega]; exact h1)
  have h2 := rc_close (i := len - 1) (q := c) hE hcol hRC hst (by omega) hc hr (by rw [show len - 1 - (len - 1) = 0 by omega]; rfl) hcl
  have h3 := pth_add (len - 1) hr 1
  rw [show len - 1 + 1 = len by omega, h1] at h3
  have h4 : some p = E (r * 6 + rot col len st (len - 1 + 0)) := h3
  rw [Nat.add_zero, h2] at h4
  exact Option.some.inj h4
theorem sc_close {M : Nat} {E : Nat → Option Nat} {col : Nat → Nat} {len i p q : Nat} (hE : Inv6 M E) (hcol : ∀ j, col j < 6) (hSC : SC M E col len) (hi : i < len) (h0 : 0 < M) (h1 : pth E (rot col len 0) 0 i = some p) (h2 : bp E (rot col len 0) len 0 (len - 1 - i) = some q) : E (p * 6 + rot col len 0 i) = some q := by
  have hg : ∀ j, rot col len 0 j < 6 := fun j => rnd_lt hcol len (0 + j)
  have hr : ∀ j, j < len → rot col len 0 j = col j := fun j hj => by rw [rot_mod (by omega) hj, Nat.zero_add, Nat.mod_eq_of_lt hj]
  have b := bp_pth hE hg h0 (by omega) h2
  have e1 : pth E (fun t => col (i + 1 + t)) q (len - 1 - i) = some 0 := by
    rw [← b]
    refine pth_congr (n := len - 1 - i) (fun j hj => ?_) _ (Nat.le_refl _)
    show col (i + 1 + j) = rot col len 0 (len - (len - 1 - i) + j)
    rw [hr _ (by omega), show len - (len - 1 - i) + j = i + 1 + j by omega]
  have e2 : pth E col 0 i = some p := by
    rw [← h1]; exact pth_congr (n := i) (fun j hj => (hr j (by omega)).symm) _ (Nat.le_refl _)
  rw [hr i hi]
  exact hSC i q p hi (bp_lt2 (fun c x d a b q => (hE c x d a b q).1) hg h0 h2) e2 e1
theorem sc_full {M : Nat} {E : Nat → Option Nat} {col : Nat → Nat} {len p : Nat} (hE : Inv6 M E) (hcol : ∀ j, col j < 6) (hSC : SC M E col len) (hl : 0 < len) (h0 : 0 < M) (h1 : pth E (rot col len 0) 0 len = some p) : p = 0 := by
  obtain ⟨r, hr⟩ := pth_pre (i := len - 1) (j := 1) (by rw [show len - 1 + 1 = len by omega]; exact h1)
  have h2 := sc_close (i := len - 1) (q := 0) hE hcol hSC (by omega) h0 hr (by rw [show len - 1 - (len - 1) = 0 by omega]; rfl)
  have h3 := pth_add (len - 1) hr 1
  rw [show len - 1 + 1 = len by omega, h1] at h3
  have h4 : some p = E (r * 6 + rot col len 0 (len - 1 + 0)) := h3
  rw [Nat.add_zero, h2] at h4
  exact Option.some.inj h4
/-- a closed table -/
def Cld (M K : Nat) (L : Nat → Nat) (E : Nat → Option Nat) (rcol : Nat → Nat → Nat) (rlen : Nat → Nat) (nr : Nat) (scol : Nat → Nat → Nat) (slen : Nat → Nat) (ns : Nat) : Prop := WTb M K L E ∧ L 0 = 0 ∧ (∀ i, i < nr → RC M L E (rcol i) (rlen i)) ∧ ∀ i, i < ns → SC M E (scol i) (slen i)
theorem WTb.inv {M K : Nat} {L : Nat → Nat} {E : Nat → Option Nat} (h : WTb M K L E) : Inv6 M E := fun c x d hc hx q => ⟨(h.2.2 c x d hc hx q).2.2.1, (h.2.2 c x d hc hx q).2.2.2.2⟩
