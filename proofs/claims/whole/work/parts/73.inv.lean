/-! what holds between the class and the reference -/
def WC (n : Nat) (col : Nat → Nat) (len : Nat) (le : Nat → Nat) (off sz : Nat) : Prop := len = sz ∧ len ≤ 24 ∧ ∀ j, j < len → col j = le (off + j) ∧ col j < 2 * n
def gC (n : Nat) (rcol : Nat → Nat → Nat) (rlen : Nat → Nat) (nr : Nat) (scol : Nat → Nat → Nat) (slen : Nat → Nat) (ns : Nat) : GP := (rcol, rlen, nr, scol, slen, ns, 2 * n)
/-- the words of both -/
def LW (n : Nat) (hcol : Nat → Nat) (hlen : Nat) (rcol : Nat → Nat → Nat) (rlen : Nat → Nat) (nr : Nat) (scol : Nat → Nat → Nat) (slen : Nat → Nat) (ns : Nat) (ρ : RS) : Prop := 1 ≤ n ∧ n ≤ 3 ∧ rN ρ = n ∧ (∀ j, hcol j < 6) ∧ WC n hcol hlen (rLe ρ) 360 (rSz ρ 15) ∧ nr ≤ 10 ∧ rRe ρ = nr ∧ (∀ i j, rcol i j < 6) ∧ (∀ i, i < nr → 1 ≤ rlen i ∧ WC n (rcol i) (rlen i) (rLe ρ) (24 * i) (rSz ρ i)) ∧ ns ≤ 5 ∧ rSu ρ = ns ∧ (∀ i j, scol i j < 6) ∧ ∀ i, i < ns → 1 ≤ slen i ∧ WC n (scol i) (slen i) (rLe ρ) (24 * (10 + i)) (rSz ρ (10 + i))
/-- the tables of both -/
def LT0 (n : Nat) (G : GP) (σ : CS) (α : AS) (ρ : RS) : Prop := CI G σ ∧ RB ρ ∧ sM σ = rMd ρ ∧ TEq (sM σ) (sL σ) (sE σ) (rL ρ) (rTb ρ) ∧ CN (sM σ) (sL σ) (sE σ) ∧ BA α ∧ ((tZ α = 0 ∧ ¬ Cm (sM σ) (2 * n) (sL σ) (sE σ)) ∨ (Cm (sM σ) (2 * n) (sL σ) (sE σ) ∧ AgC (numF (cut (sM σ) (sE σ)) (2 * n)) α))
def LI (n : Nat) (hcol : Nat → Nat) (hlen : Nat) (rcol : Nat → Nat → Nat) (rlen : Nat → Nat) (nr : Nat) (scol : Nat → Nat → Nat) (slen : Nat → Nat) (ns : Nat) (σ : CS) (α : AS) (ρ : RS) : Prop := LW n hcol hlen rcol rlen nr scol slen ns ρ ∧ LT0 n (gC n rcol rlen nr scol slen ns) σ α ρ
theorem LW.gw {n : Nat} {hcol : Nat → Nat} {hlen : Nat} {rcol : Nat → Nat → Nat} {rlen : Nat → Nat} {nr : Nat} {scol : Nat → Nat → Nat} {slen : Nat → Nat} {ns : Nat} {ρ : RS} (h : LW n hcol hlen rcol rlen nr scol slen ns ρ) : GW (gC n rcol rlen nr scol slen ns) := by
  obtain ⟨h1, h2, h3, h4, h5, h6, h7, h8, h9, h10, h11, h12, h13⟩ := h
  exact ⟨by show 2 * n ≤ 6; omega, fun x hx => xor1_lt2 hx, fun i hi => ⟨(h9 i hi).1, (h9 i hi).2.2.1, h8 i, fun j hj => ((h9 i hi).2.2.2 j hj).2⟩, fun i hi => ⟨(h13 i hi).1, (h13 i hi).2.2.1, h12 i, fun j hj => ((h13 i hi).2.2.2 j hj).2⟩⟩
theorem LW.gr {n : Nat} {hcol : Nat → Nat} {hlen : Nat} {rcol : Nat → Nat → Nat} {rlen : Nat → Nat} {nr : Nat} {scol : Nat → Nat → Nat} {slen : Nat → Nat} {ns : Nat} {ρ : RS} (hB : ∀ i, rLe ρ i < 6) (h : LW n hcol hlen rcol rlen nr scol slen ns ρ) : GW (grp ρ) := by
  obtain ⟨h1, h2, h3, h4, h5, h6, h7, h8, h9, h10, h11, h12, h13⟩ := h
  refine ⟨by show 2 * rN ρ ≤ 6; omega, fun x hx => xor1_lt2 hx, fun i hi => ?_, fun i hi => ?_⟩
  · have hi' : i < nr := by rw [← h7]; exact hi
    obtain ⟨k1, k2, k3, k4⟩ := h9 i hi'
    refine ⟨by show 1 ≤ rSz ρ i; omega, by show rSz ρ i ≤ 24; omega, fun j => hB _, fun j hj => ?_⟩
    have hj' : j < rSz ρ i := hj
    obtain ⟨j1, j2⟩ := k4 j (by omega)
    show rLe ρ (24 * i + j) < 2 * rN ρ
    omega
  · have hi' : i < ns := by rw [← h11]; exact hi
    obtain ⟨k1, k2, k3, k4⟩ := h13 i hi'
    refine ⟨by show 1 ≤ rSz ρ (10 + i); omega, by show rSz ρ (10 + i) ≤ 24; omega, fun j => hB _, fun j hj => ?_⟩
    have hj' : j < rSz ρ (10 + i) := hj
    obtain ⟨j1, j2⟩ := k4 j (by omega)
    show rLe ρ (24 * (10 + i) + j) < 2 * rN ρ
    omega
theorem LW.eq {n : Nat} {hcol : Nat → Nat} {hlen : Nat} {rcol : Nat → Nat → Nat} {rlen : Nat → Nat} {nr : Nat} {scol : Nat → Nat → Nat} {slen : Nat → Nat} {ns : Nat} {ρ : RS} (h : LW n hcol hlen rcol rlen nr scol slen ns ρ) : GEq (gC n rcol rlen nr scol slen ns) (grp ρ) := by
  obtain ⟨h1, h2, h3, h4, h5, h6, h7, h8, h9, h10, h11, h12, h13⟩ := h
  refine ⟨by show 2 * n = 2 * rN ρ; omega, h7.symm, h11.symm, fun i hi => ?_, fun i hi => ?_⟩
  · obtain ⟨k1, k2, k3, k4⟩ := h9 i hi
    exact ⟨k2, fun j hj => (k4 j hj).1⟩
  · obtain ⟨k1, k2, k3, k4⟩ := h13 i hi
    exact ⟨k2, fun j hj => (k4 j hj).1⟩
/-! a fresh start -/
theorem FR_0 {σ : CS} (h : FR σ) (h0 : sRc σ = 0) : ∀ p, p < 1200 → sS σ p = false := by
  intro p hp
  cases e : sS σ p with
  | false => rfl
  | true => obtain ⟨j, hj, -⟩ := h.2.2.2 p hp e; omega
theorem fresh_c {G : GP} {σ : CS} {n : Nat} (hG : GW G) (hK : uK G = 2 * n) (hB : BD σ) (h0 : sRc σ = 0) (hS : ∀ p, p < 1200 → sS σ p = false) : CI G (fMake (fSt0 σ (2 * n))) := by
  obtain ⟨b1, b2, b3, b4, b5, b6, b7, b8, b9, b10⟩ := hB
  have hK6 := hG.1
  have hM : sM (fMake (fSt0 σ (2 * n))) = 1 := rfl
  have hL0 : sL (fMake (fSt0 σ (2 * n))) 0 = 0 := mk_LM (fSt0 σ (2 * n))
  have hE0 : ∀ x, x < 6 → sE (fMake (fSt0 σ (2 * n))) (0 * 6 + x) = none := fun x hx => mk_new (σ := fSt0 σ (2 * n)) hx
  have hno : ∀ c x d, c < 1 → x < 6 → ¬ sE (fMake (fSt0 σ (2 * n))) (c * 6 + x) = some d := by
    intro c x d hc hx q
    obtain rfl : c = 0 := by omega
    rw [hE0 x hx] at q; cases q
  have hc0 : cntT (sS σ) 1200 = 0 := cntT_0 hS
  have hrc : sRc (fMake (fSt0 σ (2 * n))) = sRc σ := rfl
  have hss : sS (fMake (fSt0 σ (2 * n))) = sS σ := rfl
  refine ⟨⟨⟨by rw [hM]; omega, by show 2 * n ≤ 6; omega, fun i => up_lt b3 (by show 0 < 200; omega), b4, b5, fun i d q => ?_, b7, b8, by show 0 + 1 ≤ 200; omega, by show 0 ≤ 1200; omega⟩, by rw [hM]; exact Nat.le_refl _, hK.symm, fun x hx => hG.2.1 x hx, ⟨fun c hc => ?_, fun c hc => ?_⟩, fun c x d hc hx q => absurd q (hno c x d hc hx), ⟨by rw [hss, hrc, h0]; exact hc0, fun j hj => by rw [hrc] at hj; omega, fun i j hi => by rw [hrc] at hi; omega, fun p hp q => by rw [hss, hS p hp] at q; cases q⟩, ?_⟩, fun c x d hc hx q => absurd q (hno c x d hc hx), h0, fun r hr i q p hRI => ?_, by show 0 ≤ _; omega, fun p hp => ?_⟩
  · have q' : mkE (sE σ) 0 6 i = some d := q
    rw [mkE_eq] at q'
    split at q'
    · cases q'
    · exact b6 i d q'
  · rw [hM] at hc
    obtain rfl : c = 0 := by omega
    omega
  · rw [hM] at hc
    obtain rfl : c = 0 := by omega
    rw [hL0, hL0]
  · show 0 + 1 = cntT (fun c => decide (sL (fMake (fSt0 σ (2 * n))) c = c)) 1
    rw [cntT, if_pos (decide_eq_true hL0)]; rfl
  · right
    obtain ⟨r1, r2, r3, r4, r5⟩ := hRI
    rw [hM] at r2
    have hw := hG.2.2.1 r hr
    refine ⟨?_, by omega, Nat.zero_le _⟩
    rcases Nat.lt_or_ge 1 (uRl G r) with z | z
    · obtain ⟨a, b, w1, w2, w3⟩ := pth_step r4 (t := 0) (by omega)
      cases w1
      exact absurd w3 (hno q _ b r2 (hw.2.2.1 _))
    · have := hw.1; omega
  · have hp' : p < 0 := hp
    omega
theorem clrT_at {f : Nat → Option Nat} {n i : Nat} (h : i < n) : clrT f n i = none := by
  induction n with
  | zero => omega
  | succ n ih =>
    rw [clrT]
    simp only [va_up]
    split
    · rfl
    · exact ih (by omega)
theorem clrT_b {f : Nat → Option Nat} {n i d B : Nat} (hf : ∀ i d, f i = some d → d < B) (h : clrT f n i = some d) : d < B := by
  induction n generalizing i d with
  | zero => exact hf i d h
  | succ n ih => rw [clrT] at h; exact up_some (fun i d q => ih q) (fun d q => by cases q) h
theorem rTb_fr (ρ : RS) : rTb (gFresh ρ) = clrT (rTb ρ) 1200 := rfl
theorem fr_none (ρ : RS) {i : Nat} (h : i < 1200) : rTb (gFresh ρ) i = none := by rw [rTb_fr]; exact clrT_at h
theorem BR_fr {ρ : RS} (h : BR ρ) : BR (gFresh ρ) := by
  obtain ⟨tn, tLe, tSz, tRe, tSu, tMd, tNw, tTb, r⟩ := h
  exact ⟨tn, tLe, tSz, tRe, tSu, by show 1 ≤ 200; omega, fun i => up_lt tNw (by omega), fun i d q => by rw [rTb_fr] at q; exact clrT_b tTb q, r⟩
theorem nw_fr {ρ : RS} (h : ∀ i, rNw ρ i ≤ i) : ∀ i, rNw (gFresh ρ) i ≤ i := by
  intro i
  show va_up (rNw ρ) 0 0 i ≤ i
  simp only [va_up]; split
  · omega
  · exact h i
theorem fresh_r {ρ : RS} (hB : BR ρ) (hnw : ∀ i, rNw ρ i ≤ i) (h0 : rPr ρ = 0) (hG : GW (grp (gFresh ρ))) : RB (gFresh ρ) := by
  have hnw' := nw_fr hnw
  have hM : rMd (gFresh ρ) = 1 := rfl
  refine ⟨BR_fr hB, hnw', h0, by rw [hM]; exact Nat.le_refl _, ⟨fun c _ => rep_le hnw' c, fun c _ => rep_rep hnw' c, fun c x d hc hx q => ?_⟩, fun i hi1 hi2 => fr_none ρ hi2, hG⟩
  rw [hM] at hc
  rw [fr_none ρ (by omega)] at q; cases q
theorem fresh_lt {G : GP} {n : Nat} {σ : CS} {α : AS} {ρ : RS} (hn : 1 ≤ n) (hG : GW G) (hK : uK G = 2 * n) (hB : BD σ) (h0 : sRc σ = 0) (hS : ∀ p, p < 1200 → sS σ p = false) (hA : BA α) (hR : RB (gFresh ρ)) : LT0 n G (fMake (fSt0 σ (2 * n))) (tU α, tN α, tS α, tR α, 0) (gFresh ρ) := by
  have hM : sM (fMake (fSt0 σ (2 * n))) = 1 := rfl
  have hL0 : sL (fMake (fSt0 σ (2 * n))) 0 = 0 := mk_LM (fSt0 σ (2 * n))
  have hE0 : ∀ x, x < 6 → sE (fMake (fSt0 σ (2 * n))) (0 * 6 + x) = none := fun x hx => mk_new (σ := fSt0 σ (2 * n)) hx
  refine ⟨fresh_c hG hK hB h0 hS, hR, rfl, ⟨fun c hc => ?_, fun i hi => ?_⟩, fun P hP0 hP c hc hl => ?_, ⟨by show 0 ≤ 200; omega, hA.2.1, hA.2.2.1, hA.2.2.2⟩, Or.inl ⟨rfl, fun hC => ?_⟩⟩
  · rw [hM] at hc
    obtain rfl : c = 0 := by omega
    rw [hL0]
    have := rep_le hR.2.1 0
    show 0 = rep (rNw (gFresh ρ)) 0
    omega
  · rw [hM] at hi
    rw [fr_none ρ (by omega)]
    have := hE0 i (by omega)
    rw [Nat.zero_mul, Nat.zero_add] at this; exact this
  · rw [hM] at hc
    obtain rfl : c = 0 := by omega
    exact hP0
  · obtain ⟨d, hd⟩ := hC 0 0 (by rw [hM]; omega) hL0 (by omega)
    rw [hE0 0 (by omega)] at hd; cases hd
