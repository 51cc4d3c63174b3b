/-! run of the class -/
theorem mkE_eq (f : Nat → Option Nat) (k n i : Nat) : mkE f k n i = if k * 6 ≤ i ∧ i < k * 6 + n then none else f i := by
  induction n with
  | zero => rw [mkE, if_neg (by omega)]
  | succ n ih =>
    rw [mkE]
    simp only [va_up]
    by_cases z : i = k * 6 + n
    · rw [if_pos z, if_pos (by omega)]
    · rw [if_neg z, ih]
      by_cases w : k * 6 ≤ i ∧ i < k * 6 + n
      · rw [if_pos w, if_pos (by omega)]
      · rw [if_neg w, if_neg (by omega)]
theorem mk_some {σ : CS} {c x d : Nat} (hc : c < sM σ + 1) (hx : x < 6) (h : sE (fMake σ) (c * 6 + x) = some d) : c < sM σ ∧ sE σ (c * 6 + x) = some d := by
  have h' : mkE (sE σ) (sM σ) 6 (c * 6 + x) = some d := h
  rw [mkE_eq] at h'
  by_cases z : sM σ * 6 ≤ c * 6 + x ∧ c * 6 + x < sM σ * 6 + 6
  · rw [if_pos z] at h'; cases h'
  · rw [if_neg z] at h'; exact ⟨by omega, h'⟩
theorem mk_old {σ : CS} {i : Nat} (h : i < sM σ * 6) : sE (fMake σ) i = sE σ i := by
  show mkE (sE σ) (sM σ) 6 i = _
  rw [mkE_eq, if_neg (by omega)]
theorem mk_new {σ : CS} {x : Nat} (hx : x < 6) : sE (fMake σ) (sM σ * 6 + x) = none := by
  show mkE (sE σ) (sM σ) 6 _ = _
  rw [mkE_eq, if_pos (by omega)]
theorem mk_L {σ : CS} {c : Nat} (h : c < sM σ) : sL (fMake σ) c = sL σ c := by
  show va_up (sL σ) (sM σ) (sM σ) c = _
  simp only [va_up, if_neg (show ¬ c = sM σ by omega)]
theorem mk_LM (σ : CS) : sL (fMake σ) (sM σ) = sM σ := by
  show va_up (sL σ) (sM σ) (sM σ) (sM σ) = _
  simp [va_up]
theorem IV.make {K : Nat} {σ : CS} (h : IV K σ) (hM2 : sM σ < 200) : IV K (fMake σ) := by
  obtain ⟨hB, hM, hC, hX, hL, hE, ⟨f1, f2, f3, f4⟩, hV⟩ := h
  obtain ⟨b1, b2, b3, b4, b5, b6, b7, b8, b9, b10⟩ := hB
  have hlv : lvs (sM σ) (sL σ) ≤ sM σ := lvs_le _ _
  refine ⟨⟨by show sM σ + 1 ≤ 200; omega, b2, fun i => up_lt b3 hM2, b4, b5, fun i d q => ?_, b7, b8, by show sV σ + 1 ≤ 200; omega, b10⟩, by show 1 ≤ sM σ + 1; omega, hC, hX, ⟨fun c hc => ?_, fun c hc => ?_⟩, fun c x d hc hx q => ?_, ⟨f1, fun j hj => ?_, f3, f4⟩, ?_⟩
  · have q' : mkE (sE σ) (sM σ) 6 i = some d := q
    rw [mkE_eq] at q'
    split at q'
    · cases q'
    · exact b6 i d q'
  · have hc' : c < sM σ + 1 := hc
    by_cases z : c = sM σ
    · rw [z, mk_LM]; exact Nat.le_refl _
    · rw [mk_L (by omega)]; exact hL.1 c (by omega)
  · have hc' : c < sM σ + 1 := hc
    by_cases z : c = sM σ
    · rw [z, mk_LM, mk_LM]
    · have := hL.1 c (by omega)
      rw [mk_L (show c < sM σ by omega), mk_L (show sL σ c < sM σ by omega)]; exact hL.2 c (by omega)
  · obtain ⟨z, q'⟩ := mk_some hc hx q
    obtain ⟨k1, k2, k3⟩ := hE c x d z hx q'
    have hx1 := xor1_lt hx
    exact ⟨k1, by show d < sM σ + 1; omega, by rw [mk_old (by omega)]; exact k3⟩
  · obtain ⟨w1, w2⟩ := f2 j hj
    exact ⟨by show _ < (sM σ + 1) * 6; have : sR (fMake σ) j = sR σ j := rfl; omega, w2⟩
  · show sV σ + 1 = cntT (fun c => decide (sL (fMake σ) c = c)) (sM σ + 1)
    rw [cntT, if_pos (by simp [mk_LM]), hV]
    unfold lvs
    rw [cntT_congr (f := fun c => decide (sL (fMake σ) c = c)) (g := fun c => decide (sL σ c = c)) (fun c hc => by simp only [mk_L hc])]
theorem NRM.make {σ : CS} (h : NRM σ) : NRM (fMake σ) := by
  intro c x d hc hx q
  obtain ⟨z, q'⟩ := mk_some hc hx q
  rw [mk_L z]; exact h c x d z hx q'
theorem opn_iff {σ : CS} {p : Nat} (hp : p < sM σ * 6) : opn σ p = true ↔ OP (sC σ) (sL σ) (sE σ) p := by
  have : p / 6 < sM σ := by omega
  unfold opn liv OP
  simp [this]
theorem RInv_cl {G : GP} {σ : CS} {X : Nat → Nat → Nat → Prop} (h : Cl G (sM σ) (sL σ) (sE σ)) : RInv G σ X := by
  intro r hr i q p hRI
  exact absurd (h.2.2.1 r hr i q p hRI.1 hRI.2.1 hRI.2.2.1 hRI.2.2.2.1) hRI.2.2.2.2
/-- a new coset at the first open place -/
theorem dSt_nb {G : GP} {τ : CS} (hG : GW G) (hI : IV (uK G) τ) (hN : NRM τ) (hC : Cl G (sM τ) (sL τ) (sE τ)) (hM : sM τ < 200) (ho : sO τ < sM τ * 6) (hop : opn τ (sO τ) = true) : MkOK τ ∧ dSt G (fNb τ) (sM τ) ∧ TEq (sM τ + 1) (sL (fNb τ)) (sE (fNb τ)) (va_up (sL τ) (sM τ) (sM τ)) (nxE (sE τ) (sM τ) (sO τ)) ∧ sM (fNb τ) = sM τ + 1 ∧ sO (fNb τ) = sO τ := by
  obtain ⟨o1, o2, o3⟩ := (opn_iff ho).mp hop
  have hK : sC τ = uK G := hI.2.2.1
  rw [hK] at o1
  have hx6 : sO τ % 6 < 6 := Nat.mod_lt _ (by decide)
  have hx1 := xor1_lt hx6
  have hkM : sO τ / 6 < sM τ := by omega
  have hmk := hI.make hM
  have e1 : sE (fMake τ) (sO τ / 6 * 6 + sO τ % 6) = none := by rw [mk_old (by omega), show sO τ / 6 * 6 + sO τ % 6 = sO τ by omega]; exact o3
  have e2 : sE (fMake τ) (sM τ * 6 + (sO τ % 6 ^^^ 1)) = none := mk_new hx1
  have hMm : sM (fMake τ) = sM τ + 1 := rfl
  have hj : IV (uK G) (fNb τ) := hmk.join (by rw [hMm]; omega) o1 (by rw [hMm]; omega) e1 e2
  obtain ⟨j1, j2, j3, j4, j5, j6, j7, j8⟩ := fJoin_L (fMake τ) (sO τ / 6) (sO τ % 6) (sM τ)
  have hfr : Frs (fMake τ) (fNb τ) := Frs.join hx6
  have j6' : sE (fNb τ) = va_up (va_up (sE (fMake τ)) (sO τ / 6 * 6 + sO τ % 6) (some (sM τ))) (sM τ * 6 + (sO τ % 6 ^^^ 1)) (some (sO τ / 6)) := j6
  have hLn : sL (fNb τ) = sL (fMake τ) := j1
  have hMn : sM (fNb τ) = sM τ + 1 := j2
  have hNn : NRM (fNb τ) := by
    intro c y e hc hy q
    rw [hLn]
    rw [hMn] at hc
    rw [j6'] at q
    simp only [va_up] at q
    split at q
    · rename_i z
      obtain ⟨rfl, -⟩ : c = sM τ ∧ y = sO τ % 6 ^^^ 1 := by omega
      exact mk_LM τ
    · split at q
      · rename_i z
        obtain ⟨rfl, -⟩ : c = sO τ / 6 ∧ y = sO τ % 6 := by omega
        rw [mk_L hkM]; exact o2
      · exact hN.make c y e hc hy q
  refine ⟨⟨hmk.2.2.2.2.2.2.1.cap _ (by have := hI.1.1; omega), hmk.1⟩, ⟨hj, hNn, by rw [hMn]; omega, fun r hr i q p hRI => ?_⟩, ⟨fun c hc => ?_, fun i hi => ?_⟩, hMn, j8⟩
  · obtain ⟨r1, r2, r3, r4, r5⟩ := hRI
    have hw := hG.2.2.1 r hr
    have hg : ∀ j, gi (uR G r) (uRl G r) i j < 6 := fun j => hw.2.2.1 _
    by_cases hF : HF (fNb τ) (uR G r) (uRl G r) i q
    · exact Or.inl hF
    · right
      rw [hMn] at r2
      have hs : ∀ t a b, t < uRl G r - 1 → pth (sE (fNb τ)) (gi (uR G r) (uRl G r) i) q t = some a → pth (sE (fNb τ)) (gi (uR G r) (uRl G r) i) q (t + 1) = some b → sE (fNb τ) (a * 6 + gi (uR G r) (uRl G r) i t) = some b → a < sM τ ∧ sE τ (a * 6 + gi (uR G r) (uRl G r) i t) = some b := by
        intro t a b ht w1 w2 w3
        have ha : a < sM τ + 1 := by rw [← hMn]; exact pth_lt2 hj.inM hg (by rw [hMn]; exact r2) w1
        rcases hfr.2.2 a _ b (hg t) w3 with w | w
        · exact mk_some ha (hg t) w
        · exact absurd ⟨t, a, b, ⟨ht, w1, w2⟩, w⟩ hF
      by_cases hq : q = sM τ
      · refine ⟨?_, hq, Nat.zero_le _⟩
        rcases Nat.lt_or_ge 1 (uRl G r) with z | z
        · obtain ⟨a, b, w1, w2, w3⟩ := pth_step r4 (t := 0) (by omega)
          cases w1
          have := (hs 0 q b (by omega) rfl w2 w3).1
          omega
        · have := hw.1; omega
      · exfalso
        have hq' : q < sM τ := by omega
        have hp := pth_sub r4 (fun t a b ht w1 w2 w3 => (hs t a b ht w1 w2 w3).2)
        rw [hLn, mk_L hq'] at r3
        have := hC.2.2.1 r hr i q p r1 hq' r3 hp
        have hpM : p < sM τ := pth_lt2 hI.inM hg hq' hp
        have hc6 := hw.2.2.1 i
        apply r5
        rw [j6']
        have z1 : ¬ p * 6 + uR G r i = sM τ * 6 + (sO τ % 6 ^^^ 1) := by omega
        have z2 : ¬ p * 6 + uR G r i = sO τ / 6 * 6 + sO τ % 6 := fun z => by rw [z, show sO τ / 6 * 6 + sO τ % 6 = sO τ by omega, o3] at this; cases this
        simp only [va_up, if_neg z1, if_neg z2]
        rw [mk_old (by omega)]; exact this
  · rw [hLn]; rfl
  · rw [j6', show sO τ / 6 * 6 + sO τ % 6 = sO τ by omega]
    unfold nxE
    simp only [va_up]
    by_cases z1 : i = sM τ * 6 + (sO τ % 6 ^^^ 1)
    · rw [if_pos z1, if_neg (show ¬ i = sO τ by omega), if_pos z1]
    · rw [if_neg z1]
      by_cases z2 : i = sO τ
      · rw [if_pos z2, if_pos z2]
      · rw [if_neg z2, if_neg z2, if_neg z1]
        by_cases z3 : sM τ * 6 ≤ i
        · rw [if_pos z3]
          have : sE (fMake τ) i = none := by
            have := mk_new (σ := τ) (x := i - sM τ * 6) (by omega)
            rw [show sM τ * 6 + (i - sM τ * 6) = i by omega] at this; exact this
          exact this
        · rw [if_neg z3]; exact mk_old (by omega)
/-- the pointer: nothing before it is open -/
def PO (σ : CS) : Prop := sO σ ≤ sM σ * 6 ∧ ∀ p, p < sO σ → opn σ p = false
theorem opn_mon {K : Nat} {σ u : CS} (hI0 : IV K σ) (hm : Mon σ u) (hI : IV K u) (hN : NRM u) {p : Nat} (hp : p < sM σ * 6) (h : opn σ p = false) : opn u p = false := by
  cases e : opn u p with
  | false => rfl
  | true =>
    exfalso
    obtain ⟨o1, o2, o3⟩ := (opn_iff (by rw [hm.1]; exact hp)).mp e
    have hc : p / 6 < sM σ := by omega
    have hx : p % 6 < 6 := Nat.mod_lt _ (by decide)
    have hl : sL σ (p / 6) = p / 6 := by
      have a1 := hI0.2.2.2.2.1.1 (p / 6) hc
      have a3 := hm.2.1 (sL σ (p / 6)) (p / 6) (by omega) hc (hI0.2.2.2.2.1.2 _ hc)
      have a4 := hI.2.2.2.2.1.1 (sL σ (p / 6)) (by rw [hm.1]; omega)
      omega
    have : ¬ OP (sC σ) (sL σ) (sE σ) p := fun w => by rw [(opn_iff hp).mpr w] at h; cases h
    cases he : sE σ p with
    | none => exact this ⟨by rw [hI0.2.2.1, ← hI.2.2.1]; exact o1, hl, he⟩
    | some d =>
      have he' : sE σ (p / 6 * 6 + p % 6) = some d := by rw [show p / 6 * 6 + p % 6 = p by omega]; exact he
      have hd := hI0.inM _ _ _ hc hx he'
      have := (hm.2.2 _ _ _ hc hd hx (Kn.of hc he')).at hI hN hx (by rw [hm.1]; exact hd)
      rw [o2, show p / 6 * 6 + p % 6 = p by omega, o3] at this
      cases this
/-- what the class keeps between calls -/
def CI (G : GP) (σ : CS) : Prop := IV (uK G) σ ∧ NRM σ ∧ sRc σ = 0 ∧ RInv G σ (XK G 0 0) ∧ PO σ
/-- what its run keeps -/
def cP (G : GP) (lim : Nat) (σ τ : CS) : Prop := CI G τ ∧ ∃ n, sM τ = sM σ + n ∧ Rch G lim (sM σ) (sL σ) (sE σ) n (sL τ) (sE τ)
theorem cP_cl {G : GP} {lim : Nat} {σ τ : CS} (h : cP G lim σ τ) : Cl G (sM τ) (sL τ) (sE τ) := by
  obtain ⟨-, n, e, h⟩ := h
  rw [e]; exact Rch_cl h
theorem CB_ci {G : GP} {σ u : CS} (hI0 : IV (uK G) σ) (hp : PO σ) (hB : CB G σ u) (h0 : sRc u = 0) (hL : LCl G (sM σ) (sL σ) (sE σ) (sL u) (sE u)) : CI G u := by
  have hM := hB.2.2.1.1
  refine ⟨hB.1, hB.2.1, h0, RInv_cl (by rw [hM]; exact hL.1), by rw [hB.2.2.2.1, hM]; exact hp.1, fun p hp2 => ?_⟩
  rw [hB.2.2.2.1] at hp2
  have h1 := hp.1
  exact opn_mon hI0 hB.2.2.1 hB.1 hB.2.1 (by omega) (hp.2 p hp2)
theorem cP_0 {G : GP} {lim : Nat} {σ : CS} (hG : GW G) (h : CI G σ) : DrawOK (uR G) (uRl G) (uRn G) (uS G) (uSl G) (uSn G) σ 0 (cP G lim σ) :=
  drawOK hG ⟨h.1, h.2.1, h.1.2.1, h.2.2.2.1⟩ (fun u hB h0 hL => ⟨CB_ci h.1 h.2.2.2.2 hB h0 hL, 0, hB.2.2.1.1, hL⟩)
theorem cP_O {G : GP} {lim : Nat} {σ τ : CS} {o : Nat} (h : cP G lim σ τ) (h1 : sO τ ≤ o) (h2 : o ≤ max (sO τ) (sM τ * 6)) (h3 : ∀ p, sO τ ≤ p → p < o → opn τ p = false) : cP G lim σ (fOp τ o) := by
  obtain ⟨⟨a1, a2, a3, a4, a5⟩, n, e, hR⟩ := h
  obtain ⟨⟨b1, b2, b3, b4, b5, b6, b7, b8, b9, b10⟩, r⟩ := a1
  have hle := a5.1
  have ho : o ≤ sM τ * 6 := by omega
  refine ⟨⟨⟨⟨b1, b2, b3, b4, b5, b6, b7, b8, b9, by show o ≤ 1200; omega⟩, r⟩, a2, a3, a4, ho, fun p hp => ?_⟩, n, e, hR⟩
  have hp' : p < o := hp
  show opn τ p = false
  rcases Nat.lt_or_ge p (sO τ) with z | z
  · exact a5.2 p z
  · exact h3 p z hp'
theorem cP_S {G : GP} {lim : Nat} {σ τ : CS} (hG : GW G) (hlim : lim ≤ 200) (h : cP G lim σ τ) (h1 : sM τ < lim) (h2 : sO τ < sM τ * 6) (h3 : opn τ (sO τ) = true) : MkOK τ ∧ DrawOK (uR G) (uRl G) (uRn G) (uS G) (uSl G) (uSn G) (fNb τ) (sM τ) (fun u => cP G lim σ u ∧ sM u = sM τ + 1) := by
  have hC := cP_cl h
  obtain ⟨⟨a1, a2, a3, a4, a5⟩, n, e, hR⟩ := h
  obtain ⟨g1, g2, g3, g4, g5⟩ := dSt_nb hG a1 a2 hC (by omega) h2 h3
  refine ⟨g1, drawOK hG g2 (fun u hB h0 hL => ?_)⟩
  have hM : sM u = sM τ + 1 := hB.2.2.1.1.trans g4
  have hp : PO (fNb τ) := by
    refine ⟨by rw [g5, g4]; omega, fun p hp => ?_⟩
    rw [g5] at hp
    have := a5.2 p hp
    cases ee : opn (fNb τ) p with
    | false => rfl
    | true =>
      exfalso
      obtain ⟨o1, o2, o3⟩ := (opn_iff (by rw [g4]; omega)).mp ee
      have q1 := g3.1 (p / 6) (by omega)
      have q2 := g3.2 p (by omega)
      have hne : ¬ p / 6 = sM τ := by omega
      rw [q1] at o2
      rw [q2] at o3
      simp only [va_up, if_neg hne] at o2
      unfold nxE at o3
      rw [if_neg (by omega), if_neg (by omega), if_neg (by omega)] at o3
      have : OP (sC τ) (sL τ) (sE τ) p := ⟨by rw [a1.2.2.1, ← g2.1.2.2.1]; exact o1, o2, o3⟩
      rw [(opn_iff (by omega)).mpr this] at *
      simp at *
  refine ⟨⟨CB_ci g2.1 hp hB h0 hL, n + 1, by omega, by omega, sL τ, sE τ, sO τ, hR, ?_, ?_⟩, hM⟩
  · rw [← e]
    refine ⟨h2, ?_, fun q hq w => ?_⟩
    · have := (opn_iff h2).mp h3
      rw [a1.2.2.1] at this; exact this
    · have := a5.2 q hq
      rw [(opn_iff (by omega)).mpr (by rw [a1.2.2.1]; exact w)] at this
      cases this
  · rw [← e]
    rw [g4] at hL
    exact LCl_congr g3 hL
