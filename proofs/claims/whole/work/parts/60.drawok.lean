/-! the draw -/
theorem IV.take {K : Nat} {τ : CS} (h : IV K τ) (h1 : 0 < sRc τ) : IV K (fTake τ) ∧ mu (fTake τ) < mu τ ∧ sR τ (sRc τ - 1) < sM τ * 6 := by
  obtain ⟨hB, hM, hC, hX, hL, hE, ⟨f1, f2, f3, f4⟩, hV⟩ := h
  obtain ⟨b1, b2, b3, b4, b5, b6, b7, b8, b9, b10⟩ := hB
  obtain ⟨g1, g2⟩ := f2 (sRc τ - 1) (by omega)
  have hp : sR τ (sRc τ - 1) < 1200 := b5 _
  refine ⟨⟨⟨b1, b2, b3, b4, b5, b6, by show sRc τ - 1 ≤ 1200; omega, b8, b9, b10⟩, hM, hC, hX, hL, hE, ⟨?_, ?_, ?_, ?_⟩, hV⟩, ?_, g1⟩
  · show cntT (va_up (sS τ) (sR τ (sRc τ - 1)) false) 1200 = sRc τ - 1
    have := cntT_dn hp g2; omega
  · intro j hj
    have hj' : j < sRc τ - 1 := hj
    obtain ⟨w1, w2⟩ := f2 j (by omega)
    refine ⟨w1, ?_⟩
    show va_up (sS τ) (sR τ (sRc τ - 1)) false (sR τ j) = true
    have : ¬ sR τ j = sR τ (sRc τ - 1) := fun e => by have := f3 j (sRc τ - 1) (by omega) (by omega) e; omega
    simp only [va_up, if_neg this]; exact w2
  · intro i j hi hj e
    have hi' : i < sRc τ - 1 := hi
    have hj' : j < sRc τ - 1 := hj
    exact f3 i j (by omega) (by omega) e
  · intro p hp2 hs
    have hs' : va_up (sS τ) (sR τ (sRc τ - 1)) false p = true := hs
    have hne : ¬ p = sR τ (sRc τ - 1) := fun e => by simp [va_up, e] at hs'
    simp only [va_up, if_neg hne] at hs'
    obtain ⟨j, hj, e⟩ := f4 p hp2 hs'
    refine ⟨j, ?_, e⟩
    show j < sRc τ - 1
    have : j ≠ sRc τ - 1 := fun z => hne (by rw [← e, z])
    omega
  · show sRc τ - 1 + 2 * unk τ + 4000 * sV τ < sRc τ + 2 * unk τ + 4000 * sV τ
    omega
def SInv (G : GP) (j : Nat) (τ : CS) : Prop := sRc τ = 0 → ∀ i, i < j → SC (sM τ) (sE τ) (uS G i) (uSl G i)
def XK (G : GP) (c0 n : Nat) : Nat → Nat → Nat → Prop := fun r _ q => uRl G r = 1 ∧ q = c0 ∧ n ≤ r
def XN : Nat → Nat → Nat → Prop := fun _ _ _ => False
def XJ (G : GP) (ρ : CS) (k x i n : Nat) : Nat → Nat → Nat → Prop := fun r j q => ∃ t a b, St ρ (uR G r) (uRl G r) j q t a b ∧ ((a = k ∧ gi (uR G r) (uRl G r) j t = x) ∨ (b = k ∧ gi (uR G r) (uRl G r) j t = x ^^^ 1)) ∧ (i < r ∨ (i = r ∧ n ≤ (j + 1 + t) % uRl G r))
def dM (G : GP) (σ τ : CS) : Prop := CB G σ τ ∧ RInv G τ XN ∧ SInv G (uSn G) τ
def dJ (G : GP) (σ τ : CS) (i n : Nat) (ρ : CS) : Prop := CB G σ ρ ∧ mu ρ < mu τ ∧ sR τ (sRc τ - 1) / 6 < sM ρ ∧ RInv G ρ (XJ G ρ (sR τ (sRc τ - 1) / 6) (sR τ (sRc τ - 1) % 6) i n)
theorem xor1_ne (x : Nat) : x ^^^ 1 ≠ x := by
  intro h
  have : x ^^^ 1 ^^^ x = x ^^^ x := by rw [h]
  rw [Nat.xor_self, Nat.xor_comm x 1, Nat.xor_assoc, Nat.xor_self] at this
  cases this
theorem RInv.keep {G : GP} {σ τ u : CS} {X : Nat → Nat → Nat → Prop} (hG : GW G) (hB : CB G σ τ) (hu : CB G σ u) (hm : Mon τ u) (hf : Frs τ u) (h : RInv G τ X) : RInv G u X := by
  intro r hr i q p hR
  rcases RI_step hB.1 hm hf hu.1 hu.2.1 (hG.2.2.1 r hr).2.2.1 hR with w | ⟨w1, w2, w3⟩
  · exact Or.inl w
  · exact Or.inr ((h r hr i q p w1).resolve_left w3)
theorem SInv.keep {G : GP} {σ τ u : CS} {j : Nat} (hG : GW G) (hj : j ≤ uSn G) (hB : CB G σ τ) (hu : CB G σ u) (hm : Mon τ u) (hf : Frs τ u) (h : SInv G j τ) : SInv G j u := by
  intro h0 i hi
  have := FR_le hB.1 hu.1 hf
  exact SC_step hm hf hu.1 hu.2.1 h0 (hG.2.2.2 i (by omega)).2.2.1 (h (by omega) i hi)
/-- a subgroup word is drawn -/
theorem dS_step {G : GP} {σ τ u : CS} {i : Nat} (hG : GW G) (hi : i < uSn G) (hB : CB G σ τ) (hR : RInv G τ XN) (hS : SInv G i τ) (hc : CloseR τ (uS G i) (uSl G i) 0 0 u) : CB G σ u ∧ RInv G u XN ∧ SInv G (i + 1) u ∧ mu u ≤ mu τ := by
  have hw := hG.2.2.2 i hi
  have hT : TW G (sM σ) (uS G i) (uSl G i) 0 0 := TW_s hG hi (by rw [← hB.2.2.1.1]; exact hB.1.2.1)
  obtain ⟨g1, g2, g3, g4, g5⟩ := close_ok hB hw (by have := hw.1; omega) hB.1.2.1 hB.1.z hT hc
  refine ⟨g1, hR.keep hG hB g1 g2 g3, fun h0 j hj => ?_, g4⟩
  by_cases z : j = i
  · rw [z]; exact sc_of hB hw hT hc
  · exact hS.keep hG (by omega) hB g1 g2 g3 h0 j (by omega)
theorem dJ_close {G : GP} {σ τ ρ u : CS} {i n c : Nat} (hG : GW G) (hi : i < uRn G) (hn : n < uRl G i) (hJ : dJ G σ τ i n ρ) (hc : c < sM ρ) (hcl : sL ρ c = c) (hat : ∀ j q t a b, St ρ (uR G i) (uRl G i) j q t a b → q < sM ρ → ((a = sR τ (sRc τ - 1) / 6 ∧ gi (uR G i) (uRl G i) j t = sR τ (sRc τ - 1) % 6) ∨ (b = sR τ (sRc τ - 1) / 6 ∧ gi (uR G i) (uRl G i) j t = sR τ (sRc τ - 1) % 6 ^^^ 1)) → (j + 1 + t) % uRl G i = n → a = c) (hR : CloseR ρ (uR G i) (uRl G i) n c u) : dJ G σ τ i (n + 1) u := by
  obtain ⟨hB, hmu, hk, hI⟩ := hJ
  have hw := hG.2.2.1 i hi
  obtain ⟨g1, g2, g3, g4, g5⟩ := close_ok hB hw hn hc hcl (TW_r hG hi hn (by rw [← hB.2.2.1.1]; exact hc)) hR
  refine ⟨g1, by omega, by rw [g2.1]; exact hk, fun r hr j q p hRI => ?_⟩
  have hwr := hG.2.2.1 r hr
  rcases RI_step hB.1 g2 g3 g1.1 g1.2.1 hwr.2.2.1 hRI with w | ⟨w1, w2, w3⟩
  · exact Or.inl w
  · right
    obtain ⟨t, a, b, s1, s2, s3⟩ := (hI r hr j q p w1).resolve_left w3
    have s1u : St u (uR G r) (uRl G r) j q t a b := ⟨s1.1, by rw [w2 t (by have := s1.1; omega)]; exact s1.2.1, by rw [w2 (t + 1) (by have := s1.1; omega)]; exact s1.2.2⟩
    by_cases z : i = r ∧ (j + 1 + t) % uRl G r = n
    · exfalso
      obtain ⟨rfl, z2⟩ := z
      have ha := hat j q t a b s1 w1.2.1 s2 z2
      subst ha
      obtain ⟨r1, r2, r3, r4, r5⟩ := hRI
      have hal := NRM_pth g1.1 g1.2.1 (fun j' => hw.2.2.1 _) r2 r3 s1u.2.1
      rcases g5 with w | ⟨rfl, w⟩
      · rw [hal.2] at w
        exact r5 (ring_full g1.1.inv hw.2.2.1 r1 r2 (by have := s1.1; omega) r4 s1u.2.1 z2 w)
      · exact ring_stk hB.1 hw.2.2.1 r1 r2 (by have := s1.1; omega) r4 s1u.2.1 z2 w
    · refine ⟨t, a, b, s1u, s2, ?_⟩
      rcases s3 with e | ⟨e1, e2⟩
      · exact Or.inl e
      · refine Or.inr ⟨e1, ?_⟩
        rcases Nat.lt_or_ge n ((j + 1 + t) % uRl G r) with y | y
        · exact y
        · exact absurd ⟨e1, by omega⟩ z
theorem St.ent {τ : CS} {col : Nat → Nat} {len i q t a b : Nat} (h : St τ col len i q t a b) : sE τ (a * 6 + gi col len i t) = some b := (pth_succ h.2.1).symm.trans h.2.2
theorem St.lt {K : Nat} {τ : CS} {col : Nat → Nat} {len i q t a b : Nat} (hI : IV K τ) (hcol : ∀ j, col j < 6) (hq : q < sM τ) (h : St τ col len i q t a b) : a < sM τ := pth_lt2 hI.inM (fun j => hcol _) hq h.2.1
/-- what must hold where a draw begins -/
def dSt (G : GP) (σ : CS) (c0 : Nat) : Prop := IV (uK G) σ ∧ NRM σ ∧ c0 < sM σ ∧ RInv G σ (XK G c0 0)
theorem dM_end {G : GP} {σ u : CS} (hG : GW G) (h : dM G σ u) (h0 : sRc u = 0) (hI0 : IV (uK G) σ) : LCl G (sM σ) (sL σ) (sE σ) (sL u) (sE u) := by
  obtain ⟨hB, hR, hS⟩ := h
  obtain ⟨hI, hN, hm, hO, hT⟩ := hB
  refine ⟨⟨⟨fun c hc => hI.2.2.2.2.1.1 c (by rw [hm.1]; exact hc), fun c hc => hI.2.2.2.2.1.2 c (by rw [hm.1]; exact hc), fun c x d hc hx q => ?_⟩, hI.z, fun r hr j q p h1 h2 h3 h4 => ?_, fun i hi => ?_⟩, hm.hom hI0 hI hN, fun LT ET hC hH => ?_⟩
  · have hc' : c < sM u := by rw [hm.1]; exact hc
    obtain ⟨k1, k2, k3⟩ := hI.2.2.2.2.2.1 c x d hc' hx q
    obtain ⟨l1, l2, l3⟩ := hN.two hI hc' hx q
    exact ⟨l1, k1, by rw [← hm.1]; exact k2, l3, k3⟩
  · rcases Classical.em (sE u (p * 6 + uR G r j) = some q) with e | e
    · exact e
    · exfalso
      have hq : q < sM u := by rw [hm.1]; exact h2
      have hcol := (hG.2.2.1 r hr).2.2.1
      rcases hR r hr j q p ⟨h1, hq, h3, h4, e⟩ with ⟨t, a, b, s1, s2⟩ | w
      · have hM := hI.1.1
        have ha := St.lt hI hcol hq s1
        have hg : gi (uR G r) (uRl G r) j t < 6 := hcol _
        have hb := hI.inM _ _ _ ha hg s1.ent
        have := xor1_lt hg
        rcases s2 with w | w
        · exact FR_no hI h0 (by omega) w
        · exact FR_no hI h0 (by omega) w
      · exact w
  · have := hS h0 i hi
    rw [hm.1] at this; exact this
  · have := hT LT ET hC hH
    unfold HomT at this
    rw [hm.1] at this; exact this
theorem drawOK {G : GP} {σ : CS} {c0 : Nat} {F : CS → Prop} (hG : GW G) (h : dSt G σ c0) (hF : ∀ u, CB G σ u → sRc u = 0 → LCl G (sM σ) (sL σ) (sE σ) (sL u) (sE u) → F u) : DrawOK (uR G) (uRl G) (uRn G) (uS G) (uSl G) (uSn G) σ c0 F := by
  obtain ⟨hI0, hN0, hc0, hR0⟩ := h
  have hB0 : CB G σ σ := ⟨hI0, hN0, Mon.refl σ, rfl, fun _ _ _ q => q⟩
  refine ⟨fun i τ => CB G σ τ ∧ RInv G τ (XK G c0 i), fun i τ => CB G σ τ ∧ RInv G τ XN ∧ SInv G i τ, dM G σ, mu, dJ G σ, fun τ i ρ => CB G σ ρ ∧ RInv G ρ XN ∧ SInv G i ρ ∧ mu ρ < mu τ, ⟨hB0, hR0⟩, ?_, ?_, ?_, ?_, ?_, ?_, ?_, ?_, ?_, ?_, ?_, ?_, ?_, ?_, ?_, ?_, ?_, ?_, ?_, ?_⟩
  · rintro i τ hi ⟨hB, hR⟩
    exact ⟨preC hB.1 hB.2.1, by rw [hB.2.2.1.1]; exact hc0⟩
  · rintro i τ u hi ⟨hB, hR⟩ hl hC
    have hw := hG.2.2.1 i hi
    have hcM : c0 < sM τ := by rw [hB.2.2.1.1]; exact hc0
    have hcl : sL τ c0 = c0 := by simp [liv, hcM] at hl; exact hl
    obtain ⟨g1, g2, g3, g4, g5⟩ := close_ok hB hw (by have := hw.1; omega) hcM hcl (TW_r hG hi (by have := hw.1; omega) hc0) hC
    refine ⟨g1, fun r hr j q p hRI => ?_⟩
    rcases hR.keep hG hB g1 g2 g3 r hr j q p hRI with w | ⟨w1, w2, w3⟩
    · exact Or.inl w
    · by_cases z : r = i
      · exfalso
        subst z
        obtain ⟨r1, r2, r3, r4, r5⟩ := hRI
        have hj : j = 0 := by omega
        have hst : (j + 1 + 0) % uRl G r = 0 := by rw [w1, hj]
        rcases g5 with w | ⟨-, w⟩
        · rw [← w2, r3] at w
          exact r5 (ring_full g1.1.inv hw.2.2.1 r1 r2 (by omega) r4 rfl hst w)
        · obtain ⟨a, b, k, k1, k2, k3, k4, k5⟩ := w
          omega
      · exact Or.inr ⟨w1, w2, by omega⟩
  · rintro i τ hi ⟨hB, hR⟩ he
    refine ⟨hB, fun r hr j q p hRI => ?_, fun _ i hi => absurd hi (Nat.not_lt_zero i)⟩
    rcases hR r hr j q p hRI with w | ⟨w1, w2, w3⟩
    · exact Or.inl w
    · exfalso
      rcases he with e | e
      · omega
      · have hcM : c0 < sM τ := by rw [hB.2.2.1.1]; exact hc0
        have := hRI.2.2.1
        rw [w2] at this
        simp [liv, hcM, this] at e
  · rintro i τ hi ⟨hB, hR, hS⟩
    exact ⟨preC hB.1 hB.2.1, hB.1.2.1⟩
  · rintro i τ u hi ⟨hB, hR, hS⟩ hC
    obtain ⟨a1, a2, a3, a4⟩ := dS_step hG hi hB hR hS hC
    exact ⟨a1, a2, a3⟩
  · rintro τ ⟨hB, hR, hS⟩
    exact ⟨⟨hB, hR, hS⟩, mu_lt hB.1⟩
  · rintro τ ⟨hB, hR, hS⟩
    exact ⟨hB.1.1, by unfold mu; omega⟩
  · rintro τ ⟨hB, hR, hS⟩ h0
    obtain ⟨t1, t2, t3⟩ := hB.1.take h0
    have hm : Mon σ (fTake τ) := hB.2.2.1
    refine ⟨⟨t1, hB.2.1, hm, hB.2.2.2.1, hB.2.2.2.2⟩, t2, by show _ < sM τ; omega, fun r hr j q p hRI => ?_⟩
    have hRI' : RI τ (uR G r) (uRl G r) j q p := hRI
    have hcol := (hG.2.2.1 r hr).2.2.1
    rcases hR r hr j q p hRI' with ⟨t, a, b, s1, s2⟩ | w
    · by_cases z : HF (fTake τ) (uR G r) (uRl G r) j q
      · exact Or.inl z
      · right
        have hg : gi (uR G r) (uRl G r) j t < 6 := hcol _
        have hg1 := xor1_lt hg
        have key : ∀ p, sS τ p = true → p = sR τ (sRc τ - 1) ∨ sS (fTake τ) p = true := by
          intro p hp
          by_cases e : p = sR τ (sRc τ - 1)
          · exact Or.inl e
          · right; show va_up (sS τ) (sR τ (sRc τ - 1)) false p = true
            simp only [va_up, if_neg e]; exact hp
        refine ⟨t, a, b, s1, ?_, by omega⟩
        rcases s2 with w | w
        · rcases key _ w with e | e
          · left; exact ⟨by omega, by omega⟩
          · exact absurd ⟨t, a, b, s1, Or.inl e⟩ z
        · rcases key _ w with e | e
          · right
            refine ⟨by omega, ?_⟩
            have : gi (uR G r) (uRl G r) j t ^^^ 1 = sR τ (sRc τ - 1) % 6 := by omega
            rw [← this, xor1_xor1]
          · exact absurd ⟨t, a, b, s1, Or.inr e⟩ z
    · exact absurd w id
  · rintro τ ρ hM ⟨hB, -⟩
    exact hB.1.1
  · rintro τ i n ρ hM hi hn ⟨hB, hmu, hk, -⟩
    exact ⟨preC hB.1 hB.2.1, hk⟩
  · rintro τ i n ρ d u hM hi hn hJ he hx hC
    have hB := hJ.1
    have hcol := (hG.2.2.1 i hi).2.2.1
    refine dJ_close hG hi hn hJ hJ.2.2.1 (hB.2.1 _ _ _ hJ.2.2.1 (Nat.mod_lt _ (by decide)) he) (fun j q t a b s1 hq s2 s3 => ?_) hC
    rcases s2 with w | ⟨w1, w2⟩
    · exact w.1
    · exfalso
      have : gi (uR G i) (uRl G i) j t = uR G i n := by rw [gi, s3]
      rw [this, hx] at w2
      exact xor1_ne _ w2.symm
  · rintro τ i n ρ d u hM hi hn hJ he hx hx2 hC
    have hB := hJ.1
    have hcol := (hG.2.2.1 i hi).2.2.1
    obtain ⟨k1, k2, k3⟩ := hB.2.1.two hB.1 hJ.2.2.1 (Nat.mod_lt _ (by decide)) he
    refine dJ_close hG hi hn hJ k2 k3 (fun j q t a b s1 hq s2 s3 => ?_) hC
    rcases s2 with ⟨w1, w2⟩ | ⟨w1, w2⟩
    · exfalso
      have : gi (uR G i) (uRl G i) j t = uR G i n := by rw [gi, s3]
      rw [this] at w2
      exact hx w2
    · have ha := St.lt hB.1 hcol hq s1
      have hen := s1.ent
      have := (hB.1.inv a (gi (uR G i) (uRl G i) j t) b ha (hcol _) hen).2
      rw [w2, xor1_xor1, w1, he] at this
      exact (Option.some.inj this).symm
  · rintro τ i n ρ d hM hi hn ⟨hB, hmu, hk, hR⟩ he hx hx2
    refine ⟨hB, hmu, hk, fun r hr j q p hRI => ?_⟩
    rcases hR r hr j q p hRI with w | ⟨t, a, b, s1, s2, s3⟩
    · exact Or.inl w
    · refine Or.inr ⟨t, a, b, s1, s2, ?_⟩
      rcases s3 with e | ⟨e1, e2⟩
      · exact Or.inl e
      · subst e1
        refine Or.inr ⟨rfl, ?_⟩
        rcases Nat.lt_or_ge n ((j + 1 + t) % uRl G i) with y | y
        · exact y
        · exfalso
          have e3 : (j + 1 + t) % uRl G i = n := by omega
          have : gi (uR G i) (uRl G i) j t = uR G i n := by rw [gi, e3]
          rw [this] at s2
          rcases s2 with w | w
          · exact hx w.2
          · exact hx2 w.2
  · rintro τ i n ρ hM hi hn ⟨hB, hmu, hk, hR⟩ he
    refine ⟨hB, hmu, hk, fun r hr j q p hRI => ?_⟩
    rcases hR r hr j q p hRI with w | ⟨t, a, b, s1, s2, s3⟩
    · exact Or.inl w
    · refine Or.inr ⟨t, a, b, s1, s2, ?_⟩
      rcases s3 with e | ⟨e1, e2⟩
      · rcases Nat.lt_or_ge (i + 1) r with y | y
        · exact Or.inl y
        · exact Or.inr ⟨by omega, Nat.zero_le _⟩
      · exfalso
        subst e1
        have hw := hG.2.2.1 i hr
        rcases he with e | e
        · have := Nat.mod_lt (j + 1 + t) (show 0 < uRl G i by have := hw.1; omega)
          omega
        · have ha := St.lt hB.1 hw.2.2.1 hRI.2.1 s1
          have hen := s1.ent
          rcases s2 with ⟨w1, w2⟩ | ⟨w1, w2⟩
          · rw [w1, w2, e] at hen; cases hen
          · have := (hB.1.inv a (gi (uR G i) (uRl G i) j t) b ha (hw.2.2.1 _) hen).2
            rw [w2, xor1_xor1, w1, e] at this
            cases this
  · rintro τ ρ hM ⟨hB, hmu, hk, hR⟩ h0
    refine ⟨⟨hB, fun r hr j q p hRI => ?_, fun h => by omega⟩, hmu⟩
    rcases hR r hr j q p hRI with w | ⟨t, a, b, s1, s2, s3⟩
    · exact Or.inl w
    · exfalso; omega
  · rintro τ ρ hM ⟨hB, hmu, hk, hR⟩ h0
    refine ⟨hB, fun r hr j q p hRI => ?_, fun _ i hi => absurd hi (Nat.not_lt_zero i), hmu⟩
    rcases hR r hr j q p hRI with w | ⟨t, a, b, s1, s2, s3⟩
    · exact Or.inl w
    · exfalso; omega
  · rintro τ i ρ hM hi ⟨hB, hR, hS, hmu⟩
    exact ⟨preC hB.1 hB.2.1, hB.1.2.1⟩
  · rintro τ i ρ u hM hi ⟨hB, hR, hS, hmu⟩ hC
    obtain ⟨a1, a2, a3, a4⟩ := dS_step hG hi hB hR hS hC
    exact ⟨a1, a2, a3, by omega⟩
  · rintro τ u hM ⟨hB, hR, hS, hmu⟩
    exact ⟨⟨hB, hR, hS⟩, hmu⟩
  · intro u hM h0
    exact hF u hM.1 h0 (dM_end hG hM h0 hI0)
