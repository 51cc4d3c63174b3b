/-! the group that is given: relators, subgroup words, columns -/
abbrev GP : Type := (Nat → Nat → Nat) × (Nat → Nat) × Nat × (Nat → Nat → Nat) × (Nat → Nat) × Nat × Nat
def uR (G : GP) : Nat → Nat → Nat := G.1
def uRl (G : GP) : Nat → Nat := G.2.1
def uRn (G : GP) : Nat := G.2.2.1
def uS (G : GP) : Nat → Nat → Nat := G.2.2.2.1
def uSl (G : GP) : Nat → Nat := G.2.2.2.2.1
def uSn (G : GP) : Nat := G.2.2.2.2.2.1
def uK (G : GP) : Nat := G.2.2.2.2.2.2
/-- words of the columns that are used -/
def WD (K : Nat) (col : Nat → Nat) (len : Nat) : Prop := 1 ≤ len ∧ len ≤ 24 ∧ (∀ j, col j < 6) ∧ ∀ j, j < len → col j < K
def GW (G : GP) : Prop := uK G ≤ 6 ∧ (∀ x, x < uK G → x ^^^ 1 < uK G) ∧ (∀ i, i < uRn G → WD (uK G) (uR G i) (uRl G i)) ∧ ∀ i, i < uSn G → WD (uK G) (uS G i) (uSl G i)
def Cl (G : GP) (M : Nat) (L : Nat → Nat) (E : Nat → Option Nat) : Prop := Cld M (uK G) L E (uR G) (uRl G) (uRn G) (uS G) (uSl G) (uSn G)
/-- the least closed table above another -/
def LCl (G : GP) (M : Nat) (L0 : Nat → Nat) (E0 : Nat → Option Nat) (L : Nat → Nat) (E : Nat → Option Nat) : Prop := Cl G M L E ∧ Hom M L0 E0 L E ∧ ∀ LT ET, Cl G M LT ET → Hom M L0 E0 LT ET → Hom M L E LT ET
theorem cntT_sub {f g : Nat → Bool} {n : Nat} (h : ∀ i, i < n → f i = true → g i = true) : cntT f n ≤ cntT g n := by
  induction n with
  | zero => exact Nat.le_refl _
  | succ n ih =>
    have := ih (fun i hi => h i (by omega))
    have h2 := h n (by omega)
    rw [cntT, cntT]
    by_cases q : f n = true
    · rw [if_pos q, if_pos (h2 q)]; omega
    · rw [if_neg q]; omega
def unk (τ : CS) : Nat := cntT (fun p => decide (sE τ p = none)) (sM τ * 6)
def mu (τ : CS) : Nat := sRc τ + 2 * unk τ + 4000 * sV τ
theorem mu_lt {K : Nat} {τ : CS} (h : IV K τ) : mu τ < 1000000 := by
  have b := h.1
  have h1 := b.1
  have h2 := b.2.2.2.2.2.2.1
  have h3 := b.2.2.2.2.2.2.2.2.1
  have h4 : unk τ ≤ sM τ * 6 := cntT_le _ _
  unfold mu; omega
/-- what the draw that began at σ keeps -/
def CB (G : GP) (σ τ : CS) : Prop := IV (uK G) τ ∧ NRM τ ∧ Mon σ τ ∧ sO τ = sO σ ∧ ∀ LT ET, Cl G (sM σ) LT ET → HomT σ LT ET → HomT τ LT ET
theorem preC {K : Nat} {τ : CS} (h : IV K τ) (hN : NRM τ) : PreC τ := ⟨h.1, h.inM, h.2.2.2.2.2.2.1.cap, fun a b ha hb => preUn h hN ha hb⟩
theorem IV.inv {K : Nat} {τ : CS} (h : IV K τ) : Inv6 (sM τ) (sE τ) := fun c x d hc hx q => (h.2.2.2.2.2.1 c x d hc hx q).2
/-- the later table is above the earlier -/
theorem Mon.hom {K : Nat} {σ u : CS} (h0 : IV K σ) (hm : Mon σ u) (hu : IV K u) (hN : NRM u) : HomT σ (sL u) (sE u) := by
  refine ⟨fun c hc => ?_, fun c x d hc hx q => ?_⟩
  · have := h0.2.2.2.2.1.1 c hc
    exact hm.2.1 _ _ (by omega) hc (h0.2.2.2.2.1.2 c hc)
  · have hd := h0.inM c x d hc hx q
    exact (hm.2.2 c x d hc hd hx (Kn.of hc q)).at hu hN hx (by rw [hm.1]; exact hd)
theorem NRM_pth {K : Nat} {τ : CS} (h : IV K τ) (hN : NRM τ) {g : Nat → Nat} (hg : ∀ j, g j < 6) {c : Nat} (hc : c < sM τ) (hl : sL τ c = c) {i : Nat} : ∀ {p : Nat}, pth (sE τ) g c i = some p → p < sM τ ∧ sL τ p = p := by
  induction i with
  | zero => intro p q; cases q; exact ⟨hc, hl⟩
  | succ i ih =>
    intro p q
    obtain ⟨a, b, e1, e2, e3⟩ := pth_step q (Nat.lt_succ_self i)
    rw [q] at e2; cases e2
    exact (hN.two h (ih e1).1 (hg i) e3).2
theorem NRM_bp {K : Nat} {τ : CS} (h : IV K τ) (hN : NRM τ) {g : Nat → Nat} (hg : ∀ j, g j < 6) {len c : Nat} (hc : c < sM τ) (hl : sL τ c = c) {i : Nat} : ∀ {p : Nat}, bp (sE τ) g len c i = some p → p < sM τ ∧ sL τ p = p := by
  induction i with
  | zero => intro p q; cases q; exact ⟨hc, hl⟩
  | succ i ih =>
    intro p q
    replace q : (match bp (sE τ) g len c i with | none => none | some q => sE τ (q * 6 + (g (len - 1 - i) ^^^ 1))) = some p := q
    cases e : bp (sE τ) g len c i with
    | none => rw [e] at q; cases q
    | some r =>
      rw [e] at q
      exact (hN.two h (ih e).1 (xor1_lt (hg _)) q).2
/-- join keeps all -/
theorem CB.join {G : GP} {σ τ : CS} {k x d : Nat} (hB : CB G σ τ) (hk : k < sM τ) (hkl : sL τ k = k) (hx : x < uK G) (hd : d < sM τ) (hdl : sL τ d = d) (h1 : sE τ (k * 6 + x) = none) (h2 : sE τ (d * 6 + (x ^^^ 1)) = none) (hT : ∀ LT ET, Cl G (sM σ) LT ET → HomT τ LT ET → ET (LT k * 6 + x) = some (LT d)) : CB G σ (fJoin τ k x d) ∧ Mon τ (fJoin τ k x d) ∧ mu (fJoin τ k x d) < mu τ ∧ Kn (fJoin τ k x d) k x d := by
  obtain ⟨hI, hN, hm, hO, hS⟩ := hB
  have hK6 : uK G ≤ 6 := by have h1 := hI.1.2.1; have h2 := hI.2.2.1; omega
  have hx6 : x < 6 := by omega
  have hx1 := xor1_lt hx6
  obtain ⟨j1, j2, j3, j4, j5, j6, j7, j8⟩ := fJoin_L τ k x d
  have g1 := hI.join hk hx hd h1 h2
  have hent : ∀ c y e, c < sM τ → y < 6 → sE τ (c * 6 + y) = some e → Kn (fJoin τ k x d) c y e := by
    intro c y e hc hy q
    refine ⟨c, e, by rw [j2]; exact hc, ?_, rfl, rfl⟩
    rw [j6]
    have z1 : ¬ c * 6 + y = d * 6 + (x ^^^ 1) := fun z => by rw [z, h2] at q; cases q
    have z2 : ¬ c * 6 + y = k * 6 + x := fun z => by rw [z, h1] at q; cases q
    simp only [va_up, if_neg z1, if_neg z2]; exact q
  have m1 : Mon τ (fJoin τ k x d) := Mon.of j2 (fun c e _ _ q => by rw [j1]; exact q) hI.inM hent
  have hkn : Kn (fJoin τ k x d) k x d := by
    obtain ⟨i1, i2, i3⟩ := g1.2.2.2.2.2.1 d (x ^^^ 1) k (by rw [j2]; exact hd) hx1 (by rw [j6]; simp [va_up])
    rw [xor1_xor1] at i3
    exact Kn.of i2 i3
  refine ⟨⟨g1, fun c y e hc hy q => ?_, hm.trans m1, j8.trans hO, fun LT ET hC hH => ?_⟩, m1, ?_, hkn⟩
  · rw [j1]
    rw [j6] at q
    rw [j2] at hc
    simp only [va_up] at q
    split at q
    · rename_i z
      obtain ⟨rfl, -⟩ : c = d ∧ y = x ^^^ 1 := by omega
      exact hdl
    · split at q
      · rename_i z
        obtain ⟨rfl, -⟩ : c = k ∧ y = x := by omega
        exact hkl
      · exact hN c y e hc hy q
  · have hH2 := hS LT ET hC hH
    have t1 := hT LT ET hC hH2
    have hW := hC.1
    have hkM : LT k < sM σ := by have := hW.1 k (by rw [← hm.1]; exact hk); rw [hm.1] at hk; omega
    exact Hom.join (K := uK G) hH2 hx6 t1 ((hW.2.2 (LT k) x _ hkM hx6 t1).2.2.2.2)
  · have hu : unk (fJoin τ k x d) + 1 ≤ unk τ := by
      unfold unk
      rw [j2, j6]
      have e : cntT (va_up (fun p => decide (sE τ p = none)) (k * 6 + x) false) (sM τ * 6) + 1 = cntT (fun p => decide (sE τ p = none)) (sM τ * 6) := cntT_dn (by omega) (by simp [h1])
      have : cntT (fun p => decide (va_up (va_up (sE τ) (k * 6 + x) (some d)) (d * 6 + (x ^^^ 1)) (some k) p = none)) (sM τ * 6) ≤ cntT (va_up (fun p => decide (sE τ p = none)) (k * 6 + x) false) (sM τ * 6) := by
        refine cntT_sub (fun p hp q => ?_)
        have q2 := of_decide_eq_true q
        simp only [va_up] at q2
        have z : ¬ p = k * 6 + x := fun z => by
          split at q2
          · cases q2
          · first | (cases q2; done) | (rw [if_pos z] at q2; cases q2)
        rw [if_neg z] at q2
        simp only [va_up, if_neg z]
        split at q2
        · cases q2
        · exact decide_eq_true q2
      omega
    unfold mu; rw [j4]; omega
theorem CB.unite {G : GP} {σ τ u : CS} {a b : Nat} (hB : CB G σ τ) (ha : a < sM τ) (hb : b < sM τ) (hu : UnEnd (fFall (fU0 τ) a b) u) (hT : ∀ LT ET, Cl G (sM σ) LT ET → HomT τ LT ET → LT a = LT b) : CB G σ u ∧ Mon τ u ∧ Frs τ u ∧ mu u ≤ mu τ ∧ sL u a = sL u b := by
  obtain ⟨hI, hN, hm, hO, hS⟩ := hB
  have h6 := hI.1.2.1
  obtain ⟨e1, e2, e3, e4, e5, e6, e7⟩ := un_end hI hN ha hb hu
  obtain ⟨f1, f2⟩ := un_frs h6 hu
  refine ⟨⟨e1, e2, hm.trans e3, f1.1.trans hO, fun LT ET hC hH => ?_⟩, e3, f1, ?_, e4⟩
  · have hH2 := hS LT ET hC hH
    exact e7 LT ET (by rw [hm.1]; exact hC.1) hH2 (hT LT ET hC hH2)
  · by_cases q : sL τ a = sL τ b
    · rw [f2 q]; exact Nat.le_refl _
    · have := e6 q
      have h1 := e1.1.2.2.2.2.2.2.1
      have h2 := e1.1.1
      have h4 : unk u ≤ sM u * 6 := cntT_le _ _
      unfold mu; omega
def gi (col : Nat → Nat) (len i : Nat) : Nat → Nat := fun t => col ((i + 1 + t) % len)
/-- what T says of a word that is closed in it -/
def TW (G : GP) (M : Nat) (col : Nat → Nat) (len st c : Nat) : Prop := ∀ LT ET, Cl G M LT ET → (∀ p, pth ET (rot col len st) (LT c) len = some p → p = LT c) ∧ ∀ i p q, i < len → pth ET (rot col len st) (LT c) i = some p → bp ET (rot col len st) len (LT c) (len - 1 - i) = some q → LT q = q → ET (p * 6 + rot col len st i) = some q
theorem TW_r {G : GP} {M r st c : Nat} (hG : GW G) (hr : r < uRn G) (hst : st < uRl G r) (hc : c < M) : TW G M (uR G r) (uRl G r) st c := by
  intro LT ET hC
  obtain ⟨w1, w2, w3, w4⟩ := hG.2.2.1 r hr
  have hcM : LT c < M := by have := hC.1.1 c hc; omega
  refine ⟨fun p h => rc_full hC.1.inv w3 (hC.2.2.1 r hr) hst hcM (hC.1.2.1 c hc) h, fun i p q hi h1 h2 hq => rc_close hC.1.inv w3 (hC.2.2.1 r hr) hst hi hcM h1 h2 hq⟩
theorem TW_s {G : GP} {M r : Nat} (hG : GW G) (hr : r < uSn G) (hM : 0 < M) : TW G M (uS G r) (uSl G r) 0 0 := by
  intro LT ET hC
  obtain ⟨w1, w2, w3, w4⟩ := hG.2.2.2 r hr
  have h0 : LT 0 = 0 := hC.2.1
  rw [h0]
  exact ⟨fun p h => sc_full hC.1.inv w3 (hC.2.2.2 r hr) w1 hM h, fun i p q hi h1 h2 hq => sc_close hC.1.inv w3 (hC.2.2.2 r hr) hi hM h1 h2⟩
theorem rot_ltK {K : Nat} {col : Nat → Nat} {len st i : Nat} (h : WD K col len) (hst : st < len) (hi : i < len) : rot col len st i < K := by
  rw [rot_mod hst hi]; exact h.2.2.2 _ (Nat.mod_lt _ (by omega))
/-- a ring that was known but for one letter, and that letter now: it is closed -/
theorem ring_of {K : Nat} {τ u : CS} {g : Nat → Nat} {len c i p q : Nat} (h : IV K τ) (hm : Mon τ u) (hu : IV K u) (hN : NRM u) (hg : ∀ j, g j < 6) (hc : c < sM τ) (hi : i < len) (h1 : pth (sE τ) g c i = some p) (h2 : bp (sE τ) g len c (len - 1 - i) = some q) (hk : Kn u p (g i) q) : pth (sE u) g (sL u c) len = some (sL u c) := by
  have hH := hm.hom h hu hN
  have a1 := Hom_pth hH h.inM hg hc h1
  have hq : q < sM τ := bp_lt2 h.inM hg hc h2
  have a2 := hk.at hu hN (hg i) (by rw [hm.1]; exact hq)
  have b := bp_pth h.inv hg hc (by omega) h2
  have a3 := Hom_pth hH h.inM (fun j => hg _) hq b
  have a4 := pth_add (i + 1) ((pth_succ a1).trans a2) (len - 1 - i)
  rw [show i + 1 + (len - 1 - i) = len by omega] at a4
  rw [a4, ← a3]
  exact pth_congr (n := len - 1 - i) (fun j hj => by show g (i + 1 + j) = g (len - (len - 1 - i) + j); rw [show len - (len - 1 - i) + j = i + 1 + j by omega]) _ (Nat.le_refl _)
/-- the ways out of close -/
def StkE (E : Nat → Option Nat) (g : Nat → Nat) (len c : Nat) : Prop := ∃ i p k, i < len ∧ pth E g c i = some p ∧ E (p * 6 + g i) = none ∧ k < len - 1 - i ∧ bp E g len c (k + 1) = none
abbrev Stk (τ : CS) (g : Nat → Nat) (len c : Nat) : Prop := StkE (sE τ) g len c
theorem close_ok {G : GP} {σ τ u : CS} {col : Nat → Nat} {len st c : Nat} (hB : CB G σ τ) (hw : WD (uK G) col len) (hst : st < len) (hc : c < sM τ) (hcl : sL τ c = c) (hT : TW G (sM σ) col len st c) (hR : CloseR τ col len st c u) : CB G σ u ∧ Mon τ u ∧ Frs τ u ∧ mu u ≤ mu τ ∧ (pth (sE u) (rot col len st) (sL u c) len = some (sL u c) ∨ (u = τ ∧ Stk τ (rot col len st) len c)) := by
  have hI := hB.1; have hN := hB.2.1
  have hK6 : uK G ≤ 6 := by have h1 := hI.1.2.1; have h2 := hI.2.2.1; omega
  have hg : ∀ j, rot col len st j < 6 := fun j => rnd_lt hw.2.2.1 len (st + j)
  rcases hR with ⟨p, h1, hu⟩ | ⟨i, p, hi, h1, h2, h3⟩
  · have hp := (NRM_pth hI hN hg hc hcl h1).1
    obtain ⟨g1, g2, g3, g4, g5⟩ := hB.unite hp hc hu (fun LT ET hC hH => (hT LT ET hC).1 _ (Hom_pth hH hI.inM hg hc h1))
    refine ⟨g1, g2, g3, g4, Or.inl ?_⟩
    have := Hom_pth (g2.hom hI g1.1 g1.2.1) hI.inM hg hc h1
    rw [g5] at this; exact this
  · obtain ⟨hp, hpl⟩ := NRM_pth hI hN hg hc hcl h1
    rcases h3 with ⟨q, h4, h5, rfl⟩ | ⟨q, t, h4, h5, hu⟩ | ⟨k, hk, h4, rfl⟩
    · obtain ⟨hq, hql⟩ := NRM_bp hI hN hg hc hcl h4
      obtain ⟨g1, g2, g3, g4⟩ := hB.join hp hpl (rot_ltK hw hst hi) hq hql h2 h5 (fun LT ET hC hH => (hT LT ET hC).2 i _ _ hi (Hom_pth hH hI.inM hg hc h1) (Hom_bp hH hI.inM hg hc h4) (hC.1.2.1 q (by rw [← hB.2.2.1.1]; exact hq)))
      exact ⟨g1, g2, Frs.join (hg i), Nat.le_of_lt g3, Or.inl (ring_of hI g2 g1.1 g1.2.1 hg hc hi h1 h4 g4)⟩
    · obtain ⟨hq, hql⟩ := NRM_bp hI hN hg hc hcl h4
      have ht := hI.inM _ _ _ hq (xor1_lt (hg i)) h5
      obtain ⟨g1, g2, g3, g4, g5⟩ := hB.unite ht hp hu (fun LT ET hC hH => by
        have t1 := (hT LT ET hC).2 i _ _ hi (Hom_pth hH hI.inM hg hc h1) (Hom_bp hH hI.inM hg hc h4) (hC.1.2.1 q (by rw [← hB.2.2.1.1]; exact hq))
        have hpM : LT p < sM σ := by have := hC.1.1 p (by rw [← hB.2.2.1.1]; exact hp); rw [hB.2.2.1.1] at hp; omega
        have t2 := (hC.1.2.2 _ _ _ hpM (hg i) t1).2.2.2.2
        have t3 := hH.2 _ _ _ hq (xor1_lt (hg i)) h5
        rw [t2] at t3
        exact (Option.some.inj t3).symm)
      refine ⟨g1, g2, g3, g4, Or.inl (ring_of hI g2 g1.1 g1.2.1 hg hc hi h1 h4 ?_)⟩
      have k1 := g2.2.2 q _ t hq ht (xor1_lt (hg i)) (Kn.of hq h5)
      have k2 := k1.inv g1.1 (xor1_lt (hg i))
      rw [xor1_xor1] at k2
      exact k2.congr g5 rfl
    · exact ⟨hB, Mon.refl _, Frs.refl _, Nat.le_refl _, Or.inr ⟨rfl, i, p, k, hi, h1, h2, hk, h4⟩⟩
