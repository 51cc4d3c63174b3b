/-! the reference: norm, attempt -/
theorem nmX_eq (t : Nat → Option Nat) (nw : Nat → Nat) (c n i : Nat) : nmX t nw c n i = if 6 * c ≤ i ∧ i < 6 * c + n then (t i).map (rep nw) else t i := by
  induction n with
  | zero => rw [nmX, if_neg (by omega)]
  | succ n ih =>
    rw [nmX]
    simp only [va_up]
    by_cases z : i = 6 * c + n
    · rw [if_pos z, if_pos (by omega)]
      rw [← z, ih, if_neg (by omega)]
      cases t i <;> rfl
    · rw [if_neg z, ih]
      by_cases w : 6 * c ≤ i ∧ i < 6 * c + n
      · rw [if_pos w, if_pos (by omega)]
      · rw [if_neg w, if_neg (by omega)]
theorem nmC_eq (t : Nat → Option Nat) (nw : Nat → Nat) (C i : Nat) : nmC t nw C i = if i < C * 6 ∧ nw (i / 6) = i / 6 then (t i).map (rep nw) else t i := by
  induction C with
  | zero => rw [nmC, if_neg (by omega)]
  | succ C ih =>
    rw [nmC]
    by_cases z : nw C = C
    · rw [if_pos z, nmX_eq, ih]
      by_cases w : 6 * C ≤ i ∧ i < 6 * C + 6
      · rw [if_pos w, if_neg (by omega), if_pos ⟨by omega, by rw [show i / 6 = C by omega]; exact z⟩]
      · rw [if_neg w]
        by_cases w2 : i < C * 6 ∧ nw (i / 6) = i / 6
        · rw [if_pos w2, if_pos ⟨by omega, w2.2⟩]
        · rw [if_neg w2, if_neg (fun w3 => w2 ⟨by omega, w3.2⟩)]
    · rw [if_neg z, ih]
      by_cases w2 : i < C * 6 ∧ nw (i / 6) = i / 6
      · rw [if_pos w2, if_pos ⟨by omega, w2.2⟩]
      · rw [if_neg w2, if_neg (fun w3 => ?_)]
        by_cases w4 : i / 6 = C
        · rw [w4] at w3; exact z w3.2
        · exact w2 ⟨by omega, w3.2⟩
def RBd (σ : RS) (A : (Nat → Nat) → (Nat → Option Nat) → Prop) (u : RS) : Prop := JV σ A noH u ∧ rPr u = 0 ∧ WTb (rMd u) (2 * rN u) (rL u) (rTb u)
theorem norm_ok {σ τ : RS} {A : (Nat → Nat) → (Nat → Option Nat) → Prop} (h : JV σ A noH τ) (h0 : rPr τ = 0) : RBd σ A (gNorm τ) ∧ ∀ i, rTb (gNorm τ) i = none ↔ rTb τ i = none := by
  obtain ⟨hB, hnw, hF, hE, hPB, hUp, hK, hS⟩ := h
  have hMs : rMd σ = rMd τ := hF.2.2.2.2.2.symm
  have hT : ∀ i, rTb (gNorm τ) i = if i < rMd τ * 6 ∧ rNw τ (i / 6) = i / 6 then (rTb τ i).map (rL τ) else rTb τ i := fun i => nmC_eq _ _ _ _
  have hTs : ∀ c x v, c < rMd τ → x < 6 → rTb τ (c * 6 + x) = some v → rTb (gNorm τ) (c * 6 + x) = some (rL τ v) := by
    intro c x v hc hx q
    rcases (hE c x v hc hx q).1 with w | w
    · rw [hT, if_pos ⟨by omega, by rw [show (c * 6 + x) / 6 = c by omega]; exact w⟩, q]; rfl
    · exact w.elim
  have hTn : ∀ i, rTb (gNorm τ) i = none ↔ rTb τ i = none := by
    intro i
    rw [hT]
    split
    · cases rTb τ i <;> simp
    · exact Iff.rfl
  have hTb : ∀ c x v, c < rMd τ → x < 6 → rTb (gNorm τ) (c * 6 + x) = some v → ∃ d, rTb τ (c * 6 + x) = some d ∧ v = rL τ d := by
    intro c x v hc hx q
    cases e : rTb τ (c * 6 + x) with
    | none => rw [(hTn _).mpr e] at q; cases q
    | some d => rw [hTs c x d hc hx e] at q; cases q; exact ⟨d, rfl, rfl⟩
  have hR : ∀ f, Resp (gNorm τ) f → Resp τ f := fun f hf => hf
  have hRr : Resp τ (rL τ) := ⟨fun c _ => rep_nw hnw c, fun j hj => by omega⟩
  have hlt : ∀ d, d < rMd τ → rL τ d < rMd τ := fun d hd => Nat.lt_of_le_of_lt (rep_le hnw d) hd
  have hW : WTb (rMd τ) (2 * rN τ) (rL τ) (rTb (gNorm τ)) := by
    refine ⟨fun c _ => rep_le hnw c, fun c _ => rep_rep hnw c, fun c x v hc hx q => ?_⟩
    obtain ⟨d, q', rfl⟩ := hTb c x v hc hx q
    obtain ⟨q1, q2, q3, c', e', q4, q5, q6, q7⟩ := hE c x d hc hx q'
    obtain ⟨p1, p2⟩ := hE c' _ e' q4 (xor1_lt hx) q5
    have hc' : c' = rL τ d := by
      rcases p1 with w | w
      · rw [← q6]; exact (rep_fix w).symm
      · exact w.elim
    have hcc : rL τ c = c := by
      rcases q1 with w | w
      · exact rep_fix w
      · exact w.elim
    refine ⟨hcc, q2, hlt d q3, rep_rep hnw d, ?_⟩
    have := hTs c' _ e' q4 (xor1_lt hx) q5
    rw [hc', q7 _ hRr, hcc] at this
    exact this
  refine ⟨⟨⟨?_, hnw, hF, fun c x v hc hx q => ?_, hPB, fun i h1 h2 => (hTn i).mpr (hUp i h1 h2), ⟨hK.1, hK.2.1, fun c x d hc hx q => ?_⟩, fun LT ET hAt => ?_⟩, h0, hW⟩, hTn⟩
  · obtain ⟨tn, tLe, tSz, tRe, tSu, tMd, tNw, tTb, tPr, r⟩ := hB
    exact ⟨tn, tLe, tSz, tRe, tSu, tMd, tNw, nmC_lt hnw tTb _, tPr, r⟩
  · obtain ⟨w1, w2, w3, w4, w5⟩ := hW.2.2 c x v hc hx q
    exact ⟨Or.inl ((rep_iff hnw).mp w1), w2, w3, v, c, w3, w5, rfl, fun f _ => rfl⟩
  · obtain ⟨c', e', q4, q5, q6, q7⟩ := hK.2.2 c x d hc hx q
    refine ⟨c', rL τ e', q4, hTs c' x e' (by omega) hx q5, q6, fun f hf => ?_⟩
    rw [← q7 f hf]
    exact rep_resp hnw hf.1 e' (hE.inM c' x e' (by omega) hx q5)
  · obtain ⟨s1, s2⟩ := hS LT ET hAt
    refine ⟨s1, fun c x v hc hx q => ?_⟩
    obtain ⟨d, q', rfl⟩ := hTb c x v hc hx q
    rw [rep_resp hnw s1.1 d (hE.inM c x d hc hx q')]
    exact s2 c x d hc hx q'
theorem JV_learn {σ τ : RS} {A : (Nat → Nat) → (Nat → Option Nat) → Prop} {c x d : Nat} (hA : ∀ LT ET, A LT ET → WTb (rMd σ) (2 * rN σ) LT ET) (h : JV σ A noH τ) (hc : c < rMd τ) (hx : x < 6) (hxK : x < 2 * rN τ) (hd : d < rMd τ) (hp : rPr τ + 2 ≤ 8000) (hs : ∀ LT ET, A LT ET → ET (LT c * 6 + x) = some (LT d)) : JV σ A noH (gLearn τ c x d) := by
  obtain ⟨hB, hnw, hF, hE, hPB, hUp, hK, hS⟩ := h
  have hMs : rMd σ = rMd τ := hF.2.2.2.2.2.symm
  obtain ⟨b1, b2, ⟨a, b3, b4⟩, ⟨b, b5, b6⟩, b7, b8, b9, b10, b11, b12, b13, b14, b15⟩ := lrn_ok hnw hc hx hd hE.inM
  have hcM : rL τ c < rMd τ := Nat.lt_of_le_of_lt (rep_le hnw c) hc
  have hdM : rL τ d < rMd τ := Nat.lt_of_le_of_lt (rep_le hnw d) hd
  have hM2 := hB.2.2.2.2.2.1
  have hBl : BR (gLearn τ c x d) := by
    have k1 := BR.half (c := rL τ c) (x := x) (d := rL τ d) hB (by omega) (by omega)
    exact (BR.half (c := rL τ d) (x := x ^^^ 1) (d := rL τ c) k1.1 (by omega) (by have := k1.2.2; omega)).1
  have hx1 := xor1_lt hx
  generalize gLearn τ c x d = u at *
  have hMu : rMd u = rMd τ := b1.2.2.2.2.2
  have hNu : rN u = rN τ := b1.1
  refine ⟨hBl, by rw [b2]; exact hnw, hF.trans b1, fun k y v hk hy q => ?_, by rw [hMu]; exact b12 hPB, fun i hi1 hi2 => ?_, ⟨fun f hf => hK.1 f (fun k hk => ?_), fun f hf => hK.2.1 f (b9 f hf), fun k y v hk hy q => ?_⟩, fun LT ET hAt => ?_⟩
  · rw [hMu] at hk
    show (rNw u k = k ∨ _) ∧ y < 2 * rN u ∧ v < rMd u ∧ ∃ c' e, c' < rMd u ∧ rTb u (c' * 6 + (y ^^^ 1)) = some e ∧ rep (rNw u) c' = rep (rNw u) v ∧ Eqv u e k
    rw [hMu, hNu, b2]
    rcases b8 _ _ q with w | ⟨w1, w2⟩ | ⟨w1, w2⟩
    · obtain ⟨q1, q2, q3, c', e', q4, q5, q6, q7⟩ := hE k y v hk hy w
      exact ⟨q1, q2, q3, c', e', q4, b7 _ _ q5, q6, fun f hf => q7 f (b9 f hf)⟩
    · obtain ⟨rfl, rfl⟩ : k = rL τ c ∧ y = x := by omega
      subst w2
      refine ⟨Or.inl (rep_now hnw c), hxK, hdM, rL τ d, b, hdM, b5, rfl, fun f hf => ?_⟩
      rw [b6 f hf]; exact (rep_resp hnw (b9 f hf).1 c hc).symm
    · obtain ⟨rfl, rfl⟩ : k = rL τ d ∧ y = x ^^^ 1 := by omega
      subst w2
      refine ⟨Or.inl (rep_now hnw d), xor1_lt2 hxK, hcM, rL τ c, a, hcM, by rw [xor1_xor1]; exact b3, rfl, fun f hf => ?_⟩
      rw [b4 f hf]; exact (rep_resp hnw (b9 f hf).1 d hd).symm
  · rw [hMu] at hi1
    cases ee : rTb u i with
    | none => rfl
    | some v =>
      exfalso
      rcases b8 _ _ ee with w | ⟨w1, w2⟩ | ⟨w1, w2⟩
      · rw [hUp i hi1 hi2] at w; cases w
      · omega
      · omega
  · have := hf k (by rw [hMu]; exact hk)
    rw [b2] at this; exact this
  · obtain ⟨c1, e1, k1, k2, k3, k4⟩ := hK.2.2 k y v hk hy q
    refine ⟨c1, e1, k1, b7 _ _ k2, ?_, fun f hf => k4 f (b9 f hf)⟩
    show rep (rNw u) c1 = rep (rNw u) k
    rw [b2]; exact k3
  · obtain ⟨s1, s2⟩ := hS LT ET hAt
    have hW := hA LT ET hAt
    have s5 := hW.1 c (by omega)
    exact b10 LT ET s1 s2 (hs LT ET hAt) (hW.2.2 (LT c) x (LT d) (by omega) hx (hs LT ET hAt)).2.2.2.2
theorem pth_liv {M K : Nat} {L : Nat → Nat} {E : Nat → Option Nat} (hW : WTb M K L E) {g : Nat → Nat} (hg : ∀ j, g j < 6) {c : Nat} (hc : c < M) (hl : L c = c) {i : Nat} : ∀ {p : Nat}, pth E g c i = some p → p < M ∧ L p = p := by
  induction i with
  | zero => intro p q; cases q; exact ⟨hc, hl⟩
  | succ i ih =>
    intro p q
    replace q : (match pth E g c i with | none => none | some p => E (p * 6 + g i)) = some p := q
    cases e1 : pth E g c i with
    | none => rw [e1] at q; cases q
    | some r =>
      rw [e1] at q
      have := hW.2.2 r _ _ (ih e1).1 (hg i) q
      exact ⟨this.2.2.1, this.2.2.2.1⟩
theorem bp_liv {M K : Nat} {L : Nat → Nat} {E : Nat → Option Nat} (hW : WTb M K L E) {g : Nat → Nat} (hg : ∀ j, g j < 6) {len c : Nat} (hc : c < M) (hl : L c = c) {i : Nat} : ∀ {p : Nat}, bp E g len c i = some p → p < M ∧ L p = p := by
  induction i with
  | zero => intro p q; cases q; exact ⟨hc, hl⟩
  | succ i ih =>
    intro p q
    replace q : (match bp E g len c i with | none => none | some q => E (q * 6 + (g (len - 1 - i) ^^^ 1))) = some p := q
    cases e1 : bp E g len c i with
    | none => rw [e1] at q; cases q
    | some r =>
      rw [e1] at q
      have := hW.2.2 r _ _ (ih e1).1 (xor1_lt (hg _)) q
      exact ⟨this.2.2.1, this.2.2.2.1⟩
def mR (τ : RS) : Nat := cntT (fun p => decide (rTb τ p = none)) (rMd τ * 6) + 4000 * lvs (rMd τ) (rNw τ)
theorem cntT_ssub {f g : Nat → Bool} {n i : Nat} (h : ∀ i, i < n → f i = true → g i = true) (hi : i < n) (h1 : g i = true) (h2 : f i = false) : cntT f n < cntT g n := by
  have a := cntT_dn hi h1
  have b : cntT f n ≤ cntT (va_up g i false) n := cntT_sub (fun j hj q => by
    simp only [va_up]
    by_cases z : j = i
    · rw [z, h2] at q; cases q
    · rw [if_neg z]; exact h j hj q)
  omega
/-- what a word says at a coset of a closed table -/
def TWA (A : (Nat → Nat) → (Nat → Option Nat) → Prop) (col : Nat → Nat) (len c : Nat) : Prop := ∀ LT ET, A LT ET → (∀ p, pth ET col (LT c) len = some p → p = LT c) ∧ ∀ i p q, i < len → pth ET col (LT c) i = some p → bp ET col len (LT c) (len - 1 - i) = some q → LT q = q → ET (p * 6 + col i) = some q
theorem RBd.hom {σ τ : RS} {A : (Nat → Nat) → (Nat → Option Nat) → Prop} (h : RBd σ A τ) {LT : Nat → Nat} {ET : Nat → Option Nat} (hAt : A LT ET) : Hom (rMd τ) (rL τ) (rTb τ) LT ET := by
  obtain ⟨s1, s2⟩ := h.1.2.2.2.2.2.2.2 LT ET hAt
  exact ⟨fun c hc => rep_resp h.1.2.1 s1.1 c hc, s2⟩
theorem attOK {σ τ : RS} {A : (Nat → Nat) → (Nat → Option Nat) → Prop} {w0 c0 : Nat} {F : RS → Prop} (hA : ∀ LT ET, A LT ET → WTb (rMd σ) (2 * rN σ) LT ET) (hR : RBd σ A τ) (hcol : ∀ j, j < rSz τ w0 → rLe τ (24 * w0 + j) < 2 * rN τ) (hc : c0 < rMd τ) (hcl : rNw τ c0 = c0) (hT : TWA A (fun i => rLe τ (24 * w0 + i)) (rSz τ w0) c0) (hF1 : pth (rTb τ) (fun i => rLe τ (24 * w0 + i)) c0 (rSz τ w0) = some c0 ∨ StkE (rTb τ) (fun i => rLe τ (24 * w0 + i)) (rSz τ w0) c0 → F τ) (hF2 : ∀ u, RBd σ A u → rCh u = true → mR u < mR τ → F u) : AttOK τ w0 c0 F := by
  have hR0 := hR
  obtain ⟨hJ, h0, hW⟩ := hR
  have hJ0 := hJ
  obtain ⟨hB, hnw, hF, hE, hPB, hUp, hK, hS⟩ := hJ
  have hMs : rMd σ = rMd τ := hF.2.2.2.2.2.symm
  have hg : ∀ j, (fun i => rLe τ (24 * w0 + i)) j < 6 := fun j => hB.2.1 _
  have hM2 := hB.2.2.2.2.2.1
  have hLc : rL τ c0 = c0 := rep_fix hcl
  have hcn : ∀ (f : Nat → Bool), cntT f (rMd τ * 6) ≤ 1200 := fun f => by have := cntT_le f (rMd τ * 6); omega
  generalize hcd : (fun i => rLe τ (24 * w0 + i)) = col at *
  have hci : ∀ i, rLe τ (24 * w0 + i) = col i := fun i => by rw [← hcd]
  unfold AttOK
  rw [hcd]
  refine ⟨fun h => hF1 (Or.inl h), fun p h hne => ⟨by omega, ?_⟩, fun i p q hi h1 h2 h3 => ⟨by omega, ?_⟩, fun i p k hi h1 h2 hk h3 => hF1 (Or.inr ⟨i, p, k, hi, h1, by rw [← hci]; exact h2, hk, h3⟩)⟩
  · obtain ⟨hpM, hpl⟩ := pth_liv hW hg hc hLc h
    have hon : rOn (gPair τ p c0) = va_up (rOn τ) (rPr τ) p := rfl
    have htw : rTw (gPair τ p c0) = va_up (rTw τ) (rPr τ) c0 := rfl
    have hpr : rPr (gPair τ p c0) = rPr τ + 1 := rfl
    have hRs : ∀ f, Resp (gPair τ p c0) f → Resp τ f := fun f hf => ⟨hf.1, fun j hj => by omega⟩
    have hJ2 : JV σ A noH (gPair τ p c0) := by
      refine ⟨hB.pair (by omega) (by omega) (by omega), hnw, hF, fun c y v hk hy q => ?_, fun j hj => ?_, hUp, ⟨hK.1, fun f hf => hK.2.1 f (hRs f hf), fun c y v hk hy q => ?_⟩, fun LT ET hAt => ?_⟩
      · obtain ⟨q1, q2, q3, c', e', q4, q5, q6, q7⟩ := hE c y v hk hy q
        exact ⟨q1, q2, q3, c', e', q4, q5, q6, fun f hf => q7 f (hRs f hf)⟩
      · rw [hon, htw]
        have hj0 : j = rPr τ := by rw [hpr] at hj; omega
        simp only [va_up, if_pos hj0]; exact ⟨hpM, hc⟩
      · obtain ⟨c', e', q4, q5, q6, q7⟩ := hK.2.2 c y v hk hy q
        exact ⟨c', e', q4, q5, q6, fun f hf => q7 f (hRs f hf)⟩
      · obtain ⟨s1, s2⟩ := hS LT ET hAt
        refine ⟨⟨s1.1, fun j hj => ?_⟩, s2⟩
        rw [hon, htw]
        have hj0 : j = rPr τ := by rw [hpr] at hj; omega
        simp only [va_up, if_pos hj0]
        exact (hT LT ET hAt).1 _ (Hom_pth (hR0.hom hAt) hE.inM hg hc h)
    refine joinOK hA hJ2 (by rw [hpr]; omega) (fun u hI hu0 => ?_)
    obtain ⟨i1, i2, i3, i4, i5⟩ := hI
    obtain ⟨n1, n2⟩ := norm_ok i1 hu0
    have hlv : lvs (rMd τ) (rNw u) < lvs (rMd τ) (rNw τ) ∧ rCh u = true := by
      rcases i3 with ⟨w1, w2, w3⟩ | w
      · exfalso
        have hRr : Resp u (rL u) := ⟨fun c _ => rep_nw i1.2.1 c, fun j hj => by omega⟩
        have := (i4 _ hRr).2 (rPr τ) (by rw [hpr]; omega)
        rw [hon, htw] at this
        simp only [va_up, if_true] at this
        have e2 : rNw u = rNw τ := w1
        have this' : rep (rNw u) p = rep (rNw u) c0 := this
        rw [e2] at this'
        exact hne (hpl.symm.trans (this'.trans hLc))
      · exact w
    refine hF2 _ n1 hlv.2 ?_
    have hMu : rMd (gNorm u) = rMd τ := i5
    have a1 := hcn (fun p => decide (rTb (gNorm u) p = none))
    unfold mR
    rw [hMu]
    have e3 : rNw (gNorm u) = rNw u := rfl
    rw [e3]; have := hlv.1; omega
  · have hi' := hci i
    rw [hi'] at h2
    obtain ⟨hpM, hpl⟩ := pth_liv hW hg hc hLc h1
    obtain ⟨hqM, hql⟩ := bp_liv hW hg hc hLc h3
    rw [hi']
    have hx6 : col i < 6 := hg i
    have hxK : col i < 2 * rN τ := by rw [← hi']; exact hcol i hi
    have hs : ∀ LT ET, A LT ET → ET (LT p * 6 + col i) = some (LT q) := by
      intro LT ET hAt
      have hH := hR0.hom hAt
      exact (hT LT ET hAt).2 i _ _ hi (Hom_pth hH hE.inM hg hc h1) (Hom_bp hH hE.inM hg hc h3) ((hA LT ET hAt).2.1 q (by omega))
    have hJ2 := JV_learn hA hJ0 hpM hx6 hxK hqM (by omega) hs
    obtain ⟨b1, b2, ⟨a, b3, b4⟩, ⟨b, b5, b6⟩, b7, b8, b9, b10, b11, b12, b13, b14, b15⟩ := lrn_ok (c := p) (x := col i) (d := q) hnw hpM hx6 hqM hE.inM
    rw [hpl] at b3 b13
    have hch := b13 h2
    have hMl : rMd (gLearn τ p (col i) q) = rMd τ := b1.2.2.2.2.2
    refine joinOK hA hJ2 (by omega) (fun u hI hu0 => ?_)
    obtain ⟨i1, i2, i3, i4, i5⟩ := hI
    obtain ⟨n1, n2⟩ := norm_ok i1 hu0
    have hMu : rMd (gNorm u) = rMd τ := i5.trans hMl
    have e3 : rNw (gNorm u) = rNw u := rfl
    have e4 : rCh (gNorm u) = rCh u := rfl
    rcases i3 with ⟨w1, w2, w3⟩ | ⟨w1, w2⟩
    · refine hF2 _ n1 (by rw [e4, w3, hch]) ?_
      unfold mR
      rw [hMu, e3, w1, b2]
      have : cntT (fun p => decide (rTb (gNorm u) p = none)) (rMd τ * 6) < cntT (fun p => decide (rTb τ p = none)) (rMd τ * 6) := by
        refine cntT_ssub (i := p * 6 + col i) (fun j hj q => ?_) (by omega) (decide_eq_true h2) (decide_eq_false ?_)
        · have q1 := of_decide_eq_true q
          rw [n2, w2] at q1
          refine decide_eq_true ?_
          cases e : rTb τ j with
          | none => rfl
          | some v => rw [b7 _ _ e] at q1; cases q1
        · rw [n2, w2, b3]; exact fun w => by cases w
      omega
    · refine hF2 _ n1 (by rw [e4, w2]) ?_
      unfold mR
      have a1 := hcn (fun p => decide (rTb (gNorm u) p = none))
      rw [hMl, b2] at w1
      rw [hMu, e3]; omega
