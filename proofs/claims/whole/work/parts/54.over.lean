/-! nothing known is forgotten: known up to the names that are one -/
def Kn (σ : CS) (c x d : Nat) : Prop := ∃ c' d', c' < sM σ ∧ sE σ (c' * 6 + x) = some d' ∧ sL σ c' = sL σ c ∧ sL σ d' = sL σ d
def Mon (σ τ : CS) : Prop := sM τ = sM σ ∧ (∀ c d, c < sM σ → d < sM σ → sL σ c = sL σ d → sL τ c = sL τ d) ∧ ∀ c x d, c < sM σ → d < sM σ → x < 6 → Kn σ c x d → Kn τ c x d
theorem Mon.refl (σ : CS) : Mon σ σ := ⟨rfl, fun _ _ _ _ h => h, fun _ _ _ _ _ _ h => h⟩
theorem Mon.trans {σ τ ρ : CS} (h1 : Mon σ τ) (h2 : Mon τ ρ) : Mon σ ρ := ⟨h2.1.trans h1.1, fun c d hc hd h => h2.2.1 c d (by rw [h1.1]; exact hc) (by rw [h1.1]; exact hd) (h1.2.1 c d hc hd h), fun c x d hc hd hx h => h2.2.2 c x d (by rw [h1.1]; exact hc) (by rw [h1.1]; exact hd) hx (h1.2.2 c x d hc hd hx h)⟩
theorem Mon.of {σ τ : CS} (hM : sM τ = sM σ) (hL : ∀ c d, c < sM σ → d < sM σ → sL σ c = sL σ d → sL τ c = sL τ d) (hI : InM (sM σ) (sE σ)) (hE : ∀ c x d, c < sM σ → x < 6 → sE σ (c * 6 + x) = some d → Kn τ c x d) : Mon σ τ := by
  refine ⟨hM, hL, fun c x d hc hd hx h => ?_⟩
  obtain ⟨c', d', a1, a2, a3, a4⟩ := h
  obtain ⟨c2, d2, b1, b2, b3, b4⟩ := hE c' x d' a1 hx a2
  exact ⟨c2, d2, b1, b2, b3.trans (hL c' c a1 hc a3), b4.trans (hL d' d (hI c' x d' a1 hx a2) hd a4)⟩
theorem Ent.inM {K M : Nat} {E : Nat → Option Nat} (h : Ent K M E) : InM M E := fun c x d hc hx q => (h c x d hc hx q).2.1
theorem IV.inM {K : Nat} {σ : CS} (h : IV K σ) : InM (sM σ) (sE σ) := h.2.2.2.2.2.1.inM
theorem fall_mon {K : Nat} {σ : CS} {a b : Nat} (h : IV K σ) (ha : a < sM σ) (hb : b < sM σ) (hf : sFc σ < 200) : Mon σ (fFall σ a b) ∧ sL (fFall σ a b) a = sL (fFall σ a b) b := by
  obtain ⟨g1, g2, g3, g4, g5⟩ := h.fall ha hb hf
  obtain ⟨lo, hi, e1, e2, e3⟩ := fall_L h ha hb
  have hL : ∀ c d, c < sM σ → d < sM σ → sL σ c = sL σ d → sL (fFall σ a b) c = sL (fFall σ a b) d := fun c d hc hd q => by rw [e1 c hc, e1 d hd, mrg, mrg, q]
  refine ⟨Mon.of g2 hL h.inM (fun c x d hc hx q => ⟨c, d, by rw [g2]; exact hc, by rw [g4]; exact q, rfl, rfl⟩), ?_⟩
  rw [e1 a ha, e1 b hb]
  unfold mrg
  rcases e2 with ⟨r1, r2⟩ | ⟨r1, r2⟩ <;> rw [r1, r2] <;> split <;> split <;> omega
/-- a hand-over step: what it keeps -/
def Okk (K : Nat) (σ τ : CS) : Prop := IV K τ ∧ Mon σ τ ∧ sFc τ + sV τ = sFc σ + sV σ ∧ sFc σ ≤ sFc τ ∧ (∀ LT ET, WTb (sM σ) K LT ET → HomT σ LT ET → HomT τ LT ET)
theorem Okk.trans {K : Nat} {σ τ ρ : CS} (h1 : Okk K σ τ) (h2 : Okk K τ ρ) : Okk K σ ρ := ⟨h2.1, h1.2.1.trans h2.2.1, h2.2.2.1.trans h1.2.2.1, Nat.le_trans h1.2.2.2.1 h2.2.2.2.1, fun LT ET hW hH => h2.2.2.2.2 LT ET (by rw [h1.2.1.1]; exact hW) (h1.2.2.2.2 LT ET hW hH)⟩
theorem fall_le {σ : CS} (a b : Nat) : sFc σ ≤ sFc (fFall σ a b) := by
  unfold fFall; split
  · exact Nat.le_refl _
  · split <;> exact Nat.le_add_right _ _
/-- the entry k x = d, cleared and said anew -/
theorem ho_mon {K : Nat} {τ ρ u : CS} {k x d : Nat} (h : IV K τ) (hk : k < sM τ) (hx : x < 6) (he : sE τ (k * 6 + x) = some d) (hρ : ρ = fClr τ k x d) (hu : IV K u) (hm : Mon ρ u) (hw : Kn u k x d) : Mon τ u := by
  have hM : sM ρ = sM τ := by rw [hρ]; rfl
  have hL : sL ρ = sL τ := by rw [hρ]; rfl
  obtain ⟨k1, k2, k3⟩ := h.2.2.2.2.2.1 k x d hk hx he
  have hx1 := xor1_lt hx
  have hMu : sM u = sM τ := hm.1.trans hM
  refine Mon.of hMu (fun c e hc hd q => hm.2.1 c e (by rw [hM]; exact hc) (by rw [hM]; exact hd) (by rw [hL]; exact q)) h.inM (fun c y e hc hy q => ?_)
  by_cases z2 : c * 6 + y = k * 6 + x
  · obtain ⟨rfl, rfl⟩ : c = k ∧ y = x := by omega
    rw [he] at q; cases q
    exact hw
  · by_cases z1 : c * 6 + y = d * 6 + (x ^^^ 1)
    · obtain ⟨rfl, rfl⟩ : c = d ∧ y = x ^^^ 1 := by omega
      rw [k3] at q; cases q
      obtain ⟨c', d', a1, a2, a3, a4⟩ := hw
      obtain ⟨i1, i2, i3⟩ := hu.2.2.2.2.2.1 c' x d' a1 hx a2
      exact ⟨d', c', i2, i3, a4, a3⟩
    · refine hm.2.2 c y e (by rw [hM]; exact hc) (by rw [hM]; exact h.inM c y e hc hy q) hy ⟨c, e, by rw [hM]; exact hc, ?_, rfl, rfl⟩
      rw [hρ]
      show va_up (va_up (sE τ) (k * 6 + x) none) (d * 6 + (x ^^^ 1)) none (c * 6 + y) = some e
      simp only [va_up, if_neg z1, if_neg z2]; exact q
theorem Okk_hoStep {K : Nat} {τ : CS} {k x : Nat} (h : IV K τ) (hk : k < sM τ) (hx : x < 6) (hf : sFc τ < 200) : Okk K τ (hoStep τ k x) := by
  cases he : sE τ (k * 6 + x) with
  | none => rw [ho_none he]; exact ⟨h, Mon.refl τ, rfl, Nat.le_refl _, fun _ _ _ q => q⟩
  | some d =>
    obtain ⟨k1, k2, k3⟩ := h.2.2.2.2.2.1 k x d hk hx he
    have hx1 := xor1_lt hx
    have hX := h.2.2.2.1
    obtain ⟨ρ, hρ⟩ : ∃ q, q = fClr τ k x d := ⟨_, rfl⟩
    have hI : IV K ρ := by rw [hρ]; exact h.clr hk hx he
    have hM : sM ρ = sM τ := by rw [hρ]; rfl
    have hL : sL ρ = sL τ := by rw [hρ]; rfl
    have hFc : sFc ρ = sFc τ := by rw [hρ]; rfl
    have hVc : sV ρ = sV τ := by rw [hρ]; rfl
    have hld := hI.2.2.2.2.1
    have hkM : k < sM ρ := by omega
    have hdM : d < sM ρ := by omega
    have hfr := hld.1 k hkM
    have hto := hld.1 d hdM
    have cl : ∀ LT ET, HomT τ LT ET → HomT ρ LT ET := fun LT ET q => by rw [hρ]; exact Hom.clr q
    -- what T says of the entry
    have tT : ∀ LT ET, WTb (sM τ) K LT ET → HomT τ LT ET → ET (LT (sL ρ k) * 6 + x) = some (LT (sL ρ d)) ∧ ET (LT (sL ρ d) * 6 + (x ^^^ 1)) = some (LT (sL ρ k)) := by
      intro LT ET hW hH
      have e1 := hH.2 k x d hk hx he
      have e2 := hH.2 d (x ^^^ 1) k k2 hx1 k3
      rw [hL, hH.1 k hk, hH.1 d k2]; exact ⟨e1, e2⟩
    cases ha : sE ρ (sL ρ k * 6 + x) with
    | some f =>
      rw [ho_a he hρ ha]
      have hfM : f < sM ρ := hI.inM _ _ _ (by omega) hx ha
      obtain ⟨g1, g2, g3, g4, g5⟩ := hI.fall hfM (show sL ρ d < sM ρ by omega) (by omega)
      obtain ⟨m1, m2⟩ := fall_mon hI hfM (show sL ρ d < sM ρ by omega) (by omega)
      refine ⟨g1, ho_mon h hk hx he hρ g1 m1 ⟨sL ρ k, f, by rw [g2]; omega, by rw [g4]; exact ha, m1.2.1 _ _ (by omega) hkM (hld.2 k hkM), m2.trans (m1.2.1 _ _ (by omega) hdM (hld.2 d hdM))⟩, by omega, by have := fall_le (σ := ρ) f (sL ρ d); omega, fun LT ET hW hH => Hom.fall hI (cl LT ET hH) hfM (by omega) (by omega) ?_⟩
      obtain ⟨t1, t2⟩ := tT LT ET hW hH
      have := (cl LT ET hH).2 _ _ _ (by omega) hx ha
      rw [t1] at this
      exact (Option.some.inj this).symm
    | none =>
      cases hb : sE ρ (sL ρ d * 6 + (x ^^^ 1)) with
      | some f =>
        rw [ho_b he hρ ha hb]
        have hfM : f < sM ρ := hI.inM _ _ _ (by omega) hx1 hb
        obtain ⟨g1, g2, g3, g4, g5⟩ := hI.fall hfM (show sL ρ k < sM ρ by omega) (by omega)
        obtain ⟨m1, m2⟩ := fall_mon hI hfM (show sL ρ k < sM ρ by omega) (by omega)
        obtain ⟨i1, i2, i3⟩ := hI.2.2.2.2.2.1 _ _ _ (show sL ρ d < sM ρ by omega) hx1 hb
        rw [xor1_xor1] at i3
        refine ⟨g1, ho_mon h hk hx he hρ g1 m1 ⟨f, sL ρ d, by rw [g2]; exact hfM, by rw [g4]; exact i3, m2.trans (m1.2.1 _ _ (by omega) hkM (hld.2 k hkM)), m1.2.1 _ _ (by omega) hdM (hld.2 d hdM)⟩, by omega, by have := fall_le (σ := ρ) f (sL ρ k); omega, fun LT ET hW hH => Hom.fall hI (cl LT ET hH) hfM (by omega) (by omega) ?_⟩
        obtain ⟨t1, t2⟩ := tT LT ET hW hH
        have := (cl LT ET hH).2 _ _ _ (by omega) hx1 hb
        rw [t2] at this
        exact (Option.some.inj this).symm
      | none =>
        rw [ho_c he hρ ha hb]
        have g1 := hI.join (show sL ρ k < sM ρ by omega) k1 (show sL ρ d < sM ρ by omega) ha hb
        obtain ⟨j1, j2, j3, j4, j5, j6, j7, j8⟩ := fJoin_L ρ (sL ρ k) x (sL ρ d)
        have hent : ∀ c y e, c < sM ρ → y < 6 → sE ρ (c * 6 + y) = some e → Kn (fJoin ρ (sL ρ k) x (sL ρ d)) c y e := by
          intro c y e hc hy q
          refine ⟨c, e, by rw [j2]; exact hc, ?_, rfl, rfl⟩
          rw [j6]
          have z1 : ¬ c * 6 + y = sL ρ d * 6 + (x ^^^ 1) := fun z => by rw [z, hb] at q; cases q
          have z2 : ¬ c * 6 + y = sL ρ k * 6 + x := fun z => by rw [z, ha] at q; cases q
          simp only [va_up, if_neg z1, if_neg z2]; exact q
        have m1 : Mon ρ (fJoin ρ (sL ρ k) x (sL ρ d)) := Mon.of j2 (fun c e _ _ q => by rw [j1]; exact q) hI.inM hent
        obtain ⟨i1, i2, i3⟩ := g1.2.2.2.2.2.1 (sL ρ d) (x ^^^ 1) (sL ρ k) (by rw [j2]; omega) hx1 (by rw [j6]; simp [va_up])
        rw [xor1_xor1] at i3
        refine ⟨g1, ho_mon h hk hx he hρ g1 m1 ⟨sL ρ k, sL ρ d, by rw [j2]; omega, i3, by rw [j1]; exact hld.2 k hkM, by rw [j1]; exact hld.2 d hdM⟩, by omega, by omega, fun LT ET hW hH => ?_⟩
        obtain ⟨t1, t2⟩ := tT LT ET hW hH
        exact Hom.join (K := K) (cl LT ET hH) hx t1 t2
theorem Okk_hoI {K : Nat} {τ : CS} {k : Nat} (h : IV K τ) (hk : k < sM τ) (hv : sFc τ + sV τ ≤ 200) (h0 : sL τ 0 = 0) : ∀ n, n ≤ 6 → Okk K τ (hoI τ k n) ∧ 1 ≤ sV (hoI τ k n) := by
  have pos : ∀ u, Okk K τ u → 1 ≤ sV u := by
    intro u hu
    have hM := hu.2.1.1
    have hV := hu.1.2.2.2.2.2.2.2
    have h1 := hu.1.2.1
    have hz := hu.1.2.2.2.2.1.1 0 (by omega)
    rw [hV]
    unfold lvs
    rcases Nat.eq_zero_or_pos (cntT (fun c => decide (sL u c = c)) (sM u)) with q | q
    · exfalso
      have : cntT (va_up (fun c => decide (sL u c = c)) 0 false) (sM u) + 1 = cntT (fun c => decide (sL u c = c)) (sM u) := cntT_dn (by omega) (by simp; omega)
      omega
    · exact q
  intro n
  induction n with
  | zero => intro _; have : Okk K τ (hoI τ k 0) := ⟨h, Mon.refl τ, rfl, Nat.le_refl _, fun _ _ _ q => q⟩
            exact ⟨this, pos _ this⟩
  | succ n ih =>
    intro hn
    obtain ⟨a1, a2⟩ := ih (by omega)
    have hs := a1.2.2.1
    have := Okk_hoStep a1.1 (show k < sM (hoI τ k n) by rw [a1.2.1.1]; exact hk) (show n < 6 by omega) (by omega)
    have z : Okk K τ (hoI τ k (n + 1)) := a1.trans this
    exact ⟨z, pos _ z⟩
