/-! the reference: follow and run, whole -/
def fRel (σ : RS) (T : Nat → Option Nat) (nw : Nat → Nat) (k w : Nat) : Prop := ∀ k' w', k' < rMd σ → w' < rRe σ → nw k' = k' → (k' < k ∨ (k' = k ∧ w' < w)) → FoS T (uR (grp σ) w') (uRl (grp σ) w') k'
def fK (σ τ : RS) (k w : Nat) (β : RS) : Prop := RBd σ (fA σ) β ∧ ((rCh β = false ∧ rTb β = rTb τ ∧ rNw β = rNw τ ∧ fRel σ (rTb τ) (rNw τ) k w) ∨ (rCh β = true ∧ mR β < mR τ))
def fS (σ τ : RS) (w : Nat) (β : RS) : Prop := RBd σ (fA σ) β ∧ ((rCh β = false ∧ rTb β = rTb τ ∧ rNw β = rNw τ ∧ fRel σ (rTb τ) (rNw τ) (rMd σ) 0 ∧ ∀ w', w' < w → FoS (rTb τ) (uS (grp σ) w') (uSl (grp σ) w') 0) ∨ (rCh β = true ∧ mR β < mR τ))
def fM (σ τ : RS) : Prop := RBd σ (fA σ) τ ∧ (rCh τ = false → Cl (grp σ) (rMd σ) (rL τ) (rTb τ))
theorem RBd.frm {σ τ : RS} {A : (Nat → Nat) → (Nat → Option Nat) → Prop} (h : RBd σ A τ) : Frm σ τ := h.1.2.2.1
theorem mR_eq {β τ : RS} (h1 : rMd β = rMd τ) (h2 : rTb β = rTb τ) (h3 : rNw β = rNw τ) : mR β = mR τ := by unfold mR; rw [h1, h2, h3]
theorem followOK {σ : RS} {F : RS → Prop} (h : RB σ) (hF : ∀ u, RB u → Frm σ u → LCl (grp σ) (rMd σ) (rL σ) (rTb σ) (rL u) (rTb u) → F u) : FollowOK σ F := by
  have h0 := RBd.start h
  obtain ⟨hB, hnw, hp0, hM1, hW, hUp, hG⟩ := h
  have hA : ∀ LT ET, fA σ LT ET → WTb (rMd σ) (2 * rN σ) LT ET := fun LT ET hAt => hAt.1.1
  refine ⟨fM σ, mR, fK σ, fS σ, ⟨h0, fun w => by cases w⟩, fun τ hm => hm.1.1.1, fun τ hm hc => ⟨hm.1, Or.inl ⟨rfl, rfl, rfl, fun k' w' _ _ _ w => by omega⟩⟩, fun τ k w β hk => ⟨hk.1.1.1, hk.1.1.2.1⟩, fun τ k w β hm hk hkM hw hl => ?_, fun τ k w β hm hk hkM hw hl => ⟨hk.1, ?_⟩, fun τ k w β hm hk hkM hw => ⟨hk.1, ?_⟩, fun τ k β hm hk hkM => ⟨hk.1, ?_⟩, fun τ w β hk => ⟨hk.1.1.1, hk.1.1.2.1⟩, fun τ w β hm hk hw => ?_, fun τ w β hm hc hk hw => ?_, fun u hm hc => ?_⟩
  · obtain ⟨f1, f2, f3, f4, f5, f6⟩ := hk.1.frm
    have fm := hm.1.frm.2.2.2.2.2
    have hT : TWA (fA σ) (uR (grp σ) w) (uRl (grp σ) w) k := TWA_of (fun LT ET hAt => hAt.1) (TW_r hG (by rw [f4] at hw; exact hw) (by have := (hG.2.2.1 w (by rw [f4] at hw; exact hw)).1; omega) (by omega))
    have hwd := hG.2.2.1 w (by rw [f4] at hw; exact hw)
    refine attOK hA hk.1 (fun j hj => ?_) hkM hl (by rw [f2, f3]; exact hT) (fun hfs => ⟨⟨hk.1, ?_⟩, rfl⟩) (fun u hu hch hmu => ⟨⟨hu, Or.inr ⟨hch, ?_⟩⟩, by rw [hu.frm.2.2.2.2.2, f6]⟩)
    · rw [f3] at hj; rw [f1, f2]; exact hwd.2.2.2 j hj
    · rcases hk.2 with ⟨w1, w2, w3, w4⟩ | w
      · refine Or.inl ⟨w1, w2, w3, fun k' w' hk' hw' hl' hlt => ?_⟩
        by_cases z : k' = k ∧ w' = w
        · obtain ⟨rfl, rfl⟩ := z
          rw [w2, f2, f3] at hfs
          exact hfs
        · exact w4 k' w' hk' hw' hl' (by omega)
      · exact Or.inr w
    · rcases hk.2 with ⟨w1, w2, w3, w4⟩ | ⟨w1, w2⟩
      · rw [← mR_eq (f6.trans fm.symm) w2 w3]; exact hmu
      · omega
  · rcases hk.2 with ⟨w1, w2, w3, w4⟩ | w
    · refine Or.inl ⟨w1, w2, w3, fun k' w' hk' hw' hl' hlt => ?_⟩
      by_cases z : k' = k
      · rw [z, ← w3] at hl'; exact absurd hl' hl
      · exact w4 k' w' hk' hw' hl' (by omega)
    · exact Or.inr w
  · have f4 := hk.1.frm.2.2.2.1
    rcases hk.2 with ⟨w1, w2, w3, w4⟩ | w'
    · exact Or.inl ⟨w1, w2, w3, fun k' w' hk' hw' hl' hlt => w4 k' w' hk' hw' hl' (by omega)⟩
    · exact Or.inr w'
  · have f6 := hk.1.frm.2.2.2.2.2
    rcases hk.2 with ⟨w1, w2, w3, w4⟩ | w'
    · exact Or.inl ⟨w1, w2, w3, fun k' w' hk' hw' hl' hlt => w4 k' w' hk' hw' hl' (by omega), fun w' hw' => by omega⟩
    · exact Or.inr w'
  · obtain ⟨f1, f2, f3, f4, f5, f6⟩ := hk.1.frm
    have fm := hm.1.frm.2.2.2.2.2
    have hT : TWA (fA σ) (uS (grp σ) w) (uSl (grp σ) w) 0 := TWA_of (fun LT ET hAt => hAt.1) (TW_s hG (by rw [f5] at hw; exact hw) (by omega))
    have hwd := hG.2.2.2 w (by rw [f5] at hw; exact hw)
    refine attOK hA hk.1 (fun j hj => ?_) (by omega) (by have := hk.1.1.2.1 0; omega) (by rw [f2, f3]; exact hT) (fun hfs => ⟨hk.1, ?_⟩) (fun u hu hch hmu => ⟨hu, Or.inr ⟨hch, ?_⟩⟩)
    · rw [f3] at hj; rw [f1, f2]; exact hwd.2.2.2 j hj
    · rcases hk.2 with ⟨w1, w2, w3, w4, w5⟩ | w'
      · refine Or.inl ⟨w1, w2, w3, w4, fun w' hw' => ?_⟩
        by_cases z : w' = w
        · subst z
          rw [w2, f2, f3] at hfs
          exact hfs
        · exact w5 w' (by omega)
      · exact Or.inr w'
    · rcases hk.2 with ⟨w1, w2, w3, w4⟩ | ⟨w1, w2⟩
      · rw [← mR_eq (f6.trans fm.symm) w2 w3]; exact hmu
      · omega
  · have f5 := hk.1.frm.2.2.2.2.1
    refine ⟨⟨hk.1, fun hc0 => ?_⟩, fun hc1 => ?_⟩
    · rcases hk.2 with ⟨w1, w2, w3, w4, w5⟩ | ⟨w1, w2⟩
      · have hWb := hk.1.2.2
        rw [hk.1.frm.1, hk.1.frm.2.2.2.2.2] at hWb
        refine cl_of hG hWb (by omega) (fun w' k' hw' hk' hl' => ?_) (fun w' hw' => ?_)
        · rw [w2]
          exact w4 k' w' hk' hw' (by rw [← w3]; exact (rep_iff hk.1.1.2.1).mp hl') (Or.inl hk')
        · rw [w2]
          exact w5 w' (Nat.lt_of_lt_of_le hw' (by show rSu σ ≤ w; rw [← f5]; exact hw))
      · rw [w1] at hc0; cases hc0
    · rcases hk.2 with ⟨w1, w2⟩ | ⟨w1, w2⟩
      · rw [w1] at hc1; cases hc1
      · exact w2
  · obtain ⟨a1, a2, a3⟩ := RBd.lcl hG hnw hm.1 (hm.2 hc) hM1
    exact hF u a1 a2 a3
def FG (σ τ : RS) : Prop := rN τ = rN σ ∧ rLe τ = rLe σ ∧ rSz τ = rSz σ ∧ rRe τ = rRe σ ∧ rSu τ = rSu σ
theorem FG.gr {σ τ : RS} (h : FG σ τ) : grp τ = grp σ := by
  obtain ⟨f1, f2, f3, f4, f5⟩ := h
  unfold grp
  rw [f1, f2, f3, f4, f5]
/-- what its run keeps -/
def rP (lim : Nat) (σ τ : RS) : Prop := RB τ ∧ FG σ τ ∧ ∃ n, rMd τ = rMd σ + n ∧ Rch (grp σ) lim (rMd σ) (rL σ) (rTb σ) n (rL τ) (rTb τ)
theorem rP_0 {lim : Nat} {σ : RS} (h : RB σ) : FollowOK σ (rP lim σ) := followOK h (fun u hu hf hL => ⟨hu, ⟨hf.1, hf.2.1, hf.2.2.1, hf.2.2.2.1, hf.2.2.2.2.1⟩, 0, hf.2.2.2.2.2, hL⟩)
theorem rep_congr {nw nw' : Nat → Nat} {M : Nat} (h1 : ∀ i, nw i ≤ i) (h2 : ∀ i, nw' i ≤ i) (h : ∀ i, i < M → nw i = nw' i) (c : Nat) (hc : c < M) : rep nw c = rep nw' c := by
  induction c using Nat.strongRecOn with
  | _ c ih =>
    have e := h c hc
    by_cases z : nw c = c
    · rw [rep_fix z, rep_fix (e ▸ z)]
    · have := h1 c
      rw [rep_step h1 z, rep_step h2 (by rw [← e]; exact z), ← e]
      exact ih _ (by omega) (by omega)
theorem rNew {τ : RS} {c x : Nat} (h : RB τ) (hM : rMd τ < 200) (hc : c < rMd τ) (hx : x < 2 * rN τ) (hl : rNw τ c = c) (hn : rTb τ (c * 6 + x) = none) : LrnPre (gNew τ) ∧ RB (gLearn (gNew τ) c x (rMd τ)) ∧ FG τ (gLearn (gNew τ) c x (rMd τ)) ∧ rMd (gLearn (gNew τ) c x (rMd τ)) = rMd τ + 1 ∧ TEq (rMd τ + 1) (rL (gLearn (gNew τ) c x (rMd τ))) (rTb (gLearn (gNew τ) c x (rMd τ))) (va_up (rL τ) (rMd τ) (rMd τ)) (nxE (rTb τ) (rMd τ) (c * 6 + x)) := by
  obtain ⟨hB, hnw, hp0, hM1, hW, hUp, hG⟩ := h
  have hx6 : x < 6 := by have := hB.1; omega
  have hx1 := xor1_lt hx6
  have hnM : rNw (gNew τ) = va_up (rNw τ) (rMd τ) (rMd τ) := rfl
  have hMM : rMd (gNew τ) = rMd τ + 1 := rfl
  have hnw' : ∀ i, rNw (gNew τ) i ≤ i := by
    intro i
    rw [hnM]; simp only [va_up]; split
    · omega
    · exact hnw i
  have hBn : BR (gNew τ) := by
    obtain ⟨tn, tLe, tSz, tRe, tSu, tMd, tNw, tTb, tPr, r⟩ := hB
    exact ⟨tn, tLe, tSz, tRe, tSu, by show rMd τ + 1 ≤ 200; omega, fun i => up_lt tNw hM, tTb, tPr, r⟩
  have hLp : LrnPre (gNew τ) := ⟨hBn, hnw', by show rPr τ + 2 ≤ 8000; omega⟩
  have hrow : ∀ k y v, k < rMd τ + 1 → y < 6 → rTb τ (k * 6 + y) = some v → k < rMd τ := by
    intro k y v hk hy q
    rcases Nat.lt_or_ge k (rMd τ) with z | z
    · exact z
    · rw [hUp (k * 6 + y) (by omega) (by omega)] at q; cases q
  have hE : InM (rMd (gNew τ)) (rTb (gNew τ)) := fun k y v hk hy q => by
    have := (hW.2.2 k y v (hrow k y v hk hy q) hy q).2.2.1
    rw [hMM]; omega
  have hL : ∀ k, k < rMd τ → rL (gNew τ) k = rL τ k := fun k hk => rep_congr hnw' hnw (M := rMd τ) (fun i hi => by rw [hnM]; simp only [va_up, if_neg (show ¬ i = rMd τ by omega)]) k hk
  have hLM : rL (gNew τ) (rMd τ) = rMd τ := rep_fix (by rw [hnM]; simp [va_up])
  have hLc : rL (gNew τ) c = c := by rw [hL c hc]; exact rep_fix hl
  obtain ⟨b1, b2, ⟨a, b3, b4⟩, ⟨b, b5, b6⟩, b7, b8, b9, b10, b11, b12, b13, b14, b15⟩ := lrn_ok (ρ := gNew τ) (c := c) (x := x) (d := rMd τ) hnw' (by rw [hMM]; omega) hx6 (by rw [hMM]; omega) hE
  have hBl : BR (gLearn (gNew τ) c x (rMd τ)) := by
    have k1 := BR.half (c := rL (gNew τ) c) (x := x) (d := rL (gNew τ) (rMd τ)) hBn (by omega) (show rPr τ < 8000 by omega)
    exact (BR.half (c := rL (gNew τ) (rMd τ)) (x := x ^^^ 1) (d := rL (gNew τ) c) k1.1 (by omega) (by have := k1.2.2; have e0 : rPr (gNew τ) = rPr τ := rfl; omega)).1
  rw [hLc] at b3 b8 b13 b14
  rw [hLM] at b5 b8 b14
  have hTn : rTb (gNew τ) = rTb τ := rfl
  rw [hTn] at b7 b8 b13 b14
  have hnone : rTb τ (rMd τ * 6 + (x ^^^ 1)) = none := hUp _ (by omega) (by omega)
  have hP := b14 hn hnone
  generalize gLearn (gNew τ) c x (rMd τ) = u at *
  have hMu : rMd u = rMd τ + 1 := b1.2.2.2.2.2
  have hNu : rN u = rN τ := b1.1
  have ha : a = rMd τ := by
    rcases b8 _ _ b3 with w | ⟨-, w⟩ | ⟨w, -⟩
    · rw [hn] at w; cases w
    · exact w
    · omega
  have hb : b = c := by
    rcases b8 _ _ b5 with w | ⟨w, -⟩ | ⟨-, w⟩
    · rw [hnone] at w; cases w
    · omega
    · exact w
  subst ha
  have b3' : rTb u (c * 6 + x) = some (rMd τ) := b3
  subst hb
  have hLu : rL u = rL (gNew τ) := by show rep (rNw u) = _; rw [b2]
  have hWu : WTb (rMd u) (2 * rN u) (rL u) (rTb u) := by
    rw [hMu, hNu, hLu]
    refine ⟨fun k _ => rep_le hnw' k, fun k _ => rep_rep hnw' k, fun k y v hk hy q => ?_⟩
    rcases b8 _ _ q with w | ⟨w1, w2⟩ | ⟨w1, w2⟩
    · have hk' := hrow k y v hk hy w
      obtain ⟨q1, q2, q3, q4, q5⟩ := hW.2.2 k y v hk' hy w
      exact ⟨by rw [hL k hk']; exact q1, q2, by omega, by rw [hL v q3]; exact q4, b7 _ _ q5⟩
    · obtain ⟨rfl, rfl⟩ : k = b ∧ y = x := by omega
      subst w2
      exact ⟨hLc, hx, by omega, hLM, b5⟩
    · obtain ⟨rfl, rfl⟩ : k = rMd τ ∧ y = x ^^^ 1 := by omega
      subst w2
      exact ⟨hLM, xor1_lt2 hx, by omega, hLc, by rw [xor1_xor1]; exact b3'⟩
  have hFG : FG τ u := ⟨b1.1, b1.2.1, b1.2.2.1, b1.2.2.2.1, b1.2.2.2.2.1⟩
  refine ⟨hLp, ⟨hBl, by rw [b2]; exact hnw', by rw [hP]; exact hp0, by omega, hWu, fun i hi1 hi2 => ?_, by rw [hFG.gr]; exact hG⟩, hFG, hMu, fun k hk => ?_, fun i hi => ?_⟩
  · rw [hMu] at hi1
    cases ee : rTb u i with
    | none => rfl
    | some v =>
      exfalso
      rcases b8 _ _ ee with w | ⟨w1, w2⟩ | ⟨w1, w2⟩
      · rw [hUp i (by omega) hi2] at w; cases w
      · omega
      · omega
  · rw [hLu]
    simp only [va_up]
    split
    · rename_i z; rw [z]; exact hLM
    · exact hL k (by omega)
  · unfold nxE
    rw [show (b * 6 + x) % 6 = x by omega, show (b * 6 + x) / 6 = b by omega]
    split
    · rename_i z; rw [z]; exact b3'
    · split
      · rename_i z; rw [z]; exact b5
      · rename_i z1 z2
        split
        · cases ee : rTb u i with
          | none => rfl
          | some v =>
            exfalso
            rcases b8 _ _ ee with w | ⟨w1, w2⟩ | ⟨w1, w2⟩
            · rw [hUp i (by omega) (by omega)] at w; cases w
            · exact z1 w1
            · exact z2 w1
        · cases e1 : rTb τ i with
          | some v => exact b7 _ _ e1
          | none =>
            cases ee : rTb u i with
            | none => rfl
            | some v =>
              exfalso
              rcases b8 _ _ ee with w | ⟨w1, w2⟩ | ⟨w1, w2⟩
              · rw [e1] at w; cases w
              · exact z1 w1
              · exact z2 w1
theorem OP_R {τ : RS} (h : ∀ i, rNw τ i ≤ i) {p : Nat} : OP (2 * rN τ) (rL τ) (rTb τ) p ↔ p % 6 < 2 * rN τ ∧ opnR τ (p / 6) (p % 6) = true := by
  unfold OP opnR
  rw [show 6 * (p / 6) + p % 6 = p by omega, rep_iff h]
  simp
theorem rP_S {lim : Nat} {σ τ : RS} {i : Nat} (hlim : lim ≤ 200) (h : rP lim σ τ) (ho : OpenR τ (some i)) (h1 : rMd τ < lim) : i < 1200 ∧ LrnPre (gNew τ) ∧ FollowOK (gLearn (gNew τ) (i / 6) (i % 6) (rMd τ)) (fun u => rP lim σ u ∧ rMd u = rMd τ + 1) := by
  obtain ⟨hR, hFG, n, e, hRch⟩ := h
  obtain ⟨c, x, hi, hc, hx, o1, o2, o3⟩ := ho
  have hx6 : x < 6 := by have := hR.1.1; omega
  have hd : i / 6 = c := by omega
  have hm : i % 6 = x := by omega
  have oo : rNw τ c = c ∧ rTb τ (6 * c + x) = none := by unfold opnR at o1; simpa using o1
  obtain ⟨g1, g2, g3, g4, g5⟩ := rNew hR (by omega) hc hx oo.1 (by rw [← oo.2]; congr 1; omega)
  refine ⟨by omega, g1, ?_⟩
  rw [hd, hm]
  refine followOK g2 (fun u hu hf hL => ?_)
  have hMu : rMd u = rMd τ + 1 := hf.2.2.2.2.2.trans g4
  have hFu : FG σ u := ⟨(hf.1.trans g3.1).trans hFG.1, (hf.2.1.trans g3.2.1).trans hFG.2.1, (hf.2.2.1.trans g3.2.2.1).trans hFG.2.2.1, (hf.2.2.2.1.trans g3.2.2.2.1).trans hFG.2.2.2.1, (hf.2.2.2.2.1.trans g3.2.2.2.2).trans hFG.2.2.2.2⟩
  rw [g3.gr, hFG.gr, g4] at hL
  refine ⟨⟨hu, hFu, n + 1, by omega, by omega, rL τ, rTb τ, i, hRch, ?_, ?_⟩, hMu⟩
  · rw [← e]
    have hK : uK (grp σ) = 2 * rN τ := by rw [← hFG.gr]; rfl
    rw [hK]
    refine ⟨by omega, (OP_R hR.2.1).mpr ⟨by omega, by rw [hd, hm]; exact o1⟩, fun q hq w => ?_⟩
    obtain ⟨w1, w2⟩ := (OP_R hR.2.1).mp w
    by_cases z : q / 6 < c
    · rw [o2 _ _ z w1] at w2; cases w2
    · have hq6 : q / 6 = c := by omega
      rw [hq6, o3 (q % 6) (by omega)] at w2; cases w2
  · rw [← e, show i = c * 6 + x by omega]
    exact LCl_congr g5 hL
theorem rP_stop {lim : Nat} {σ τ : RS} {o : Option Nat} (h : rP lim σ τ) (ho : OpenR τ o) (hs : o = none ∨ lim ≤ rMd τ) : Stop (uK (grp σ)) lim (rMd τ) (rL τ) (rTb τ) := by
  rcases hs with rfl | hs
  · right
    intro p hp w
    have hK : uK (grp σ) = 2 * rN τ := by rw [← h.2.1.gr]; rfl
    rw [hK] at w
    obtain ⟨w1, w2⟩ := (OP_R h.1.2.1).mp w
    rw [ho (p / 6) (p % 6) (by omega) w1] at w2; cases w2
  · exact Or.inl hs
