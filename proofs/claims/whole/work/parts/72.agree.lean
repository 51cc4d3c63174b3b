/-! all cosets hang together -/
def CN (M : Nat) (L : Nat → Nat) (E : Nat → Option Nat) : Prop := ∀ P : Nat → Prop, P 0 → (∀ c x d, c < M → x < 6 → E (c * 6 + x) = some d → P c → P d) → ∀ c, c < M → L c = c → P c
theorem old_liv {M : Nat} {L0 L : Nat → Nat} {E0 E : Nat → Option Nat} (hle : ∀ c, c < M → L0 c ≤ c) (hl : ∀ c, c < M → L c ≤ c) (hH : Hom M L0 E0 L E) {c : Nat} (hc : c < M) (h : L c = c) : L0 c = c := by
  have a1 := hH.1 c hc
  have a2 := hle c hc
  have a3 := hl (L0 c) (by omega)
  omega
theorem CN_lcl {G : GP} {M : Nat} {L0 L : Nat → Nat} {E0 E : Nat → Option Nat} (hle : ∀ c, c < M → L0 c ≤ c) (h : CN M L0 E0) (hL : LCl G M L0 E0 L E) : CN M L E := by
  intro P h0 hP c hc hl
  have hL0 := hL.1.2.1
  have := h (fun c => P (L c)) (by show P (L 0); rw [hL0]; exact h0) (fun c x d hc hx q w => by
    have a1 := hL.1.1.1 c hc
    exact hP (L c) x (L d) (by omega) hx (hL.2.1.2 c x d hc hx q) w) c hc (old_liv hle hL.1.1.1 hL.2.1 hc hl)
  have this' : P (L c) := this
  rw [hl] at this'; exact this'
theorem CN_nx {M K p : Nat} {L : Nat → Nat} {E : Nat → Option Nat} (h : CN M L E) (hf : FO M K L E p) : CN (M + 1) (va_up L M M) (nxE E M p) := by
  intro P h0 hP c hc hl
  obtain ⟨f1, ⟨f2, f3, f4⟩, f5⟩ := hf
  have hold : ∀ c, c < M → L c = c → P c := h P h0 (fun c x d hc hx q w => hP c x d (by omega) hx (by
    unfold nxE
    rw [if_neg (fun z => by rw [z, f4] at q; cases q), if_neg (by omega), if_neg (by omega)]; exact q) w)
  by_cases z : c = M
  · have hp := hold (p / 6) (by omega) f3
    rw [z]
    exact hP (p / 6) (p % 6) M (by omega) (by omega) (by rw [show p / 6 * 6 + p % 6 = p by omega]; unfold nxE; rw [if_pos rfl]) hp
  · simp only [va_up, if_neg z] at hl
    exact hold c (by omega) hl
theorem CN_rch {G : GP} {lim M0 n : Nat} {L0 L : Nat → Nat} {E0 E : Nat → Option Nat} (hle : ∀ c, c < M0 → L0 c ≤ c) (h : CN M0 L0 E0) (hR : Rch G lim M0 L0 E0 n L E) : CN (M0 + n) L E := by
  induction n generalizing L E with
  | zero => exact CN_lcl hle h hR
  | succ n ih =>
    obtain ⟨-, L1, E1, p, a1, a2, a3⟩ := hR
    have hW := (Rch_cl a1).1.1
    refine CN_lcl (M := M0 + n + 1) (fun c hc => ?_) (CN_nx (ih a1) a2) a3
    simp only [va_up]; split
    · omega
    · exact hW c (by omega)
theorem Cm_lcl {G : GP} {M K : Nat} {L0 L : Nat → Nat} {E0 E : Nat → Option Nat} (hK : K ≤ 6) (hle : ∀ c, c < M → L0 c ≤ c) (h : Cm M K L0 E0) (hL : LCl G M L0 E0 L E) : Cm M K L E := by
  intro c x hc hl hx
  obtain ⟨d, hd⟩ := h c x hc (old_liv hle hL.1.1.1 hL.2.1 hc hl) hx
  have := hL.2.1.2 c x d hc (by omega) hd
  rw [hl] at this
  exact ⟨_, this⟩
theorem Cm_no {M K : Nat} {L : Nat → Nat} {E : Nat → Option Nat} (h : Cm M K L E) {p : Nat} (hp : p < M * 6) : ¬ OP K L E p := by
  intro ⟨o1, o2, o3⟩
  obtain ⟨d, hd⟩ := h (p / 6) (p % 6) (by omega) o2 o1
  rw [show p / 6 * 6 + p % 6 = p by omega, o3] at hd; cases hd
theorem Cm_rch {G : GP} {lim M0 n : Nat} {L0 L : Nat → Nat} {E0 E : Nat → Option Nat} (hK : uK G ≤ 6) (hle : ∀ c, c < M0 → L0 c ≤ c) (h : Cm M0 (uK G) L0 E0) (hR : Rch G lim M0 L0 E0 n L E) : Cm (M0 + n) (uK G) L E := by
  cases n with
  | zero => exact Cm_lcl hK hle h hR
  | succ n =>
    obtain ⟨L1, E1, p, a1, a2, a3⟩ := Rch_down hR (m := 0) (by omega)
    exact absurd a2.2.1 (Cm_no (Cm_lcl hK hle h a1) a2.1)
theorem Cm_of {M K : Nat} {L : Nat → Nat} {E : Nat → Option Nat} (hK : K ≤ 6) (h : ∀ p, p < M * 6 → ¬ OP K L E p) : Cm M K L E := by
  intro c x hc hl hx
  cases e : E (c * 6 + x) with
  | some d => exact ⟨d, rfl⟩
  | none => exact absurd ⟨by rw [show (c * 6 + x) % 6 = x by omega]; exact hx, by rw [show (c * 6 + x) / 6 = c by omega]; exact hl, e⟩ (h (c * 6 + x) (by omega))
theorem Cm_eq {M K : Nat} {L L' : Nat → Nat} {E E' : Nat → Option Nat} (hK : K ≤ 6) (h : TEq M L E L' E') (hC : Cm M K L E) : Cm M K L' E' := by
  intro c x hc hl hx
  obtain ⟨d, hd⟩ := hC c x hc (by rw [h.1 c hc]; exact hl) hx
  exact ⟨d, by rw [← h.2 _ (by omega)]; exact hd⟩
theorem cmpl_iff {ρ : RS} (hR : RB ρ) : cmpl ρ ↔ Cm (rMd ρ) (2 * rN ρ) (rL ρ) (rTb ρ) := by
  have hK : 2 * rN ρ ≤ 6 := by have := hR.1.1; omega
  constructor
  · intro h
    refine Cm_of hK (fun p hp w => ?_)
    obtain ⟨w1, w2⟩ := (OP_R hR.2.1).mp w
    rw [h (p / 6) (p % 6) (by omega) w1] at w2; cases w2
  · intro h c x hc hx
    cases e : opnR ρ c x with
    | false => rfl
    | true =>
      exfalso
      refine Cm_no h (p := c * 6 + x) (by omega) ((OP_R hR.2.1).mpr ?_)
      rw [show (c * 6 + x) % 6 = x by omega, show (c * 6 + x) / 6 = c by omega]
      exact ⟨hx, e⟩
/-! counts -/
theorem cnt2 {σ : CS} {ρ : RS} (hR : RB ρ) (hK : sC σ = 2 * rN ρ) (hM : sM σ = rMd ρ) (hT : TEq (sM σ) (sL σ) (sE σ) (rL ρ) (rTb ρ)) (c : Nat) : c ≤ sM σ → cntO σ (c * 6) = unC ρ c := by
  have hK6 : 2 * rN ρ ≤ 6 := by have := hR.1.1; omega
  induction c with
  | zero => intro _; rfl
  | succ c ih =>
    intro hc
    have key : ∀ x, x ≤ 6 → cntO σ (c * 6 + x) = unC ρ c + unX ρ c (if x < 2 * rN ρ then x else 2 * rN ρ) := by
      intro x
      induction x with
      | zero =>
        intro _
        rw [show (if 0 < 2 * rN ρ then 0 else 2 * rN ρ) = 0 by split <;> omega]
        exact ih (by omega)
      | succ x ihx =>
        intro hx
        show cntO σ (c * 6 + x) + (if opn σ (c * 6 + x) = true then 1 else 0) = _
        rw [ihx (by omega)]
        have ho := (opn_iff (σ := σ) (p := c * 6 + x) (by omega)).trans (OP_congr (K := sC σ) hT (p := c * 6 + x) (by omega))
        rw [hK] at ho
        have ho' := ho.trans (OP_R hR.2.1)
        rw [show (c * 6 + x) % 6 = x by omega, show (c * 6 + x) / 6 = c by omega] at ho'
        by_cases w : x < 2 * rN ρ
        · rw [if_pos w]
          have e : (if x + 1 < 2 * rN ρ then x + 1 else 2 * rN ρ) = x + 1 := by split <;> omega
          rw [e]
          show _ = unC ρ c + (unX ρ c x + (if opnR ρ c x = true then 1 else 0))
          by_cases w2 : opnR ρ c x = true
          · rw [if_pos w2, if_pos (ho'.mpr ⟨w, w2⟩)]; omega
          · rw [if_neg w2, if_neg (fun q => w2 (ho'.mp q).2)]; omega
        · rw [if_neg w, if_neg (fun q => w (ho'.mp q).1), if_neg (show ¬ x + 1 < 2 * rN ρ by omega)]; omega
    have := key 6 (Nat.le_refl _)
    rw [show (c + 1) * 6 = c * 6 + 6 by omega, this, if_neg (by omega)]; rfl
theorem cnt1 {M : Nat} {L L' : Nat → Nat} {E E' : Nat → Option Nat} {nw : Nat → Nat} (hnw : ∀ i, nw i ≤ i) (hL' : L' = rep nw) (hT : TEq M L E L' E') : lvs M L = cntT (fun k => decide (nw k = k)) M := by
  unfold lvs
  refine cntT_congr (fun c hc => ?_)
  rw [hT.1 c hc, hL']
  exact decide_eq_decide.mpr (rep_iff hnw)
theorem liv_eq {σ : CS} {ρ : RS} (hnw : ∀ i, rNw ρ i ≤ i) (hM : sM σ = rMd ρ) (hT : TEq (sM σ) (sL σ) (sE σ) (rL ρ) (rTb ρ)) (c : Nat) : liv σ c = livR ρ c := by
  unfold liv livR
  rw [← hM]
  by_cases w : c < sM σ
  · rw [hT.1 c w]
    have : decide (rL ρ c = c) = decide (rNw ρ c = c) := decide_eq_decide.mpr (rep_iff hnw)
    rw [this]
  · rw [decide_eq_false w]; rfl
theorem livI_eq {σ : CS} {ρ : RS} (hnw : ∀ i, rNw ρ i ≤ i) (hM : sM σ = rMd ρ) (hT : TEq (sM σ) (sL σ) (sE σ) (rL ρ) (rTb ρ)) (v : Int32) : livI σ v = livRI ρ v := by
  unfold livI livRI
  split
  · rfl
  · exact liv_eq hnw hM hT _
theorem num_all {M K : Nat} {L : Nat → Nat} {E : Nat → Option Nat} {s : NT} (hM : M ≤ 200) (hW : WTb M K L E) (hcn : CN M L E) (hN : NV M L E K 200 0 s) : ∀ c, c < M → L c = c → qU s c ≠ none := by
  obtain ⟨a1, a2, b, cc, d1, d2, e1, e2⟩ := hN
  have hz : qZ s ≤ M := by rw [← cc]; exact cntT_le _ _
  refine hcn (fun c => qU s c ≠ none) ?_ (fun c x d hc hx q w => ?_)
  · have := a2 0 (by omega)
    rw [e1] at this
    show qU s 0 ≠ none
    rw [this]; exact fun w => by cases w
  · show qU s d ≠ none
    cases hu : qU s c with
    | none => exact absurd hu w
    | some j =>
      obtain ⟨j1, j2⟩ := a1 c j hu
      exact d1 j x d (by omega) j1 (hW.2.2 c x d hc hx q).2.1 (by rw [j2]; exact q)
theorem num_cnt {M K : Nat} {L : Nat → Nat} {E : Nat → Option Nat} {s : NT} (hM : M ≤ 200) (hW : WTb M K L E) (hcn : CN M L E) (hN : NV M L E K 200 0 s) : qZ s = lvs M L := by
  rw [← hN.2.2.2.1]
  unfold lvs
  refine cntT_congr (fun c hc => ?_)
  cases hu : qU s c with
  | none =>
    have : ¬ L c = c := fun w => num_all hM hW hcn hN c hc w hu
    rw [decide_eq_false this]; rfl
  | some j =>
    obtain ⟨j1, j2⟩ := hN.1 c j hu
    have := (hN.2.2.1 j j1).2
    rw [j2] at this
    rw [decide_eq_true this]; rfl
/-! one group, two writings -/
def GEq (G G' : GP) : Prop := uK G = uK G' ∧ uRn G = uRn G' ∧ uSn G = uSn G' ∧ (∀ i, i < uRn G → uRl G i = uRl G' i ∧ ∀ j, j < uRl G i → uR G i j = uR G' i j) ∧ ∀ i, i < uSn G → uSl G i = uSl G' i ∧ ∀ j, j < uSl G i → uS G i j = uS G' i j
theorem GEq.symm {G G' : GP} (h : GEq G G') : GEq G' G := ⟨h.1.symm, h.2.1.symm, h.2.2.1.symm, fun i hi => by
  obtain ⟨a, b⟩ := h.2.2.2.1 i (by rw [h.2.1]; exact hi)
  exact ⟨a.symm, fun j hj => (b j (by rw [a]; exact hj)).symm⟩, fun i hi => by
  obtain ⟨a, b⟩ := h.2.2.2.2 i (by rw [h.2.2.1]; exact hi)
  exact ⟨a.symm, fun j hj => (b j (by rw [a]; exact hj)).symm⟩⟩
theorem RC_cg {M : Nat} {L : Nat → Nat} {E : Nat → Option Nat} {col col' : Nat → Nat} {len : Nat} (h : ∀ j, j < len → col j = col' j) (hR : RC M L E col len) : RC M L E col' len := by
  intro i q p hi hq hl hp
  rw [← h i hi]
  refine hR i q p hi hq hl ?_
  rw [← hp]
  exact pth_congr (n := len - 1) (fun j hj => h _ (Nat.mod_lt _ (by omega))) _ (Nat.le_refl _)
theorem SC_cg {M : Nat} {E : Nat → Option Nat} {col col' : Nat → Nat} {len : Nat} (h : ∀ j, j < len → col j = col' j) (hR : SC M E col len) : SC M E col' len := by
  intro i q p hi hq h1 h2
  rw [← h i hi]
  refine hR i q p hi hq ?_ ?_
  · rw [← h1]; exact pth_congr (n := i) (fun j hj => h _ (by omega)) _ (Nat.le_refl _)
  · rw [← h2]; exact pth_congr (n := len - 1 - i) (fun j hj => h _ (by omega)) _ (Nat.le_refl _)
theorem Cl_cg {G G' : GP} {M : Nat} {L : Nat → Nat} {E : Nat → Option Nat} (h : GEq G G') (hC : Cl G M L E) : Cl G' M L E := by
  obtain ⟨g1, g2, g3, g4, g5⟩ := h
  obtain ⟨c1, c2, c3, c4⟩ := hC
  refine ⟨by rw [← g1]; exact c1, c2, fun i hi => ?_, fun i hi => ?_⟩
  · rw [← g2] at hi
    obtain ⟨a, b⟩ := g4 i hi
    rw [← a]; exact RC_cg b (c3 i hi)
  · rw [← g3] at hi
    obtain ⟨a, b⟩ := g5 i hi
    rw [← a]; exact SC_cg b (c4 i hi)
theorem LCl_cg {G G' : GP} {M : Nat} {L0 L : Nat → Nat} {E0 E : Nat → Option Nat} (h : GEq G G') (hC : LCl G M L0 E0 L E) : LCl G' M L0 E0 L E := ⟨Cl_cg h hC.1, hC.2.1, fun LT ET a b => hC.2.2 LT ET (Cl_cg h.symm a) b⟩
theorem Rch_cg {G G' : GP} {lim M0 n : Nat} {L0 L : Nat → Nat} {E0 E : Nat → Option Nat} (h : GEq G G') (hR : Rch G lim M0 L0 E0 n L E) : Rch G' lim M0 L0 E0 n L E := by
  induction n generalizing L E with
  | zero => exact LCl_cg h hR
  | succ n ih =>
    obtain ⟨a0, L1, E1, p, a1, a2, a3⟩ := hR
    exact ⟨a0, L1, E1, p, ih a1, by rw [← h.1]; exact a2, LCl_cg h a3⟩
/-- both runs come to the same table -/
theorem run_eq {G : GP} {lim : Nat} {σ σ' : CS} {ρ u : RS} (hG : GEq G (grp ρ)) (hM : sM σ = rMd ρ) (hT : TEq (sM σ) (sL σ) (sE σ) (rL ρ) (rTb ρ)) (hc : cP G lim σ σ') (hr : rP lim ρ u) (hs : Stop (uK G) lim (sM σ') (sL σ') (sE σ')) (hs' : Stop (uK (grp ρ)) lim (rMd u) (rL u) (rTb u)) : sM σ' = rMd u ∧ TEq (sM σ') (sL σ') (sE σ') (rL u) (rTb u) := by
  obtain ⟨-, n, e1, h1⟩ := hc
  obtain ⟨-, -, m, e2, h2⟩ := hr
  rw [← hM] at h2 e2
  have h1' := Rch_cg hG h1
  rw [e1, hG.1] at hs
  rw [e2] at hs'
  have := Rch_stop hT h1' h2 hs hs'
  subst this
  have := Rch_eq hT n h1' h2
  rw [e1, e2]
  exact ⟨rfl, this⟩
theorem c_stop {G : GP} {lim : Nat} {σ σ' : CS} (hc : cP G lim σ σ') (h : sM σ' * 6 ≤ sO σ' ∨ lim ≤ sM σ') : Stop (uK G) lim (sM σ') (sL σ') (sE σ') := by
  rcases h with h | h
  · right
    intro p hp w
    have hI := hc.1.1
    have := hc.1.2.2.2.2.2 p (by omega)
    rw [(opn_iff hp).mpr (by rw [hI.2.2.1]; exact w)] at this; cases this
  · exact Or.inl h
