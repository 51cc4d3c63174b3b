/-! the invariant under run, and what the questions need -/
section QST
variable {n : Nat} {hcol : Nat → Nat} {hlen : Nat} {rcol : Nat → Nat → Nat} {rlen : Nat → Nat} {nr : Nat} {scol : Nat → Nat → Nat} {slen : Nat → Nat} {ns : Nat} {σ : CS} {α : AS} {ρ : RS}
/-- the numbering of a table -/
def sN (n : Nat) (σ : CS) : NT := numF (cut (sM σ) (sE σ)) (2 * n)
def Nfin (n : Nat) (τ : CS) (β : AS) : Prop := BA β ∧ AgC (sN n τ) β
theorem cP_cm {G : GP} {lim : Nat} {τ : CS} (hG : GW G) (h : cP G lim σ τ) (hO : sM τ * 6 ≤ sO τ) : Cm (sM τ) (uK G) (sL τ) (sE τ) := by
  refine Cm_of hG.1 ?_
  rcases c_stop h (Or.inl hO) with w | w
  · intro p hp w2
    have hI := h.1.1
    have := h.1.2.2.2.2.2 p (by omega)
    rw [(opn_iff hp).mpr (by rw [hI.2.2.1]; exact w2)] at this; cases this
  · exact w
theorem run_giv {lim : Nat} (h : LI n hcol hlen rcol rlen nr scol slen ns σ α ρ) : ∀ τ, cP (gC n rcol rlen nr scol slen ns) lim σ τ → sM τ * 6 ≤ sO τ → GivOK τ α (Nfin n τ) := by
  intro τ hc hO
  have hG := h.1.gw
  have hC := cP_cm hG hc hO
  exact givOK (K := 2 * n) hc.1.1 (cP_cl hc).1 hC h.2.2.2.2.2.2.1 (fun u h1 h2 => ⟨h1, h2⟩)
theorem LI_run {lim : Nat} {σ' : CS} {α' : AS} {u : RS} {o : Option Nat} (h : LI n hcol hlen rcol rlen nr scol slen ns σ α ρ) (hc : cP (gC n rcol rlen nr scol slen ns) lim σ σ') (hp : (sM σ' * 6 ≤ sO σ' ∧ Nfin n σ' α') ∨ (sO σ' < sM σ' * 6 ∧ opn σ' (sO σ') = true ∧ lim ≤ sM σ' ∧ α' = α)) (hr : rP lim ρ u) (ho : OpenR u o) (hs : o = none ∨ lim ≤ rMd u) : sM σ' = rMd u ∧ LI n hcol hlen rcol rlen nr scol slen ns σ' α' u := by
  obtain ⟨hw, t1, t2, t3, t4, t5, t6, t7⟩ := id h
  have hG := hw.gw
  have hq := hw.eq
  have hK : uK (gC n rcol rlen nr scol slen ns) = 2 * n := rfl
  have hst : Stop (uK (gC n rcol rlen nr scol slen ns)) lim (sM σ') (sL σ') (sE σ') := by
    refine c_stop hc ?_
    rcases hp with ⟨w, -⟩ | ⟨-, -, w, -⟩
    · exact Or.inl w
    · exact Or.inr w
  obtain ⟨e1, e2⟩ := run_eq hq t3 t4 hc hr hst (rP_stop hr ho hs)
  have hf := hr.2.1
  have hle : ∀ c, c < sM σ → sL σ c ≤ c := t1.1.2.2.2.2.1.1
  obtain ⟨hci, m, em, hR⟩ := hc
  have hcn : CN (sM σ') (sL σ') (sE σ') := by rw [em]; exact CN_rch hle t5 hR
  refine ⟨e1, ?_, hci, hr.1, e1, e2, hcn, ?_, ?_⟩
  · obtain ⟨f1, f2, f3, f4, f5⟩ := hf
    unfold LW
    rw [f1, f2, f3, f4, f5]; exact hw
  · rcases hp with ⟨-, w⟩ | ⟨-, -, -, w⟩
    · exact w.1
    · rw [w]; exact t6
  · rcases hp with ⟨w1, w2⟩ | ⟨w1, w2, w3, w4⟩
    · exact Or.inr ⟨cP_cm hG ⟨hci, m, em, hR⟩ w1, w2.2⟩
    · have hno : ¬ Cm (sM σ') (2 * n) (sL σ') (sE σ') := fun w => by
        have := (opn_iff w1).mp w2
        rw [hci.1.2.2.1] at this
        exact Cm_no w w1 this
      refine Or.inl ⟨?_, hno⟩
      rcases t7 with ⟨w, -⟩ | ⟨w, -⟩
      · rw [w4]; exact w
      · exfalso
        apply hno
        have := Cm_rch (G := gC n rcol rlen nr scol slen ns) hG.1 hle w hR
        rw [em]; exact this
/-! questions -/
theorem q_M (h : LI n hcol hlen rcol rlen nr scol slen ns σ α ρ) : sM σ = rMd ρ := h.2.2.2.1
theorem q_V (h : LI n hcol hlen rcol rlen nr scol slen ns σ α ρ) : sV σ = cntT (fun k => decide (rNw ρ k = k)) (rMd ρ) := by
  obtain ⟨hw, t1, t2, t3, t4, t5, t6, t7⟩ := h
  rw [t1.1.2.2.2.2.2.2.2, ← t3]
  exact cnt1 t2.2.1 rfl t4
theorem q_O (h : LI n hcol hlen rcol rlen nr scol slen ns σ α ρ) : cntO σ (sM σ * 6) = unC ρ (rMd ρ) := by
  obtain ⟨hw, t1, t2, t3, t4, t5, t6, t7⟩ := h
  rw [cnt2 t2 (by rw [t1.1.2.2.1, hw.2.2.1]; rfl) t3 t4 _ (Nat.le_refl _), t3]
theorem q_cm (h : LI n hcol hlen rcol rlen nr scol slen ns σ α ρ) : cmpl ρ ↔ Cm (sM σ) (2 * n) (sL σ) (sE σ) := by
  obtain ⟨hw, t1, t2, t3, t4, t5, t6, t7⟩ := h
  have hK : 2 * n ≤ 6 := by have := hw.2.1; omega
  rw [cmpl_iff t2, hw.2.2.1, ← t3]
  exact ⟨fun w => Cm_eq hK t4.symm w, fun w => Cm_eq hK t4 w⟩
theorem q_NV (h : LI n hcol hlen rcol rlen nr scol slen ns σ α ρ) (hC : cmpl ρ) : NV (sM σ) (sL σ) (cut (sM σ) (sE σ)) (2 * n) 200 0 (sN n σ) ∧ AgC (sN n σ) α ∧ WTb (sM σ) (2 * n) (sL σ) (cut (sM σ) (sE σ)) ∧ Cm (sM σ) (2 * n) (sL σ) (cut (sM σ) (sE σ)) ∧ 2 * n ≤ 6 ∧ sM σ ≤ 200 := by
  have hC' := (q_cm h).mp hC
  obtain ⟨hw, t1, t2, t3, t4, t5, t6, t7⟩ := h
  have hK : 2 * n ≤ 6 := by have := hw.2.1; omega
  have hM := t1.1.2.1
  have hW : WTb (sM σ) (2 * n) (sL σ) (sE σ) := by
    have := t2.2.2.2.2.1
    refine ⟨t1.1.2.2.2.2.1.1, t1.1.2.2.2.2.1.2, fun c x d hc hx q => ?_⟩
    obtain ⟨q1, q2, q3⟩ := NRM.two t1.2.1 t1.1 hc hx q
    obtain ⟨w1, w2, w3⟩ := t1.1.2.2.2.2.2.1 c x d hc hx q
    exact ⟨q1, w1, q2, q3, w3⟩
  have hWc := cut_wt hW
  have hCc := cut_cm hK hC'
  refine ⟨nal_ok hK hM hWc hCc 200, ?_, hWc, hCc, hK, t1.1.1.1⟩
  rcases t7 with ⟨-, w⟩ | ⟨-, w⟩
  · exact absurd hC' w
  · exact w
theorem q_z (h : LI n hcol hlen rcol rlen nr scol slen ns σ α ρ) : 0 < tZ α ↔ cmpl ρ := by
  constructor
  · intro hz
    rcases h.2.2.2.2.2.2.2 with ⟨w, -⟩ | ⟨w, -⟩
    · omega
    · exact (q_cm h).mpr w
  · intro hC
    obtain ⟨v1, v2, -⟩ := q_NV h hC
    rw [v2.1]
    exact v1.2.2.2.2.2.2.2
theorem q_z0 (h : LI n hcol hlen rcol rlen nr scol slen ns σ α ρ) (hC : ¬ cmpl ρ) : tZ α = 0 := by
  rcases Nat.eq_zero_or_pos (tZ α) with w | w
  · exact w
  · exact absurd ((q_z h).mp w) hC
theorem q_ix (h : LI n hcol hlen rcol rlen nr scol slen ns σ α ρ) (hC : cmpl ρ) : tZ α = cntT (fun k => decide (rNw ρ k = k)) (rMd ρ) := by
  obtain ⟨v1, v2, v3, v4, v5, v6⟩ := q_NV h hC
  rw [v2.1]
  obtain ⟨hw, t1, t2, t3, t4, t5, t6, t7⟩ := h
  have hcn : CN (sM σ) (sL σ) (cut (sM σ) (sE σ)) := fun P h0 hP => t5 P h0 (fun c x d hc hx q w => hP c x d hc hx (by rw [cut_at hc hx]; exact q) w)
  rw [num_cnt v6 v3 hcn v1, ← t3]
  exact cnt1 t2.2.1 rfl t4
theorem q_liv (h : LI n hcol hlen rcol rlen nr scol slen ns σ α ρ) (v : Int32) : livI σ v = livRI ρ v := livI_eq h.2.2.1.2.1 h.2.2.2.1 h.2.2.2.2.1 v
theorem q_ent (h : LI n hcol hlen rcol rlen nr scol slen ns σ α ρ) {k x : Nat} (hk : k < sM σ) (hx : x < 6) : sE σ (k * 6 + x) = rTb ρ (k * 6 + x) := h.2.2.2.2.1.2 _ (by omega)
/-- the reference, numbered -/
def lF (ρ : RS) (s : NT) (u : RS) : Prop := ∃ nu na nd, u = gNm ρ nu na nd ∧ BR (gNm ρ nu na nd) ∧ AgR s nu na nd
theorem lF_B {s : NT} : ∀ τ, lF ρ s τ → BR τ := fun τ ⟨nu, na, nd, e, h1, h2⟩ => e ▸ h1
theorem lF_z {s : NT} {τ : RS} (h : lF ρ s τ) : rNd τ = qZ s := by
  obtain ⟨nu, na, nd, rfl, h1, h2⟩ := h
  exact h2.1
theorem q_num (h : LI n hcol hlen rcol rlen nr scol slen ns σ α ρ) (hC : cmpl ρ) : NumOK ρ (lF ρ (sN n σ)) := by
  obtain ⟨hw, t1, t2, t3, t4, t5, t6, t7⟩ := h
  refine numOK t2 ((cmpl_iff t2).mp hC) (fun nu na nd hB hA => ⟨nu, na, nd, rfl, hB, ?_⟩)
  rw [← t3, ← cut_eq t4, hw.2.2.1] at hA; exact hA
theorem LI_nm {nu : Nat → Option Nat} {na : Nat → Nat} {nd : Nat} (h : LI n hcol hlen rcol rlen nr scol slen ns σ α ρ) (hB : BR (gNm ρ nu na nd)) : LI n hcol hlen rcol rlen nr scol slen ns σ α (gNm ρ nu na nd) := LI_ref h hB ⟨rfl, rfl, rfl, rfl, rfl⟩ ⟨rfl, rfl, rfl, rfl, rfl⟩
theorem LI_lF {s : NT} {u : RS} (h : LI n hcol hlen rcol rlen nr scol slen ns σ α ρ) (hF : lF ρ s u) : LI n hcol hlen rcol rlen nr scol slen ns σ α u := by
  obtain ⟨nu, na, nd, rfl, h1, h2⟩ := hF
  exact LI_nm h h1
theorem LI_gSe {se : Nat → Bool} (h : LI n hcol hlen rcol rlen nr scol slen ns σ α ρ) : LI n hcol hlen rcol rlen nr scol slen ns σ α (gSe ρ se) := LI_ref h (by obtain ⟨tn, tLe, tSz, tRe, tSu, tMd, tNw, tTb, tPr, tOn, tTw, tNu, tNa, tNd, tLo⟩ := h.fr.2.2.2.2.1; exact ⟨tn, tLe, tSz, tRe, tSu, tMd, tNw, tTb, tPr, tOn, tTw, tNu, tNa, tNd, tLo⟩) ⟨rfl, rfl, rfl, rfl, rfl⟩ ⟨rfl, rfl, rfl, rfl, rfl⟩
theorem LI_gLo {lo : Nat → Nat} (h : LI n hcol hlen rcol rlen nr scol slen ns σ α ρ) (hl : ∀ i, lo i < 200) : LI n hcol hlen rcol rlen nr scol slen ns σ α (gLo ρ lo) := LI_ref h (by obtain ⟨tn, tLe, tSz, tRe, tSu, tMd, tNw, tTb, tPr, tOn, tTw, tNu, tNa, tNd, tLo⟩ := h.fr.2.2.2.2.1; exact ⟨tn, tLe, tSz, tRe, tSu, tMd, tNw, tTb, tPr, tOn, tTw, tNu, tNa, tNd, hl⟩) ⟨rfl, rfl, rfl, rfl, rfl⟩ ⟨rfl, rfl, rfl, rfl, rfl⟩
/-- where the words lead -/
def fIm (n : Nat) (σ : CS) (col : Nat → Nat) (len : Nat) : Nat → Nat := imN (cut (sM σ) (sE σ)) (sN n σ) col len
theorem q_imC {col : Nat → Nat} {len off sz : Nat} {le : Nat → Nat} (h : LI n hcol hlen rcol rlen nr scol slen ns σ α ρ) (hC : cmpl ρ) (hw : WC n col len le off sz) : ImF (sE σ) (tU α) (tN α) (tZ α) col len (fIm n σ col len) := by
  obtain ⟨v1, v2, v3, v4, v5, v6⟩ := q_NV h hC
  intro c hc
  rw [v2.1] at hc ⊢
  have hcol : ∀ j, j < len → col j < 2 * n := fun j hj => (hw.2.2 j hj).2
  exact ⟨(im_ok v5 v6 v4 v1 hcol hc).1, Img_of v5 v6 v4 v1 hcol hc cut_le (fun j _ => rfl) v2.2.1 (v2.2.2 c hc)⟩
theorem q_imR {col : Nat → Nat} {len w0 : Nat} (h : LI n hcol hlen rcol rlen nr scol slen ns σ α ρ) (hC : cmpl ρ) (hw : WC n col len (rLe ρ) (24 * w0) (rSz ρ w0)) : ∀ τ, lF ρ (sN n σ) τ → ImFR τ w0 (fIm n σ col len) := by
  obtain ⟨v1, v2, v3, v4, v5, v6⟩ := q_NV h hC
  intro τ ⟨nu, na, nd, e, h1, h2⟩ c hc
  subst e
  have hc' : c < nd := hc
  rw [h2.1] at hc'
  have hcol : ∀ j, j < len → col j < 2 * n := fun j hj => (hw.2.2 j hj).2
  refine ⟨by show _ < nd; rw [h2.1]; exact (im_ok v5 v6 v4 v1 hcol hc').1, ?_⟩
  have hE : ∀ i d, cut (sM σ) (sE σ) i = some d → rTb ρ i = some d := by
    intro i d q
    rw [cut_eq h.2.2.2.2.1] at q
    exact cut_le i d q
  have := Img_of (E' := rTb ρ) (nu := nu) (na := na) (col' := fun i => rLe ρ (24 * w0 + i)) v5 v6 v4 v1 hcol hc' hE (fun j hj => (hw.2.2 j hj).1.symm) h2.2.1 (h2.2.2 c hc')
  show Img (rTb ρ) nu na (fun i => rLe ρ (24 * w0 + i)) (rSz ρ w0) c _
  rw [← hw.1]; exact this
theorem q_low {k low : Nat} {lo : Nat → Nat} (h : LI n hcol hlen rcol rlen nr scol slen ns σ α ρ) (hC : cmpl ρ) (hk : k < tZ α) (hL : LowR (fun i => fIm n σ (scol i) (slen i)) (tZ α) ns k low) (hO : OI (fun i => fIm n σ (scol i) (slen i)) (qZ (sN n σ)) ns lo) (hl : ∀ j v, j < qZ (sN n σ) → v < ns → lo (fIm n σ (scol v) (slen v) j) = lo j) : low = lo k := by
  obtain ⟨v1, v2, v3, v4, v5, v6⟩ := q_NV h hC
  rw [v2.1] at hL hk
  obtain ⟨h1, h2, h3, h4, h5, h6, h7, h8, h9, h10, h11, h12, h13⟩ := h.1
  have hcol : ∀ i, i < ns → ∀ j, j < slen i → scol i j < 2 * n := fun i hi j hj => ((h13 i hi).2.2.2 j hj).2
  exact low_eq hk (fun i c hi hc => (im_ok v5 v6 v4 v1 (hcol i hi) hc).1) (fun i c c' hi hc hc' e => im_inj v5 v6 v3 v4 v1 (h12 i) (hcol i hi) hc hc' e) hL hO hl
theorem q_cyc (h : LI n hcol hlen rcol rlen nr scol slen ns σ α ρ) (hC : cmpl ρ) {τ : RS} (hF : lF ρ (sN n σ) τ) (fx : Bool) : (ccI (fIm n σ hcol hlen) (tZ α) fx (frgI (tS α) (tZ α)) (tZ α)).2 = (ccI (fIm n σ hcol hlen) (rNd τ) fx (frgI (rSe τ) (rNd τ)) (rNd τ)).2 := by
  obtain ⟨v1, v2, v3, v4, v5, v6⟩ := q_NV h hC
  rw [lF_z hF, v2.1]
  obtain ⟨h1, h2, h3, h4, h5, -⟩ := h.1
  refine (ccI_cg (fun i hi => (im_ok v5 v6 v4 v1 (fun j hj => (h5.2.2 j hj).2) hi).1) (fun i hi => ?_) _ (Nat.le_refl _)).1
  rw [frgI_f hi, frgI_f hi]
theorem q_ord (h : LI n hcol hlen rcol rlen nr scol slen ns σ α ρ) (hC : cmpl ρ) {τ : RS} (hF : lF ρ (sN n σ) τ) : (ooI (fIm n σ hcol hlen) (tZ α) (frgI (tS α) (tZ α)) (tZ α)).2 = (ooI (fIm n σ hcol hlen) (rNd τ) (frgI (rSe τ) (rNd τ)) (rNd τ)).2 := by
  obtain ⟨v1, v2, v3, v4, v5, v6⟩ := q_NV h hC
  rw [lF_z hF, v2.1]
  obtain ⟨h1, h2, h3, h4, h5, -⟩ := h.1
  refine (ooI_cg (fun i hi => (im_ok v5 v6 v4 v1 (fun j hj => (h5.2.2 j hj).2) hi).1) (fun i hi => ?_) _ (Nat.le_refl _)).1
  rw [frgI_f hi, frgI_f hi]
/-- entry: one letter on -/
theorem q_entry (h : LI n hcol hlen rcol rlen nr scol slen ns σ α ρ) (hC : cmpl ρ) {k x : Nat} (hk : k < tZ α) (hx : x < 2 * n) : ∃ d1 d2, sE σ (tN α k * 6 + x) = some d1 ∧ d1 < 200 ∧ tU α d1 = some d2 ∧ ∀ τ, lF ρ (sN n σ) τ → ∃ d1, rTb τ (rNa τ k * 6 + x) = some d1 ∧ rNu τ d1 = some d2 := by
  obtain ⟨v1, v2, v3, v4, v5, v6⟩ := q_NV h hC
  rw [v2.1] at hk
  obtain ⟨c1, c2⟩ := v1.2.2.1 k hk
  obtain ⟨d, hd⟩ := v4 _ x c1 c2 hx
  have w := v3.2.2 _ x d c1 (by omega) hd
  have hz := v1.zM
  have hn := v1.2.2.2.2.1 k x d (by omega) hk hx hd
  cases hu : qU (sN n σ) d with
  | none => exact absurd hu hn
  | some v =>
    have hE : ∀ i d, cut (sM σ) (sE σ) i = some d → rTb ρ i = some d := by
      intro i d q
      rw [cut_eq h.2.2.2.2.1] at q
      exact cut_le i d q
    refine ⟨d, v, by rw [v2.2.2 k hk]; exact cut_le _ _ hd, by omega, by rw [v2.2.1 d (by omega)]; exact hu, fun τ ⟨nu, na, nd, e, h1, h2⟩ => ?_⟩
    subst e
    refine ⟨d, ?_, ?_⟩
    · show rTb ρ (na k * 6 + x) = some d
      rw [h2.2.2 k hk]; exact hE _ _ hd
    · show nu d = some v
      rw [h2.2.1 d (by omega)]; exact hu
theorem q_numb (h : LI n hcol hlen rcol rlen nr scol slen ns σ α ρ) (hC : cmpl ρ) {k : Nat} (hk : k < 200) {τ : RS} (hF : lF ρ (sN n σ) τ) : tU α k = rNu τ k := by
  obtain ⟨v1, v2, v3, v4, v5, v6⟩ := q_NV h hC
  obtain ⟨nu, na, nd, rfl, h1, h2⟩ := hF
  rw [v2.2.1 k hk]
  exact (h2.2.1 k hk).symm
theorem q_in (h : LI n hcol hlen rcol rlen nr scol slen ns σ α ρ) (hC : cmpl ρ) {τ : RS} (hF : lF ρ (sN n σ) τ) : rNd τ = tZ α := by
  obtain ⟨v1, v2, -⟩ := q_NV h hC
  rw [lF_z hF, v2.1]
end QST
