/-! the invariant under each call -/
def SRt (ρ u : RS) : Prop := rMd u = rMd ρ ∧ rNw u = rNw ρ ∧ rTb u = rTb ρ ∧ rPr u = rPr ρ ∧ rN u = rN ρ
theorem RB_ref {ρ u : RS} (h : RB ρ) (hB : BR u) (hs : SRt ρ u) (hG : GW (grp u)) : RB u := by
  obtain ⟨-, h2, h3, h4, h5, h6, -⟩ := h
  obtain ⟨s1, s2, s3, s4, s5⟩ := hs
  refine ⟨hB, by rw [s2]; exact h2, by rw [s4]; exact h3, by rw [s1]; exact h4, ?_, by rw [s1, s3]; exact h6, hG⟩
  show WTb (rMd u) (2 * rN u) (rep (rNw u)) (rTb u)
  rw [s1, s2, s3, s5]; exact h5
theorem LT0_ref {n : Nat} {G : GP} {σ : CS} {α : AS} {ρ u : RS} (h : LT0 n G σ α ρ) (hB : BR u) (hs : SRt ρ u) (hG : GW (grp u)) : LT0 n G σ α u := by
  obtain ⟨h1, h2, h3, h4, h5⟩ := h
  refine ⟨h1, RB_ref h2 hB hs hG, by rw [hs.1]; exact h3, ?_, h5⟩
  show TEq (sM σ) (sL σ) (sE σ) (rep (rNw u)) (rTb u)
  rw [hs.2.1, hs.2.2.1]; exact h4
section OPS
variable {n : Nat} {hcol : Nat → Nat} {hlen : Nat} {rcol : Nat → Nat → Nat} {rlen : Nat → Nat} {nr : Nat} {scol : Nat → Nat → Nat} {slen : Nat → Nat} {ns : Nat} {σ : CS} {α : AS} {ρ : RS}
theorem LI_ref {u : RS} (h : LI n hcol hlen rcol rlen nr scol slen ns σ α ρ) (hB : BR u) (hs : SRt ρ u) (hf : FG ρ u) : LI n hcol hlen rcol rlen nr scol slen ns σ α u := by
  obtain ⟨hw, ht⟩ := h
  have hg := LW.gr (ht.2.1.1.2.1) hw
  refine ⟨?_, LT0_ref ht hB hs (by rw [hf.gr]; exact hg)⟩
  obtain ⟨f1, f2, f3, f4, f5⟩ := hf
  unfold LW
  rw [f1, f2, f3, f4, f5]; exact hw
theorem LI_al {α' : AS} (h : LI n hcol hlen rcol rlen nr scol slen ns σ α ρ) (hB : BA α') (h1 : tU α' = tU α) (h2 : tN α' = tN α) (h3 : tZ α' = tZ α) : LI n hcol hlen rcol rlen nr scol slen ns σ α' ρ := by
  obtain ⟨hw, t1, t2, t3, t4, t5, t6, t7⟩ := h
  refine ⟨hw, t1, t2, t3, t4, t5, hB, ?_⟩
  unfold AgC
  rw [h1, h2, h3]; exact t7
theorem LI.fr (h : LI n hcol hlen rcol rlen nr scol slen ns σ α ρ) : BD σ ∧ sRc σ = 0 ∧ (∀ p, p < 1200 → sS σ p = false) ∧ BA α ∧ BR ρ ∧ (∀ i, rNw ρ i ≤ i) ∧ rPr ρ = 0 := by
  obtain ⟨hw, t1, t2, t3, t4, t5, t6, t7⟩ := h
  exact ⟨t1.1.1, t1.2.2.1, FR_0 t1.1.2.2.2.2.2.2.1 t1.2.2.1, t6, t2.1, t2.2.1, t2.2.2.1⟩
theorem LI_fresh {n' : Nat} {hcol' : Nat → Nat} {hlen' : Nat} {rcol' : Nat → Nat → Nat} {rlen' : Nat → Nat} {nr' : Nat} {scol' : Nat → Nat → Nat} {slen' : Nat → Nat} {ns' : Nat} {u : RS} (h : LI n hcol hlen rcol rlen nr scol slen ns σ α ρ) (hB : BR u) (hnw : ∀ i, rNw u i ≤ i) (h0 : rPr u = 0) (hw : LW n' hcol' hlen' rcol' rlen' nr' scol' slen' ns' (gFresh u)) : LI n' hcol' hlen' rcol' rlen' nr' scol' slen' ns' (fMake (fSt0 σ (2 * n'))) (tU α, tN α, tS α, tR α, 0) (gFresh u) := by
  obtain ⟨k1, k2, k3, k4, -⟩ := h.fr
  exact ⟨hw, fresh_lt hw.1 hw.gw rfl k1 k2 k3 k4 (fresh_r hB hnw h0 (LW.gr (BR_fr hB).2.1 hw))⟩
theorem LI_begin {k : Nat} (h : LI n hcol hlen rcol rlen nr scol slen ns σ α ρ) (hk1 : 1 ≤ k) (hk3 : k ≤ 3) : LI k hcol 0 rcol rlen 0 scol slen 0 (fMake (fSt0 σ (2 * k))) (tU α, tN α, tS α, tR α, 0) (gFresh (gBeg0 ρ k)) := by
  obtain ⟨k1, k2, k3, k4, k5, k6, k7⟩ := h.fr
  have hw := h.1
  obtain ⟨tn, tLe, tSz, tRe, tSu, r⟩ := k5
  refine LI_fresh h ⟨hk3, tLe, fun i => ?_, by show 0 ≤ 10; omega, by show 0 ≤ 5; omega, r⟩ k6 k7 ⟨hk1, hk3, rfl, hw.2.2.2.1, ⟨?_, by omega, fun j hj => by omega⟩, by omega, rfl, hw.2.2.2.2.2.2.2.1, fun i hi => by omega, by omega, rfl, hw.2.2.2.2.2.2.2.2.2.2.2.1, fun i hi => by omega⟩
  · show va_up (rSz ρ) 15 0 i ≤ 24
    simp only [va_up]; split
    · omega
    · exact tSz i
  · show 0 = va_up (rSz ρ) 15 0 15
    simp [va_up]
theorem WC_keep {col : Nat → Nat} {len off sz sz' : Nat} {le le' : Nat → Nat} (h : WC n col len le off sz) (h1 : sz' = sz) (h2 : ∀ j, j < 24 → le' (off + j) = le (off + j)) : WC n col len le' off sz' := ⟨h1 ▸ h.1, h.2.1, fun j hj => by rw [h2 j (by have := h.2.1; omega)]; exact h.2.2 j hj⟩
theorem LI_letter {v : Int32} (h : LI n hcol hlen rcol rlen nr scol slen ns σ α ρ) (hv : isLt n v = true) (hl : hlen < 24) : LI n (va_up hcol hlen (colI v)) (hlen + 1) rcol rlen nr scol slen ns σ α (gLet ρ v) := by
  obtain ⟨hw, ht⟩ := h
  obtain ⟨h1, h2, h3, h4, h5, h6, h7, h8, h9, h10, h11, h12, h13⟩ := hw
  have hc := (isLt_six h2 hv).2
  have hle : rLe (gLet ρ v) = va_up (rLe ρ) (360 + rSz ρ 15) (colI v) := rfl
  have hsz : rSz (gLet ρ v) = va_up (rSz ρ) 15 (rSz ρ 15 + 1) := rfl
  have hsi : ∀ i, i ≠ 15 → rSz (gLet ρ v) i = rSz ρ i := fun i hi => by rw [hsz]; simp only [va_up, if_neg hi]
  have hli : ∀ i, i < 360 → rLe (gLet ρ v) i = rLe ρ i := fun i hi => by rw [hle]; simp only [va_up, if_neg (show ¬ i = 360 + rSz ρ 15 by omega)]
  have hB : BR (gLet ρ v) := by
    obtain ⟨tn, tLe, tSz, r⟩ := ht.2.1.1
    refine ⟨tn, fun i => up_lt tLe (by omega), fun i => ?_, r⟩
    rw [hsz]; simp only [va_up]; split
    · have := h5.1; omega
    · exact tSz i
  have hW : LW n (va_up hcol hlen (colI v)) (hlen + 1) rcol rlen nr scol slen ns (gLet ρ v) := by
    refine ⟨h1, h2, h3, fun j => up_lt h4 (by omega), ⟨?_, by omega, fun j hj => ?_⟩, h6, h7, h8, fun i hi => ⟨(h9 i hi).1, WC_keep (h9 i hi).2 (hsi i (by omega)) (fun j hj => hli _ (by omega))⟩, h10, h11, h12, fun i hi => ⟨(h13 i hi).1, WC_keep (h13 i hi).2 (hsi _ (by omega)) (fun j hj => hli _ (by omega))⟩⟩
    · rw [hsz]; simp only [va_up, if_pos]; rw [h5.1]
    · rw [hle, ← h5.1]
      simp only [va_up]
      by_cases z : j = hlen
      · rw [if_pos z, if_pos (by omega)]; exact ⟨rfl, hc⟩
      · rw [if_neg z, if_neg (by omega)]; exact h5.2.2 j (by omega)
  exact ⟨hW, LT0_ref ht hB ⟨rfl, rfl, rfl, rfl, rfl⟩ (LW.gr hB.2.1 hW)⟩
def gClr (ρ : RS) : RS := (rN ρ, rLe ρ, va_up (rSz ρ) 15 0, rRe ρ, rSu ρ, rMd ρ, rNw ρ, rTb ρ, rCh ρ, rPr ρ, rOn ρ, rTw ρ, rNu ρ, rNa ρ, rNd ρ, rSe ρ, rLo ρ)
theorem LI_clear (h : LI n hcol hlen rcol rlen nr scol slen ns σ α ρ) : LI n hcol 0 rcol rlen nr scol slen ns σ α (gClr ρ) := by
  obtain ⟨hw, ht⟩ := h
  obtain ⟨h1, h2, h3, h4, h5, h6, h7, h8, h9, h10, h11, h12, h13⟩ := hw
  have hsz : rSz (gClr ρ) = va_up (rSz ρ) 15 0 := rfl
  have hsi : ∀ i, i ≠ 15 → rSz (gClr ρ) i = rSz ρ i := fun i hi => by rw [hsz]; simp only [va_up, if_neg hi]
  have hB : BR (gClr ρ) := by
    obtain ⟨tn, tLe, tSz, r⟩ := ht.2.1.1
    refine ⟨tn, tLe, fun i => ?_, r⟩
    rw [hsz]; simp only [va_up]; split
    · omega
    · exact tSz i
  have hW : LW n hcol 0 rcol rlen nr scol slen ns (gClr ρ) := by
    refine ⟨h1, h2, h3, h4, ⟨?_, by omega, fun j hj => by omega⟩, h6, h7, h8, fun i hi => ⟨(h9 i hi).1, WC_keep (h9 i hi).2 (hsi i (by omega)) (fun j hj => rfl)⟩, h10, h11, h12, fun i hi => ⟨(h13 i hi).1, WC_keep (h13 i hi).2 (hsi _ (by omega)) (fun j hj => rfl)⟩⟩
    rw [hsz]; simp [va_up]
  exact ⟨hW, LT0_ref ht hB ⟨rfl, rfl, rfl, rfl, rfl⟩ (LW.gr hB.2.1 hW)⟩
theorem bcI_eq (f : Nat → Nat) (w k i : Nat) (h : 24 * w + k ≤ 360) : bcI f w k i = if 24 * w ≤ i ∧ i < 24 * w + k then f (360 + (i - 24 * w)) else f i := by
  induction k generalizing i with
  | zero => rw [bcI, if_neg (by omega)]
  | succ k ih =>
    rw [bcI]
    simp only [va_up]
    by_cases z : i = 24 * w + k
    · rw [if_pos z, if_pos (by omega), ih _ (by omega), if_neg (by omega), z, show 24 * w + k - 24 * w = k by omega]
    · rw [if_neg z, ih _ (by omega)]
      by_cases q : 24 * w ≤ i ∧ i < 24 * w + k
      · rw [if_pos q, if_pos (by omega)]
      · rw [if_neg q, if_neg (by omega)]
/-- the reference, a word taken over, before its fresh start -/
def gB1 (ρ : RS) (w : Nat) : RS := (rN ρ, bcI (rLe ρ) w (rSz ρ 15), va_up (va_up (rSz ρ) w (rSz ρ 15)) 15 0, rRe ρ, rSu ρ, rMd ρ, rNw ρ, rTb ρ, rCh ρ, rPr ρ, rOn ρ, rTw ρ, rNu ρ, rNa ρ, rNd ρ, rSe ρ, rLo ρ)
def gRel1 (ρ : RS) : RS := (rN ρ, bcI (rLe ρ) (rRe ρ) (rSz ρ 15), va_up (va_up (rSz ρ) (rRe ρ) (rSz ρ 15)) 15 0, rRe ρ + 1, rSu ρ, rMd ρ, rNw ρ, rTb ρ, rCh ρ, rPr ρ, rOn ρ, rTw ρ, rNu ρ, rNa ρ, rNd ρ, rSe ρ, rLo ρ)
def gSub1 (ρ : RS) : RS := (rN ρ, bcI (rLe ρ) (10 + rSu ρ) (rSz ρ 15), va_up (va_up (rSz ρ) (10 + rSu ρ) (rSz ρ 15)) 15 0, rRe ρ, rSu ρ + 1, rMd ρ, rNw ρ, rTb ρ, rCh ρ, rPr ρ, rOn ρ, rTw ρ, rNu ρ, rNa ρ, rNd ρ, rSe ρ, rLo ρ)
theorem gRel_eq (ρ : RS) : gRel ρ = gFresh (gRel1 ρ) := by simp only [gRel, gBec, gFresh, gRel1, rN, rLe, rSz, rRe, rSu, rMd, rNw, rTb, rCh, rPr, rOn, rTw, rNu, rNa, rNd, rSe, rLo]
theorem gSub_eq (ρ : RS) : gSub ρ = gFresh (gSub1 ρ) := by simp only [gSub, gBec, gFresh, gSub1, rN, rLe, rSz, rRe, rSu, rMd, rNw, rTb, rCh, rPr, rOn, rTw, rNu, rNa, rNd, rSe, rLo]
theorem bc_b {f : Nat → Nat} {w k : Nat} (hf : ∀ i, f i < 6) (h : 24 * w + k ≤ 360) : ∀ i, bcI f w k i < 6 := fun i => by
  rw [bcI_eq f w k i h]; split
  · exact hf _
  · exact hf _
theorem sz_b {f : Nat → Nat} {w : Nat} (hf : ∀ i, f i ≤ 24) : ∀ i, va_up (va_up f w (f 15)) 15 0 i ≤ 24 := fun i => by
  simp only [va_up]; split
  · omega
  · split
    · exact hf 15
    · exact hf i
theorem cpN_at {f g : Nat → Nat} {k j : Nat} (h : j < k) : cpN f g k j = f j := by unfold cpN; rw [if_pos h]
theorem cpN_b {f g : Nat → Nat} {k : Nat} (hf : ∀ i, f i < 6) (hg : ∀ i, g i < 6) : ∀ j, cpN f g k j < 6 := fun j => by
  unfold cpN; split
  · exact hf j
  · exact hg j
theorem LI_rel (h : LI n hcol hlen rcol rlen nr scol slen ns σ α ρ) (h0 : 0 < hlen) (hr : nr < 10) : LI n hcol 0 (va_up rcol nr (cpN hcol (rcol nr) hlen)) (va_up rlen nr hlen) (nr + 1) scol slen ns (fMake (fSt0 σ (2 * n))) (tU α, tN α, tS α, tR α, 0) (gRel ρ) := by
  obtain ⟨k1, k2, k3, k4, k5, k6, k7⟩ := h.fr
  obtain ⟨h1, h2, h3, h4, h5, h6, h7, h8, h9, h10, h11, h12, h13⟩ := h.1
  obtain ⟨tn, tLe, tSz, tRe, tSu, r⟩ := k5
  have hl24 := h5.2.1
  have hl := h5.1
  rw [gRel_eq]
  have hle : ∀ i, rLe (gRel1 ρ) i = if 24 * nr ≤ i ∧ i < 24 * nr + hlen then rLe ρ (360 + (i - 24 * nr)) else rLe ρ i := fun i => by
    show bcI (rLe ρ) (rRe ρ) (rSz ρ 15) i = _
    rw [bcI_eq _ _ _ _ (by omega), h7, hl]
  have hsz : ∀ i, rSz (gRel1 ρ) i = if i = 15 then 0 else if i = nr then hlen else rSz ρ i := fun i => by
    show va_up (va_up (rSz ρ) (rRe ρ) (rSz ρ 15)) 15 0 i = _
    simp only [va_up]; rw [h7, hl]
  refine LI_fresh h ⟨tn, bc_b tLe (by omega), sz_b tSz, by show rRe ρ + 1 ≤ 10; omega, tSu, r⟩ k6 k7 ⟨h1, h2, h3, h4, ⟨?_, by omega, fun j hj => by omega⟩, by omega, by show rRe ρ + 1 = nr + 1; omega, fun i j => ?_, fun i hi => ?_, h10, h11, h12, fun i hi => ⟨(h13 i hi).1, WC_keep (h13 i hi).2 ?_ (fun j hj => ?_)⟩⟩
  · show 0 = rSz (gRel1 ρ) 15
    rw [hsz, if_pos rfl]
  · simp only [va_up]; split
    · exact cpN_b h4 (h8 nr) j
    · exact h8 i j
  · show 1 ≤ va_up rlen nr hlen i ∧ WC n (va_up rcol nr (cpN hcol (rcol nr) hlen) i) (va_up rlen nr hlen i) (rLe (gRel1 ρ)) (24 * i) (rSz (gRel1 ρ) i)
    rw [hsz, if_neg (by omega)]
    by_cases z : i = nr
    · simp only [va_up, if_pos z]
      refine ⟨h0, rfl, hl24, fun j hj => ?_⟩
      rw [cpN_at hj, hle, if_pos (by omega), show 24 * i + j - 24 * nr = j by omega]
      exact h5.2.2 j hj
    · simp only [va_up, if_neg z]
      refine ⟨(h9 i (by omega)).1, WC_keep (h9 i (by omega)).2 rfl (fun j hj => ?_)⟩
      rw [hle, if_neg (by omega)]
  · show rSz (gRel1 ρ) (10 + i) = _
    rw [hsz, if_neg (by omega), if_neg (by omega)]
  · show rLe (gRel1 ρ) _ = _
    rw [hle, if_neg (by omega)]
theorem LI_sub (h : LI n hcol hlen rcol rlen nr scol slen ns σ α ρ) (h0 : 0 < hlen) (hr : ns < 5) : LI n hcol 0 rcol rlen nr (va_up scol ns (cpN hcol (scol ns) hlen)) (va_up slen ns hlen) (ns + 1) (fMake (fSt0 σ (2 * n))) (tU α, tN α, tS α, tR α, 0) (gSub ρ) := by
  obtain ⟨k1, k2, k3, k4, k5, k6, k7⟩ := h.fr
  obtain ⟨h1, h2, h3, h4, h5, h6, h7, h8, h9, h10, h11, h12, h13⟩ := h.1
  obtain ⟨tn, tLe, tSz, tRe, tSu, r⟩ := k5
  have hl24 := h5.2.1
  have hl := h5.1
  rw [gSub_eq]
  have hle : ∀ i, rLe (gSub1 ρ) i = if 24 * (10 + ns) ≤ i ∧ i < 24 * (10 + ns) + hlen then rLe ρ (360 + (i - 24 * (10 + ns))) else rLe ρ i := fun i => by
    show bcI (rLe ρ) (10 + rSu ρ) (rSz ρ 15) i = _
    rw [bcI_eq _ _ _ _ (by omega), h11, hl]
  have hsz : ∀ i, rSz (gSub1 ρ) i = if i = 15 then 0 else if i = 10 + ns then hlen else rSz ρ i := fun i => by
    show va_up (va_up (rSz ρ) (10 + rSu ρ) (rSz ρ 15)) 15 0 i = _
    simp only [va_up]; rw [h11, hl]
  refine LI_fresh h ⟨tn, bc_b tLe (by omega), sz_b tSz, tRe, by show rSu ρ + 1 ≤ 5; omega, r⟩ k6 k7 ⟨h1, h2, h3, h4, ⟨?_, by omega, fun j hj => by omega⟩, h6, h7, h8, fun i hi => ⟨(h9 i hi).1, WC_keep (h9 i hi).2 ?_ (fun j hj => ?_)⟩, by omega, by show rSu ρ + 1 = ns + 1; omega, fun i j => ?_, fun i hi => ?_⟩
  · show 0 = rSz (gSub1 ρ) 15
    rw [hsz, if_pos rfl]
  · show rSz (gSub1 ρ) i = _
    rw [hsz, if_neg (by omega), if_neg (by omega)]
  · show rLe (gSub1 ρ) _ = _
    rw [hle, if_neg (by omega)]
  · simp only [va_up]; split
    · exact cpN_b h4 (h12 ns) j
    · exact h12 i j
  · show 1 ≤ va_up slen ns hlen i ∧ WC n (va_up scol ns (cpN hcol (scol ns) hlen) i) (va_up slen ns hlen i) (rLe (gSub1 ρ)) (24 * (10 + i)) (rSz (gSub1 ρ) (10 + i))
    rw [hsz, if_neg (by omega)]
    by_cases z : i = ns
    · rw [if_pos (by omega)]
      simp only [va_up, if_pos z]
      refine ⟨h0, rfl, hl24, fun j hj => ?_⟩
      rw [cpN_at hj, hle, if_pos (by omega), show 24 * (10 + i) + j - 24 * (10 + ns) = j by omega]
      exact h5.2.2 j hj
    · rw [if_neg (by omega)]
      simp only [va_up, if_neg z]
      refine ⟨(h13 i (by omega)).1, WC_keep (h13 i (by omega)).2 rfl (fun j hj => ?_)⟩
      rw [hle, if_neg (by omega)]
end OPS
