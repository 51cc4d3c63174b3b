/-! where words lead, by numbers -/
def imN (E : Nat → Option Nat) (s : NT) (col : Nat → Nat) (len c : Nat) : Nat := match pth E col (qN s c) len with
  | some p => (match qU s p with | some d => d | none => 0)
  | none => 0
theorem im_path {M K : Nat} {L : Nat → Nat} {E : Nat → Option Nat} {s : NT} {col : Nat → Nat} {len c : Nat} (hK : K ≤ 6) (hM : M ≤ 200) (hC : Cm M K L E) (hN : NV M L E K 200 0 s) (hcol : ∀ j, j < len → col j < K) (hc : c < qZ s) : ∀ i, i ≤ len → ∃ p j, pth E col (qN s c) i = some p ∧ p < M ∧ L p = p ∧ qU s p = some j := by
  intro i
  obtain ⟨a1, a2, b, cc, d1, d2, e1, e2⟩ := hN
  have hz : qZ s ≤ M := by rw [← cc]; exact cntT_le _ _
  induction i with
  | zero => intro _; exact ⟨qN s c, c, rfl, (b c hc).1, (b c hc).2, a2 c hc⟩
  | succ i ih =>
    intro hi
    obtain ⟨p, j, h1, h2, h3, h4⟩ := ih (by omega)
    obtain ⟨d, hd⟩ := hC p (col i) h2 h3 (hcol i (by omega))
    obtain ⟨w1, w2⟩ := a1 p j h4
    have hn := d1 j (col i) d (by omega) w1 (hcol i (by omega)) (by rw [w2]; exact hd)
    cases hu : qU s d with
    | none => exact absurd hu hn
    | some v =>
      obtain ⟨v1, v2⟩ := a1 d v hu
      refine ⟨d, v, by rw [pth_succ h1]; exact hd, ?_, ?_, hu⟩
      · rw [← v2]; exact (b v v1).1
      · have := (b v v1).2; rw [v2] at this; exact this
theorem im_ok {M K : Nat} {L : Nat → Nat} {E : Nat → Option Nat} {s : NT} {col : Nat → Nat} {len c : Nat} (hK : K ≤ 6) (hM : M ≤ 200) (hC : Cm M K L E) (hN : NV M L E K 200 0 s) (hcol : ∀ j, j < len → col j < K) (hc : c < qZ s) : imN E s col len c < qZ s ∧ ∃ p, pth E col (qN s c) len = some p ∧ p < M ∧ qU s p = some (imN E s col len c) := by
  obtain ⟨p, j, h1, h2, h3, h4⟩ := im_path hK hM hC hN hcol hc len (Nat.le_refl _)
  have e : imN E s col len c = j := by unfold imN; rw [h1]; simp only [h4]
  rw [e]
  exact ⟨(hN.1 p j h4).1, p, h1, h2, h4⟩
theorem im_inj {M K : Nat} {L : Nat → Nat} {E : Nat → Option Nat} {s : NT} {col : Nat → Nat} {len c c' : Nat} (hK : K ≤ 6) (hM : M ≤ 200) (hW : WTb M K L E) (hC : Cm M K L E) (hN : NV M L E K 200 0 s) (hc6 : ∀ j, col j < 6) (hcol : ∀ j, j < len → col j < K) (hc : c < qZ s) (hc' : c' < qZ s) (he : imN E s col len c = imN E s col len c') : c = c' := by
  obtain ⟨-, p, h1, h2, h3⟩ := im_ok hK hM hC hN hcol hc
  obtain ⟨-, p', h1', h2', h3'⟩ := im_ok hK hM hC hN hcol hc'
  rw [he] at h3
  have k1 := (hN.1 p _ h3).2
  have k2 := (hN.1 p' _ h3').2
  have : p = p' := by rw [← k1, ← k2]
  subst this
  have e1 := pth_inj hW.inv hc6 (hN.2.2.1 c hc).1 (hN.2.2.1 c' hc').1 h1 h1'
  have a := hN.2.1 c hc
  have b := hN.2.1 c' hc'
  rw [e1, b] at a
  exact (Option.some.inj a).symm
theorem Img_of {M K : Nat} {L : Nat → Nat} {E E' : Nat → Option Nat} {s : NT} {nu : Nat → Option Nat} {na : Nat → Nat} {col col' : Nat → Nat} {len c : Nat} (hK : K ≤ 6) (hM : M ≤ 200) (hC : Cm M K L E) (hN : NV M L E K 200 0 s) (hcol : ∀ j, j < len → col j < K) (hc : c < qZ s) (hE : ∀ i d, E i = some d → E' i = some d) (hcc : ∀ j, j < len → col' j = col j) (hnu : ∀ i, i < 200 → nu i = qU s i) (hna : na c = qN s c) : Img E' nu na col' len c (imN E s col len c) := by
  have hp : ∀ i, i ≤ len → ∀ p, pth E col (qN s c) i = some p → pth E' col' (na c) i = some p := by
    intro i hi p h
    rw [hna, pth_congr (n := len) hcc i hi]
    exact pth_sub h (fun t a b _ _ _ q => hE _ _ q)
  refine ⟨fun i hi => ?_, ?_⟩
  · obtain ⟨p, j, h1, h2, h3, h4⟩ := im_path hK hM hC hN hcol hc i hi
    exact ⟨p, by omega, hp i hi p h1⟩
  · obtain ⟨-, p, h1, h2, h3⟩ := im_ok hK hM hC hN hcol hc
    exact ⟨p, hp len (Nat.le_refl _) p h1, by rw [hnu p (by omega)]; exact h3⟩
theorem cut_le {M : Nat} {E : Nat → Option Nat} : ∀ i d, cut M E i = some d → E i = some d := by
  intro i d h
  unfold cut at h
  split at h
  · exact h
  · cases h
/-! cycles: what is forgotten doesn't matter -/
theorem cyc_cg {f : Nat → Nat} {z : Nat} (hf : ∀ i, i < z → f i < z) (fu : Nat) : ∀ {se se' : Nat → Bool} {d n : Nat}, d < z → (∀ i, i < z → se i = se' i) → (cyc f fu se d n).2 = (cyc f fu se' d n).2 ∧ ∀ i, i < z → (cyc f fu se d n).1 i = (cyc f fu se' d n).1 i := by
  induction fu with
  | zero => intro se se' d n _ h; exact ⟨rfl, h⟩
  | succ fu ih =>
    intro se se' d n hd h
    rw [cyc, cyc, ← h d hd]
    split
    · exact ⟨rfl, h⟩
    · refine ih (hf d hd) (fun i hi => ?_)
      simp only [va_up, h i hi]
theorem ccI_cg {f : Nat → Nat} {z : Nat} {fx : Bool} {se se' : Nat → Bool} (hf : ∀ i, i < z → f i < z) (h : ∀ i, i < z → se i = se' i) (k : Nat) : k ≤ z → (ccI f z fx se k).2 = (ccI f z fx se' k).2 ∧ ∀ i, i < z → (ccI f z fx se k).1 i = (ccI f z fx se' k).1 i := by
  induction k with
  | zero => intro _; exact ⟨rfl, h⟩
  | succ k ih =>
    intro hk
    obtain ⟨i1, i2⟩ := ih (by omega)
    obtain ⟨c1, c2⟩ := cyc_cg hf z (d := k) (n := 0) (by omega) i2
    rw [ccI, ccI]
    exact ⟨by simp only; rw [i1, c1], c2⟩
theorem ooI_cg {f : Nat → Nat} {z : Nat} {se se' : Nat → Bool} (hf : ∀ i, i < z → f i < z) (h : ∀ i, i < z → se i = se' i) (k : Nat) : k ≤ z → (ooI f z se k).2 = (ooI f z se' k).2 ∧ ∀ i, i < z → (ooI f z se k).1 i = (ooI f z se' k).1 i := by
  induction k with
  | zero => intro _; exact ⟨rfl, h⟩
  | succ k ih =>
    intro hk
    obtain ⟨i1, i2⟩ := ih (by omega)
    obtain ⟨c1, c2⟩ := cyc_cg hf z (d := k) (n := 0) (by omega) i2
    rw [ooI, ooI]
    exact ⟨by simp only; rw [i1, c1], c2⟩
/-! orbits -/
theorem cnt_inj {f : Nat → Nat} {A : Nat → Bool} {m : Nat} (n : Nat) : ∀ {B : Nat → Bool}, (∀ i, i < n → A i = true → f i < m ∧ B (f i) = true) → (∀ i j, i < n → j < n → A i = true → A j = true → f i = f j → i = j) → cntT A n ≤ cntT B m := by
  induction n with
  | zero => intro B _ _; exact Nat.zero_le _
  | succ n ih =>
    intro B h1 h2
    rw [cntT]
    by_cases w : A n = true
    · rw [if_pos w]
      obtain ⟨k1, k2⟩ := h1 n (by omega) w
      have e := cntT_dn k1 k2
      have := ih (B := va_up B (f n) false) (fun i hi q => by
        obtain ⟨j1, j2⟩ := h1 i (by omega) q
        refine ⟨j1, ?_⟩
        have hne : f i ≠ f n := fun z => by have := h2 i n (by omega) (by omega) q w z; omega
        simp only [va_up, if_neg hne]; exact j2) (fun i j hi hj => h2 i j (by omega) (by omega))
      omega
    · rw [if_neg w]
      exact ih (fun i hi => h1 i (by omega)) (fun i j hi hj => h2 i j (by omega) (by omega))
theorem low_eq {fs : Nat → Nat → Nat} {z ns c0 low : Nat} {lo : Nat → Nat} (hc : c0 < z) (hf : ∀ i c, i < ns → c < z → fs i c < z) (hi : ∀ i c c', i < ns → c < z → c' < z → fs i c = fs i c' → c = c') (hL : LowR fs z ns c0 low) (hO : OI fs z ns lo) (hl : ∀ j v, j < z → v < ns → lo (fs v j) = lo j) : low = lo c0 := by
  obtain ⟨se, h1, h2, h3, h4, h5, h6⟩ := hL
  have ha : lo low = lo c0 := h3 (fun d => d < z → lo d = lo c0) (fun _ => rfl) (fun d i hd hi' q w => by rw [hl d i hd hi']; exact q hd) low h4 h5 h4
  have hb := (hO low h4).2.1
  have hback : ∀ d i, d < z → i < ns → se (fs i d) = true → se d = true := by
    intro d i hd hi' q
    cases e : se d with
    | true => rfl
    | false =>
      exfalso
      have k := cnt_inj (f := fs i) (A := va_up se d true) (B := se) (m := z) z (fun j hj w => ?_) (fun j j' hj hj' _ _ w => hi i j j' hi' hj hj' w)
      · rw [cntT_up hd e] at k; omega
      · refine ⟨hf i j hi' hj, ?_⟩
        by_cases y : j = d
        · rw [y]; exact q
        · simp only [va_up, if_neg y] at w; exact h2 j i hj hi' w
  have hcn := (hO c0 hc).2.2 (fun d => se d = true) (fun d i hd hi' => ⟨fun q => h2 d i hd hi' q, fun q => hback d i hd hi' q⟩)
  have := h6 (lo c0) (hO c0 hc).1 (hcn.mp h1)
  omega
