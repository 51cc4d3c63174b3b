/-! numbers: one numbering for both -/
abbrev NT : Type := (Nat → Option Nat) × (Nat → Nat) × Nat
def qU (s : NT) : Nat → Option Nat := s.1
def qN (s : NT) : Nat → Nat := s.2.1
def qZ (s : NT) : Nat := s.2.2
def gn (d : Nat) (s : NT) : NT := match qU s d with | some _ => s | none => (va_up (qU s) d (some (qZ s)), va_up (qN s) (qZ s) d, qZ s + 1)
def n0 : NT := (fun i => if i = 0 then some 0 else none, fun _ => 0, 1)
def nrw (E : Nat → Option Nat) (k : Nat) (s : NT) (x : Nat) : NT := match x with | 0 => s | x + 1 => match E (qN (nrw E k s x) k * 6 + x) with | none => nrw E k s x | some d => gn d (nrw E k s x)
def nal (E : Nat → Option Nat) (K : Nat) (k : Nat) : NT := match k with | 0 => n0 | k + 1 => if k < qZ (nal E K k) then nrw E k (nal E K k) K else nal E K k
def numF (E : Nat → Option Nat) (K : Nat) : NT := nal E K 200
def cut (M : Nat) (E : Nat → Option Nat) : Nat → Option Nat := fun i => if i < M * 6 then E i else none
def Cm (M K : Nat) (L : Nat → Nat) (E : Nat → Option Nat) : Prop := ∀ c x, c < M → L c = c → x < K → ∃ d, E (c * 6 + x) = some d
def NV (M : Nat) (L : Nat → Nat) (E : Nat → Option Nat) (K k x : Nat) (s : NT) : Prop := (∀ i j, qU s i = some j → j < qZ s ∧ qN s j = i) ∧ (∀ j, j < qZ s → qU s (qN s j) = some j) ∧ (∀ j, j < qZ s → qN s j < M ∧ L (qN s j) = qN s j) ∧ cntT (fun i => (qU s i).isSome) M = qZ s ∧ (∀ j y d, j < k → j < qZ s → y < K → E (qN s j * 6 + y) = some d → qU s d ≠ none) ∧ (k < qZ s → ∀ y d, y < x → E (qN s k * 6 + y) = some d → qU s d ≠ none) ∧ qN s 0 = 0 ∧ 1 ≤ qZ s
theorem NV.zM {M : Nat} {L : Nat → Nat} {E : Nat → Option Nat} {K k x : Nat} {s : NT} (h : NV M L E K k x s) : qZ s ≤ M := by rw [← h.2.2.2.1]; exact cntT_le _ _
theorem NV.zlt {M : Nat} {L : Nat → Nat} {E : Nat → Option Nat} {K k x d : Nat} {s : NT} (h : NV M L E K k x s) (hd : d < M) (hn : qU s d = none) : qZ s < M := by
  rw [← h.2.2.2.1]; exact cntT_lt hd (by simp [hn])
theorem gn_ok {M : Nat} {L : Nat → Nat} {E : Nat → Option Nat} {K k x d : Nat} {s : NT} (h : NV M L E K k x s) (hk : k < qZ s) (he : E (qN s k * 6 + x) = some d) (hd : d < M) (hl : L d = d) : NV M L E K k (x + 1) (gn d s) ∧ qN (gn d s) k = qN s k ∧ k < qZ (gn d s) := by
  obtain ⟨a1, a2, b, c, d1, d2, e1, e2⟩ := h
  cases hu : qU s d with
  | some v =>
    have hg : gn d s = s := by unfold gn; rw [hu]
    rw [hg]
    refine ⟨⟨a1, a2, b, c, d1, fun _ y z hy q => ?_, e1, e2⟩, rfl, hk⟩
    by_cases w : y = x
    · rw [w, he] at q; cases q; rw [hu]; exact fun w => by cases w
    · exact d2 hk y z (by omega) q
  | none =>
    have hg : gn d s = (va_up (qU s) d (some (qZ s)), va_up (qN s) (qZ s) d, qZ s + 1) := by unfold gn; rw [hu]
    have hU : qU (gn d s) = va_up (qU s) d (some (qZ s)) := by rw [hg]; rfl
    have hN : qN (gn d s) = va_up (qN s) (qZ s) d := by rw [hg]; rfl
    have hZ : qZ (gn d s) = qZ s + 1 := by rw [hg]; rfl
    have hNj : ∀ j, j < qZ s → qN (gn d s) j = qN s j := fun j hj => by rw [hN]; simp only [va_up, if_neg (show ¬ j = qZ s by omega)]
    have hNz : qN (gn d s) (qZ s) = d := by rw [hN]; simp [va_up]
    have hUne : ∀ i, i ≠ d → qU (gn d s) i = qU s i := fun i hi => by rw [hU]; simp only [va_up, if_neg hi]
    have hUd : qU (gn d s) d = some (qZ s) := by rw [hU]; simp [va_up]
    have hne : ∀ j, j < qZ s → qN s j ≠ d := fun j hj w => by have := a2 j hj; rw [w, hu] at this; cases this
    have hsome : ∀ i, qU s i ≠ none → qU (gn d s) i ≠ none := fun i hi => by
      by_cases w : i = d
      · rw [w, hUd]; exact fun w => by cases w
      · rw [hUne i w]; exact hi
    refine ⟨⟨fun i j q => ?_, fun j hj => ?_, fun j hj => ?_, ?_, fun j y z hj hjz hy q => ?_, fun _ y z hy q => ?_, by rw [hNj 0 (by omega)]; exact e1, by omega⟩, hNj k hk, by omega⟩
    · by_cases w : i = d
      · rw [w, hUd] at q; cases q
        exact ⟨by omega, by rw [hNz, w]⟩
      · rw [hUne i w] at q
        obtain ⟨q1, q2⟩ := a1 i j q
        exact ⟨by omega, by rw [hNj j q1]; exact q2⟩
    · by_cases w : j = qZ s
      · rw [w, hNz, hUd]
      · rw [hNj j (by omega), hUne _ (hne j (by omega))]; exact a2 j (by omega)
    · by_cases w : j = qZ s
      · rw [w, hNz]; exact ⟨hd, hl⟩
      · rw [hNj j (by omega)]; exact b j (by omega)
    · rw [hZ, ← c]
      have hf : (fun i => (qU (gn d s) i).isSome) = va_up (fun i => (qU s i).isSome) d true := by
        funext i
        simp only [va_up]
        by_cases w : i = d
        · rw [if_pos w, w, hUd]; rfl
        · rw [if_neg w, hUne i w]
      rw [hf]
      exact cntT_up hd (by simp [hu])
    · rw [hNj j (by omega)] at q
      exact hsome z (d1 j y z hj (by omega) hy q)
    · rw [hNj k hk] at q
      by_cases w : y = x
      · rw [w, he] at q; cases q; rw [hUd]; exact fun w => by cases w
      · exact hsome z (d2 hk y z (by omega) q)
theorem nrw_some {E : Nat → Option Nat} {k x d : Nat} {s : NT} (h : E (qN (nrw E k s x) k * 6 + x) = some d) : nrw E k s (x + 1) = gn d (nrw E k s x) := by rw [nrw, h]
theorem nrw_ok {M : Nat} {L : Nat → Nat} {E : Nat → Option Nat} {K k : Nat} {s : NT} (hK : K ≤ 6) (hW : WTb M K L E) (hC : Cm M K L E) (h : NV M L E K k 0 s) (hk : k < qZ s) (x : Nat) : x ≤ K → NV M L E K k x (nrw E k s x) ∧ qN (nrw E k s x) k = qN s k ∧ k < qZ (nrw E k s x) := by
  induction x with
  | zero => intro _; exact ⟨h, rfl, hk⟩
  | succ x ih =>
    intro hx
    obtain ⟨i1, i2, i3⟩ := ih (by omega)
    obtain ⟨b1, b2⟩ := i1.2.2.1 k i3
    obtain ⟨d, hd⟩ := hC _ x b1 b2 (by omega)
    rw [nrw_some hd]
    have w := hW.2.2 _ x d b1 (by omega) hd
    obtain ⟨g1, g2, g3⟩ := gn_ok i1 i3 hd w.2.2.1 w.2.2.2.1
    exact ⟨g1, g2.trans i2, g3⟩
theorem NV_0 {M : Nat} {L : Nat → Nat} {E : Nat → Option Nat} {K : Nat} (hM : 0 < M) (hL : L 0 = 0) : NV M L E K 0 0 n0 := by
  have hz : qZ n0 = 1 := rfl
  refine ⟨fun i j q => ?_, fun j hj => ?_, fun j hj => ⟨hM, hL⟩, ?_, fun j y d hj => by omega, fun _ y d hy => by omega, rfl, Nat.le_refl _⟩
  · have q' : (if i = 0 then some 0 else none) = some j := q
    split at q'
    · cases q'; exact ⟨by rw [hz]; omega, by rename_i w; rw [w]; rfl⟩
    · cases q'
  · have : j = 0 := by omega
    rw [this]; rfl
  · have hf : (fun i => (qU n0 i).isSome) = va_up (fun _ => false) 0 true := by
      funext i
      show (if i = 0 then some 0 else (none : Option Nat)).isSome = if i = 0 then true else false
      split <;> rfl
    rw [hf, cntT_up hM rfl, cntT_0 (fun _ _ => rfl)]; rfl
theorem nal_ok {M : Nat} {L : Nat → Nat} {E : Nat → Option Nat} {K : Nat} (hK : K ≤ 6) (hM : 0 < M) (hW : WTb M K L E) (hC : Cm M K L E) (k : Nat) : NV M L E K k 0 (nal E K k) := by
  induction k with
  | zero => exact NV_0 hM (by have := hW.1 0 hM; omega)
  | succ k ih =>
    rw [nal]
    split
    · rename_i hk
      obtain ⟨⟨a1, a2, b, c, d1, d2, e1, e2⟩, g2, g3⟩ := nrw_ok hK hW hC ih hk K (Nat.le_refl _)
      refine ⟨a1, a2, b, c, fun j y d hj hz hy q => ?_, fun _ y d hy => by omega, e1, e2⟩
      by_cases w : j = k
      · rw [w] at q; exact d2 g3 y d hy q
      · exact d1 j y d (by omega) hz hy q
    · obtain ⟨a1, a2, b, c, d1, d2, e1, e2⟩ := ih
      exact ⟨a1, a2, b, c, fun j y d hj hz hy q => d1 j y d (by omega) hz hy q, fun _ y d hy => by omega, e1, e2⟩
theorem nal_st {E : Nat → Option Nat} {K k : Nat} (h : qZ (nal E K k) ≤ k) (j : Nat) : nal E K (k + j) = nal E K k := by
  induction j with
  | zero => rfl
  | succ j ih =>
    show nal E K (k + j + 1) = _
    rw [nal, ih, if_neg (by omega)]
/-- the class's numbers are these -/
def AgC (s : NT) (β : AS) : Prop := tZ β = qZ s ∧ (∀ i, i < 200 → tU β i = qU s i) ∧ ∀ j, j < qZ s → tN β j = qN s j
theorem AgC_gnn {s : NT} {β : AS} {d : Nat} (h : AgC s β) (hd : d < 200) : AgC (gn d s) (gnn d β) := by
  obtain ⟨h1, h2, h3⟩ := h
  unfold gn gnn
  rw [h2 d hd]
  cases qU s d with
  | some v => exact ⟨h1, h2, h3⟩
  | none =>
    refine ⟨by show tZ β + 1 = qZ s + 1; omega, fun i hi => ?_, fun j hj => ?_⟩
    · show va_up (tU β) d (some (tZ β)) i = va_up (qU s) d (some (qZ s)) i
      simp only [va_up, h1, h2 i hi]
    · have hj' : j < qZ s + 1 := hj
      show va_up (tN β) (tZ β) d j = va_up (qN s) (qZ s) d j
      simp only [va_up, h1]
      split
      · rfl
      · exact h3 j (by omega)
theorem filI_at {f : Nat → Option Nat} {n i : Nat} (h : i < n) : filI f n i = none := by
  induction n with
  | zero => omega
  | succ n ih =>
    rw [filI]
    simp only [va_up]
    split
    · rfl
    · exact ih (by omega)
theorem filI_b {f : Nat → Option Nat} {n i d B : Nat} (hf : ∀ i d, f i = some d → d < B) (h : filI f n i = some d) : d < B := by
  induction n generalizing i d with
  | zero => exact hf i d h
  | succ n ih => rw [filI] at h; exact up_some (fun i d q => ih q) (fun d q => by cases q) h
theorem cut_at {M c x : Nat} {E : Nat → Option Nat} (hc : c < M) (hx : x < 6) : cut M E (c * 6 + x) = E (c * 6 + x) := by unfold cut; rw [if_pos (by omega)]
theorem cut_wt {M K : Nat} {L : Nat → Nat} {E : Nat → Option Nat} (h : WTb M K L E) : WTb M K L (cut M E) := ⟨h.1, h.2.1, fun c x d hc hx q => by
  rw [cut_at hc hx] at q
  obtain ⟨w1, w2, w3, w4, w5⟩ := h.2.2 c x d hc hx q
  exact ⟨w1, w2, w3, w4, by rw [cut_at w3 (xor1_lt hx)]; exact w5⟩⟩
theorem cut_cm {M K : Nat} {L : Nat → Nat} {E : Nat → Option Nat} (hK : K ≤ 6) (h : Cm M K L E) : Cm M K L (cut M E) := fun c x hc hl hx => by rw [cut_at hc (by omega)]; exact h c x hc hl hx
theorem cut_eq {M : Nat} {L L' : Nat → Nat} {E E' : Nat → Option Nat} (h : TEq M L E L' E') : cut M E = cut M E' := by
  funext i
  unfold cut
  split
  · rename_i w; exact h.2 i w
  · rfl
theorem BA_gnn {β : AS} {d : Nat} (h : BA β) (hd : d < 200) (hz : tU β d = none → tZ β < 200) : BA (gnn d β) := by
  obtain ⟨h1, h2, h3, h4⟩ := h
  unfold gnn
  cases hu : tU β d with
  | some v => exact ⟨h1, h2, h3, h4⟩
  | none =>
    have := hz hu
    exact ⟨by show tZ β + 1 ≤ 200; omega, fun i => up_lt h2 hd, fun i e q => up_some h3 (fun z w => by cases w; exact this) q, h4⟩
theorem gnn_mk {f : Nat → Option Nat} {a d : Nat → Nat} {b : Nat → Bool} {z c : Nat} (h : f c = none) : gnn c (f, a, b, d, z) = (va_up f c (some z), va_up a z c, b, d, z + 1) := by
  have h' : tU (f, a, b, d, z) c = none := h
  unfold gnn
  rw [h']; rfl
theorem gnn_SR (d : Nat) (β : AS) : tS (gnn d β) = tS β ∧ tR (gnn d β) = tR β := by
  unfold gnn
  cases tU β d <;> exact ⟨rfl, rfl⟩
theorem givOK {K : Nat} {σ : CS} {α : AS} {F : AS → Prop} (hI : IV K σ) (hW : WTb (sM σ) K (sL σ) (sE σ)) (hC : Cm (sM σ) K (sL σ) (sE σ)) (hA : BA α) (hF : ∀ u, BA u → AgC (numF (cut (sM σ) (sE σ)) K) u → F u) : GivOK σ α F := by
  have hM1 := hI.2.1
  have hM2 := hI.1.1
  have hKK := hI.2.2.1
  have hK6 : K ≤ 6 := by have := hI.1.2.1; omega
  have hWc := cut_wt hW
  have hCc := cut_cm hK6 hC
  obtain ⟨b1, b2, b3, b4⟩ := hA
  have hok := nal_ok hK6 hM1 hWc hCc
  refine ⟨fun k x β => k ≤ 200 ∧ x ≤ K ∧ (x = 0 ∨ k < qZ (nal (cut (sM σ) (sE σ)) K k)) ∧ BA β ∧ AgC (nrw (cut (sM σ) (sE σ)) k (nal (cut (sM σ) (sE σ)) K k) x) β, ⟨by show 0 ≤ 200; omega, b2, fun i d q => filI_b b3 q, b4⟩, ⟨by omega, by omega, Or.inl rfl, ?_, ?_⟩, fun k x β h => h.2.2.2.1, fun k x β ⟨h1, h2, h3, h4, h5⟩ hk hx => ?_, fun k β ⟨h1, h2, h3, h4, h5⟩ hk => ?_, fun k u ⟨h1, h2, h3, h4, h5⟩ hz => ?_⟩
  · exact BA_gnn ⟨by show 0 ≤ 200; omega, b2, fun i d q => filI_b b3 q, b4⟩ (by omega) (fun _ => by show 0 < 200; omega)
  · have hg : gnn 0 (filI (tU α) 200, tN α, tS α, tR α, 0) = (va_up (filI (tU α) 200) 0 (some 0), va_up (tN α) 0 0, tS α, tR α, 1) := gnn_mk (filI_at (n := 200) (i := 0) (by omega))
    rw [hg]
    show AgC n0 _
    refine ⟨rfl, fun i hi => ?_, fun j hj => ?_⟩
    · show va_up (filI (tU α) 200) 0 (some 0) i = if i = 0 then some 0 else none
      simp only [va_up, filI_at hi]
    · have : j = 0 := by have hj' : j < 1 := hj; omega
      subst this
      show va_up (tN α) 0 0 0 = 0
      simp [va_up]
  · rw [hKK] at hx
    have hz : k < qZ (nal (cut (sM σ) (sE σ)) K k) := by
      rcases h3 with w | w
      · subst w; rw [h5.1] at hk; exact hk
      · exact w
    obtain ⟨g1, g2, g3⟩ := nrw_ok hK6 hWc hCc (hok k) hz x h2
    obtain ⟨c1, c2⟩ := g1.2.2.1 k g3
    obtain ⟨d, hd⟩ := hCc _ x c1 c2 hx
    have w := hWc.2.2 _ x d c1 (by omega) hd
    refine ⟨d, ?_, by omega, fun hu => ?_, h1, by omega, Or.inr hz, ?_⟩
    · rw [h5.2.2 k g3, ← cut_at (E := sE σ) (x := x) c1 (by omega)]; exact hd
    · rw [h5.2.1 d (by omega)] at hu
      rw [h5.1]
      have := g1.zlt w.2.2.1 hu
      omega
    · refine ⟨BA_gnn h4 (by omega) (fun hu => ?_), ?_⟩
      · rw [h5.2.1 d (by omega)] at hu
        rw [h5.1]
        have := g1.zlt w.2.2.1 hu
        omega
      · rw [nrw_some hd]; exact AgC_gnn h5 (by omega)
  · rw [hKK] at h5 h3
    have hz : k < qZ (nal (cut (sM σ) (sE σ)) K k) := by
      rcases h3 with w | w
      · rw [h5.1] at hk
        have e0 : nrw (cut (sM σ) (sE σ)) k (nal (cut (sM σ) (sE σ)) K k) K = nal (cut (sM σ) (sE σ)) K k := by rw [show nrw (cut (sM σ) (sE σ)) k (nal (cut (sM σ) (sE σ)) K k) K = nrw (cut (sM σ) (sE σ)) k (nal (cut (sM σ) (sE σ)) K k) 0 from congrArg _ w]; rfl
        rw [e0] at hk; exact hk
      · exact w
    have hb := h4.1
    refine ⟨by omega, by omega, Or.inl rfl, h4, ?_⟩
    show AgC (nal (cut (sM σ) (sE σ)) K (k + 1)) β
    rw [nal, if_pos hz]; exact h5
  · have h5' : AgC (nal (cut (sM σ) (sE σ)) K k) u := h5
    refine hF u h4 ?_
    unfold numF
    rcases hz with w | w
    · rw [h5'.1] at w
      rw [show 200 = k + (200 - k) by omega, nal_st w]; exact h5'
    · rw [show 200 = k by omega]; exact h5'
