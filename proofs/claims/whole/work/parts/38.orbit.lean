/-! the reference's orbit: lowest joined, by spreading -/
def idI (lo : Nat → Nat) (k : Nat) : Nat → Nat := match k with | 0 => lo | k + 1 => va_up (idI lo k) k k
theorem idI_at {lo : Nat → Nat} {k i : Nat} (h : i < k) : idI lo k i = i := by
  induction k with
  | zero => omega
  | succ k ih =>
    rw [idI]
    by_cases q : i = k
    · simp [va_up, q]
    · simp [va_up, q]; exact ih (by omega)
theorem idI_b {lo : Nat → Nat} (hlo : ∀ i, lo i < 200) {k : Nat} (hk : k ≤ 200) : ∀ i, idI lo k i < 200 := by
  induction k with
  | zero => exact hlo
  | succ k ih => intro i; rw [idI]; exact up_lt (ih (by omega)) (by omega)
def Conn (fs : Nat → Nat → Nat) (z ns a b : Nat) : Prop := ∀ P : Nat → Prop, (∀ d i, d < z → i < ns → (P d ↔ P (fs i d))) → (P a ↔ P b)
def OI (fs : Nat → Nat → Nat) (z ns : Nat) (lo : Nat → Nat) : Prop := ∀ k, k < z → lo k < z ∧ lo k ≤ k ∧ Conn fs z ns k (lo k)
def sumL (lo : Nat → Nat) (z : Nat) : Nat := match z with | 0 => 0 | z + 1 => sumL lo z + lo z
theorem sumL_up {lo : Nat → Nat} {z k v : Nat} (hk : k < z) (hv : v ≤ lo k) : sumL (va_up lo k v) z + (lo k - v) = sumL lo z := by
  induction z with
  | zero => omega
  | succ z ih =>
    rw [sumL, sumL]
    by_cases q : k = z
    · subst q
      have : ∀ j, j ≤ k → sumL (va_up lo k v) j = sumL lo j := by
        intro j
        induction j with
        | zero => intro _; rfl
        | succ j ihj => intro hj; rw [sumL, sumL, ihj (by omega)]; simp [va_up, show ¬ j = k by omega]
      rw [this k (Nat.le_refl _)]; simp [va_up]; omega
    · have := ih (by omega); have e : va_up lo k v z = lo z := by simp [va_up, show ¬ z = k by omega]
      rw [e]; omega
def OB (fs : Nat → Nat → Nat) (z ns : Nat) (l0 lo : Nat → Nat) (mo : Bool) (k w : Nat) : Prop := OI fs z ns lo ∧ (∀ i, lo i < 200) ∧ sumL lo z ≤ sumL l0 z ∧ (mo = true → sumL lo z < sumL l0 z) ∧ (mo = false → (∀ j v, j < k → v < ns → lo (fs v j) = lo j) ∧ ∀ v, v < w → lo (fs v k) = lo k)
def mn (a b : Nat) : Nat := if a < b then a else b
theorem mn_le (a b : Nat) : mn a b ≤ a ∧ mn a b ≤ b ∧ (mn a b = a ∨ mn a b = b) := by unfold mn; split <;> omega
theorem up_self {f : Nat → Nat} {k v : Nat} (h : f k = v) : va_up f k v = f := by
  funext j; by_cases q : j = k
  · subst q; simp [va_up, h]
  · simp [va_up, q]
theorem OB_step {fs : Nat → Nat → Nat} {z ns : Nat} {l0 lo : Nat → Nat} {mo mo' : Bool} {k w : Nat} (h : OB fs z ns l0 lo mo k w) (hz : z ≤ 200) (hk : k < z) (hw : w < ns) (hd : fs w k < z)
    (h1 : mo' = true → mo = true ∨ lo k ≠ mn (lo k) (lo (fs w k)) ∨ lo (fs w k) ≠ mn (lo k) (lo (fs w k))) (h2 : mo' = false → mo = false ∧ lo k = mn (lo k) (lo (fs w k)) ∧ lo (fs w k) = mn (lo k) (lo (fs w k))) :
    OB fs z ns l0 (va_up (va_up lo k (mn (lo k) (lo (fs w k)))) (fs w k) (mn (lo k) (lo (fs w k)))) mo' k (w + 1) := by
  obtain ⟨a1, a2, a3, a4, a5⟩ := h
  obtain ⟨m1, m2, m3⟩ := mn_le (lo k) (lo (fs w k))
  generalize hm : mn (lo k) (lo (fs w k)) = m at *
  obtain ⟨b1, b2, b3⟩ := a1 k hk
  obtain ⟨c1, c2, c3⟩ := a1 _ hd
  have hkd : Conn fs z ns k (fs w k) := fun P hP => hP k w hk hw
  have hmk : Conn fs z ns k m := by
    rcases m3 with e | e
    · rw [e]; exact b3
    · intro P hP; rw [hkd P hP, e]; exact c3 P hP
  have hmd : Conn fs z ns (fs w k) m := fun P hP => (hkd P hP).symm.trans (hmk P hP)
  have s1 := sumL_up (lo := lo) hk m1
  have e2 : va_up lo k m (fs w k) = if fs w k = k then m else lo (fs w k) := rfl
  have hv2 : m ≤ va_up lo k m (fs w k) := by rw [e2]; split <;> omega
  have s2 := sumL_up (lo := va_up lo k m) hd hv2
  refine ⟨?_, ?_, by omega, ?_, ?_⟩
  · intro j hj
    by_cases q : j = fs w k
    · subst q
      have e : va_up (va_up lo k m) (fs w k) m (fs w k) = m := by simp [va_up]
      rw [e]; exact ⟨by omega, by omega, hmd⟩
    · by_cases q2 : j = k
      · subst q2
        have e : va_up (va_up lo j m) (fs w j) m j = m := by simp [va_up, q]
        rw [e]; exact ⟨by omega, by omega, hmk⟩
      · have e : va_up (va_up lo k m) (fs w k) m j = lo j := by simp [va_up, q, q2]
        rw [e]; exact a1 j hj
  · intro i; exact up_lt (fun i => up_lt a2 (by omega)) (by omega)
  · intro hmo
    rcases h1 hmo with q | q | q
    · have := a4 q; omega
    · omega
    · by_cases q2 : fs w k = k
      · rw [q2] at q; omega
      · rw [e2, if_neg q2] at s2; omega
  · intro hmo
    obtain ⟨q1, q2, q3⟩ := h2 hmo
    have e : va_up (va_up lo k m) (fs w k) m = lo := by rw [up_self q2, up_self q3]
    rw [e]
    obtain ⟨r1, r2⟩ := a5 q1
    refine ⟨r1, fun v hv => ?_⟩
    by_cases q : v = w
    · rw [q, q2, q3]
    · exact r2 v (by omega)
theorem OB_next {fs : Nat → Nat → Nat} {z ns : Nat} {l0 lo : Nat → Nat} {mo : Bool} {k : Nat} (h : OB fs z ns l0 lo mo k ns) : OB fs z ns l0 lo mo (k + 1) 0 := by
  obtain ⟨a1, a2, a3, a4, a5⟩ := h
  refine ⟨a1, a2, a3, a4, fun q => ⟨fun j v hj hv => ?_, fun v hv => by omega⟩⟩
  obtain ⟨r1, r2⟩ := a5 q
  by_cases e : j = k
  · rw [e]; exact r2 v hv
  · exact r1 j v (by omega) hv
set_option maxHeartbeats 4000000 in
set_option maxRecDepth 100000 in
/-- reference: orbit(k) -/
theorem m_orbit (l : Launch) (D : va_G) (cI cZ cW : ClassId) (g gL gS gW gT gO gP gU gA gE gQ : Nat) (ρ : RS) (hcm : cmpl ρ) (F : RS → Prop) (hNum : NumOK ρ F) (hFB : ∀ τ, F τ → BR τ) (hB : BR ρ) (fs : Nat → Nat → Nat) (hfs : ∀ τ, F τ → ∀ i, i < rSu τ → ImFR τ (10 + i) (fs i)) (k : Nat) (hk2 : k < 200) (hk : ∀ τ, F τ → k < rNd τ) : CtI l yX6_orbit cX6_orbit 7 (some .int) 3 65 0 0 D cI cZ cW [.ref g, .int (nI k)] (wR cI cZ g gL gS gW gT gO gP gU gA gE gQ ρ) ([]) (S := RS) (fun r u => ∃ τ lo, F τ ∧ r = nI (lo k) ∧ OI fs (rNd τ) (rSu τ) lo ∧ (∀ i, lo i < 200) ∧ (∀ j v, j < rNd τ → v < rSu τ → lo (fs v j) = lo j) ∧ u = gLo τ lo) (fun u => wR cI cZ g gL gS gW gT gO gP gU gA gE gQ u) := by
  refine CtI.mk (by decide) (Nat.le_of_ble_eq_true rfl) ?_
  intro p e s m args below meth c A hc hr hlk hnm hro
  generalize hQ : MQ below _ args s 0 0 A = Q
  have hB0 := hB
  obtain ⟨bn, bLe, bSz, bRe, bSu, bMd, bNw, bTb, bPr, bOn, bTw, bNu, bNa, bNd, bLo⟩ := hB
  show V p l e (RM 3 65 0 0) s m args below meth c D A 7 0 0 Q (wR cI cZ g gL gS gW gT gO gP gU gA gE gQ ρ) 0 [(0, .ref g), (1, .int (nI k))] []
  refine r_aload_n hc dX6_orbit_0 rfl 0 rfl ?_
  refine r_callI (As := []) (n := 0) (wr := []) hc (m_numberAll l D cI cZ cW g gL gS gW gT gO gP gU gA gE gQ ρ hcm F hNum hB0) co_yX6_numberAll in_X6 ml_X6_119 (by decide +kernel) rfl ⟨by decide, by decide⟩ ⟨by decide, by decide⟩ im_yX6_numberAll se_yX6_numberAll rfl (Or.inl ⟨0, _, rfl⟩) rfl (Nat.le_of_ble_eq_true rfl) [0, 1, 2, 3, 4, 5, 6, 7, 8, 9, 10] [] rfl rfl rfl rfl (by decide) (fun q hq => absurd hq List.not_mem_nil) dX6_orbit_1 (fun r τ e1 => ?_)
  show V p l e (RM 3 65 0 0) s m args below meth c D A 7 0 0 Q (wR cI cZ g gL gS gW gT gO gP gU gA gE gQ τ) 4 [(0, .ref g), (1, .int (nI k))] [.int r]
  obtain ⟨rfl, hFt⟩ := e1
  show V p l e (RM 3 65 0 0) s m args below meth c D A 7 0 0 Q (wR cI cZ g gL gS gW gT gO gP gU gA gE gQ τ) 4 [(0, .ref g), (1, .int (nI k))] [.int (zI true)]
  have hBt := hFB τ hFt
  obtain ⟨tn, tLe, tSz, tRe, tSu, tMd, tNw, tTb, tPr, tOn, tTw, tNu, tNa, tNd, tLo⟩ := id hBt
  refine z_if_eq hc 15 dX6_orbit_4 (by decide) (fun h2 => ?_) (fun h2 => ?_)
  · cases h2
  · refine r_aload_n hc dX6_orbit_7 rfl 0 rfl ?_
    refine r_iload_n hc dX6_orbit_8 rfl 1 rfl ?_
    refine r_callI (As := [.int (nI k)]) (n := 1) (wr := wR cI cZ g gL gS gW gT gO gP gU gA gE gQ τ) hc (m_isNumber l D cI cZ cW g gL gS gW gT gO gP gU gA gE gQ τ (nI k) hBt) co_yX6_isNumber in_X6 ml_X6_122 (by decide +kernel) rfl ⟨by decide, by decide⟩ ⟨by decide, by decide⟩ im_yX6_isNumber se_yX6_isNumber rfl (Or.inl ⟨0, _, rfl⟩) rfl (Nat.le_of_ble_eq_true rfl) [] [0, 1, 2, 3, 4, 5, 6, 7, 8, 9, 10] rfl rfl rfl rfl (by decide) (fun q hq => Or.inl ((List.getElem?_of_mem hq).elim fun k hk => ⟨k, hk, List.not_mem_nil⟩)) dX6_orbit_9 (fun r3 u4 e5 => ?_)
    subst e5
    rw [inN_n (by omega)]
    refine z_if_ne hc 17 dX6_orbit_12 (by decide) (fun h6 => ?_) (fun h6 => ?_)
    · have hkd := hk τ hFt
      refine r_iconst (v := (nI 0)) hc dX6_orbit_17 rfl ?_
      refine r_istore_n (lv' := [(2, .int (nI 0)), (0, .ref g), (1, .int (nI k))]) hc dX6_orbit_18 rfl (by decide) rfl ?_
      have lp19 : ∀ (n : Nat) (k2 : Nat), rNd τ - k2 = n → (k2 ≤ rNd τ) → V p l e (RM 3 65 0 0) s m args below meth c D A 7 0 0 Q (wY cI cZ g gL gS gW gT gO gP gU gA gE gQ (rN τ) (rLe τ) (rSz τ) (rRe τ) (rSu τ) (rMd τ) (rNw τ) (rTb τ) (rCh τ) (rPr τ) (rOn τ) (rTw τ) (rNu τ) (rNa τ) (rNd τ) (rSe τ) (idI (rLo τ) k2)) 19 [(2, .int (nI k2)), (0, .ref g), (1, .int (nI k))] [] := by
        intro n
        induction n using Nat.strongRecOn with
        | _ n ih19 =>
        intro k2 hm19 hk3
        refine r_iload_n hc dX6_orbit_19 rfl 0 rfl ?_
        refine r_aload_n hc dX6_orbit_20 rfl 1 rfl ?_
        refine r_get hc inlX6 0 rfl rfl 14 (by decide) fl_X6_116 rfl rfl dX6_orbit_21 ?_
        refine n_icmp_ge hc 40 dX6_orbit_24 (by decide) (by omega) (by omega) (fun h7 => ?_) (fun h7 => ?_)
        · have hk9 : k2 = rNd τ := by omega
          rw [hk9]
          show V p l e (RM 3 65 0 0) s m args below meth c D A 7 0 0 Q (wY cI cZ g gL gS gW gT gO gP gU gA gE gQ (rN τ) (rLe τ) (rSz τ) (rRe τ) (rSu τ) (rMd τ) (rNw τ) (rTb τ) (rCh τ) (rPr τ) (rOn τ) (rTw τ) (rNu τ) (rNa τ) (rNd τ) (rSe τ) (idI (rLo τ) (rNd τ))) 40 [(2, .int (nI (rNd τ))), (0, .ref g), (1, .int (nI k))] []
          refine r_iconst (v := (nI 1)) hc dX6_orbit_40 rfl ?_
          refine r_istore_n (lv' := [(2, .int (nI 1)), (0, .ref g), (1, .int (nI k))]) hc dX6_orbit_41 rfl (by decide) rfl ?_
          have lp42 : ∀ (n : Nat) (lo : Nat → Nat) (mo : Bool), (if mo = true then sumL lo (rNd τ) + 1 else 0) = n → (OI fs (rNd τ) (rSu τ) lo) → (∀ i, lo i < 200) → (mo = false → ∀ j v, j < rNd τ → v < rSu τ → lo (fs v j) = lo j) → V p l e (RM 3 65 0 0) s m args below meth c D A 7 0 0 Q (wY cI cZ g gL gS gW gT gO gP gU gA gE gQ (rN τ) (rLe τ) (rSz τ) (rRe τ) (rSu τ) (rMd τ) (rNw τ) (rTb τ) (rCh τ) (rPr τ) (rOn τ) (rTw τ) (rNu τ) (rNa τ) (rNd τ) (rSe τ) lo) 42 [(2, .int (zI mo)), (0, .ref g), (1, .int (nI k))] [] := by
            intro n
            induction n using Nat.strongRecOn with
            | _ n ih42 =>
            intro lo mo hm42 hOI hlb hfx
            refine r_iload_n hc dX6_orbit_42 rfl 0 rfl ?_
            refine z_if_eq hc 181 dX6_orbit_43 (by decide) (fun h8 => ?_) (fun h8 => ?_)
            · refine r_aload_n hc dX6_orbit_181 rfl 1 rfl ?_
              refine r_get hc inlX6 0 rfl rfl 16 (by decide) fl_X6_38 rfl rfl dX6_orbit_182 ?_
              refine r_iload_n hc dX6_orbit_185 rfl 2 rfl ?_
              refine r_iald hc nI 10 rfl (by omega) (by decide) dX6_orbit_186 ?_
              rw [← hQ]
              exact r_iret hc hr hlk (gLo τ lo) ⟨τ, lo, hFt, rfl, hOI, hlb, hfx h8, rfl⟩ rfl dX6_orbit_187
            · have hmo : mo = true := h8
              refine r_iconst (v := (nI 0)) hc dX6_orbit_46 rfl ?_
              refine r_istore_n (lv' := [(2, .int (nI 0)), (0, .ref g), (1, .int (nI k))]) hc dX6_orbit_47 rfl (by decide) rfl ?_
              refine r_iconst (v := (nI 0)) hc dX6_orbit_48 rfl ?_
              refine r_istore_n (lv' := [(3, .int (nI 0)), (2, .int (nI 0)), (0, .ref g), (1, .int (nI k))]) hc dX6_orbit_49 rfl (by decide) rfl ?_
              have lp50 : ∀ (n : Nat) (lo1 : Nat → Nat) (mo1 : Bool) (k1 : Nat), rNd τ - k1 = n → (OB fs (rNd τ) (rSu τ) lo lo1 mo1 k1 0) → (k1 ≤ rNd τ) → V p l e (RM 3 65 0 0) s m args below meth c D A 7 0 0 Q (wY cI cZ g gL gS gW gT gO gP gU gA gE gQ (rN τ) (rLe τ) (rSz τ) (rRe τ) (rSu τ) (rMd τ) (rNw τ) (rTb τ) (rCh τ) (rPr τ) (rOn τ) (rTw τ) (rNu τ) (rNa τ) (rNd τ) (rSe τ) lo1) 50 [(3, .int (nI k1)), (2, .int (zI mo1)), (0, .ref g), (1, .int (nI k))] [] := by
                intro n
                induction n using Nat.strongRecOn with
                | _ n ih50 =>
                intro lo1 mo1 k1 hm50 hB1 hk1
                refine r_iload_n hc dX6_orbit_50 rfl 0 rfl ?_
                refine r_aload_n hc dX6_orbit_51 rfl 2 rfl ?_
                refine r_get hc inlX6 0 rfl rfl 14 (by decide) fl_X6_116 rfl rfl dX6_orbit_52 ?_
                refine n_icmp_ge hc 178 dX6_orbit_55 (by decide) (by omega) (by omega) (fun h9 => ?_) (fun h9 => ?_)
                · have hk9 : k1 = rNd τ := by omega
                  rw [hk9] at hB1
                  refine r_goto hc 42 dX6_orbit_178 (by decide) ?_
                  refine r_lv [1, 2, 3] rfl ?_
                  exact ih42 _ (by rw [← hm42, if_pos hmo]; exact if q : mo1 = true then (by rw [if_pos q]; have := hB1.2.2.2.1 q; omega) else (by rw [if_neg q]; omega)) lo1 mo1 rfl hB1.1 hB1.2.1 (fun q j v hj hv => (hB1.2.2.2.2 q).1 j v (by omega) hv)
                · refine r_iconst (v := (nI 0)) hc dX6_orbit_58 rfl ?_
                  refine r_istore (lv' := [(4, .int (nI 0)), (3, .int (nI k1)), (2, .int (zI mo1)), (0, .ref g), (1, .int (nI k))]) hc dX6_orbit_59 (by decide) rfl ?_
                  have lp61 : ∀ (n : Nat) (lo2 : Nat → Nat) (mo2 : Bool) (w1 : Nat), rSu τ - w1 = n → (OB fs (rNd τ) (rSu τ) lo lo2 mo2 k1 w1) → (w1 ≤ rSu τ) → V p l e (RM 3 65 0 0) s m args below meth c D A 7 0 0 Q (wY cI cZ g gL gS gW gT gO gP gU gA gE gQ (rN τ) (rLe τ) (rSz τ) (rRe τ) (rSu τ) (rMd τ) (rNw τ) (rTb τ) (rCh τ) (rPr τ) (rOn τ) (rTw τ) (rNu τ) (rNa τ) (rNd τ) (rSe τ) lo2) 61 [(4, .int (nI w1)), (3, .int (nI k1)), (2, .int (zI mo2)), (0, .ref g), (1, .int (nI k))] [] := by
                    intro n
                    induction n using Nat.strongRecOn with
                    | _ n ih61 =>
                    intro lo2 mo2 w1 hm61 hB2 hw1
                    have l2b := hB2.2.1
                    refine r_iload hc dX6_orbit_61 0 rfl ?_
                    refine r_aload_n hc dX6_orbit_63 rfl 3 rfl ?_
                    refine r_get hc inlX6 0 rfl rfl 4 (by decide) fl_X6_55 rfl rfl dX6_orbit_64 ?_
                    refine n_icmp_ge hc 172 dX6_orbit_67 (by decide) (by omega) (by omega) (fun h10 => ?_) (fun h10 => ?_)
                    · have hw9 : w1 = rSu τ := by omega
                      refine r_iinc (k := 1) (v := (nI (k1 + 1))) (lv' := [(3, .int (nI (k1 + 1))), (4, .int (nI w1)), (2, .int (zI mo2)), (0, .ref g), (1, .int (nI k))]) hc dX6_orbit_172 rfl (nI_add _ _) (by decide) rfl ?_
                      refine r_goto hc 50 dX6_orbit_175 (by decide) ?_
                      refine r_lv [0, 2, 3, 4] rfl ?_
                      exact ih50 _ (by omega) lo2 mo2 (k1 + 1) rfl (OB_next (hw9 ▸ hB2)) (by omega)
                    · refine r_aload_n hc dX6_orbit_70 rfl 3 rfl ?_
                      refine r_bipush (v := (nI 10)) hc dX6_orbit_71 rfl ?_
                      refine r_iload hc dX6_orbit_73 0 rfl ?_
                      refine n_add hc dX6_orbit_75 ?_
                      refine r_iload_n hc dX6_orbit_76 rfl 1 rfl ?_
                      obtain ⟨f1, f2⟩ := hfs τ hFt w1 h10 k1 h9
                      refine r_callI (As := [.int (nI (10 + w1)), .int (nI k1)]) (n := 2) (wr := wY cI cZ g gL gS gW gT gO gP gU gA gE gQ (rN τ) (rLe τ) (rSz τ) (rRe τ) (rSu τ) (rMd τ) (rNw τ) (rTb τ) (rCh τ) (rPr τ) (rOn τ) (rTw τ) (rNu τ) (rNa τ) (rNd τ) (rSe τ) lo2) hc (m_moved l D cI cZ cW g gL gS gW gT gO gP gU gA gE gQ (rN τ, rLe τ, rSz τ, rRe τ, rSu τ, rMd τ, rNw τ, rTb τ, rCh τ, rPr τ, rOn τ, rTw τ, rNu τ, rNa τ, rNd τ, rSe τ, lo2) (10 + w1) k1 (fs w1 k1) (by omega) (by omega) f2 (show BR (rN τ, rLe τ, rSz τ, rRe τ, rSu τ, rMd τ, rNw τ, rTb τ, rCh τ, rPr τ, rOn τ, rTw τ, rNu τ, rNa τ, rNd τ, rSe τ, lo2) from ⟨tn, tLe, tSz, tRe, tSu, tMd, tNw, tTb, tPr, tOn, tTw, tNu, tNa, tNd, l2b⟩)) co_yX6_moved in_X6 ml_X6_125 (by decide +kernel) rfl ⟨by decide, by decide⟩ ⟨by decide, by decide⟩ im_yX6_moved se_yX6_moved rfl (Or.inl ⟨0, _, rfl⟩) rfl (Nat.le_of_ble_eq_true rfl) [] [0, 1, 2, 3, 4, 5, 6, 7, 8, 9, 10] rfl rfl rfl rfl (by decide) (fun q hq => Or.inl ((List.getElem?_of_mem hq).elim fun k hk => ⟨k, hk, List.not_mem_nil⟩)) dX6_orbit_77 (fun r11 u12 e13 => ?_)
                      subst e13
                      show V p l e (RM 3 65 0 0) s m args below meth c D A 7 0 0 Q (wY cI cZ g gL gS gW gT gO gP gU gA gE gQ (rN τ) (rLe τ) (rSz τ) (rRe τ) (rSu τ) (rMd τ) (rNw τ) (rTb τ) (rCh τ) (rPr τ) (rOn τ) (rTw τ) (rNu τ) (rNa τ) (rNd τ) (rSe τ) lo2) 80 [(4, .int (nI w1)), (3, .int (nI k1)), (2, .int (zI mo2)), (0, .ref g), (1, .int (nI k))] [.int (nI (fs w1 k1))]
                      refine r_istore (lv' := [(5, .int (nI (fs w1 k1))), (4, .int (nI w1)), (3, .int (nI k1)), (2, .int (zI mo2)), (0, .ref g), (1, .int (nI k))]) hc dX6_orbit_80 (by decide) rfl ?_
                      refine r_aload_n hc dX6_orbit_82 rfl 4 rfl ?_
                      refine r_get hc inlX6 0 rfl rfl 16 (by decide) fl_X6_38 rfl rfl dX6_orbit_83 ?_
                      refine r_iload_n hc dX6_orbit_86 rfl 2 rfl ?_
                      have b14 := l2b k1
                      refine r_iald hc nI 10 rfl (by omega) (by decide) dX6_orbit_87 ?_
                      refine r_aload_n hc dX6_orbit_88 rfl 4 rfl ?_
                      refine r_get hc inlX6 0 rfl rfl 16 (by decide) fl_X6_38 rfl rfl dX6_orbit_89 ?_
                      refine r_iload hc dX6_orbit_92 0 rfl ?_
                      have b15 := l2b (fs w1 k1)
                      refine r_iald hc nI 10 rfl (by omega) (by decide) dX6_orbit_94 ?_
                      refine n_icmp_ge hc 107 dX6_orbit_95 (by decide) (by omega) (by omega) (fun h16 => ?_) (fun h16 => ?_)
                      · have hmn : (mn (lo2 k1) (lo2 (fs w1 k1))) = lo2 (fs w1 k1) := by unfold mn; rw [if_neg (by omega)]
                        refine r_aload_n hc dX6_orbit_107 rfl 4 rfl ?_
                        refine r_get hc inlX6 0 rfl rfl 16 (by decide) fl_X6_38 rfl rfl dX6_orbit_108 ?_
                        refine r_iload hc dX6_orbit_111 0 rfl ?_
                        have b17 := l2b (fs w1 k1)
                        refine r_iald hc nI 10 rfl (by omega) (by decide) dX6_orbit_113 ?_
                        rw [← hmn]
                        show V p l e (RM 3 65 0 0) s m args below meth c D A 7 0 0 Q (wY cI cZ g gL gS gW gT gO gP gU gA gE gQ (rN τ) (rLe τ) (rSz τ) (rRe τ) (rSu τ) (rMd τ) (rNw τ) (rTb τ) (rCh τ) (rPr τ) (rOn τ) (rTw τ) (rNu τ) (rNa τ) (rNd τ) (rSe τ) lo2) 114 [(5, .int (nI (fs w1 k1))), (4, .int (nI w1)), (3, .int (nI k1)), (2, .int (zI mo2)), (0, .ref g), (1, .int (nI k))] [.int (nI (mn (lo2 k1) (lo2 (fs w1 k1))))]
                        obtain ⟨m1, m2, m3⟩ := mn_le (lo2 k1) (lo2 (fs w1 k1))
                        refine r_istore (lv' := [(6, .int (nI (mn (lo2 k1) (lo2 (fs w1 k1))))), (5, .int (nI (fs w1 k1))), (4, .int (nI w1)), (3, .int (nI k1)), (2, .int (zI mo2)), (0, .ref g), (1, .int (nI k))]) hc dX6_orbit_114 (by decide) rfl ?_
                        refine r_iload_n hc dX6_orbit_116 rfl 4 rfl ?_
                        refine z_if_ne hc 143 dX6_orbit_117 (by decide) (fun h18 => ?_) (fun h18 => ?_)
                        · refine r_iconst (v := (nI 1)) hc dX6_orbit_143 rfl ?_
                          refine r_goto hc 148 dX6_orbit_144 (by decide) ?_
                          refine r_istore_n (lv' := [(2, .int (nI 1)), (6, .int (nI (mn (lo2 k1) (lo2 (fs w1 k1))))), (5, .int (nI (fs w1 k1))), (4, .int (nI w1)), (3, .int (nI k1)), (0, .ref g), (1, .int (nI k))]) hc dX6_orbit_148 rfl (by decide) rfl ?_
                          show V p l e (RM 3 65 0 0) s m args below meth c D A 7 0 0 Q (wY cI cZ g gL gS gW gT gO gP gU gA gE gQ (rN τ) (rLe τ) (rSz τ) (rRe τ) (rSu τ) (rMd τ) (rNw τ) (rTb τ) (rCh τ) (rPr τ) (rOn τ) (rTw τ) (rNu τ) (rNa τ) (rNd τ) (rSe τ) lo2) 149 [(2, .int (zI true)), (6, .int (nI (mn (lo2 k1) (lo2 (fs w1 k1))))), (5, .int (nI (fs w1 k1))), (4, .int (nI w1)), (3, .int (nI k1)), (0, .ref g), (1, .int (nI k))] []
                          have hBn := OB_step (mo' := true) hB2 tNd h9 h10 f1 (fun _ => Or.inl h18) (fun q => by cases q)
                          refine r_aload_n hc dX6_orbit_149 rfl 5 rfl ?_
                          refine r_get hc inlX6 0 rfl rfl 16 (by decide) fl_X6_38 rfl rfl dX6_orbit_150 ?_
                          refine r_iload_n hc dX6_orbit_153 rfl 4 rfl ?_
                          refine r_iload hc dX6_orbit_154 1 rfl ?_
                          refine r_iast (ws' := wY cI cZ g gL gS gW gT gO gP gU gA gE gQ (rN τ) (rLe τ) (rSz τ) (rRe τ) (rSu τ) (rMd τ) (rNw τ) (rTb τ) (rCh τ) (rPr τ) (rOn τ) (rTw τ) (rNu τ) (rNa τ) (rNd τ) (rSe τ) (va_up lo2 k1 (mn (lo2 k1) (lo2 (fs w1 k1))))) hc nI (mn (lo2 k1) (lo2 (fs w1 k1))) 10 rfl (by omega) (by decide) rfl dX6_orbit_156 ?_
                          refine r_aload_n hc dX6_orbit_157 rfl 5 rfl ?_
                          refine r_get hc inlX6 0 rfl rfl 16 (by decide) fl_X6_38 rfl rfl dX6_orbit_158 ?_
                          refine r_iload hc dX6_orbit_161 2 rfl ?_
                          refine r_iload hc dX6_orbit_163 1 rfl ?_
                          refine r_iast (ws' := wY cI cZ g gL gS gW gT gO gP gU gA gE gQ (rN τ) (rLe τ) (rSz τ) (rRe τ) (rSu τ) (rMd τ) (rNw τ) (rTb τ) (rCh τ) (rPr τ) (rOn τ) (rTw τ) (rNu τ) (rNa τ) (rNd τ) (rSe τ) (va_up (va_up lo2 k1 (mn (lo2 k1) (lo2 (fs w1 k1)))) (fs w1 k1) (mn (lo2 k1) (lo2 (fs w1 k1))))) hc nI (mn (lo2 k1) (lo2 (fs w1 k1))) 10 rfl (by omega) (by decide) rfl dX6_orbit_165 ?_
                          refine r_iinc (k := 3) (v := (nI (w1 + 1))) (lv' := [(4, .int (nI (w1 + 1))), (2, .int (zI true)), (6, .int (nI (mn (lo2 k1) (lo2 (fs w1 k1))))), (5, .int (nI (fs w1 k1))), (3, .int (nI k1)), (0, .ref g), (1, .int (nI k))]) hc dX6_orbit_166 rfl (nI_add _ _) (by decide) rfl ?_
                          refine r_goto hc 61 dX6_orbit_169 (by decide) ?_
                          refine r_lv [0, 4, 1, 5, 6] rfl ?_
                          exact ih61 _ (by omega) _ true (w1 + 1) rfl hBn (by omega)
                        · refine r_aload_n hc dX6_orbit_120 rfl 5 rfl ?_
                          refine r_get hc inlX6 0 rfl rfl 16 (by decide) fl_X6_38 rfl rfl dX6_orbit_121 ?_
                          refine r_iload_n hc dX6_orbit_124 rfl 3 rfl ?_
                          have b19 := l2b k1
                          refine r_iald hc nI 10 rfl (by omega) (by decide) dX6_orbit_125 ?_
                          refine r_iload hc dX6_orbit_126 0 rfl ?_
                          refine n_icmp_ne hc 143 dX6_orbit_128 (by decide) (by omega) (by omega) (fun h20 => ?_) (fun h20 => ?_)
                          · refine r_iconst (v := (nI 1)) hc dX6_orbit_143 rfl ?_
                            refine r_goto hc 148 dX6_orbit_144 (by decide) ?_
                            refine r_istore_n (lv' := [(2, .int (nI 1)), (6, .int (nI (mn (lo2 k1) (lo2 (fs w1 k1))))), (5, .int (nI (fs w1 k1))), (4, .int (nI w1)), (3, .int (nI k1)), (0, .ref g), (1, .int (nI k))]) hc dX6_orbit_148 rfl (by decide) rfl ?_
                            show V p l e (RM 3 65 0 0) s m args below meth c D A 7 0 0 Q (wY cI cZ g gL gS gW gT gO gP gU gA gE gQ (rN τ) (rLe τ) (rSz τ) (rRe τ) (rSu τ) (rMd τ) (rNw τ) (rTb τ) (rCh τ) (rPr τ) (rOn τ) (rTw τ) (rNu τ) (rNa τ) (rNd τ) (rSe τ) lo2) 149 [(2, .int (zI true)), (6, .int (nI (mn (lo2 k1) (lo2 (fs w1 k1))))), (5, .int (nI (fs w1 k1))), (4, .int (nI w1)), (3, .int (nI k1)), (0, .ref g), (1, .int (nI k))] []
                            have hBn := OB_step (mo' := true) hB2 tNd h9 h10 f1 (fun _ => Or.inr (Or.inl h20)) (fun q => by cases q)
                            refine r_aload_n hc dX6_orbit_149 rfl 5 rfl ?_
                            refine r_get hc inlX6 0 rfl rfl 16 (by decide) fl_X6_38 rfl rfl dX6_orbit_150 ?_
                            refine r_iload_n hc dX6_orbit_153 rfl 4 rfl ?_
                            refine r_iload hc dX6_orbit_154 1 rfl ?_
                            refine r_iast (ws' := wY cI cZ g gL gS gW gT gO gP gU gA gE gQ (rN τ) (rLe τ) (rSz τ) (rRe τ) (rSu τ) (rMd τ) (rNw τ) (rTb τ) (rCh τ) (rPr τ) (rOn τ) (rTw τ) (rNu τ) (rNa τ) (rNd τ) (rSe τ) (va_up lo2 k1 (mn (lo2 k1) (lo2 (fs w1 k1))))) hc nI (mn (lo2 k1) (lo2 (fs w1 k1))) 10 rfl (by omega) (by decide) rfl dX6_orbit_156 ?_
                            refine r_aload_n hc dX6_orbit_157 rfl 5 rfl ?_
                            refine r_get hc inlX6 0 rfl rfl 16 (by decide) fl_X6_38 rfl rfl dX6_orbit_158 ?_
                            refine r_iload hc dX6_orbit_161 2 rfl ?_
                            refine r_iload hc dX6_orbit_163 1 rfl ?_
                            refine r_iast (ws' := wY cI cZ g gL gS gW gT gO gP gU gA gE gQ (rN τ) (rLe τ) (rSz τ) (rRe τ) (rSu τ) (rMd τ) (rNw τ) (rTb τ) (rCh τ) (rPr τ) (rOn τ) (rTw τ) (rNu τ) (rNa τ) (rNd τ) (rSe τ) (va_up (va_up lo2 k1 (mn (lo2 k1) (lo2 (fs w1 k1)))) (fs w1 k1) (mn (lo2 k1) (lo2 (fs w1 k1))))) hc nI (mn (lo2 k1) (lo2 (fs w1 k1))) 10 rfl (by omega) (by decide) rfl dX6_orbit_165 ?_
                            refine r_iinc (k := 3) (v := (nI (w1 + 1))) (lv' := [(4, .int (nI (w1 + 1))), (2, .int (zI true)), (6, .int (nI (mn (lo2 k1) (lo2 (fs w1 k1))))), (5, .int (nI (fs w1 k1))), (3, .int (nI k1)), (0, .ref g), (1, .int (nI k))]) hc dX6_orbit_166 rfl (nI_add _ _) (by decide) rfl ?_
                            refine r_goto hc 61 dX6_orbit_169 (by decide) ?_
                            refine r_lv [0, 4, 1, 5, 6] rfl ?_
                            exact ih61 _ (by omega) _ true (w1 + 1) rfl hBn (by omega)
                          · refine r_aload_n hc dX6_orbit_131 rfl 5 rfl ?_
                            refine r_get hc inlX6 0 rfl rfl 16 (by decide) fl_X6_38 rfl rfl dX6_orbit_132 ?_
                            refine r_iload hc dX6_orbit_135 1 rfl ?_
                            have b21 := l2b (fs w1 k1)
                            refine r_iald hc nI 10 rfl (by omega) (by decide) dX6_orbit_137 ?_
                            refine r_iload hc dX6_orbit_138 0 rfl ?_
                            refine n_icmp_eq hc 147 dX6_orbit_140 (by decide) (by omega) (by omega) (fun h22 => ?_) (fun h22 => ?_)
                            · refine r_iconst (v := (nI 0)) hc dX6_orbit_147 rfl ?_
                              refine r_istore_n (lv' := [(2, .int (nI 0)), (6, .int (nI (mn (lo2 k1) (lo2 (fs w1 k1))))), (5, .int (nI (fs w1 k1))), (4, .int (nI w1)), (3, .int (nI k1)), (0, .ref g), (1, .int (nI k))]) hc dX6_orbit_148 rfl (by decide) rfl ?_
                              show V p l e (RM 3 65 0 0) s m args below meth c D A 7 0 0 Q (wY cI cZ g gL gS gW gT gO gP gU gA gE gQ (rN τ) (rLe τ) (rSz τ) (rRe τ) (rSu τ) (rMd τ) (rNw τ) (rTb τ) (rCh τ) (rPr τ) (rOn τ) (rTw τ) (rNu τ) (rNa τ) (rNd τ) (rSe τ) lo2) 149 [(2, .int (zI false)), (6, .int (nI (mn (lo2 k1) (lo2 (fs w1 k1))))), (5, .int (nI (fs w1 k1))), (4, .int (nI w1)), (3, .int (nI k1)), (0, .ref g), (1, .int (nI k))] []
                              have hBn := OB_step (mo' := false) hB2 tNd h9 h10 f1 (fun q => by cases q) (fun _ => ⟨h18, h20, h22⟩)
                              refine r_aload_n hc dX6_orbit_149 rfl 5 rfl ?_
                              refine r_get hc inlX6 0 rfl rfl 16 (by decide) fl_X6_38 rfl rfl dX6_orbit_150 ?_
                              refine r_iload_n hc dX6_orbit_153 rfl 4 rfl ?_
                              refine r_iload hc dX6_orbit_154 1 rfl ?_
                              refine r_iast (ws' := wY cI cZ g gL gS gW gT gO gP gU gA gE gQ (rN τ) (rLe τ) (rSz τ) (rRe τ) (rSu τ) (rMd τ) (rNw τ) (rTb τ) (rCh τ) (rPr τ) (rOn τ) (rTw τ) (rNu τ) (rNa τ) (rNd τ) (rSe τ) (va_up lo2 k1 (mn (lo2 k1) (lo2 (fs w1 k1))))) hc nI (mn (lo2 k1) (lo2 (fs w1 k1))) 10 rfl (by omega) (by decide) rfl dX6_orbit_156 ?_
                              refine r_aload_n hc dX6_orbit_157 rfl 5 rfl ?_
                              refine r_get hc inlX6 0 rfl rfl 16 (by decide) fl_X6_38 rfl rfl dX6_orbit_158 ?_
                              refine r_iload hc dX6_orbit_161 2 rfl ?_
                              refine r_iload hc dX6_orbit_163 1 rfl ?_
                              refine r_iast (ws' := wY cI cZ g gL gS gW gT gO gP gU gA gE gQ (rN τ) (rLe τ) (rSz τ) (rRe τ) (rSu τ) (rMd τ) (rNw τ) (rTb τ) (rCh τ) (rPr τ) (rOn τ) (rTw τ) (rNu τ) (rNa τ) (rNd τ) (rSe τ) (va_up (va_up lo2 k1 (mn (lo2 k1) (lo2 (fs w1 k1)))) (fs w1 k1) (mn (lo2 k1) (lo2 (fs w1 k1))))) hc nI (mn (lo2 k1) (lo2 (fs w1 k1))) 10 rfl (by omega) (by decide) rfl dX6_orbit_165 ?_
                              refine r_iinc (k := 3) (v := (nI (w1 + 1))) (lv' := [(4, .int (nI (w1 + 1))), (2, .int (zI false)), (6, .int (nI (mn (lo2 k1) (lo2 (fs w1 k1))))), (5, .int (nI (fs w1 k1))), (3, .int (nI k1)), (0, .ref g), (1, .int (nI k))]) hc dX6_orbit_166 rfl (nI_add _ _) (by decide) rfl ?_
                              refine r_goto hc 61 dX6_orbit_169 (by decide) ?_
                              refine r_lv [0, 4, 1, 5, 6] rfl ?_
                              exact ih61 _ (by omega) _ false (w1 + 1) rfl hBn (by omega)
                            · refine r_iconst (v := (nI 1)) hc dX6_orbit_143 rfl ?_
                              refine r_goto hc 148 dX6_orbit_144 (by decide) ?_
                              refine r_istore_n (lv' := [(2, .int (nI 1)), (6, .int (nI (mn (lo2 k1) (lo2 (fs w1 k1))))), (5, .int (nI (fs w1 k1))), (4, .int (nI w1)), (3, .int (nI k1)), (0, .ref g), (1, .int (nI k))]) hc dX6_orbit_148 rfl (by decide) rfl ?_
                              show V p l e (RM 3 65 0 0) s m args below meth c D A 7 0 0 Q (wY cI cZ g gL gS gW gT gO gP gU gA gE gQ (rN τ) (rLe τ) (rSz τ) (rRe τ) (rSu τ) (rMd τ) (rNw τ) (rTb τ) (rCh τ) (rPr τ) (rOn τ) (rTw τ) (rNu τ) (rNa τ) (rNd τ) (rSe τ) lo2) 149 [(2, .int (zI true)), (6, .int (nI (mn (lo2 k1) (lo2 (fs w1 k1))))), (5, .int (nI (fs w1 k1))), (4, .int (nI w1)), (3, .int (nI k1)), (0, .ref g), (1, .int (nI k))] []
                              have hBn := OB_step (mo' := true) hB2 tNd h9 h10 f1 (fun _ => Or.inr (Or.inr h22)) (fun q => by cases q)
                              refine r_aload_n hc dX6_orbit_149 rfl 5 rfl ?_
                              refine r_get hc inlX6 0 rfl rfl 16 (by decide) fl_X6_38 rfl rfl dX6_orbit_150 ?_
                              refine r_iload_n hc dX6_orbit_153 rfl 4 rfl ?_
                              refine r_iload hc dX6_orbit_154 1 rfl ?_
                              refine r_iast (ws' := wY cI cZ g gL gS gW gT gO gP gU gA gE gQ (rN τ) (rLe τ) (rSz τ) (rRe τ) (rSu τ) (rMd τ) (rNw τ) (rTb τ) (rCh τ) (rPr τ) (rOn τ) (rTw τ) (rNu τ) (rNa τ) (rNd τ) (rSe τ) (va_up lo2 k1 (mn (lo2 k1) (lo2 (fs w1 k1))))) hc nI (mn (lo2 k1) (lo2 (fs w1 k1))) 10 rfl (by omega) (by decide) rfl dX6_orbit_156 ?_
                              refine r_aload_n hc dX6_orbit_157 rfl 5 rfl ?_
                              refine r_get hc inlX6 0 rfl rfl 16 (by decide) fl_X6_38 rfl rfl dX6_orbit_158 ?_
                              refine r_iload hc dX6_orbit_161 2 rfl ?_
                              refine r_iload hc dX6_orbit_163 1 rfl ?_
                              refine r_iast (ws' := wY cI cZ g gL gS gW gT gO gP gU gA gE gQ (rN τ) (rLe τ) (rSz τ) (rRe τ) (rSu τ) (rMd τ) (rNw τ) (rTb τ) (rCh τ) (rPr τ) (rOn τ) (rTw τ) (rNu τ) (rNa τ) (rNd τ) (rSe τ) (va_up (va_up lo2 k1 (mn (lo2 k1) (lo2 (fs w1 k1)))) (fs w1 k1) (mn (lo2 k1) (lo2 (fs w1 k1))))) hc nI (mn (lo2 k1) (lo2 (fs w1 k1))) 10 rfl (by omega) (by decide) rfl dX6_orbit_165 ?_
                              refine r_iinc (k := 3) (v := (nI (w1 + 1))) (lv' := [(4, .int (nI (w1 + 1))), (2, .int (zI true)), (6, .int (nI (mn (lo2 k1) (lo2 (fs w1 k1))))), (5, .int (nI (fs w1 k1))), (3, .int (nI k1)), (0, .ref g), (1, .int (nI k))]) hc dX6_orbit_166 rfl (nI_add _ _) (by decide) rfl ?_
                              refine r_goto hc 61 dX6_orbit_169 (by decide) ?_
                              refine r_lv [0, 4, 1, 5, 6] rfl ?_
                              exact ih61 _ (by omega) _ true (w1 + 1) rfl hBn (by omega)
                      · have hmn : (mn (lo2 k1) (lo2 (fs w1 k1))) = lo2 k1 := by unfold mn; rw [if_pos h16]
                        refine r_aload_n hc dX6_orbit_98 rfl 4 rfl ?_
                        refine r_get hc inlX6 0 rfl rfl 16 (by decide) fl_X6_38 rfl rfl dX6_orbit_99 ?_
                        refine r_iload_n hc dX6_orbit_102 rfl 2 rfl ?_
                        have b23 := l2b k1
                        refine r_iald hc nI 10 rfl (by omega) (by decide) dX6_orbit_103 ?_
                        refine r_goto hc 114 dX6_orbit_104 (by decide) ?_
                        rw [← hmn]
                        show V p l e (RM 3 65 0 0) s m args below meth c D A 7 0 0 Q (wY cI cZ g gL gS gW gT gO gP gU gA gE gQ (rN τ) (rLe τ) (rSz τ) (rRe τ) (rSu τ) (rMd τ) (rNw τ) (rTb τ) (rCh τ) (rPr τ) (rOn τ) (rTw τ) (rNu τ) (rNa τ) (rNd τ) (rSe τ) lo2) 114 [(5, .int (nI (fs w1 k1))), (4, .int (nI w1)), (3, .int (nI k1)), (2, .int (zI mo2)), (0, .ref g), (1, .int (nI k))] [.int (nI (mn (lo2 k1) (lo2 (fs w1 k1))))]
                        obtain ⟨m1, m2, m3⟩ := mn_le (lo2 k1) (lo2 (fs w1 k1))
                        refine r_istore (lv' := [(6, .int (nI (mn (lo2 k1) (lo2 (fs w1 k1))))), (5, .int (nI (fs w1 k1))), (4, .int (nI w1)), (3, .int (nI k1)), (2, .int (zI mo2)), (0, .ref g), (1, .int (nI k))]) hc dX6_orbit_114 (by decide) rfl ?_
                        refine r_iload_n hc dX6_orbit_116 rfl 4 rfl ?_
                        refine z_if_ne hc 143 dX6_orbit_117 (by decide) (fun h24 => ?_) (fun h24 => ?_)
                        · refine r_iconst (v := (nI 1)) hc dX6_orbit_143 rfl ?_
                          refine r_goto hc 148 dX6_orbit_144 (by decide) ?_
                          refine r_istore_n (lv' := [(2, .int (nI 1)), (6, .int (nI (mn (lo2 k1) (lo2 (fs w1 k1))))), (5, .int (nI (fs w1 k1))), (4, .int (nI w1)), (3, .int (nI k1)), (0, .ref g), (1, .int (nI k))]) hc dX6_orbit_148 rfl (by decide) rfl ?_
                          show V p l e (RM 3 65 0 0) s m args below meth c D A 7 0 0 Q (wY cI cZ g gL gS gW gT gO gP gU gA gE gQ (rN τ) (rLe τ) (rSz τ) (rRe τ) (rSu τ) (rMd τ) (rNw τ) (rTb τ) (rCh τ) (rPr τ) (rOn τ) (rTw τ) (rNu τ) (rNa τ) (rNd τ) (rSe τ) lo2) 149 [(2, .int (zI true)), (6, .int (nI (mn (lo2 k1) (lo2 (fs w1 k1))))), (5, .int (nI (fs w1 k1))), (4, .int (nI w1)), (3, .int (nI k1)), (0, .ref g), (1, .int (nI k))] []
                          have hBn := OB_step (mo' := true) hB2 tNd h9 h10 f1 (fun _ => Or.inl h24) (fun q => by cases q)
                          refine r_aload_n hc dX6_orbit_149 rfl 5 rfl ?_
                          refine r_get hc inlX6 0 rfl rfl 16 (by decide) fl_X6_38 rfl rfl dX6_orbit_150 ?_
                          refine r_iload_n hc dX6_orbit_153 rfl 4 rfl ?_
                          refine r_iload hc dX6_orbit_154 1 rfl ?_
                          refine r_iast (ws' := wY cI cZ g gL gS gW gT gO gP gU gA gE gQ (rN τ) (rLe τ) (rSz τ) (rRe τ) (rSu τ) (rMd τ) (rNw τ) (rTb τ) (rCh τ) (rPr τ) (rOn τ) (rTw τ) (rNu τ) (rNa τ) (rNd τ) (rSe τ) (va_up lo2 k1 (mn (lo2 k1) (lo2 (fs w1 k1))))) hc nI (mn (lo2 k1) (lo2 (fs w1 k1))) 10 rfl (by omega) (by decide) rfl dX6_orbit_156 ?_
                          refine r_aload_n hc dX6_orbit_157 rfl 5 rfl ?_
                          refine r_get hc inlX6 0 rfl rfl 16 (by decide) fl_X6_38 rfl rfl dX6_orbit_158 ?_
                          refine r_iload hc dX6_orbit_161 2 rfl ?_
                          refine r_iload hc dX6_orbit_163 1 rfl ?_
                          refine r_iast (ws' := wY cI cZ g gL gS gW gT gO gP gU gA gE gQ (rN τ) (rLe τ) (rSz τ) (rRe τ) (rSu τ) (rMd τ) (rNw τ) (rTb τ) (rCh τ) (rPr τ) (rOn τ) (rTw τ) (rNu τ) (rNa τ) (rNd τ) (rSe τ) (va_up (va_up lo2 k1 (mn (lo2 k1) (lo2 (fs w1 k1)))) (fs w1 k1) (mn (lo2 k1) (lo2 (fs w1 k1))))) hc nI (mn (lo2 k1) (lo2 (fs w1 k1))) 10 rfl (by omega) (by decide) rfl dX6_orbit_165 ?_
                          refine r_iinc (k := 3) (v := (nI (w1 + 1))) (lv' := [(4, .int (nI (w1 + 1))), (2, .int (zI true)), (6, .int (nI (mn (lo2 k1) (lo2 (fs w1 k1))))), (5, .int (nI (fs w1 k1))), (3, .int (nI k1)), (0, .ref g), (1, .int (nI k))]) hc dX6_orbit_166 rfl (nI_add _ _) (by decide) rfl ?_
                          refine r_goto hc 61 dX6_orbit_169 (by decide) ?_
                          refine r_lv [0, 4, 1, 5, 6] rfl ?_
                          exact ih61 _ (by omega) _ true (w1 + 1) rfl hBn (by omega)
                        · refine r_aload_n hc dX6_orbit_120 rfl 5 rfl ?_
                          refine r_get hc inlX6 0 rfl rfl 16 (by decide) fl_X6_38 rfl rfl dX6_orbit_121 ?_
                          refine r_iload_n hc dX6_orbit_124 rfl 3 rfl ?_
                          have b25 := l2b k1
                          refine r_iald hc nI 10 rfl (by omega) (by decide) dX6_orbit_125 ?_
                          refine r_iload hc dX6_orbit_126 0 rfl ?_
                          refine n_icmp_ne hc 143 dX6_orbit_128 (by decide) (by omega) (by omega) (fun h26 => ?_) (fun h26 => ?_)
                          · refine r_iconst (v := (nI 1)) hc dX6_orbit_143 rfl ?_
                            refine r_goto hc 148 dX6_orbit_144 (by decide) ?_
                            refine r_istore_n (lv' := [(2, .int (nI 1)), (6, .int (nI (mn (lo2 k1) (lo2 (fs w1 k1))))), (5, .int (nI (fs w1 k1))), (4, .int (nI w1)), (3, .int (nI k1)), (0, .ref g), (1, .int (nI k))]) hc dX6_orbit_148 rfl (by decide) rfl ?_
                            show V p l e (RM 3 65 0 0) s m args below meth c D A 7 0 0 Q (wY cI cZ g gL gS gW gT gO gP gU gA gE gQ (rN τ) (rLe τ) (rSz τ) (rRe τ) (rSu τ) (rMd τ) (rNw τ) (rTb τ) (rCh τ) (rPr τ) (rOn τ) (rTw τ) (rNu τ) (rNa τ) (rNd τ) (rSe τ) lo2) 149 [(2, .int (zI true)), (6, .int (nI (mn (lo2 k1) (lo2 (fs w1 k1))))), (5, .int (nI (fs w1 k1))), (4, .int (nI w1)), (3, .int (nI k1)), (0, .ref g), (1, .int (nI k))] []
                            have hBn := OB_step (mo' := true) hB2 tNd h9 h10 f1 (fun _ => Or.inr (Or.inl h26)) (fun q => by cases q)
                            refine r_aload_n hc dX6_orbit_149 rfl 5 rfl ?_
                            refine r_get hc inlX6 0 rfl rfl 16 (by decide) fl_X6_38 rfl rfl dX6_orbit_150 ?_
                            refine r_iload_n hc dX6_orbit_153 rfl 4 rfl ?_
                            refine r_iload hc dX6_orbit_154 1 rfl ?_
                            refine r_iast (ws' := wY cI cZ g gL gS gW gT gO gP gU gA gE gQ (rN τ) (rLe τ) (rSz τ) (rRe τ) (rSu τ) (rMd τ) (rNw τ) (rTb τ) (rCh τ) (rPr τ) (rOn τ) (rTw τ) (rNu τ) (rNa τ) (rNd τ) (rSe τ) (va_up lo2 k1 (mn (lo2 k1) (lo2 (fs w1 k1))))) hc nI (mn (lo2 k1) (lo2 (fs w1 k1))) 10 rfl (by omega) (by decide) rfl dX6_orbit_156 ?_
                            refine r_aload_n hc dX6_orbit_157 rfl 5 rfl ?_
                            refine r_get hc inlX6 0 rfl rfl 16 (by decide) fl_X6_38 rfl rfl dX6_orbit_158 ?_
                            refine r_iload hc dX6_orbit_161 2 rfl ?_
                            refine r_iload hc dX6_orbit_163 1 rfl ?_
                            refine r_iast (ws' := wY cI cZ g gL gS gW gT gO gP gU gA gE gQ (rN τ) (rLe τ) (rSz τ) (rRe τ) (rSu τ) (rMd τ) (rNw τ) (rTb τ) (rCh τ) (rPr τ) (rOn τ) (rTw τ) (rNu τ) (rNa τ) (rNd τ) (rSe τ) (va_up (va_up lo2 k1 (mn (lo2 k1) (lo2 (fs w1 k1)))) (fs w1 k1) (mn (lo2 k1) (lo2 (fs w1 k1))))) hc nI (mn (lo2 k1) (lo2 (fs w1 k1))) 10 rfl (by omega) (by decide) rfl dX6_orbit_165 ?_
                            refine r_iinc (k := 3) (v := (nI (w1 + 1))) (lv' := [(4, .int (nI (w1 + 1))), (2, .int (zI true)), (6, .int (nI (mn (lo2 k1) (lo2 (fs w1 k1))))), (5, .int (nI (fs w1 k1))), (3, .int (nI k1)), (0, .ref g), (1, .int (nI k))]) hc dX6_orbit_166 rfl (nI_add _ _) (by decide) rfl ?_
                            refine r_goto hc 61 dX6_orbit_169 (by decide) ?_
                            refine r_lv [0, 4, 1, 5, 6] rfl ?_
                            exact ih61 _ (by omega) _ true (w1 + 1) rfl hBn (by omega)
                          · refine r_aload_n hc dX6_orbit_131 rfl 5 rfl ?_
                            refine r_get hc inlX6 0 rfl rfl 16 (by decide) fl_X6_38 rfl rfl dX6_orbit_132 ?_
                            refine r_iload hc dX6_orbit_135 1 rfl ?_
                            have b27 := l2b (fs w1 k1)
                            refine r_iald hc nI 10 rfl (by omega) (by decide) dX6_orbit_137 ?_
                            refine r_iload hc dX6_orbit_138 0 rfl ?_
                            refine n_icmp_eq hc 147 dX6_orbit_140 (by decide) (by omega) (by omega) (fun h28 => ?_) (fun h28 => ?_)
                            · refine r_iconst (v := (nI 0)) hc dX6_orbit_147 rfl ?_
                              refine r_istore_n (lv' := [(2, .int (nI 0)), (6, .int (nI (mn (lo2 k1) (lo2 (fs w1 k1))))), (5, .int (nI (fs w1 k1))), (4, .int (nI w1)), (3, .int (nI k1)), (0, .ref g), (1, .int (nI k))]) hc dX6_orbit_148 rfl (by decide) rfl ?_
                              show V p l e (RM 3 65 0 0) s m args below meth c D A 7 0 0 Q (wY cI cZ g gL gS gW gT gO gP gU gA gE gQ (rN τ) (rLe τ) (rSz τ) (rRe τ) (rSu τ) (rMd τ) (rNw τ) (rTb τ) (rCh τ) (rPr τ) (rOn τ) (rTw τ) (rNu τ) (rNa τ) (rNd τ) (rSe τ) lo2) 149 [(2, .int (zI false)), (6, .int (nI (mn (lo2 k1) (lo2 (fs w1 k1))))), (5, .int (nI (fs w1 k1))), (4, .int (nI w1)), (3, .int (nI k1)), (0, .ref g), (1, .int (nI k))] []
                              have hBn := OB_step (mo' := false) hB2 tNd h9 h10 f1 (fun q => by cases q) (fun _ => ⟨h24, h26, h28⟩)
                              refine r_aload_n hc dX6_orbit_149 rfl 5 rfl ?_
                              refine r_get hc inlX6 0 rfl rfl 16 (by decide) fl_X6_38 rfl rfl dX6_orbit_150 ?_
                              refine r_iload_n hc dX6_orbit_153 rfl 4 rfl ?_
                              refine r_iload hc dX6_orbit_154 1 rfl ?_
                              refine r_iast (ws' := wY cI cZ g gL gS gW gT gO gP gU gA gE gQ (rN τ) (rLe τ) (rSz τ) (rRe τ) (rSu τ) (rMd τ) (rNw τ) (rTb τ) (rCh τ) (rPr τ) (rOn τ) (rTw τ) (rNu τ) (rNa τ) (rNd τ) (rSe τ) (va_up lo2 k1 (mn (lo2 k1) (lo2 (fs w1 k1))))) hc nI (mn (lo2 k1) (lo2 (fs w1 k1))) 10 rfl (by omega) (by decide) rfl dX6_orbit_156 ?_
                              refine r_aload_n hc dX6_orbit_157 rfl 5 rfl ?_
                              refine r_get hc inlX6 0 rfl rfl 16 (by decide) fl_X6_38 rfl rfl dX6_orbit_158 ?_
                              refine r_iload hc dX6_orbit_161 2 rfl ?_
                              refine r_iload hc dX6_orbit_163 1 rfl ?_
                              refine r_iast (ws' := wY cI cZ g gL gS gW gT gO gP gU gA gE gQ (rN τ) (rLe τ) (rSz τ) (rRe τ) (rSu τ) (rMd τ) (rNw τ) (rTb τ) (rCh τ) (rPr τ) (rOn τ) (rTw τ) (rNu τ) (rNa τ) (rNd τ) (rSe τ) (va_up (va_up lo2 k1 (mn (lo2 k1) (lo2 (fs w1 k1)))) (fs w1 k1) (mn (lo2 k1) (lo2 (fs w1 k1))))) hc nI (mn (lo2 k1) (lo2 (fs w1 k1))) 10 rfl (by omega) (by decide) rfl dX6_orbit_165 ?_
                              refine r_iinc (k := 3) (v := (nI (w1 + 1))) (lv' := [(4, .int (nI (w1 + 1))), (2, .int (zI false)), (6, .int (nI (mn (lo2 k1) (lo2 (fs w1 k1))))), (5, .int (nI (fs w1 k1))), (3, .int (nI k1)), (0, .ref g), (1, .int (nI k))]) hc dX6_orbit_166 rfl (nI_add _ _) (by decide) rfl ?_
                              refine r_goto hc 61 dX6_orbit_169 (by decide) ?_
                              refine r_lv [0, 4, 1, 5, 6] rfl ?_
                              exact ih61 _ (by omega) _ false (w1 + 1) rfl hBn (by omega)
                            · refine r_iconst (v := (nI 1)) hc dX6_orbit_143 rfl ?_
                              refine r_goto hc 148 dX6_orbit_144 (by decide) ?_
                              refine r_istore_n (lv' := [(2, .int (nI 1)), (6, .int (nI (mn (lo2 k1) (lo2 (fs w1 k1))))), (5, .int (nI (fs w1 k1))), (4, .int (nI w1)), (3, .int (nI k1)), (0, .ref g), (1, .int (nI k))]) hc dX6_orbit_148 rfl (by decide) rfl ?_
                              show V p l e (RM 3 65 0 0) s m args below meth c D A 7 0 0 Q (wY cI cZ g gL gS gW gT gO gP gU gA gE gQ (rN τ) (rLe τ) (rSz τ) (rRe τ) (rSu τ) (rMd τ) (rNw τ) (rTb τ) (rCh τ) (rPr τ) (rOn τ) (rTw τ) (rNu τ) (rNa τ) (rNd τ) (rSe τ) lo2) 149 [(2, .int (zI true)), (6, .int (nI (mn (lo2 k1) (lo2 (fs w1 k1))))), (5, .int (nI (fs w1 k1))), (4, .int (nI w1)), (3, .int (nI k1)), (0, .ref g), (1, .int (nI k))] []
                              have hBn := OB_step (mo' := true) hB2 tNd h9 h10 f1 (fun _ => Or.inr (Or.inr h28)) (fun q => by cases q)
                              refine r_aload_n hc dX6_orbit_149 rfl 5 rfl ?_
                              refine r_get hc inlX6 0 rfl rfl 16 (by decide) fl_X6_38 rfl rfl dX6_orbit_150 ?_
                              refine r_iload_n hc dX6_orbit_153 rfl 4 rfl ?_
                              refine r_iload hc dX6_orbit_154 1 rfl ?_
                              refine r_iast (ws' := wY cI cZ g gL gS gW gT gO gP gU gA gE gQ (rN τ) (rLe τ) (rSz τ) (rRe τ) (rSu τ) (rMd τ) (rNw τ) (rTb τ) (rCh τ) (rPr τ) (rOn τ) (rTw τ) (rNu τ) (rNa τ) (rNd τ) (rSe τ) (va_up lo2 k1 (mn (lo2 k1) (lo2 (fs w1 k1))))) hc nI (mn (lo2 k1) (lo2 (fs w1 k1))) 10 rfl (by omega) (by decide) rfl dX6_orbit_156 ?_
                              refine r_aload_n hc dX6_orbit_157 rfl 5 rfl ?_
                              refine r_get hc inlX6 0 rfl rfl 16 (by decide) fl_X6_38 rfl rfl dX6_orbit_158 ?_
                              refine r_iload hc dX6_orbit_161 2 rfl ?_
                              refine r_iload hc dX6_orbit_163 1 rfl ?_
                              refine r_iast (ws' := wY cI cZ g gL gS gW gT gO gP gU gA gE gQ (rN τ) (rLe τ) (rSz τ) (rRe τ) (rSu τ) (rMd τ) (rNw τ) (rTb τ) (rCh τ) (rPr τ) (rOn τ) (rTw τ) (rNu τ) (rNa τ) (rNd τ) (rSe τ) (va_up (va_up lo2 k1 (mn (lo2 k1) (lo2 (fs w1 k1)))) (fs w1 k1) (mn (lo2 k1) (lo2 (fs w1 k1))))) hc nI (mn (lo2 k1) (lo2 (fs w1 k1))) 10 rfl (by omega) (by decide) rfl dX6_orbit_165 ?_
                              refine r_iinc (k := 3) (v := (nI (w1 + 1))) (lv' := [(4, .int (nI (w1 + 1))), (2, .int (zI true)), (6, .int (nI (mn (lo2 k1) (lo2 (fs w1 k1))))), (5, .int (nI (fs w1 k1))), (3, .int (nI k1)), (0, .ref g), (1, .int (nI k))]) hc dX6_orbit_166 rfl (nI_add _ _) (by decide) rfl ?_
                              refine r_goto hc 61 dX6_orbit_169 (by decide) ?_
                              refine r_lv [0, 4, 1, 5, 6] rfl ?_
                              exact ih61 _ (by omega) _ true (w1 + 1) rfl hBn (by omega)
                  refine r_lv [0, 1, 2, 3, 4] rfl ?_
                  exact lp61 _ lo1 mo1 0 rfl hB1 (Nat.zero_le _)
              refine r_lv [0, 1, 2, 3] rfl ?_
              exact lp50 _ lo false 0 rfl ⟨hOI, hlb, Nat.le_refl _, (fun q => by cases q), fun _ => ⟨fun j v q => absurd q (Nat.not_lt_zero _), fun v q => absurd q (Nat.not_lt_zero _)⟩⟩ (Nat.zero_le _)
          refine r_lv [0, 1, 2] rfl ?_
          exact lp42 _ (idI (rLo τ) (rNd τ)) true rfl (fun j hj => by rw [idI_at hj]; exact ⟨hj, Nat.le_refl _, fun P _ => Iff.rfl⟩) (idI_b tLo tNd) (fun q => by cases q)
        · refine r_aload_n hc dX6_orbit_27 rfl 1 rfl ?_
          refine r_get hc inlX6 0 rfl rfl 16 (by decide) fl_X6_38 rfl rfl dX6_orbit_28 ?_
          refine r_iload_n hc dX6_orbit_31 rfl 0 rfl ?_
          refine r_iload_n hc dX6_orbit_32 rfl 0 rfl ?_
          refine r_iast (ws' := wY cI cZ g gL gS gW gT gO gP gU gA gE gQ (rN τ) (rLe τ) (rSz τ) (rRe τ) (rSu τ) (rMd τ) (rNw τ) (rTb τ) (rCh τ) (rPr τ) (rOn τ) (rTw τ) (rNu τ) (rNa τ) (rNd τ) (rSe τ) (va_up (idI (rLo τ) k2) k2 k2)) hc nI k2 10 rfl (by omega) (by decide) rfl dX6_orbit_33 ?_
          refine r_iinc (k := 0) (v := (nI (k2 + 1))) (lv' := [(2, .int (nI (k2 + 1))), (0, .ref g), (1, .int (nI k))]) hc dX6_orbit_34 rfl (nI_add _ _) (by decide) rfl ?_
          refine r_goto hc 19 dX6_orbit_37 (by decide) ?_
          refine r_lv [0, 1, 2] rfl ?_
          exact ih19 _ (by omega) (k2 + 1) rfl (by omega)
      refine r_lv [0, 1, 2] rfl ?_
      exact lp19 _ 0 rfl (Nat.zero_le _)
    · have := hk τ hFt; simp at h6; omega
