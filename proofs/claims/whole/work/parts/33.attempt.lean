def AttOK (ρ : RS) (w0 c0 : Nat) (F : RS → Prop) : Prop :=
  (pth (rTb ρ) (fun i => rLe ρ (24 * w0 + i)) c0 (rSz ρ w0) = some c0 → F ρ) ∧ (∀ p, pth (rTb ρ) (fun i => rLe ρ (24 * w0 + i)) c0 (rSz ρ w0) = some p → p ≠ c0 → rPr ρ < 8000 ∧ JoinOK (gPair ρ p c0) F) ∧
  (∀ i p q, i < rSz ρ w0 → pth (rTb ρ) (fun i => rLe ρ (24 * w0 + i)) c0 i = some p → rTb ρ (p * 6 + rLe ρ (24 * w0 + i)) = none → bp (rTb ρ) (fun i => rLe ρ (24 * w0 + i)) (rSz ρ w0) c0 (rSz ρ w0 - 1 - i) = some q → rPr ρ + 2 ≤ 8000 ∧ JoinOK (gLearn ρ p (rLe ρ (24 * w0 + i)) q) F) ∧
  (∀ i p k, i < rSz ρ w0 → pth (rTb ρ) (fun i => rLe ρ (24 * w0 + i)) c0 i = some p → rTb ρ (p * 6 + rLe ρ (24 * w0 + i)) = none → k < rSz ρ w0 - 1 - i → bp (rTb ρ) (fun i => rLe ρ (24 * w0 + i)) (rSz ρ w0) c0 (k + 1) = none → F ρ)
theorem gLearn_nw (ρ : RS) (c x d : Nat) : rNw (gLearn ρ c x d) = rNw ρ := by
  have h : ∀ (τ : RS) (c x d : Nat), rNw (gHalf τ c x d) = rNw τ := by
    intro τ c x d
    unfold gHalf
    cases rTb τ (6 * c + x) with
    | none => rfl
    | some a => show rNw (if _ then τ else gPair τ a d) = _; split <;> rfl
  rw [gLearn, h, h]
set_option maxHeartbeats 4000000 in
set_option maxRecDepth 100000 in
/-- reference: attempt(w0, c0) -/
theorem m_attempt (l : Launch) (D : va_G) (cI cZ cW : ClassId) (g gL gS gW gT gO gP gU gA gE gQ : Nat) (ρ : RS) (w0 c0 : Nat) (hw : w0 < 16) (hc0 : c0 < 200) (hnw : ∀ i, rNw ρ i ≤ i) (F : RS → Prop) (hA : AttOK ρ w0 c0 F) (hB : BR ρ) : CtV l yX6_attempt cX6_attempt 9 none 3 76 0 0 D cI cZ cW [.ref g, .int (nI w0), .int (nI c0)] (wR cI cZ g gL gS gW gT gO gP gU gA gE gQ ρ) ([]) (S := RS) (fun u => F u) (fun u => wR cI cZ g gL gS gW gT gO gP gU gA gE gQ u) := by
  refine CtV.mk (by decide) (Nat.le_of_ble_eq_true rfl) ?_
  intro p e s m args below meth c A hc hr hlk hnm hro
  generalize hQ : MQ below _ args s 0 0 A = Q
  have hB0 := hB
  obtain ⟨bn, bLe, bSz, bRe, bSu, bMd, bNw, bTb, bPr, bOn, bTw, bNu, bNa, bNd, bLo⟩ := hB
  have hs0 := bSz w0
  show V p l e (RM 3 76 0 0) s m args below meth c D A 9 0 0 Q (wR cI cZ g gL gS gW gT gO gP gU gA gE gQ ρ) 0 [(0, .ref g), (1, .int (nI w0)), (2, .int (nI c0))] []
  refine r_aload_n hc dX6_attempt_0 rfl 0 rfl ?_
  refine r_get hc inlX6 0 rfl rfl 2 (by decide) fl_X6_13 rfl rfl dX6_attempt_1 ?_
  refine r_iload_n hc dX6_attempt_4 rfl 1 rfl ?_
  have b1 := bSz w0
  refine r_iald hc nI 2 rfl (by omega) (by decide) dX6_attempt_5 ?_
  refine r_istore_n (lv' := [(3, .int (nI ((rSz ρ) w0))), (0, .ref g), (1, .int (nI w0)), (2, .int (nI c0))]) hc dX6_attempt_6 rfl (by decide) rfl ?_
  refine r_bipush (v := (nI 24)) hc dX6_attempt_7 rfl ?_
  refine r_iload_n hc dX6_attempt_9 rfl 2 rfl ?_
  refine n_mul hc dX6_attempt_10 ?_
  refine r_istore (lv' := [(4, .int (nI (24 * w0))), (3, .int (nI ((rSz ρ) w0))), (0, .ref g), (1, .int (nI w0)), (2, .int (nI c0))]) hc dX6_attempt_11 (by decide) rfl ?_
  refine r_iload_n hc dX6_attempt_13 rfl 4 rfl ?_
  refine r_istore (lv' := [(5, .int (nI c0)), (4, .int (nI (24 * w0))), (3, .int (nI ((rSz ρ) w0))), (0, .ref g), (1, .int (nI w0)), (2, .int (nI c0))]) hc dX6_attempt_14 (by decide) rfl ?_
  refine r_iconst (v := (nI 0)) hc dX6_attempt_16 rfl ?_
  refine r_istore (lv' := [(6, .int (nI 0)), (5, .int (nI c0)), (4, .int (nI (24 * w0))), (3, .int (nI ((rSz ρ) w0))), (0, .ref g), (1, .int (nI w0)), (2, .int (nI c0))]) hc dX6_attempt_17 (by decide) rfl ?_
  have lp19 : ∀ (n : Nat) (p0 i : Nat), rSz ρ w0 - i = n → (i ≤ rSz ρ w0) → (pth (rTb ρ) (fun i => rLe ρ (24 * w0 + i)) c0 i = some p0) → V p l e (RM 3 76 0 0) s m args below meth c D A 9 0 0 Q (wR cI cZ g gL gS gW gT gO gP gU gA gE gQ ρ) 19 [(6, .int (nI i)), (5, .int (nI p0)), (4, .int (nI (24 * w0))), (3, .int (nI ((rSz ρ) w0))), (0, .ref g), (1, .int (nI w0)), (2, .int (nI c0))] [] := by
    intro n
    induction n using Nat.strongRecOn with
    | _ n ih19 =>
    intro p0 i hm19 hi1 hp
    have hpM := pth_lt bTb hc0 hp
    have hle := bLe (24 * w0 + i)
    refine r_iload hc dX6_attempt_19 0 rfl ?_
    refine r_iload_n hc dX6_attempt_21 rfl 3 rfl ?_
    refine n_icmp_ge hc 78 dX6_attempt_22 (by decide) (by omega) (by omega) (fun h2 => ?_) (fun h2 => ?_)
    · refine r_iload hc dX6_attempt_78 0 rfl ?_
      refine r_iload_n hc dX6_attempt_80 rfl 3 rfl ?_
      refine n_icmp_ne hc 102 dX6_attempt_81 (by decide) (by omega) (by omega) (fun h3 => ?_) (fun h3 => ?_)
      · exact absurd (show i = rSz ρ w0 by omega) h3
      · have hpl : pth (rTb ρ) (fun i => rLe ρ (24 * w0 + i)) c0 (rSz ρ w0) = some p0 := by have z := hp; rw [h3] at z; exact z
        refine r_iload hc dX6_attempt_84 1 rfl ?_
        refine r_iload_n hc dX6_attempt_86 rfl 6 rfl ?_
        refine n_icmp_eq hc 101 dX6_attempt_87 (by decide) (by omega) (by omega) (fun h4 => ?_) (fun h4 => ?_)
        · rw [← hQ]
          exact r_vret hc hr hlk ρ (hA.1 (by rw [hpl, h4])) rfl dX6_attempt_101
        · refine r_aload_n hc dX6_attempt_90 rfl 4 rfl ?_
          refine r_iload hc dX6_attempt_91 1 rfl ?_
          refine r_iload_n hc dX6_attempt_93 rfl 6 rfl ?_
          obtain ⟨hp8, hJ⟩ := hA.2.1 p0 hpl h4
          obtain ⟨I, μ, j1, j2, j3, j4, j5⟩ := hJ
          refine r_callV (As := [.int (nI p0), .int (nI c0)]) (n := 2) (wr := []) hc (m_pair l D cI cZ cW g gL gS gW gT gO gP gU gA gE gQ ρ p0 c0 hp8 hB0) co_yX6_pair in_X6 ml_X6_82 (by decide +kernel) rfl ⟨by decide, by decide⟩ ⟨by decide, by decide⟩ im_yX6_pair se_yX6_pair rfl (Or.inl ⟨0, _, rfl⟩) rfl (Nat.le_of_ble_eq_true rfl) [0, 1, 2, 3, 4, 5, 6, 7, 8, 9, 10] [] rfl rfl rfl rfl (by decide) (fun q hq => absurd hq List.not_mem_nil) dX6_attempt_94 (fun u1 e5 => ?_)
          show V p l e (RM 3 76 0 0) s m args below meth c D A 9 0 0 Q (wR cI cZ g gL gS gW gT gO gP gU gA gE gQ u1) 97 [(6, .int (nI i)), (5, .int (nI p0)), (4, .int (nI (24 * w0))), (3, .int (nI ((rSz ρ) w0))), (0, .ref g), (1, .int (nI w0)), (2, .int (nI c0))] []
          subst e5
          refine r_aload_n hc dX6_attempt_97 rfl 4 rfl ?_
          refine r_callV (As := []) (n := 0) (wr := []) hc (m_join l D cI cZ cW g gL gS gW gT gO gP gU gA gE gQ (gPair ρ p0 c0) I μ j1 j2 j3 j4) co_yX6_join in_X6 ml_X6_90 (by decide +kernel) rfl ⟨by decide, by decide⟩ ⟨by decide, by decide⟩ im_yX6_join se_yX6_join rfl (Or.inl ⟨0, _, rfl⟩) rfl (Nat.le_of_ble_eq_true rfl) [0, 1, 2, 3, 4, 5, 6, 7, 8, 9, 10] [] rfl rfl rfl rfl (by decide) (fun q hq => absurd hq List.not_mem_nil) dX6_attempt_98 (fun u2 e6 => ?_)
          show V p l e (RM 3 76 0 0) s m args below meth c D A 9 0 0 Q (wR cI cZ g gL gS gW gT gO gP gU gA gE gQ u2) 101 [(6, .int (nI i)), (5, .int (nI p0)), (4, .int (nI (24 * w0))), (3, .int (nI ((rSz ρ) w0))), (0, .ref g), (1, .int (nI w0)), (2, .int (nI c0))] []
          obtain ⟨τ, t1, t2, t3⟩ := e6
          have hFu : F u2 := by rw [t3]; exact j5 τ t1 t2
          rw [← hQ]
          exact r_vret hc hr hlk u2 (hFu) rfl dX6_attempt_101
    · refine r_aload_n hc dX6_attempt_25 rfl 4 rfl ?_
      refine r_get hc inlX6 0 rfl rfl 7 (by decide) fl_X6_19 rfl rfl dX6_attempt_26 ?_
      refine r_bipush (v := (nI 6)) hc dX6_attempt_29 rfl ?_
      refine r_iload hc dX6_attempt_31 1 rfl ?_
      refine n_mul hc dX6_attempt_33 ?_
      refine r_aload_n hc dX6_attempt_34 rfl 4 rfl ?_
      refine r_get hc inlX6 0 rfl rfl 1 (by decide) fl_X6_7 rfl rfl dX6_attempt_35 ?_
      refine r_iload hc dX6_attempt_38 2 rfl ?_
      refine r_iload hc dX6_attempt_40 0 rfl ?_
      refine n_add hc dX6_attempt_42 ?_
      have b7 := bLe ((24 * w0) + i)
      refine r_iald hc nI 1 rfl (by omega) (by decide) dX6_attempt_43 ?_
      refine n_add hc dX6_attempt_44 ?_
      refine r_iald hc eI 4 rfl (by omega) (by decide) dX6_attempt_45 ?_
      refine e_if_lt hc 78 dX6_attempt_46 (by decide) (fun d h => Nat.lt_trans (bTb _ d h) (by decide)) (fun h8 => ?_) (fun d9 h8 => ?_)
      · refine r_iload hc dX6_attempt_78 0 rfl ?_
        refine r_iload_n hc dX6_attempt_80 rfl 3 rfl ?_
        refine n_icmp_ne hc 102 dX6_attempt_81 (by decide) (by omega) (by omega) (fun h10 => ?_) (fun h10 => ?_)
        · have hil : i < rSz ρ w0 := by omega
          have hno : rTb ρ (p0 * 6 + rLe ρ (24 * w0 + i)) = none := by rw [Nat.mul_comm p0 6]; exact h8
          refine r_iload_n hc dX6_attempt_102 rfl 6 rfl ?_
          refine r_istore (lv' := [(7, .int (nI c0)), (6, .int (nI i)), (5, .int (nI p0)), (4, .int (nI (24 * w0))), (3, .int (nI ((rSz ρ) w0))), (0, .ref g), (1, .int (nI w0)), (2, .int (nI c0))]) hc dX6_attempt_103 (by decide) rfl ?_
          refine r_iload_n hc dX6_attempt_105 rfl 4 rfl ?_
          refine r_istore (lv' := [(8, .int (nI ((rSz ρ) w0))), (7, .int (nI c0)), (6, .int (nI i)), (5, .int (nI p0)), (4, .int (nI (24 * w0))), (3, .int (nI ((rSz ρ) w0))), (0, .ref g), (1, .int (nI w0)), (2, .int (nI c0))]) hc dX6_attempt_106 (by decide) rfl ?_
          have lp108 : ∀ (n : Nat) (q0 j : Nat), j = n → (i + 1 ≤ j) → (j ≤ rSz ρ w0) → (bp (rTb ρ) (fun i => rLe ρ (24 * w0 + i)) (rSz ρ w0) c0 (rSz ρ w0 - j) = some q0) → V p l e (RM 3 76 0 0) s m args below meth c D A 9 0 0 Q (wR cI cZ g gL gS gW gT gO gP gU gA gE gQ ρ) 108 [(8, .int (nI j)), (7, .int (nI q0)), (6, .int (nI i)), (5, .int (nI p0)), (4, .int (nI (24 * w0))), (3, .int (nI ((rSz ρ) w0))), (0, .ref g), (1, .int (nI w0)), (2, .int (nI c0))] [] := by
            intro n
            induction n using Nat.strongRecOn with
            | _ n ih108 =>
            intro q0 j hm108 hj1 hj2 hq
            have hqM := bp_lt bTb hc0 hq
            have hle2 := bLe (24 * w0 + j - 1)
            have hle3 := xor1_lt hle2
            refine r_iload hc dX6_attempt_108 0 rfl ?_
            refine r_iload hc dX6_attempt_110 2 rfl ?_
            refine r_iconst (v := (nI 1)) hc dX6_attempt_112 rfl ?_
            refine n_add hc dX6_attempt_113 ?_
            refine n_icmp_le hc 178 dX6_attempt_114 (by decide) (by omega) (by omega) (fun h11 => ?_) (fun h11 => ?_)
            · refine r_iload hc dX6_attempt_178 0 rfl ?_
              refine r_iload hc dX6_attempt_180 2 rfl ?_
              refine r_iconst (v := (nI 1)) hc dX6_attempt_182 rfl ?_
              refine n_add hc dX6_attempt_183 ?_
              refine n_icmp_ne hc 209 dX6_attempt_184 (by decide) (by omega) (by omega) (fun h12 => ?_) (fun h12 => ?_)
              · exact absurd (show j = i + 1 by omega) h12
              · refine r_aload_n hc dX6_attempt_187 rfl 6 rfl ?_
                refine r_iload hc dX6_attempt_188 3 rfl ?_
                refine r_aload_n hc dX6_attempt_190 rfl 6 rfl ?_
                refine r_get hc inlX6 0 rfl rfl 1 (by decide) fl_X6_7 rfl rfl dX6_attempt_191 ?_
                refine r_iload hc dX6_attempt_194 4 rfl ?_
                refine r_iload hc dX6_attempt_196 2 rfl ?_
                refine n_add hc dX6_attempt_198 ?_
                have b13 := bLe ((24 * w0) + i)
                refine r_iald hc nI 1 rfl (by omega) (by decide) dX6_attempt_199 ?_
                refine r_iload hc dX6_attempt_200 1 rfl ?_
                obtain ⟨hp8, hJ⟩ := hA.2.2.1 i p0 q0 hil hp hno (by rw [show rSz ρ w0 - 1 - i = rSz ρ w0 - j by omega]; exact hq)
                obtain ⟨I, μ, j1, j2, j3, j4, j5⟩ := hJ
                refine r_callV (As := [.int (nI p0), .int (nI ((rLe ρ) ((24 * w0) + i))), .int (nI q0)]) (n := 3) (wr := []) hc (m_learn l D cI cZ cW g gL gS gW gT gO gP gU gA gE gQ ρ p0 (rLe ρ (24 * w0 + i)) q0 hpM (bLe _) hqM hnw hp8 hB0) co_yX6_learn in_X6 ml_X6_86 (by decide +kernel) rfl ⟨by decide, by decide⟩ ⟨by decide, by decide⟩ im_yX6_learn se_yX6_learn rfl (Or.inl ⟨0, _, rfl⟩) rfl (Nat.le_of_ble_eq_true rfl) [0, 1, 2, 3, 4, 5, 6, 7, 8, 9, 10] [] rfl rfl rfl rfl (by decide) (fun q hq => absurd hq List.not_mem_nil) dX6_attempt_202 (fun u1 e14 => ?_)
                show V p l e (RM 3 76 0 0) s m args below meth c D A 9 0 0 Q (wR cI cZ g gL gS gW gT gO gP gU gA gE gQ u1) 205 [(8, .int (nI j)), (7, .int (nI q0)), (6, .int (nI i)), (5, .int (nI p0)), (4, .int (nI (24 * w0))), (3, .int (nI ((rSz ρ) w0))), (0, .ref g), (1, .int (nI w0)), (2, .int (nI c0))] []
                subst e14
                refine r_aload_n hc dX6_attempt_205 rfl 6 rfl ?_
                refine r_callV (As := []) (n := 0) (wr := []) hc (m_join l D cI cZ cW g gL gS gW gT gO gP gU gA gE gQ (gLearn ρ p0 (rLe ρ (24 * w0 + i)) q0) I μ j1 j2 j3 j4) co_yX6_join in_X6 ml_X6_90 (by decide +kernel) rfl ⟨by decide, by decide⟩ ⟨by decide, by decide⟩ im_yX6_join se_yX6_join rfl (Or.inl ⟨0, _, rfl⟩) rfl (Nat.le_of_ble_eq_true rfl) [0, 1, 2, 3, 4, 5, 6, 7, 8, 9, 10] [] rfl rfl rfl rfl (by decide) (fun q hq => absurd hq List.not_mem_nil) dX6_attempt_206 (fun u2 e15 => ?_)
                show V p l e (RM 3 76 0 0) s m args below meth c D A 9 0 0 Q (wR cI cZ g gL gS gW gT gO gP gU gA gE gQ u2) 209 [(8, .int (nI j)), (7, .int (nI q0)), (6, .int (nI i)), (5, .int (nI p0)), (4, .int (nI (24 * w0))), (3, .int (nI ((rSz ρ) w0))), (0, .ref g), (1, .int (nI w0)), (2, .int (nI c0))] []
                obtain ⟨τ, t1, t2, t3⟩ := e15
                have hFu : F u2 := by rw [t3]; exact j5 τ t1 t2
                rw [← hQ]
                exact r_vret hc hr hlk u2 (hFu) rfl dX6_attempt_209
            · refine r_aload_n hc dX6_attempt_117 rfl 6 rfl ?_
              refine r_get hc inlX6 0 rfl rfl 7 (by decide) fl_X6_19 rfl rfl dX6_attempt_118 ?_
              refine r_bipush (v := (nI 6)) hc dX6_attempt_121 rfl ?_
              refine r_iload hc dX6_attempt_123 1 rfl ?_
              refine n_mul hc dX6_attempt_125 ?_
              refine r_aload_n hc dX6_attempt_126 rfl 6 rfl ?_
              refine r_get hc inlX6 0 rfl rfl 1 (by decide) fl_X6_7 rfl rfl dX6_attempt_127 ?_
              refine r_iload hc dX6_attempt_130 4 rfl ?_
              refine r_iload hc dX6_attempt_132 0 rfl ?_
              refine n_add hc dX6_attempt_134 ?_
              refine r_iconst (v := (nI 1)) hc dX6_attempt_135 rfl ?_
              refine n_sub hc dX6_attempt_136 (by omega) ?_
              have b16 := bLe (((24 * w0) + j) - 1)
              refine r_iald hc nI 1 rfl (by omega) (by decide) dX6_attempt_137 ?_
              refine r_iconst (v := (nI 1)) hc dX6_attempt_138 rfl ?_
              refine n_xor hc dX6_attempt_139 ?_
              refine n_add hc dX6_attempt_140 ?_
              refine r_iald hc eI 4 rfl (by omega) (by decide) dX6_attempt_141 ?_
              refine e_if_lt hc 178 dX6_attempt_142 (by decide) (fun d h => Nat.lt_trans (bTb _ d h) (by decide)) (fun h17 => ?_) (fun d18 h17 => ?_)
              · refine r_iload hc dX6_attempt_178 0 rfl ?_
                refine r_iload hc dX6_attempt_180 2 rfl ?_
                refine r_iconst (v := (nI 1)) hc dX6_attempt_182 rfl ?_
                refine n_add hc dX6_attempt_183 ?_
                refine n_icmp_ne hc 209 dX6_attempt_184 (by decide) (by omega) (by omega) (fun h19 => ?_) (fun h19 => ?_)
                · rw [← hQ]
                  exact r_vret hc hr hlk ρ (hA.2.2.2 i p0 (rSz ρ w0 - j) hil hp hno (by omega) (by rw [bp, hq]; show rTb ρ (q0 * 6 + (rLe ρ (24 * w0 + (rSz ρ w0 - 1 - (rSz ρ w0 - j))) ^^^ 1)) = _; rw [Nat.mul_comm q0 6, show 24 * w0 + (rSz ρ w0 - 1 - (rSz ρ w0 - j)) = 24 * w0 + j - 1 by omega]; exact h17)) rfl dX6_attempt_209
                · exact absurd h19 (by omega)
              · refine r_aload_n hc dX6_attempt_145 rfl 6 rfl ?_
                refine r_get hc inlX6 0 rfl rfl 7 (by decide) fl_X6_19 rfl rfl dX6_attempt_146 ?_
                refine r_bipush (v := (nI 6)) hc dX6_attempt_149 rfl ?_
                refine r_iload hc dX6_attempt_151 1 rfl ?_
                refine n_mul hc dX6_attempt_153 ?_
                refine r_aload_n hc dX6_attempt_154 rfl 6 rfl ?_
                refine r_get hc inlX6 0 rfl rfl 1 (by decide) fl_X6_7 rfl rfl dX6_attempt_155 ?_
                refine r_iload hc dX6_attempt_158 4 rfl ?_
                refine r_iload hc dX6_attempt_160 0 rfl ?_
                refine n_add hc dX6_attempt_162 ?_
                refine r_iconst (v := (nI 1)) hc dX6_attempt_163 rfl ?_
                refine n_sub hc dX6_attempt_164 (by omega) ?_
                have b20 := bLe (((24 * w0) + j) - 1)
                refine r_iald hc nI 1 rfl (by omega) (by decide) dX6_attempt_165 ?_
                refine r_iconst (v := (nI 1)) hc dX6_attempt_166 rfl ?_
                refine n_xor hc dX6_attempt_167 ?_
                refine n_add hc dX6_attempt_168 ?_
                refine r_iald hc eI 4 rfl (by omega) (by decide) dX6_attempt_169 ?_
                rw [h17]
                show V p l e (RM 3 76 0 0) s m args below meth c D A 9 0 0 Q (wR cI cZ g gL gS gW gT gO gP gU gA gE gQ ρ) 170 [(8, .int (nI j)), (7, .int (nI q0)), (6, .int (nI i)), (5, .int (nI p0)), (4, .int (nI (24 * w0))), (3, .int (nI ((rSz ρ) w0))), (0, .ref g), (1, .int (nI w0)), (2, .int (nI c0))] [.int (nI d18)]
                refine r_istore (lv' := [(7, .int (nI d18)), (8, .int (nI j)), (6, .int (nI i)), (5, .int (nI p0)), (4, .int (nI (24 * w0))), (3, .int (nI ((rSz ρ) w0))), (0, .ref g), (1, .int (nI w0)), (2, .int (nI c0))]) hc dX6_attempt_170 (by decide) rfl ?_
                refine r_iinc (k := 1) (v := (nI (j - 1))) (lv' := [(8, .int (nI (j - 1))), (7, .int (nI d18)), (6, .int (nI i)), (5, .int (nI p0)), (4, .int (nI (24 * w0))), (3, .int (nI ((rSz ρ) w0))), (0, .ref g), (1, .int (nI w0)), (2, .int (nI c0))]) hc dX6_attempt_172 rfl (n_dec (by omega)) (by decide) rfl ?_
                refine r_goto hc 108 dX6_attempt_175 (by decide) ?_
                refine r_lv [0, 1, 2, 3, 4, 5, 6, 7, 8] rfl ?_
                exact ih108 _ (by omega) d18 (j - 1) rfl (by omega) (by omega) (by rw [show rSz ρ w0 - (j - 1) = rSz ρ w0 - j + 1 by omega, bp, hq]; show rTb ρ (q0 * 6 + (rLe ρ (24 * w0 + (rSz ρ w0 - 1 - (rSz ρ w0 - j))) ^^^ 1)) = _; rw [Nat.mul_comm q0 6, show 24 * w0 + (rSz ρ w0 - 1 - (rSz ρ w0 - j)) = 24 * w0 + j - 1 by omega]; exact h17)
          refine r_lv [0, 1, 2, 3, 4, 5, 6, 7, 8] rfl ?_
          exact lp108 _ c0 (rSz ρ w0) rfl (by omega) (Nat.le_refl _) (by rw [Nat.sub_self]; rfl)
        · exact absurd h10 (by omega)
      · refine r_aload_n hc dX6_attempt_49 rfl 4 rfl ?_
        refine r_get hc inlX6 0 rfl rfl 7 (by decide) fl_X6_19 rfl rfl dX6_attempt_50 ?_
        refine r_bipush (v := (nI 6)) hc dX6_attempt_53 rfl ?_
        refine r_iload hc dX6_attempt_55 1 rfl ?_
        refine n_mul hc dX6_attempt_57 ?_
        refine r_aload_n hc dX6_attempt_58 rfl 4 rfl ?_
        refine r_get hc inlX6 0 rfl rfl 1 (by decide) fl_X6_7 rfl rfl dX6_attempt_59 ?_
        refine r_iload hc dX6_attempt_62 2 rfl ?_
        refine r_iload hc dX6_attempt_64 0 rfl ?_
        refine n_add hc dX6_attempt_66 ?_
        have b21 := bLe ((24 * w0) + i)
        refine r_iald hc nI 1 rfl (by omega) (by decide) dX6_attempt_67 ?_
        refine n_add hc dX6_attempt_68 ?_
        refine r_iald hc eI 4 rfl (by omega) (by decide) dX6_attempt_69 ?_
        rw [h8]
        show V p l e (RM 3 76 0 0) s m args below meth c D A 9 0 0 Q (wR cI cZ g gL gS gW gT gO gP gU gA gE gQ ρ) 70 [(6, .int (nI i)), (5, .int (nI p0)), (4, .int (nI (24 * w0))), (3, .int (nI ((rSz ρ) w0))), (0, .ref g), (1, .int (nI w0)), (2, .int (nI c0))] [.int (nI d9)]
        refine r_istore (lv' := [(5, .int (nI d9)), (6, .int (nI i)), (4, .int (nI (24 * w0))), (3, .int (nI ((rSz ρ) w0))), (0, .ref g), (1, .int (nI w0)), (2, .int (nI c0))]) hc dX6_attempt_70 (by decide) rfl ?_
        refine r_iinc (k := 1) (v := (nI (i + 1))) (lv' := [(6, .int (nI (i + 1))), (5, .int (nI d9)), (4, .int (nI (24 * w0))), (3, .int (nI ((rSz ρ) w0))), (0, .ref g), (1, .int (nI w0)), (2, .int (nI c0))]) hc dX6_attempt_72 rfl (nI_add _ _) (by decide) rfl ?_
        refine r_goto hc 19 dX6_attempt_75 (by decide) ?_
        refine r_lv [0, 1, 2, 3, 4, 5, 6] rfl ?_
        exact ih19 _ (by omega) d9 (i + 1) rfl (by omega) (by rw [pth, hp]; show rTb ρ (p0 * 6 + rLe ρ (24 * w0 + i)) = _; rw [Nat.mul_comm p0 6]; exact h8)
  refine r_lv [0, 1, 2, 3, 4, 5, 6] rfl ?_
  exact lp19 _ c0 0 rfl (Nat.zero_le _) rfl
def opnR (ρ : RS) (c x : Nat) : Bool := decide (rNw ρ c = c) && decide (rTb ρ (6 * c + x) = none)
/-- the first open place, or none -/
def OpenR (ρ : RS) (r : Option Nat) : Prop := match r with
  | none => ∀ c x, c < rMd ρ → x < 2 * rN ρ → opnR ρ c x = false
  | some i => ∃ c x, i = 6 * c + x ∧ c < rMd ρ ∧ x < 2 * rN ρ ∧ opnR ρ c x = true ∧ (∀ c' x', c' < c → x' < 2 * rN ρ → opnR ρ c' x' = false) ∧ ∀ x', x' < x → opnR ρ c x' = false
set_option maxHeartbeats 4000000 in
set_option maxRecDepth 100000 in
/-- reference: open() -/
theorem m_open (l : Launch) (D : va_G) (cI cZ cW : ClassId) (g gL gS gW gT gO gP gU gA gE gQ : Nat) (ρ : RS) (hB : BR ρ) : CtI l yX6_open cX6_open 3 (some .int) 0 0 0 0 D cI cZ cW [.ref g] ([]) (wR cI cZ g gL gS gW gT gO gP gU gA gE gQ ρ) (S := Unit) (fun r _ => ∃ o, r = eI o ∧ OpenR ρ o) (fun _ => []) := by
  refine CtI.mk (by decide) (Nat.le_of_ble_eq_true rfl) ?_
  intro p e s m args below meth c A hc hr hlk hnm hro
  generalize hQ : MQ below _ args s 0 0 A = Q
  have hB0 := hB
  obtain ⟨bn, bLe, bSz, bRe, bSu, bMd, bNw, bTb, bPr, bOn, bTw, bNu, bNa, bNd, bLo⟩ := hB
  show V p l e (RM 0 0 0 0) s m args below meth c D A 3 0 0 Q ([]) 0 [(0, .ref g)] []
  refine r_iconst (v := (nI 0)) hc dX6_open_0 rfl ?_
  refine r_istore_n (lv' := [(1, .int (nI 0)), (0, .ref g)]) hc dX6_open_1 rfl (by decide) rfl ?_
  have lp2 : ∀ (n : Nat) (k1 : Nat), rMd ρ - k1 = n → (k1 ≤ rMd ρ) → (∀ c' x', c' < k1 → x' < 2 * rN ρ → opnR ρ c' x' = false) → V p l e (RM 0 0 0 0) s m args below meth c D A 3 0 0 Q ([]) 2 [(1, .int (nI k1)), (0, .ref g)] [] := by
    intro n
    induction n using Nat.strongRecOn with
    | _ n ih2 =>
    intro k1 hm2 hk1 hc1
    refine r_iload_n hc dX6_open_2 rfl 0 rfl ?_
    refine r_aload_n hc dX6_open_3 rfl 1 rfl ?_
    refine r_getR hc inlX6 (hro _ (List.mem_of_getElem? (i := 0) rfl)) rfl 5 (by decide) fl_X6_45 rfl rfl dX6_open_4 ?_
    refine n_icmp_ge hc 65 dX6_open_7 (by decide) (by omega) (by omega) (fun h1 => ?_) (fun h1 => ?_)
    · refine r_iconst (v := (-1)) hc dX6_open_65 rfl ?_
      rw [← hQ]
      exact r_iret hc hr hlk () ⟨none, rfl, fun c' x' q q2 => hc1 c' x' (by omega) q2⟩ rfl dX6_open_66
    · refine r_iconst (v := (nI 0)) hc dX6_open_10 rfl ?_
      refine r_istore_n (lv' := [(2, .int (nI 0)), (1, .int (nI k1)), (0, .ref g)]) hc dX6_open_11 rfl (by decide) rfl ?_
      have lp12 : ∀ (n : Nat) (k2 : Nat), 2 * rN ρ - k2 = n → (k2 ≤ 2 * rN ρ) → (∀ x', x' < k2 → opnR ρ k1 x' = false) → V p l e (RM 0 0 0 0) s m args below meth c D A 3 0 0 Q ([]) 12 [(2, .int (nI k2)), (1, .int (nI k1)), (0, .ref g)] [] := by
        intro n
        induction n using Nat.strongRecOn with
        | _ n ih12 =>
        intro k2 hm12 hk2 hcx
        refine r_iload_n hc dX6_open_12 rfl 0 rfl ?_
        refine r_iconst (v := (nI 2)) hc dX6_open_13 rfl ?_
        refine r_aload_n hc dX6_open_14 rfl 2 rfl ?_
        refine r_getR hc inlX6 (hro _ (List.mem_of_getElem? (i := 0) rfl)) rfl 0 (by decide) fl_X6_49 rfl rfl dX6_open_15 ?_
        refine n_mul hc dX6_open_18 ?_
        refine n_icmp_ge hc 59 dX6_open_19 (by decide) (by omega) (by omega) (fun h2 => ?_) (fun h2 => ?_)
        · refine r_iinc (k := 1) (v := (nI (k1 + 1))) (lv' := [(1, .int (nI (k1 + 1))), (2, .int (nI k2)), (0, .ref g)]) hc dX6_open_59 rfl (nI_add _ _) (by decide) rfl ?_
          refine r_goto hc 2 dX6_open_62 (by decide) ?_
          refine r_lv [0, 2] rfl ?_
          exact ih2 _ (by omega) (k1 + 1) rfl (by omega) (fun c' x' q q2 => if z : c' = k1 then by rw [z]; exact hcx x' (by omega) else hc1 c' x' (by omega) q2)
        · refine r_aload_n hc dX6_open_22 rfl 2 rfl ?_
          refine r_getR hc inlX6 (hro _ (List.mem_of_getElem? (i := 0) rfl)) rfl 6 (by decide) fl_X6_16 rfl rfl dX6_open_23 ?_
          refine r_iload_n hc dX6_open_26 rfl 1 rfl ?_
          have b3 := bNw k1
          refine r_ialdR hc nI (hro _ (List.mem_of_getElem? (i := 3) rfl)) (by omega) (by decide) dX6_open_27 ?_
          refine r_iload_n hc dX6_open_28 rfl 1 rfl ?_
          refine n_icmp_ne hc 53 dX6_open_29 (by decide) (by omega) (by omega) (fun h4 => ?_) (fun h4 => ?_)
          · refine r_iinc (k := 0) (v := (nI (k2 + 1))) (lv' := [(2, .int (nI (k2 + 1))), (1, .int (nI k1)), (0, .ref g)]) hc dX6_open_53 rfl (nI_add _ _) (by decide) rfl ?_
            refine r_goto hc 12 dX6_open_56 (by decide) ?_
            refine r_lv [0, 1, 2] rfl ?_
            exact ih12 _ (by omega) (k2 + 1) rfl (by omega) (fun x' q => if z : x' = k2 then by rw [z]; simp [opnR, h4] else hcx x' (by omega))
          · refine r_aload_n hc dX6_open_32 rfl 2 rfl ?_
            refine r_getR hc inlX6 (hro _ (List.mem_of_getElem? (i := 0) rfl)) rfl 7 (by decide) fl_X6_19 rfl rfl dX6_open_33 ?_
            refine r_bipush (v := (nI 6)) hc dX6_open_36 rfl ?_
            refine r_iload_n hc dX6_open_38 rfl 1 rfl ?_
            refine n_mul hc dX6_open_39 ?_
            refine r_iload_n hc dX6_open_40 rfl 0 rfl ?_
            refine n_add hc dX6_open_41 ?_
            refine r_ialdR hc eI (hro _ (List.mem_of_getElem? (i := 4) rfl)) (by omega) (by decide) dX6_open_42 ?_
            refine e_if_ge hc 53 dX6_open_43 (by decide) (fun d h => Nat.lt_trans (bTb _ d h) (by decide)) (fun d6 h5 => ?_) (fun h5 => ?_)
            · refine r_iinc (k := 0) (v := (nI (k2 + 1))) (lv' := [(2, .int (nI (k2 + 1))), (1, .int (nI k1)), (0, .ref g)]) hc dX6_open_53 rfl (nI_add _ _) (by decide) rfl ?_
              refine r_goto hc 12 dX6_open_56 (by decide) ?_
              refine r_lv [0, 1, 2] rfl ?_
              exact ih12 _ (by omega) (k2 + 1) rfl (by omega) (fun x' q => if z : x' = k2 then by rw [z]; simp [opnR, h5] else hcx x' (by omega))
            · refine r_bipush (v := (nI 6)) hc dX6_open_46 rfl ?_
              refine r_iload_n hc dX6_open_48 rfl 1 rfl ?_
              refine n_mul hc dX6_open_49 ?_
              refine r_iload_n hc dX6_open_50 rfl 0 rfl ?_
              refine n_add hc dX6_open_51 ?_
              rw [← hQ]
              exact r_iret hc hr hlk () ⟨some (6 * k1 + k2), rfl, k1, k2, rfl, by omega, by omega, by simp [opnR, h4, h5], hc1, hcx⟩ rfl dX6_open_52
      refine r_lv [0, 1, 2] rfl ?_
      exact lp12 _ 0 rfl (Nat.zero_le _) (fun x' q => absurd q (Nat.not_lt_zero _))
  refine r_lv [0, 1] rfl ?_
  exact lp2 _ 0 rfl (Nat.zero_le _) (fun c' x' q => absurd q (Nat.not_lt_zero _))
