abbrev ImFR (ρ : RS) (w0 : Nat) (f : Nat → Nat) : Prop := ∀ k, k < rNd ρ → f k < rNd ρ ∧ ImgR ρ w0 k (f k)
theorem cntT_mono {f : Nat → Bool} {n d : Nat} (hd : d < n) (h : f d = false) : cntT f n + 1 ≤ cntT (va_up f d true) n := by rw [cntT_up hd h]; exact Nat.le_refl _
def gSe (ρ : RS) (se : Nat → Bool) : RS := (rN ρ, rLe ρ, rSz ρ, rRe ρ, rSu ρ, rMd ρ, rNw ρ, rTb ρ, rCh ρ, rPr ρ, rOn ρ, rTw ρ, rNu ρ, rNa ρ, rNd ρ, se, rLo ρ)
def gLo (ρ : RS) (lo : Nat → Nat) : RS := (rN ρ, rLe ρ, rSz ρ, rRe ρ, rSu ρ, rMd ρ, rNw ρ, rTb ρ, rCh ρ, rPr ρ, rOn ρ, rTw ρ, rNu ρ, rNa ρ, rNd ρ, rSe ρ, lo)
set_option maxHeartbeats 4000000 in
set_option maxRecDepth 100000 in
/-- reference: cycle(c0) -/
theorem m_cycle (l : Launch) (D : va_G) (cI cZ cW : ClassId) (g gL gS gW gT gO gP gU gA gE gQ : Nat) (ρ : RS) (c0 : Nat) (hc0 : c0 < rNd ρ) (f : Nat → Nat) (hf : ImFR ρ 15 f) (hB : BR ρ) : CtI l yX6_cycle cX6_cycle 4 (some .int) 1 24 0 0 D cI cZ cW [.ref g, .int (nI c0)] (wR cI cZ g gL gS gW gT gO gP gU gA gE gQ ρ) ([]) (S := RS) (fun r u => r = nI (cyc f (rNd ρ) (rSe ρ) c0 0).2 ∧ u = gSe ρ (cyc f (rNd ρ) (rSe ρ) c0 0).1) (fun u => wR cI cZ g gL gS gW gT gO gP gU gA gE gQ u) := by
  refine CtI.mk (by decide) (Nat.le_of_ble_eq_true rfl) ?_
  intro p e s m args below meth c A hc hr hlk hnm hro
  generalize hQ : MQ below _ args s 0 0 A = Q
  have hB0 := hB
  obtain ⟨bn, bLe, bSz, bRe, bSu, bMd, bNw, bTb, bPr, bOn, bTw, bNu, bNa, bNd, bLo⟩ := hB
  show V p l e (RM 1 24 0 0) s m args below meth c D A 4 0 0 Q (wR cI cZ g gL gS gW gT gO gP gU gA gE gQ ρ) 0 [(0, .ref g), (1, .int (nI c0))] []
  refine r_iconst (v := (nI 0)) hc dX6_cycle_0 rfl ?_
  refine r_istore_n (lv' := [(2, .int (nI 0)), (0, .ref g), (1, .int (nI c0))]) hc dX6_cycle_1 rfl (by decide) rfl ?_
  refine r_iload_n hc dX6_cycle_2 rfl 2 rfl ?_
  refine r_istore_n (lv' := [(3, .int (nI c0)), (2, .int (nI 0)), (0, .ref g), (1, .int (nI c0))]) hc dX6_cycle_3 rfl (by decide) rfl ?_
  have lp4 : ∀ (n : Nat) (se : Nat → Bool) (d n0 : Nat), rNd ρ - n0 = n → (n0 ≤ cntT se (rNd ρ)) → (d < rNd ρ) → (cyc f (rNd ρ - n0) se d n0 = cyc f (rNd ρ) (rSe ρ) c0 0) → V p l e (RM 1 24 0 0) s m args below meth c D A 4 0 0 Q (wY cI cZ g gL gS gW gT gO gP gU gA gE gQ (rN ρ) (rLe ρ) (rSz ρ) (rRe ρ) (rSu ρ) (rMd ρ) (rNw ρ) (rTb ρ) (rCh ρ) (rPr ρ) (rOn ρ) (rTw ρ) (rNu ρ) (rNa ρ) (rNd ρ) se (rLo ρ)) 4 [(3, .int (nI d)), (2, .int (nI n0)), (0, .ref g), (1, .int (nI c0))] [] := by
    intro n
    induction n using Nat.strongRecOn with
    | _ n ih4 =>
    intro se d n0 hm4 hn hd hcy
    have hnb := cntT_le se (rNd ρ)
    refine r_aload_n hc dX6_cycle_4 rfl 2 rfl ?_
    refine r_get hc inlX6 0 rfl rfl 15 (by decide) fl_X6_34 rfl rfl dX6_cycle_5 ?_
    refine r_iload_n hc dX6_cycle_8 rfl 0 rfl ?_
    refine r_zald hc zI 9 rfl (by omega) (by decide) dX6_cycle_9 ?_
    refine z_if_ne hc 34 dX6_cycle_10 (by decide) (fun h1 => ?_) (fun h1 => ?_)
    · refine r_iload_n hc dX6_cycle_34 rfl 1 rfl ?_
      rw [← hQ]
      have hz : cyc f (rNd ρ) (rSe ρ) c0 0 = (se, n0) := by rw [← hcy]; exact cyc_stop h1
      exact r_iret hc hr hlk (rN ρ, rLe ρ, rSz ρ, rRe ρ, rSu ρ, rMd ρ, rNw ρ, rTb ρ, rCh ρ, rPr ρ, rOn ρ, rTw ρ, rNu ρ, rNa ρ, rNd ρ, se, rLo ρ) ⟨by rw [hz], by rw [hz]; rfl⟩ rfl dX6_cycle_35
    · have hlt9 := cntT_lt hd h1
      refine r_aload_n hc dX6_cycle_13 rfl 2 rfl ?_
      refine r_get hc inlX6 0 rfl rfl 15 (by decide) fl_X6_34 rfl rfl dX6_cycle_14 ?_
      refine r_iload_n hc dX6_cycle_17 rfl 0 rfl ?_
      refine r_iconst (v := (nI 1)) hc dX6_cycle_18 rfl ?_
      refine r_zast (ws' := wY cI cZ g gL gS gW gT gO gP gU gA gE gQ (rN ρ) (rLe ρ) (rSz ρ) (rRe ρ) (rSu ρ) (rMd ρ) (rNw ρ) (rTb ρ) (rCh ρ) (rPr ρ) (rOn ρ) (rTw ρ) (rNu ρ) (rNa ρ) (rNd ρ) (va_up se d true) (rLo ρ)) hc true 9 rfl (by omega) (by decide) rfl dX6_cycle_19 ?_
      refine r_iinc (k := 1) (v := (nI (n0 + 1))) (lv' := [(2, .int (nI (n0 + 1))), (3, .int (nI d)), (0, .ref g), (1, .int (nI c0))]) hc dX6_cycle_20 rfl (nI_add _ _) (by decide) rfl ?_
      refine r_aload_n hc dX6_cycle_23 rfl 2 rfl ?_
      refine r_bipush (v := (nI 15)) hc dX6_cycle_24 rfl ?_
      refine r_iload_n hc dX6_cycle_26 rfl 1 rfl ?_
      refine r_callI (As := [.int (nI 15), .int (nI d)]) (n := 2) (wr := wY cI cZ g gL gS gW gT gO gP gU gA gE gQ (rN ρ) (rLe ρ) (rSz ρ) (rRe ρ) (rSu ρ) (rMd ρ) (rNw ρ) (rTb ρ) (rCh ρ) (rPr ρ) (rOn ρ) (rTw ρ) (rNu ρ) (rNa ρ) (rNd ρ) (va_up se d true) (rLo ρ)) hc (m_moved l D cI cZ cW g gL gS gW gT gO gP gU gA gE gQ (rN ρ, rLe ρ, rSz ρ, rRe ρ, rSu ρ, rMd ρ, rNw ρ, rTb ρ, rCh ρ, rPr ρ, rOn ρ, rTw ρ, rNu ρ, rNa ρ, rNd ρ, va_up se d true, rLo ρ) 15 d (f d) (by decide) (by omega) (hf d hd).2 (show BR (rN ρ, rLe ρ, rSz ρ, rRe ρ, rSu ρ, rMd ρ, rNw ρ, rTb ρ, rCh ρ, rPr ρ, rOn ρ, rTw ρ, rNu ρ, rNa ρ, rNd ρ, va_up se d true, rLo ρ) from ⟨bn, bLe, bSz, bRe, bSu, bMd, bNw, bTb, bPr, bOn, bTw, bNu, bNa, bNd, bLo⟩)) co_yX6_moved in_X6 ml_X6_125 (by decide +kernel) rfl ⟨by decide, by decide⟩ ⟨by decide, by decide⟩ im_yX6_moved se_yX6_moved rfl (Or.inl ⟨0, _, rfl⟩) rfl (Nat.le_of_ble_eq_true rfl) [] [0, 1, 2, 3, 4, 5, 6, 7, 8, 9, 10] rfl rfl rfl rfl (by decide) (fun q hq => Or.inl ((List.getElem?_of_mem hq).elim fun k hk => ⟨k, hk, List.not_mem_nil⟩)) dX6_cycle_27 (fun r2 u3 e4 => ?_)
      subst e4
      show V p l e (RM 1 24 0 0) s m args below meth c D A 4 0 0 Q (wY cI cZ g gL gS gW gT gO gP gU gA gE gQ (rN ρ) (rLe ρ) (rSz ρ) (rRe ρ) (rSu ρ) (rMd ρ) (rNw ρ) (rTb ρ) (rCh ρ) (rPr ρ) (rOn ρ) (rTw ρ) (rNu ρ) (rNa ρ) (rNd ρ) (va_up se d true) (rLo ρ)) 30 [(2, .int (nI (n0 + 1))), (3, .int (nI d)), (0, .ref g), (1, .int (nI c0))] [.int (nI (f d))]
      refine r_istore_n (lv' := [(3, .int (nI (f d))), (2, .int (nI (n0 + 1))), (0, .ref g), (1, .int (nI c0))]) hc dX6_cycle_30 rfl (by decide) rfl ?_
      refine r_goto hc 4 dX6_cycle_31 (by decide) ?_
      refine r_lv [0, 1, 2, 3] rfl ?_
      exact ih4 _ (by omega) (va_up se d true) (f d) (n0 + 1) rfl (by have := cntT_mono hd h1; omega) (hf d hd).1 (by rw [← hcy, show rNd ρ - n0 = rNd ρ - (n0 + 1) + 1 by omega, cyc_step h1])
  refine r_lv [0, 1, 2, 3] rfl ?_
  exact lp4 _ (rSe ρ) c0 0 rfl (Nat.zero_le _) hc0 rfl
set_option maxHeartbeats 4000000 in
set_option maxRecDepth 100000 in
/-- reference: cycles(fx) -/
theorem m_cycles (l : Launch) (D : va_G) (cI cZ cW : ClassId) (g gL gS gW gT gO gP gU gA gE gQ : Nat) (ρ : RS) (hcm : cmpl ρ) (F : RS → Prop) (hNum : NumOK ρ F) (hFB : ∀ τ, F τ → BR τ) (hB : BR ρ) (f : Nat → Nat) (hf : ∀ τ, F τ → ImFR τ 15 f) (fx : Bool) : CtI l yX6_cycles cX6_cycles 5 (some .int) 3 65 0 0 D cI cZ cW [.ref g, .int (zI fx)] (wR cI cZ g gL gS gW gT gO gP gU gA gE gQ ρ) ([]) (S := RS) (fun r u => ∃ τ, F τ ∧ r = nI (ccI f (rNd τ) fx (frgI (rSe τ) (rNd τ)) (rNd τ)).2 ∧ ∃ se, u = gSe τ se) (fun u => wR cI cZ g gL gS gW gT gO gP gU gA gE gQ u) := by
  refine CtI.mk (by decide) (Nat.le_of_ble_eq_true rfl) ?_
  intro p e s m args below meth c A hc hr hlk hnm hro
  generalize hQ : MQ below _ args s 0 0 A = Q
  have hB0 := hB
  obtain ⟨bn, bLe, bSz, bRe, bSu, bMd, bNw, bTb, bPr, bOn, bTw, bNu, bNa, bNd, bLo⟩ := hB
  show V p l e (RM 3 65 0 0) s m args below meth c D A 5 0 0 Q (wR cI cZ g gL gS gW gT gO gP gU gA gE gQ ρ) 0 [(0, .ref g), (1, .int (zI fx))] []
  refine r_aload_n hc dX6_cycles_0 rfl 0 rfl ?_
  refine r_callI (As := []) (n := 0) (wr := []) hc (m_numberAll l D cI cZ cW g gL gS gW gT gO gP gU gA gE gQ ρ hcm F hNum hB0) co_yX6_numberAll in_X6 ml_X6_119 (by decide +kernel) rfl ⟨by decide, by decide⟩ ⟨by decide, by decide⟩ im_yX6_numberAll se_yX6_numberAll rfl (Or.inl ⟨0, _, rfl⟩) rfl (Nat.le_of_ble_eq_true rfl) [0, 1, 2, 3, 4, 5, 6, 7, 8, 9, 10] [] rfl rfl rfl rfl (by decide) (fun q hq => absurd hq List.not_mem_nil) dX6_cycles_1 (fun r τ e1 => ?_)
  show V p l e (RM 3 65 0 0) s m args below meth c D A 5 0 0 Q (wR cI cZ g gL gS gW gT gO gP gU gA gE gQ τ) 4 [(0, .ref g), (1, .int (zI fx))] [.int r]
  obtain ⟨rfl, hFt⟩ := e1
  show V p l e (RM 3 65 0 0) s m args below meth c D A 5 0 0 Q (wR cI cZ g gL gS gW gT gO gP gU gA gE gQ τ) 4 [(0, .ref g), (1, .int (zI fx))] [.int (zI true)]
  have hBt := hFB τ hFt
  obtain ⟨tn, tLe, tSz, tRe, tSu, tMd, tNw, tTb, tPr, tOn, tTw, tNu, tNa, tNd, tLo⟩ := id hBt
  refine z_if_ne hc 9 dX6_cycles_4 (by decide) (fun h2 => ?_) (fun h2 => ?_)
  · refine r_iconst (v := (nI 0)) hc dX6_cycles_9 rfl ?_
    refine r_istore_n (lv' := [(2, .int (nI 0)), (0, .ref g), (1, .int (zI fx))]) hc dX6_cycles_10 rfl (by decide) rfl ?_
    have lp11 : ∀ (n : Nat) (k : Nat), rNd τ - k = n → (k ≤ rNd τ) → V p l e (RM 3 65 0 0) s m args below meth c D A 5 0 0 Q (wY cI cZ g gL gS gW gT gO gP gU gA gE gQ (rN τ) (rLe τ) (rSz τ) (rRe τ) (rSu τ) (rMd τ) (rNw τ) (rTb τ) (rCh τ) (rPr τ) (rOn τ) (rTw τ) (rNu τ) (rNa τ) (rNd τ) (frgI (rSe τ) k) (rLo τ)) 11 [(2, .int (nI k)), (0, .ref g), (1, .int (zI fx))] [] := by
      intro n
      induction n using Nat.strongRecOn with
      | _ n ih11 =>
      intro k hm11 hk
      refine r_iload_n hc dX6_cycles_11 rfl 0 rfl ?_
      refine r_aload_n hc dX6_cycles_12 rfl 1 rfl ?_
      refine r_get hc inlX6 0 rfl rfl 14 (by decide) fl_X6_116 rfl rfl dX6_cycles_13 ?_
      refine n_icmp_ge hc 32 dX6_cycles_16 (by decide) (by omega) (by omega) (fun h3 => ?_) (fun h3 => ?_)
      · have hk9 : k = rNd τ := by omega
        rw [hk9]
        show V p l e (RM 3 65 0 0) s m args below meth c D A 5 0 0 Q (wY cI cZ g gL gS gW gT gO gP gU gA gE gQ (rN τ) (rLe τ) (rSz τ) (rRe τ) (rSu τ) (rMd τ) (rNw τ) (rTb τ) (rCh τ) (rPr τ) (rOn τ) (rTw τ) (rNu τ) (rNa τ) (rNd τ) (frgI (rSe τ) (rNd τ)) (rLo τ)) 32 [(2, .int (nI (rNd τ))), (0, .ref g), (1, .int (zI fx))] []
        refine r_iconst (v := (nI 0)) hc dX6_cycles_32 rfl ?_
        refine r_istore_n (lv' := [(2, .int (nI 0)), (0, .ref g), (1, .int (zI fx))]) hc dX6_cycles_33 rfl (by decide) rfl ?_
        refine r_iconst (v := (nI 0)) hc dX6_cycles_34 rfl ?_
        refine r_istore_n (lv' := [(3, .int (nI 0)), (2, .int (nI 0)), (0, .ref g), (1, .int (zI fx))]) hc dX6_cycles_35 rfl (by decide) rfl ?_
        have lp36 : ∀ (n : Nat) (se : Nat → Bool) (n0 k2 : Nat), rNd τ - k2 = n → (k2 ≤ rNd τ) → (n0 ≤ k2) → (ccI f (rNd τ) fx (frgI (rSe τ) (rNd τ)) k2 = (se, n0)) → V p l e (RM 3 65 0 0) s m args below meth c D A 5 0 0 Q (wY cI cZ g gL gS gW gT gO gP gU gA gE gQ (rN τ) (rLe τ) (rSz τ) (rRe τ) (rSu τ) (rMd τ) (rNw τ) (rTb τ) (rCh τ) (rPr τ) (rOn τ) (rTw τ) (rNu τ) (rNa τ) (rNd τ) se (rLo τ)) 36 [(3, .int (nI k2)), (2, .int (nI n0)), (0, .ref g), (1, .int (zI fx))] [] := by
          intro n
          induction n using Nat.strongRecOn with
          | _ n ih36 =>
          intro se n0 k2 hm36 hk2 hn hcc
          refine r_iload_n hc dX6_cycles_36 rfl 0 rfl ?_
          refine r_aload_n hc dX6_cycles_37 rfl 2 rfl ?_
          refine r_get hc inlX6 0 rfl rfl 14 (by decide) fl_X6_116 rfl rfl dX6_cycles_38 ?_
          refine n_icmp_ge hc 81 dX6_cycles_41 (by decide) (by omega) (by omega) (fun h4 => ?_) (fun h4 => ?_)
          · refine r_iload_n hc dX6_cycles_81 rfl 1 rfl ?_
            rw [← hQ]
            have hz : ccI f (rNd τ) fx (frgI (rSe τ) (rNd τ)) (rNd τ) = (se, n0) := by rw [← hcc, show k2 = rNd τ by omega]
            exact r_iret hc hr hlk (gSe τ se) ⟨τ, hFt, by rw [hz], se, rfl⟩ rfl dX6_cycles_82
          · refine r_aload_n hc dX6_cycles_44 rfl 2 rfl ?_
            refine r_iload_n hc dX6_cycles_45 rfl 0 rfl ?_
            show V p l e (RM 3 65 0 0) s m args below meth c D A 5 0 0 Q (wR cI cZ g gL gS gW gT gO gP gU gA gE gQ (gSe τ se)) 46 [(3, .int (nI k2)), (2, .int (nI n0)), (0, .ref g), (1, .int (zI fx))] [.int (nI k2), .ref g]
            refine r_callI (As := [.int (nI k2)]) (n := 1) (wr := []) hc (m_cycle l D cI cZ cW g gL gS gW gT gO gP gU gA gE gQ (gSe τ se) k2 (by show k2 < rNd τ; omega) f (hf τ hFt) (show BR (gSe τ se) from ⟨tn, tLe, tSz, tRe, tSu, tMd, tNw, tTb, tPr, tOn, tTw, tNu, tNa, tNd, tLo⟩)) co_yX6_cycle in_X6 ml_X6_129 (by decide +kernel) rfl ⟨by decide, by decide⟩ ⟨by decide, by decide⟩ im_yX6_cycle se_yX6_cycle rfl (Or.inl ⟨0, _, rfl⟩) rfl (Nat.le_of_ble_eq_true rfl) [0, 1, 2, 3, 4, 5, 6, 7, 8, 9, 10] [] rfl rfl rfl rfl (by decide) (fun q hq => absurd hq List.not_mem_nil) dX6_cycles_46 (fun r0 u e5 => ?_)
            show V p l e (RM 3 65 0 0) s m args below meth c D A 5 0 0 Q (wR cI cZ g gL gS gW gT gO gP gU gA gE gQ u) 49 [(3, .int (nI k2)), (2, .int (nI n0)), (0, .ref g), (1, .int (zI fx))] [.int r0]
            obtain ⟨rfl, rfl⟩ := e5
            show V p l e (RM 3 65 0 0) s m args below meth c D A 5 0 0 Q (wY cI cZ g gL gS gW gT gO gP gU gA gE gQ (rN τ) (rLe τ) (rSz τ) (rRe τ) (rSu τ) (rMd τ) (rNw τ) (rTb τ) (rCh τ) (rPr τ) (rOn τ) (rTw τ) (rNu τ) (rNa τ) (rNd τ) ((cyc f (rNd τ) se k2 0).1) (rLo τ)) 49 [(3, .int (nI k2)), (2, .int (nI n0)), (0, .ref g), (1, .int (zI fx))] [.int (nI ((cyc f (rNd τ) se k2 0).2))]
            have hle : (cyc f (rNd τ) se k2 0).2 ≤ 0 + rNd τ := cyc_le
            refine r_istore (lv' := [(4, .int (nI ((cyc f (rNd τ) se k2 0).2))), (3, .int (nI k2)), (2, .int (nI n0)), (0, .ref g), (1, .int (zI fx))]) hc dX6_cycles_49 (by decide) rfl ?_
            refine r_iload_n hc dX6_cycles_51 rfl 2 rfl ?_
            refine r_iload hc dX6_cycles_52 0 rfl ?_
            refine r_iconst (v := (nI 1)) hc dX6_cycles_54 rfl ?_
            refine n_icmp_eq hc 68 dX6_cycles_55 (by decide) (by omega) (by omega) (fun h6 => ?_) (fun h6 => ?_)
            · refine r_iconst (v := (nI 1)) hc dX6_cycles_68 rfl ?_
              refine r_goto hc 73 dX6_cycles_69 (by decide) ?_
              refine n_add hc dX6_cycles_73 ?_
              refine r_istore_n (lv' := [(2, .int (nI (n0 + 1))), (4, .int (nI ((cyc f (rNd τ) se k2 0).2))), (3, .int (nI k2)), (0, .ref g), (1, .int (zI fx))]) hc dX6_cycles_74 rfl (by decide) rfl ?_
              refine r_iinc (k := 2) (v := (nI (k2 + 1))) (lv' := [(3, .int (nI (k2 + 1))), (2, .int (nI (n0 + 1))), (4, .int (nI ((cyc f (rNd τ) se k2 0).2))), (0, .ref g), (1, .int (zI fx))]) hc dX6_cycles_75 rfl (nI_add _ _) (by decide) rfl ?_
              refine r_goto hc 36 dX6_cycles_78 (by decide) ?_
              refine r_lv [0, 1, 3, 4] rfl ?_
              exact ih36 _ (by omega) _ (n0 + 1) (k2 + 1) rfl (by omega) (by omega) (ccI_p hcc (by simp [ccC, h6]))
            · refine r_iload hc dX6_cycles_58 0 rfl ?_
              refine r_iconst (v := (nI 1)) hc dX6_cycles_60 rfl ?_
              refine n_icmp_le hc 72 dX6_cycles_61 (by decide) (by omega) (by omega) (fun h7 => ?_) (fun h7 => ?_)
              · refine r_iconst (v := (nI 0)) hc dX6_cycles_72 rfl ?_
                refine n_add hc dX6_cycles_73 ?_
                refine r_istore_n (lv' := [(2, .int (nI (n0 + 0))), (4, .int (nI ((cyc f (rNd τ) se k2 0).2))), (3, .int (nI k2)), (0, .ref g), (1, .int (zI fx))]) hc dX6_cycles_74 rfl (by decide) rfl ?_
                rw [Nat.add_zero]
                show V p l e (RM 3 65 0 0) s m args below meth c D A 5 0 0 Q (wY cI cZ g gL gS gW gT gO gP gU gA gE gQ (rN τ) (rLe τ) (rSz τ) (rRe τ) (rSu τ) (rMd τ) (rNw τ) (rTb τ) (rCh τ) (rPr τ) (rOn τ) (rTw τ) (rNu τ) (rNa τ) (rNd τ) ((cyc f (rNd τ) se k2 0).1) (rLo τ)) 75 [(2, .int (nI n0)), (4, .int (nI ((cyc f (rNd τ) se k2 0).2))), (3, .int (nI k2)), (0, .ref g), (1, .int (zI fx))] []
                refine r_iinc (k := 2) (v := (nI (k2 + 1))) (lv' := [(3, .int (nI (k2 + 1))), (2, .int (nI n0)), (4, .int (nI ((cyc f (rNd τ) se k2 0).2))), (0, .ref g), (1, .int (zI fx))]) hc dX6_cycles_75 rfl (nI_add _ _) (by decide) rfl ?_
                refine r_goto hc 36 dX6_cycles_78 (by decide) ?_
                refine r_lv [0, 1, 3, 4] rfl ?_
                exact ih36 _ (by omega) _ n0 (k2 + 1) rfl (by omega) (by omega) (ccI_n hcc (by simp [ccC]; omega))
              · refine r_iload_n hc dX6_cycles_64 rfl 4 rfl ?_
                refine z_if_ne hc 72 dX6_cycles_65 (by decide) (fun h8 => ?_) (fun h8 => ?_)
                · refine r_iconst (v := (nI 0)) hc dX6_cycles_72 rfl ?_
                  refine n_add hc dX6_cycles_73 ?_
                  refine r_istore_n (lv' := [(2, .int (nI (n0 + 0))), (4, .int (nI ((cyc f (rNd τ) se k2 0).2))), (3, .int (nI k2)), (0, .ref g), (1, .int (zI fx))]) hc dX6_cycles_74 rfl (by decide) rfl ?_
                  rw [Nat.add_zero]
                  show V p l e (RM 3 65 0 0) s m args below meth c D A 5 0 0 Q (wY cI cZ g gL gS gW gT gO gP gU gA gE gQ (rN τ) (rLe τ) (rSz τ) (rRe τ) (rSu τ) (rMd τ) (rNw τ) (rTb τ) (rCh τ) (rPr τ) (rOn τ) (rTw τ) (rNu τ) (rNa τ) (rNd τ) ((cyc f (rNd τ) se k2 0).1) (rLo τ)) 75 [(2, .int (nI n0)), (4, .int (nI ((cyc f (rNd τ) se k2 0).2))), (3, .int (nI k2)), (0, .ref g), (1, .int (zI fx))] []
                  refine r_iinc (k := 2) (v := (nI (k2 + 1))) (lv' := [(3, .int (nI (k2 + 1))), (2, .int (nI n0)), (4, .int (nI ((cyc f (rNd τ) se k2 0).2))), (0, .ref g), (1, .int (zI fx))]) hc dX6_cycles_75 rfl (nI_add _ _) (by decide) rfl ?_
                  refine r_goto hc 36 dX6_cycles_78 (by decide) ?_
                  refine r_lv [0, 1, 3, 4] rfl ?_
                  exact ih36 _ (by omega) _ n0 (k2 + 1) rfl (by omega) (by omega) (ccI_n hcc (by simp [ccC, h8, h6]))
                · refine r_iconst (v := (nI 1)) hc dX6_cycles_68 rfl ?_
                  refine r_goto hc 73 dX6_cycles_69 (by decide) ?_
                  refine n_add hc dX6_cycles_73 ?_
                  refine r_istore_n (lv' := [(2, .int (nI (n0 + 1))), (4, .int (nI ((cyc f (rNd τ) se k2 0).2))), (3, .int (nI k2)), (0, .ref g), (1, .int (zI fx))]) hc dX6_cycles_74 rfl (by decide) rfl ?_
                  refine r_iinc (k := 2) (v := (nI (k2 + 1))) (lv' := [(3, .int (nI (k2 + 1))), (2, .int (nI (n0 + 1))), (4, .int (nI ((cyc f (rNd τ) se k2 0).2))), (0, .ref g), (1, .int (zI fx))]) hc dX6_cycles_75 rfl (nI_add _ _) (by decide) rfl ?_
                  refine r_goto hc 36 dX6_cycles_78 (by decide) ?_
                  refine r_lv [0, 1, 3, 4] rfl ?_
                  exact ih36 _ (by omega) _ (n0 + 1) (k2 + 1) rfl (by omega) (by omega) (ccI_p hcc (by simp [ccC, h8]; omega))
        refine r_lv [0, 1, 2, 3] rfl ?_
        exact lp36 _ (frgI (rSe τ) (rNd τ)) 0 0 rfl (Nat.zero_le _) (Nat.zero_le _) rfl
      · refine r_aload_n hc dX6_cycles_19 rfl 1 rfl ?_
        refine r_get hc inlX6 0 rfl rfl 15 (by decide) fl_X6_34 rfl rfl dX6_cycles_20 ?_
        refine r_iload_n hc dX6_cycles_23 rfl 0 rfl ?_
        refine r_iconst (v := (nI 0)) hc dX6_cycles_24 rfl ?_
        refine r_zast (ws' := wY cI cZ g gL gS gW gT gO gP gU gA gE gQ (rN τ) (rLe τ) (rSz τ) (rRe τ) (rSu τ) (rMd τ) (rNw τ) (rTb τ) (rCh τ) (rPr τ) (rOn τ) (rTw τ) (rNu τ) (rNa τ) (rNd τ) (va_up (frgI (rSe τ) k) k false) (rLo τ)) hc false 9 rfl (by omega) (by decide) rfl dX6_cycles_25 ?_
        refine r_iinc (k := 0) (v := (nI (k + 1))) (lv' := [(2, .int (nI (k + 1))), (0, .ref g), (1, .int (zI fx))]) hc dX6_cycles_26 rfl (nI_add _ _) (by decide) rfl ?_
        refine r_goto hc 11 dX6_cycles_29 (by decide) ?_
        refine r_lv [0, 1, 2] rfl ?_
        exact ih11 _ (by omega) (k + 1) rfl (by omega)
    refine r_lv [0, 1, 2] rfl ?_
    exact lp11 _ 0 rfl (Nat.zero_le _)
  · cases h2
set_option maxHeartbeats 4000000 in
set_option maxRecDepth 100000 in
/-- reference: order() -/
theorem m_order (l : Launch) (D : va_G) (cI cZ cW : ClassId) (g gL gS gW gT gO gP gU gA gE gQ : Nat) (ρ : RS) (hcm : cmpl ρ) (F : RS → Prop) (hNum : NumOK ρ F) (hFB : ∀ τ, F τ → BR τ) (hB : BR ρ) (f : Nat → Nat) (hf : ∀ τ, F τ → ImFR τ 15 f) : CtL l yX6_order cX6_order 12 (some .long) 3 65 0 0 D cI cZ cW [.ref g] (wR cI cZ g gL gS gW gT gO gP gU gA gE gQ ρ) ([]) (S := RS) (fun r u => ∃ τ, F τ ∧ r = (ooI f (rNd τ) (frgI (rSe τ) (rNd τ)) (rNd τ)).2 ∧ ∃ se, u = gSe τ se) (fun u => wR cI cZ g gL gS gW gT gO gP gU gA gE gQ u) := by
  refine CtL.mk (by decide) (Nat.le_of_ble_eq_true rfl) ?_
  intro p e s m args below meth c A hc hr hlk hnm hro
  generalize hQ : MQ below _ args s 0 0 A = Q
  have hB0 := hB
  obtain ⟨bn, bLe, bSz, bRe, bSu, bMd, bNw, bTb, bPr, bOn, bTw, bNu, bNa, bNd, bLo⟩ := hB
  show V p l e (RM 3 65 0 0) s m args below meth c D A 12 0 0 Q (wR cI cZ g gL gS gW gT gO gP gU gA gE gQ ρ) 0 [(0, .ref g)] []
  refine r_aload_n hc dX6_order_0 rfl 0 rfl ?_
  refine r_callI (As := []) (n := 0) (wr := []) hc (m_numberAll l D cI cZ cW g gL gS gW gT gO gP gU gA gE gQ ρ hcm F hNum hB0) co_yX6_numberAll in_X6 ml_X6_119 (by decide +kernel) rfl ⟨by decide, by decide⟩ ⟨by decide, by decide⟩ im_yX6_numberAll se_yX6_numberAll rfl (Or.inl ⟨0, _, rfl⟩) rfl (Nat.le_of_ble_eq_true rfl) [0, 1, 2, 3, 4, 5, 6, 7, 8, 9, 10] [] rfl rfl rfl rfl (by decide) (fun q hq => absurd hq List.not_mem_nil) dX6_order_1 (fun r τ e1 => ?_)
  show V p l e (RM 3 65 0 0) s m args below meth c D A 12 0 0 Q (wR cI cZ g gL gS gW gT gO gP gU gA gE gQ τ) 4 [(0, .ref g)] [.int r]
  obtain ⟨rfl, hFt⟩ := e1
  show V p l e (RM 3 65 0 0) s m args below meth c D A 12 0 0 Q (wR cI cZ g gL gS gW gT gO gP gU gA gE gQ τ) 4 [(0, .ref g)] [.int (zI true)]
  have hBt := hFB τ hFt
  obtain ⟨tn, tLe, tSz, tRe, tSu, tMd, tNw, tTb, tPr, tOn, tTw, tNu, tNa, tNd, tLo⟩ := id hBt
  refine z_if_ne hc 11 dX6_order_4 (by decide) (fun h2 => ?_) (fun h2 => ?_)
  · refine r_iconst (v := (nI 0)) hc dX6_order_11 rfl ?_
    refine r_istore_n (lv' := [(1, .int (nI 0)), (0, .ref g)]) hc dX6_order_12 rfl (by decide) rfl ?_
    have lp13 : ∀ (n : Nat) (k : Nat), rNd τ - k = n → (k ≤ rNd τ) → V p l e (RM 3 65 0 0) s m args below meth c D A 12 0 0 Q (wY cI cZ g gL gS gW gT gO gP gU gA gE gQ (rN τ) (rLe τ) (rSz τ) (rRe τ) (rSu τ) (rMd τ) (rNw τ) (rTb τ) (rCh τ) (rPr τ) (rOn τ) (rTw τ) (rNu τ) (rNa τ) (rNd τ) (frgI (rSe τ) k) (rLo τ)) 13 [(1, .int (nI k)), (0, .ref g)] [] := by
      intro n
      induction n using Nat.strongRecOn with
      | _ n ih13 =>
      intro k hm13 hk
      refine r_iload_n hc dX6_order_13 rfl 0 rfl ?_
      refine r_aload_n hc dX6_order_14 rfl 1 rfl ?_
      refine r_get hc inlX6 0 rfl rfl 14 (by decide) fl_X6_116 rfl rfl dX6_order_15 ?_
      refine n_icmp_ge hc 34 dX6_order_18 (by decide) (by omega) (by omega) (fun h3 => ?_) (fun h3 => ?_)
      · have hk9 : k = rNd τ := by omega
        rw [hk9]
        show V p l e (RM 3 65 0 0) s m args below meth c D A 12 0 0 Q (wY cI cZ g gL gS gW gT gO gP gU gA gE gQ (rN τ) (rLe τ) (rSz τ) (rRe τ) (rSu τ) (rMd τ) (rNw τ) (rTb τ) (rCh τ) (rPr τ) (rOn τ) (rTw τ) (rNu τ) (rNa τ) (rNd τ) (frgI (rSe τ) (rNd τ)) (rLo τ)) 34 [(1, .int (nI (rNd τ))), (0, .ref g)] []
        refine r_lconst (v := 1) hc dX6_order_34 rfl ?_
        refine r_lstore_n (lv' := [(1, .long 1), (0, .ref g)]) hc dX6_order_35 rfl (by decide) rfl ?_
        refine r_iconst (v := (nI 0)) hc dX6_order_36 rfl ?_
        refine r_istore_n (lv' := [(3, .int (nI 0)), (1, .long 1), (0, .ref g)]) hc dX6_order_37 rfl (by decide) rfl ?_
        have lp38 : ∀ (n : Nat) (se : Nat → Bool) (n0 : Int64) (k2 : Nat), rNd τ - k2 = n → (k2 ≤ rNd τ) → (ooI f (rNd τ) (frgI (rSe τ) (rNd τ)) k2 = (se, n0)) → V p l e (RM 3 65 0 0) s m args below meth c D A 12 0 0 Q (wY cI cZ g gL gS gW gT gO gP gU gA gE gQ (rN τ) (rLe τ) (rSz τ) (rRe τ) (rSu τ) (rMd τ) (rNw τ) (rTb τ) (rCh τ) (rPr τ) (rOn τ) (rTw τ) (rNu τ) (rNa τ) (rNd τ) se (rLo τ)) 38 [(3, .int (nI k2)), (1, .long n0), (0, .ref g)] [] := by
          intro n
          induction n using Nat.strongRecOn with
          | _ n ih38 =>
          intro se n0 k2 hm38 hk2 hcc
          refine r_iload_n hc dX6_order_38 rfl 0 rfl ?_
          refine r_aload_n hc dX6_order_39 rfl 2 rfl ?_
          refine r_get hc inlX6 0 rfl rfl 14 (by decide) fl_X6_116 rfl rfl dX6_order_40 ?_
          refine n_icmp_ge hc 111 dX6_order_43 (by decide) (by omega) (by omega) (fun h4 => ?_) (fun h4 => ?_)
          · refine r_lload_n hc dX6_order_111 rfl 1 rfl ?_
            rw [← hQ]
            have hz : ooI f (rNd τ) (frgI (rSe τ) (rNd τ)) (rNd τ) = (se, n0) := by rw [← hcc, show k2 = rNd τ by omega]
            exact r_lret hc hr hlk (gSe τ se) ⟨τ, hFt, by rw [hz], se, rfl⟩ rfl dX6_order_112
          · refine r_aload_n hc dX6_order_46 rfl 2 rfl ?_
            refine r_iload_n hc dX6_order_47 rfl 0 rfl ?_
            show V p l e (RM 3 65 0 0) s m args below meth c D A 12 0 0 Q (wR cI cZ g gL gS gW gT gO gP gU gA gE gQ (gSe τ se)) 48 [(3, .int (nI k2)), (1, .long n0), (0, .ref g)] [.int (nI k2), .ref g]
            refine r_callI (As := [.int (nI k2)]) (n := 1) (wr := []) hc (m_cycle l D cI cZ cW g gL gS gW gT gO gP gU gA gE gQ (gSe τ se) k2 (by show k2 < rNd τ; omega) f (hf τ hFt) (show BR (gSe τ se) from ⟨tn, tLe, tSz, tRe, tSu, tMd, tNw, tTb, tPr, tOn, tTw, tNu, tNa, tNd, tLo⟩)) co_yX6_cycle in_X6 ml_X6_129 (by decide +kernel) rfl ⟨by decide, by decide⟩ ⟨by decide, by decide⟩ im_yX6_cycle se_yX6_cycle rfl (Or.inl ⟨0, _, rfl⟩) rfl (Nat.le_of_ble_eq_true rfl) [0, 1, 2, 3, 4, 5, 6, 7, 8, 9, 10] [] rfl rfl rfl rfl (by decide) (fun q hq => absurd hq List.not_mem_nil) dX6_order_48 (fun r0 u e5 => ?_)
            show V p l e (RM 3 65 0 0) s m args below meth c D A 12 0 0 Q (wR cI cZ g gL gS gW gT gO gP gU gA gE gQ u) 51 [(3, .int (nI k2)), (1, .long n0), (0, .ref g)] [.int r0]
            obtain ⟨rfl, rfl⟩ := e5
            show V p l e (RM 3 65 0 0) s m args below meth c D A 12 0 0 Q (wY cI cZ g gL gS gW gT gO gP gU gA gE gQ (rN τ) (rLe τ) (rSz τ) (rRe τ) (rSu τ) (rMd τ) (rNw τ) (rTb τ) (rCh τ) (rPr τ) (rOn τ) (rTw τ) (rNu τ) (rNa τ) (rNd τ) ((cyc f (rNd τ) se k2 0).1) (rLo τ)) 51 [(3, .int (nI k2)), (1, .long n0), (0, .ref g)] [.int (nI ((cyc f (rNd τ) se k2 0).2))]
            have hle : (cyc f (rNd τ) se k2 0).2 ≤ 0 + rNd τ := cyc_le
            refine r_i2l (v := lN ((cyc f (rNd τ) se k2 0).2)) hc dX6_order_51 (nI_l (by omega)) ?_
            refine r_lstore (lv' := [(4, .long (lN ((cyc f (rNd τ) se k2 0).2))), (3, .int (nI k2)), (1, .long n0), (0, .ref g)]) hc dX6_order_52 (by decide) rfl ?_
            refine r_lload_n hc dX6_order_54 rfl 2 rfl ?_
            refine r_lstore (lv' := [(6, .long n0), (4, .long (lN ((cyc f (rNd τ) se k2 0).2))), (3, .int (nI k2)), (1, .long n0), (0, .ref g)]) hc dX6_order_55 (by decide) rfl ?_
            refine r_lload hc dX6_order_57 1 rfl ?_
            refine r_lstore (lv' := [(8, .long (lN ((cyc f (rNd τ) se k2 0).2))), (6, .long n0), (4, .long (lN ((cyc f (rNd τ) se k2 0).2))), (3, .int (nI k2)), (1, .long n0), (0, .ref g)]) hc dX6_order_59 (by decide) rfl ?_
            have lp61 : ∀ (n : Nat) (a1 b1 : Int64), b1.toInt.toNat = n → (gcL a1 b1 = gcL n0 (lN (cyc f (rNd τ) se k2 0).2)) → (0 < (cyc f (rNd τ) se k2 0).2 → 0 < b1 ∨ 0 < a1) → V p l e (RM 3 65 0 0) s m args below meth c D A 12 0 0 Q (wY cI cZ g gL gS gW gT gO gP gU gA gE gQ (rN τ) (rLe τ) (rSz τ) (rRe τ) (rSu τ) (rMd τ) (rNw τ) (rTb τ) (rCh τ) (rPr τ) (rOn τ) (rTw τ) (rNu τ) (rNa τ) (rNd τ) ((cyc f (rNd τ) se k2 0).1) (rLo τ)) 61 [(8, .long b1), (6, .long a1), (4, .long (lN ((cyc f (rNd τ) se k2 0).2))), (3, .int (nI k2)), (1, .long n0), (0, .ref g)] [] := by
              intro n
              induction n using Nat.strongRecOn with
              | _ n ih61 =>
              intro a1 b1 hm61 hg hab
              refine r_lload hc dX6_order_61 0 rfl ?_
              refine r_lconst (v := 0) hc dX6_order_63 rfl ?_
              refine r_lcmp hc dX6_order_64 ?_
              refine c_if_le hc 86 dX6_order_65 (by decide) (fun h6 => ?_) (fun h6 => ?_)
              · refine r_lload hc dX6_order_86 2 rfl ?_
                refine r_lconst (v := 0) hc dX6_order_88 rfl ?_
                refine r_lcmp hc dX6_order_89 ?_
                refine c_if_le hc 103 dX6_order_90 (by decide) (fun h7 => ?_) (fun h7 => ?_)
                · have hz0 : (cyc f (rNd τ) se k2 0).2 = 0 := Nat.eq_zero_of_not_pos fun q => h7 ((pk_lLT (by decide) (by omega)).mpr q)
                  refine r_lload_n hc dX6_order_103 rfl 4 rfl ?_
                  refine r_lstore_n (lv' := [(1, .long n0), (8, .long b1), (6, .long a1), (4, .long (lN ((cyc f (rNd τ) se k2 0).2))), (3, .int (nI k2)), (0, .ref g)]) hc dX6_order_104 rfl (by decide) rfl ?_
                  refine r_iinc (k := 4) (v := (nI (k2 + 1))) (lv' := [(3, .int (nI (k2 + 1))), (1, .long n0), (8, .long b1), (6, .long a1), (4, .long (lN ((cyc f (rNd τ) se k2 0).2))), (0, .ref g)]) hc dX6_order_105 rfl (nI_add _ _) (by decide) rfl ?_
                  refine r_goto hc 38 dX6_order_108 (by decide) ?_
                  refine r_lv [0, 1, 5] rfl ?_
                  exact ih38 _ (by omega) _ n0 (k2 + 1) rfl (by omega) (ooI_n hcc hz0)
                · have hzp : 0 < (cyc f (rNd τ) se k2 0).2 := (pk_lLT (by decide) (by omega)).mp (show lN 0 < lN (cyc f (rNd τ) se k2 0).2 from h7)
                  have ha0 : 0 < a1 := (hab hzp).resolve_left h6
                  have ha1 : ¬ a1 = 0 := fun q => by rw [q] at ha0; exact absurd ha0 (by decide)
                  have hga : a1 = gcL n0 (lN (cyc f (rNd τ) se k2 0).2) := by rw [← hg, gcL_stop h6]
                  refine r_lload_n hc dX6_order_93 rfl 4 rfl ?_
                  refine r_lload hc dX6_order_94 1 rfl ?_
                  refine r_ldiv hc dX6_order_96 ha1 ?_
                  refine r_lload hc dX6_order_97 2 rfl ?_
                  refine r_lmul hc dX6_order_99 ?_
                  refine r_goto hc 104 dX6_order_100 (by decide) ?_
                  rw [show n0 / a1 * lN (cyc f (rNd τ) se k2 0).2 = lcL n0 (lN (cyc f (rNd τ) se k2 0).2) by rw [lcL, hga]]
                  show V p l e (RM 3 65 0 0) s m args below meth c D A 12 0 0 Q (wY cI cZ g gL gS gW gT gO gP gU gA gE gQ (rN τ) (rLe τ) (rSz τ) (rRe τ) (rSu τ) (rMd τ) (rNw τ) (rTb τ) (rCh τ) (rPr τ) (rOn τ) (rTw τ) (rNu τ) (rNa τ) (rNd τ) ((cyc f (rNd τ) se k2 0).1) (rLo τ)) 104 [(8, .long b1), (6, .long a1), (4, .long (lN ((cyc f (rNd τ) se k2 0).2))), (3, .int (nI k2)), (1, .long n0), (0, .ref g)] [.long (lcL n0 (lN (cyc f (rNd τ) se k2 0).2))]
                  refine r_lstore_n (lv' := [(1, .long (lcL n0 (lN (cyc f (rNd τ) se k2 0).2))), (8, .long b1), (6, .long a1), (4, .long (lN ((cyc f (rNd τ) se k2 0).2))), (3, .int (nI k2)), (0, .ref g)]) hc dX6_order_104 rfl (by decide) rfl ?_
                  refine r_iinc (k := 4) (v := (nI (k2 + 1))) (lv' := [(3, .int (nI (k2 + 1))), (1, .long (lcL n0 (lN (cyc f (rNd τ) se k2 0).2))), (8, .long b1), (6, .long a1), (4, .long (lN ((cyc f (rNd τ) se k2 0).2))), (0, .ref g)]) hc dX6_order_105 rfl (nI_add _ _) (by decide) rfl ?_
                  refine r_goto hc 38 dX6_order_108 (by decide) ?_
                  refine r_lv [0, 1, 5] rfl ?_
                  exact ih38 _ (by omega) _ _ (k2 + 1) rfl (by omega) (ooI_p hcc hzp)
              · have hy0 : ¬ b1 = 0 := fun q => by rw [q] at h6; exact absurd h6 (by decide)
                refine r_lload hc dX6_order_68 1 rfl ?_
                refine r_lload hc dX6_order_70 0 rfl ?_
                refine r_lrem hc dX6_order_72 hy0 ?_
                refine r_lstore (lv' := [(10, .long (a1 - a1 / b1 * b1)), (8, .long b1), (6, .long a1), (4, .long (lN ((cyc f (rNd τ) se k2 0).2))), (3, .int (nI k2)), (1, .long n0), (0, .ref g)]) hc dX6_order_73 (by decide) rfl ?_
                refine r_lload hc dX6_order_75 1 rfl ?_
                refine r_lstore (lv' := [(6, .long b1), (10, .long (a1 - a1 / b1 * b1)), (8, .long b1), (4, .long (lN ((cyc f (rNd τ) se k2 0).2))), (3, .int (nI k2)), (1, .long n0), (0, .ref g)]) hc dX6_order_77 (by decide) rfl ?_
                refine r_lload hc dX6_order_79 1 rfl ?_
                refine r_lstore (lv' := [(8, .long (a1 - a1 / b1 * b1)), (6, .long b1), (10, .long (a1 - a1 / b1 * b1)), (4, .long (lN ((cyc f (rNd τ) se k2 0).2))), (3, .int (nI k2)), (1, .long n0), (0, .ref g)]) hc dX6_order_81 (by decide) rfl ?_
                refine r_goto hc 61 dX6_order_83 (by decide) ?_
                refine r_lv [0, 1, 3, 4, 5, 6] rfl ?_
                exact ih61 _ (by rw [← hm61]; exact rem_lt a1 b1 h6) b1 (a1 - a1 / b1 * b1) rfl (by rw [← hg]; exact (gcL_step h6).symm) (fun _ => Or.inr h6)
            refine r_lv [0, 1, 2, 3, 4, 5] rfl ?_
            exact lp61 _ n0 (lN (cyc f (rNd τ) se k2 0).2) rfl rfl (fun q => Or.inl ((pk_lLT (by decide) (by omega)).mpr q))
        refine r_lv [0, 1, 2] rfl ?_
        exact lp38 _ (frgI (rSe τ) (rNd τ)) 1 0 rfl (Nat.zero_le _) rfl
      · refine r_aload_n hc dX6_order_21 rfl 1 rfl ?_
        refine r_get hc inlX6 0 rfl rfl 15 (by decide) fl_X6_34 rfl rfl dX6_order_22 ?_
        refine r_iload_n hc dX6_order_25 rfl 0 rfl ?_
        refine r_iconst (v := (nI 0)) hc dX6_order_26 rfl ?_
        refine r_zast (ws' := wY cI cZ g gL gS gW gT gO gP gU gA gE gQ (rN τ) (rLe τ) (rSz τ) (rRe τ) (rSu τ) (rMd τ) (rNw τ) (rTb τ) (rCh τ) (rPr τ) (rOn τ) (rTw τ) (rNu τ) (rNa τ) (rNd τ) (va_up (frgI (rSe τ) k) k false) (rLo τ)) hc false 9 rfl (by omega) (by decide) rfl dX6_order_27 ?_
        refine r_iinc (k := 0) (v := (nI (k + 1))) (lv' := [(1, .int (nI (k + 1))), (0, .ref g)]) hc dX6_order_28 rfl (nI_add _ _) (by decide) rfl ?_
        refine r_goto hc 13 dX6_order_31 (by decide) ?_
        refine r_lv [0, 1] rfl ?_
        exact ih13 _ (by omega) (k + 1) rfl (by omega)
    refine r_lv [0, 1] rfl ?_
    exact lp13 _ 0 rfl (Nat.zero_le _)
  · cases h2
set_option maxHeartbeats 4000000 in
set_option maxRecDepth 100000 in
/-- reference: resting() -/
theorem m_resting (l : Launch) (D : va_G) (cI cZ cW : ClassId) (g gL gS gW gT gO gP gU gA gE gQ : Nat) (ρ : RS) (hcm : cmpl ρ) (F : RS → Prop) (hNum : NumOK ρ F) (hFB : ∀ τ, F τ → BR τ) (hB : BR ρ) (fs : Nat → Nat → Nat) (hfs : ∀ τ, F τ → ∀ i, i < rSu τ → ImFR τ (10 + i) (fs i)) : CtI l yX6_resting cX6_resting 5 (some .int) 3 65 0 0 D cI cZ cW [.ref g] (wR cI cZ g gL gS gW gT gO gP gU gA gE gQ ρ) ([]) (S := RS) (fun r u => r = nI (crI fs (rSu u) (rNd u)) ∧ F u) (fun u => wR cI cZ g gL gS gW gT gO gP gU gA gE gQ u) := by
  refine CtI.mk (by decide) (Nat.le_of_ble_eq_true rfl) ?_
  intro p e s m args below meth c A hc hr hlk hnm hro
  generalize hQ : MQ below _ args s 0 0 A = Q
  have hB0 := hB
  obtain ⟨bn, bLe, bSz, bRe, bSu, bMd, bNw, bTb, bPr, bOn, bTw, bNu, bNa, bNd, bLo⟩ := hB
  show V p l e (RM 3 65 0 0) s m args below meth c D A 5 0 0 Q (wR cI cZ g gL gS gW gT gO gP gU gA gE gQ ρ) 0 [(0, .ref g)] []
  refine r_aload_n hc dX6_resting_0 rfl 0 rfl ?_
  refine r_callI (As := []) (n := 0) (wr := []) hc (m_numberAll l D cI cZ cW g gL gS gW gT gO gP gU gA gE gQ ρ hcm F hNum hB0) co_yX6_numberAll in_X6 ml_X6_119 (by decide +kernel) rfl ⟨by decide, by decide⟩ ⟨by decide, by decide⟩ im_yX6_numberAll se_yX6_numberAll rfl (Or.inl ⟨0, _, rfl⟩) rfl (Nat.le_of_ble_eq_true rfl) [0, 1, 2, 3, 4, 5, 6, 7, 8, 9, 10] [] rfl rfl rfl rfl (by decide) (fun q hq => absurd hq List.not_mem_nil) dX6_resting_1 (fun r τ e1 => ?_)
  show V p l e (RM 3 65 0 0) s m args below meth c D A 5 0 0 Q (wR cI cZ g gL gS gW gT gO gP gU gA gE gQ τ) 4 [(0, .ref g)] [.int r]
  obtain ⟨rfl, hFt⟩ := e1
  show V p l e (RM 3 65 0 0) s m args below meth c D A 5 0 0 Q (wR cI cZ g gL gS gW gT gO gP gU gA gE gQ τ) 4 [(0, .ref g)] [.int (zI true)]
  have hBt := hFB τ hFt
  obtain ⟨tn, tLe, tSz, tRe, tSu, tMd, tNw, tTb, tPr, tOn, tTw, tNu, tNa, tNd, tLo⟩ := id hBt
  refine z_if_ne hc 9 dX6_resting_4 (by decide) (fun h2 => ?_) (fun h2 => ?_)
  · refine r_iconst (v := (nI 0)) hc dX6_resting_9 rfl ?_
    refine r_istore_n (lv' := [(1, .int (nI 0)), (0, .ref g)]) hc dX6_resting_10 rfl (by decide) rfl ?_
    refine r_iconst (v := (nI 0)) hc dX6_resting_11 rfl ?_
    refine r_istore_n (lv' := [(2, .int (nI 0)), (1, .int (nI 0)), (0, .ref g)]) hc dX6_resting_12 rfl (by decide) rfl ?_
    have lp13 : ∀ (n : Nat) (k : Nat), rNd τ - k = n → (k ≤ rNd τ) → V p l e (RM 3 65 0 0) s m args below meth c D A 5 0 0 Q (wR cI cZ g gL gS gW gT gO gP gU gA gE gQ τ) 13 [(2, .int (nI k)), (1, .int (nI (crI fs (rSu τ) k))), (0, .ref g)] [] := by
      intro n
      induction n using Nat.strongRecOn with
      | _ n ih13 =>
      intro k hm13 hk
      refine r_iload_n hc dX6_resting_13 rfl 0 rfl ?_
      refine r_aload_n hc dX6_resting_14 rfl 2 rfl ?_
      refine r_get hc inlX6 0 rfl rfl 14 (by decide) fl_X6_116 rfl rfl dX6_resting_15 ?_
      refine n_icmp_ge hc 83 dX6_resting_18 (by decide) (by omega) (by omega) (fun h3 => ?_) (fun h3 => ?_)
      · have hk9 : k = rNd τ := by omega
        rw [hk9]
        show V p l e (RM 3 65 0 0) s m args below meth c D A 5 0 0 Q (wR cI cZ g gL gS gW gT gO gP gU gA gE gQ τ) 83 [(2, .int (nI (rNd τ))), (1, .int (nI (crI fs (rSu τ) (rNd τ)))), (0, .ref g)] []
        refine r_iload_n hc dX6_resting_83 rfl 1 rfl ?_
        rw [← hQ]
        exact r_iret hc hr hlk τ ⟨rfl, hFt⟩ rfl dX6_resting_84
      · refine r_iconst (v := (nI 1)) hc dX6_resting_21 rfl ?_
        refine r_istore_n (lv' := [(3, .int (nI 1)), (2, .int (nI k)), (1, .int (nI (crI fs (rSu τ) k))), (0, .ref g)]) hc dX6_resting_22 rfl (by decide) rfl ?_
        refine r_iconst (v := (nI 0)) hc dX6_resting_23 rfl ?_
        refine r_istore (lv' := [(4, .int (nI 0)), (3, .int (nI 1)), (2, .int (nI k)), (1, .int (nI (crI fs (rSu τ) k))), (0, .ref g)]) hc dX6_resting_24 (by decide) rfl ?_
        have lp26 : ∀ (n : Nat) (i : Nat), rSu τ - i = n → (i ≤ rSu τ) → V p l e (RM 3 65 0 0) s m args below meth c D A 5 0 0 Q (wR cI cZ g gL gS gW gT gO gP gU gA gE gQ τ) 26 [(4, .int (nI i)), (3, .int (zI (rst fs i k))), (2, .int (nI k)), (1, .int (nI (crI fs (rSu τ) k))), (0, .ref g)] [] := by
          intro n
          induction n using Nat.strongRecOn with
          | _ n ih26 =>
          intro i hm26 hi
          refine r_iload hc dX6_resting_26 0 rfl ?_
          refine r_aload_n hc dX6_resting_28 rfl 4 rfl ?_
          refine r_get hc inlX6 0 rfl rfl 4 (by decide) fl_X6_55 rfl rfl dX6_resting_29 ?_
          refine n_icmp_ge hc 65 dX6_resting_32 (by decide) (by omega) (by omega) (fun h4 => ?_) (fun h4 => ?_)
          · have hi9 : i = rSu τ := by omega
            rw [hi9]
            show V p l e (RM 3 65 0 0) s m args below meth c D A 5 0 0 Q (wR cI cZ g gL gS gW gT gO gP gU gA gE gQ τ) 65 [(4, .int (nI (rSu τ))), (3, .int (zI (rst fs (rSu τ) k))), (2, .int (nI k)), (1, .int (nI (crI fs (rSu τ) k))), (0, .ref g)] []
            refine r_iload_n hc dX6_resting_65 rfl 3 rfl ?_
            refine r_iload_n hc dX6_resting_66 rfl 1 rfl ?_
            refine z_if_eq hc 74 dX6_resting_67 (by decide) (fun h5 => ?_) (fun h5 => ?_)
            · refine r_iconst (v := (nI 0)) hc dX6_resting_74 rfl ?_
              refine n_add hc dX6_resting_75 ?_
              refine r_istore_n (lv' := [(1, .int (nI ((crI fs (rSu τ) k) + 0))), (4, .int (nI (rSu τ))), (3, .int (zI (rst fs (rSu τ) k))), (2, .int (nI k)), (0, .ref g)]) hc dX6_resting_76 rfl (by decide) rfl ?_
              have hcn : crI fs (rSu τ) k + 0 = crI fs (rSu τ) (k + 1) := by rw [crI, if_neg (by rw [h5]; decide)]
              rw [hcn]
              show V p l e (RM 3 65 0 0) s m args below meth c D A 5 0 0 Q (wR cI cZ g gL gS gW gT gO gP gU gA gE gQ τ) 77 [(1, .int (nI (crI fs (rSu τ) (k + 1)))), (4, .int (nI (rSu τ))), (3, .int (zI (rst fs (rSu τ) k))), (2, .int (nI k)), (0, .ref g)] []
              refine r_iinc (k := 3) (v := (nI (k + 1))) (lv' := [(2, .int (nI (k + 1))), (1, .int (nI (crI fs (rSu τ) (k + 1)))), (4, .int (nI (rSu τ))), (3, .int (zI (rst fs (rSu τ) k))), (0, .ref g)]) hc dX6_resting_77 rfl (nI_add _ _) (by decide) rfl ?_
              refine r_goto hc 13 dX6_resting_80 (by decide) ?_
              refine r_lv [0, 1, 4] rfl ?_
              exact ih13 _ (by omega) (k + 1) rfl (by omega)
            · refine r_iconst (v := (nI 1)) hc dX6_resting_70 rfl ?_
              refine r_goto hc 75 dX6_resting_71 (by decide) ?_
              refine n_add hc dX6_resting_75 ?_
              refine r_istore_n (lv' := [(1, .int (nI ((crI fs (rSu τ) k) + 1))), (4, .int (nI (rSu τ))), (3, .int (zI (rst fs (rSu τ) k))), (2, .int (nI k)), (0, .ref g)]) hc dX6_resting_76 rfl (by decide) rfl ?_
              have hcn : crI fs (rSu τ) k + 1 = crI fs (rSu τ) (k + 1) := by rw [crI, if_pos h5]
              rw [hcn]
              show V p l e (RM 3 65 0 0) s m args below meth c D A 5 0 0 Q (wR cI cZ g gL gS gW gT gO gP gU gA gE gQ τ) 77 [(1, .int (nI (crI fs (rSu τ) (k + 1)))), (4, .int (nI (rSu τ))), (3, .int (zI (rst fs (rSu τ) k))), (2, .int (nI k)), (0, .ref g)] []
              refine r_iinc (k := 3) (v := (nI (k + 1))) (lv' := [(2, .int (nI (k + 1))), (1, .int (nI (crI fs (rSu τ) (k + 1)))), (4, .int (nI (rSu τ))), (3, .int (zI (rst fs (rSu τ) k))), (0, .ref g)]) hc dX6_resting_77 rfl (nI_add _ _) (by decide) rfl ?_
              refine r_goto hc 13 dX6_resting_80 (by decide) ?_
              refine r_lv [0, 1, 4] rfl ?_
              exact ih13 _ (by omega) (k + 1) rfl (by omega)
          · refine r_iload_n hc dX6_resting_35 rfl 1 rfl ?_
            refine z_if_eq hc 57 dX6_resting_36 (by decide) (fun h6 => ?_) (fun h6 => ?_)
            · refine r_iconst (v := (nI 0)) hc dX6_resting_57 rfl ?_
              refine r_istore_n (lv' := [(3, .int (nI 0)), (4, .int (nI i)), (2, .int (nI k)), (1, .int (nI (crI fs (rSu τ) k))), (0, .ref g)]) hc dX6_resting_58 rfl (by decide) rfl ?_
              have hnr : nI 0 = zI (rst fs (i + 1) k) := by rw [rst, h6]; rfl
              rw [hnr]
              show V p l e (RM 3 65 0 0) s m args below meth c D A 5 0 0 Q (wR cI cZ g gL gS gW gT gO gP gU gA gE gQ τ) 59 [(3, .int (zI (rst fs (i + 1) k))), (4, .int (nI i)), (2, .int (nI k)), (1, .int (nI (crI fs (rSu τ) k))), (0, .ref g)] []
              refine r_iinc (k := 1) (v := (nI (i + 1))) (lv' := [(4, .int (nI (i + 1))), (3, .int (zI (rst fs (i + 1) k))), (2, .int (nI k)), (1, .int (nI (crI fs (rSu τ) k))), (0, .ref g)]) hc dX6_resting_59 rfl (nI_add _ _) (by decide) rfl ?_
              refine r_goto hc 26 dX6_resting_62 (by decide) ?_
              refine r_lv [0, 1, 2, 3, 4] rfl ?_
              exact ih26 _ (by omega) (i + 1) rfl (by omega)
            · refine r_aload_n hc dX6_resting_39 rfl 4 rfl ?_
              refine r_bipush (v := (nI 10)) hc dX6_resting_40 rfl ?_
              refine r_iload hc dX6_resting_42 0 rfl ?_
              refine n_add hc dX6_resting_44 ?_
              refine r_iload_n hc dX6_resting_45 rfl 2 rfl ?_
              obtain ⟨f1, f2⟩ := hfs τ hFt i h4 k h3
              refine r_callI (As := [.int (nI (10 + i)), .int (nI k)]) (n := 2) (wr := wR cI cZ g gL gS gW gT gO gP gU gA gE gQ τ) hc (m_moved l D cI cZ cW g gL gS gW gT gO gP gU gA gE gQ τ (10 + i) k (fs i k) (by omega) (by omega) f2 hBt) co_yX6_moved in_X6 ml_X6_125 (by decide +kernel) rfl ⟨by decide, by decide⟩ ⟨by decide, by decide⟩ im_yX6_moved se_yX6_moved rfl (Or.inl ⟨0, _, rfl⟩) rfl (Nat.le_of_ble_eq_true rfl) [] [0, 1, 2, 3, 4, 5, 6, 7, 8, 9, 10] rfl rfl rfl rfl (by decide) (fun q hq => Or.inl ((List.getElem?_of_mem hq).elim fun k hk => ⟨k, hk, List.not_mem_nil⟩)) dX6_resting_46 (fun r7 u8 e9 => ?_)
              subst e9
              show V p l e (RM 3 65 0 0) s m args below meth c D A 5 0 0 Q (wR cI cZ g gL gS gW gT gO gP gU gA gE gQ τ) 49 [(4, .int (nI i)), (3, .int (zI (rst fs i k))), (2, .int (nI k)), (1, .int (nI (crI fs (rSu τ) k))), (0, .ref g)] [.int (nI (fs i k))]
              refine r_iload_n hc dX6_resting_49 rfl 2 rfl ?_
              refine n_icmp_ne hc 57 dX6_resting_50 (by decide) (by omega) (by omega) (fun h10 => ?_) (fun h10 => ?_)
              · refine r_iconst (v := (nI 0)) hc dX6_resting_57 rfl ?_
                refine r_istore_n (lv' := [(3, .int (nI 0)), (4, .int (nI i)), (2, .int (nI k)), (1, .int (nI (crI fs (rSu τ) k))), (0, .ref g)]) hc dX6_resting_58 rfl (by decide) rfl ?_
                have hnr : nI 0 = zI (rst fs (i + 1) k) := by rw [rst, h6]; simp [h10]; rfl
                rw [hnr]
                show V p l e (RM 3 65 0 0) s m args below meth c D A 5 0 0 Q (wR cI cZ g gL gS gW gT gO gP gU gA gE gQ τ) 59 [(3, .int (zI (rst fs (i + 1) k))), (4, .int (nI i)), (2, .int (nI k)), (1, .int (nI (crI fs (rSu τ) k))), (0, .ref g)] []
                refine r_iinc (k := 1) (v := (nI (i + 1))) (lv' := [(4, .int (nI (i + 1))), (3, .int (zI (rst fs (i + 1) k))), (2, .int (nI k)), (1, .int (nI (crI fs (rSu τ) k))), (0, .ref g)]) hc dX6_resting_59 rfl (nI_add _ _) (by decide) rfl ?_
                refine r_goto hc 26 dX6_resting_62 (by decide) ?_
                refine r_lv [0, 1, 2, 3, 4] rfl ?_
                exact ih26 _ (by omega) (i + 1) rfl (by omega)
              · refine r_iconst (v := (nI 1)) hc dX6_resting_53 rfl ?_
                refine r_goto hc 58 dX6_resting_54 (by decide) ?_
                refine r_istore_n (lv' := [(3, .int (nI 1)), (4, .int (nI i)), (2, .int (nI k)), (1, .int (nI (crI fs (rSu τ) k))), (0, .ref g)]) hc dX6_resting_58 rfl (by decide) rfl ?_
                have hnr : nI 1 = zI (rst fs (i + 1) k) := by rw [rst, h6, h10]; simp; rfl
                rw [hnr]
                show V p l e (RM 3 65 0 0) s m args below meth c D A 5 0 0 Q (wR cI cZ g gL gS gW gT gO gP gU gA gE gQ τ) 59 [(3, .int (zI (rst fs (i + 1) k))), (4, .int (nI i)), (2, .int (nI k)), (1, .int (nI (crI fs (rSu τ) k))), (0, .ref g)] []
                refine r_iinc (k := 1) (v := (nI (i + 1))) (lv' := [(4, .int (nI (i + 1))), (3, .int (zI (rst fs (i + 1) k))), (2, .int (nI k)), (1, .int (nI (crI fs (rSu τ) k))), (0, .ref g)]) hc dX6_resting_59 rfl (nI_add _ _) (by decide) rfl ?_
                refine r_goto hc 26 dX6_resting_62 (by decide) ?_
                refine r_lv [0, 1, 2, 3, 4] rfl ?_
                exact ih26 _ (by omega) (i + 1) rfl (by omega)
        refine r_lv [0, 1, 2, 3, 4] rfl ?_
        exact lp26 _ 0 rfl (Nat.zero_le _)
    refine r_lv [0, 1, 2] rfl ?_
    exact lp13 _ 0 rfl (Nat.zero_le _)
  · cases h2
