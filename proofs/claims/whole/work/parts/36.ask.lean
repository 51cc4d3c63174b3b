def gnnR (c : Nat) (ρ : RS) : RS := match rNu ρ c with | some _ => ρ | none => (rN ρ, rLe ρ, rSz ρ, rRe ρ, rSu ρ, rMd ρ, rNw ρ, rTb ρ, rCh ρ, rPr ρ, rOn ρ, rTw ρ, va_up (rNu ρ) c (some (rNd ρ)), va_up (rNa ρ) (rNd ρ) c, rNd ρ + 1, rSe ρ, rLo ρ)
def gNum0 (ρ : RS) : RS := (rN ρ, rLe ρ, rSz ρ, rRe ρ, rSu ρ, rMd ρ, rNw ρ, rTb ρ, rCh ρ, rPr ρ, rOn ρ, rTw ρ, va_up (filI (rNu ρ) 200) 0 (some 0), va_up (rNa ρ) 0 0, 1, rSe ρ, rLo ρ)
def NumOK (ρ : RS) (F : RS → Prop) : Prop := ∃ N : Nat → Nat → RS → Prop, N 0 0 (gNum0 ρ) ∧ (∀ k x β, N k x β → BR β) ∧ (∀ k x β, N k x β → k < rNd β → x < 2 * rN β → ∃ d, rTb β (6 * rNa β k + x) = some d ∧ (rNu β d = none → rNd β < 200) ∧ N k (x + 1) (gnnR d β)) ∧ (∀ k x β, N k x β → k < rNd β → 2 * rN β ≤ x → N (k + 1) 0 β) ∧ ∀ k u, N k 0 u → rNd u ≤ k → F u
theorem gnnR_d (c : Nat) (ρ : RS) : rNd ρ ≤ rNd (gnnR c ρ) := by unfold gnnR; split; exact Nat.le_refl _; show rNd ρ ≤ rNd ρ + 1; omega
set_option maxHeartbeats 4000000 in
set_option maxRecDepth 100000 in
/-- reference: numberAll(), not complete -/
theorem m_numberAll_f (l : Launch) (D : va_G) (cI cZ cW : ClassId) (g gL gS gW gT gO gP gU gA gE gQ : Nat) (ρ : RS) (hcm : ¬ cmpl ρ) (hB : BR ρ) : CtI l yX6_numberAll cX6_numberAll 4 (some .boolean) 2 42 0 0 D cI cZ cW [.ref g] ([]) (wR cI cZ g gL gS gW gT gO gP gU gA gE gQ ρ) (S := Unit) (fun r _ => r = zI false) (fun _ => []) := by
  refine CtI.mk (by decide) (Nat.le_of_ble_eq_true rfl) ?_
  intro p e s m args below meth c A hc hr hlk hnm hro
  generalize hQ : MQ below _ args s 0 0 A = Q
  have hB0 := hB
  obtain ⟨bn, bLe, bSz, bRe, bSu, bMd, bNw, bTb, bPr, bOn, bTw, bNu, bNa, bNd, bLo⟩ := hB
  show V p l e (RM 2 42 0 0) s m args below meth c D A 4 0 0 Q ([]) 0 [(0, .ref g)] []
  refine r_aload_n hc dX6_numberAll_0 rfl 0 rfl ?_
  refine r_callI (As := []) (n := 0) (wr := []) hc (m_isComplete_f l D cI cZ cW g gL gS gW gT gO gP gU gA gE gQ ρ hcm hB0) co_yX6_isComplete in_X6 ml_X6_109 (by decide +kernel) rfl ⟨by decide, by decide⟩ ⟨by decide, by decide⟩ im_yX6_isComplete se_yX6_isComplete rfl (Or.inr ⟨_, (hro _ (List.mem_of_getElem? (i := 0) rfl))⟩) rfl (Nat.le_of_ble_eq_true rfl) [] [] rfl rfl rfl rfl (by decide) (fun q hq => Or.inr (hro q hq)) dX6_numberAll_1 (fun r1 u2 e3 => ?_)
  subst e3
  refine z_if_ne hc 9 dX6_numberAll_4 (by decide) (fun h4 => ?_) (fun h4 => ?_)
  · cases h4
  · refine r_iconst (v := (nI 0)) hc dX6_numberAll_7 rfl ?_
    rw [← hQ]
    exact r_zret (b := false) hc hr hlk () rfl rfl dX6_numberAll_8
set_option maxHeartbeats 4000000 in
set_option maxRecDepth 100000 in
/-- reference: numberAll() -/
theorem m_numberAll (l : Launch) (D : va_G) (cI cZ cW : ClassId) (g gL gS gW gT gO gP gU gA gE gQ : Nat) (ρ : RS) (hcm : cmpl ρ) (F : RS → Prop) (hNum : NumOK ρ F) (hB : BR ρ) : CtI l yX6_numberAll cX6_numberAll 4 (some .boolean) 2 42 0 0 D cI cZ cW [.ref g] (wR cI cZ g gL gS gW gT gO gP gU gA gE gQ ρ) ([]) (S := RS) (fun r u => r = zI true ∧ F u) (fun u => wR cI cZ g gL gS gW gT gO gP gU gA gE gQ u) := by
  refine CtI.mk (by decide) (Nat.le_of_ble_eq_true rfl) ?_
  intro p e s m args below meth c A hc hr hlk hnm hro
  generalize hQ : MQ below _ args s 0 0 A = Q
  have hB0 := hB
  obtain ⟨bn, bLe, bSz, bRe, bSu, bMd, bNw, bTb, bPr, bOn, bTw, bNu, bNa, bNd, bLo⟩ := hB
  obtain ⟨N, n0, nB, nN, nO, nF⟩ := hNum
  show V p l e (RM 2 42 0 0) s m args below meth c D A 4 0 0 Q (wR cI cZ g gL gS gW gT gO gP gU gA gE gQ ρ) 0 [(0, .ref g)] []
  refine r_aload_n hc dX6_numberAll_0 rfl 0 rfl ?_
  refine r_callI (As := []) (n := 0) (wr := wR cI cZ g gL gS gW gT gO gP gU gA gE gQ ρ) hc (m_isComplete_t l D cI cZ cW g gL gS gW gT gO gP gU gA gE gQ ρ hcm hB0) co_yX6_isComplete in_X6 ml_X6_109 (by decide +kernel) rfl ⟨by decide, by decide⟩ ⟨by decide, by decide⟩ im_yX6_isComplete se_yX6_isComplete rfl (Or.inl ⟨0, _, rfl⟩) rfl (Nat.le_of_ble_eq_true rfl) [] [0, 1, 2, 3, 4, 5, 6, 7, 8, 9, 10] rfl rfl rfl rfl (by decide) (fun q hq => Or.inl ((List.getElem?_of_mem hq).elim fun k hk => ⟨k, hk, List.not_mem_nil⟩)) dX6_numberAll_1 (fun r1 u2 e3 => ?_)
  subst e3
  refine z_if_ne hc 9 dX6_numberAll_4 (by decide) (fun h4 => ?_) (fun h4 => ?_)
  · refine r_iconst (v := (nI 0)) hc dX6_numberAll_9 rfl ?_
    refine r_istore_n (lv' := [(1, .int (nI 0)), (0, .ref g)]) hc dX6_numberAll_10 rfl (by decide) rfl ?_
    have lp11 : ∀ (n : Nat) (k : Nat), 200 - k = n → (k ≤ 200) → V p l e (RM 2 42 0 0) s m args below meth c D A 4 0 0 Q (wY cI cZ g gL gS gW gT gO gP gU gA gE gQ (rN ρ) (rLe ρ) (rSz ρ) (rRe ρ) (rSu ρ) (rMd ρ) (rNw ρ) (rTb ρ) (rCh ρ) (rPr ρ) (rOn ρ) (rTw ρ) (filI (rNu ρ) k) (rNa ρ) (rNd ρ) (rSe ρ) (rLo ρ)) 11 [(1, .int (nI k)), (0, .ref g)] [] := by
      intro n
      induction n using Nat.strongRecOn with
      | _ n ih11 =>
      intro k hm11 hk
      refine r_iload_n hc dX6_numberAll_11 rfl 0 rfl ?_
      refine r_sipush (v := (nI 200)) hc dX6_numberAll_12 rfl ?_
      refine n_icmp_ge hc 31 dX6_numberAll_15 (by decide) (by omega) (by omega) (fun h5 => ?_) (fun h5 => ?_)
      · have hk2 : k = 200 := by omega
        rw [hk2]
        show V p l e (RM 2 42 0 0) s m args below meth c D A 4 0 0 Q (wY cI cZ g gL gS gW gT gO gP gU gA gE gQ (rN ρ) (rLe ρ) (rSz ρ) (rRe ρ) (rSu ρ) (rMd ρ) (rNw ρ) (rTb ρ) (rCh ρ) (rPr ρ) (rOn ρ) (rTw ρ) (filI (rNu ρ) 200) (rNa ρ) (rNd ρ) (rSe ρ) (rLo ρ)) 31 [(1, .int (nI 200)), (0, .ref g)] []
        refine r_aload_n hc dX6_numberAll_31 rfl 1 rfl ?_
        refine r_get hc inlX6 0 rfl rfl 12 (by decide) fl_X6_28 rfl rfl dX6_numberAll_32 ?_
        refine r_iconst (v := (nI 0)) hc dX6_numberAll_35 rfl ?_
        refine r_iconst (v := (nI 0)) hc dX6_numberAll_36 rfl ?_
        refine r_iast (ws' := wY cI cZ g gL gS gW gT gO gP gU gA gE gQ (rN ρ) (rLe ρ) (rSz ρ) (rRe ρ) (rSu ρ) (rMd ρ) (rNw ρ) (rTb ρ) (rCh ρ) (rPr ρ) (rOn ρ) (rTw ρ) (va_up (filI (rNu ρ) 200) 0 (some 0)) (rNa ρ) (rNd ρ) (rSe ρ) (rLo ρ)) hc eI (some 0) 7 rfl (by omega) (by decide) rfl dX6_numberAll_37 ?_
        refine r_aload_n hc dX6_numberAll_38 rfl 1 rfl ?_
        refine r_get hc inlX6 0 rfl rfl 13 (by decide) fl_X6_31 rfl rfl dX6_numberAll_39 ?_
        refine r_iconst (v := (nI 0)) hc dX6_numberAll_42 rfl ?_
        refine r_iconst (v := (nI 0)) hc dX6_numberAll_43 rfl ?_
        refine r_iast (ws' := wY cI cZ g gL gS gW gT gO gP gU gA gE gQ (rN ρ) (rLe ρ) (rSz ρ) (rRe ρ) (rSu ρ) (rMd ρ) (rNw ρ) (rTb ρ) (rCh ρ) (rPr ρ) (rOn ρ) (rTw ρ) (va_up (filI (rNu ρ) 200) 0 (some 0)) (va_up (rNa ρ) 0 0) (rNd ρ) (rSe ρ) (rLo ρ)) hc nI 0 8 rfl (by omega) (by decide) rfl dX6_numberAll_44 ?_
        refine r_aload_n hc dX6_numberAll_45 rfl 1 rfl ?_
        refine r_iconst (v := (nI 1)) hc dX6_numberAll_46 rfl ?_
        refine r_put (ws' := wY cI cZ g gL gS gW gT gO gP gU gA gE gQ (rN ρ) (rLe ρ) (rSz ρ) (rRe ρ) (rSu ρ) (rMd ρ) (rNw ρ) (rTb ρ) (rCh ρ) (rPr ρ) (rOn ρ) (rTw ρ) (va_up (filI (rNu ρ) 200) 0 (some 0)) (va_up (rNa ρ) 0 0) 1 (rSe ρ) (rLo ρ)) hc inlX6 tyX6 tyX6_ok nmX6 0 rfl rfl 14 (by decide) fl_X6_116 rfl rfl rfl rfl (Nat.le_of_ble_eq_true rfl) rfl dX6_numberAll_47 ?_
        refine r_iconst (v := (nI 0)) hc dX6_numberAll_50 rfl ?_
        refine r_istore_n (lv' := [(1, .int (nI 0)), (0, .ref g)]) hc dX6_numberAll_51 rfl (by decide) rfl ?_
        show V p l e (RM 2 42 0 0) s m args below meth c D A 4 0 0 Q (wR cI cZ g gL gS gW gT gO gP gU gA gE gQ (gNum0 ρ)) 52 [(1, .int (nI 0)), (0, .ref g)] []
        have lp52 : ∀ (n : Nat) (β : RS) (k : Nat), 200 - k = n → (N k 0 β) → (k ≤ 200) → V p l e (RM 2 42 0 0) s m args below meth c D A 4 0 0 Q (wR cI cZ g gL gS gW gT gO gP gU gA gE gQ β) 52 [(1, .int (nI k)), (0, .ref g)] [] := by
          intro n
          induction n using Nat.strongRecOn with
          | _ n ih52 =>
          intro β k hm52 hNk hkb
          have hBb := nB _ _ _ hNk
          have cNd := hBb.2.2.2.2.2.2.2.2.2.2.2.2.2.1
          refine r_iload_n hc dX6_numberAll_52 rfl 0 rfl ?_
          refine r_aload_n hc dX6_numberAll_53 rfl 1 rfl ?_
          refine r_get hc inlX6 0 rfl rfl 14 (by decide) fl_X6_116 rfl rfl dX6_numberAll_54 ?_
          refine n_icmp_ge hc 140 dX6_numberAll_57 (by decide) (by omega) (by omega) (fun h6 => ?_) (fun h6 => ?_)
          · refine r_iconst (v := (nI 1)) hc dX6_numberAll_140 rfl ?_
            rw [← hQ]
            exact r_zret (b := true) hc hr hlk β ⟨rfl, nF k β hNk h6⟩ rfl dX6_numberAll_141
          · refine r_iconst (v := (nI 0)) hc dX6_numberAll_60 rfl ?_
            refine r_istore_n (lv' := [(2, .int (nI 0)), (1, .int (nI k)), (0, .ref g)]) hc dX6_numberAll_61 rfl (by decide) rfl ?_
            have lp62 : ∀ (n : Nat) (β : RS) (x : Nat), 6 - x = n → (N k x β) → (k < rNd β) → (x ≤ 6) → V p l e (RM 2 42 0 0) s m args below meth c D A 4 0 0 Q (wR cI cZ g gL gS gW gT gO gP gU gA gE gQ β) 62 [(2, .int (nI x)), (1, .int (nI k)), (0, .ref g)] [] := by
              intro n
              induction n using Nat.strongRecOn with
              | _ n ih62 =>
              intro β x hm62 hNx0 hkz hxb
              have hBb := nB _ _ _ hNx0
              obtain ⟨cn, cLe, cSz, cRe, cSu, cMd, cNw, cTb, cPr, cOn, cTw, cNu, cNa, cNd, cLo⟩ := id hBb
              refine r_iload_n hc dX6_numberAll_62 rfl 0 rfl ?_
              refine r_iconst (v := (nI 2)) hc dX6_numberAll_63 rfl ?_
              refine r_aload_n hc dX6_numberAll_64 rfl 2 rfl ?_
              refine r_get hc inlX6 0 rfl rfl 0 (by decide) fl_X6_49 rfl rfl dX6_numberAll_65 ?_
              refine n_mul hc dX6_numberAll_68 ?_
              refine n_icmp_ge hc 134 dX6_numberAll_69 (by decide) (by omega) (by omega) (fun h7 => ?_) (fun h7 => ?_)
              · have hNx := nO k x β hNx0 hkz h7
                refine r_iinc (k := 1) (v := (nI (k + 1))) (lv' := [(1, .int (nI (k + 1))), (2, .int (nI x)), (0, .ref g)]) hc dX6_numberAll_134 rfl (nI_add _ _) (by decide) rfl ?_
                refine r_goto hc 52 dX6_numberAll_137 (by decide) ?_
                refine r_lv [0, 2] rfl ?_
                exact ih52 _ (by omega) β (k + 1) rfl hNx (by omega)
              · obtain ⟨d1, hd1, hz1, hN1⟩ := nN k x β hNx0 hkz h7
                have hd1b := cTb _ _ hd1
                refine r_aload_n hc dX6_numberAll_72 rfl 2 rfl ?_
                refine r_get hc inlX6 0 rfl rfl 7 (by decide) fl_X6_19 rfl rfl dX6_numberAll_73 ?_
                refine r_bipush (v := (nI 6)) hc dX6_numberAll_76 rfl ?_
                refine r_aload_n hc dX6_numberAll_78 rfl 2 rfl ?_
                refine r_get hc inlX6 0 rfl rfl 13 (by decide) fl_X6_31 rfl rfl dX6_numberAll_79 ?_
                refine r_iload_n hc dX6_numberAll_82 rfl 1 rfl ?_
                have b8 := cNa k
                refine r_iald hc nI 8 rfl (by omega) (by decide) dX6_numberAll_83 ?_
                refine n_mul hc dX6_numberAll_84 ?_
                refine r_iload_n hc dX6_numberAll_85 rfl 0 rfl ?_
                refine n_add hc dX6_numberAll_86 ?_
                refine r_iald hc eI 4 rfl (by omega) (by decide) dX6_numberAll_87 ?_
                rw [hd1]
                show V p l e (RM 2 42 0 0) s m args below meth c D A 4 0 0 Q (wR cI cZ g gL gS gW gT gO gP gU gA gE gQ β) 88 [(2, .int (nI x)), (1, .int (nI k)), (0, .ref g)] [.int (nI d1)]
                refine r_istore_n (lv' := [(3, .int (nI d1)), (2, .int (nI x)), (1, .int (nI k)), (0, .ref g)]) hc dX6_numberAll_88 rfl (by decide) rfl ?_
                refine r_aload_n hc dX6_numberAll_89 rfl 3 rfl ?_
                refine r_get hc inlX6 0 rfl rfl 12 (by decide) fl_X6_28 rfl rfl dX6_numberAll_90 ?_
                refine r_iload_n hc dX6_numberAll_93 rfl 0 rfl ?_
                refine r_iald hc eI 7 rfl (by omega) (by decide) dX6_numberAll_94 ?_
                refine e_if_ge hc 128 dX6_numberAll_95 (by decide) (fun d h => Nat.lt_trans (cNu _ d h) (by decide)) (fun d10 h9 => ?_) (fun h9 => ?_)
                · refine r_iinc (k := 1) (v := (nI (x + 1))) (lv' := [(2, .int (nI (x + 1))), (3, .int (nI d1)), (1, .int (nI k)), (0, .ref g)]) hc dX6_numberAll_128 rfl (nI_add _ _) (by decide) rfl ?_
                  refine r_goto hc 62 dX6_numberAll_131 (by decide) ?_
                  refine r_lv [3, 2, 0] rfl ?_
                  have hg : β = gnnR d1 β := by unfold gnnR; rw [h9]
                  refine r_weq (ws' := wR cI cZ g gL gS gW gT gO gP gU gA gE gQ (gnnR d1 β)) (congrArg (wR cI cZ g gL gS gW gT gO gP gU gA gE gQ) hg) ?_
                  refine r_lv [2, 1, 0] rfl ?_
                  exact ih62 _ (by omega) (gnnR d1 β) (x + 1) rfl hN1 (Nat.lt_of_lt_of_le hkz (gnnR_d d1 β)) (by omega)
                · have hz2 := hz1 h9
                  refine r_aload_n hc dX6_numberAll_98 rfl 3 rfl ?_
                  refine r_get hc inlX6 0 rfl rfl 12 (by decide) fl_X6_28 rfl rfl dX6_numberAll_99 ?_
                  refine r_iload_n hc dX6_numberAll_102 rfl 0 rfl ?_
                  refine r_aload_n hc dX6_numberAll_103 rfl 3 rfl ?_
                  refine r_get hc inlX6 0 rfl rfl 14 (by decide) fl_X6_116 rfl rfl dX6_numberAll_104 ?_
                  refine r_iast (ws' := wY cI cZ g gL gS gW gT gO gP gU gA gE gQ (rN β) (rLe β) (rSz β) (rRe β) (rSu β) (rMd β) (rNw β) (rTb β) (rCh β) (rPr β) (rOn β) (rTw β) (va_up (rNu β) d1 (some (rNd β))) (rNa β) (rNd β) (rSe β) (rLo β)) hc eI (some (rNd β)) 7 rfl (by omega) (by decide) rfl dX6_numberAll_107 ?_
                  refine r_aload_n hc dX6_numberAll_108 rfl 3 rfl ?_
                  refine r_get hc inlX6 0 rfl rfl 13 (by decide) fl_X6_31 rfl rfl dX6_numberAll_109 ?_
                  refine r_aload_n hc dX6_numberAll_112 rfl 3 rfl ?_
                  refine r_get hc inlX6 0 rfl rfl 14 (by decide) fl_X6_116 rfl rfl dX6_numberAll_113 ?_
                  refine r_iload_n hc dX6_numberAll_116 rfl 0 rfl ?_
                  refine r_iast (ws' := wY cI cZ g gL gS gW gT gO gP gU gA gE gQ (rN β) (rLe β) (rSz β) (rRe β) (rSu β) (rMd β) (rNw β) (rTb β) (rCh β) (rPr β) (rOn β) (rTw β) (va_up (rNu β) d1 (some (rNd β))) (va_up (rNa β) (rNd β) d1) (rNd β) (rSe β) (rLo β)) hc nI d1 8 rfl (by omega) (by decide) rfl dX6_numberAll_117 ?_
                  refine r_aload_n hc dX6_numberAll_118 rfl 3 rfl ?_
                  refine r_dup hc dX6_numberAll_119 rfl ?_
                  refine r_get hc inlX6 0 rfl rfl 14 (by decide) fl_X6_116 rfl rfl dX6_numberAll_120 ?_
                  refine r_iconst (v := (nI 1)) hc dX6_numberAll_123 rfl ?_
                  refine n_add hc dX6_numberAll_124 ?_
                  refine r_put (ws' := wY cI cZ g gL gS gW gT gO gP gU gA gE gQ (rN β) (rLe β) (rSz β) (rRe β) (rSu β) (rMd β) (rNw β) (rTb β) (rCh β) (rPr β) (rOn β) (rTw β) (va_up (rNu β) d1 (some (rNd β))) (va_up (rNa β) (rNd β) d1) ((rNd β) + 1) (rSe β) (rLo β)) hc inlX6 tyX6 tyX6_ok nmX6 0 rfl rfl 14 (by decide) fl_X6_116 rfl rfl rfl rfl (Nat.le_of_ble_eq_true rfl) rfl dX6_numberAll_125 ?_
                  refine r_iinc (k := 1) (v := (nI (x + 1))) (lv' := [(2, .int (nI (x + 1))), (3, .int (nI d1)), (1, .int (nI k)), (0, .ref g)]) hc dX6_numberAll_128 rfl (nI_add _ _) (by decide) rfl ?_
                  refine r_goto hc 62 dX6_numberAll_131 (by decide) ?_
                  refine r_lv [3, 2, 0] rfl ?_
                  have hg : (rN β, rLe β, rSz β, rRe β, rSu β, rMd β, rNw β, rTb β, rCh β, rPr β, rOn β, rTw β, va_up (rNu β) d1 (some (rNd β)), va_up (rNa β) (rNd β) d1, (rNd β) + 1, rSe β, rLo β) = gnnR d1 β := by unfold gnnR; rw [h9]
                  refine r_weq (ws' := wR cI cZ g gL gS gW gT gO gP gU gA gE gQ (gnnR d1 β)) (congrArg (wR cI cZ g gL gS gW gT gO gP gU gA gE gQ) hg) ?_
                  refine r_lv [2, 1, 0] rfl ?_
                  exact ih62 _ (by omega) (gnnR d1 β) (x + 1) rfl hN1 (Nat.lt_of_lt_of_le hkz (gnnR_d d1 β)) (by omega)
            refine r_lv [0, 1, 2] rfl ?_
            exact lp62 _ β 0 rfl hNk h6 (by decide)
        refine r_lv [0, 1] rfl ?_
        exact lp52 _ (gNum0 ρ) 0 rfl n0 (by decide)
      · refine r_aload_n hc dX6_numberAll_18 rfl 1 rfl ?_
        refine r_get hc inlX6 0 rfl rfl 12 (by decide) fl_X6_28 rfl rfl dX6_numberAll_19 ?_
        refine r_iload_n hc dX6_numberAll_22 rfl 0 rfl ?_
        refine r_iconst (v := (-1)) hc dX6_numberAll_23 rfl ?_
        refine r_iast (ws' := wY cI cZ g gL gS gW gT gO gP gU gA gE gQ (rN ρ) (rLe ρ) (rSz ρ) (rRe ρ) (rSu ρ) (rMd ρ) (rNw ρ) (rTb ρ) (rCh ρ) (rPr ρ) (rOn ρ) (rTw ρ) (va_up (filI (rNu ρ) k) k none) (rNa ρ) (rNd ρ) (rSe ρ) (rLo ρ)) hc eI none 7 rfl (by omega) (by decide) rfl dX6_numberAll_24 ?_
        refine r_iinc (k := 0) (v := (nI (k + 1))) (lv' := [(1, .int (nI (k + 1))), (0, .ref g)]) hc dX6_numberAll_25 rfl (nI_add _ _) (by decide) rfl ?_
        refine r_goto hc 11 dX6_numberAll_28 (by decide) ?_
        refine r_lv [0, 1] rfl ?_
        exact ih11 _ (by omega) (k + 1) rfl (by omega)
    refine r_lv [0, 1] rfl ?_
    exact lp11 _ 0 rfl (Nat.zero_le _)
  · cases h4
abbrev ImgR (ρ : RS) (w0 k d : Nat) : Prop := Img (rTb ρ) (rNu ρ) (rNa ρ) (fun i => rLe ρ (24 * w0 + i)) (rSz ρ w0) k d
set_option maxHeartbeats 4000000 in
set_option maxRecDepth 100000 in
/-- reference: moved(w0, k) -/
theorem m_moved (l : Launch) (D : va_G) (cI cZ cW : ClassId) (g gL gS gW gT gO gP gU gA gE gQ : Nat) (ρ : RS) (w0 k d : Nat) (hw : w0 < 16) (hk : k < 200) (hI : ImgR ρ w0 k d) (hB : BR ρ) : CtI l yX6_moved cX6_moved 5 (some .int) 0 0 0 0 D cI cZ cW [.ref g, .int (nI w0), .int (nI k)] ([]) (wR cI cZ g gL gS gW gT gO gP gU gA gE gQ ρ) (S := Unit) (fun r _ => r = nI d) (fun _ => []) := by
  refine CtI.mk (by decide) (Nat.le_of_ble_eq_true rfl) ?_
  intro p e s m args below meth c A hc hr hlk hnm hro
  generalize hQ : MQ below _ args s 0 0 A = Q
  have hB0 := hB
  obtain ⟨bn, bLe, bSz, bRe, bSu, bMd, bNw, bTb, bPr, bOn, bTw, bNu, bNa, bNd, bLo⟩ := hB
  have hs0 := bSz w0
  show V p l e (RM 0 0 0 0) s m args below meth c D A 5 0 0 Q ([]) 0 [(0, .ref g), (1, .int (nI w0)), (2, .int (nI k))] []
  refine r_aload_n hc dX6_moved_0 rfl 0 rfl ?_
  refine r_getR hc inlX6 (hro _ (List.mem_of_getElem? (i := 0) rfl)) rfl 13 (by decide) fl_X6_31 rfl rfl dX6_moved_1 ?_
  refine r_iload_n hc dX6_moved_4 rfl 2 rfl ?_
  have b1 := bNa k
  refine r_ialdR hc nI (hro _ (List.mem_of_getElem? (i := 8) rfl)) (by omega) (by decide) dX6_moved_5 ?_
  refine r_istore_n (lv' := [(3, .int (nI ((rNa ρ) k))), (0, .ref g), (1, .int (nI w0)), (2, .int (nI k))]) hc dX6_moved_6 rfl (by decide) rfl ?_
  refine r_iconst (v := (nI 0)) hc dX6_moved_7 rfl ?_
  refine r_istore (lv' := [(4, .int (nI 0)), (3, .int (nI ((rNa ρ) k))), (0, .ref g), (1, .int (nI w0)), (2, .int (nI k))]) hc dX6_moved_8 (by decide) rfl ?_
  have lp10 : ∀ (n : Nat) (p0 i : Nat), rSz ρ w0 - i = n → (i ≤ rSz ρ w0) → (pth (rTb ρ) (fun i => rLe ρ (24 * w0 + i)) (rNa ρ k) i = some p0) → V p l e (RM 0 0 0 0) s m args below meth c D A 5 0 0 Q ([]) 10 [(4, .int (nI i)), (3, .int (nI p0)), (0, .ref g), (1, .int (nI w0)), (2, .int (nI k))] [] := by
    intro n
    induction n using Nat.strongRecOn with
    | _ n ih10 =>
    intro p0 i hm10 hi hp
    refine r_iload hc dX6_moved_10 0 rfl ?_
    refine r_aload_n hc dX6_moved_12 rfl 2 rfl ?_
    refine r_getR hc inlX6 (hro _ (List.mem_of_getElem? (i := 0) rfl)) rfl 2 (by decide) fl_X6_13 rfl rfl dX6_moved_13 ?_
    refine r_iload_n hc dX6_moved_16 rfl 3 rfl ?_
    have b2 := bSz w0
    refine r_ialdR hc nI (hro _ (List.mem_of_getElem? (i := 2) rfl)) (by omega) (by decide) dX6_moved_17 ?_
    refine n_icmp_ge hc 50 dX6_moved_18 (by decide) (by omega) (by omega) (fun h3 => ?_) (fun h3 => ?_)
    · have hil : i = rSz ρ w0 := by omega
      obtain ⟨p9, hp9, hnu⟩ := hI.2
      obtain ⟨p8, hb8, hp8⟩ := hI.1 (rSz ρ w0) (Nat.le_refl _)
      obtain rfl : p9 = p8 := by rw [hp9] at hp8; exact Option.some.inj hp8
      obtain rfl : p0 = p9 := by rw [hil, hp9] at hp; exact (Option.some.inj hp).symm
      refine r_aload_n hc dX6_moved_50 rfl 2 rfl ?_
      refine r_getR hc inlX6 (hro _ (List.mem_of_getElem? (i := 0) rfl)) rfl 12 (by decide) fl_X6_28 rfl rfl dX6_moved_51 ?_
      refine r_iload_n hc dX6_moved_54 rfl 1 rfl ?_
      refine r_ialdR hc eI (hro _ (List.mem_of_getElem? (i := 7) rfl)) (by omega) (by decide) dX6_moved_55 ?_
      rw [← hQ]
      exact r_iret hc hr hlk () (by rw [hnu]; rfl) rfl dX6_moved_56
    · obtain ⟨p1, hp1b, hp1⟩ := hI.1 (i + 1) (by omega)
      have hpb : p0 < 200 := by
        obtain ⟨p, hb, hp2⟩ := hI.1 i (by omega)
        rw [hp] at hp2; cases hp2; exact hb
      have he : rTb ρ (6 * p0 + rLe ρ (24 * w0 + i)) = some p1 := by
        have z := hp1; rw [pth, hp] at z; rw [Nat.mul_comm 6 p0]; exact z
      have hcb := bLe (24 * w0 + i)
      refine r_aload_n hc dX6_moved_21 rfl 2 rfl ?_
      refine r_getR hc inlX6 (hro _ (List.mem_of_getElem? (i := 0) rfl)) rfl 7 (by decide) fl_X6_19 rfl rfl dX6_moved_22 ?_
      refine r_bipush (v := (nI 6)) hc dX6_moved_25 rfl ?_
      refine r_iload_n hc dX6_moved_27 rfl 1 rfl ?_
      refine n_mul hc dX6_moved_28 ?_
      refine r_aload_n hc dX6_moved_29 rfl 2 rfl ?_
      refine r_getR hc inlX6 (hro _ (List.mem_of_getElem? (i := 0) rfl)) rfl 1 (by decide) fl_X6_7 rfl rfl dX6_moved_30 ?_
      refine r_bipush (v := (nI 24)) hc dX6_moved_33 rfl ?_
      refine r_iload_n hc dX6_moved_35 rfl 3 rfl ?_
      refine n_mul hc dX6_moved_36 ?_
      refine r_iload hc dX6_moved_37 0 rfl ?_
      refine n_add hc dX6_moved_39 ?_
      have b4 := bLe ((24 * w0) + i)
      refine r_ialdR hc nI (hro _ (List.mem_of_getElem? (i := 1) rfl)) (by omega) (by decide) dX6_moved_40 ?_
      refine n_add hc dX6_moved_41 ?_
      refine r_ialdR hc eI (hro _ (List.mem_of_getElem? (i := 4) rfl)) (by omega) (by decide) dX6_moved_42 ?_
      rw [he]
      show V p l e (RM 0 0 0 0) s m args below meth c D A 5 0 0 Q ([]) 43 [(4, .int (nI i)), (3, .int (nI p0)), (0, .ref g), (1, .int (nI w0)), (2, .int (nI k))] [.int (nI p1)]
      refine r_istore_n (lv' := [(3, .int (nI p1)), (4, .int (nI i)), (0, .ref g), (1, .int (nI w0)), (2, .int (nI k))]) hc dX6_moved_43 rfl (by decide) rfl ?_
      refine r_iinc (k := 1) (v := (nI (i + 1))) (lv' := [(4, .int (nI (i + 1))), (3, .int (nI p1)), (0, .ref g), (1, .int (nI w0)), (2, .int (nI k))]) hc dX6_moved_44 rfl (nI_add _ _) (by decide) rfl ?_
      refine r_goto hc 10 dX6_moved_47 (by decide) ?_
      refine r_lv [0, 1, 2, 3, 4] rfl ?_
      exact ih10 _ (by omega) p1 (i + 1) rfl (by omega) hp1
  refine r_lv [0, 1, 2, 3, 4] rfl ?_
  exact lp10 _ (rNa ρ k) 0 rfl (Nat.zero_le _) rfl
set_option maxHeartbeats 4000000 in
set_option maxRecDepth 100000 in
/-- reference: number, not complete -/
theorem m_number_n (l : Launch) (D : va_G) (cI cZ cW : ClassId) (g gL gS gW gT gO gP gU gA gE gQ : Nat) (ρ : RS) (v : Int32) (hcm : ¬ cmpl ρ) (hB : BR ρ) : CtI l yX6_number cX6_number 2 (some .int) 3 65 0 0 D cI cZ cW [.ref g, .int v] ([]) (wR cI cZ g gL gS gW gT gO gP gU gA gE gQ ρ) (S := Unit) (fun r _ => r = -1) (fun _ => []) := by
  refine CtI.mk (by decide) (Nat.le_of_ble_eq_true rfl) ?_
  intro p e s m args below meth c A hc hr hlk hnm hro
  generalize hQ : MQ below _ args s 0 0 A = Q
  have hB0 := hB
  obtain ⟨bn, bLe, bSz, bRe, bSu, bMd, bNw, bTb, bPr, bOn, bTw, bNu, bNa, bNd, bLo⟩ := hB
  show V p l e (RM 3 65 0 0) s m args below meth c D A 2 0 0 Q ([]) 0 [(0, .ref g), (1, .int v)] []
  refine r_aload_n hc dX6_number_0 rfl 0 rfl ?_
  refine r_callI (As := []) (n := 0) (wr := []) hc (m_numberAll_f l D cI cZ cW g gL gS gW gT gO gP gU gA gE gQ ρ hcm hB0) co_yX6_numberAll in_X6 ml_X6_119 (by decide +kernel) rfl ⟨by decide, by decide⟩ ⟨by decide, by decide⟩ im_yX6_numberAll se_yX6_numberAll rfl (Or.inr ⟨_, (hro _ (List.mem_of_getElem? (i := 0) rfl))⟩) rfl (Nat.le_of_ble_eq_true rfl) [] [] rfl rfl rfl rfl (by decide) (fun q hq => Or.inr (hro q hq)) dX6_number_1 (fun r1 u2 e3 => ?_)
  subst e3
  refine z_if_eq hc 24 dX6_number_4 (by decide) (fun h4 => ?_) (fun h4 => ?_)
  · refine r_iconst (v := (-1)) hc dX6_number_24 rfl ?_
    rw [← hQ]
    exact r_iret hc hr hlk () (rfl) rfl dX6_number_25
  · cases h4
set_option maxHeartbeats 4000000 in
set_option maxRecDepth 100000 in
/-- reference: entry, not complete -/
theorem m_entry_n (l : Launch) (D : va_G) (cI cZ cW : ClassId) (g gL gS gW gT gO gP gU gA gE gQ : Nat) (ρ : RS) (v : Int32) (y0 : Int32) (hcm : ¬ cmpl ρ) (hB : BR ρ) : CtI l yX6_entry cX6_entry 3 (some .int) 3 65 0 0 D cI cZ cW [.ref g, .int v, .int y0] ([]) (wR cI cZ g gL gS gW gT gO gP gU gA gE gQ ρ) (S := Unit) (fun r _ => r = -1) (fun _ => []) := by
  refine CtI.mk (by decide) (Nat.le_of_ble_eq_true rfl) ?_
  intro p e s m args below meth c A hc hr hlk hnm hro
  generalize hQ : MQ below _ args s 0 0 A = Q
  have hB0 := hB
  obtain ⟨bn, bLe, bSz, bRe, bSu, bMd, bNw, bTb, bPr, bOn, bTw, bNu, bNa, bNd, bLo⟩ := hB
  show V p l e (RM 3 65 0 0) s m args below meth c D A 3 0 0 Q ([]) 0 [(0, .ref g), (1, .int v), (2, .int y0)] []
  refine r_aload_n hc dX6_entry_0 rfl 0 rfl ?_
  refine r_callI (As := []) (n := 0) (wr := []) hc (m_numberAll_f l D cI cZ cW g gL gS gW gT gO gP gU gA gE gQ ρ hcm hB0) co_yX6_numberAll in_X6 ml_X6_119 (by decide +kernel) rfl ⟨by decide, by decide⟩ ⟨by decide, by decide⟩ im_yX6_numberAll se_yX6_numberAll rfl (Or.inr ⟨_, (hro _ (List.mem_of_getElem? (i := 0) rfl))⟩) rfl (Nat.le_of_ble_eq_true rfl) [] [] rfl rfl rfl rfl (by decide) (fun q hq => Or.inr (hro q hq)) dX6_entry_1 (fun r1 u2 e3 => ?_)
  subst e3
  refine z_if_eq hc 50 dX6_entry_4 (by decide) (fun h4 => ?_) (fun h4 => ?_)
  · refine r_iconst (v := (-1)) hc dX6_entry_50 rfl ?_
    rw [← hQ]
    exact r_iret hc hr hlk () (rfl) rfl dX6_entry_51
  · cases h4
set_option maxHeartbeats 4000000 in
set_option maxRecDepth 100000 in
/-- reference: move, not complete -/
theorem m_move_n (l : Launch) (D : va_G) (cI cZ cW : ClassId) (g gL gS gW gT gO gP gU gA gE gQ : Nat) (ρ : RS) (v : Int32) (hcm : ¬ cmpl ρ) (hB : BR ρ) : CtI l yX6_move cX6_move 2 (some .int) 3 65 0 0 D cI cZ cW [.ref g, .int v] ([]) (wR cI cZ g gL gS gW gT gO gP gU gA gE gQ ρ) (S := Unit) (fun r _ => r = -1) (fun _ => []) := by
  refine CtI.mk (by decide) (Nat.le_of_ble_eq_true rfl) ?_
  intro p e s m args below meth c A hc hr hlk hnm hro
  generalize hQ : MQ below _ args s 0 0 A = Q
  have hB0 := hB
  obtain ⟨bn, bLe, bSz, bRe, bSu, bMd, bNw, bTb, bPr, bOn, bTw, bNu, bNa, bNd, bLo⟩ := hB
  show V p l e (RM 3 65 0 0) s m args below meth c D A 2 0 0 Q ([]) 0 [(0, .ref g), (1, .int v)] []
  refine r_aload_n hc dX6_move_0 rfl 0 rfl ?_
  refine r_callI (As := []) (n := 0) (wr := []) hc (m_numberAll_f l D cI cZ cW g gL gS gW gT gO gP gU gA gE gQ ρ hcm hB0) co_yX6_numberAll in_X6 ml_X6_119 (by decide +kernel) rfl ⟨by decide, by decide⟩ ⟨by decide, by decide⟩ im_yX6_numberAll se_yX6_numberAll rfl (Or.inr ⟨_, (hro _ (List.mem_of_getElem? (i := 0) rfl))⟩) rfl (Nat.le_of_ble_eq_true rfl) [] [] rfl rfl rfl rfl (by decide) (fun q hq => Or.inr (hro q hq)) dX6_move_1 (fun r1 u2 e3 => ?_)
  subst e3
  refine z_if_eq hc 25 dX6_move_4 (by decide) (fun h4 => ?_) (fun h4 => ?_)
  · refine r_iconst (v := (-1)) hc dX6_move_25 rfl ?_
    rw [← hQ]
    exact r_iret hc hr hlk () (rfl) rfl dX6_move_26
  · cases h4
set_option maxHeartbeats 4000000 in
set_option maxRecDepth 100000 in
/-- reference: cycles, not complete -/
theorem m_cycles_n (l : Launch) (D : va_G) (cI cZ cW : ClassId) (g gL gS gW gT gO gP gU gA gE gQ : Nat) (ρ : RS) (fx : Bool) (hcm : ¬ cmpl ρ) (hB : BR ρ) : CtI l yX6_cycles cX6_cycles 5 (some .int) 3 65 0 0 D cI cZ cW [.ref g, .int (zI fx)] ([]) (wR cI cZ g gL gS gW gT gO gP gU gA gE gQ ρ) (S := Unit) (fun r _ => r = -1) (fun _ => []) := by
  refine CtI.mk (by decide) (Nat.le_of_ble_eq_true rfl) ?_
  intro p e s m args below meth c A hc hr hlk hnm hro
  generalize hQ : MQ below _ args s 0 0 A = Q
  have hB0 := hB
  obtain ⟨bn, bLe, bSz, bRe, bSu, bMd, bNw, bTb, bPr, bOn, bTw, bNu, bNa, bNd, bLo⟩ := hB
  show V p l e (RM 3 65 0 0) s m args below meth c D A 5 0 0 Q ([]) 0 [(0, .ref g), (1, .int (zI fx))] []
  refine r_aload_n hc dX6_cycles_0 rfl 0 rfl ?_
  refine r_callI (As := []) (n := 0) (wr := []) hc (m_numberAll_f l D cI cZ cW g gL gS gW gT gO gP gU gA gE gQ ρ hcm hB0) co_yX6_numberAll in_X6 ml_X6_119 (by decide +kernel) rfl ⟨by decide, by decide⟩ ⟨by decide, by decide⟩ im_yX6_numberAll se_yX6_numberAll rfl (Or.inr ⟨_, (hro _ (List.mem_of_getElem? (i := 0) rfl))⟩) rfl (Nat.le_of_ble_eq_true rfl) [] [] rfl rfl rfl rfl (by decide) (fun q hq => Or.inr (hro q hq)) dX6_cycles_1 (fun r1 u2 e3 => ?_)
  subst e3
  refine z_if_ne hc 9 dX6_cycles_4 (by decide) (fun h4 => ?_) (fun h4 => ?_)
  · cases h4
  · refine r_iconst (v := (-1)) hc dX6_cycles_7 rfl ?_
    rw [← hQ]
    exact r_iret hc hr hlk () (rfl) rfl dX6_cycles_8
set_option maxHeartbeats 4000000 in
set_option maxRecDepth 100000 in
/-- reference: order, not complete -/
theorem m_order_n (l : Launch) (D : va_G) (cI cZ cW : ClassId) (g gL gS gW gT gO gP gU gA gE gQ : Nat) (ρ : RS) (hcm : ¬ cmpl ρ) (hB : BR ρ) : CtL l yX6_order cX6_order 12 (some .long) 3 65 0 0 D cI cZ cW [.ref g] ([]) (wR cI cZ g gL gS gW gT gO gP gU gA gE gQ ρ) (S := Unit) (fun r _ => r = -1) (fun _ => []) := by
  refine CtL.mk (by decide) (Nat.le_of_ble_eq_true rfl) ?_
  intro p e s m args below meth c A hc hr hlk hnm hro
  generalize hQ : MQ below _ args s 0 0 A = Q
  have hB0 := hB
  obtain ⟨bn, bLe, bSz, bRe, bSu, bMd, bNw, bTb, bPr, bOn, bTw, bNu, bNa, bNd, bLo⟩ := hB
  show V p l e (RM 3 65 0 0) s m args below meth c D A 12 0 0 Q ([]) 0 [(0, .ref g)] []
  refine r_aload_n hc dX6_order_0 rfl 0 rfl ?_
  refine r_callI (As := []) (n := 0) (wr := []) hc (m_numberAll_f l D cI cZ cW g gL gS gW gT gO gP gU gA gE gQ ρ hcm hB0) co_yX6_numberAll in_X6 ml_X6_119 (by decide +kernel) rfl ⟨by decide, by decide⟩ ⟨by decide, by decide⟩ im_yX6_numberAll se_yX6_numberAll rfl (Or.inr ⟨_, (hro _ (List.mem_of_getElem? (i := 0) rfl))⟩) rfl (Nat.le_of_ble_eq_true rfl) [] [] rfl rfl rfl rfl (by decide) (fun q hq => Or.inr (hro q hq)) dX6_order_1 (fun r1 u2 e3 => ?_)
  subst e3
  refine z_if_ne hc 11 dX6_order_4 (by decide) (fun h4 => ?_) (fun h4 => ?_)
  · cases h4
  · refine r_ldc2 hc cn_X6_132 dX6_order_7 ?_
    rw [← hQ]
    exact r_lret hc hr hlk () (rfl) rfl dX6_order_10
set_option maxHeartbeats 4000000 in
set_option maxRecDepth 100000 in
/-- reference: resting, not complete -/
theorem m_resting_n (l : Launch) (D : va_G) (cI cZ cW : ClassId) (g gL gS gW gT gO gP gU gA gE gQ : Nat) (ρ : RS) (hcm : ¬ cmpl ρ) (hB : BR ρ) : CtI l yX6_resting cX6_resting 5 (some .int) 3 65 0 0 D cI cZ cW [.ref g] ([]) (wR cI cZ g gL gS gW gT gO gP gU gA gE gQ ρ) (S := Unit) (fun r _ => r = -1) (fun _ => []) := by
  refine CtI.mk (by decide) (Nat.le_of_ble_eq_true rfl) ?_
  intro p e s m args below meth c A hc hr hlk hnm hro
  generalize hQ : MQ below _ args s 0 0 A = Q
  have hB0 := hB
  obtain ⟨bn, bLe, bSz, bRe, bSu, bMd, bNw, bTb, bPr, bOn, bTw, bNu, bNa, bNd, bLo⟩ := hB
  show V p l e (RM 3 65 0 0) s m args below meth c D A 5 0 0 Q ([]) 0 [(0, .ref g)] []
  refine r_aload_n hc dX6_resting_0 rfl 0 rfl ?_
  refine r_callI (As := []) (n := 0) (wr := []) hc (m_numberAll_f l D cI cZ cW g gL gS gW gT gO gP gU gA gE gQ ρ hcm hB0) co_yX6_numberAll in_X6 ml_X6_119 (by decide +kernel) rfl ⟨by decide, by decide⟩ ⟨by decide, by decide⟩ im_yX6_numberAll se_yX6_numberAll rfl (Or.inr ⟨_, (hro _ (List.mem_of_getElem? (i := 0) rfl))⟩) rfl (Nat.le_of_ble_eq_true rfl) [] [] rfl rfl rfl rfl (by decide) (fun q hq => Or.inr (hro q hq)) dX6_resting_1 (fun r1 u2 e3 => ?_)
  subst e3
  refine z_if_ne hc 9 dX6_resting_4 (by decide) (fun h4 => ?_) (fun h4 => ?_)
  · cases h4
  · refine r_iconst (v := (-1)) hc dX6_resting_7 rfl ?_
    rw [← hQ]
    exact r_iret hc hr hlk () (rfl) rfl dX6_resting_8
set_option maxHeartbeats 4000000 in
set_option maxRecDepth 100000 in
/-- reference: orbit, not complete -/
theorem m_orbit_n (l : Launch) (D : va_G) (cI cZ cW : ClassId) (g gL gS gW gT gO gP gU gA gE gQ : Nat) (ρ : RS) (v : Int32) (hcm : ¬ cmpl ρ) (hB : BR ρ) : CtI l yX6_orbit cX6_orbit 7 (some .int) 3 65 0 0 D cI cZ cW [.ref g, .int v] ([]) (wR cI cZ g gL gS gW gT gO gP gU gA gE gQ ρ) (S := Unit) (fun r _ => r = -1) (fun _ => []) := by
  refine CtI.mk (by decide) (Nat.le_of_ble_eq_true rfl) ?_
  intro p e s m args below meth c A hc hr hlk hnm hro
  generalize hQ : MQ below _ args s 0 0 A = Q
  have hB0 := hB
  obtain ⟨bn, bLe, bSz, bRe, bSu, bMd, bNw, bTb, bPr, bOn, bTw, bNu, bNa, bNd, bLo⟩ := hB
  show V p l e (RM 3 65 0 0) s m args below meth c D A 7 0 0 Q ([]) 0 [(0, .ref g), (1, .int v)] []
  refine r_aload_n hc dX6_orbit_0 rfl 0 rfl ?_
  refine r_callI (As := []) (n := 0) (wr := []) hc (m_numberAll_f l D cI cZ cW g gL gS gW gT gO gP gU gA gE gQ ρ hcm hB0) co_yX6_numberAll in_X6 ml_X6_119 (by decide +kernel) rfl ⟨by decide, by decide⟩ ⟨by decide, by decide⟩ im_yX6_numberAll se_yX6_numberAll rfl (Or.inr ⟨_, (hro _ (List.mem_of_getElem? (i := 0) rfl))⟩) rfl (Nat.le_of_ble_eq_true rfl) [] [] rfl rfl rfl rfl (by decide) (fun q hq => Or.inr (hro q hq)) dX6_orbit_1 (fun r1 u2 e3 => ?_)
  subst e3
  refine z_if_eq hc 15 dX6_orbit_4 (by decide) (fun h4 => ?_) (fun h4 => ?_)
  · refine r_iconst (v := (-1)) hc dX6_orbit_15 rfl ?_
    rw [← hQ]
    exact r_iret hc hr hlk () (rfl) rfl dX6_orbit_16
  · cases h4
set_option maxHeartbeats 4000000 in
set_option maxRecDepth 100000 in
/-- reference: number(k) -/
theorem m_number (l : Launch) (D : va_G) (cI cZ cW : ClassId) (g gL gS gW gT gO gP gU gA gE gQ : Nat) (ρ : RS) (hcm : cmpl ρ) (F : RS → Prop) (hNum : NumOK ρ F) (hFB : ∀ τ, F τ → BR τ) (hB : BR ρ) (k : Nat) (hk2 : k < 200) (hk : ∀ τ, F τ → livR τ k = true) : CtI l yX6_number cX6_number 2 (some .int) 3 65 0 0 D cI cZ cW [.ref g, .int (nI k)] (wR cI cZ g gL gS gW gT gO gP gU gA gE gQ ρ) ([]) (S := RS) (fun r u => r = eI (rNu u k) ∧ F u) (fun u => wR cI cZ g gL gS gW gT gO gP gU gA gE gQ u) := by
  refine CtI.mk (by decide) (Nat.le_of_ble_eq_true rfl) ?_
  intro p e s m args below meth c A hc hr hlk hnm hro
  generalize hQ : MQ below _ args s 0 0 A = Q
  have hB0 := hB
  obtain ⟨bn, bLe, bSz, bRe, bSu, bMd, bNw, bTb, bPr, bOn, bTw, bNu, bNa, bNd, bLo⟩ := hB
  show V p l e (RM 3 65 0 0) s m args below meth c D A 2 0 0 Q (wR cI cZ g gL gS gW gT gO gP gU gA gE gQ ρ) 0 [(0, .ref g), (1, .int (nI k))] []
  refine r_aload_n hc dX6_number_0 rfl 0 rfl ?_
  refine r_callI (As := []) (n := 0) (wr := []) hc (m_numberAll l D cI cZ cW g gL gS gW gT gO gP gU gA gE gQ ρ hcm F hNum hB0) co_yX6_numberAll in_X6 ml_X6_119 (by decide +kernel) rfl ⟨by decide, by decide⟩ ⟨by decide, by decide⟩ im_yX6_numberAll se_yX6_numberAll rfl (Or.inl ⟨0, _, rfl⟩) rfl (Nat.le_of_ble_eq_true rfl) [0, 1, 2, 3, 4, 5, 6, 7, 8, 9, 10] [] rfl rfl rfl rfl (by decide) (fun q hq => absurd hq List.not_mem_nil) dX6_number_1 (fun r τ e1 => ?_)
  show V p l e (RM 3 65 0 0) s m args below meth c D A 2 0 0 Q (wR cI cZ g gL gS gW gT gO gP gU gA gE gQ τ) 4 [(0, .ref g), (1, .int (nI k))] [.int r]
  obtain ⟨rfl, hFt⟩ := e1
  show V p l e (RM 3 65 0 0) s m args below meth c D A 2 0 0 Q (wR cI cZ g gL gS gW gT gO gP gU gA gE gQ τ) 4 [(0, .ref g), (1, .int (nI k))] [.int (zI true)]
  have hBt := hFB τ hFt
  obtain ⟨tn, tLe, tSz, tRe, tSu, tMd, tNw, tTb, tPr, tOn, tTw, tNu, tNa, tNd, tLo⟩ := id hBt
  refine z_if_eq hc 24 dX6_number_4 (by decide) (fun h2 => ?_) (fun h2 => ?_)
  · cases h2
  · refine r_aload_n hc dX6_number_7 rfl 0 rfl ?_
    refine r_iload_n hc dX6_number_8 rfl 1 rfl ?_
    refine r_callI (As := [.int (nI k)]) (n := 1) (wr := wR cI cZ g gL gS gW gT gO gP gU gA gE gQ τ) hc (m_isCoset l D cI cZ cW g gL gS gW gT gO gP gU gA gE gQ τ (nI k) hBt) co_yX6_isCoset in_X6 ml_X6_113 (by decide +kernel) rfl ⟨by decide, by decide⟩ ⟨by decide, by decide⟩ im_yX6_isCoset se_yX6_isCoset rfl (Or.inl ⟨0, _, rfl⟩) rfl (Nat.le_of_ble_eq_true rfl) [] [0, 1, 2, 3, 4, 5, 6, 7, 8, 9, 10] rfl rfl rfl rfl (by decide) (fun q hq => Or.inl ((List.getElem?_of_mem hq).elim fun k hk => ⟨k, hk, List.not_mem_nil⟩)) dX6_number_9 (fun r3 u4 e5 => ?_)
    subst e5
    rw [livRI_n _ (by omega)]
    refine z_if_eq hc 24 dX6_number_12 (by decide) (fun h6 => ?_) (fun h6 => ?_)
    · exact absurd ((hk τ hFt).symm.trans h6) (by decide)
    · refine r_aload_n hc dX6_number_15 rfl 0 rfl ?_
      refine r_get hc inlX6 0 rfl rfl 12 (by decide) fl_X6_28 rfl rfl dX6_number_16 ?_
      refine r_iload_n hc dX6_number_19 rfl 1 rfl ?_
      refine r_iald hc eI 7 rfl (by omega) (by decide) dX6_number_20 ?_
      refine r_goto hc 25 dX6_number_21 (by decide) ?_
      rw [← hQ]
      exact r_iret hc hr hlk τ ⟨rfl, hFt⟩ rfl dX6_number_25
set_option maxHeartbeats 4000000 in
set_option maxRecDepth 100000 in
/-- reference: number, refused -/
theorem m_number_bad (l : Launch) (D : va_G) (cI cZ cW : ClassId) (g gL gS gW gT gO gP gU gA gE gQ : Nat) (ρ : RS) (hcm : cmpl ρ) (F : RS → Prop) (hNum : NumOK ρ F) (hFB : ∀ τ, F τ → BR τ) (hB : BR ρ) (v : Int32) (hk : ∀ τ, F τ → livRI τ v = false) : CtI l yX6_number cX6_number 2 (some .int) 3 65 0 0 D cI cZ cW [.ref g, .int v] (wR cI cZ g gL gS gW gT gO gP gU gA gE gQ ρ) ([]) (S := RS) (fun r u => r = -1 ∧ F u) (fun u => wR cI cZ g gL gS gW gT gO gP gU gA gE gQ u) := by
  refine CtI.mk (by decide) (Nat.le_of_ble_eq_true rfl) ?_
  intro p e s m args below meth c A hc hr hlk hnm hro
  generalize hQ : MQ below _ args s 0 0 A = Q
  have hB0 := hB
  obtain ⟨bn, bLe, bSz, bRe, bSu, bMd, bNw, bTb, bPr, bOn, bTw, bNu, bNa, bNd, bLo⟩ := hB
  show V p l e (RM 3 65 0 0) s m args below meth c D A 2 0 0 Q (wR cI cZ g gL gS gW gT gO gP gU gA gE gQ ρ) 0 [(0, .ref g), (1, .int v)] []
  refine r_aload_n hc dX6_number_0 rfl 0 rfl ?_
  refine r_callI (As := []) (n := 0) (wr := []) hc (m_numberAll l D cI cZ cW g gL gS gW gT gO gP gU gA gE gQ ρ hcm F hNum hB0) co_yX6_numberAll in_X6 ml_X6_119 (by decide +kernel) rfl ⟨by decide, by decide⟩ ⟨by decide, by decide⟩ im_yX6_numberAll se_yX6_numberAll rfl (Or.inl ⟨0, _, rfl⟩) rfl (Nat.le_of_ble_eq_true rfl) [0, 1, 2, 3, 4, 5, 6, 7, 8, 9, 10] [] rfl rfl rfl rfl (by decide) (fun q hq => absurd hq List.not_mem_nil) dX6_number_1 (fun r τ e1 => ?_)
  show V p l e (RM 3 65 0 0) s m args below meth c D A 2 0 0 Q (wR cI cZ g gL gS gW gT gO gP gU gA gE gQ τ) 4 [(0, .ref g), (1, .int v)] [.int r]
  obtain ⟨rfl, hFt⟩ := e1
  show V p l e (RM 3 65 0 0) s m args below meth c D A 2 0 0 Q (wR cI cZ g gL gS gW gT gO gP gU gA gE gQ τ) 4 [(0, .ref g), (1, .int v)] [.int (zI true)]
  have hBt := hFB τ hFt
  obtain ⟨tn, tLe, tSz, tRe, tSu, tMd, tNw, tTb, tPr, tOn, tTw, tNu, tNa, tNd, tLo⟩ := id hBt
  refine z_if_eq hc 24 dX6_number_4 (by decide) (fun h2 => ?_) (fun h2 => ?_)
  · cases h2
  · refine r_aload_n hc dX6_number_7 rfl 0 rfl ?_
    refine r_iload_n hc dX6_number_8 rfl 1 rfl ?_
    refine r_callI (As := [.int v]) (n := 1) (wr := wR cI cZ g gL gS gW gT gO gP gU gA gE gQ τ) hc (m_isCoset l D cI cZ cW g gL gS gW gT gO gP gU gA gE gQ τ v hBt) co_yX6_isCoset in_X6 ml_X6_113 (by decide +kernel) rfl ⟨by decide, by decide⟩ ⟨by decide, by decide⟩ im_yX6_isCoset se_yX6_isCoset rfl (Or.inl ⟨0, _, rfl⟩) rfl (Nat.le_of_ble_eq_true rfl) [] [0, 1, 2, 3, 4, 5, 6, 7, 8, 9, 10] rfl rfl rfl rfl (by decide) (fun q hq => Or.inl ((List.getElem?_of_mem hq).elim fun k hk => ⟨k, hk, List.not_mem_nil⟩)) dX6_number_9 (fun r3 u4 e5 => ?_)
    subst e5
    refine z_if_eq hc 24 dX6_number_12 (by decide) (fun h6 => ?_) (fun h6 => ?_)
    · refine r_iconst (v := (-1)) hc dX6_number_24 rfl ?_
      rw [← hQ]
      exact r_iret hc hr hlk τ ⟨rfl, hFt⟩ rfl dX6_number_25
    · exact absurd ((hk τ hFt).symm.trans h6) (by decide)
set_option maxHeartbeats 4000000 in
set_option maxRecDepth 100000 in
/-- reference: entry(k, y0) -/
theorem m_entry (l : Launch) (D : va_G) (cI cZ cW : ClassId) (g gL gS gW gT gO gP gU gA gE gQ : Nat) (ρ : RS) (hcm : cmpl ρ) (F : RS → Prop) (hNum : NumOK ρ F) (hFB : ∀ τ, F τ → BR τ) (hB : BR ρ) (k d2 : Nat) (y0 : Int32) (hk2 : k < 200) (hk : ∀ τ, F τ → k < rNd τ) (hy : ∀ τ, F τ → isLt (rN τ) y0 = true) (hE : ∀ τ, F τ → ∃ d1, rTb τ (rNa τ k * 6 + colI y0) = some d1 ∧ rNu τ d1 = some d2) : CtI l yX6_entry cX6_entry 3 (some .int) 3 65 0 0 D cI cZ cW [.ref g, .int (nI k), .int y0] (wR cI cZ g gL gS gW gT gO gP gU gA gE gQ ρ) ([]) (S := RS) (fun r u => r = nI d2 ∧ F u) (fun u => wR cI cZ g gL gS gW gT gO gP gU gA gE gQ u) := by
  refine CtI.mk (by decide) (Nat.le_of_ble_eq_true rfl) ?_
  intro p e s m args below meth c A hc hr hlk hnm hro
  generalize hQ : MQ below _ args s 0 0 A = Q
  have hB0 := hB
  obtain ⟨bn, bLe, bSz, bRe, bSu, bMd, bNw, bTb, bPr, bOn, bTw, bNu, bNa, bNd, bLo⟩ := hB
  show V p l e (RM 3 65 0 0) s m args below meth c D A 3 0 0 Q (wR cI cZ g gL gS gW gT gO gP gU gA gE gQ ρ) 0 [(0, .ref g), (1, .int (nI k)), (2, .int y0)] []
  refine r_aload_n hc dX6_entry_0 rfl 0 rfl ?_
  refine r_callI (As := []) (n := 0) (wr := []) hc (m_numberAll l D cI cZ cW g gL gS gW gT gO gP gU gA gE gQ ρ hcm F hNum hB0) co_yX6_numberAll in_X6 ml_X6_119 (by decide +kernel) rfl ⟨by decide, by decide⟩ ⟨by decide, by decide⟩ im_yX6_numberAll se_yX6_numberAll rfl (Or.inl ⟨0, _, rfl⟩) rfl (Nat.le_of_ble_eq_true rfl) [0, 1, 2, 3, 4, 5, 6, 7, 8, 9, 10] [] rfl rfl rfl rfl (by decide) (fun q hq => absurd hq List.not_mem_nil) dX6_entry_1 (fun r τ e1 => ?_)
  show V p l e (RM 3 65 0 0) s m args below meth c D A 3 0 0 Q (wR cI cZ g gL gS gW gT gO gP gU gA gE gQ τ) 4 [(0, .ref g), (1, .int (nI k)), (2, .int y0)] [.int r]
  obtain ⟨rfl, hFt⟩ := e1
  show V p l e (RM 3 65 0 0) s m args below meth c D A 3 0 0 Q (wR cI cZ g gL gS gW gT gO gP gU gA gE gQ τ) 4 [(0, .ref g), (1, .int (nI k)), (2, .int y0)] [.int (zI true)]
  have hBt := hFB τ hFt
  obtain ⟨tn, tLe, tSz, tRe, tSu, tMd, tNw, tTb, tPr, tOn, tTw, tNu, tNa, tNd, tLo⟩ := id hBt
  refine z_if_eq hc 50 dX6_entry_4 (by decide) (fun h2 => ?_) (fun h2 => ?_)
  · cases h2
  · refine r_aload_n hc dX6_entry_7 rfl 0 rfl ?_
    refine r_iload_n hc dX6_entry_8 rfl 1 rfl ?_
    refine r_callI (As := [.int (nI k)]) (n := 1) (wr := wR cI cZ g gL gS gW gT gO gP gU gA gE gQ τ) hc (m_isNumber l D cI cZ cW g gL gS gW gT gO gP gU gA gE gQ τ (nI k) hBt) co_yX6_isNumber in_X6 ml_X6_122 (by decide +kernel) rfl ⟨by decide, by decide⟩ ⟨by decide, by decide⟩ im_yX6_isNumber se_yX6_isNumber rfl (Or.inl ⟨0, _, rfl⟩) rfl (Nat.le_of_ble_eq_true rfl) [] [0, 1, 2, 3, 4, 5, 6, 7, 8, 9, 10] rfl rfl rfl rfl (by decide) (fun q hq => Or.inl ((List.getElem?_of_mem hq).elim fun k hk => ⟨k, hk, List.not_mem_nil⟩)) dX6_entry_9 (fun r3 u4 e5 => ?_)
    subst e5
    rw [inN_n (by omega)]
    refine z_if_eq hc 50 dX6_entry_12 (by decide) (fun h6 => ?_) (fun h6 => ?_)
    · have := hk τ hFt; simp at h6; omega
    · refine r_aload_n hc dX6_entry_15 rfl 0 rfl ?_
      refine r_iload_n hc dX6_entry_16 rfl 2 rfl ?_
      refine r_callI (As := [.int y0]) (n := 1) (wr := wR cI cZ g gL gS gW gT gO gP gU gA gE gQ τ) hc (m_isLetter l D cI cZ cW g gL gS gW gT gO gP gU gA gE gQ τ y0) co_yX6_isLetter in_X6 ml_X6_61 (by decide +kernel) rfl ⟨by decide, by decide⟩ ⟨by decide, by decide⟩ im_yX6_isLetter se_yX6_isLetter rfl (Or.inl ⟨0, _, rfl⟩) rfl (Nat.le_of_ble_eq_true rfl) [] [0, 1, 2, 3, 4, 5, 6, 7, 8, 9, 10] rfl rfl rfl rfl (by decide) (fun q hq => Or.inl ((List.getElem?_of_mem hq).elim fun k hk => ⟨k, hk, List.not_mem_nil⟩)) dX6_entry_17 (fun r7 u8 e9 => ?_)
      subst e9
      refine z_if_eq hc 50 dX6_entry_20 (by decide) (fun h10 => ?_) (fun h10 => ?_)
      · exact absurd ((hy τ hFt).symm.trans h10) (by decide)
      · obtain ⟨d1, hd1, hd2⟩ := hE τ hFt
        have hd1b := tTb _ _ hd1
        have hc6 := (isLt_six tn (hy τ hFt)).2
        have hnk := tNa k
        refine r_aload_n hc dX6_entry_23 rfl 0 rfl ?_
        refine r_get hc inlX6 0 rfl rfl 12 (by decide) fl_X6_28 rfl rfl dX6_entry_24 ?_
        refine r_aload_n hc dX6_entry_27 rfl 0 rfl ?_
        refine r_get hc inlX6 0 rfl rfl 7 (by decide) fl_X6_19 rfl rfl dX6_entry_28 ?_
        refine r_bipush (v := (nI 6)) hc dX6_entry_31 rfl ?_
        refine r_aload_n hc dX6_entry_33 rfl 0 rfl ?_
        refine r_get hc inlX6 0 rfl rfl 13 (by decide) fl_X6_31 rfl rfl dX6_entry_34 ?_
        refine r_iload_n hc dX6_entry_37 rfl 1 rfl ?_
        refine r_iald hc nI 8 rfl (by omega) (by decide) dX6_entry_38 ?_
        refine n_mul hc dX6_entry_39 ?_
        refine r_iload_n hc dX6_entry_40 rfl 2 rfl ?_
        refine r_callsI (As := [.int y0]) (n := 1) (wr := wR cI cZ g gL gS gW gT gO gP gU gA gE gQ τ) hc (m_column l D cI cZ cW y0 (isLt_six tn (hy τ hFt)).1) co_yX6_column in_X6 ml_X6_65 (by decide +kernel) rfl ⟨by decide, by decide⟩ ⟨by decide, by decide⟩ st_yX6_column rfl (Nat.le_of_ble_eq_true rfl) [] [0, 1, 2, 3, 4, 5, 6, 7, 8, 9, 10] rfl rfl rfl rfl (by decide) (fun q hq => absurd hq List.not_mem_nil) dX6_entry_41 (fun r11 u12 e13 => ?_)
        subst e13
        show V p l e (RM 3 65 0 0) s m args below meth c D A 3 0 0 Q (wR cI cZ g gL gS gW gT gO gP gU gA gE gQ τ) 44 [(0, .ref g), (1, .int (nI k)), (2, .int y0)] [.int (nI (colI y0)), .int (nI (6 * ((rNa τ) k))), .ref gT, .ref gU]
        refine n_add hc dX6_entry_44 ?_
        refine r_iald hc eI 4 rfl (by omega) (by decide) dX6_entry_45 ?_
        rw [Nat.mul_comm 6 (rNa τ k), hd1]
        show V p l e (RM 3 65 0 0) s m args below meth c D A 3 0 0 Q (wR cI cZ g gL gS gW gT gO gP gU gA gE gQ τ) 46 [(0, .ref g), (1, .int (nI k)), (2, .int y0)] [.int (nI d1), .ref gU]
        refine r_iald hc eI 7 rfl (by omega) (by decide) dX6_entry_46 ?_
        refine r_goto hc 51 dX6_entry_47 (by decide) ?_
        rw [← hQ]
        exact r_iret hc hr hlk τ ⟨by rw [hd2]; rfl, hFt⟩ rfl dX6_entry_51
set_option maxHeartbeats 4000000 in
set_option maxRecDepth 100000 in
/-- reference: entry, refused -/
theorem m_entry_bad (l : Launch) (D : va_G) (cI cZ cW : ClassId) (g gL gS gW gT gO gP gU gA gE gQ : Nat) (ρ : RS) (hcm : cmpl ρ) (F : RS → Prop) (hNum : NumOK ρ F) (hFB : ∀ τ, F τ → BR τ) (hB : BR ρ) (v y0 : Int32) (hbad : ∀ τ, F τ → inN (rNd τ) v = false ∨ isLt (rN τ) y0 = false) : CtI l yX6_entry cX6_entry 3 (some .int) 3 65 0 0 D cI cZ cW [.ref g, .int v, .int y0] (wR cI cZ g gL gS gW gT gO gP gU gA gE gQ ρ) ([]) (S := RS) (fun r u => r = -1 ∧ F u) (fun u => wR cI cZ g gL gS gW gT gO gP gU gA gE gQ u) := by
  refine CtI.mk (by decide) (Nat.le_of_ble_eq_true rfl) ?_
  intro p e s m args below meth c A hc hr hlk hnm hro
  generalize hQ : MQ below _ args s 0 0 A = Q
  have hB0 := hB
  obtain ⟨bn, bLe, bSz, bRe, bSu, bMd, bNw, bTb, bPr, bOn, bTw, bNu, bNa, bNd, bLo⟩ := hB
  show V p l e (RM 3 65 0 0) s m args below meth c D A 3 0 0 Q (wR cI cZ g gL gS gW gT gO gP gU gA gE gQ ρ) 0 [(0, .ref g), (1, .int v), (2, .int y0)] []
  refine r_aload_n hc dX6_entry_0 rfl 0 rfl ?_
  refine r_callI (As := []) (n := 0) (wr := []) hc (m_numberAll l D cI cZ cW g gL gS gW gT gO gP gU gA gE gQ ρ hcm F hNum hB0) co_yX6_numberAll in_X6 ml_X6_119 (by decide +kernel) rfl ⟨by decide, by decide⟩ ⟨by decide, by decide⟩ im_yX6_numberAll se_yX6_numberAll rfl (Or.inl ⟨0, _, rfl⟩) rfl (Nat.le_of_ble_eq_true rfl) [0, 1, 2, 3, 4, 5, 6, 7, 8, 9, 10] [] rfl rfl rfl rfl (by decide) (fun q hq => absurd hq List.not_mem_nil) dX6_entry_1 (fun r τ e1 => ?_)
  show V p l e (RM 3 65 0 0) s m args below meth c D A 3 0 0 Q (wR cI cZ g gL gS gW gT gO gP gU gA gE gQ τ) 4 [(0, .ref g), (1, .int v), (2, .int y0)] [.int r]
  obtain ⟨rfl, hFt⟩ := e1
  show V p l e (RM 3 65 0 0) s m args below meth c D A 3 0 0 Q (wR cI cZ g gL gS gW gT gO gP gU gA gE gQ τ) 4 [(0, .ref g), (1, .int v), (2, .int y0)] [.int (zI true)]
  have hBt := hFB τ hFt
  obtain ⟨tn, tLe, tSz, tRe, tSu, tMd, tNw, tTb, tPr, tOn, tTw, tNu, tNa, tNd, tLo⟩ := id hBt
  refine z_if_eq hc 50 dX6_entry_4 (by decide) (fun h2 => ?_) (fun h2 => ?_)
  · cases h2
  · refine r_aload_n hc dX6_entry_7 rfl 0 rfl ?_
    refine r_iload_n hc dX6_entry_8 rfl 1 rfl ?_
    refine r_callI (As := [.int v]) (n := 1) (wr := wR cI cZ g gL gS gW gT gO gP gU gA gE gQ τ) hc (m_isNumber l D cI cZ cW g gL gS gW gT gO gP gU gA gE gQ τ v hBt) co_yX6_isNumber in_X6 ml_X6_122 (by decide +kernel) rfl ⟨by decide, by decide⟩ ⟨by decide, by decide⟩ im_yX6_isNumber se_yX6_isNumber rfl (Or.inl ⟨0, _, rfl⟩) rfl (Nat.le_of_ble_eq_true rfl) [] [0, 1, 2, 3, 4, 5, 6, 7, 8, 9, 10] rfl rfl rfl rfl (by decide) (fun q hq => Or.inl ((List.getElem?_of_mem hq).elim fun k hk => ⟨k, hk, List.not_mem_nil⟩)) dX6_entry_9 (fun r3 u4 e5 => ?_)
    subst e5
    refine z_if_eq hc 50 dX6_entry_12 (by decide) (fun h6 => ?_) (fun h6 => ?_)
    · refine r_iconst (v := (-1)) hc dX6_entry_50 rfl ?_
      rw [← hQ]
      exact r_iret hc hr hlk τ ⟨rfl, hFt⟩ rfl dX6_entry_51
    · refine r_aload_n hc dX6_entry_15 rfl 0 rfl ?_
      refine r_iload_n hc dX6_entry_16 rfl 2 rfl ?_
      refine r_callI (As := [.int y0]) (n := 1) (wr := wR cI cZ g gL gS gW gT gO gP gU gA gE gQ τ) hc (m_isLetter l D cI cZ cW g gL gS gW gT gO gP gU gA gE gQ τ y0) co_yX6_isLetter in_X6 ml_X6_61 (by decide +kernel) rfl ⟨by decide, by decide⟩ ⟨by decide, by decide⟩ im_yX6_isLetter se_yX6_isLetter rfl (Or.inl ⟨0, _, rfl⟩) rfl (Nat.le_of_ble_eq_true rfl) [] [0, 1, 2, 3, 4, 5, 6, 7, 8, 9, 10] rfl rfl rfl rfl (by decide) (fun q hq => Or.inl ((List.getElem?_of_mem hq).elim fun k hk => ⟨k, hk, List.not_mem_nil⟩)) dX6_entry_17 (fun r7 u8 e9 => ?_)
      subst e9
      refine z_if_eq hc 50 dX6_entry_20 (by decide) (fun h10 => ?_) (fun h10 => ?_)
      · refine r_iconst (v := (-1)) hc dX6_entry_50 rfl ?_
        rw [← hQ]
        exact r_iret hc hr hlk τ ⟨rfl, hFt⟩ rfl dX6_entry_51
      · exact absurd (hbad τ hFt) (by rw [h6, h10]; simp)
set_option maxHeartbeats 4000000 in
set_option maxRecDepth 100000 in
/-- reference: move(k) -/
theorem m_move (l : Launch) (D : va_G) (cI cZ cW : ClassId) (g gL gS gW gT gO gP gU gA gE gQ : Nat) (ρ : RS) (hcm : cmpl ρ) (F : RS → Prop) (hNum : NumOK ρ F) (hFB : ∀ τ, F τ → BR τ) (hB : BR ρ) (k d0 : Nat) (hk2 : k < 200) (hk : ∀ τ, F τ → k < rNd τ) (hI : ∀ τ, F τ → ImgR τ 15 k d0) : CtI l yX6_move cX6_move 2 (some .int) 3 65 0 0 D cI cZ cW [.ref g, .int (nI k)] (wR cI cZ g gL gS gW gT gO gP gU gA gE gQ ρ) ([]) (S := RS) (fun r u => r = nI d0 ∧ F u) (fun u => wR cI cZ g gL gS gW gT gO gP gU gA gE gQ u) := by
  refine CtI.mk (by decide) (Nat.le_of_ble_eq_true rfl) ?_
  intro p e s m args below meth c A hc hr hlk hnm hro
  generalize hQ : MQ below _ args s 0 0 A = Q
  have hB0 := hB
  obtain ⟨bn, bLe, bSz, bRe, bSu, bMd, bNw, bTb, bPr, bOn, bTw, bNu, bNa, bNd, bLo⟩ := hB
  show V p l e (RM 3 65 0 0) s m args below meth c D A 2 0 0 Q (wR cI cZ g gL gS gW gT gO gP gU gA gE gQ ρ) 0 [(0, .ref g), (1, .int (nI k))] []
  refine r_aload_n hc dX6_move_0 rfl 0 rfl ?_
  refine r_callI (As := []) (n := 0) (wr := []) hc (m_numberAll l D cI cZ cW g gL gS gW gT gO gP gU gA gE gQ ρ hcm F hNum hB0) co_yX6_numberAll in_X6 ml_X6_119 (by decide +kernel) rfl ⟨by decide, by decide⟩ ⟨by decide, by decide⟩ im_yX6_numberAll se_yX6_numberAll rfl (Or.inl ⟨0, _, rfl⟩) rfl (Nat.le_of_ble_eq_true rfl) [0, 1, 2, 3, 4, 5, 6, 7, 8, 9, 10] [] rfl rfl rfl rfl (by decide) (fun q hq => absurd hq List.not_mem_nil) dX6_move_1 (fun r τ e1 => ?_)
  show V p l e (RM 3 65 0 0) s m args below meth c D A 2 0 0 Q (wR cI cZ g gL gS gW gT gO gP gU gA gE gQ τ) 4 [(0, .ref g), (1, .int (nI k))] [.int r]
  obtain ⟨rfl, hFt⟩ := e1
  show V p l e (RM 3 65 0 0) s m args below meth c D A 2 0 0 Q (wR cI cZ g gL gS gW gT gO gP gU gA gE gQ τ) 4 [(0, .ref g), (1, .int (nI k))] [.int (zI true)]
  have hBt := hFB τ hFt
  obtain ⟨tn, tLe, tSz, tRe, tSu, tMd, tNw, tTb, tPr, tOn, tTw, tNu, tNa, tNd, tLo⟩ := id hBt
  refine z_if_eq hc 25 dX6_move_4 (by decide) (fun h2 => ?_) (fun h2 => ?_)
  · cases h2
  · refine r_aload_n hc dX6_move_7 rfl 0 rfl ?_
    refine r_iload_n hc dX6_move_8 rfl 1 rfl ?_
    refine r_callI (As := [.int (nI k)]) (n := 1) (wr := wR cI cZ g gL gS gW gT gO gP gU gA gE gQ τ) hc (m_isNumber l D cI cZ cW g gL gS gW gT gO gP gU gA gE gQ τ (nI k) hBt) co_yX6_isNumber in_X6 ml_X6_122 (by decide +kernel) rfl ⟨by decide, by decide⟩ ⟨by decide, by decide⟩ im_yX6_isNumber se_yX6_isNumber rfl (Or.inl ⟨0, _, rfl⟩) rfl (Nat.le_of_ble_eq_true rfl) [] [0, 1, 2, 3, 4, 5, 6, 7, 8, 9, 10] rfl rfl rfl rfl (by decide) (fun q hq => Or.inl ((List.getElem?_of_mem hq).elim fun k hk => ⟨k, hk, List.not_mem_nil⟩)) dX6_move_9 (fun r3 u4 e5 => ?_)
    subst e5
    rw [inN_n (by omega)]
    refine z_if_eq hc 25 dX6_move_12 (by decide) (fun h6 => ?_) (fun h6 => ?_)
    · have := hk τ hFt; simp at h6; omega
    · refine r_aload_n hc dX6_move_15 rfl 0 rfl ?_
      refine r_bipush (v := (nI 15)) hc dX6_move_16 rfl ?_
      refine r_iload_n hc dX6_move_18 rfl 1 rfl ?_
      refine r_callI (As := [.int (nI 15), .int (nI k)]) (n := 2) (wr := wR cI cZ g gL gS gW gT gO gP gU gA gE gQ τ) hc (m_moved l D cI cZ cW g gL gS gW gT gO gP gU gA gE gQ τ 15 k d0 (by decide) hk2 (hI τ hFt) hBt) co_yX6_moved in_X6 ml_X6_125 (by decide +kernel) rfl ⟨by decide, by decide⟩ ⟨by decide, by decide⟩ im_yX6_moved se_yX6_moved rfl (Or.inl ⟨0, _, rfl⟩) rfl (Nat.le_of_ble_eq_true rfl) [] [0, 1, 2, 3, 4, 5, 6, 7, 8, 9, 10] rfl rfl rfl rfl (by decide) (fun q hq => Or.inl ((List.getElem?_of_mem hq).elim fun k hk => ⟨k, hk, List.not_mem_nil⟩)) dX6_move_19 (fun r7 u8 e9 => ?_)
      subst e9
      show V p l e (RM 3 65 0 0) s m args below meth c D A 2 0 0 Q (wR cI cZ g gL gS gW gT gO gP gU gA gE gQ τ) 22 [(0, .ref g), (1, .int (nI k))] [.int (nI d0)]
      refine r_goto hc 26 dX6_move_22 (by decide) ?_
      rw [← hQ]
      exact r_iret hc hr hlk τ ⟨rfl, hFt⟩ rfl dX6_move_26
set_option maxHeartbeats 4000000 in
set_option maxRecDepth 100000 in
/-- reference: move, refused -/
theorem m_move_bad (l : Launch) (D : va_G) (cI cZ cW : ClassId) (g gL gS gW gT gO gP gU gA gE gQ : Nat) (ρ : RS) (hcm : cmpl ρ) (F : RS → Prop) (hNum : NumOK ρ F) (hFB : ∀ τ, F τ → BR τ) (hB : BR ρ) (v : Int32) (hk : ∀ τ, F τ → inN (rNd τ) v = false) : CtI l yX6_move cX6_move 2 (some .int) 3 65 0 0 D cI cZ cW [.ref g, .int v] (wR cI cZ g gL gS gW gT gO gP gU gA gE gQ ρ) ([]) (S := RS) (fun r u => r = -1 ∧ F u) (fun u => wR cI cZ g gL gS gW gT gO gP gU gA gE gQ u) := by
  refine CtI.mk (by decide) (Nat.le_of_ble_eq_true rfl) ?_
  intro p e s m args below meth c A hc hr hlk hnm hro
  generalize hQ : MQ below _ args s 0 0 A = Q
  have hB0 := hB
  obtain ⟨bn, bLe, bSz, bRe, bSu, bMd, bNw, bTb, bPr, bOn, bTw, bNu, bNa, bNd, bLo⟩ := hB
  show V p l e (RM 3 65 0 0) s m args below meth c D A 2 0 0 Q (wR cI cZ g gL gS gW gT gO gP gU gA gE gQ ρ) 0 [(0, .ref g), (1, .int v)] []
  refine r_aload_n hc dX6_move_0 rfl 0 rfl ?_
  refine r_callI (As := []) (n := 0) (wr := []) hc (m_numberAll l D cI cZ cW g gL gS gW gT gO gP gU gA gE gQ ρ hcm F hNum hB0) co_yX6_numberAll in_X6 ml_X6_119 (by decide +kernel) rfl ⟨by decide, by decide⟩ ⟨by decide, by decide⟩ im_yX6_numberAll se_yX6_numberAll rfl (Or.inl ⟨0, _, rfl⟩) rfl (Nat.le_of_ble_eq_true rfl) [0, 1, 2, 3, 4, 5, 6, 7, 8, 9, 10] [] rfl rfl rfl rfl (by decide) (fun q hq => absurd hq List.not_mem_nil) dX6_move_1 (fun r τ e1 => ?_)
  show V p l e (RM 3 65 0 0) s m args below meth c D A 2 0 0 Q (wR cI cZ g gL gS gW gT gO gP gU gA gE gQ τ) 4 [(0, .ref g), (1, .int v)] [.int r]
  obtain ⟨rfl, hFt⟩ := e1
  show V p l e (RM 3 65 0 0) s m args below meth c D A 2 0 0 Q (wR cI cZ g gL gS gW gT gO gP gU gA gE gQ τ) 4 [(0, .ref g), (1, .int v)] [.int (zI true)]
  have hBt := hFB τ hFt
  obtain ⟨tn, tLe, tSz, tRe, tSu, tMd, tNw, tTb, tPr, tOn, tTw, tNu, tNa, tNd, tLo⟩ := id hBt
  refine z_if_eq hc 25 dX6_move_4 (by decide) (fun h2 => ?_) (fun h2 => ?_)
  · cases h2
  · refine r_aload_n hc dX6_move_7 rfl 0 rfl ?_
    refine r_iload_n hc dX6_move_8 rfl 1 rfl ?_
    refine r_callI (As := [.int v]) (n := 1) (wr := wR cI cZ g gL gS gW gT gO gP gU gA gE gQ τ) hc (m_isNumber l D cI cZ cW g gL gS gW gT gO gP gU gA gE gQ τ v hBt) co_yX6_isNumber in_X6 ml_X6_122 (by decide +kernel) rfl ⟨by decide, by decide⟩ ⟨by decide, by decide⟩ im_yX6_isNumber se_yX6_isNumber rfl (Or.inl ⟨0, _, rfl⟩) rfl (Nat.le_of_ble_eq_true rfl) [] [0, 1, 2, 3, 4, 5, 6, 7, 8, 9, 10] rfl rfl rfl rfl (by decide) (fun q hq => Or.inl ((List.getElem?_of_mem hq).elim fun k hk => ⟨k, hk, List.not_mem_nil⟩)) dX6_move_9 (fun r3 u4 e5 => ?_)
    subst e5
    refine z_if_eq hc 25 dX6_move_12 (by decide) (fun h6 => ?_) (fun h6 => ?_)
    · refine r_iconst (v := (-1)) hc dX6_move_25 rfl ?_
      rw [← hQ]
      exact r_iret hc hr hlk τ ⟨rfl, hFt⟩ rfl dX6_move_26
    · exact absurd ((hk τ hFt).symm.trans h6) (by decide)
set_option maxHeartbeats 4000000 in
set_option maxRecDepth 100000 in
/-- reference: orbit, refused -/
theorem m_orbit_bad (l : Launch) (D : va_G) (cI cZ cW : ClassId) (g gL gS gW gT gO gP gU gA gE gQ : Nat) (ρ : RS) (hcm : cmpl ρ) (F : RS → Prop) (hNum : NumOK ρ F) (hFB : ∀ τ, F τ → BR τ) (hB : BR ρ) (v : Int32) (hk : ∀ τ, F τ → inN (rNd τ) v = false) : CtI l yX6_orbit cX6_orbit 7 (some .int) 3 65 0 0 D cI cZ cW [.ref g, .int v] (wR cI cZ g gL gS gW gT gO gP gU gA gE gQ ρ) ([]) (S := RS) (fun r u => r = -1 ∧ F u) (fun u => wR cI cZ g gL gS gW gT gO gP gU gA gE gQ u) := by
  refine CtI.mk (by decide) (Nat.le_of_ble_eq_true rfl) ?_
  intro p e s m args below meth c A hc hr hlk hnm hro
  generalize hQ : MQ below _ args s 0 0 A = Q
  have hB0 := hB
  obtain ⟨bn, bLe, bSz, bRe, bSu, bMd, bNw, bTb, bPr, bOn, bTw, bNu, bNa, bNd, bLo⟩ := hB
  show V p l e (RM 3 65 0 0) s m args below meth c D A 7 0 0 Q (wR cI cZ g gL gS gW gT gO gP gU gA gE gQ ρ) 0 [(0, .ref g), (1, .int v)] []
  refine r_aload_n hc dX6_orbit_0 rfl 0 rfl ?_
  refine r_callI (As := []) (n := 0) (wr := []) hc (m_numberAll l D cI cZ cW g gL gS gW gT gO gP gU gA gE gQ ρ hcm F hNum hB0) co_yX6_numberAll in_X6 ml_X6_119 (by decide +kernel) rfl ⟨by decide, by decide⟩ ⟨by decide, by decide⟩ im_yX6_numberAll se_yX6_numberAll rfl (Or.inl ⟨0, _, rfl⟩) rfl (Nat.le_of_ble_eq_true rfl) [0, 1, 2, 3, 4, 5, 6, 7, 8, 9, 10] [] rfl rfl rfl rfl (by decide) (fun q hq => absurd hq List.not_mem_nil) dX6_orbit_1 (fun r τ e1 => ?_)
  show V p l e (RM 3 65 0 0) s m args below meth c D A 7 0 0 Q (wR cI cZ g gL gS gW gT gO gP gU gA gE gQ τ) 4 [(0, .ref g), (1, .int v)] [.int r]
  obtain ⟨rfl, hFt⟩ := e1
  show V p l e (RM 3 65 0 0) s m args below meth c D A 7 0 0 Q (wR cI cZ g gL gS gW gT gO gP gU gA gE gQ τ) 4 [(0, .ref g), (1, .int v)] [.int (zI true)]
  have hBt := hFB τ hFt
  obtain ⟨tn, tLe, tSz, tRe, tSu, tMd, tNw, tTb, tPr, tOn, tTw, tNu, tNa, tNd, tLo⟩ := id hBt
  refine z_if_eq hc 15 dX6_orbit_4 (by decide) (fun h2 => ?_) (fun h2 => ?_)
  · cases h2
  · refine r_aload_n hc dX6_orbit_7 rfl 0 rfl ?_
    refine r_iload_n hc dX6_orbit_8 rfl 1 rfl ?_
    refine r_callI (As := [.int v]) (n := 1) (wr := wR cI cZ g gL gS gW gT gO gP gU gA gE gQ τ) hc (m_isNumber l D cI cZ cW g gL gS gW gT gO gP gU gA gE gQ τ v hBt) co_yX6_isNumber in_X6 ml_X6_122 (by decide +kernel) rfl ⟨by decide, by decide⟩ ⟨by decide, by decide⟩ im_yX6_isNumber se_yX6_isNumber rfl (Or.inl ⟨0, _, rfl⟩) rfl (Nat.le_of_ble_eq_true rfl) [] [0, 1, 2, 3, 4, 5, 6, 7, 8, 9, 10] rfl rfl rfl rfl (by decide) (fun q hq => Or.inl ((List.getElem?_of_mem hq).elim fun k hk => ⟨k, hk, List.not_mem_nil⟩)) dX6_orbit_9 (fun r3 u4 e5 => ?_)
    subst e5
    refine z_if_ne hc 17 dX6_orbit_12 (by decide) (fun h6 => ?_) (fun h6 => ?_)
    · exact absurd ((hk τ hFt).symm.trans h6) (by decide)
    · refine r_iconst (v := (-1)) hc dX6_orbit_15 rfl ?_
      rw [← hQ]
      exact r_iret hc hr hlk τ ⟨rfl, hFt⟩ rfl dX6_orbit_16
