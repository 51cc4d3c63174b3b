def gCh (ρ : RS) (b : Bool) : RS := (rN ρ, rLe ρ, rSz ρ, rRe ρ, rSu ρ, rMd ρ, rNw ρ, rTb ρ, b, rPr ρ, rOn ρ, rTw ρ, rNu ρ, rNa ρ, rNd ρ, rSe ρ, rLo ρ)
def FollowOK (ρ : RS) (F : RS → Prop) : Prop := ∃ (M : RS → Prop) (μ : RS → Nat) (K : RS → Nat → Nat → RS → Prop) (S : RS → Nat → RS → Prop), (M (gCh ρ true)) ∧ (∀ τ, M τ → BR τ) ∧ (∀ τ, M τ → rCh τ = true → K τ 0 0 (gCh τ false)) ∧ (∀ τ k w β, K τ k w β → BR β ∧ ∀ i, rNw β i ≤ i) ∧ (∀ τ k w β, M τ → K τ k w β → k < rMd β → w < rRe β → rNw β k = k → AttOK β w k (fun u => K τ k (w + 1) u ∧ rMd u = rMd β)) ∧ (∀ τ k w β, M τ → K τ k w β → k < rMd β → w < rRe β → rNw β k ≠ k → K τ k (w + 1) β) ∧ (∀ τ k w β, M τ → K τ k w β → k < rMd β → rRe β ≤ w → K τ (k + 1) 0 β) ∧ (∀ τ k β, M τ → K τ k 0 β → rMd β ≤ k → S τ 0 β) ∧ (∀ τ w β, S τ w β → BR β ∧ ∀ i, rNw β i ≤ i) ∧ (∀ τ w β, M τ → S τ w β → w < rSu β → AttOK β (10 + w) 0 (fun u => S τ (w + 1) u)) ∧ (∀ τ w β, M τ → rCh τ = true → S τ w β → rSu β ≤ w → M β ∧ (rCh β = true → μ β < μ τ)) ∧ ∀ u, M u → rCh u = false → F u
set_option maxHeartbeats 4000000 in
set_option maxRecDepth 100000 in
/-- reference: follow() -/
theorem m_follow (l : Launch) (D : va_G) (cI cZ cW : ClassId) (g gL gS gW gT gO gP gU gA gE gQ : Nat) (ρ : RS) (M : RS → Prop) (μ : RS → Nat) (K : RS → Nat → Nat → RS → Prop) (S : RS → Nat → RS → Prop) (hM0 : M (gCh ρ true)) (hMB : ∀ τ, M τ → BR τ) (hK0 : ∀ τ, M τ → rCh τ = true → K τ 0 0 (gCh τ false)) (hKB : ∀ τ k w β, K τ k w β → BR β ∧ ∀ i, rNw β i ≤ i)
 (hKa : ∀ τ k w β, M τ → K τ k w β → k < rMd β → w < rRe β → rNw β k = k → AttOK β w k (fun u => K τ k (w + 1) u ∧ rMd u = rMd β)) (hKn : ∀ τ k w β, M τ → K τ k w β → k < rMd β → w < rRe β → rNw β k ≠ k → K τ k (w + 1) β)
 (hKc : ∀ τ k w β, M τ → K τ k w β → k < rMd β → rRe β ≤ w → K τ (k + 1) 0 β) (hKS : ∀ τ k β, M τ → K τ k 0 β → rMd β ≤ k → S τ 0 β) (hSB : ∀ τ w β, S τ w β → BR β ∧ ∀ i, rNw β i ≤ i)
 (hSa : ∀ τ w β, M τ → S τ w β → w < rSu β → AttOK β (10 + w) 0 (fun u => S τ (w + 1) u)) (hSe : ∀ τ w β, M τ → rCh τ = true → S τ w β → rSu β ≤ w → M β ∧ (rCh β = true → μ β < μ τ)) : CtV l yX6_follow cX6_follow 3 none 4 104 0 0 D cI cZ cW [.ref g] (wR cI cZ g gL gS gW gT gO gP gU gA gE gQ ρ) ([]) (S := RS) (fun u => M u ∧ rCh u = false) (fun u => wR cI cZ g gL gS gW gT gO gP gU gA gE gQ u) := by
  refine CtV.mk (by decide) (Nat.le_of_ble_eq_true rfl) ?_
  intro p e s m args below meth c A hc hr hlk hnm hro
  generalize hQ : MQ below _ args s 0 0 A = Q
  show V p l e (RM 4 104 0 0) s m args below meth c D A 3 0 0 Q (wR cI cZ g gL gS gW gT gO gP gU gA gE gQ ρ) 0 [(0, .ref g)] []
  refine r_aload_n hc dX6_follow_0 rfl 0 rfl ?_
  refine r_iconst (v := (nI 1)) hc dX6_follow_1 rfl ?_
  refine r_put (ws' := wY cI cZ g gL gS gW gT gO gP gU gA gE gQ (rN ρ) (rLe ρ) (rSz ρ) (rRe ρ) (rSu ρ) (rMd ρ) (rNw ρ) (rTb ρ) true (rPr ρ) (rOn ρ) (rTw ρ) (rNu ρ) (rNa ρ) (rNd ρ) (rSe ρ) (rLo ρ)) hc inlX6 tyX6 tyX6_ok nmX6 0 rfl rfl 8 (by decide) fl_X6_78 rfl rfl rfl rfl (Nat.le_of_ble_eq_true rfl) rfl dX6_follow_2 ?_
  show V p l e (RM 4 104 0 0) s m args below meth c D A 3 0 0 Q (wR cI cZ g gL gS gW gT gO gP gU gA gE gQ (gCh ρ true)) 5 [(0, .ref g)] []
  have lp5 : ∀ (n : Nat) (τ : RS), (if rCh τ = true then μ τ + 1 else 0) = n → (M τ) → V p l e (RM 4 104 0 0) s m args below meth c D A 3 0 0 Q (wR cI cZ g gL gS gW gT gO gP gU gA gE gQ τ) 5 [(0, .ref g)] [] := by
    intro n
    induction n using Nat.strongRecOn with
    | _ n ih5 =>
    intro τ hm5 hMt
    have hBt := hMB τ hMt
    refine r_aload_n hc dX6_follow_5 rfl 0 rfl ?_
    refine r_get hc inlX6 0 rfl rfl 8 (by decide) fl_X6_78 rfl rfl dX6_follow_6 ?_
    refine z_if_eq hc 93 dX6_follow_9 (by decide) (fun h1 => ?_) (fun h1 => ?_)
    · rw [← hQ]
      exact r_vret hc hr hlk τ ⟨hMt, h1⟩ rfl dX6_follow_93
    · have hch : rCh τ = true := h1
      refine r_aload_n hc dX6_follow_12 rfl 0 rfl ?_
      refine r_iconst (v := (nI 0)) hc dX6_follow_13 rfl ?_
      refine r_put (ws' := wY cI cZ g gL gS gW gT gO gP gU gA gE gQ (rN τ) (rLe τ) (rSz τ) (rRe τ) (rSu τ) (rMd τ) (rNw τ) (rTb τ) false (rPr τ) (rOn τ) (rTw τ) (rNu τ) (rNa τ) (rNd τ) (rSe τ) (rLo τ)) hc inlX6 tyX6 tyX6_ok nmX6 0 rfl rfl 8 (by decide) fl_X6_78 rfl rfl rfl rfl (Nat.le_of_ble_eq_true rfl) rfl dX6_follow_14 ?_
      refine r_iconst (v := (nI 0)) hc dX6_follow_17 rfl ?_
      refine r_istore_n (lv' := [(1, .int (nI 0)), (0, .ref g)]) hc dX6_follow_18 rfl (by decide) rfl ?_
      show V p l e (RM 4 104 0 0) s m args below meth c D A 3 0 0 Q (wR cI cZ g gL gS gW gT gO gP gU gA gE gQ (gCh τ false)) 19 [(1, .int (nI 0)), (0, .ref g)] []
      have lp19 : ∀ (n : Nat) (β : RS) (k : Nat), 200 - k = n → (K τ k 0 β) → (k ≤ 200) → V p l e (RM 4 104 0 0) s m args below meth c D A 3 0 0 Q (wR cI cZ g gL gS gW gT gO gP gU gA gE gQ β) 19 [(1, .int (nI k)), (0, .ref g)] [] := by
        intro n
        induction n using Nat.strongRecOn with
        | _ n ih19 =>
        intro β k hm19 hKk hkb
        obtain ⟨hBb, hnb⟩ := hKB _ _ _ _ hKk
        have cMd := hBb.2.2.2.2.2.1
        refine r_iload_n hc dX6_follow_19 rfl 0 rfl ?_
        refine r_aload_n hc dX6_follow_20 rfl 1 rfl ?_
        refine r_get hc inlX6 0 rfl rfl 5 (by decide) fl_X6_45 rfl rfl dX6_follow_21 ?_
        refine n_icmp_ge hc 65 dX6_follow_24 (by decide) (by omega) (by omega) (fun h2 => ?_) (fun h2 => ?_)
        · refine r_iconst (v := (nI 0)) hc dX6_follow_65 rfl ?_
          refine r_istore_n (lv' := [(1, .int (nI 0)), (0, .ref g)]) hc dX6_follow_66 rfl (by decide) rfl ?_
          have lp67 : ∀ (n : Nat) (β : RS) (v0 : Nat), 5 - v0 = n → (S τ v0 β) → (v0 ≤ 5) → V p l e (RM 4 104 0 0) s m args below meth c D A 3 0 0 Q (wR cI cZ g gL gS gW gT gO gP gU gA gE gQ β) 67 [(1, .int (nI v0)), (0, .ref g)] [] := by
            intro n
            induction n using Nat.strongRecOn with
            | _ n ih67 =>
            intro β v0 hm67 hSv hvb
            obtain ⟨hBb, hnb⟩ := hSB _ _ _ hSv
            have cSu := hBb.2.2.2.2.1
            refine r_iload_n hc dX6_follow_67 rfl 0 rfl ?_
            refine r_aload_n hc dX6_follow_68 rfl 1 rfl ?_
            refine r_get hc inlX6 0 rfl rfl 4 (by decide) fl_X6_55 rfl rfl dX6_follow_69 ?_
            refine n_icmp_ge hc 90 dX6_follow_72 (by decide) (by omega) (by omega) (fun h3 => ?_) (fun h3 => ?_)
            · have hN := hSe τ v0 β hMt hch hSv h3
              refine r_goto hc 5 dX6_follow_90 (by decide) ?_
              refine r_lv [1] rfl ?_
              exact ih5 _ (by rw [← hm5, if_pos hch]; exact if q : rCh β = true then (by rw [if_pos q]; have := hN.2 q; omega) else (by rw [if_neg q]; omega)) β rfl hN.1
            · refine r_aload_n hc dX6_follow_75 rfl 1 rfl ?_
              refine r_bipush (v := (nI 10)) hc dX6_follow_76 rfl ?_
              refine r_iload_n hc dX6_follow_78 rfl 0 rfl ?_
              refine n_add hc dX6_follow_79 ?_
              refine r_iconst (v := (nI 0)) hc dX6_follow_80 rfl ?_
              refine r_callV (As := [.int (nI (10 + v0)), .int (nI 0)]) (n := 2) (wr := []) hc (m_attempt l D cI cZ cW g gL gS gW gT gO gP gU gA gE gQ β (10 + v0) 0 (by omega) (by decide) hnb (fun u => S τ (v0 + 1) u) (hSa τ v0 β hMt hSv h3) hBb) co_yX6_attempt in_X6 ml_X6_93 (by decide +kernel) rfl ⟨by decide, by decide⟩ ⟨by decide, by decide⟩ im_yX6_attempt se_yX6_attempt rfl (Or.inl ⟨0, _, rfl⟩) rfl (Nat.le_of_ble_eq_true rfl) [0, 1, 2, 3, 4, 5, 6, 7, 8, 9, 10] [] rfl rfl rfl rfl (by decide) (fun q hq => absurd hq List.not_mem_nil) dX6_follow_81 (fun u e4 => ?_)
              show V p l e (RM 4 104 0 0) s m args below meth c D A 3 0 0 Q (wR cI cZ g gL gS gW gT gO gP gU gA gE gQ u) 84 [(1, .int (nI v0)), (0, .ref g)] []
              refine r_iinc (k := 0) (v := (nI (v0 + 1))) (lv' := [(1, .int (nI (v0 + 1))), (0, .ref g)]) hc dX6_follow_84 rfl (nI_add _ _) (by decide) rfl ?_
              refine r_goto hc 67 dX6_follow_87 (by decide) ?_
              refine r_lv [0, 1] rfl ?_
              exact ih67 _ (by omega) u (v0 + 1) rfl e4 (by omega)
          refine r_lv [0, 1] rfl ?_
          exact lp67 _ β 0 rfl (hKS τ k β hMt hKk h2) (by decide)
        · refine r_iconst (v := (nI 0)) hc dX6_follow_27 rfl ?_
          refine r_istore_n (lv' := [(2, .int (nI 0)), (1, .int (nI k)), (0, .ref g)]) hc dX6_follow_28 rfl (by decide) rfl ?_
          have lp29 : ∀ (n : Nat) (β : RS) (w0 : Nat), 10 - w0 = n → (K τ k w0 β) → (k < rMd β) → (w0 ≤ 10) → V p l e (RM 4 104 0 0) s m args below meth c D A 3 0 0 Q (wR cI cZ g gL gS gW gT gO gP gU gA gE gQ β) 29 [(2, .int (nI w0)), (1, .int (nI k)), (0, .ref g)] [] := by
            intro n
            induction n using Nat.strongRecOn with
            | _ n ih29 =>
            intro β w0 hm29 hKw hkm hwb
            obtain ⟨hBb, hnb⟩ := hKB _ _ _ _ hKw
            obtain ⟨cn, cLe, cSz, cRe, cSu, cMd, cNw, cRest⟩ := id hBb
            refine r_iload_n hc dX6_follow_29 rfl 0 rfl ?_
            refine r_aload_n hc dX6_follow_30 rfl 2 rfl ?_
            refine r_get hc inlX6 0 rfl rfl 3 (by decide) fl_X6_52 rfl rfl dX6_follow_31 ?_
            refine n_icmp_ge hc 59 dX6_follow_34 (by decide) (by omega) (by omega) (fun h5 => ?_) (fun h5 => ?_)
            · have hKx := hKc τ k w0 β hMt hKw hkm h5
              refine r_iinc (k := 1) (v := (nI (k + 1))) (lv' := [(1, .int (nI (k + 1))), (2, .int (nI w0)), (0, .ref g)]) hc dX6_follow_59 rfl (nI_add _ _) (by decide) rfl ?_
              refine r_goto hc 19 dX6_follow_62 (by decide) ?_
              refine r_lv [0, 2] rfl ?_
              exact ih19 _ (by omega) β (k + 1) rfl hKx (by omega)
            · refine r_aload_n hc dX6_follow_37 rfl 2 rfl ?_
              refine r_get hc inlX6 0 rfl rfl 6 (by decide) fl_X6_16 rfl rfl dX6_follow_38 ?_
              refine r_iload_n hc dX6_follow_41 rfl 1 rfl ?_
              have b6 := cNw k
              refine r_iald hc nI 3 rfl (by omega) (by decide) dX6_follow_42 ?_
              refine r_iload_n hc dX6_follow_43 rfl 1 rfl ?_
              refine n_icmp_ne hc 53 dX6_follow_44 (by decide) (by omega) (by omega) (fun h7 => ?_) (fun h7 => ?_)
              · refine r_iinc (k := 0) (v := (nI (w0 + 1))) (lv' := [(2, .int (nI (w0 + 1))), (1, .int (nI k)), (0, .ref g)]) hc dX6_follow_53 rfl (nI_add _ _) (by decide) rfl ?_
                refine r_goto hc 29 dX6_follow_56 (by decide) ?_
                refine r_lv [0, 1, 2] rfl ?_
                exact ih29 _ (by omega) β (w0 + 1) rfl (hKn τ k w0 β hMt hKw hkm h5 h7) hkm (by omega)
              · refine r_aload_n hc dX6_follow_47 rfl 2 rfl ?_
                refine r_iload_n hc dX6_follow_48 rfl 0 rfl ?_
                refine r_iload_n hc dX6_follow_49 rfl 1 rfl ?_
                refine r_callV (As := [.int (nI w0), .int (nI k)]) (n := 2) (wr := []) hc (m_attempt l D cI cZ cW g gL gS gW gT gO gP gU gA gE gQ β w0 k (by omega) (by omega) hnb (fun u => K τ k (w0 + 1) u ∧ rMd u = rMd β) (hKa τ k w0 β hMt hKw hkm h5 h7) hBb) co_yX6_attempt in_X6 ml_X6_93 (by decide +kernel) rfl ⟨by decide, by decide⟩ ⟨by decide, by decide⟩ im_yX6_attempt se_yX6_attempt rfl (Or.inl ⟨0, _, rfl⟩) rfl (Nat.le_of_ble_eq_true rfl) [0, 1, 2, 3, 4, 5, 6, 7, 8, 9, 10] [] rfl rfl rfl rfl (by decide) (fun q hq => absurd hq List.not_mem_nil) dX6_follow_50 (fun u e8 => ?_)
                show V p l e (RM 4 104 0 0) s m args below meth c D A 3 0 0 Q (wR cI cZ g gL gS gW gT gO gP gU gA gE gQ u) 53 [(2, .int (nI w0)), (1, .int (nI k)), (0, .ref g)] []
                refine r_iinc (k := 0) (v := (nI (w0 + 1))) (lv' := [(2, .int (nI (w0 + 1))), (1, .int (nI k)), (0, .ref g)]) hc dX6_follow_53 rfl (nI_add _ _) (by decide) rfl ?_
                refine r_goto hc 29 dX6_follow_56 (by decide) ?_
                refine r_lv [0, 1, 2] rfl ?_
                exact ih29 _ (by omega) u (w0 + 1) rfl e8.1 (by rw [e8.2]; exact hkm) (by omega)
          refine r_lv [0, 1, 2] rfl ?_
          exact lp29 _ β 0 rfl hKk h2 (by decide)
      refine r_lv [0, 1] rfl ?_
      exact lp19 _ (gCh τ false) 0 rfl (hK0 τ hMt hch) (by decide)
  refine r_lv [0] rfl ?_
  exact lp5 _ (gCh ρ true) rfl hM0
def gNew (ρ : RS) : RS := (rN ρ, rLe ρ, rSz ρ, rRe ρ, rSu ρ, rMd ρ + 1, va_up (rNw ρ) (rMd ρ) (rMd ρ), rTb ρ, rCh ρ, rPr ρ, rOn ρ, rTw ρ, rNu ρ, rNa ρ, rNd ρ, rSe ρ, rLo ρ)
set_option maxHeartbeats 4000000 in
set_option maxRecDepth 100000 in
/-- reference: run(L) -/
theorem m_run (l : Launch) (D : va_G) (cI cZ cW : ClassId) (g gL gS gW gT gO gP gU gA gE gQ : Nat) (ρ : RS) (L : Nat) (hL1 : 1 ≤ L) (hL2 : L ≤ 200) (P : RS → Prop) (hF0 : FollowOK ρ P) (hPB : ∀ τ, P τ → BR τ ∧ ∀ i, rNw τ i ≤ i)
 (hPS : ∀ τ i, P τ → OpenR τ (some i) → rMd τ < L → i < 1200 ∧ LrnPre (gNew τ) ∧ FollowOK (gLearn (gNew τ) (i / 6) (i % 6) (rMd τ)) (fun u => P u ∧ rMd u = rMd τ + 1)) : CtI l yX6_run cX6_run 3 (some .int) 5 126 0 0 D cI cZ cW [.ref g, .int (nI L)] (wR cI cZ g gL gS gW gT gO gP gU gA gE gQ ρ) ([]) (S := RS) (fun r u => r = nI (rMd u) ∧ P u ∧ ∃ o, OpenR u o ∧ (o = none ∨ L ≤ rMd u)) (fun u => wR cI cZ g gL gS gW gT gO gP gU gA gE gQ u) := by
  refine CtI.mk (by decide) (Nat.le_of_ble_eq_true rfl) ?_
  intro p e s m args below meth c A hc hr hlk hnm hro
  generalize hQ : MQ below _ args s 0 0 A = Q
  show V p l e (RM 5 126 0 0) s m args below meth c D A 3 0 0 Q (wR cI cZ g gL gS gW gT gO gP gU gA gE gQ ρ) 0 [(0, .ref g), (1, .int (nI L))] []
  refine r_iload_n hc dX6_run_0 rfl 1 rfl ?_
  refine r_iconst (v := (nI 1)) hc dX6_run_1 rfl ?_
  refine n_icmp_lt hc 12 dX6_run_2 (by decide) (by omega) (by omega) (fun h1 => ?_) (fun h1 => ?_)
  · exact absurd h1 (by omega)
  · refine r_iload_n hc dX6_run_5 rfl 1 rfl ?_
    refine r_sipush (v := (nI 200)) hc dX6_run_6 rfl ?_
    refine n_icmp_le hc 14 dX6_run_9 (by decide) (by omega) (by omega) (fun h2 => ?_) (fun h2 => ?_)
    · refine r_aload_n hc dX6_run_14 rfl 0 rfl ?_
      obtain ⟨M, μ, K, S, qhM0, qhMB, qhK0, qhKB, qhKa, qhKn, qhKc, qhKS, qhSB, qhSa, qhSe, hF⟩ := hF0
      refine r_callV (As := []) (n := 0) (wr := []) hc (m_follow l D cI cZ cW g gL gS gW gT gO gP gU gA gE gQ ρ M μ K S qhM0 qhMB qhK0 qhKB qhKa qhKn qhKc qhKS qhSB qhSa qhSe) co_yX6_follow in_X6 ml_X6_96 (by decide +kernel) rfl ⟨by decide, by decide⟩ ⟨by decide, by decide⟩ im_yX6_follow se_yX6_follow rfl (Or.inl ⟨0, _, rfl⟩) rfl (Nat.le_of_ble_eq_true rfl) [0, 1, 2, 3, 4, 5, 6, 7, 8, 9, 10] [] rfl rfl rfl rfl (by decide) (fun q hq => absurd hq List.not_mem_nil) dX6_run_15 (fun u0 e3 => ?_)
      show V p l e (RM 5 126 0 0) s m args below meth c D A 3 0 0 Q (wR cI cZ g gL gS gW gT gO gP gU gA gE gQ u0) 18 [(0, .ref g), (1, .int (nI L))] []
      have hPu0 := hF u0 e3.1 e3.2
      refine r_aload_n hc dX6_run_18 rfl 0 rfl ?_
      refine r_callI (As := []) (n := 0) (wr := wR cI cZ g gL gS gW gT gO gP gU gA gE gQ u0) hc (m_open l D cI cZ cW g gL gS gW gT gO gP gU gA gE gQ u0 (hPB u0 hPu0).1) co_yX6_open in_X6 ml_X6_99 (by decide +kernel) rfl ⟨by decide, by decide⟩ ⟨by decide, by decide⟩ im_yX6_open se_yX6_open rfl (Or.inl ⟨0, _, rfl⟩) rfl (Nat.le_of_ble_eq_true rfl) [] [0, 1, 2, 3, 4, 5, 6, 7, 8, 9, 10] rfl rfl rfl rfl (by decide) (fun q hq => Or.inl ((List.getElem?_of_mem hq).elim fun k hk => ⟨k, hk, List.not_mem_nil⟩)) dX6_run_19 (fun r0 v0 e0 => ?_)
      obtain ⟨oo, rfl, hOo⟩ := e0
      show V p l e (RM 5 126 0 0) s m args below meth c D A 3 0 0 Q (wR cI cZ g gL gS gW gT gO gP gU gA gE gQ u0) 22 [(0, .ref g), (1, .int (nI L))] [.int (eI oo)]
      refine r_istore_n (lv' := [(2, .int (eI oo)), (0, .ref g), (1, .int (nI L))]) hc dX6_run_22 rfl (by decide) rfl ?_
      have lp23 : ∀ (n : Nat) (τ : RS) (o1 : Option Nat), 200 - rMd τ = n → (P τ) → (OpenR τ o1) → V p l e (RM 5 126 0 0) s m args below meth c D A 3 0 0 Q (wR cI cZ g gL gS gW gT gO gP gU gA gE gQ τ) 23 [(2, .int (eI o1)), (0, .ref g), (1, .int (nI L))] [] := by
        intro n
        induction n using Nat.strongRecOn with
        | _ n ih23 =>
        intro τ o1 hm23 hPt hOt
        obtain ⟨hBt, hnt⟩ := hPB τ hPt
        have tMd := hBt.2.2.2.2.2.1
        have hob : ∀ d, o1 = some d → d < 2 ^ 31 := by
          intro d q; rw [q] at hOt
          obtain ⟨c1, x1, e1, e2, e3, -⟩ := hOt
          have := hBt.1; omega
        refine r_iload_n hc dX6_run_23 rfl 0 rfl ?_
        refine e_if_lt hc 88 dX6_run_24 (by decide) hob (fun h6 => ?_) (fun d7 h6 => ?_)
        · refine r_aload_n hc dX6_run_88 rfl 1 rfl ?_
          refine r_get hc inlX6 0 rfl rfl 5 (by decide) fl_X6_45 rfl rfl dX6_run_89 ?_
          rw [← hQ]
          exact r_iret hc hr hlk τ ⟨rfl, hPt, o1, hOt, Or.inl h6⟩ rfl dX6_run_92
        · rw [h6]
          show V _ _ _ _ _ _ _ _ _ _ _ _ _ _ _ _ _ _ [(2, .int (nI d7)), (0, .ref g), (1, .int (nI L))] []
          subst h6
          refine r_aload_n hc dX6_run_27 rfl 1 rfl ?_
          refine r_get hc inlX6 0 rfl rfl 5 (by decide) fl_X6_45 rfl rfl dX6_run_28 ?_
          refine r_iload_n hc dX6_run_31 rfl 2 rfl ?_
          refine n_icmp_ge hc 88 dX6_run_32 (by decide) (by omega) (by omega) (fun h8 => ?_) (fun h8 => ?_)
          · refine r_aload_n hc dX6_run_88 rfl 1 rfl ?_
            refine r_get hc inlX6 0 rfl rfl 5 (by decide) fl_X6_45 rfl rfl dX6_run_89 ?_
            rw [← hQ]
            exact r_iret hc hr hlk τ ⟨rfl, hPt, _, hOt, Or.inr h8⟩ rfl dX6_run_92
          · obtain ⟨hi12, hLp, hFk⟩ := hPS τ d7 hPt hOt h8
            refine r_aload_n hc dX6_run_35 rfl 1 rfl ?_
            refine r_get hc inlX6 0 rfl rfl 6 (by decide) fl_X6_16 rfl rfl dX6_run_36 ?_
            refine r_aload_n hc dX6_run_39 rfl 1 rfl ?_
            refine r_get hc inlX6 0 rfl rfl 5 (by decide) fl_X6_45 rfl rfl dX6_run_40 ?_
            refine r_aload_n hc dX6_run_43 rfl 1 rfl ?_
            refine r_get hc inlX6 0 rfl rfl 5 (by decide) fl_X6_45 rfl rfl dX6_run_44 ?_
            refine r_iast (ws' := wY cI cZ g gL gS gW gT gO gP gU gA gE gQ (rN τ) (rLe τ) (rSz τ) (rRe τ) (rSu τ) (rMd τ) (va_up (rNw τ) (rMd τ) (rMd τ)) (rTb τ) (rCh τ) (rPr τ) (rOn τ) (rTw τ) (rNu τ) (rNa τ) (rNd τ) (rSe τ) (rLo τ)) hc nI (rMd τ) 3 rfl (by omega) (by decide) rfl dX6_run_47 ?_
            refine r_aload_n hc dX6_run_48 rfl 1 rfl ?_
            refine r_dup hc dX6_run_49 rfl ?_
            refine r_get hc inlX6 0 rfl rfl 5 (by decide) fl_X6_45 rfl rfl dX6_run_50 ?_
            refine r_iconst (v := (nI 1)) hc dX6_run_53 rfl ?_
            refine n_add hc dX6_run_54 ?_
            refine r_put (ws' := wY cI cZ g gL gS gW gT gO gP gU gA gE gQ (rN τ) (rLe τ) (rSz τ) (rRe τ) (rSu τ) ((rMd τ) + 1) (va_up (rNw τ) (rMd τ) (rMd τ)) (rTb τ) (rCh τ) (rPr τ) (rOn τ) (rTw τ) (rNu τ) (rNa τ) (rNd τ) (rSe τ) (rLo τ)) hc inlX6 tyX6 tyX6_ok nmX6 0 rfl rfl 5 (by decide) fl_X6_45 rfl rfl rfl rfl (Nat.le_of_ble_eq_true rfl) rfl dX6_run_55 ?_
            refine r_aload_n hc dX6_run_58 rfl 1 rfl ?_
            refine r_iload_n hc dX6_run_59 rfl 0 rfl ?_
            refine r_bipush (v := (nI 6)) hc dX6_run_60 rfl ?_
            refine n_div hc dX6_run_62 (by omega) (by decide) (by decide) ?_
            refine r_iload_n hc dX6_run_63 rfl 0 rfl ?_
            refine r_bipush (v := (nI 6)) hc dX6_run_64 rfl ?_
            refine n_rem hc dX6_run_66 (by omega) (by decide) (by decide) ?_
            refine r_aload_n hc dX6_run_67 rfl 1 rfl ?_
            refine r_get hc inlX6 0 rfl rfl 5 (by decide) fl_X6_45 rfl rfl dX6_run_68 ?_
            refine r_iconst (v := (nI 1)) hc dX6_run_71 rfl ?_
            refine n_sub hc dX6_run_72 (by omega) ?_
            rw [Nat.add_sub_cancel]
            show V p l e (RM 5 126 0 0) s m args below meth c D A 3 0 0 Q (wR cI cZ g gL gS gW gT gO gP gU gA gE gQ (gNew τ)) 73 [(2, .int (nI d7)), (0, .ref g), (1, .int (nI L))] [.int (nI (rMd τ)), .int (nI (d7 % 6)), .int (nI (d7 / 6)), .ref g]
            refine r_callV (As := [.int (nI (d7 / 6)), .int (nI (d7 % 6)), .int (nI (rMd τ))]) (n := 3) (wr := []) hc (m_learn l D cI cZ cW g gL gS gW gT gO gP gU gA gE gQ (gNew τ) (d7 / 6) (d7 % 6) (rMd τ) (by omega) (by omega) (by omega) hLp.2.1 hLp.2.2 hLp.1) co_yX6_learn in_X6 ml_X6_86 (by decide +kernel) rfl ⟨by decide, by decide⟩ ⟨by decide, by decide⟩ im_yX6_learn se_yX6_learn rfl (Or.inl ⟨0, _, rfl⟩) rfl (Nat.le_of_ble_eq_true rfl) [0, 1, 2, 3, 4, 5, 6, 7, 8, 9, 10] [] rfl rfl rfl rfl (by decide) (fun q hq => absurd hq List.not_mem_nil) dX6_run_73 (fun u9 e9 => ?_)
            show V p l e (RM 5 126 0 0) s m args below meth c D A 3 0 0 Q (wR cI cZ g gL gS gW gT gO gP gU gA gE gQ u9) 76 [(2, .int (nI d7)), (0, .ref g), (1, .int (nI L))] []
            subst e9
            refine r_aload_n hc dX6_run_76 rfl 1 rfl ?_
            obtain ⟨M, μ, K, S, qhM0, qhMB, qhK0, qhKB, qhKa, qhKn, qhKc, qhKS, qhSB, qhSa, qhSe, hF⟩ := hFk
            refine r_callV (As := []) (n := 0) (wr := []) hc (m_follow l D cI cZ cW g gL gS gW gT gO gP gU gA gE gQ (gLearn (gNew τ) (d7 / 6) (d7 % 6) (rMd τ)) M μ K S qhM0 qhMB qhK0 qhKB qhKa qhKn qhKc qhKS qhSB qhSa qhSe) co_yX6_follow in_X6 ml_X6_96 (by decide +kernel) rfl ⟨by decide, by decide⟩ ⟨by decide, by decide⟩ im_yX6_follow se_yX6_follow rfl (Or.inl ⟨0, _, rfl⟩) rfl (Nat.le_of_ble_eq_true rfl) [0, 1, 2, 3, 4, 5, 6, 7, 8, 9, 10] [] rfl rfl rfl rfl (by decide) (fun q hq => absurd hq List.not_mem_nil) dX6_run_77 (fun u1 e10 => ?_)
            show V p l e (RM 5 126 0 0) s m args below meth c D A 3 0 0 Q (wR cI cZ g gL gS gW gT gO gP gU gA gE gQ u1) 80 [(2, .int (nI d7)), (0, .ref g), (1, .int (nI L))] []
            have hPu1 := hF u1 e10.1 e10.2
            refine r_aload_n hc dX6_run_80 rfl 1 rfl ?_
            refine r_callI (As := []) (n := 0) (wr := wR cI cZ g gL gS gW gT gO gP gU gA gE gQ u1) hc (m_open l D cI cZ cW g gL gS gW gT gO gP gU gA gE gQ u1 (hPB u1 hPu1.1).1) co_yX6_open in_X6 ml_X6_99 (by decide +kernel) rfl ⟨by decide, by decide⟩ ⟨by decide, by decide⟩ im_yX6_open se_yX6_open rfl (Or.inl ⟨0, _, rfl⟩) rfl (Nat.le_of_ble_eq_true rfl) [] [0, 1, 2, 3, 4, 5, 6, 7, 8, 9, 10] rfl rfl rfl rfl (by decide) (fun q hq => Or.inl ((List.getElem?_of_mem hq).elim fun k hk => ⟨k, hk, List.not_mem_nil⟩)) dX6_run_81 (fun r0 v0 e0 => ?_)
            obtain ⟨oo, rfl, hOo⟩ := e0
            show V p l e (RM 5 126 0 0) s m args below meth c D A 3 0 0 Q (wR cI cZ g gL gS gW gT gO gP gU gA gE gQ u1) 84 [(2, .int (nI d7)), (0, .ref g), (1, .int (nI L))] [.int (eI oo)]
            refine r_istore_n (lv' := [(2, .int (eI oo)), (0, .ref g), (1, .int (nI L))]) hc dX6_run_84 rfl (by decide) rfl ?_
            refine r_goto hc 23 dX6_run_85 (by decide) ?_
            refine r_lv [0, 1, 2] rfl ?_
            exact ih23 _ (by have := hPu1.2; omega) u1 oo rfl hPu1.1 hOo
      refine r_lv [0, 1, 2] rfl ?_
      exact lp23 _ u0 oo rfl hPu0 hOo
    · exact absurd h2 (by omega)
