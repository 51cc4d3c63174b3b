set_option maxHeartbeats 4000000 in
set_option maxRecDepth 100000 in
/-- lowestJoined(c0) -/
theorem c_lowestJoined (l : Launch) (D : va_G) (cI cZ cW : ClassId) (ha h hs1 aU aN aT aG : Nat) (α : AS) (aE aL aF aR aS : Nat) (σ : CS) (as : Nat) (swa sca : Nat → Nat) (scol : Nat → Nat → Nat) (slen : Nat → Nat) (ns : Nat) (c0 : Nat) (hc0 : c0 < tZ α) (hsl : ∀ i, i < ns → 1 ≤ slen i ∧ slen i ≤ 24 ∧ ∀ j, scol i j < 6) (hns : ns ≤ 5) (fs : Nat → Nat → Nat) (hfs : ∀ i, i < ns → ImF (sE σ) (tU α) (tN α) (tZ α) (scol i) (slen i) (fs i)) (hB : BA α) : CtI l yX0_lowestJoined cX0_lowestJoined 7 (some .int) 2 46 0 0 D cI cZ cW [.ref ha, .int (nI c0)] (wA cI cZ ha h hs1 aU aN aT aG α) (wS cI cZ h aE aL aF aR aS σ ++ wL cI cW hs1 as 5 swa sca scol slen ns) (S := AS) (fun r u => (∃ low, r = nI low ∧ LowR fs (tZ α) ns c0 low) ∧ ∃ se re, u = (tU α, tN α, se, re, tZ α) ∧ ∀ j, re j < 200) (fun u => wA cI cZ ha h hs1 aU aN aT aG u) := by
  refine CtI.mk (by decide) (Nat.le_of_ble_eq_true rfl) ?_
  intro p e s m args below meth c A hc hr hlk hnm hro
  generalize hQ : MQ below _ args s 0 0 A = Q
  have hB0 := hB
  obtain ⟨bZ, bN, bU, bG⟩ := hB
  show V p l e (RM 2 46 0 0) s m args below meth c D A 7 0 0 Q (wA cI cZ ha h hs1 aU aN aT aG α) 0 [(0, .ref ha), (1, .int (nI c0))] []
  refine r_aload_n hc dX0_lowestJoined_0 rfl 0 rfl ?_
  refine r_callV (As := []) (n := 0) (wr := []) hc (c_forgetSeen l D cI cZ cW ha h hs1 aU aN aT aG α hB0) co_yX0_forgetSeen in_X0 ml_X0_63 (by decide +kernel) rfl ⟨by decide, by decide⟩ ⟨by decide, by decide⟩ im_yX0_forgetSeen se_yX0_forgetSeen rfl (Or.inl ⟨0, _, rfl⟩) rfl (Nat.le_of_ble_eq_true rfl) [0, 1, 2, 3, 4] [] rfl rfl rfl rfl (by decide) (fun q hq => absurd hq List.not_mem_nil) dX0_lowestJoined_1 (fun u e1 => ?_)
  show V p l e (RM 2 46 0 0) s m args below meth c D A 7 0 0 Q (wA cI cZ ha h hs1 aU aN aT aG u) 4 [(0, .ref ha), (1, .int (nI c0))] []
  subst e1
  show V p l e (RM 2 46 0 0) s m args below meth c D A 7 0 0 Q (wB cI cZ ha h hs1 aU aN aT aG (tU α) (tN α) (frgI (tS α) (tZ α)) (tR α) (tZ α)) 4 [(0, .ref ha), (1, .int (nI c0))] []
  refine r_aload_n hc dX0_lowestJoined_4 rfl 0 rfl ?_
  refine r_get hc inlX0 0 rfl rfl 4 (by decide) fl_X0_18 rfl rfl dX0_lowestJoined_5 ?_
  refine r_iload_n hc dX0_lowestJoined_8 rfl 1 rfl ?_
  refine r_iconst (v := (nI 1)) hc dX0_lowestJoined_9 rfl ?_
  refine r_zast (ws' := wB cI cZ ha h hs1 aU aN aT aG (tU α) (tN α) (va_up (frgI (tS α) (tZ α)) c0 true) (tR α) (tZ α)) hc true 3 rfl (by omega) (by decide) rfl dX0_lowestJoined_10 ?_
  refine r_aload_n hc dX0_lowestJoined_11 rfl 0 rfl ?_
  refine r_get hc inlX0 0 rfl rfl 5 (by decide) fl_X0_22 rfl rfl dX0_lowestJoined_12 ?_
  refine r_iconst (v := (nI 0)) hc dX0_lowestJoined_15 rfl ?_
  refine r_iload_n hc dX0_lowestJoined_16 rfl 1 rfl ?_
  refine r_iast (ws' := wB cI cZ ha h hs1 aU aN aT aG (tU α) (tN α) (va_up (frgI (tS α) (tZ α)) c0 true) (va_up (tR α) 0 c0) (tZ α)) hc nI c0 4 rfl (by omega) (by decide) rfl dX0_lowestJoined_17 ?_
  refine r_iconst (v := (nI 1)) hc dX0_lowestJoined_18 rfl ?_
  refine r_istore_n (lv' := [(2, .int (nI 1)), (0, .ref ha), (1, .int (nI c0))]) hc dX0_lowestJoined_19 rfl (by decide) rfl ?_
  refine r_iload_n hc dX0_lowestJoined_20 rfl 2 rfl ?_
  refine r_istore_n (lv' := [(3, .int (nI c0)), (2, .int (nI 1)), (0, .ref ha), (1, .int (nI c0))]) hc dX0_lowestJoined_21 rfl (by decide) rfl ?_
  refine r_iconst (v := (nI 0)) hc dX0_lowestJoined_22 rfl ?_
  refine r_istore (lv' := [(4, .int (nI 0)), (3, .int (nI c0)), (2, .int (nI 1)), (0, .ref ha), (1, .int (nI c0))]) hc dX0_lowestJoined_23 (by decide) rfl ?_
  have lp25 : ∀ (n : Nat) (se : Nat → Bool) (re : Nat → Nat) (cnt low k : Nat), tZ α - k = n → (LJ fs (tZ α) ns c0 se re cnt low k 0) → (k ≤ tZ α) → V p l e (RM 2 46 0 0) s m args below meth c D A 7 0 0 Q (wB cI cZ ha h hs1 aU aN aT aG (tU α) (tN α) se re (tZ α)) 25 [(4, .int (nI k)), (3, .int (nI low)), (2, .int (nI cnt)), (0, .ref ha), (1, .int (nI c0))] [] := by
    intro n
    induction n using Nat.strongRecOn with
    | _ n ih25 =>
    intro se re cnt low k hm25 hL hkz
    have hcnt : cnt ≤ tZ α := by rw [← hL.1]; exact cntT_le _ _
    have hlow := hL.2.2.2.2.1
    refine r_iload hc dX0_lowestJoined_25 0 rfl ?_
    refine r_iload_n hc dX0_lowestJoined_27 rfl 2 rfl ?_
    refine n_icmp_ge hc 126 dX0_lowestJoined_28 (by decide) (by omega) (by omega) (fun h2 => ?_) (fun h2 => ?_)
    · refine r_iload_n hc dX0_lowestJoined_126 rfl 1 rfl ?_
      rw [← hQ]
      exact r_iret hc hr hlk (tU α, tN α, se, re, tZ α) ⟨⟨low, rfl, LJ_end hL (by omega)⟩, ⟨se, re, rfl, hL.2.2.2.2.2.2.2.2.2.2⟩⟩ rfl dX0_lowestJoined_127
    · refine r_iload hc dX0_lowestJoined_31 0 rfl ?_
      refine r_aload_n hc dX0_lowestJoined_33 rfl 3 rfl ?_
      refine r_get hc inlX0 0 rfl rfl 6 (by decide) fl_X0_33 rfl rfl dX0_lowestJoined_34 ?_
      refine n_icmp_ge hc 126 dX0_lowestJoined_37 (by decide) (by omega) (by omega) (fun h3 => ?_) (fun h3 => ?_)
      · refine r_iload_n hc dX0_lowestJoined_126 rfl 1 rfl ?_
        rw [← hQ]
        exact r_iret hc hr hlk (tU α, tN α, se, re, tZ α) ⟨⟨low, rfl, LJ_end hL (by omega)⟩, ⟨se, re, rfl, hL.2.2.2.2.2.2.2.2.2.2⟩⟩ rfl dX0_lowestJoined_127
      · refine r_iconst (v := (nI 0)) hc dX0_lowestJoined_40 rfl ?_
        refine r_istore (lv' := [(5, .int (nI 0)), (4, .int (nI k)), (3, .int (nI low)), (2, .int (nI cnt)), (0, .ref ha), (1, .int (nI c0))]) hc dX0_lowestJoined_41 (by decide) rfl ?_
        have lp43 : ∀ (n : Nat) (se2 : Nat → Bool) (re2 : Nat → Nat) (cnt2 low2 w : Nat), ns - w = n → (LJ fs (tZ α) ns c0 se2 re2 cnt2 low2 k w) → (k < cnt2) → (w ≤ ns) → V p l e (RM 2 46 0 0) s m args below meth c D A 7 0 0 Q (wB cI cZ ha h hs1 aU aN aT aG (tU α) (tN α) se2 re2 (tZ α)) 43 [(5, .int (nI w)), (4, .int (nI k)), (3, .int (nI low2)), (2, .int (nI cnt2)), (0, .ref ha), (1, .int (nI c0))] [] := by
          intro n
          induction n using Nat.strongRecOn with
          | _ n ih43 =>
          intro se2 re2 cnt2 low2 w hm43 hL2 hkc hw
          have hcnt2 : cnt2 ≤ tZ α := by rw [← hL2.1]; exact cntT_le _ _
          have hlow2 := hL2.2.2.2.2.1
          have hrk := (hL2.2.1 k hkc).1
          refine r_iload hc dX0_lowestJoined_43 0 rfl ?_
          refine r_aload_n hc dX0_lowestJoined_45 rfl 4 rfl ?_
          refine r_get hc inlX0 0 rfl rfl 1 (by decide) fl_X0_29 rfl rfl dX0_lowestJoined_46 ?_
          refine r_getRN hc inlX4 (hro _ (List.mem_of_getElem? (i := 6) rfl)) rfl 1 (by decide) nf_X0_82 rfl rfl dX0_lowestJoined_49 ?_
          refine n_icmp_ge hc 120 dX0_lowestJoined_52 (by decide) (by omega) (by omega) (fun h4 => ?_) (fun h4 => ?_)
          · have hw2 : w = ns := by omega
            refine r_iinc (k := 1) (v := (nI (k + 1))) (lv' := [(4, .int (nI (k + 1))), (5, .int (nI w)), (3, .int (nI low2)), (2, .int (nI cnt2)), (0, .ref ha), (1, .int (nI c0))]) hc dX0_lowestJoined_120 rfl (nI_add _ _) (by decide) rfl ?_
            refine r_goto hc 25 dX0_lowestJoined_123 (by decide) ?_
            refine r_lv [0, 2, 3, 4, 5] rfl ?_
            exact ih25 _ (by omega) se2 re2 cnt2 low2 (k + 1) rfl (LJ_next (hw2 ▸ hL2)) (by omega)
          · refine r_aload_n hc dX0_lowestJoined_55 rfl 4 rfl ?_
            refine r_aload_n hc dX0_lowestJoined_56 rfl 4 rfl ?_
            refine r_get hc inlX0 0 rfl rfl 5 (by decide) fl_X0_22 rfl rfl dX0_lowestJoined_57 ?_
            refine r_iload hc dX0_lowestJoined_60 1 rfl ?_
            refine r_iald hc nI 4 rfl (by omega) (by decide) dX0_lowestJoined_62 ?_
            refine r_aload_n hc dX0_lowestJoined_63 rfl 4 rfl ?_
            refine r_get hc inlX0 0 rfl rfl 1 (by decide) fl_X0_29 rfl rfl dX0_lowestJoined_64 ?_
            refine r_getRN hc inlX4 (hro _ (List.mem_of_getElem? (i := 6) rfl)) rfl 0 (by decide) nf_X0_85 rfl rfl dX0_lowestJoined_67 ?_
            refine r_iload hc dX0_lowestJoined_70 0 rfl ?_
            refine r_aldR hc (hro _ (List.mem_of_getElem? (i := 7) rfl)) (by omega) (by decide) rfl dX0_lowestJoined_72 ?_
            obtain ⟨q1, q2, q3⟩ := hsl w h4
            obtain ⟨f1, f2⟩ := hfs w h4 (re2 k) hrk
            refine r_callI (As := [.int (nI (re2 k)), .ref (swa w)]) (n := 2) (wr := wB cI cZ ha h hs1 aU aN aT aG (tU α) (tN α) se2 re2 (tZ α)) hc (c_image l D cI cZ cW ha h hs1 aU aN aT aG (tU α, tN α, se2, re2, tZ α) aE aL aF aR aS σ (swa w) (sca w) (scol w) (slen w) (re2 k) (fs w (re2 k)) (by omega) q2 q3 f2 (show BA (tU α, tN α, se2, re2, tZ α) from ⟨bZ, bN, bU, hL2.2.2.2.2.2.2.2.2.2.2⟩)) co_yX0_image in_X0 ml_X0_74 (by decide +kernel) rfl ⟨by decide, by decide⟩ ⟨by decide, by decide⟩ im_yX0_image se_yX0_image rfl (Or.inl ⟨0, _, rfl⟩) rfl (Nat.le_of_ble_eq_true rfl) [] [0, 1, 2, 3, 4] rfl rfl rfl rfl (by decide) (fun q hq => (List.mem_append.mp hq).elim (fun hq => Or.inl ((List.getElem?_of_mem hq).elim fun k hk => ⟨k, hk, List.not_mem_nil⟩)) (fun hq => Or.inr ((List.mem_append.mp hq).elim (fun z => hro q (List.mem_append_left _ z)) (fun z => hro q (List.mem_append_right _ (wL_word (by omega) z)))))) dX0_lowestJoined_73 (fun r5 u6 e7 => ?_)
            subst e7
            show V p l e (RM 2 46 0 0) s m args below meth c D A 7 0 0 Q (wB cI cZ ha h hs1 aU aN aT aG (tU α) (tN α) se2 re2 (tZ α)) 76 [(5, .int (nI w)), (4, .int (nI k)), (3, .int (nI low2)), (2, .int (nI cnt2)), (0, .ref ha), (1, .int (nI c0))] [.int (nI (fs w (re2 k)))]
            refine r_istore (lv' := [(6, .int (nI (fs w (re2 k)))), (5, .int (nI w)), (4, .int (nI k)), (3, .int (nI low2)), (2, .int (nI cnt2)), (0, .ref ha), (1, .int (nI c0))]) hc dX0_lowestJoined_76 (by decide) rfl ?_
            refine r_aload_n hc dX0_lowestJoined_78 rfl 5 rfl ?_
            refine r_get hc inlX0 0 rfl rfl 4 (by decide) fl_X0_18 rfl rfl dX0_lowestJoined_79 ?_
            refine r_iload hc dX0_lowestJoined_82 0 rfl ?_
            refine r_zald hc zI 3 rfl (by omega) (by decide) dX0_lowestJoined_84 ?_
            refine z_if_ne hc 114 dX0_lowestJoined_85 (by decide) (fun h8 => ?_) (fun h8 => ?_)
            · refine r_iinc (k := 1) (v := (nI (w + 1))) (lv' := [(5, .int (nI (w + 1))), (6, .int (nI (fs w (re2 k)))), (4, .int (nI k)), (3, .int (nI low2)), (2, .int (nI cnt2)), (0, .ref ha), (1, .int (nI c0))]) hc dX0_lowestJoined_114 rfl (nI_add _ _) (by decide) rfl ?_
              refine r_goto hc 43 dX0_lowestJoined_117 (by decide) ?_
              refine r_lv [0, 2, 3, 4, 5, 6] rfl ?_
              exact ih43 _ (by omega) se2 re2 cnt2 low2 (w + 1) rfl (LJ_seen hL2 h8) hkc (by omega)
            · have hN := LJ_new hL2 hkc h4 bZ f1 h8
              have hN1 := hN.1
              refine r_aload_n hc dX0_lowestJoined_88 rfl 5 rfl ?_
              refine r_get hc inlX0 0 rfl rfl 4 (by decide) fl_X0_18 rfl rfl dX0_lowestJoined_89 ?_
              refine r_iload hc dX0_lowestJoined_92 0 rfl ?_
              refine r_iconst (v := (nI 1)) hc dX0_lowestJoined_94 rfl ?_
              refine r_zast (ws' := wB cI cZ ha h hs1 aU aN aT aG (tU α) (tN α) (va_up se2 (fs w (re2 k)) true) re2 (tZ α)) hc true 3 rfl (by omega) (by decide) rfl dX0_lowestJoined_95 ?_
              refine r_aload_n hc dX0_lowestJoined_96 rfl 5 rfl ?_
              refine r_get hc inlX0 0 rfl rfl 5 (by decide) fl_X0_22 rfl rfl dX0_lowestJoined_97 ?_
              refine r_iload_n hc dX0_lowestJoined_100 rfl 4 rfl ?_
              refine r_iload hc dX0_lowestJoined_101 0 rfl ?_
              refine r_iast (ws' := wB cI cZ ha h hs1 aU aN aT aG (tU α) (tN α) (va_up se2 (fs w (re2 k)) true) (va_up re2 cnt2 (fs w (re2 k))) (tZ α)) hc nI (fs w (re2 k)) 4 rfl (by omega) (by decide) rfl dX0_lowestJoined_103 ?_
              refine r_iinc (k := 4) (v := (nI (cnt2 + 1))) (lv' := [(2, .int (nI (cnt2 + 1))), (6, .int (nI (fs w (re2 k)))), (5, .int (nI w)), (4, .int (nI k)), (3, .int (nI low2)), (0, .ref ha), (1, .int (nI c0))]) hc dX0_lowestJoined_104 rfl (nI_add _ _) (by decide) rfl ?_
              refine r_iload_n hc dX0_lowestJoined_107 rfl 4 rfl ?_
              refine r_iload hc dX0_lowestJoined_108 1 rfl ?_
              refine r_mmin hc ml_X0_89 (by omega) (by omega) (by decide) (Nat.le_of_ble_eq_true rfl) ⟨by decide, by decide⟩ dX0_lowestJoined_110 ?_
              refine r_istore_n (lv' := [(3, .int (nI (if fs w (re2 k) < low2 then fs w (re2 k) else low2))), (2, .int (nI (cnt2 + 1))), (6, .int (nI (fs w (re2 k)))), (5, .int (nI w)), (4, .int (nI k)), (0, .ref ha), (1, .int (nI c0))]) hc dX0_lowestJoined_113 rfl (by decide) rfl ?_
              refine r_iinc (k := 3) (v := (nI (w + 1))) (lv' := [(5, .int (nI (w + 1))), (3, .int (nI (if fs w (re2 k) < low2 then fs w (re2 k) else low2))), (2, .int (nI (cnt2 + 1))), (6, .int (nI (fs w (re2 k)))), (4, .int (nI k)), (0, .ref ha), (1, .int (nI c0))]) hc dX0_lowestJoined_114 rfl (nI_add _ _) (by decide) rfl ?_
              refine r_goto hc 43 dX0_lowestJoined_117 (by decide) ?_
              refine r_lv [0, 4, 1, 2, 5, 6] rfl ?_
              exact ih43 _ (by omega) _ _ _ _ (w + 1) rfl hN.2 (by omega) (by omega)
        refine r_lv [0, 1, 2, 3, 4, 5] rfl ?_
        exact lp43 _ se re cnt low 0 rfl hL h2 (Nat.zero_le _)
  refine r_lv [0, 1, 2, 3, 4] rfl ?_
  exact lp25 _ _ _ 1 c0 0 rfl (LJ_start hc0 bG bZ (fun i hi => frgI_f hi)) (by omega)
