def cntO (σ : CS) (n : Nat) : Nat := match n with | 0 => 0 | n + 1 => cntO σ n + (if opn σ n = true then 1 else 0)
theorem cntO_le (σ : CS) (n : Nat) : cntO σ n ≤ n := by
  induction n with
  | zero => exact Nat.le_refl _
  | succ n ih => rw [cntO]; split <;> omega
def rl (f : Nat → Nat) (hi lo : Nat) (j : Nat) : Nat → Nat := match j with | 0 => f | j + 1 => if rl f hi lo j (hi + j) = hi then va_up (rl f hi lo j) (hi + j) lo else rl f hi lo j
def fFl (σ : CS) (lo hi : Nat) : CS := (sE σ, rl (sL σ) hi lo (sM σ - hi), va_up (sF σ) (sFc σ) hi, sFc σ + 1, sR σ, sS σ, sRc σ, sO σ, sC σ, sM σ, sV σ - 1)
def fFall (σ : CS) (c d : Nat) : CS := if sL σ c = sL σ d then σ else if sL σ c < sL σ d then fFl σ (sL σ c) (sL σ d) else fFl σ (sL σ d) (sL σ c)
theorem rl_lt {f : Nat → Nat} {hi lo : Nat} (hf : ∀ i, f i < 200) (hlo : lo < 200) (j : Nat) : ∀ i, rl f hi lo j i < 200 := by
  induction j with
  | zero => exact hf
  | succ j ih =>
    intro i
    rw [rl]
    split
    · simp only [va_up]; split
      · exact hlo
      · exact ih i
    · exact ih i
set_option maxHeartbeats 4000000 in
set_option maxRecDepth 100000 in
/-- countOpen() -/
theorem c_countOpen (l : Launch) (D : va_G) (cI cZ cW : ClassId) (h aE aL aF aR aS : Nat) (σ : CS) (hB : BD σ) : CtI l yX1_countOpen cX1_countOpen 3 (some .int) 2 42 0 0 D cI cZ cW [.ref h] ([]) (wS cI cZ h aE aL aF aR aS σ) (S := Unit) (fun r _ => r = nI (cntO σ (sM σ * 6))) (fun _ => []) := by
  refine CtI.mk (by decide) (Nat.le_of_ble_eq_true rfl) ?_
  intro p e s m args below meth c A hc hr hlk hnm hro
  generalize hQ : MQ below _ args s 0 0 A = Q
  have hB0 := hB
  obtain ⟨bM, bC, bL, bF, bR, bE, bRc, bFc, bV, bO⟩ := hB
  show V p l e (RM 2 42 0 0) s m args below meth c D A 3 0 0 Q ([]) 0 [(0, .ref h)] []
  refine r_iconst (v := (nI 0)) hc dX1_countOpen_0 rfl ?_
  refine r_istore_n (lv' := [(1, .int (nI 0)), (0, .ref h)]) hc dX1_countOpen_1 rfl (by decide) rfl ?_
  refine r_iconst (v := (nI 0)) hc dX1_countOpen_2 rfl ?_
  refine r_istore_n (lv' := [(2, .int (nI 0)), (1, .int (nI 0)), (0, .ref h)]) hc dX1_countOpen_3 rfl (by decide) rfl ?_
  have lp4 : ∀ (n : Nat) (k : Nat), sM σ * 6 - k = n → (k ≤ sM σ * 6) → V p l e (RM 2 42 0 0) s m args below meth c D A 3 0 0 Q ([]) 4 [(2, .int (nI k)), (1, .int (nI (cntO σ k))), (0, .ref h)] [] := by
    intro n
    induction n using Nat.strongRecOn with
    | _ n ih4 =>
    intro k hm4 hk
    refine r_iload_n hc dX1_countOpen_4 rfl 0 rfl ?_
    refine r_aload_n hc dX1_countOpen_5 rfl 2 rfl ?_
    refine r_getR hc inlX1 (hro _ (List.mem_of_getElem? (i := 0) rfl)) rfl 9 (by decide) fl_X1_32 rfl rfl dX1_countOpen_6 ?_
    refine r_bipush (v := (nI 6)) hc dX1_countOpen_9 rfl ?_
    refine n_mul hc dX1_countOpen_11 ?_
    refine n_icmp_ge hc 32 dX1_countOpen_12 (by decide) (by omega) (by omega) (fun h1 => ?_) (fun h1 => ?_)
    · obtain rfl : k = sM σ * 6 := by omega
      show V p l e (RM 2 42 0 0) s m args below meth c D A 3 0 0 Q ([]) 32 [(2, .int (nI (sM σ * 6))), (1, .int (nI (cntO σ (sM σ * 6)))), (0, .ref h)] []
      refine r_iload_n hc dX1_countOpen_32 rfl 1 rfl ?_
      rw [← hQ]
      exact r_iret hc hr hlk () (rfl) rfl dX1_countOpen_33
    · refine r_aload_n hc dX1_countOpen_15 rfl 2 rfl ?_
      refine r_iload_n hc dX1_countOpen_16 rfl 0 rfl ?_
      refine r_callI (As := [.int (nI k)]) (n := 1) (wr := []) hc (c_isOpen l D cI cZ cW h aE aL aF aR aS σ k (by omega) hB0) co_yX1_isOpen in_X1 ml_X1_45 (by decide +kernel) rfl ⟨by decide, by decide⟩ ⟨by decide, by decide⟩ im_yX1_isOpen se_yX1_isOpen rfl (Or.inr ⟨_, (hro _ (List.mem_of_getElem? (i := 0) rfl))⟩) rfl (by decide) [] [] rfl rfl rfl rfl (by decide) (fun q hq => Or.inr (hro q hq)) dX1_countOpen_17 (fun r2 u3 e4 => ?_)
      subst e4
      refine z_if_eq hc 26 dX1_countOpen_20 (by decide) (fun h5 => ?_) (fun h5 => ?_)
      · have hcn : cntO σ k = cntO σ (k + 1) := by rw [cntO, if_neg (by rw [h5]; decide)]; rfl
        rw [hcn]
        show V p l e (RM 2 42 0 0) s m args below meth c D A 3 0 0 Q ([]) 26 [(2, .int (nI k)), (1, .int (nI (cntO σ (k + 1)))), (0, .ref h)] []
        refine r_iinc (k := 0) (v := (nI (k + 1))) (lv' := [(2, .int (nI (k + 1))), (1, .int (nI (cntO σ (k + 1)))), (0, .ref h)]) hc dX1_countOpen_26 rfl (nI_add _ _) (by decide) rfl ?_
        refine r_goto hc 4 dX1_countOpen_29 (by decide) ?_
        refine r_lv [0, 1, 2] rfl ?_
        exact ih4 _ (by omega) (k + 1) rfl (by omega)
      · refine r_iinc (k := 1) (v := (nI (cntO σ k + 1))) (lv' := [(1, .int (nI (cntO σ k + 1))), (2, .int (nI k)), (0, .ref h)]) hc dX1_countOpen_23 rfl (nI_add _ _) (by decide) rfl ?_
        have hcn : cntO σ k + 1 = cntO σ (k + 1) := by rw [cntO, if_pos h5]
        rw [hcn]
        show V p l e (RM 2 42 0 0) s m args below meth c D A 3 0 0 Q ([]) 26 [(1, .int (nI (cntO σ (k + 1)))), (2, .int (nI k)), (0, .ref h)] []
        refine r_iinc (k := 1) (v := (nI (k + 1))) (lv' := [(2, .int (nI (k + 1))), (1, .int (nI (cntO σ (k + 1)))), (0, .ref h)]) hc dX1_countOpen_26 rfl (nI_add _ _) (by decide) rfl ?_
        refine r_goto hc 4 dX1_countOpen_29 (by decide) ?_
        refine r_lv [0, 1, 2] rfl ?_
        exact ih4 _ (by omega) (k + 1) rfl (by omega)
  refine r_lv [0, 1, 2] rfl ?_
  exact lp4 _ 0 rfl (Nat.zero_le _)
set_option maxHeartbeats 4000000 in
set_option maxRecDepth 100000 in
/-- fall(k, d) -/
theorem c_fall (l : Launch) (D : va_G) (cI cZ cW : ClassId) (h aE aL aF aR aS : Nat) (σ : CS) (k d : Nat) (hk : k < 200) (hd : d < 200) (hf : ¬ sL σ k = sL σ d → sFc σ < 200) (hv : ¬ sL σ k = sL σ d → 1 ≤ sV σ) (hB : BD σ) : CtV l yX1_fall cX1_fall 6 none 0 0 0 0 D cI cZ cW [.ref h, .int (nI k), .int (nI d)] (wS cI cZ h aE aL aF aR aS σ) ([]) (S := CS) (fun u => u = fFall σ k d) (fun u => wS cI cZ h aE aL aF aR aS u) := by
  refine CtV.mk (by decide) (Nat.le_of_ble_eq_true rfl) ?_
  intro p e s m args below meth c A hc hr hlk hnm hro
  generalize hQ : MQ below _ args s 0 0 A = Q
  have hB0 := hB
  obtain ⟨bM, bC, bL, bF, bR, bE, bRc, bFc, bV, bO⟩ := hB
  show V p l e (RM 0 0 0 0) s m args below meth c D A 6 0 0 Q (wS cI cZ h aE aL aF aR aS σ) 0 [(0, .ref h), (1, .int (nI k)), (2, .int (nI d))] []
  refine r_aload_n hc dX1_fall_0 rfl 0 rfl ?_
  refine r_get hc inlX1 0 rfl rfl 1 (by decide) fl_X1_15 rfl rfl dX1_fall_1 ?_
  refine r_iload_n hc dX1_fall_4 rfl 1 rfl ?_
  have b1 := bL k
  refine r_iald hc nI 2 rfl (by omega) (by decide) dX1_fall_5 ?_
  refine r_aload_n hc dX1_fall_6 rfl 0 rfl ?_
  refine r_get hc inlX1 0 rfl rfl 1 (by decide) fl_X1_15 rfl rfl dX1_fall_7 ?_
  refine r_iload_n hc dX1_fall_10 rfl 2 rfl ?_
  have b2 := bL d
  refine r_iald hc nI 2 rfl (by omega) (by decide) dX1_fall_11 ?_
  refine n_icmp_ne hc 16 dX1_fall_12 (by decide) (by omega) (by omega) (fun h3 => ?_) (fun h3 => ?_)
  · have hne : ¬ sL σ k = sL σ d := h3
    have hfc1 := hf hne
    have hv1 := hv hne
    refine r_aload_n hc dX1_fall_16 rfl 0 rfl ?_
    refine r_get hc inlX1 0 rfl rfl 1 (by decide) fl_X1_15 rfl rfl dX1_fall_17 ?_
    refine r_iload_n hc dX1_fall_20 rfl 1 rfl ?_
    have b4 := bL k
    refine r_iald hc nI 2 rfl (by omega) (by decide) dX1_fall_21 ?_
    refine r_aload_n hc dX1_fall_22 rfl 0 rfl ?_
    refine r_get hc inlX1 0 rfl rfl 1 (by decide) fl_X1_15 rfl rfl dX1_fall_23 ?_
    refine r_iload_n hc dX1_fall_26 rfl 2 rfl ?_
    have b5 := bL d
    refine r_iald hc nI 2 rfl (by omega) (by decide) dX1_fall_27 ?_
    refine n_icmp_ge hc 40 dX1_fall_28 (by decide) (by omega) (by omega) (fun h6 => ?_) (fun h6 => ?_)
    · refine r_aload_n hc dX1_fall_40 rfl 0 rfl ?_
      refine r_get hc inlX1 0 rfl rfl 1 (by decide) fl_X1_15 rfl rfl dX1_fall_41 ?_
      refine r_iload_n hc dX1_fall_44 rfl 2 rfl ?_
      have b7 := bL d
      refine r_iald hc nI 2 rfl (by omega) (by decide) dX1_fall_45 ?_
      refine r_istore_n (lv' := [(3, .int (nI ((sL σ) d))), (0, .ref h), (1, .int (nI k)), (2, .int (nI d))]) hc dX1_fall_46 rfl (by decide) rfl ?_
      refine r_aload_n hc dX1_fall_47 rfl 1 rfl ?_
      refine r_get hc inlX1 0 rfl rfl 1 (by decide) fl_X1_15 rfl rfl dX1_fall_48 ?_
      refine r_iload_n hc dX1_fall_51 rfl 2 rfl ?_
      have b8 := bL k
      refine r_iald hc nI 2 rfl (by omega) (by decide) dX1_fall_52 ?_
      refine r_aload_n hc dX1_fall_53 rfl 1 rfl ?_
      refine r_get hc inlX1 0 rfl rfl 1 (by decide) fl_X1_15 rfl rfl dX1_fall_54 ?_
      refine r_iload_n hc dX1_fall_57 rfl 3 rfl ?_
      have b9 := bL d
      refine r_iald hc nI 2 rfl (by omega) (by decide) dX1_fall_58 ?_
      refine n_icmp_ge hc 71 dX1_fall_59 (by decide) (by omega) (by omega) (fun h10 => ?_) (fun h10 => ?_)
      · refine r_aload_n hc dX1_fall_71 rfl 1 rfl ?_
        refine r_get hc inlX1 0 rfl rfl 1 (by decide) fl_X1_15 rfl rfl dX1_fall_72 ?_
        refine r_iload_n hc dX1_fall_75 rfl 2 rfl ?_
        have b11 := bL k
        refine r_iald hc nI 2 rfl (by omega) (by decide) dX1_fall_76 ?_
        refine r_istore (lv' := [(4, .int (nI ((sL σ) k))), (3, .int (nI ((sL σ) d))), (0, .ref h), (1, .int (nI k)), (2, .int (nI d))]) hc dX1_fall_77 (by decide) rfl ?_
        refine r_iload hc dX1_fall_79 0 rfl ?_
        refine r_istore (lv' := [(5, .int (nI ((sL σ) k))), (4, .int (nI ((sL σ) k))), (3, .int (nI ((sL σ) d))), (0, .ref h), (1, .int (nI k)), (2, .int (nI d))]) hc dX1_fall_81 (by decide) rfl ?_
        have lp83 : ∀ (n : Nat) (j : Nat), sM σ - j = n → (j ≤ sM σ - (sL σ k)) → V p l e (RM 0 0 0 0) s m args below meth c D A 6 0 0 Q (wX cI cZ h aE aL aF aR aS (sE σ) (rl (sL σ) (sL σ k) (sL σ d) j) (sF σ) (sFc σ) (sR σ) (sS σ) (sRc σ) (sO σ) (sC σ) (sM σ) (sV σ)) 83 [(5, .int (nI (sL σ k + j))), (4, .int (nI ((sL σ) k))), (3, .int (nI ((sL σ) d))), (0, .ref h), (1, .int (nI k)), (2, .int (nI d))] [] := by
          intro n
          induction n using Nat.strongRecOn with
          | _ n ih83 =>
          intro j hm83 hj
          refine r_iload hc dX1_fall_83 0 rfl ?_
          refine r_aload_n hc dX1_fall_85 rfl 3 rfl ?_
          refine r_get hc inlX1 0 rfl rfl 9 (by decide) fl_X1_32 rfl rfl dX1_fall_86 ?_
          refine n_icmp_ge hc 118 dX1_fall_89 (by decide) (by omega) (by omega) (fun h12 => ?_) (fun h12 => ?_)
          · obtain rfl : j = sM σ - (sL σ k) := by omega
            show V p l e (RM 0 0 0 0) s m args below meth c D A 6 0 0 Q (wX cI cZ h aE aL aF aR aS (sE σ) (rl (sL σ) (sL σ k) (sL σ d) (sM σ - (sL σ k))) (sF σ) (sFc σ) (sR σ) (sS σ) (sRc σ) (sO σ) (sC σ) (sM σ) (sV σ)) 118 [(5, .int (nI (sL σ k + (sM σ - (sL σ k))))), (4, .int (nI ((sL σ) k))), (3, .int (nI ((sL σ) d))), (0, .ref h), (1, .int (nI k)), (2, .int (nI d))] []
            refine r_aload_n hc dX1_fall_118 rfl 3 rfl ?_
            refine r_get hc inlX1 0 rfl rfl 2 (by decide) fl_X1_18 rfl rfl dX1_fall_119 ?_
            refine r_aload_n hc dX1_fall_122 rfl 3 rfl ?_
            refine r_get hc inlX1 0 rfl rfl 3 (by decide) fl_X1_59 rfl rfl dX1_fall_123 ?_
            refine r_iload hc dX1_fall_126 1 rfl ?_
            refine r_iast (ws' := wX cI cZ h aE aL aF aR aS (sE σ) (rl (sL σ) (sL σ k) (sL σ d) (sM σ - (sL σ k))) (va_up (sF σ) (sFc σ) ((sL σ) k)) (sFc σ) (sR σ) (sS σ) (sRc σ) (sO σ) (sC σ) (sM σ) (sV σ)) hc nI ((sL σ) k) 3 rfl (by omega) (by decide) rfl dX1_fall_128 ?_
            refine r_aload_n hc dX1_fall_129 rfl 3 rfl ?_
            refine r_dup hc dX1_fall_130 rfl ?_
            refine r_get hc inlX1 0 rfl rfl 3 (by decide) fl_X1_59 rfl rfl dX1_fall_131 ?_
            refine r_iconst (v := (nI 1)) hc dX1_fall_134 rfl ?_
            refine n_add hc dX1_fall_135 ?_
            refine r_put (ws' := wX cI cZ h aE aL aF aR aS (sE σ) (rl (sL σ) (sL σ k) (sL σ d) (sM σ - (sL σ k))) (va_up (sF σ) (sFc σ) ((sL σ) k)) ((sFc σ) + 1) (sR σ) (sS σ) (sRc σ) (sO σ) (sC σ) (sM σ) (sV σ)) hc inlX1 tyX1 tyX1_ok nmX1 0 rfl rfl 3 (by decide) fl_X1_59 rfl rfl rfl rfl (Nat.le_of_ble_eq_true rfl) rfl dX1_fall_136 ?_
            refine r_aload_n hc dX1_fall_139 rfl 3 rfl ?_
            refine r_dup hc dX1_fall_140 rfl ?_
            refine r_get hc inlX1 0 rfl rfl 10 (by decide) fl_X1_35 rfl rfl dX1_fall_141 ?_
            refine r_iconst (v := (nI 1)) hc dX1_fall_144 rfl ?_
            refine n_sub hc dX1_fall_145 (by omega) ?_
            refine r_put (ws' := wX cI cZ h aE aL aF aR aS (sE σ) (rl (sL σ) (sL σ k) (sL σ d) (sM σ - (sL σ k))) (va_up (sF σ) (sFc σ) ((sL σ) k)) ((sFc σ) + 1) (sR σ) (sS σ) (sRc σ) (sO σ) (sC σ) (sM σ) ((sV σ) - 1)) hc inlX1 tyX1 tyX1_ok nmX1 0 rfl rfl 10 (by decide) fl_X1_35 rfl rfl rfl rfl (Nat.le_of_ble_eq_true rfl) rfl dX1_fall_146 ?_
            rw [← hQ]
            exact r_vret hc hr hlk (sE σ, rl (sL σ) (sL σ k) (sL σ d) (sM σ - (sL σ k)), va_up (sF σ) (sFc σ) ((sL σ) k), (sFc σ) + 1, sR σ, sS σ, sRc σ, sO σ, sC σ, sM σ, (sV σ) - 1) (((if_neg hne).trans (if_neg (by omega))).symm) rfl dX1_fall_149
          · have hrl := rl_lt (hi := sL σ k) (lo := sL σ d) bL (bL _) j (sL σ k + j)
            refine r_aload_n hc dX1_fall_92 rfl 3 rfl ?_
            refine r_get hc inlX1 0 rfl rfl 1 (by decide) fl_X1_15 rfl rfl dX1_fall_93 ?_
            refine r_iload hc dX1_fall_96 0 rfl ?_
            refine r_iald hc nI 2 rfl (by omega) (by decide) dX1_fall_98 ?_
            refine r_iload hc dX1_fall_99 1 rfl ?_
            refine n_icmp_ne hc 112 dX1_fall_101 (by decide) (by omega) (by omega) (fun h13 => ?_) (fun h13 => ?_)
            · have hrn : rl (sL σ) (sL σ k) (sL σ d) j = rl (sL σ) (sL σ k) (sL σ d) (j + 1) := by rw [rl, if_neg h13]
              rw [hrn]
              show V p l e (RM 0 0 0 0) s m args below meth c D A 6 0 0 Q (wX cI cZ h aE aL aF aR aS (sE σ) (rl (sL σ) (sL σ k) (sL σ d) (j + 1)) (sF σ) (sFc σ) (sR σ) (sS σ) (sRc σ) (sO σ) (sC σ) (sM σ) (sV σ)) 112 [(5, .int (nI (sL σ k + j))), (4, .int (nI ((sL σ) k))), (3, .int (nI ((sL σ) d))), (0, .ref h), (1, .int (nI k)), (2, .int (nI d))] []
              refine r_iinc (k := 0) (v := (nI (sL σ k + j + 1))) (lv' := [(5, .int (nI (sL σ k + j + 1))), (4, .int (nI ((sL σ) k))), (3, .int (nI ((sL σ) d))), (0, .ref h), (1, .int (nI k)), (2, .int (nI d))]) hc dX1_fall_112 rfl (nI_add _ _) (by decide) rfl ?_
              refine r_goto hc 83 dX1_fall_115 (by decide) ?_
              refine r_lv [0, 1, 2, 3, 4, 5] rfl ?_
              exact ih83 _ (by omega) (j + 1) rfl (by omega)
            · refine r_aload_n hc dX1_fall_104 rfl 3 rfl ?_
              refine r_get hc inlX1 0 rfl rfl 1 (by decide) fl_X1_15 rfl rfl dX1_fall_105 ?_
              refine r_iload hc dX1_fall_108 0 rfl ?_
              refine r_iload_n hc dX1_fall_110 rfl 2 rfl ?_
              refine r_iast (ws' := wX cI cZ h aE aL aF aR aS (sE σ) (va_up (rl (sL σ) (sL σ k) (sL σ d) j) (sL σ k + j) ((sL σ) d)) (sF σ) (sFc σ) (sR σ) (sS σ) (sRc σ) (sO σ) (sC σ) (sM σ) (sV σ)) hc nI ((sL σ) d) 2 rfl (by omega) (by decide) rfl dX1_fall_111 ?_
              have hrn : va_up (rl (sL σ) (sL σ k) (sL σ d) j) (sL σ k + j) (sL σ d) = rl (sL σ) (sL σ k) (sL σ d) (j + 1) := by rw [rl, if_pos h13]
              rw [hrn]
              show V p l e (RM 0 0 0 0) s m args below meth c D A 6 0 0 Q (wX cI cZ h aE aL aF aR aS (sE σ) (rl (sL σ) (sL σ k) (sL σ d) (j + 1)) (sF σ) (sFc σ) (sR σ) (sS σ) (sRc σ) (sO σ) (sC σ) (sM σ) (sV σ)) 112 [(5, .int (nI (sL σ k + j))), (4, .int (nI ((sL σ) k))), (3, .int (nI ((sL σ) d))), (0, .ref h), (1, .int (nI k)), (2, .int (nI d))] []
              refine r_iinc (k := 0) (v := (nI (sL σ k + j + 1))) (lv' := [(5, .int (nI (sL σ k + j + 1))), (4, .int (nI ((sL σ) k))), (3, .int (nI ((sL σ) d))), (0, .ref h), (1, .int (nI k)), (2, .int (nI d))]) hc dX1_fall_112 rfl (nI_add _ _) (by decide) rfl ?_
              refine r_goto hc 83 dX1_fall_115 (by decide) ?_
              refine r_lv [0, 1, 2, 3, 4, 5] rfl ?_
              exact ih83 _ (by omega) (j + 1) rfl (by omega)
        refine r_lv [0, 1, 2, 3, 4, 5] rfl ?_
        exact lp83 _ 0 rfl (Nat.zero_le _)
      · exact absurd h10 (by omega)
    · refine r_aload_n hc dX1_fall_31 rfl 0 rfl ?_
      refine r_get hc inlX1 0 rfl rfl 1 (by decide) fl_X1_15 rfl rfl dX1_fall_32 ?_
      refine r_iload_n hc dX1_fall_35 rfl 1 rfl ?_
      have b14 := bL k
      refine r_iald hc nI 2 rfl (by omega) (by decide) dX1_fall_36 ?_
      refine r_goto hc 46 dX1_fall_37 (by decide) ?_
      refine r_istore_n (lv' := [(3, .int (nI ((sL σ) k))), (0, .ref h), (1, .int (nI k)), (2, .int (nI d))]) hc dX1_fall_46 rfl (by decide) rfl ?_
      refine r_aload_n hc dX1_fall_47 rfl 1 rfl ?_
      refine r_get hc inlX1 0 rfl rfl 1 (by decide) fl_X1_15 rfl rfl dX1_fall_48 ?_
      refine r_iload_n hc dX1_fall_51 rfl 2 rfl ?_
      have b15 := bL k
      refine r_iald hc nI 2 rfl (by omega) (by decide) dX1_fall_52 ?_
      refine r_aload_n hc dX1_fall_53 rfl 1 rfl ?_
      refine r_get hc inlX1 0 rfl rfl 1 (by decide) fl_X1_15 rfl rfl dX1_fall_54 ?_
      refine r_iload_n hc dX1_fall_57 rfl 3 rfl ?_
      have b16 := bL d
      refine r_iald hc nI 2 rfl (by omega) (by decide) dX1_fall_58 ?_
      refine n_icmp_ge hc 71 dX1_fall_59 (by decide) (by omega) (by omega) (fun h17 => ?_) (fun h17 => ?_)
      · exact absurd h17 (by omega)
      · refine r_aload_n hc dX1_fall_62 rfl 1 rfl ?_
        refine r_get hc inlX1 0 rfl rfl 1 (by decide) fl_X1_15 rfl rfl dX1_fall_63 ?_
        refine r_iload_n hc dX1_fall_66 rfl 3 rfl ?_
        have b18 := bL d
        refine r_iald hc nI 2 rfl (by omega) (by decide) dX1_fall_67 ?_
        refine r_goto hc 77 dX1_fall_68 (by decide) ?_
        refine r_istore (lv' := [(4, .int (nI ((sL σ) d))), (3, .int (nI ((sL σ) k))), (0, .ref h), (1, .int (nI k)), (2, .int (nI d))]) hc dX1_fall_77 (by decide) rfl ?_
        refine r_iload hc dX1_fall_79 0 rfl ?_
        refine r_istore (lv' := [(5, .int (nI ((sL σ) d))), (4, .int (nI ((sL σ) d))), (3, .int (nI ((sL σ) k))), (0, .ref h), (1, .int (nI k)), (2, .int (nI d))]) hc dX1_fall_81 (by decide) rfl ?_
        have lp83 : ∀ (n : Nat) (j : Nat), sM σ - j = n → (j ≤ sM σ - (sL σ d)) → V p l e (RM 0 0 0 0) s m args below meth c D A 6 0 0 Q (wX cI cZ h aE aL aF aR aS (sE σ) (rl (sL σ) (sL σ d) (sL σ k) j) (sF σ) (sFc σ) (sR σ) (sS σ) (sRc σ) (sO σ) (sC σ) (sM σ) (sV σ)) 83 [(5, .int (nI (sL σ d + j))), (4, .int (nI ((sL σ) d))), (3, .int (nI ((sL σ) k))), (0, .ref h), (1, .int (nI k)), (2, .int (nI d))] [] := by
          intro n
          induction n using Nat.strongRecOn with
          | _ n ih83 =>
          intro j hm83 hj
          refine r_iload hc dX1_fall_83 0 rfl ?_
          refine r_aload_n hc dX1_fall_85 rfl 3 rfl ?_
          refine r_get hc inlX1 0 rfl rfl 9 (by decide) fl_X1_32 rfl rfl dX1_fall_86 ?_
          refine n_icmp_ge hc 118 dX1_fall_89 (by decide) (by omega) (by omega) (fun h19 => ?_) (fun h19 => ?_)
          · obtain rfl : j = sM σ - (sL σ d) := by omega
            show V p l e (RM 0 0 0 0) s m args below meth c D A 6 0 0 Q (wX cI cZ h aE aL aF aR aS (sE σ) (rl (sL σ) (sL σ d) (sL σ k) (sM σ - (sL σ d))) (sF σ) (sFc σ) (sR σ) (sS σ) (sRc σ) (sO σ) (sC σ) (sM σ) (sV σ)) 118 [(5, .int (nI (sL σ d + (sM σ - (sL σ d))))), (4, .int (nI ((sL σ) d))), (3, .int (nI ((sL σ) k))), (0, .ref h), (1, .int (nI k)), (2, .int (nI d))] []
            refine r_aload_n hc dX1_fall_118 rfl 3 rfl ?_
            refine r_get hc inlX1 0 rfl rfl 2 (by decide) fl_X1_18 rfl rfl dX1_fall_119 ?_
            refine r_aload_n hc dX1_fall_122 rfl 3 rfl ?_
            refine r_get hc inlX1 0 rfl rfl 3 (by decide) fl_X1_59 rfl rfl dX1_fall_123 ?_
            refine r_iload hc dX1_fall_126 1 rfl ?_
            refine r_iast (ws' := wX cI cZ h aE aL aF aR aS (sE σ) (rl (sL σ) (sL σ d) (sL σ k) (sM σ - (sL σ d))) (va_up (sF σ) (sFc σ) ((sL σ) d)) (sFc σ) (sR σ) (sS σ) (sRc σ) (sO σ) (sC σ) (sM σ) (sV σ)) hc nI ((sL σ) d) 3 rfl (by omega) (by decide) rfl dX1_fall_128 ?_
            refine r_aload_n hc dX1_fall_129 rfl 3 rfl ?_
            refine r_dup hc dX1_fall_130 rfl ?_
            refine r_get hc inlX1 0 rfl rfl 3 (by decide) fl_X1_59 rfl rfl dX1_fall_131 ?_
            refine r_iconst (v := (nI 1)) hc dX1_fall_134 rfl ?_
            refine n_add hc dX1_fall_135 ?_
            refine r_put (ws' := wX cI cZ h aE aL aF aR aS (sE σ) (rl (sL σ) (sL σ d) (sL σ k) (sM σ - (sL σ d))) (va_up (sF σ) (sFc σ) ((sL σ) d)) ((sFc σ) + 1) (sR σ) (sS σ) (sRc σ) (sO σ) (sC σ) (sM σ) (sV σ)) hc inlX1 tyX1 tyX1_ok nmX1 0 rfl rfl 3 (by decide) fl_X1_59 rfl rfl rfl rfl (Nat.le_of_ble_eq_true rfl) rfl dX1_fall_136 ?_
            refine r_aload_n hc dX1_fall_139 rfl 3 rfl ?_
            refine r_dup hc dX1_fall_140 rfl ?_
            refine r_get hc inlX1 0 rfl rfl 10 (by decide) fl_X1_35 rfl rfl dX1_fall_141 ?_
            refine r_iconst (v := (nI 1)) hc dX1_fall_144 rfl ?_
            refine n_sub hc dX1_fall_145 (by omega) ?_
            refine r_put (ws' := wX cI cZ h aE aL aF aR aS (sE σ) (rl (sL σ) (sL σ d) (sL σ k) (sM σ - (sL σ d))) (va_up (sF σ) (sFc σ) ((sL σ) d)) ((sFc σ) + 1) (sR σ) (sS σ) (sRc σ) (sO σ) (sC σ) (sM σ) ((sV σ) - 1)) hc inlX1 tyX1 tyX1_ok nmX1 0 rfl rfl 10 (by decide) fl_X1_35 rfl rfl rfl rfl (Nat.le_of_ble_eq_true rfl) rfl dX1_fall_146 ?_
            rw [← hQ]
            exact r_vret hc hr hlk (sE σ, rl (sL σ) (sL σ d) (sL σ k) (sM σ - (sL σ d)), va_up (sF σ) (sFc σ) ((sL σ) d), (sFc σ) + 1, sR σ, sS σ, sRc σ, sO σ, sC σ, sM σ, (sV σ) - 1) (((if_neg hne).trans (if_pos (by omega))).symm) rfl dX1_fall_149
          · have hrl := rl_lt (hi := sL σ d) (lo := sL σ k) bL (bL _) j (sL σ d + j)
            refine r_aload_n hc dX1_fall_92 rfl 3 rfl ?_
            refine r_get hc inlX1 0 rfl rfl 1 (by decide) fl_X1_15 rfl rfl dX1_fall_93 ?_
            refine r_iload hc dX1_fall_96 0 rfl ?_
            refine r_iald hc nI 2 rfl (by omega) (by decide) dX1_fall_98 ?_
            refine r_iload hc dX1_fall_99 1 rfl ?_
            refine n_icmp_ne hc 112 dX1_fall_101 (by decide) (by omega) (by omega) (fun h20 => ?_) (fun h20 => ?_)
            · have hrn : rl (sL σ) (sL σ d) (sL σ k) j = rl (sL σ) (sL σ d) (sL σ k) (j + 1) := by rw [rl, if_neg h20]
              rw [hrn]
              show V p l e (RM 0 0 0 0) s m args below meth c D A 6 0 0 Q (wX cI cZ h aE aL aF aR aS (sE σ) (rl (sL σ) (sL σ d) (sL σ k) (j + 1)) (sF σ) (sFc σ) (sR σ) (sS σ) (sRc σ) (sO σ) (sC σ) (sM σ) (sV σ)) 112 [(5, .int (nI (sL σ d + j))), (4, .int (nI ((sL σ) d))), (3, .int (nI ((sL σ) k))), (0, .ref h), (1, .int (nI k)), (2, .int (nI d))] []
              refine r_iinc (k := 0) (v := (nI (sL σ d + j + 1))) (lv' := [(5, .int (nI (sL σ d + j + 1))), (4, .int (nI ((sL σ) d))), (3, .int (nI ((sL σ) k))), (0, .ref h), (1, .int (nI k)), (2, .int (nI d))]) hc dX1_fall_112 rfl (nI_add _ _) (by decide) rfl ?_
              refine r_goto hc 83 dX1_fall_115 (by decide) ?_
              refine r_lv [0, 1, 2, 3, 4, 5] rfl ?_
              exact ih83 _ (by omega) (j + 1) rfl (by omega)
            · refine r_aload_n hc dX1_fall_104 rfl 3 rfl ?_
              refine r_get hc inlX1 0 rfl rfl 1 (by decide) fl_X1_15 rfl rfl dX1_fall_105 ?_
              refine r_iload hc dX1_fall_108 0 rfl ?_
              refine r_iload_n hc dX1_fall_110 rfl 2 rfl ?_
              refine r_iast (ws' := wX cI cZ h aE aL aF aR aS (sE σ) (va_up (rl (sL σ) (sL σ d) (sL σ k) j) (sL σ d + j) ((sL σ) k)) (sF σ) (sFc σ) (sR σ) (sS σ) (sRc σ) (sO σ) (sC σ) (sM σ) (sV σ)) hc nI ((sL σ) k) 2 rfl (by omega) (by decide) rfl dX1_fall_111 ?_
              have hrn : va_up (rl (sL σ) (sL σ d) (sL σ k) j) (sL σ d + j) (sL σ k) = rl (sL σ) (sL σ d) (sL σ k) (j + 1) := by rw [rl, if_pos h20]
              rw [hrn]
              show V p l e (RM 0 0 0 0) s m args below meth c D A 6 0 0 Q (wX cI cZ h aE aL aF aR aS (sE σ) (rl (sL σ) (sL σ d) (sL σ k) (j + 1)) (sF σ) (sFc σ) (sR σ) (sS σ) (sRc σ) (sO σ) (sC σ) (sM σ) (sV σ)) 112 [(5, .int (nI (sL σ d + j))), (4, .int (nI ((sL σ) d))), (3, .int (nI ((sL σ) k))), (0, .ref h), (1, .int (nI k)), (2, .int (nI d))] []
              refine r_iinc (k := 0) (v := (nI (sL σ d + j + 1))) (lv' := [(5, .int (nI (sL σ d + j + 1))), (4, .int (nI ((sL σ) d))), (3, .int (nI ((sL σ) k))), (0, .ref h), (1, .int (nI k)), (2, .int (nI d))]) hc dX1_fall_112 rfl (nI_add _ _) (by decide) rfl ?_
              refine r_goto hc 83 dX1_fall_115 (by decide) ?_
              refine r_lv [0, 1, 2, 3, 4, 5] rfl ?_
              exact ih83 _ (by omega) (j + 1) rfl (by omega)
        refine r_lv [0, 1, 2, 3, 4, 5] rfl ?_
        exact lp83 _ 0 rfl (Nat.zero_le _)
  · rw [← hQ]
    exact r_vret hc hr hlk σ ((if_pos h3).symm) rfl dX1_fall_15
