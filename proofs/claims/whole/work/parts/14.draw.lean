set_option maxHeartbeats 4000000 in
set_option maxRecDepth 100000 in
/-- drawThrough(k, x0, word) -/
theorem c_drawThrough (l : Launch) (D : va_G) (cI cZ cW : ClassId) (h aE aL aF aR aS : Nat) (σ : CS) (hi hr1 hs1 hw aw : Nat) (col : Nat → Nat) (len : Nat) (k x0 : Nat) (hx0 : x0 < 6) (hl : len ≤ 24) (hcol : ∀ j, col j < 6) (J : Nat → CS → Prop) (hJ0 : J 0 σ) (hpre : ∀ n τ, n < len → J n τ → PreC τ ∧ k < sM τ) (hst1 : ∀ n τ d u, n < len → J n τ → sE τ (k * 6 + x0) = some d → col n = x0 → CloseR τ col len n k u → J (n + 1) u) (hst2 : ∀ n τ d u, n < len → J n τ → sE τ (k * 6 + x0) = some d → col n ≠ x0 → col n = x0 ^^^ 1 → CloseR τ col len n d u → J (n + 1) u) (hst3 : ∀ n τ d, n < len → J n τ → sE τ (k * 6 + x0) = some d → col n ≠ x0 → col n ≠ x0 ^^^ 1 → J (n + 1) τ) : CtV l yX2_drawThrough cX2_drawThrough 6 none 4 101 0 0 D cI cZ cW [.ref hi, .int (nI k), .int (nI x0), .ref hw] (wS cI cZ h aE aL aF aR aS σ) ((hi, .inr (2, [.ref h, .ref hr1, .ref hs1])) :: wW cI hw aw col len) (S := CS) (fun u => J len u ∨ ∃ n, n < len ∧ J n u ∧ sE u (k * 6 + x0) = none) (fun u => wS cI cZ h aE aL aF aR aS u) := by
  refine CtV.mk (by decide) (Nat.le_of_ble_eq_true rfl) ?_
  intro p e s m args below meth c A hc hr hlk hnm hro
  generalize hQ : MQ below _ args s 0 0 A = Q
  have hx1 := xor1_lt hx0
  show V p l e (RM 4 101 0 0) s m args below meth c D A 6 0 0 Q (wS cI cZ h aE aL aF aR aS σ) 0 [(0, .ref hi), (1, .int (nI k)), (2, .int (nI x0)), (3, .ref hw)] []
  refine r_iconst (v := (nI 0)) hc dX2_drawThrough_0 rfl ?_
  refine r_istore (lv' := [(4, .int (nI 0)), (0, .ref hi), (1, .int (nI k)), (2, .int (nI x0)), (3, .ref hw)]) hc dX2_drawThrough_1 (by decide) rfl ?_
  have lp3 : ∀ (n : Nat) (τ : CS) (n0 : Nat), len - n0 = n → (n0 ≤ len) → (J n0 τ) → V p l e (RM 4 101 0 0) s m args below meth c D A 6 0 0 Q (wS cI cZ h aE aL aF aR aS τ) 3 [(4, .int (nI n0)), (0, .ref hi), (1, .int (nI k)), (2, .int (nI x0)), (3, .ref hw)] [] := by
    intro n
    induction n using Nat.strongRecOn with
    | _ n ih3 =>
    intro τ n0 hm3 hn0 hJ
    refine r_iload hc dX2_drawThrough_3 0 rfl ?_
    refine r_aload_n hc dX2_drawThrough_5 rfl 4 rfl ?_
    refine r_getRN hc inlX3 (hro _ (List.mem_of_getElem? (i := 1) rfl)) rfl 1 (by decide) nf_X2_57 rfl rfl dX2_drawThrough_6 ?_
    refine n_icmp_ge hc 80 dX2_drawThrough_9 (by decide) (by omega) (by omega) (fun h1 => ?_) (fun h1 => ?_)
    · rw [← hQ]
      exact r_vret hc hr hlk τ (Or.inl ((show n0 = len by omega) ▸ hJ)) rfl dX2_drawThrough_80
    · obtain ⟨hPC, hkM⟩ := hpre n0 τ h1 hJ
      obtain ⟨cB, cE, cS, cU⟩ := id hPC
      obtain ⟨tM, tC, tL, tF, tR, tE, tRc, tFc, tV, tO⟩ := id cB
      refine r_aload_n hc dX2_drawThrough_12 rfl 1 rfl ?_
      refine r_getR hc inlX2 (hro _ (List.mem_of_getElem? (i := 0) rfl)) rfl 0 (by decide) fl_X2_9 rfl rfl dX2_drawThrough_13 ?_
      refine r_iload_n hc dX2_drawThrough_16 rfl 2 rfl ?_
      refine r_iload_n hc dX2_drawThrough_17 rfl 3 rfl ?_
      refine r_callI (As := [.int (nI k), .int (nI x0)]) (n := 2) (wr := wS cI cZ h aE aL aF aR aS τ) hc (c_at l D cI cZ cW h aE aL aF aR aS τ k x0 (by omega) hx0) co_yX1_at in_X1 ml_X2_62 (by decide +kernel) rfl ⟨by decide, by decide⟩ ⟨by decide, by decide⟩ im_yX1_at se_yX1_at rfl (Or.inl ⟨0, _, rfl⟩) rfl (Nat.le_of_ble_eq_true rfl) [] [0, 1, 2, 3, 4, 5] rfl rfl rfl rfl (by decide) (fun q hq => Or.inl ((List.getElem?_of_mem hq).elim fun k hk => ⟨k, hk, List.not_mem_nil⟩)) dX2_drawThrough_18 (fun r2 u3 e4 => ?_)
      subst e4
      show V p l e (RM 4 101 0 0) s m args below meth c D A 6 0 0 Q (wS cI cZ h aE aL aF aR aS τ) 21 [(4, .int (nI n0)), (0, .ref hi), (1, .int (nI k)), (2, .int (nI x0)), (3, .ref hw)] [.int (eI (sE τ (k * 6 + x0)))]
      refine r_istore (lv' := [(5, .int (eI (sE τ (k * 6 + x0)))), (4, .int (nI n0)), (0, .ref hi), (1, .int (nI k)), (2, .int (nI x0)), (3, .ref hw)]) hc dX2_drawThrough_21 (by decide) rfl ?_
      refine r_iload hc dX2_drawThrough_23 0 rfl ?_
      refine r_iconst (v := (-1)) hc dX2_drawThrough_25 rfl ?_
      refine e_icmp_ne hc 30 dX2_drawThrough_26 (by decide) (fun d h => Nat.lt_trans (tE _ d h) (by decide)) (fun d6 h5 => ?_) (fun h5 => ?_)
      · rw [h5]
        show V _ _ _ _ _ _ _ _ _ _ _ _ _ _ _ _ _ _ [(5, .int (nI d6)), (4, .int (nI n0)), (0, .ref hi), (1, .int (nI k)), (2, .int (nI x0)), (3, .ref hw)] []
        refine r_aload_n hc dX2_drawThrough_30 rfl 5 rfl ?_
        refine r_getRN hc inlX3 (hro _ (List.mem_of_getElem? (i := 1) rfl)) rfl 0 (by decide) nf_X2_66 rfl rfl dX2_drawThrough_31 ?_
        refine r_iload hc dX2_drawThrough_34 1 rfl ?_
        have hcn := hcol n0
        refine r_ialdR hc nI (hro _ (List.mem_of_getElem? (i := 2) rfl)) (by omega) (by decide) dX2_drawThrough_36 ?_
        refine r_iload_n hc dX2_drawThrough_37 rfl 4 rfl ?_
        refine n_icmp_ne hc 52 dX2_drawThrough_38 (by decide) (by omega) (by omega) (fun h7 => ?_) (fun h7 => ?_)
        · refine r_aload_n hc dX2_drawThrough_52 rfl 5 rfl ?_
          refine r_getRN hc inlX3 (hro _ (List.mem_of_getElem? (i := 1) rfl)) rfl 0 (by decide) nf_X2_66 rfl rfl dX2_drawThrough_53 ?_
          refine r_iload hc dX2_drawThrough_56 1 rfl ?_
          refine r_ialdR hc nI (hro _ (List.mem_of_getElem? (i := 2) rfl)) (by omega) (by decide) dX2_drawThrough_58 ?_
          refine r_iload_n hc dX2_drawThrough_59 rfl 4 rfl ?_
          refine r_iconst (v := (nI 1)) hc dX2_drawThrough_60 rfl ?_
          refine n_xor hc dX2_drawThrough_61 ?_
          refine n_icmp_ne hc 74 dX2_drawThrough_62 (by decide) (by omega) (by omega) (fun h8 => ?_) (fun h8 => ?_)
          · refine r_iinc (k := 1) (v := (nI (n0 + 1))) (lv' := [(4, .int (nI (n0 + 1))), (5, .int (nI d6)), (0, .ref hi), (1, .int (nI k)), (2, .int (nI x0)), (3, .ref hw)]) hc dX2_drawThrough_74 rfl (nI_add _ _) (by decide) rfl ?_
            refine r_goto hc 3 dX2_drawThrough_77 (by decide) ?_
            refine r_lv [0, 2, 3, 4, 5] rfl ?_
            exact ih3 _ (by omega) τ (n0 + 1) rfl (by omega) (hst3 n0 τ _ h1 hJ h5 h7 h8)
          · refine r_aload_n hc dX2_drawThrough_65 rfl 2 rfl ?_
            refine r_aload_n hc dX2_drawThrough_66 rfl 5 rfl ?_
            refine r_iload hc dX2_drawThrough_67 1 rfl ?_
            refine r_iload hc dX2_drawThrough_69 0 rfl ?_
            refine r_callV (As := [.ref hw, .int (nI n0), .int (nI d6)]) (n := 3) (wr := []) hc (c_close l D cI cZ cW h aE aL aF aR aS τ hi hr1 hs1 hw aw col len n0 d6 hl (by omega) hcol (cE _ _ _ hkM hx0 h5) hPC) co_yX2_close in_X2 ml_X2_38 (by decide +kernel) rfl ⟨by decide, by decide⟩ ⟨by decide, by decide⟩ im_yX2_close se_yX2_close rfl (Or.inr ⟨_, (hro _ (List.mem_of_getElem? (i := 0) rfl))⟩) rfl (Nat.le_of_ble_eq_true rfl) [0, 1, 2, 3, 4, 5] [] rfl rfl rfl rfl (by decide) (fun q hq => Or.inr (hro q hq)) dX2_drawThrough_71 (fun u e9 => ?_)
            show V p l e (RM 4 101 0 0) s m args below meth c D A 6 0 0 Q (wS cI cZ h aE aL aF aR aS u) 74 [(5, .int (nI d6)), (4, .int (nI n0)), (0, .ref hi), (1, .int (nI k)), (2, .int (nI x0)), (3, .ref hw)] []
            refine r_iinc (k := 1) (v := (nI (n0 + 1))) (lv' := [(4, .int (nI (n0 + 1))), (5, .int (nI d6)), (0, .ref hi), (1, .int (nI k)), (2, .int (nI x0)), (3, .ref hw)]) hc dX2_drawThrough_74 rfl (nI_add _ _) (by decide) rfl ?_
            refine r_goto hc 3 dX2_drawThrough_77 (by decide) ?_
            refine r_lv [0, 2, 3, 4, 5] rfl ?_
            exact ih3 _ (by omega) u (n0 + 1) rfl (by omega) (hst2 n0 τ _ u h1 hJ h5 h7 h8 e9)
        · refine r_aload_n hc dX2_drawThrough_41 rfl 2 rfl ?_
          refine r_aload_n hc dX2_drawThrough_42 rfl 5 rfl ?_
          refine r_iload hc dX2_drawThrough_43 1 rfl ?_
          refine r_iload_n hc dX2_drawThrough_45 rfl 3 rfl ?_
          refine r_callV (As := [.ref hw, .int (nI n0), .int (nI k)]) (n := 3) (wr := []) hc (c_close l D cI cZ cW h aE aL aF aR aS τ hi hr1 hs1 hw aw col len n0 k hl (by omega) hcol hkM hPC) co_yX2_close in_X2 ml_X2_38 (by decide +kernel) rfl ⟨by decide, by decide⟩ ⟨by decide, by decide⟩ im_yX2_close se_yX2_close rfl (Or.inr ⟨_, (hro _ (List.mem_of_getElem? (i := 0) rfl))⟩) rfl (Nat.le_of_ble_eq_true rfl) [0, 1, 2, 3, 4, 5] [] rfl rfl rfl rfl (by decide) (fun q hq => Or.inr (hro q hq)) dX2_drawThrough_46 (fun u e10 => ?_)
          show V p l e (RM 4 101 0 0) s m args below meth c D A 6 0 0 Q (wS cI cZ h aE aL aF aR aS u) 49 [(5, .int (nI d6)), (4, .int (nI n0)), (0, .ref hi), (1, .int (nI k)), (2, .int (nI x0)), (3, .ref hw)] []
          refine r_goto hc 74 dX2_drawThrough_49 (by decide) ?_
          refine r_iinc (k := 1) (v := (nI (n0 + 1))) (lv' := [(4, .int (nI (n0 + 1))), (5, .int (nI d6)), (0, .ref hi), (1, .int (nI k)), (2, .int (nI x0)), (3, .ref hw)]) hc dX2_drawThrough_74 rfl (nI_add _ _) (by decide) rfl ?_
          refine r_goto hc 3 dX2_drawThrough_77 (by decide) ?_
          refine r_lv [0, 2, 3, 4, 5] rfl ?_
          exact ih3 _ (by omega) u (n0 + 1) rfl (by omega) (hst1 n0 τ _ u h1 hJ h5 h7 e10)
      · rw [← hQ]
        exact r_vret hc hr hlk τ (Or.inr ⟨n0, h1, hJ, h5⟩) rfl dX2_drawThrough_29
  refine r_lv [0, 1, 2, 3, 4] rfl ?_
  exact lp3 _ σ 0 rfl (Nat.zero_le _) hJ0
/-! lists of words -/
abbrev wL (cI cW : ClassId) (hl al n : Nat) (wa ca : Nat → Nat) (col : Nat → Nat → Nat) (len : Nat → Nat) (sz : Nat) : va_W := (hl, .inr (4, [.ref al, .int (nI sz)])) :: (al, .inl (cW, n, .inr (.inr (.inr (.inr (fun j => some (wa j))))))) :: (List.range n).flatMap (fun i => wW cI (wa i) (ca i) (col i) (len i))
theorem wL_word {cI cW : ClassId} {hl al n : Nat} {wa ca : Nat → Nat} {col : Nat → Nat → Nat} {len : Nat → Nat} {sz i : Nat} (hi : i < n) {q : Nat × va_E} (h : q ∈ wW cI (wa i) (ca i) (col i) (len i)) : q ∈ wL cI cW hl al n wa ca col len sz := List.mem_cons_of_mem _ (List.mem_cons_of_mem _ (List.mem_flatMap.mpr ⟨i, List.mem_range.mpr hi, h⟩))
set_option maxHeartbeats 4000000 in
set_option maxRecDepth 100000 in
/-- drawFromSubgroup() -/
theorem c_drawSub (l : Launch) (D : va_G) (cI cZ cW : ClassId) (h aE aL aF aR aS : Nat) (σ : CS) (hi hr1 hs1 ar as : Nat) (rwa rca : Nat → Nat) (rcol : Nat → Nat → Nat) (rlen : Nat → Nat) (nr : Nat) (swa sca : Nat → Nat) (scol : Nat → Nat → Nat) (slen : Nat → Nat) (ns : Nat) (hrl : ∀ i, i < nr → 1 ≤ rlen i ∧ rlen i ≤ 24 ∧ ∀ j, rcol i j < 6) (hnr : nr ≤ 10) (hsl : ∀ i, i < ns → 1 ≤ slen i ∧ slen i ≤ 24 ∧ ∀ j, scol i j < 6) (hns : ns ≤ 5) (K : Nat → CS → Prop) (hK0 : K 0 σ) (hpre : ∀ i τ, i < ns → K i τ → PreC τ ∧ 0 < sM τ) (hstep : ∀ i τ u, i < ns → K i τ → CloseR τ (scol i) (slen i) 0 0 u → K (i + 1) u) : CtV l yX2_drawFromSubgroup cX2_drawFromSubgroup 2 none 4 101 0 0 D cI cZ cW [.ref hi] (wS cI cZ h aE aL aF aR aS σ) ((hi, .inr (2, [.ref h, .ref hr1, .ref hs1])) :: (wL cI cW hr1 ar 10 rwa rca rcol rlen nr ++ wL cI cW hs1 as 5 swa sca scol slen ns)) (S := CS) (fun u => K ns u) (fun u => wS cI cZ h aE aL aF aR aS u) := by
  refine CtV.mk (by decide) (Nat.le_of_ble_eq_true rfl) ?_
  intro p e s m args below meth c A hc hr hlk hnm hro
  generalize hQ : MQ below _ args s 0 0 A = Q
  show V p l e (RM 4 101 0 0) s m args below meth c D A 2 0 0 Q (wS cI cZ h aE aL aF aR aS σ) 0 [(0, .ref hi)] []
  refine r_iconst (v := (nI 0)) hc dX2_drawFromSubgroup_0 rfl ?_
  refine r_istore_n (lv' := [(1, .int (nI 0)), (0, .ref hi)]) hc dX2_drawFromSubgroup_1 rfl (by decide) rfl ?_
  have lp2 : ∀ (n : Nat) (τ : CS) (i : Nat), ns - i = n → (i ≤ ns) → (K i τ) → V p l e (RM 4 101 0 0) s m args below meth c D A 2 0 0 Q (wS cI cZ h aE aL aF aR aS τ) 2 [(1, .int (nI i)), (0, .ref hi)] [] := by
    intro n
    induction n using Nat.strongRecOn with
    | _ n ih2 =>
    intro τ i hm2 hi1 hK
    refine r_iload_n hc dX2_drawFromSubgroup_2 rfl 0 rfl ?_
    refine r_aload_n hc dX2_drawFromSubgroup_3 rfl 1 rfl ?_
    refine r_getR hc inlX2 (hro _ (List.mem_of_getElem? (i := 0) rfl)) rfl 2 (by decide) fl_X2_19 rfl rfl dX2_drawFromSubgroup_4 ?_
    refine r_getRN hc inlX4 (hro _ (List.mem_cons_of_mem _ (List.mem_append_right _ (List.mem_of_getElem? (i := 0) rfl)))) rfl 1 (by decide) nf_X2_22 rfl rfl dX2_drawFromSubgroup_7 ?_
    refine n_icmp_ge hc 34 dX2_drawFromSubgroup_10 (by decide) (by omega) (by omega) (fun h1 => ?_) (fun h1 => ?_)
    · rw [← hQ]
      exact r_vret hc hr hlk τ ((show i = ns by omega) ▸ hK) rfl dX2_drawFromSubgroup_34
    · refine r_aload_n hc dX2_drawFromSubgroup_13 rfl 1 rfl ?_
      refine r_aload_n hc dX2_drawFromSubgroup_14 rfl 1 rfl ?_
      refine r_getR hc inlX2 (hro _ (List.mem_of_getElem? (i := 0) rfl)) rfl 2 (by decide) fl_X2_19 rfl rfl dX2_drawFromSubgroup_15 ?_
      refine r_getRN hc inlX4 (hro _ (List.mem_cons_of_mem _ (List.mem_append_right _ (List.mem_of_getElem? (i := 0) rfl)))) rfl 0 (by decide) nf_X2_34 rfl rfl dX2_drawFromSubgroup_18 ?_
      refine r_iload_n hc dX2_drawFromSubgroup_21 rfl 0 rfl ?_
      refine r_aldR hc (hro _ (List.mem_cons_of_mem _ (List.mem_append_right _ (List.mem_of_getElem? (i := 1) rfl)))) (by omega) (by decide) rfl dX2_drawFromSubgroup_22 ?_
      refine r_iconst (v := (nI 0)) hc dX2_drawFromSubgroup_23 rfl ?_
      refine r_iconst (v := (nI 0)) hc dX2_drawFromSubgroup_24 rfl ?_
      obtain ⟨hPC, h0M⟩ := hpre i τ h1 hK
      obtain ⟨l1, l2, l3⟩ := hsl i h1
      refine r_callV (As := [.ref (swa i), .int (nI 0), .int (nI 0)]) (n := 3) (wr := []) hc (c_close l D cI cZ cW h aE aL aF aR aS τ hi hr1 hs1 (swa i) (sca i) (scol i) (slen i) 0 0 l2 l1 l3 h0M hPC) co_yX2_close in_X2 ml_X2_38 (by decide +kernel) rfl ⟨by decide, by decide⟩ ⟨by decide, by decide⟩ im_yX2_close se_yX2_close rfl (Or.inr ⟨_, (hro _ (List.mem_of_getElem? (i := 0) rfl))⟩) rfl (Nat.le_of_ble_eq_true rfl) [0, 1, 2, 3, 4, 5] [] rfl rfl rfl rfl (by decide) (fun q hq => Or.inr ((List.mem_cons.mp hq).elim (fun z => z ▸ hro _ (List.mem_of_getElem? (i := 0) rfl)) (fun hq => hro q (List.mem_cons_of_mem _ (List.mem_append_right _ (wL_word (by omega) hq)))))) dX2_drawFromSubgroup_25 (fun u e2 => ?_)
      show V p l e (RM 4 101 0 0) s m args below meth c D A 2 0 0 Q (wS cI cZ h aE aL aF aR aS u) 28 [(1, .int (nI i)), (0, .ref hi)] []
      refine r_iinc (k := 0) (v := (nI (i + 1))) (lv' := [(1, .int (nI (i + 1))), (0, .ref hi)]) hc dX2_drawFromSubgroup_28 rfl (nI_add _ _) (by decide) rfl ?_
      refine r_goto hc 2 dX2_drawFromSubgroup_31 (by decide) ?_
      refine r_lv [0, 1] rfl ?_
      exact ih2 _ (by omega) u (i + 1) rfl (by omega) (hstep i τ u h1 hK e2)
  refine r_lv [0, 1] rfl ?_
  exact lp2 _ σ 0 rfl (Nat.zero_le _) hK0
