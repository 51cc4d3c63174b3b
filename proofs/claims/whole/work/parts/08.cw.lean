def mkE (f : Nat → Option Nat) (k : Nat) (x : Nat) : Nat → Option Nat := match x with | 0 => f | x + 1 => va_up (mkE f k x) (k * 6 + x) none
def fMake (σ : CS) : CS := (mkE (sE σ) (sM σ) 6, va_up (sL σ) (sM σ) (sM σ), sF σ, sFc σ, sR σ, sS σ, sRc σ, sO σ, sC σ, sM σ + 1, sV σ + 1)
set_option maxHeartbeats 4000000 in
set_option maxRecDepth 100000 in
/-- takeFresh() -/
theorem c_takeFresh (l : Launch) (D : va_G) (cI cZ cW : ClassId) (h aE aL aF aR aS : Nat) (σ : CS) (h1 : 1 ≤ sRc σ) (hB : BD σ) : CtI l yX1_takeFresh cX1_takeFresh 1 (some .int) 0 0 0 0 D cI cZ cW [.ref h] (wS cI cZ h aE aL aF aR aS σ) ([]) (S := CS) (fun r u => r = nI (sR σ (sRc σ - 1)) ∧ u = fTake σ) (fun u => wS cI cZ h aE aL aF aR aS u) := by
  refine CtI.mk (by decide) (Nat.le_of_ble_eq_true rfl) ?_
  intro p e s m args below meth c A hc hr hlk hnm hro
  generalize hQ : MQ below _ args s 0 0 A = Q
  have hB0 := hB
  obtain ⟨bM, bC, bL, bF, bR, bE, bRc, bFc, bV, bO⟩ := hB
  show V p l e (RM 0 0 0 0) s m args below meth c D A 1 0 0 Q (wS cI cZ h aE aL aF aR aS σ) 0 [(0, .ref h)] []
  refine r_aload_n hc dX1_takeFresh_0 rfl 0 rfl ?_
  refine r_dup hc dX1_takeFresh_1 rfl ?_
  refine r_get hc inlX1 0 rfl rfl 6 (by decide) fl_X1_56 rfl rfl dX1_takeFresh_2 ?_
  refine r_iconst (v := (nI 1)) hc dX1_takeFresh_5 rfl ?_
  refine n_sub hc dX1_takeFresh_6 (by omega) ?_
  refine r_put (ws' := wX cI cZ h aE aL aF aR aS (sE σ) (sL σ) (sF σ) (sFc σ) (sR σ) (sS σ) ((sRc σ) - 1) (sO σ) (sC σ) (sM σ) (sV σ)) hc inlX1 tyX1 tyX1_ok nmX1 0 rfl rfl 6 (by decide) fl_X1_56 rfl rfl rfl rfl (Nat.le_of_ble_eq_true rfl) rfl dX1_takeFresh_7 ?_
  refine r_aload_n hc dX1_takeFresh_10 rfl 0 rfl ?_
  refine r_get hc inlX1 0 rfl rfl 5 (by decide) fl_X1_24 rfl rfl dX1_takeFresh_11 ?_
  refine r_aload_n hc dX1_takeFresh_14 rfl 0 rfl ?_
  refine r_get hc inlX1 0 rfl rfl 4 (by decide) fl_X1_21 rfl rfl dX1_takeFresh_15 ?_
  refine r_aload_n hc dX1_takeFresh_18 rfl 0 rfl ?_
  refine r_get hc inlX1 0 rfl rfl 6 (by decide) fl_X1_56 rfl rfl dX1_takeFresh_19 ?_
  have b1 := bR ((sRc σ) - 1)
  refine r_iald hc nI 4 rfl (by omega) (by decide) dX1_takeFresh_22 ?_
  refine r_iconst (v := (nI 0)) hc dX1_takeFresh_23 rfl ?_
  refine r_zast (ws' := wX cI cZ h aE aL aF aR aS (sE σ) (sL σ) (sF σ) (sFc σ) (sR σ) (va_up (sS σ) ((sR σ) ((sRc σ) - 1)) false) ((sRc σ) - 1) (sO σ) (sC σ) (sM σ) (sV σ)) hc false 5 rfl (by omega) (by decide) rfl dX1_takeFresh_24 ?_
  refine r_aload_n hc dX1_takeFresh_25 rfl 0 rfl ?_
  refine r_get hc inlX1 0 rfl rfl 4 (by decide) fl_X1_21 rfl rfl dX1_takeFresh_26 ?_
  refine r_aload_n hc dX1_takeFresh_29 rfl 0 rfl ?_
  refine r_get hc inlX1 0 rfl rfl 6 (by decide) fl_X1_56 rfl rfl dX1_takeFresh_30 ?_
  have b2 := bR ((sRc σ) - 1)
  refine r_iald hc nI 4 rfl (by omega) (by decide) dX1_takeFresh_33 ?_
  rw [← hQ]
  exact r_iret hc hr hlk (sE σ, sL σ, sF σ, sFc σ, sR σ, va_up (sS σ) ((sR σ) ((sRc σ) - 1)) false, (sRc σ) - 1, sO σ, sC σ, sM σ, sV σ) (⟨rfl, rfl⟩) rfl dX1_takeFresh_34
set_option maxHeartbeats 4000000 in
set_option maxRecDepth 100000 in
/-- join(k, x, d) -/
theorem c_join (l : Launch) (D : va_G) (cI cZ cW : ClassId) (h aE aL aF aR aS : Nat) (σ : CS) (k x d : Nat) (hk : k < 200) (hx : x < 6) (hd : d < 200) (hf : sS σ (k * 6 + x) = false → sRc σ < 1200) (hB : BD σ) : CtV l yX1_join cX1_join 5 none 0 0 0 0 D cI cZ cW [.ref h, .int (nI k), .int (nI x), .int (nI d)] (wS cI cZ h aE aL aF aR aS σ) ([]) (S := CS) (fun u => u = fJoin σ k x d) (fun u => wS cI cZ h aE aL aF aR aS u) := by
  refine CtV.mk (by decide) (Nat.le_of_ble_eq_true rfl) ?_
  intro p e s m args below meth c A hc hr hlk hnm hro
  generalize hQ : MQ below _ args s 0 0 A = Q
  have hB0 := hB
  obtain ⟨bM, bC, bL, bF, bR, bE, bRc, bFc, bV, bO⟩ := hB
  have hx1 := xor1_lt hx
  show V p l e (RM 0 0 0 0) s m args below meth c D A 5 0 0 Q (wS cI cZ h aE aL aF aR aS σ) 0 [(0, .ref h), (1, .int (nI k)), (2, .int (nI x)), (3, .int (nI d))] []
  refine r_iload_n hc dX1_join_0 rfl 1 rfl ?_
  refine r_bipush (v := (nI 6)) hc dX1_join_1 rfl ?_
  refine n_mul hc dX1_join_3 ?_
  refine r_iload_n hc dX1_join_4 rfl 2 rfl ?_
  refine n_add hc dX1_join_5 ?_
  refine r_istore (lv' := [(4, .int (nI ((k * 6) + x))), (0, .ref h), (1, .int (nI k)), (2, .int (nI x)), (3, .int (nI d))]) hc dX1_join_6 (by decide) rfl ?_
  refine r_aload_n hc dX1_join_8 rfl 1 rfl ?_
  refine r_get hc inlX1 0 rfl rfl 0 (by decide) fl_X1_9 rfl rfl dX1_join_9 ?_
  refine r_iload hc dX1_join_12 0 rfl ?_
  refine r_iload_n hc dX1_join_14 rfl 4 rfl ?_
  refine r_iast (ws' := wX cI cZ h aE aL aF aR aS (va_up (sE σ) ((k * 6) + x) (some d)) (sL σ) (sF σ) (sFc σ) (sR σ) (sS σ) (sRc σ) (sO σ) (sC σ) (sM σ) (sV σ)) hc eI (some d) 1 rfl (by omega) (by decide) rfl dX1_join_15 ?_
  refine r_aload_n hc dX1_join_16 rfl 1 rfl ?_
  refine r_get hc inlX1 0 rfl rfl 0 (by decide) fl_X1_9 rfl rfl dX1_join_17 ?_
  refine r_iload_n hc dX1_join_20 rfl 4 rfl ?_
  refine r_bipush (v := (nI 6)) hc dX1_join_21 rfl ?_
  refine n_mul hc dX1_join_23 ?_
  refine r_iload_n hc dX1_join_24 rfl 3 rfl ?_
  refine r_iconst (v := (nI 1)) hc dX1_join_25 rfl ?_
  refine n_xor hc dX1_join_26 ?_
  refine n_add hc dX1_join_27 ?_
  refine r_iload_n hc dX1_join_28 rfl 2 rfl ?_
  refine r_iast (ws' := wX cI cZ h aE aL aF aR aS (va_up (va_up (sE σ) ((k * 6) + x) (some d)) ((d * 6) + (x ^^^ 1)) (some k)) (sL σ) (sF σ) (sFc σ) (sR σ) (sS σ) (sRc σ) (sO σ) (sC σ) (sM σ) (sV σ)) hc eI (some k) 1 rfl (by omega) (by decide) rfl dX1_join_29 ?_
  refine r_aload_n hc dX1_join_30 rfl 1 rfl ?_
  refine r_get hc inlX1 0 rfl rfl 5 (by decide) fl_X1_24 rfl rfl dX1_join_31 ?_
  refine r_iload hc dX1_join_34 0 rfl ?_
  refine r_zald hc zI 5 rfl (by omega) (by decide) dX1_join_36 ?_
  refine z_if_ne hc 69 dX1_join_37 (by decide) (fun h1 => ?_) (fun h1 => ?_)
  · rw [← hQ]
    exact r_vret hc hr hlk (va_up (va_up (sE σ) ((k * 6) + x) (some d)) ((d * 6) + (x ^^^ 1)) (some k), sL σ, sF σ, sFc σ, sR σ, sS σ, sRc σ, sO σ, sC σ, sM σ, sV σ) ((if_pos h1).symm) rfl dX1_join_69
  · have hf1 := hf h1
    refine r_aload_n hc dX1_join_40 rfl 1 rfl ?_
    refine r_get hc inlX1 0 rfl rfl 5 (by decide) fl_X1_24 rfl rfl dX1_join_41 ?_
    refine r_iload hc dX1_join_44 0 rfl ?_
    refine r_iconst (v := (nI 1)) hc dX1_join_46 rfl ?_
    refine r_zast (ws' := wX cI cZ h aE aL aF aR aS (va_up (va_up (sE σ) ((k * 6) + x) (some d)) ((d * 6) + (x ^^^ 1)) (some k)) (sL σ) (sF σ) (sFc σ) (sR σ) (va_up (sS σ) ((k * 6) + x) true) (sRc σ) (sO σ) (sC σ) (sM σ) (sV σ)) hc true 5 rfl (by omega) (by decide) rfl dX1_join_47 ?_
    refine r_aload_n hc dX1_join_48 rfl 1 rfl ?_
    refine r_get hc inlX1 0 rfl rfl 4 (by decide) fl_X1_21 rfl rfl dX1_join_49 ?_
    refine r_aload_n hc dX1_join_52 rfl 1 rfl ?_
    refine r_get hc inlX1 0 rfl rfl 6 (by decide) fl_X1_56 rfl rfl dX1_join_53 ?_
    refine r_iload hc dX1_join_56 0 rfl ?_
    refine r_iast (ws' := wX cI cZ h aE aL aF aR aS (va_up (va_up (sE σ) ((k * 6) + x) (some d)) ((d * 6) + (x ^^^ 1)) (some k)) (sL σ) (sF σ) (sFc σ) (va_up (sR σ) (sRc σ) ((k * 6) + x)) (va_up (sS σ) ((k * 6) + x) true) (sRc σ) (sO σ) (sC σ) (sM σ) (sV σ)) hc nI ((k * 6) + x) 4 rfl (by omega) (by decide) rfl dX1_join_58 ?_
    refine r_aload_n hc dX1_join_59 rfl 1 rfl ?_
    refine r_dup hc dX1_join_60 rfl ?_
    refine r_get hc inlX1 0 rfl rfl 6 (by decide) fl_X1_56 rfl rfl dX1_join_61 ?_
    refine r_iconst (v := (nI 1)) hc dX1_join_64 rfl ?_
    refine n_add hc dX1_join_65 ?_
    refine r_put (ws' := wX cI cZ h aE aL aF aR aS (va_up (va_up (sE σ) ((k * 6) + x) (some d)) ((d * 6) + (x ^^^ 1)) (some k)) (sL σ) (sF σ) (sFc σ) (va_up (sR σ) (sRc σ) ((k * 6) + x)) (va_up (sS σ) ((k * 6) + x) true) ((sRc σ) + 1) (sO σ) (sC σ) (sM σ) (sV σ)) hc inlX1 tyX1 tyX1_ok nmX1 0 rfl rfl 6 (by decide) fl_X1_56 rfl rfl rfl rfl (Nat.le_of_ble_eq_true rfl) rfl dX1_join_66 ?_
    rw [← hQ]
    exact r_vret hc hr hlk (va_up (va_up (sE σ) ((k * 6) + x) (some d)) ((d * 6) + (x ^^^ 1)) (some k), sL σ, sF σ, sFc σ, va_up (sR σ) (sRc σ) ((k * 6) + x), va_up (sS σ) ((k * 6) + x) true, (sRc σ) + 1, sO σ, sC σ, sM σ, sV σ) ((if_neg (by rw [h1]; decide)).symm) rfl dX1_join_69
set_option maxHeartbeats 4000000 in
set_option maxRecDepth 100000 in
/-- make() -/
theorem c_make (l : Launch) (D : va_G) (cI cZ cW : ClassId) (h aE aL aF aR aS : Nat) (σ : CS) (hm : sM σ < 200) (hB : BD σ) : CtI l yX1_make cX1_make 3 (some .int) 0 0 0 0 D cI cZ cW [.ref h] (wS cI cZ h aE aL aF aR aS σ) ([]) (S := CS) (fun r u => r = nI (sM σ) ∧ u = fMake σ) (fun u => wS cI cZ h aE aL aF aR aS u) := by
  refine CtI.mk (by decide) (Nat.le_of_ble_eq_true rfl) ?_
  intro p e s m args below meth c A hc hr hlk hnm hro
  generalize hQ : MQ below _ args s 0 0 A = Q
  have hB0 := hB
  obtain ⟨bM, bC, bL, bF, bR, bE, bRc, bFc, bV, bO⟩ := hB
  show V p l e (RM 0 0 0 0) s m args below meth c D A 3 0 0 Q (wS cI cZ h aE aL aF aR aS σ) 0 [(0, .ref h)] []
  refine r_aload_n hc dX1_make_0 rfl 0 rfl ?_
  refine r_get hc inlX1 0 rfl rfl 9 (by decide) fl_X1_32 rfl rfl dX1_make_1 ?_
  refine r_istore_n (lv' := [(1, .int (nI (sM σ))), (0, .ref h)]) hc dX1_make_4 rfl (by decide) rfl ?_
  refine r_iconst (v := (nI 0)) hc dX1_make_5 rfl ?_
  refine r_istore_n (lv' := [(2, .int (nI 0)), (1, .int (nI (sM σ))), (0, .ref h)]) hc dX1_make_6 rfl (by decide) rfl ?_
  have lp7 : ∀ (n : Nat) (x : Nat), 6 - x = n → (x ≤ 6) → V p l e (RM 0 0 0 0) s m args below meth c D A 3 0 0 Q (wX cI cZ h aE aL aF aR aS (mkE (sE σ) (sM σ) x) (sL σ) (sF σ) (sFc σ) (sR σ) (sS σ) (sRc σ) (sO σ) (sC σ) (sM σ) (sV σ)) 7 [(2, .int (nI x)), (1, .int (nI (sM σ))), (0, .ref h)] [] := by
    intro n
    induction n using Nat.strongRecOn with
    | _ n ih7 =>
    intro x hm7 hx
    refine r_iload_n hc dX1_make_7 rfl 0 rfl ?_
    refine r_bipush (v := (nI 6)) hc dX1_make_8 rfl ?_
    refine n_icmp_ge hc 31 dX1_make_10 (by decide) (by omega) (by omega) (fun h1 => ?_) (fun h1 => ?_)
    · obtain rfl : x = 6 := by omega
      show V p l e (RM 0 0 0 0) s m args below meth c D A 3 0 0 Q (wX cI cZ h aE aL aF aR aS (mkE (sE σ) (sM σ) 6) (sL σ) (sF σ) (sFc σ) (sR σ) (sS σ) (sRc σ) (sO σ) (sC σ) (sM σ) (sV σ)) 31 [(2, .int (nI 6)), (1, .int (nI (sM σ))), (0, .ref h)] []
      refine r_aload_n hc dX1_make_31 rfl 2 rfl ?_
      refine r_get hc inlX1 0 rfl rfl 1 (by decide) fl_X1_15 rfl rfl dX1_make_32 ?_
      refine r_iload_n hc dX1_make_35 rfl 1 rfl ?_
      refine r_iload_n hc dX1_make_36 rfl 1 rfl ?_
      refine r_iast (ws' := wX cI cZ h aE aL aF aR aS (mkE (sE σ) (sM σ) 6) (va_up (sL σ) (sM σ) (sM σ)) (sF σ) (sFc σ) (sR σ) (sS σ) (sRc σ) (sO σ) (sC σ) (sM σ) (sV σ)) hc nI (sM σ) 2 rfl (by omega) (by decide) rfl dX1_make_37 ?_
      refine r_aload_n hc dX1_make_38 rfl 2 rfl ?_
      refine r_dup hc dX1_make_39 rfl ?_
      refine r_get hc inlX1 0 rfl rfl 9 (by decide) fl_X1_32 rfl rfl dX1_make_40 ?_
      refine r_iconst (v := (nI 1)) hc dX1_make_43 rfl ?_
      refine n_add hc dX1_make_44 ?_
      refine r_put (ws' := wX cI cZ h aE aL aF aR aS (mkE (sE σ) (sM σ) 6) (va_up (sL σ) (sM σ) (sM σ)) (sF σ) (sFc σ) (sR σ) (sS σ) (sRc σ) (sO σ) (sC σ) ((sM σ) + 1) (sV σ)) hc inlX1 tyX1 tyX1_ok nmX1 0 rfl rfl 9 (by decide) fl_X1_32 rfl rfl rfl rfl (Nat.le_of_ble_eq_true rfl) rfl dX1_make_45 ?_
      refine r_aload_n hc dX1_make_48 rfl 2 rfl ?_
      refine r_dup hc dX1_make_49 rfl ?_
      refine r_get hc inlX1 0 rfl rfl 10 (by decide) fl_X1_35 rfl rfl dX1_make_50 ?_
      refine r_iconst (v := (nI 1)) hc dX1_make_53 rfl ?_
      refine n_add hc dX1_make_54 ?_
      refine r_put (ws' := wX cI cZ h aE aL aF aR aS (mkE (sE σ) (sM σ) 6) (va_up (sL σ) (sM σ) (sM σ)) (sF σ) (sFc σ) (sR σ) (sS σ) (sRc σ) (sO σ) (sC σ) ((sM σ) + 1) ((sV σ) + 1)) hc inlX1 tyX1 tyX1_ok nmX1 0 rfl rfl 10 (by decide) fl_X1_35 rfl rfl rfl rfl (Nat.le_of_ble_eq_true rfl) rfl dX1_make_55 ?_
      refine r_iload_n hc dX1_make_58 rfl 1 rfl ?_
      rw [← hQ]
      exact r_iret hc hr hlk (mkE (sE σ) (sM σ) 6, va_up (sL σ) (sM σ) (sM σ), sF σ, sFc σ, sR σ, sS σ, sRc σ, sO σ, sC σ, (sM σ) + 1, (sV σ) + 1) (⟨rfl, rfl⟩) rfl dX1_make_59
    · refine r_aload_n hc dX1_make_13 rfl 2 rfl ?_
      refine r_get hc inlX1 0 rfl rfl 0 (by decide) fl_X1_9 rfl rfl dX1_make_14 ?_
      refine r_iload_n hc dX1_make_17 rfl 1 rfl ?_
      refine r_bipush (v := (nI 6)) hc dX1_make_18 rfl ?_
      refine n_mul hc dX1_make_20 ?_
      refine r_iload_n hc dX1_make_21 rfl 0 rfl ?_
      refine n_add hc dX1_make_22 ?_
      refine r_iconst (v := (-1)) hc dX1_make_23 rfl ?_
      refine r_iast (ws' := wX cI cZ h aE aL aF aR aS (va_up (mkE (sE σ) (sM σ) x) (((sM σ) * 6) + x) none) (sL σ) (sF σ) (sFc σ) (sR σ) (sS σ) (sRc σ) (sO σ) (sC σ) (sM σ) (sV σ)) hc eI none 1 rfl (by omega) (by decide) rfl dX1_make_24 ?_
      refine r_iinc (k := 0) (v := (nI (x + 1))) (lv' := [(2, .int (nI (x + 1))), (1, .int (nI (sM σ))), (0, .ref h)]) hc dX1_make_25 rfl (nI_add _ _) (by decide) rfl ?_
      refine r_goto hc 7 dX1_make_28 (by decide) ?_
      refine r_lv [0, 1, 2] rfl ?_
      exact ih7 _ (by omega) (x + 1) rfl (by omega)
  refine r_lv [0, 1, 2] rfl ?_
  exact lp7 _ 0 rfl (by decide)
set_option maxHeartbeats 4000000 in
set_option maxRecDepth 100000 in
/-- findOpen() -/
theorem c_findOpen (l : Launch) (D : va_G) (cI cZ cW : ClassId) (h aE aL aF aR aS : Nat) (σ : CS) (hB : BD σ) : CtI l yX1_findOpen cX1_findOpen 1 (some .boolean) 2 42 0 0 D cI cZ cW [.ref h] (wS cI cZ h aE aL aF aR aS σ) ([]) (S := CS) (fun r u => ∃ o, u = (sE σ, sL σ, sF σ, sFc σ, sR σ, sS σ, sRc σ, o, sC σ, sM σ, sV σ) ∧ sO σ ≤ o ∧ o ≤ max (sO σ) (sM σ * 6) ∧ (∀ p, sO σ ≤ p → p < o → opn σ p = false) ∧ r = zI (decide (o < sM σ * 6)) ∧ (o < sM σ * 6 → opn σ o = true)) (fun u => wS cI cZ h aE aL aF aR aS u) := by
  refine CtI.mk (by decide) (Nat.le_of_ble_eq_true rfl) ?_
  intro p e s m args below meth c A hc hr hlk hnm hro
  generalize hQ : MQ below _ args s 0 0 A = Q
  have hB0 := hB
  obtain ⟨bM, bC, bL, bF, bR, bE, bRc, bFc, bV, bO⟩ := hB
  show V p l e (RM 2 42 0 0) s m args below meth c D A 1 0 0 Q (wS cI cZ h aE aL aF aR aS σ) 0 [(0, .ref h)] []
  have lp0 : ∀ (n : Nat) (o : Nat), 1200 + sM σ * 6 - o = n → (sO σ ≤ o) → (o ≤ max (sO σ) (sM σ * 6)) → (∀ p, sO σ ≤ p → p < o → opn σ p = false) → V p l e (RM 2 42 0 0) s m args below meth c D A 1 0 0 Q (wX cI cZ h aE aL aF aR aS (sE σ) (sL σ) (sF σ) (sFc σ) (sR σ) (sS σ) (sRc σ) o (sC σ) (sM σ) (sV σ)) 0 [(0, .ref h)] [] := by
    intro n
    induction n using Nat.strongRecOn with
    | _ n ih0 =>
    intro o hm0 hlo hhi ho
    refine r_aload_n hc dX1_findOpen_0 rfl 0 rfl ?_
    refine r_get hc inlX1 0 rfl rfl 7 (by decide) fl_X1_38 rfl rfl dX1_findOpen_1 ?_
    refine r_aload_n hc dX1_findOpen_4 rfl 0 rfl ?_
    refine r_get hc inlX1 0 rfl rfl 9 (by decide) fl_X1_32 rfl rfl dX1_findOpen_5 ?_
    refine r_bipush (v := (nI 6)) hc dX1_findOpen_8 rfl ?_
    refine n_mul hc dX1_findOpen_10 ?_
    refine n_icmp_ge hc 38 dX1_findOpen_11 (by decide) (by omega) (by omega) (fun h1 => ?_) (fun h1 => ?_)
    · refine r_aload_n hc dX1_findOpen_38 rfl 0 rfl ?_
      refine r_get hc inlX1 0 rfl rfl 7 (by decide) fl_X1_38 rfl rfl dX1_findOpen_39 ?_
      refine r_aload_n hc dX1_findOpen_42 rfl 0 rfl ?_
      refine r_get hc inlX1 0 rfl rfl 9 (by decide) fl_X1_32 rfl rfl dX1_findOpen_43 ?_
      refine r_bipush (v := (nI 6)) hc dX1_findOpen_46 rfl ?_
      refine n_mul hc dX1_findOpen_48 ?_
      refine n_icmp_ge hc 56 dX1_findOpen_49 (by decide) (by omega) (by omega) (fun h2 => ?_) (fun h2 => ?_)
      · refine r_iconst (v := (nI 0)) hc dX1_findOpen_56 rfl ?_
        rw [← hQ]
        exact r_zret (b := false) hc hr hlk (sE σ, sL σ, sF σ, sFc σ, sR σ, sS σ, sRc σ, o, sC σ, sM σ, sV σ) ⟨o, rfl, hlo, hhi, ho, congrArg zI (by simp; omega), fun q => by omega⟩ rfl dX1_findOpen_57
      · exact absurd h2 (by omega)
    · refine r_aload_n hc dX1_findOpen_14 rfl 0 rfl ?_
      refine r_aload_n hc dX1_findOpen_15 rfl 0 rfl ?_
      refine r_get hc inlX1 0 rfl rfl 7 (by decide) fl_X1_38 rfl rfl dX1_findOpen_16 ?_
      refine r_callI (As := [.int (nI o)]) (n := 1) (wr := wX cI cZ h aE aL aF aR aS (sE σ) (sL σ) (sF σ) (sFc σ) (sR σ) (sS σ) (sRc σ) o (sC σ) (sM σ) (sV σ)) hc (c_isOpen l D cI cZ cW h aE aL aF aR aS (sE σ, sL σ, sF σ, sFc σ, sR σ, sS σ, sRc σ, o, sC σ, sM σ, sV σ) o (by omega) (show BD (sE σ, sL σ, sF σ, sFc σ, sR σ, sS σ, sRc σ, o, sC σ, sM σ, sV σ) from ⟨bM, bC, bL, bF, bR, bE, bRc, bFc, bV, (show o ≤ 1200 by omega)⟩)) co_yX1_isOpen in_X1 ml_X1_45 (by decide +kernel) rfl ⟨by decide, by decide⟩ ⟨by decide, by decide⟩ im_yX1_isOpen se_yX1_isOpen rfl (Or.inl ⟨0, _, rfl⟩) rfl (by decide) [] [0, 1, 2, 3, 4, 5] rfl rfl rfl rfl (by decide) (fun q hq => Or.inl ((List.getElem?_of_mem hq).elim fun k hk => ⟨k, hk, List.not_mem_nil⟩)) dX1_findOpen_19 (fun r3 u4 e5 => ?_)
      subst e5
      change V _ _ _ _ _ _ _ _ _ _ _ _ _ _ _ _ _ _ _ [.int (zI (opn σ o))]
      refine z_if_ne hc 38 dX1_findOpen_22 (by decide) (fun h6 => ?_) (fun h6 => ?_)
      · have hop : opn σ o = true := h6
        refine r_aload_n hc dX1_findOpen_38 rfl 0 rfl ?_
        refine r_get hc inlX1 0 rfl rfl 7 (by decide) fl_X1_38 rfl rfl dX1_findOpen_39 ?_
        refine r_aload_n hc dX1_findOpen_42 rfl 0 rfl ?_
        refine r_get hc inlX1 0 rfl rfl 9 (by decide) fl_X1_32 rfl rfl dX1_findOpen_43 ?_
        refine r_bipush (v := (nI 6)) hc dX1_findOpen_46 rfl ?_
        refine n_mul hc dX1_findOpen_48 ?_
        refine n_icmp_ge hc 56 dX1_findOpen_49 (by decide) (by omega) (by omega) (fun h7 => ?_) (fun h7 => ?_)
        · exact absurd h7 (by omega)
        · refine r_iconst (v := (nI 1)) hc dX1_findOpen_52 rfl ?_
          refine r_goto hc 57 dX1_findOpen_53 (by decide) ?_
          rw [← hQ]
          exact r_zret (b := true) hc hr hlk (sE σ, sL σ, sF σ, sFc σ, sR σ, sS σ, sRc σ, o, sC σ, sM σ, sV σ) ⟨o, rfl, hlo, hhi, ho, congrArg zI (by simp; omega), fun _ => hop⟩ rfl dX1_findOpen_57
      · refine r_aload_n hc dX1_findOpen_25 rfl 0 rfl ?_
        refine r_dup hc dX1_findOpen_26 rfl ?_
        refine r_get hc inlX1 0 rfl rfl 7 (by decide) fl_X1_38 rfl rfl dX1_findOpen_27 ?_
        refine r_iconst (v := (nI 1)) hc dX1_findOpen_30 rfl ?_
        refine n_add hc dX1_findOpen_31 ?_
        refine r_put (ws' := wX cI cZ h aE aL aF aR aS (sE σ) (sL σ) (sF σ) (sFc σ) (sR σ) (sS σ) (sRc σ) (o + 1) (sC σ) (sM σ) (sV σ)) hc inlX1 tyX1 tyX1_ok nmX1 0 rfl rfl 7 (by decide) fl_X1_38 rfl rfl rfl rfl (Nat.le_of_ble_eq_true rfl) rfl dX1_findOpen_32 ?_
        refine r_goto hc 0 dX1_findOpen_35 (by decide) ?_
        refine r_lv [0] rfl ?_
        exact ih0 _ (by omega) (o + 1) rfl (by omega) (by omega) (fun p q1 q2 => if q : p = o then q ▸ h6 else ho p q1 (by omega))
  refine r_lv [0] rfl ?_
  exact lp0 _ (sO σ) rfl (Nat.le_refl _) (Nat.le_max_left _ _) (fun p h1 h2 => absurd h1 (by omega))
