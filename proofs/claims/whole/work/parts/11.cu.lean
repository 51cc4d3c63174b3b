def fU0 (σ : CS) : CS := (sE σ, sL σ, sF σ, 0, sR σ, sS σ, sRc σ, sO σ, sC σ, sM σ, sV σ)
def unI (τ : CS) (i : Nat) : CS := match i with | 0 => τ | i + 1 => hoI (unI τ i) (sF (unI τ i) i) (sC (unI τ i))
/-- what unite leaves: the fallen are handed over as long as there is one -/
def UnEnd (τ u : CS) : Prop := ∃ N, u = unI τ N ∧ N ≤ 200 ∧ (∀ j, j < N → j < sFc (unI τ j)) ∧ (N < 200 → sFc (unI τ N) ≤ N)
set_option maxHeartbeats 4000000 in
set_option maxRecDepth 100000 in
/-- unite(k, d) -/
theorem c_unite (l : Launch) (D : va_G) (cI cZ cW : ClassId) (h aE aL aF aR aS : Nat) (σ : CS) (k d : Nat) (hk : k < 200) (hd : d < 200) (hV : ¬ sL (fU0 σ) k = sL (fU0 σ) d → 1 ≤ sV (fU0 σ)) (hB : BD (fU0 σ)) (hBi : ∀ i, i ≤ 200 → (∀ j, j < i → j < sFc (unI (fFall (fU0 σ) k d) j)) → BD (unI (fFall (fU0 σ) k d) i)) (hP : ∀ i, i < 200 → (∀ j, j < i + 1 → j < sFc (unI (fFall (fU0 σ) k d) j)) → ∀ x, x < sC (unI (fFall (fU0 σ) k d) i) → PreHo (hoI (unI (fFall (fU0 σ) k d) i) (sF (unI (fFall (fU0 σ) k d) i) i) x)) : CtV l yX1_unite cX1_unite 4 none 2 50 0 0 D cI cZ cW [.ref h, .int (nI k), .int (nI d)] (wS cI cZ h aE aL aF aR aS σ) ([]) (S := CS) (fun u => UnEnd (fFall (fU0 σ) k d) u) (fun u => wS cI cZ h aE aL aF aR aS u) := by
  refine CtV.mk (by decide) (Nat.le_of_ble_eq_true rfl) ?_
  intro p e s m args below meth c A hc hr hlk hnm hro
  generalize hQ : MQ below _ args s 0 0 A = Q
  show V p l e (RM 2 50 0 0) s m args below meth c D A 4 0 0 Q (wS cI cZ h aE aL aF aR aS σ) 0 [(0, .ref h), (1, .int (nI k)), (2, .int (nI d))] []
  refine r_aload_n hc dX1_unite_0 rfl 0 rfl ?_
  refine r_iconst (v := (nI 0)) hc dX1_unite_1 rfl ?_
  refine r_put (ws' := wX cI cZ h aE aL aF aR aS (sE σ) (sL σ) (sF σ) 0 (sR σ) (sS σ) (sRc σ) (sO σ) (sC σ) (sM σ) (sV σ)) hc inlX1 tyX1 tyX1_ok nmX1 0 rfl rfl 3 (by decide) fl_X1_59 rfl rfl rfl rfl (Nat.le_of_ble_eq_true rfl) rfl dX1_unite_2 ?_
  refine r_aload_n hc dX1_unite_5 rfl 0 rfl ?_
  refine r_iload_n hc dX1_unite_6 rfl 1 rfl ?_
  refine r_iload_n hc dX1_unite_7 rfl 2 rfl ?_
  show V p l e (RM 2 50 0 0) s m args below meth c D A 4 0 0 Q (wS cI cZ h aE aL aF aR aS (fU0 σ)) 8 [(0, .ref h), (1, .int (nI k)), (2, .int (nI d))] [.int (nI d), .int (nI k), .ref h]
  refine r_callV (As := [.int (nI k), .int (nI d)]) (n := 2) (wr := []) hc (c_fall l D cI cZ cW h aE aL aF aR aS (fU0 σ) k d hk hd (fun _ => by show 0 < 200; decide) hV hB) co_yX1_fall in_X1 ml_X1_62 (by decide +kernel) rfl ⟨by decide, by decide⟩ ⟨by decide, by decide⟩ im_yX1_fall se_yX1_fall rfl (Or.inl ⟨0, _, rfl⟩) rfl (Nat.le_of_ble_eq_true rfl) [0, 1, 2, 3, 4, 5] [] rfl rfl rfl rfl (by decide) (fun q hq => absurd hq List.not_mem_nil) dX1_unite_8 (fun u e1 => ?_)
  show V p l e (RM 2 50 0 0) s m args below meth c D A 4 0 0 Q (wS cI cZ h aE aL aF aR aS u) 11 [(0, .ref h), (1, .int (nI k)), (2, .int (nI d))] []
  subst e1
  refine r_iconst (v := (nI 0)) hc dX1_unite_11 rfl ?_
  refine r_istore_n (lv' := [(3, .int (nI 0)), (0, .ref h), (1, .int (nI k)), (2, .int (nI d))]) hc dX1_unite_12 rfl (by decide) rfl ?_
  have lp13 : ∀ (n : Nat) (i : Nat), 200 - i = n → (i ≤ 200) → (∀ j, j < i → j < sFc (unI (fFall (fU0 σ) k d) j)) → V p l e (RM 2 50 0 0) s m args below meth c D A 4 0 0 Q (wS cI cZ h aE aL aF aR aS (unI (fFall (fU0 σ) k d) i)) 13 [(3, .int (nI i)), (0, .ref h), (1, .int (nI k)), (2, .int (nI d))] [] := by
    intro n
    induction n using Nat.strongRecOn with
    | _ n ih13 =>
    intro i hm13 hi hpre
    obtain ⟨τ, hτ⟩ : ∃ τ, τ = unI (fFall (fU0 σ) k d) i := ⟨_, rfl⟩
    have hBτ := hBi i hi hpre
    rw [← hτ] at hBτ ⊢
    obtain ⟨tM, tC, tL, tF, tR, tE, tRc, tFc, tV, tO⟩ := hBτ
    refine r_iload_n hc dX1_unite_13 rfl 0 rfl ?_
    refine r_aload_n hc dX1_unite_14 rfl 1 rfl ?_
    refine r_get hc inlX1 0 rfl rfl 3 (by decide) fl_X1_59 rfl rfl dX1_unite_15 ?_
    refine n_icmp_ge hc 44 dX1_unite_18 (by decide) (by omega) (by omega) (fun h2 => ?_) (fun h2 => ?_)
    · rw [← hQ]
      exact r_vret hc hr hlk τ ⟨i, hτ, hi, hpre, fun _ => by rw [← hτ]; omega⟩ rfl dX1_unite_44
    · refine r_iload_n hc dX1_unite_21 rfl 0 rfl ?_
      refine r_sipush (v := (nI 200)) hc dX1_unite_22 rfl ?_
      refine n_icmp_ge hc 44 dX1_unite_25 (by decide) (by omega) (by omega) (fun h3 => ?_) (fun h3 => ?_)
      · rw [← hQ]
        exact r_vret hc hr hlk τ ⟨i, hτ, hi, hpre, fun q => absurd q (by omega)⟩ rfl dX1_unite_44
      · refine r_aload_n hc dX1_unite_28 rfl 1 rfl ?_
        refine r_aload_n hc dX1_unite_29 rfl 1 rfl ?_
        refine r_get hc inlX1 0 rfl rfl 2 (by decide) fl_X1_18 rfl rfl dX1_unite_30 ?_
        refine r_iload_n hc dX1_unite_33 rfl 0 rfl ?_
        have b4 := tF i
        refine r_iald hc nI 3 rfl (by omega) (by decide) dX1_unite_34 ?_
        have hpj : ∀ j, j < i + 1 → j < sFc (unI (fFall (fU0 σ) k d) j) := fun j q => if z : j = i then by rw [z, ← hτ]; exact h2 else hpre j (by omega)
        have hPh := hP i (by omega) hpj
        rw [← hτ] at hPh
        refine r_callV (As := [.int (nI ((sF τ) i))]) (n := 1) (wr := []) hc (c_handOver l D cI cZ cW h aE aL aF aR aS τ (sF τ i) (tF _) tC hPh) co_yX1_handOver in_X1 ml_X1_66 (by decide +kernel) rfl ⟨by decide, by decide⟩ ⟨by decide, by decide⟩ im_yX1_handOver se_yX1_handOver rfl (Or.inl ⟨0, _, rfl⟩) rfl (Nat.le_of_ble_eq_true rfl) [0, 1, 2, 3, 4, 5] [] rfl rfl rfl rfl (by decide) (fun q hq => absurd hq List.not_mem_nil) dX1_unite_35 (fun u e5 => ?_)
        show V p l e (RM 2 50 0 0) s m args below meth c D A 4 0 0 Q (wS cI cZ h aE aL aF aR aS u) 38 [(3, .int (nI i)), (0, .ref h), (1, .int (nI k)), (2, .int (nI d))] []
        have hnx : u = unI (fFall (fU0 σ) k d) (i + 1) := by rw [unI, ← hτ, e5]
        rw [hnx]
        refine r_iinc (k := 0) (v := (nI (i + 1))) (lv' := [(3, .int (nI (i + 1))), (0, .ref h), (1, .int (nI k)), (2, .int (nI d))]) hc dX1_unite_38 rfl (nI_add _ _) (by decide) rfl ?_
        refine r_goto hc 13 dX1_unite_41 (by decide) ?_
        refine r_lv [0, 1, 2, 3] rfl ?_
        exact ih13 _ (by omega) (i + 1) rfl (by omega) hpj
  refine r_lv [0, 1, 2, 3] rfl ?_
  exact lp13 _ 0 rfl (Nat.zero_le _) (fun j q => absurd q (Nat.not_lt_zero j))
set_option maxHeartbeats 4000000 in
set_option maxRecDepth 100000 in
/-- makeNeighbour() -/
theorem c_makeNeighbour (l : Launch) (D : va_G) (cI cZ cW : ClassId) (h aE aL aF aR aS : Nat) (σ : CS) (hm : sM σ < 200) (ho : sO σ < 1200) (hf : sS (fMake σ) (sO σ / 6 * 6 + sO σ % 6) = false → sRc (fMake σ) < 1200) (hBm : BD (fMake σ)) (hB : BD σ) : CtI l yX1_makeNeighbour cX1_makeNeighbour 2 (some .int) 1 24 0 0 D cI cZ cW [.ref h] (wS cI cZ h aE aL aF aR aS σ) ([]) (S := CS) (fun r u => r = nI (sM σ) ∧ u = fJoin (fMake σ) (sO σ / 6) (sO σ % 6) (sM σ)) (fun u => wS cI cZ h aE aL aF aR aS u) := by
  refine CtI.mk (by decide) (Nat.le_of_ble_eq_true rfl) ?_
  intro p e s m args below meth c A hc hr hlk hnm hro
  generalize hQ : MQ below _ args s 0 0 A = Q
  have hB0 := hB
  obtain ⟨bM, bC, bL, bF, bR, bE, bRc, bFc, bV, bO⟩ := hB
  show V p l e (RM 1 24 0 0) s m args below meth c D A 2 0 0 Q (wS cI cZ h aE aL aF aR aS σ) 0 [(0, .ref h)] []
  refine r_aload_n hc dX1_makeNeighbour_0 rfl 0 rfl ?_
  refine r_callI (As := []) (n := 0) (wr := []) hc (c_make l D cI cZ cW h aE aL aF aR aS σ hm hB0) co_yX1_make in_X1 ml_X1_41 (by decide +kernel) rfl ⟨by decide, by decide⟩ ⟨by decide, by decide⟩ im_yX1_make se_yX1_make rfl (Or.inl ⟨0, _, rfl⟩) rfl (Nat.le_of_ble_eq_true rfl) [0, 1, 2, 3, 4, 5] [] rfl rfl rfl rfl (by decide) (fun q hq => absurd hq List.not_mem_nil) dX1_makeNeighbour_1 (fun r u e1 => ?_)
  show V p l e (RM 1 24 0 0) s m args below meth c D A 2 0 0 Q (wS cI cZ h aE aL aF aR aS u) 4 [(0, .ref h)] [.int r]
  obtain ⟨rfl, rfl⟩ := e1
  obtain ⟨τ, hτ⟩ : ∃ τ, τ = fMake σ := ⟨_, rfl⟩
  have hoτ : sO τ = sO σ := by rw [hτ]; rfl
  have hBτ : BD τ := by rw [hτ]; exact hBm
  rw [← hτ]
  refine r_istore_n (lv' := [(1, .int (nI (sM σ))), (0, .ref h)]) hc dX1_makeNeighbour_4 rfl (by decide) rfl ?_
  refine r_aload_n hc dX1_makeNeighbour_5 rfl 1 rfl ?_
  refine r_aload_n hc dX1_makeNeighbour_6 rfl 1 rfl ?_
  refine r_get hc inlX1 0 rfl rfl 7 (by decide) fl_X1_38 rfl rfl dX1_makeNeighbour_7 ?_
  refine r_bipush (v := (nI 6)) hc dX1_makeNeighbour_10 rfl ?_
  refine n_div hc dX1_makeNeighbour_12 (by omega) (by decide) (by decide) ?_
  refine r_aload_n hc dX1_makeNeighbour_13 rfl 1 rfl ?_
  refine r_get hc inlX1 0 rfl rfl 7 (by decide) fl_X1_38 rfl rfl dX1_makeNeighbour_14 ?_
  refine r_bipush (v := (nI 6)) hc dX1_makeNeighbour_17 rfl ?_
  refine n_rem hc dX1_makeNeighbour_19 (by omega) (by decide) (by decide) ?_
  refine r_iload_n hc dX1_makeNeighbour_20 rfl 0 rfl ?_
  refine r_callV (As := [.int (nI ((sO τ) / 6)), .int (nI ((sO τ) % 6)), .int (nI (sM σ))]) (n := 3) (wr := []) hc (c_join l D cI cZ cW h aE aL aF aR aS τ (sO τ / 6) (sO τ % 6) (sM σ) (by omega) (by omega) (by omega) (by rw [hτ]; exact hf) hBτ) co_yX1_join in_X1 ml_X1_52 (by decide +kernel) rfl ⟨by decide, by decide⟩ ⟨by decide, by decide⟩ im_yX1_join se_yX1_join rfl (Or.inl ⟨0, _, rfl⟩) rfl (Nat.le_of_ble_eq_true rfl) [0, 1, 2, 3, 4, 5] [] rfl rfl rfl rfl (by decide) (fun q hq => absurd hq List.not_mem_nil) dX1_makeNeighbour_21 (fun u e2 => ?_)
  show V p l e (RM 1 24 0 0) s m args below meth c D A 2 0 0 Q (wS cI cZ h aE aL aF aR aS u) 24 [(1, .int (nI (sM σ))), (0, .ref h)] []
  refine r_iload_n hc dX1_makeNeighbour_24 rfl 0 rfl ?_
  rw [← hQ]
  exact r_iret hc hr hlk u ⟨rfl, by rw [e2, hτ]; rfl⟩ rfl dX1_makeNeighbour_25
def fSt0 (σ : CS) (n : Nat) : CS := (sE σ, sL σ, sF σ, sFc σ, sR σ, sS σ, sRc σ, 0, n, 0, 0)
set_option maxHeartbeats 4000000 in
set_option maxRecDepth 100000 in
/-- start(n) -/
theorem c_start (l : Launch) (D : va_G) (cI cZ cW : ClassId) (h aE aL aF aR aS : Nat) (σ : CS) (n : Nat) (hn : n ≤ 6) (hB : BD σ) : CtV l yX1_start cX1_start 2 none 1 22 0 0 D cI cZ cW [.ref h, .int (nI n)] (wS cI cZ h aE aL aF aR aS σ) ([]) (S := CS) (fun u => u = fMake (fSt0 σ n)) (fun u => wS cI cZ h aE aL aF aR aS u) := by
  refine CtV.mk (by decide) (Nat.le_of_ble_eq_true rfl) ?_
  intro p e s m args below meth c A hc hr hlk hnm hro
  generalize hQ : MQ below _ args s 0 0 A = Q
  have hB0 := hB
  obtain ⟨bM, bC, bL, bF, bR, bE, bRc, bFc, bV, bO⟩ := hB
  have hBs : BD (fSt0 σ n) := ⟨by show 0 ≤ 200; decide, hn, bL, bF, bR, bE, bRc, bFc, by show 0 ≤ 200; decide, by show 0 ≤ 1200; decide⟩
  show V p l e (RM 1 22 0 0) s m args below meth c D A 2 0 0 Q (wS cI cZ h aE aL aF aR aS σ) 0 [(0, .ref h), (1, .int (nI n))] []
  refine r_aload_n hc dX1_start_0 rfl 0 rfl ?_
  refine r_iload_n hc dX1_start_1 rfl 1 rfl ?_
  refine r_put (ws' := wX cI cZ h aE aL aF aR aS (sE σ) (sL σ) (sF σ) (sFc σ) (sR σ) (sS σ) (sRc σ) (sO σ) n (sM σ) (sV σ)) hc inlX1 tyX1 tyX1_ok nmX1 0 rfl rfl 8 (by decide) fl_X1_28 rfl rfl rfl rfl (Nat.le_of_ble_eq_true rfl) rfl dX1_start_2 ?_
  refine r_aload_n hc dX1_start_5 rfl 0 rfl ?_
  refine r_iconst (v := (nI 0)) hc dX1_start_6 rfl ?_
  refine r_put (ws' := wX cI cZ h aE aL aF aR aS (sE σ) (sL σ) (sF σ) (sFc σ) (sR σ) (sS σ) (sRc σ) (sO σ) n 0 (sV σ)) hc inlX1 tyX1 tyX1_ok nmX1 0 rfl rfl 9 (by decide) fl_X1_32 rfl rfl rfl rfl (Nat.le_of_ble_eq_true rfl) rfl dX1_start_7 ?_
  refine r_aload_n hc dX1_start_10 rfl 0 rfl ?_
  refine r_iconst (v := (nI 0)) hc dX1_start_11 rfl ?_
  refine r_put (ws' := wX cI cZ h aE aL aF aR aS (sE σ) (sL σ) (sF σ) (sFc σ) (sR σ) (sS σ) (sRc σ) (sO σ) n 0 0) hc inlX1 tyX1 tyX1_ok nmX1 0 rfl rfl 10 (by decide) fl_X1_35 rfl rfl rfl rfl (Nat.le_of_ble_eq_true rfl) rfl dX1_start_12 ?_
  refine r_aload_n hc dX1_start_15 rfl 0 rfl ?_
  refine r_iconst (v := (nI 0)) hc dX1_start_16 rfl ?_
  refine r_put (ws' := wX cI cZ h aE aL aF aR aS (sE σ) (sL σ) (sF σ) (sFc σ) (sR σ) (sS σ) (sRc σ) 0 n 0 0) hc inlX1 tyX1 tyX1_ok nmX1 0 rfl rfl 7 (by decide) fl_X1_38 rfl rfl rfl rfl (Nat.le_of_ble_eq_true rfl) rfl dX1_start_17 ?_
  refine r_aload_n hc dX1_start_20 rfl 0 rfl ?_
  show V p l e (RM 1 22 0 0) s m args below meth c D A 2 0 0 Q (wS cI cZ h aE aL aF aR aS (fSt0 σ n)) 21 [(0, .ref h), (1, .int (nI n))] [.ref h]
  refine r_callI (As := []) (n := 0) (wr := []) hc (c_make l D cI cZ cW h aE aL aF aR aS (fSt0 σ n) (by show 0 < 200; decide) hBs) co_yX1_make in_X1 ml_X1_41 (by decide +kernel) rfl ⟨by decide, by decide⟩ ⟨by decide, by decide⟩ im_yX1_make se_yX1_make rfl (Or.inl ⟨0, _, rfl⟩) rfl (Nat.le_of_ble_eq_true rfl) [0, 1, 2, 3, 4, 5] [] rfl rfl rfl rfl (by decide) (fun q hq => absurd hq List.not_mem_nil) dX1_start_21 (fun r u e1 => ?_)
  show V p l e (RM 1 22 0 0) s m args below meth c D A 2 0 0 Q (wS cI cZ h aE aL aF aR aS u) 24 [(0, .ref h), (1, .int (nI n))] [.int r]
  obtain ⟨rfl, rfl⟩ := e1
  refine r_pop hc dX1_start_24 rfl ?_
  rw [← hQ]
  exact r_vret hc hr hlk (fMake (fSt0 σ n)) rfl rfl dX1_start_25
