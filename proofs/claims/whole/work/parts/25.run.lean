def DrawOK (rcol : Nat → Nat → Nat) (rlen : Nat → Nat) (nr : Nat) (scol : Nat → Nat → Nat) (slen : Nat → Nat) (ns : Nat) (σ : CS) (c0 : Nat) (F : CS → Prop) : Prop := ∃ (K1 K2 : Nat → CS → Prop) (M : CS → Prop) (μ : CS → Nat) (J : CS → Nat → Nat → CS → Prop) (K3 : CS → Nat → CS → Prop), (K1 0 σ) ∧ (∀ i τ, i < nr → K1 i τ → PreC τ ∧ c0 < sM τ) ∧ (∀ i τ u, i < nr → K1 i τ → liv τ c0 = true → CloseR τ (rcol i) (rlen i) 0 c0 u → K1 (i + 1) u) ∧ (∀ i τ, i ≤ nr → K1 i τ → (i = nr ∨ liv τ c0 = false) → K2 0 τ) ∧ (∀ i τ, i < ns → K2 i τ → PreC τ ∧ 0 < sM τ) ∧ (∀ i τ u, i < ns → K2 i τ → CloseR τ (scol i) (slen i) 0 0 u → K2 (i + 1) u) ∧ (∀ τ, K2 ns τ → M τ ∧ μ τ < 1000000) ∧ (∀ τ, M τ → BD τ ∧ sRc τ ≤ μ τ) ∧ (∀ τ, M τ → 0 < sRc τ → J τ 0 0 (fTake τ)) ∧ (∀ τ ρ, M τ → J τ nr 0 ρ → BD ρ) ∧ (∀ τ i n ρ, M τ → i < nr → n < rlen i → J τ i n ρ → PreC ρ ∧ sR τ (sRc τ - 1) / 6 < sM ρ) ∧ (∀ τ i n ρ d u, M τ → i < nr → n < rlen i → J τ i n ρ → sE ρ (sR τ (sRc τ - 1) / 6 * 6 + sR τ (sRc τ - 1) % 6) = some d → rcol i n = sR τ (sRc τ - 1) % 6 → CloseR ρ (rcol i) (rlen i) n (sR τ (sRc τ - 1) / 6) u → J τ i (n + 1) u) ∧ (∀ τ i n ρ d u, M τ → i < nr → n < rlen i → J τ i n ρ → sE ρ (sR τ (sRc τ - 1) / 6 * 6 + sR τ (sRc τ - 1) % 6) = some d → rcol i n ≠ sR τ (sRc τ - 1) % 6 → rcol i n = sR τ (sRc τ - 1) % 6 ^^^ 1 → CloseR ρ (rcol i) (rlen i) n d u → J τ i (n + 1) u) ∧ (∀ τ i n ρ d, M τ → i < nr → n < rlen i → J τ i n ρ → sE ρ (sR τ (sRc τ - 1) / 6 * 6 + sR τ (sRc τ - 1) % 6) = some d → rcol i n ≠ sR τ (sRc τ - 1) % 6 → rcol i n ≠ sR τ (sRc τ - 1) % 6 ^^^ 1 → J τ i (n + 1) ρ) ∧ (∀ τ i n ρ, M τ → i < nr → n ≤ rlen i → J τ i n ρ → (n = rlen i ∨ sE ρ (sR τ (sRc τ - 1) / 6 * 6 + sR τ (sRc τ - 1) % 6) = none) → J τ (i + 1) 0 ρ) ∧ (∀ τ ρ, M τ → J τ nr 0 ρ → 0 < sRc ρ → M ρ ∧ μ ρ < μ τ) ∧ (∀ τ ρ, M τ → J τ nr 0 ρ → sRc ρ = 0 → K3 τ 0 ρ) ∧ (∀ τ i ρ, M τ → i < ns → K3 τ i ρ → PreC ρ ∧ 0 < sM ρ) ∧ (∀ τ i ρ u, M τ → i < ns → K3 τ i ρ → CloseR ρ (scol i) (slen i) 0 0 u → K3 τ (i + 1) u) ∧ (∀ τ u, M τ → K3 τ ns u → M u ∧ μ u < μ τ) ∧ ∀ u, M u → sRc u = 0 → F u
def GivOK (σ : CS) (α : AS) (F : AS → Prop) : Prop := ∃ N : Nat → Nat → AS → Prop, (BA (filI (tU α) 200, tN α, tS α, tR α, 0)) ∧ (N 0 0 (gnn 0 (filI (tU α) 200, tN α, tS α, tR α, 0))) ∧ (∀ k x β, N k x β → BA β) ∧ (∀ k x β, N k x β → k < tZ β → x < sC σ → ∃ d, sE σ (tN β k * 6 + x) = some d ∧ d < 200 ∧ (tU β d = none → tZ β < 200) ∧ N k (x + 1) (gnn d β)) ∧ (∀ k β, N k (sC σ) β → k < tZ β → N (k + 1) 0 β) ∧ ∀ k u, N k 0 u → (tZ u ≤ k ∨ 200 ≤ k) → F u
def fOp (τ : CS) (o : Nat) : CS := (sE τ, sL τ, sF τ, sFc τ, sR τ, sS τ, sRc τ, o, sC τ, sM τ, sV τ)
def fNb (τ : CS) : CS := fJoin (fMake τ) (sO τ / 6) (sO τ % 6) (sM τ)
def MkOK (τ : CS) : Prop := (sS (fMake τ) (sO τ / 6 * 6 + sO τ % 6) = false → sRc (fMake τ) < 1200) ∧ BD (fMake τ)
set_option maxHeartbeats 4000000 in
set_option maxRecDepth 100000 in
/-- run(L) -/
theorem c_run (l : Launch) (D : va_G) (cI cZ cW : ClassId) (hx hh hr1 hs1 h hi ha n : Nat) (ar as : Nat) (rwa rca : Nat → Nat) (rcol : Nat → Nat → Nat) (rlen : Nat → Nat) (nr : Nat) (swa sca : Nat → Nat) (scol : Nat → Nat → Nat) (slen : Nat → Nat) (ns : Nat) (aE aL aF aR aS : Nat) (σ : CS) (aU aN aT aG : Nat) (α : AS) (L : Nat) (hL1 : 1 ≤ L) (hL2 : L ≤ 200) (hrl : ∀ i, i < nr → 1 ≤ rlen i ∧ rlen i ≤ 24 ∧ ∀ j, rcol i j < 6) (hnr : nr ≤ 10) (hsl : ∀ i, i < ns → 1 ≤ slen i ∧ slen i ≤ 24 ∧ ∀ j, scol i j < 6) (hns : ns ≤ 5) (hBA : BA α) (P : CS → Prop) (Nf : CS → AS → Prop) (hD0 : DrawOK rcol rlen nr scol slen ns σ 0 P) (hPB : ∀ τ, P τ → BD τ)
  (hPO : ∀ τ o, P τ → sO τ ≤ o → o ≤ max (sO τ) (sM τ * 6) → (∀ p, sO τ ≤ p → p < o → opn τ p = false) → P (fOp τ o))
  (hPS : ∀ τ, P τ → sM τ < L → sO τ < sM τ * 6 → opn τ (sO τ) = true → MkOK τ ∧ DrawOK rcol rlen nr scol slen ns (fNb τ) (sM τ) (fun u => P u ∧ sM u = sM τ + 1))
  (hPG : ∀ τ, P τ → sM τ * 6 ≤ sO τ → GivOK τ α (Nf τ)) : CtI l yX5_run cX5_run 3 (some .int) 6 150 0 0 D cI cZ cW [.ref hx, .int (nI L)] (wS cI cZ h aE aL aF aR aS σ ++ wA cI cZ ha h hs1 aU aN aT aG α) (wT0 hx hh hr1 hs1 h hi ha n ++ (wI hi h hr1 hs1 ++ (wL cI cW hr1 ar 10 rwa rca rcol rlen nr ++ wL cI cW hs1 as 5 swa sca scol slen ns))) (S := CS × AS) (fun r u => r = nI (sM u.1) ∧ P u.1 ∧ ((sM u.1 * 6 ≤ sO u.1 ∧ Nf u.1 u.2) ∨ (sO u.1 < sM u.1 * 6 ∧ opn u.1 (sO u.1) = true ∧ L ≤ sM u.1 ∧ u.2 = α))) (fun u => wS cI cZ h aE aL aF aR aS u.1 ++ wA cI cZ ha h hs1 aU aN aT aG u.2) := by
  refine CtI.mk (by decide) (Nat.le_of_ble_eq_true rfl) ?_
  intro p e s m args below meth c A hc hr hlk hnm hro
  generalize hQ : MQ below _ args s 0 0 A = Q
  show V p l e (RM 6 150 0 0) s m args below meth c D A 3 0 0 Q (wS cI cZ h aE aL aF aR aS σ ++ (wA cI cZ ha h hs1 aU aN aT aG α)) 0 [(0, .ref hx), (1, .int (nI L))] []
  refine r_iload_n hc dX5_run_0 rfl 1 rfl ?_
  refine r_iconst (v := (nI 1)) hc dX5_run_1 rfl ?_
  refine n_icmp_lt hc 12 dX5_run_2 (by decide) (by omega) (by omega) (fun h1 => ?_) (fun h1 => ?_)
  · exact absurd h1 (by omega)
  · refine r_iload_n hc dX5_run_5 rfl 1 rfl ?_
    refine r_sipush (v := (nI 200)) hc dX5_run_6 rfl ?_
    refine n_icmp_le hc 14 dX5_run_9 (by decide) (by omega) (by omega) (fun h2 => ?_) (fun h2 => ?_)
    · refine r_aload_n hc dX5_run_14 rfl 0 rfl ?_
      refine r_getR hc inlX5 (hro _ (List.mem_of_getElem? (i := 0) rfl)) rfl 4 (by decide) fl_X5_40 rfl rfl dX5_run_15 ?_
      refine r_iconst (v := (nI 0)) hc dX5_run_18 rfl ?_
      obtain ⟨K1, K2, M, μ, J, K3, qhK1, qhK1q, qhK1s, qhK12, qhK2p, qhK2s, qhK2e, qhM, qhJ0, qhJB, qhJp, qhJ1, qhJ2, qhJ3, qhJn, qhJe, qhJ4, qhK3p, qhK3s, qhK3e, hF⟩ := hD0
      refine r_callV (As := [.int (nI 0)]) (n := 1) (wr := wA cI cZ ha h hs1 aU aN aT aG α) hc (c_drawFrom l D cI cZ cW h aE aL aF aR aS σ hi hr1 hs1 ar as rwa rca rcol rlen nr swa sca scol slen ns hrl hnr hsl hns 0 (by decide) K1 K2 M μ J K3 qhK1 qhK1q qhK1s qhK12 qhK2p qhK2s qhK2e qhM qhJ0 qhJB qhJp qhJ1 qhJ2 qhJ3 qhJn qhJe qhJ4 qhK3p qhK3s qhK3e) co_yX2_drawFrom in_X2 ml_X5_81 (by decide +kernel) rfl ⟨by decide, by decide⟩ ⟨by decide, by decide⟩ im_yX2_drawFrom se_yX2_drawFrom rfl (Or.inr ⟨_, (hro _ (List.mem_of_getElem? (i := 1) rfl))⟩) rfl (Nat.le_of_ble_eq_true rfl) [0, 1, 2, 3, 4, 5] [6, 7, 8, 9, 10] rfl rfl rfl rfl (by decide) (fun q hq => Or.inr (hro q (List.mem_append_right _ hq))) dX5_run_19 (fun u0 e3 => ?_)
      refine r_perm (ws' := wS cI cZ h aE aL aF aR aS u0 ++ (wA cI cZ ha h hs1 aU aN aT aG α)) [5, 6, 7, 8, 9, 10, 0, 1, 2, 3, 4] rfl rfl ?_
      show V p l e (RM 6 150 0 0) s m args below meth c D A 3 0 0 Q (wS cI cZ h aE aL aF aR aS u0 ++ (wA cI cZ ha h hs1 aU aN aT aG α)) 22 [(0, .ref hx), (1, .int (nI L))] []
      have hPu0 := hF u0 e3.1 e3.2
      refine r_aload_n hc dX5_run_22 rfl 0 rfl ?_
      refine r_getR hc inlX5 (hro _ (List.mem_of_getElem? (i := 0) rfl)) rfl 3 (by decide) fl_X5_31 rfl rfl dX5_run_23 ?_
      refine r_getN hc inlX1 0 rfl rfl 9 (by decide) nf_X5_84 rfl rfl dX5_run_26 ?_
      refine r_istore_n (lv' := [(2, .int (nI (sM u0))), (0, .ref hx), (1, .int (nI L))]) hc dX5_run_29 rfl (by decide) rfl ?_
      have lp30 : ∀ (n : Nat) (τ : CS), 200 - sM τ = n → (P τ) → V p l e (RM 6 150 0 0) s m args below meth c D A 3 0 0 Q (wS cI cZ h aE aL aF aR aS τ ++ (wA cI cZ ha h hs1 aU aN aT aG α)) 30 [(2, .int (nI (sM τ))), (0, .ref hx), (1, .int (nI L))] [] := by
        intro n
        induction n using Nat.strongRecOn with
        | _ n ih30 =>
        intro τ hm30 hPt
        have hBt := hPB τ hPt
        have tM := hBt.1
        refine r_iload_n hc dX5_run_30 rfl 0 rfl ?_
        refine r_iload_n hc dX5_run_31 rfl 2 rfl ?_
        refine n_icmp_ge hc 65 dX5_run_32 (by decide) (by omega) (by omega) (fun h4 => ?_) (fun h4 => ?_)
        · refine r_aload_n hc dX5_run_65 rfl 1 rfl ?_
          refine r_getR hc inlX5 (hro _ (List.mem_of_getElem? (i := 0) rfl)) rfl 3 (by decide) fl_X5_31 rfl rfl dX5_run_66 ?_
          refine r_callI (As := []) (n := 0) (wr := wA cI cZ ha h hs1 aU aN aT aG α) hc (c_findOpen l D cI cZ cW h aE aL aF aR aS τ (hPB τ hPt)) co_yX1_findOpen in_X1 ml_X5_87 (by decide +kernel) rfl ⟨by decide, by decide⟩ ⟨by decide, by decide⟩ im_yX1_findOpen se_yX1_findOpen rfl (Or.inl ⟨0, _, rfl⟩) rfl (Nat.le_of_ble_eq_true rfl) [0, 1, 2, 3, 4, 5] [6, 7, 8, 9, 10] rfl rfl rfl rfl (by decide) (fun q hq => absurd hq List.not_mem_nil) dX5_run_69 (fun r2 v2 e5 => ?_)
          refine r_perm (ws' := wS cI cZ h aE aL aF aR aS v2 ++ (wA cI cZ ha h hs1 aU aN aT aG α)) [5, 6, 7, 8, 9, 10, 0, 1, 2, 3, 4] rfl rfl ?_
          show V p l e (RM 6 150 0 0) s m args below meth c D A 3 0 0 Q (wS cI cZ h aE aL aF aR aS v2 ++ (wA cI cZ ha h hs1 aU aN aT aG α)) 72 [(2, .int (nI (sM τ))), (0, .ref hx), (1, .int (nI L))] [.int r2]
          obtain ⟨o2, ho2, hlo2, hhi2, hcl2, hb2, hop2⟩ := e5
          subst hb2
          obtain ⟨τ2, hτ2⟩ : ∃ q, q = fOp τ o2 := ⟨_, rfl⟩
          obtain rfl : v2 = τ2 := by rw [ho2, hτ2]; rfl
          have hP2 : P v2 := by rw [hτ2]; exact hPO τ o2 hPt hlo2 hhi2 hcl2
          have hM2 : sM v2 = sM τ := by rw [hτ2]; rfl
          have hO2 : sO v2 = o2 := by rw [hτ2]; rfl
          have hop2 : o2 < sM τ * 6 → opn v2 o2 = true := by rw [hτ2]; exact hop2
          show V p l e (RM 6 150 0 0) s m args below meth c D A 3 0 0 Q (wS cI cZ h aE aL aF aR aS v2 ++ (wA cI cZ ha h hs1 aU aN aT aG α)) 72 [(2, .int (nI (sM τ))), (0, .ref hx), (1, .int (nI L))] [.int (zI (decide (o2 < sM τ * 6)))]
          refine z_if_ne hc 82 dX5_run_72 (by decide) (fun h6 => ?_) (fun h6 => ?_)
          · have hlt2 : o2 < sM τ * 6 := by simpa using h6
            refine r_aload_n hc dX5_run_82 rfl 1 rfl ?_
            refine r_getR hc inlX5 (hro _ (List.mem_of_getElem? (i := 0) rfl)) rfl 3 (by decide) fl_X5_31 rfl rfl dX5_run_83 ?_
            refine r_getN hc inlX1 0 rfl rfl 9 (by decide) nf_X5_84 rfl rfl dX5_run_86 ?_
            rw [← hQ]
            exact r_iret hc hr hlk (v2, α) ⟨rfl, hP2, Or.inr ⟨by rw [hO2, hM2]; exact hlt2, by rw [hO2]; exact hop2 hlt2, by show L ≤ sM v2; omega, rfl⟩⟩ rfl dX5_run_89
          · refine r_aload_n hc dX5_run_75 rfl 1 rfl ?_
            refine r_getR hc inlX5 (hro _ (List.mem_of_getElem? (i := 0) rfl)) rfl 5 (by decide) fl_X5_49 rfl rfl dX5_run_76 ?_
            have hge2 : sM v2 * 6 ≤ sO v2 := by rw [hM2, hO2]; simpa using h6
            obtain ⟨N, g1, g2, g3, g4, g5, gF⟩ := hPG v2 hP2 hge2
            refine r_callV (As := []) (n := 0) (wr := wS cI cZ h aE aL aF aR aS v2) hc (c_giveNumbers l D cI cZ cW ha h hs1 aU aN aT aG α aE aL aF aR aS v2 (hPB v2 hP2).2.1 N g1 g2 g3 g4 g5 hBA) co_yX0_giveNumbers in_X0 ml_X5_95 (by decide +kernel) rfl ⟨by decide, by decide⟩ ⟨by decide, by decide⟩ im_yX0_giveNumbers se_yX0_giveNumbers rfl (Or.inl ⟨6, _, rfl⟩) rfl (Nat.le_of_ble_eq_true rfl) [6, 7, 8, 9, 10] [0, 1, 2, 3, 4, 5] rfl rfl rfl rfl (by decide) (fun q hq => Or.inl (ro_of_wr (ws := wS cI cZ h aE aL aF aR aS v2 ++ (wA cI cZ ha h hs1 aU aN aT aG α)) (wr := wS cI cZ h aE aL aF aR aS v2) [0, 1, 2, 3, 4, 5] rfl (by decide) hq)) dX5_run_79 (fun w1 e7 => ?_)
            show V p l e (RM 6 150 0 0) s m args below meth c D A 3 0 0 Q (wS cI cZ h aE aL aF aR aS v2 ++ (wA cI cZ ha h hs1 aU aN aT aG w1)) 82 [(2, .int (nI (sM τ))), (0, .ref hx), (1, .int (nI L))] []
            obtain ⟨kz, hkz, hke⟩ := e7
            have hNf := gF kz w1 hkz hke
            refine r_aload_n hc dX5_run_82 rfl 1 rfl ?_
            refine r_getR hc inlX5 (hro _ (List.mem_of_getElem? (i := 0) rfl)) rfl 3 (by decide) fl_X5_31 rfl rfl dX5_run_83 ?_
            refine r_getN hc inlX1 0 rfl rfl 9 (by decide) nf_X5_84 rfl rfl dX5_run_86 ?_
            rw [← hQ]
            exact r_iret hc hr hlk (v2, w1) ⟨rfl, hP2, Or.inl ⟨hge2, hNf⟩⟩ rfl dX5_run_89
        · refine r_aload_n hc dX5_run_35 rfl 1 rfl ?_
          refine r_getR hc inlX5 (hro _ (List.mem_of_getElem? (i := 0) rfl)) rfl 3 (by decide) fl_X5_31 rfl rfl dX5_run_36 ?_
          refine r_callI (As := []) (n := 0) (wr := wA cI cZ ha h hs1 aU aN aT aG α) hc (c_findOpen l D cI cZ cW h aE aL aF aR aS τ (hPB τ hPt)) co_yX1_findOpen in_X1 ml_X5_87 (by decide +kernel) rfl ⟨by decide, by decide⟩ ⟨by decide, by decide⟩ im_yX1_findOpen se_yX1_findOpen rfl (Or.inl ⟨0, _, rfl⟩) rfl (Nat.le_of_ble_eq_true rfl) [0, 1, 2, 3, 4, 5] [6, 7, 8, 9, 10] rfl rfl rfl rfl (by decide) (fun q hq => absurd hq List.not_mem_nil) dX5_run_39 (fun r1 v1 e8 => ?_)
          refine r_perm (ws' := wS cI cZ h aE aL aF aR aS v1 ++ (wA cI cZ ha h hs1 aU aN aT aG α)) [5, 6, 7, 8, 9, 10, 0, 1, 2, 3, 4] rfl rfl ?_
          show V p l e (RM 6 150 0 0) s m args below meth c D A 3 0 0 Q (wS cI cZ h aE aL aF aR aS v1 ++ (wA cI cZ ha h hs1 aU aN aT aG α)) 42 [(2, .int (nI (sM τ))), (0, .ref hx), (1, .int (nI L))] [.int r1]
          obtain ⟨o1, ho1, hlo1, hhi1, hcl1, hb1, hop1⟩ := e8
          subst hb1
          obtain ⟨τ1, hτ1⟩ : ∃ q, q = fOp τ o1 := ⟨_, rfl⟩
          obtain rfl : v1 = τ1 := by rw [ho1, hτ1]; rfl
          have hP1 : P v1 := by rw [hτ1]; exact hPO τ o1 hPt hlo1 hhi1 hcl1
          have hM1 : sM v1 = sM τ := by rw [hτ1]; rfl
          have hO1 : sO v1 = o1 := by rw [hτ1]; rfl
          have hop1 : o1 < sM τ * 6 → opn v1 o1 = true := by rw [hτ1]; exact hop1
          show V p l e (RM 6 150 0 0) s m args below meth c D A 3 0 0 Q (wS cI cZ h aE aL aF aR aS v1 ++ (wA cI cZ ha h hs1 aU aN aT aG α)) 42 [(2, .int (nI (sM τ))), (0, .ref hx), (1, .int (nI L))] [.int (zI (decide (o1 < sM τ * 6)))]
          refine z_if_eq hc 65 dX5_run_42 (by decide) (fun h9 => ?_) (fun h9 => ?_)
          · have hge1 : sM τ * 6 ≤ o1 := by simpa using h9
            refine r_aload_n hc dX5_run_65 rfl 1 rfl ?_
            refine r_getR hc inlX5 (hro _ (List.mem_of_getElem? (i := 0) rfl)) rfl 3 (by decide) fl_X5_31 rfl rfl dX5_run_66 ?_
            refine r_callI (As := []) (n := 0) (wr := wA cI cZ ha h hs1 aU aN aT aG α) hc (c_findOpen l D cI cZ cW h aE aL aF aR aS v1 (hPB v1 hP1)) co_yX1_findOpen in_X1 ml_X5_87 (by decide +kernel) rfl ⟨by decide, by decide⟩ ⟨by decide, by decide⟩ im_yX1_findOpen se_yX1_findOpen rfl (Or.inl ⟨0, _, rfl⟩) rfl (Nat.le_of_ble_eq_true rfl) [0, 1, 2, 3, 4, 5] [6, 7, 8, 9, 10] rfl rfl rfl rfl (by decide) (fun q hq => absurd hq List.not_mem_nil) dX5_run_69 (fun r2 v2 e10 => ?_)
            refine r_perm (ws' := wS cI cZ h aE aL aF aR aS v2 ++ (wA cI cZ ha h hs1 aU aN aT aG α)) [5, 6, 7, 8, 9, 10, 0, 1, 2, 3, 4] rfl rfl ?_
            show V p l e (RM 6 150 0 0) s m args below meth c D A 3 0 0 Q (wS cI cZ h aE aL aF aR aS v2 ++ (wA cI cZ ha h hs1 aU aN aT aG α)) 72 [(2, .int (nI (sM τ))), (0, .ref hx), (1, .int (nI L))] [.int r2]
            obtain ⟨o2, ho2, hlo2, hhi2, hcl2, hb2, hop2⟩ := e10
            subst hb2
            obtain ⟨τ2, hτ2⟩ : ∃ q, q = fOp v1 o2 := ⟨_, rfl⟩
            obtain rfl : v2 = τ2 := by rw [ho2, hτ2]; rfl
            have hP2 : P v2 := by rw [hτ2]; exact hPO v1 o2 hP1 hlo2 hhi2 hcl2
            have hM2 : sM v2 = sM v1 := by rw [hτ2]; rfl
            have hO2 : sO v2 = o2 := by rw [hτ2]; rfl
            have hop2 : o2 < sM v1 * 6 → opn v2 o2 = true := by rw [hτ2]; exact hop2
            show V p l e (RM 6 150 0 0) s m args below meth c D A 3 0 0 Q (wS cI cZ h aE aL aF aR aS v2 ++ (wA cI cZ ha h hs1 aU aN aT aG α)) 72 [(2, .int (nI (sM τ))), (0, .ref hx), (1, .int (nI L))] [.int (zI (decide (o2 < sM v1 * 6)))]
            refine z_if_ne hc 82 dX5_run_72 (by decide) (fun h11 => ?_) (fun h11 => ?_)
            · exact absurd (show o2 < sM v1 * 6 by simpa using h11) (by omega)
            · refine r_aload_n hc dX5_run_75 rfl 1 rfl ?_
              refine r_getR hc inlX5 (hro _ (List.mem_of_getElem? (i := 0) rfl)) rfl 5 (by decide) fl_X5_49 rfl rfl dX5_run_76 ?_
              have hge2 : sM v2 * 6 ≤ sO v2 := by rw [hM2, hO2]; simpa using h11
              obtain ⟨N, g1, g2, g3, g4, g5, gF⟩ := hPG v2 hP2 hge2
              refine r_callV (As := []) (n := 0) (wr := wS cI cZ h aE aL aF aR aS v2) hc (c_giveNumbers l D cI cZ cW ha h hs1 aU aN aT aG α aE aL aF aR aS v2 (hPB v2 hP2).2.1 N g1 g2 g3 g4 g5 hBA) co_yX0_giveNumbers in_X0 ml_X5_95 (by decide +kernel) rfl ⟨by decide, by decide⟩ ⟨by decide, by decide⟩ im_yX0_giveNumbers se_yX0_giveNumbers rfl (Or.inl ⟨6, _, rfl⟩) rfl (Nat.le_of_ble_eq_true rfl) [6, 7, 8, 9, 10] [0, 1, 2, 3, 4, 5] rfl rfl rfl rfl (by decide) (fun q hq => Or.inl (ro_of_wr (ws := wS cI cZ h aE aL aF aR aS v2 ++ (wA cI cZ ha h hs1 aU aN aT aG α)) (wr := wS cI cZ h aE aL aF aR aS v2) [0, 1, 2, 3, 4, 5] rfl (by decide) hq)) dX5_run_79 (fun w1 e12 => ?_)
              show V p l e (RM 6 150 0 0) s m args below meth c D A 3 0 0 Q (wS cI cZ h aE aL aF aR aS v2 ++ (wA cI cZ ha h hs1 aU aN aT aG w1)) 82 [(2, .int (nI (sM τ))), (0, .ref hx), (1, .int (nI L))] []
              obtain ⟨kz, hkz, hke⟩ := e12
              have hNf := gF kz w1 hkz hke
              refine r_aload_n hc dX5_run_82 rfl 1 rfl ?_
              refine r_getR hc inlX5 (hro _ (List.mem_of_getElem? (i := 0) rfl)) rfl 3 (by decide) fl_X5_31 rfl rfl dX5_run_83 ?_
              refine r_getN hc inlX1 0 rfl rfl 9 (by decide) nf_X5_84 rfl rfl dX5_run_86 ?_
              rw [← hQ]
              exact r_iret hc hr hlk (v2, w1) ⟨rfl, hP2, Or.inl ⟨hge2, hNf⟩⟩ rfl dX5_run_89
          · have hlt1 : o1 < sM τ * 6 := by simpa using h9
            obtain ⟨τ1, hτ1⟩ : ∃ q, q = v1 := ⟨_, rfl⟩
            obtain ⟨hMk, hDk⟩ := hPS v1 hP1 (by omega) (by omega) (by rw [hO1]; exact hop1 hlt1)
            rw [← hτ1] at hMk hDk hP1 hM1 hO1 ⊢
            have hB1 := hPB τ1 hP1
            have tO1 := hB1.2.2.2.2.2.2.2.2.2
            refine r_aload_n hc dX5_run_45 rfl 1 rfl ?_
            refine r_getR hc inlX5 (hro _ (List.mem_of_getElem? (i := 0) rfl)) rfl 4 (by decide) fl_X5_40 rfl rfl dX5_run_46 ?_
            refine r_aload_n hc dX5_run_49 rfl 1 rfl ?_
            refine r_getR hc inlX5 (hro _ (List.mem_of_getElem? (i := 0) rfl)) rfl 3 (by decide) fl_X5_31 rfl rfl dX5_run_50 ?_
            refine r_callI (As := []) (n := 0) (wr := wA cI cZ ha h hs1 aU aN aT aG α) hc (c_makeNeighbour l D cI cZ cW h aE aL aF aR aS τ1 (by omega) (by omega) hMk.1 hMk.2 hB1) co_yX1_makeNeighbour in_X1 ml_X5_91 (by decide +kernel) rfl ⟨by decide, by decide⟩ ⟨by decide, by decide⟩ im_yX1_makeNeighbour se_yX1_makeNeighbour rfl (Or.inl ⟨0, _, rfl⟩) rfl (Nat.le_of_ble_eq_true rfl) [0, 1, 2, 3, 4, 5] [6, 7, 8, 9, 10] rfl rfl rfl rfl (by decide) (fun q hq => absurd hq List.not_mem_nil) dX5_run_53 (fun r3 v3 e13 => ?_)
            refine r_perm (ws' := wS cI cZ h aE aL aF aR aS v3 ++ (wA cI cZ ha h hs1 aU aN aT aG α)) [5, 6, 7, 8, 9, 10, 0, 1, 2, 3, 4] rfl rfl ?_
            show V p l e (RM 6 150 0 0) s m args below meth c D A 3 0 0 Q (wS cI cZ h aE aL aF aR aS v3 ++ (wA cI cZ ha h hs1 aU aN aT aG α)) 56 [(2, .int (nI (sM τ))), (0, .ref hx), (1, .int (nI L))] [.int r3, .ref hi]
            obtain ⟨rfl, hv3⟩ := e13
            obtain ⟨ρ, hρ⟩ : ∃ q, q = v3 := ⟨_, rfl⟩
            rw [← hρ] at hv3 ⊢
            rw [show fNb τ1 = ρ from hv3.symm] at hDk
            show V p l e (RM 6 150 0 0) s m args below meth c D A 3 0 0 Q (wS cI cZ h aE aL aF aR aS ρ ++ (wA cI cZ ha h hs1 aU aN aT aG α)) 56 [(2, .int (nI (sM τ))), (0, .ref hx), (1, .int (nI L))] [.int (nI (sM τ1)), .ref hi]
            obtain ⟨K1, K2, M, μ, J, K3, qhK1, qhK1q, qhK1s, qhK12, qhK2p, qhK2s, qhK2e, qhM, qhJ0, qhJB, qhJp, qhJ1, qhJ2, qhJ3, qhJn, qhJe, qhJ4, qhK3p, qhK3s, qhK3e, hF⟩ := hDk
            refine r_callV (As := [.int (nI (sM τ1))]) (n := 1) (wr := wA cI cZ ha h hs1 aU aN aT aG α) hc (c_drawFrom l D cI cZ cW h aE aL aF aR aS ρ hi hr1 hs1 ar as rwa rca rcol rlen nr swa sca scol slen ns hrl hnr hsl hns (sM τ1) (by omega) K1 K2 M μ J K3 qhK1 qhK1q qhK1s qhK12 qhK2p qhK2s qhK2e qhM qhJ0 qhJB qhJp qhJ1 qhJ2 qhJ3 qhJn qhJe qhJ4 qhK3p qhK3s qhK3e) co_yX2_drawFrom in_X2 ml_X5_81 (by decide +kernel) rfl ⟨by decide, by decide⟩ ⟨by decide, by decide⟩ im_yX2_drawFrom se_yX2_drawFrom rfl (Or.inr ⟨_, (hro _ (List.mem_of_getElem? (i := 1) rfl))⟩) rfl (Nat.le_of_ble_eq_true rfl) [0, 1, 2, 3, 4, 5] [6, 7, 8, 9, 10] rfl rfl rfl rfl (by decide) (fun q hq => Or.inr (hro q (List.mem_append_right _ hq))) dX5_run_56 (fun u2 e14 => ?_)
            refine r_perm (ws' := wS cI cZ h aE aL aF aR aS u2 ++ (wA cI cZ ha h hs1 aU aN aT aG α)) [5, 6, 7, 8, 9, 10, 0, 1, 2, 3, 4] rfl rfl ?_
            show V p l e (RM 6 150 0 0) s m args below meth c D A 3 0 0 Q (wS cI cZ h aE aL aF aR aS u2 ++ (wA cI cZ ha h hs1 aU aN aT aG α)) 59 [(2, .int (nI (sM τ))), (0, .ref hx), (1, .int (nI L))] []
            have hPu2 := hF u2 e14.1 e14.2
            refine r_iinc (k := 0) (v := (nI (sM τ + 1))) (lv' := [(2, .int (nI (sM τ + 1))), (0, .ref hx), (1, .int (nI L))]) hc dX5_run_59 rfl (nI_add _ _) (by decide) rfl ?_
            refine r_goto hc 30 dX5_run_62 (by decide) ?_
            rw [show sM τ + 1 = sM u2 by have := hPu2.2; omega]
            refine r_lv [0, 1, 2] rfl ?_
            exact ih30 _ (by have := hPu2.2; have := hPu2.1; omega) u2 rfl hPu2.1
      refine r_lv [0, 1, 2] rfl ?_
      exact lp30 _ u0 rfl hPu0
    · exact absurd h2 (by omega)
