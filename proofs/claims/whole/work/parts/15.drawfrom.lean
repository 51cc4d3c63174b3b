set_option maxHeartbeats 4000000 in
set_option maxRecDepth 100000 in
/-- drawFrom(c0) -/
theorem c_drawFrom (l : Launch) (D : va_G) (cI cZ cW : ClassId) (h aE aL aF aR aS : Nat) (σ : CS) (hi hr1 hs1 ar as : Nat) (rwa rca : Nat → Nat) (rcol : Nat → Nat → Nat) (rlen : Nat → Nat) (nr : Nat) (swa sca : Nat → Nat) (scol : Nat → Nat → Nat) (slen : Nat → Nat) (ns : Nat) (hrl : ∀ i, i < nr → 1 ≤ rlen i ∧ rlen i ≤ 24 ∧ ∀ j, rcol i j < 6) (hnr : nr ≤ 10) (hsl : ∀ i, i < ns → 1 ≤ slen i ∧ slen i ≤ 24 ∧ ∀ j, scol i j < 6) (hns : ns ≤ 5) (c0 : Nat) (hc0 : c0 < 200) (K1 K2 : Nat → CS → Prop) (M : CS → Prop) (μ : CS → Nat) (J : CS → Nat → Nat → CS → Prop) (K3 : CS → Nat → CS → Prop)
  (hK1 : K1 0 σ) (hK1q : ∀ i τ, i < nr → K1 i τ → PreC τ ∧ c0 < sM τ)
  (hK1s : ∀ i τ u, i < nr → K1 i τ → liv τ c0 = true → CloseR τ (rcol i) (rlen i) 0 c0 u → K1 (i + 1) u)
  (hK12 : ∀ i τ, i ≤ nr → K1 i τ → (i = nr ∨ liv τ c0 = false) → K2 0 τ)
  (hK2p : ∀ i τ, i < ns → K2 i τ → PreC τ ∧ 0 < sM τ)
  (hK2s : ∀ i τ u, i < ns → K2 i τ → CloseR τ (scol i) (slen i) 0 0 u → K2 (i + 1) u)
  (hK2e : ∀ τ, K2 ns τ → M τ ∧ μ τ < 1000000) (hM : ∀ τ, M τ → BD τ ∧ sRc τ ≤ μ τ)
  (hJ0 : ∀ τ, M τ → 0 < sRc τ → J τ 0 0 (fTake τ))
  (hJB : ∀ τ ρ, M τ → J τ nr 0 ρ → BD ρ)
  (hJp : ∀ τ i n ρ, M τ → i < nr → n < rlen i → J τ i n ρ → PreC ρ ∧ sR τ (sRc τ - 1) / 6 < sM ρ)
  (hJ1 : ∀ τ i n ρ d u, M τ → i < nr → n < rlen i → J τ i n ρ → sE ρ (sR τ (sRc τ - 1) / 6 * 6 + sR τ (sRc τ - 1) % 6) = some d → rcol i n = sR τ (sRc τ - 1) % 6 → CloseR ρ (rcol i) (rlen i) n (sR τ (sRc τ - 1) / 6) u → J τ i (n + 1) u)
  (hJ2 : ∀ τ i n ρ d u, M τ → i < nr → n < rlen i → J τ i n ρ → sE ρ (sR τ (sRc τ - 1) / 6 * 6 + sR τ (sRc τ - 1) % 6) = some d → rcol i n ≠ sR τ (sRc τ - 1) % 6 → rcol i n = sR τ (sRc τ - 1) % 6 ^^^ 1 → CloseR ρ (rcol i) (rlen i) n d u → J τ i (n + 1) u)
  (hJ3 : ∀ τ i n ρ d, M τ → i < nr → n < rlen i → J τ i n ρ → sE ρ (sR τ (sRc τ - 1) / 6 * 6 + sR τ (sRc τ - 1) % 6) = some d → rcol i n ≠ sR τ (sRc τ - 1) % 6 → rcol i n ≠ sR τ (sRc τ - 1) % 6 ^^^ 1 → J τ i (n + 1) ρ)
  (hJn : ∀ τ i n ρ, M τ → i < nr → n ≤ rlen i → J τ i n ρ → (n = rlen i ∨ sE ρ (sR τ (sRc τ - 1) / 6 * 6 + sR τ (sRc τ - 1) % 6) = none) → J τ (i + 1) 0 ρ)
  (hJe : ∀ τ ρ, M τ → J τ nr 0 ρ → 0 < sRc ρ → M ρ ∧ μ ρ < μ τ)
  (hJ4 : ∀ τ ρ, M τ → J τ nr 0 ρ → sRc ρ = 0 → K3 τ 0 ρ)
  (hK3p : ∀ τ i ρ, M τ → i < ns → K3 τ i ρ → PreC ρ ∧ 0 < sM ρ)
  (hK3s : ∀ τ i ρ u, M τ → i < ns → K3 τ i ρ → CloseR ρ (scol i) (slen i) 0 0 u → K3 τ (i + 1) u)
  (hK3e : ∀ τ u, M τ → K3 τ ns u → M u ∧ μ u < μ τ) : CtV l yX2_drawFrom cX2_drawFrom 5 none 5 126 0 0 D cI cZ cW [.ref hi, .int (nI c0)] (wS cI cZ h aE aL aF aR aS σ) ((hi, .inr (2, [.ref h, .ref hr1, .ref hs1])) :: (wL cI cW hr1 ar 10 rwa rca rcol rlen nr ++ wL cI cW hs1 as 5 swa sca scol slen ns)) (S := CS) (fun u => M u ∧ sRc u = 0) (fun u => wS cI cZ h aE aL aF aR aS u) := by
  refine CtV.mk (by decide) (Nat.le_of_ble_eq_true rfl) ?_
  intro p e s m args below meth c A hc hr hlk hnm hro
  generalize hQ : MQ below _ args s 0 0 A = Q
  show V p l e (RM 5 126 0 0) s m args below meth c D A 5 0 0 Q (wS cI cZ h aE aL aF aR aS σ) 0 [(0, .ref hi), (1, .int (nI c0))] []
  have lp45 : ∀ (τ : CS), K2 0 τ → V p l e (RM 5 126 0 0) s m args below meth c D A 5 0 0 Q (wS cI cZ h aE aL aF aR aS τ) 45 [(0, .ref hi), (1, .int (nI c0))] [] := by
    intro τ hK
    refine r_aload_n hc dX2_drawFrom_45 rfl 0 rfl ?_
    refine r_callV (As := []) (n := 0) (wr := []) hc (c_drawSub l D cI cZ cW h aE aL aF aR aS τ hi hr1 hs1 ar as rwa rca rcol rlen nr swa sca scol slen ns hrl hnr hsl hns K2 hK hK2p hK2s) co_yX2_drawFromSubgroup in_X2 ml_X2_42 (by decide +kernel) rfl ⟨by decide, by decide⟩ ⟨by decide, by decide⟩ im_yX2_drawFromSubgroup se_yX2_drawFromSubgroup rfl (Or.inr ⟨_, (hro _ (List.mem_of_getElem? (i := 0) rfl))⟩) rfl (Nat.le_of_ble_eq_true rfl) [0, 1, 2, 3, 4, 5] [] rfl rfl rfl rfl (by decide) (fun q hq => Or.inr (hro q hq)) dX2_drawFrom_46 (fun u e1 => ?_)
    show V p l e (RM 5 126 0 0) s m args below meth c D A 5 0 0 Q (wS cI cZ h aE aL aF aR aS u) 49 [(0, .ref hi), (1, .int (nI c0))] []
    obtain ⟨hMu, hmu⟩ := hK2e u e1
    refine r_iconst (v := (nI 0)) hc dX2_drawFrom_49 rfl ?_
    refine r_istore_n (lv' := [(2, .int (nI 0)), (0, .ref hi), (1, .int (nI c0))]) hc dX2_drawFrom_50 rfl (by decide) rfl ?_
    have lp51 : ∀ (n : Nat) (τ : CS) (i : Nat), 1000000 - i = n → (M τ) → (i + μ τ < 1000000) → V p l e (RM 5 126 0 0) s m args below meth c D A 5 0 0 Q (wS cI cZ h aE aL aF aR aS τ) 51 [(2, .int (nI i)), (0, .ref hi), (1, .int (nI c0))] [] := by
      intro n
      induction n using Nat.strongRecOn with
      | _ n ih51 =>
      intro τ i hm51 hMt hiμ
      obtain ⟨hBt, hrt⟩ := hM τ hMt
      obtain ⟨tM, tC, tL, tF, tR, tE, tRc, tFc, tV, tO⟩ := id hBt
      refine r_iload_n hc dX2_drawFrom_51 rfl 0 rfl ?_
      refine r_ldc hc cn_X2_45 dX2_drawFrom_52 ?_
      rw [show (1000000 : Int32) = nI 1000000 from rfl]
      refine n_icmp_ge hc 138 dX2_drawFrom_54 (by decide) (by omega) (by omega) (fun h2 => ?_) (fun h2 => ?_)
      · exact absurd h2 (by omega)
      · refine r_aload_n hc dX2_drawFrom_57 rfl 1 rfl ?_
        refine r_getR hc inlX2 (hro _ (List.mem_of_getElem? (i := 0) rfl)) rfl 0 (by decide) fl_X2_9 rfl rfl dX2_drawFrom_58 ?_
        refine r_getN hc inlX1 0 rfl rfl 6 (by decide) nf_X2_46 rfl rfl dX2_drawFrom_61 ?_
        refine n_if_le hc 138 dX2_drawFrom_64 (by decide) (by omega) (fun h3 => ?_) (fun h3 => ?_)
        · rw [← hQ]
          exact r_vret hc hr hlk τ ⟨hMt, h3⟩ rfl dX2_drawFrom_138
        · refine r_aload_n hc dX2_drawFrom_67 rfl 1 rfl ?_
          refine r_getR hc inlX2 (hro _ (List.mem_of_getElem? (i := 0) rfl)) rfl 0 (by decide) fl_X2_9 rfl rfl dX2_drawFrom_68 ?_
          refine r_callI (As := []) (n := 0) (wr := []) hc (c_takeFresh l D cI cZ cW h aE aL aF aR aS τ h3 hBt) co_yX1_takeFresh in_X1 ml_X2_49 (by decide +kernel) rfl ⟨by decide, by decide⟩ ⟨by decide, by decide⟩ im_yX1_takeFresh se_yX1_takeFresh rfl (Or.inl ⟨0, _, rfl⟩) rfl (Nat.le_of_ble_eq_true rfl) [0, 1, 2, 3, 4, 5] [] rfl rfl rfl rfl (by decide) (fun q hq => absurd hq List.not_mem_nil) dX2_drawFrom_71 (fun r u1 e4 => ?_)
          show V p l e (RM 5 126 0 0) s m args below meth c D A 5 0 0 Q (wS cI cZ h aE aL aF aR aS u1) 74 [(2, .int (nI i)), (0, .ref hi), (1, .int (nI c0))] [.int r]
          obtain ⟨rfl, rfl⟩ := e4
          show V p l e (RM 5 126 0 0) s m args below meth c D A 5 0 0 Q (wS cI cZ h aE aL aF aR aS (fTake τ)) 74 [(2, .int (nI i)), (0, .ref hi), (1, .int (nI c0))] [.int (nI (sR τ (sRc τ - 1)))]
          have hPb := tR (sRc τ - 1)
          refine r_istore_n (lv' := [(3, .int (nI (sR τ (sRc τ - 1)))), (2, .int (nI i)), (0, .ref hi), (1, .int (nI c0))]) hc dX2_drawFrom_74 rfl (by decide) rfl ?_
          refine r_iconst (v := (nI 0)) hc dX2_drawFrom_75 rfl ?_
          refine r_istore (lv' := [(4, .int (nI 0)), (3, .int (nI (sR τ (sRc τ - 1)))), (2, .int (nI i)), (0, .ref hi), (1, .int (nI c0))]) hc dX2_drawFrom_76 (by decide) rfl ?_
          have lp78 : ∀ (n : Nat) (ρ : CS) (k : Nat), nr - k = n → (k ≤ nr) → (J τ k 0 ρ) → V p l e (RM 5 126 0 0) s m args below meth c D A 5 0 0 Q (wS cI cZ h aE aL aF aR aS ρ) 78 [(4, .int (nI k)), (3, .int (nI (sR τ (sRc τ - 1)))), (2, .int (nI i)), (0, .ref hi), (1, .int (nI c0))] [] := by
            intro n
            induction n using Nat.strongRecOn with
            | _ n ih78 =>
            intro ρ k hm78 hk1 hJk
            refine r_iload hc dX2_drawFrom_78 0 rfl ?_
            refine r_aload_n hc dX2_drawFrom_80 rfl 3 rfl ?_
            refine r_getR hc inlX2 (hro _ (List.mem_of_getElem? (i := 0) rfl)) rfl 1 (by decide) fl_X2_15 rfl rfl dX2_drawFrom_81 ?_
            refine r_getRN hc inlX4 (hro _ (List.mem_of_getElem? (i := 1) rfl)) rfl 1 (by decide) nf_X2_22 rfl rfl dX2_drawFrom_84 ?_
            refine n_icmp_ge hc 118 dX2_drawFrom_87 (by decide) (by omega) (by omega) (fun h5 => ?_) (fun h5 => ?_)
            · have hJr : J τ nr 0 ρ := (show k = nr by omega) ▸ hJk
              have hBr := hJB τ ρ hMt hJr
              obtain ⟨pM, pC, pL, pF, pR, pE, pRc, pFc, pV, pO⟩ := id hBr
              refine r_aload_n hc dX2_drawFrom_118 rfl 3 rfl ?_
              refine r_getR hc inlX2 (hro _ (List.mem_of_getElem? (i := 0) rfl)) rfl 0 (by decide) fl_X2_9 rfl rfl dX2_drawFrom_119 ?_
              refine r_getN hc inlX1 0 rfl rfl 6 (by decide) nf_X2_46 rfl rfl dX2_drawFrom_122 ?_
              refine n_if_ne hc 132 dX2_drawFrom_125 (by decide) (by omega) (fun h6 => ?_) (fun h6 => ?_)
              · have hN := hJe τ ρ hMt hJr (by omega)
                refine r_iinc (k := 2) (v := (nI (i + 1))) (lv' := [(2, .int (nI (i + 1))), (4, .int (nI k)), (3, .int (nI (sR τ (sRc τ - 1)))), (0, .ref hi), (1, .int (nI c0))]) hc dX2_drawFrom_132 rfl (nI_add _ _) (by decide) rfl ?_
                refine r_goto hc 51 dX2_drawFrom_135 (by decide) ?_
                refine r_lv [0, 3, 4] rfl ?_
                exact ih51 _ (by omega) ρ (i + 1) rfl hN.1 (by have := hN.2; omega)
              · refine r_aload_n hc dX2_drawFrom_128 rfl 3 rfl ?_
                refine r_callV (As := []) (n := 0) (wr := []) hc (c_drawSub l D cI cZ cW h aE aL aF aR aS ρ hi hr1 hs1 ar as rwa rca rcol rlen nr swa sca scol slen ns hrl hnr hsl hns (fun i ρ => K3 τ i ρ) (hJ4 τ ρ hMt hJr h6) (fun i ρ q => hK3p τ i ρ hMt q) (fun i ρ u q => hK3s τ i ρ u hMt q)) co_yX2_drawFromSubgroup in_X2 ml_X2_42 (by decide +kernel) rfl ⟨by decide, by decide⟩ ⟨by decide, by decide⟩ im_yX2_drawFromSubgroup se_yX2_drawFromSubgroup rfl (Or.inr ⟨_, (hro _ (List.mem_of_getElem? (i := 0) rfl))⟩) rfl (Nat.le_of_ble_eq_true rfl) [0, 1, 2, 3, 4, 5] [] rfl rfl rfl rfl (by decide) (fun q hq => Or.inr (hro q hq)) dX2_drawFrom_129 (fun u3 e7 => ?_)
                show V p l e (RM 5 126 0 0) s m args below meth c D A 5 0 0 Q (wS cI cZ h aE aL aF aR aS u3) 132 [(4, .int (nI k)), (3, .int (nI (sR τ (sRc τ - 1)))), (2, .int (nI i)), (0, .ref hi), (1, .int (nI c0))] []
                have hN := hK3e τ u3 hMt e7
                refine r_iinc (k := 2) (v := (nI (i + 1))) (lv' := [(2, .int (nI (i + 1))), (4, .int (nI k)), (3, .int (nI (sR τ (sRc τ - 1)))), (0, .ref hi), (1, .int (nI c0))]) hc dX2_drawFrom_132 rfl (nI_add _ _) (by decide) rfl ?_
                refine r_goto hc 51 dX2_drawFrom_135 (by decide) ?_
                refine r_lv [0, 3, 4] rfl ?_
                exact ih51 _ (by omega) u3 (i + 1) rfl hN.1 (by have := hN.2; omega)
            · refine r_aload_n hc dX2_drawFrom_90 rfl 3 rfl ?_
              refine r_iload_n hc dX2_drawFrom_91 rfl 1 rfl ?_
              refine r_bipush (v := (nI 6)) hc dX2_drawFrom_92 rfl ?_
              refine n_div hc dX2_drawFrom_94 (by omega) (by decide) (by decide) ?_
              refine r_iload_n hc dX2_drawFrom_95 rfl 1 rfl ?_
              refine r_bipush (v := (nI 6)) hc dX2_drawFrom_96 rfl ?_
              refine n_rem hc dX2_drawFrom_98 (by omega) (by decide) (by decide) ?_
              refine r_aload_n hc dX2_drawFrom_99 rfl 3 rfl ?_
              refine r_getR hc inlX2 (hro _ (List.mem_of_getElem? (i := 0) rfl)) rfl 1 (by decide) fl_X2_15 rfl rfl dX2_drawFrom_100 ?_
              refine r_getRN hc inlX4 (hro _ (List.mem_of_getElem? (i := 1) rfl)) rfl 0 (by decide) nf_X2_34 rfl rfl dX2_drawFrom_103 ?_
              refine r_iload hc dX2_drawFrom_106 0 rfl ?_
              refine r_aldR hc (hro _ (List.mem_of_getElem? (i := 2) rfl)) (by omega) (by decide) rfl dX2_drawFrom_108 ?_
              obtain ⟨l1, l2, l3⟩ := hrl k h5
              refine r_callV (As := [.int (nI ((sR τ (sRc τ - 1)) / 6)), .int (nI ((sR τ (sRc τ - 1)) % 6)), .ref (rwa k)]) (n := 3) (wr := []) hc (c_drawThrough l D cI cZ cW h aE aL aF aR aS ρ hi hr1 hs1 (rwa k) (rca k) (rcol k) (rlen k) (sR τ (sRc τ - 1) / 6) (sR τ (sRc τ - 1) % 6) (by omega) l2 l3 (fun n ρ => J τ k n ρ) hJk (fun n ρ q => hJp τ k n ρ hMt h5 q) (fun n ρ d u q => hJ1 τ k n ρ d u hMt h5 q) (fun n ρ d u q => hJ2 τ k n ρ d u hMt h5 q) (fun n ρ d q => hJ3 τ k n ρ d hMt h5 q)) co_yX2_drawThrough in_X2 ml_X2_53 (by decide +kernel) rfl ⟨by decide, by decide⟩ ⟨by decide, by decide⟩ im_yX2_drawThrough se_yX2_drawThrough rfl (Or.inr ⟨_, (hro _ (List.mem_of_getElem? (i := 0) rfl))⟩) rfl (Nat.le_of_ble_eq_true rfl) [0, 1, 2, 3, 4, 5] [] rfl rfl rfl rfl (by decide) (fun q hq => Or.inr ((List.mem_cons.mp hq).elim (fun z => z ▸ hro _ (List.mem_of_getElem? (i := 0) rfl)) (fun hq => hro q (List.mem_cons_of_mem _ (List.mem_append_left _ (wL_word (by omega) hq)))))) dX2_drawFrom_109 (fun u2 e8 => ?_)
              show V p l e (RM 5 126 0 0) s m args below meth c D A 5 0 0 Q (wS cI cZ h aE aL aF aR aS u2) 112 [(4, .int (nI k)), (3, .int (nI (sR τ (sRc τ - 1)))), (2, .int (nI i)), (0, .ref hi), (1, .int (nI c0))] []
              have hJu : J τ (k + 1) 0 u2 := e8.elim (fun q => hJn τ k _ u2 hMt h5 (Nat.le_refl _) q (Or.inl rfl)) (fun ⟨n, q1, q2, q3⟩ => hJn τ k n u2 hMt h5 (Nat.le_of_lt q1) q2 (Or.inr q3))
              refine r_iinc (k := 0) (v := (nI (k + 1))) (lv' := [(4, .int (nI (k + 1))), (3, .int (nI (sR τ (sRc τ - 1)))), (2, .int (nI i)), (0, .ref hi), (1, .int (nI c0))]) hc dX2_drawFrom_112 rfl (nI_add _ _) (by decide) rfl ?_
              refine r_goto hc 78 dX2_drawFrom_115 (by decide) ?_
              refine r_lv [0, 1, 2, 3, 4] rfl ?_
              exact ih78 _ (by omega) u2 (k + 1) rfl (by omega) hJu
          refine r_lv [0, 1, 2, 3, 4] rfl ?_
          exact lp78 _ (fTake τ) 0 rfl (Nat.zero_le _) (hJ0 τ hMt h3)
    refine r_lv [0, 1, 2] rfl ?_
    exact lp51 _ u 0 rfl hMu (by omega)
  refine r_iconst (v := (nI 0)) hc dX2_drawFrom_0 rfl ?_
  refine r_istore_n (lv' := [(2, .int (nI 0)), (0, .ref hi), (1, .int (nI c0))]) hc dX2_drawFrom_1 rfl (by decide) rfl ?_
  have lp2 : ∀ (n : Nat) (τ : CS) (i : Nat), nr - i = n → (i ≤ nr) → (K1 i τ) → V p l e (RM 5 126 0 0) s m args below meth c D A 5 0 0 Q (wS cI cZ h aE aL aF aR aS τ) 2 [(2, .int (nI i)), (0, .ref hi), (1, .int (nI c0))] [] := by
    intro n
    induction n using Nat.strongRecOn with
    | _ n ih2 =>
    intro τ i hm2 hi1 hK
    refine r_iload_n hc dX2_drawFrom_2 rfl 0 rfl ?_
    refine r_aload_n hc dX2_drawFrom_3 rfl 1 rfl ?_
    refine r_getR hc inlX2 (hro _ (List.mem_of_getElem? (i := 0) rfl)) rfl 1 (by decide) fl_X2_15 rfl rfl dX2_drawFrom_4 ?_
    refine r_getRN hc inlX4 (hro _ (List.mem_of_getElem? (i := 1) rfl)) rfl 1 (by decide) nf_X2_22 rfl rfl dX2_drawFrom_7 ?_
    refine n_icmp_ge hc 45 dX2_drawFrom_10 (by decide) (by omega) (by omega) (fun h9 => ?_) (fun h9 => ?_)
    · refine r_lv [1, 2] rfl ?_
      exact lp45 τ (hK12 i τ hi1 hK (Or.inl (by omega)))
    · obtain ⟨hPC, hcM⟩ := hK1q i τ h9 hK
      refine r_aload_n hc dX2_drawFrom_13 rfl 1 rfl ?_
      refine r_getR hc inlX2 (hro _ (List.mem_of_getElem? (i := 0) rfl)) rfl 0 (by decide) fl_X2_9 rfl rfl dX2_drawFrom_14 ?_
      refine r_iload_n hc dX2_drawFrom_17 rfl 2 rfl ?_
      refine r_callI (As := [.int (nI c0)]) (n := 1) (wr := wS cI cZ h aE aL aF aR aS τ) hc (c_lives l D cI cZ cW h aE aL aF aR aS τ (nI c0) hPC.1) co_yX1_lives in_X1 ml_X2_28 (by decide +kernel) rfl ⟨by decide, by decide⟩ ⟨by decide, by decide⟩ im_yX1_lives se_yX1_lives rfl (Or.inl ⟨0, _, rfl⟩) rfl (Nat.le_of_ble_eq_true rfl) [] [0, 1, 2, 3, 4, 5] rfl rfl rfl rfl (by decide) (fun q hq => Or.inl ((List.getElem?_of_mem hq).elim fun k hk => ⟨k, hk, List.not_mem_nil⟩)) dX2_drawFrom_18 (fun r10 u11 e12 => ?_)
      subst e12
      rw [livI_n _ (by omega)]
      refine z_if_eq hc 45 dX2_drawFrom_21 (by decide) (fun h13 => ?_) (fun h13 => ?_)
      · refine r_lv [1, 2] rfl ?_
        exact lp45 τ (hK12 i τ hi1 hK (Or.inr h13))
      · refine r_aload_n hc dX2_drawFrom_24 rfl 1 rfl ?_
        refine r_aload_n hc dX2_drawFrom_25 rfl 1 rfl ?_
        refine r_getR hc inlX2 (hro _ (List.mem_of_getElem? (i := 0) rfl)) rfl 1 (by decide) fl_X2_15 rfl rfl dX2_drawFrom_26 ?_
        refine r_getRN hc inlX4 (hro _ (List.mem_of_getElem? (i := 1) rfl)) rfl 0 (by decide) nf_X2_34 rfl rfl dX2_drawFrom_29 ?_
        refine r_iload_n hc dX2_drawFrom_32 rfl 0 rfl ?_
        refine r_aldR hc (hro _ (List.mem_of_getElem? (i := 2) rfl)) (by omega) (by decide) rfl dX2_drawFrom_33 ?_
        refine r_iconst (v := (nI 0)) hc dX2_drawFrom_34 rfl ?_
        refine r_iload_n hc dX2_drawFrom_35 rfl 2 rfl ?_
        obtain ⟨l1, l2, l3⟩ := hrl i h9
        refine r_callV (As := [.ref (rwa i), .int (nI 0), .int (nI c0)]) (n := 3) (wr := []) hc (c_close l D cI cZ cW h aE aL aF aR aS τ hi hr1 hs1 (rwa i) (rca i) (rcol i) (rlen i) 0 c0 l2 l1 l3 hcM hPC) co_yX2_close in_X2 ml_X2_38 (by decide +kernel) rfl ⟨by decide, by decide⟩ ⟨by decide, by decide⟩ im_yX2_close se_yX2_close rfl (Or.inr ⟨_, (hro _ (List.mem_of_getElem? (i := 0) rfl))⟩) rfl (Nat.le_of_ble_eq_true rfl) [0, 1, 2, 3, 4, 5] [] rfl rfl rfl rfl (by decide) (fun q hq => Or.inr ((List.mem_cons.mp hq).elim (fun z => z ▸ hro _ (List.mem_of_getElem? (i := 0) rfl)) (fun hq => hro q (List.mem_cons_of_mem _ (List.mem_append_left _ (wL_word (by omega) hq)))))) dX2_drawFrom_36 (fun u e14 => ?_)
        show V p l e (RM 5 126 0 0) s m args below meth c D A 5 0 0 Q (wS cI cZ h aE aL aF aR aS u) 39 [(2, .int (nI i)), (0, .ref hi), (1, .int (nI c0))] []
        refine r_iinc (k := 0) (v := (nI (i + 1))) (lv' := [(2, .int (nI (i + 1))), (0, .ref hi), (1, .int (nI c0))]) hc dX2_drawFrom_39 rfl (nI_add _ _) (by decide) rfl ?_
        refine r_goto hc 2 dX2_drawFrom_42 (by decide) ?_
        refine r_lv [0, 1, 2] rfl ?_
        exact ih2 _ (by omega) u (i + 1) rfl (by omega) (hK1s i τ u h9 hK h13 e14)
  refine r_lv [0, 1, 2] rfl ?_
  exact lp2 _ σ 0 rfl (Nat.zero_le _) hK1
