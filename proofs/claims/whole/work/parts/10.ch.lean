def fClr (σ : CS) (k x d : Nat) : CS := (va_up (va_up (sE σ) (k * 6 + x) none) (d * 6 + (x ^^^ 1)) none, sL σ, sF σ, sFc σ, sR σ, sS σ, sRc σ, sO σ, sC σ, sM σ, sV σ)
def hoS2 (τ : CS) (a b x : Nat) : CS := match sE τ (a * 6 + x) with
  | some f => fFall τ f b
  | none => match sE τ (b * 6 + (x ^^^ 1)) with
    | some g => fFall τ g a
    | none => fJoin τ a x b
def hoStep (σ : CS) (k x : Nat) : CS := match sE σ (k * 6 + x) with
  | none => σ
  | some d => hoS2 (fClr σ k x d) (sL σ k) (sL σ d) x
def hoI (σ : CS) (k n : Nat) : CS := match n with | 0 => σ | n + 1 => hoStep (hoI σ k n) k n
def PreHo (τ : CS) : Prop := BD τ ∧ sFc τ < 200 ∧ 1 ≤ sV τ ∧ ∀ p, p < 1200 → sS τ p = false → sRc τ < 1200
theorem up_some {f : Nat → Option Nat} {k i d : Nat} {v : Option Nat} {B : Nat} (hf : ∀ i d, f i = some d → d < B) (hv : ∀ d, v = some d → d < B) (h : va_up f k v i = some d) : d < B := by
  simp only [va_up] at h
  split at h
  · exact hv d h
  · exact hf i d h
theorem BD.clr {σ : CS} {k x d : Nat} (h : BD σ) : BD (fClr σ k x d) := ⟨h.1, h.2.1, h.2.2.1, h.2.2.2.1, h.2.2.2.2.1, fun i e q => up_some (fun i e q => up_some h.2.2.2.2.2.1 (fun _ z => by cases z) q) (fun _ z => by cases z) q, h.2.2.2.2.2.2⟩
theorem sC_fall (σ : CS) (a b : Nat) : sC (fFall σ a b) = sC σ := by unfold fFall; split; rfl; split <;> rfl
theorem sC_join (σ : CS) (a x b : Nat) : sC (fJoin σ a x b) = sC σ := by unfold fJoin; split <;> rfl
theorem sC_ho (σ : CS) (k n : Nat) : sC (hoI σ k n) = sC σ := by
  induction n with
  | zero => rfl
  | succ n ih =>
    rw [hoI, ← ih]
    generalize hoI σ k n = τ
    unfold hoStep
    split
    · rfl
    · unfold hoS2
      split
      · rw [sC_fall]; rfl
      · split
        · rw [sC_fall]; rfl
        · rw [sC_join]; rfl
theorem ho_none {τ : CS} {k x : Nat} (h : sE τ (k * 6 + x) = none) : hoStep τ k x = τ := by unfold hoStep; rw [h]
theorem ho_a {τ ρ : CS} {k x d f : Nat} (h : sE τ (k * 6 + x) = some d) (hρ : ρ = fClr τ k x d) (hf : sE ρ (sL ρ k * 6 + x) = some f) : hoStep τ k x = fFall ρ f (sL ρ d) := by
  subst hρ
  unfold hoStep; rw [h]; show hoS2 _ _ _ _ = _; unfold hoS2
  rw [show sE (fClr τ k x d) (sL τ k * 6 + x) = some f from hf]; rfl
theorem ho_b {τ ρ : CS} {k x d f : Nat} (h : sE τ (k * 6 + x) = some d) (hρ : ρ = fClr τ k x d) (hn : sE ρ (sL ρ k * 6 + x) = none) (hf : sE ρ (sL ρ d * 6 + (x ^^^ 1)) = some f) : hoStep τ k x = fFall ρ f (sL ρ k) := by
  subst hρ
  unfold hoStep; rw [h]; show hoS2 _ _ _ _ = _; unfold hoS2
  rw [show sE (fClr τ k x d) (sL τ k * 6 + x) = none from hn]; show (match sE (fClr τ k x d) (sL τ d * 6 + (x ^^^ 1)) with | some g => _ | none => _) = _
  rw [show sE (fClr τ k x d) (sL τ d * 6 + (x ^^^ 1)) = some f from hf]; rfl
theorem ho_c {τ ρ : CS} {k x d : Nat} (h : sE τ (k * 6 + x) = some d) (hρ : ρ = fClr τ k x d) (hn : sE ρ (sL ρ k * 6 + x) = none) (hf : sE ρ (sL ρ d * 6 + (x ^^^ 1)) = none) : hoStep τ k x = fJoin ρ (sL ρ k) x (sL ρ d) := by
  subst hρ
  unfold hoStep; rw [h]; show hoS2 _ _ _ _ = _; unfold hoS2
  rw [show sE (fClr τ k x d) (sL τ k * 6 + x) = none from hn]; show (match sE (fClr τ k x d) (sL τ d * 6 + (x ^^^ 1)) with | some g => _ | none => _) = _
  rw [show sE (fClr τ k x d) (sL τ d * 6 + (x ^^^ 1)) = none from hf]; rfl
set_option maxHeartbeats 4000000 in
set_option maxRecDepth 100000 in
/-- handOver(k) -/
theorem c_handOver (l : Launch) (D : va_G) (cI cZ cW : ClassId) (h aE aL aF aR aS : Nat) (σ : CS) (k : Nat) (hk : k < 200) (hC6 : sC σ ≤ 6) (hP : ∀ x, x < sC σ → PreHo (hoI σ k x)) : CtV l yX1_handOver cX1_handOver 6 none 1 25 0 0 D cI cZ cW [.ref h, .int (nI k)] (wS cI cZ h aE aL aF aR aS σ) ([]) (S := CS) (fun u => u = hoI σ k (sC σ)) (fun u => wS cI cZ h aE aL aF aR aS u) := by
  refine CtV.mk (by decide) (Nat.le_of_ble_eq_true rfl) ?_
  intro p e s m args below meth c A hc hr hlk hnm hro
  generalize hQ : MQ below _ args s 0 0 A = Q
  show V p l e (RM 1 25 0 0) s m args below meth c D A 6 0 0 Q (wS cI cZ h aE aL aF aR aS σ) 0 [(0, .ref h), (1, .int (nI k))] []
  refine r_iconst (v := (nI 0)) hc dX1_handOver_0 rfl ?_
  refine r_istore_n (lv' := [(2, .int (nI 0)), (0, .ref h), (1, .int (nI k))]) hc dX1_handOver_1 rfl (by decide) rfl ?_
  have lp2 : ∀ (n : Nat) (x : Nat), sC σ - x = n → (x ≤ sC σ) → V p l e (RM 1 25 0 0) s m args below meth c D A 6 0 0 Q (wS cI cZ h aE aL aF aR aS (hoI σ k x)) 2 [(2, .int (nI x)), (0, .ref h), (1, .int (nI k))] [] := by
    intro n
    induction n using Nat.strongRecOn with
    | _ n ih2 =>
    intro x hm2 hx
    obtain ⟨τ, hτ⟩ : ∃ τ, τ = hoI σ k x := ⟨_, rfl⟩
    have hcτ : sC τ = sC σ := by rw [hτ, sC_ho]
    rw [← hτ]
    refine r_iload_n hc dX1_handOver_2 rfl 0 rfl ?_
    refine r_aload_n hc dX1_handOver_3 rfl 1 rfl ?_
    refine r_get hc inlX1 0 rfl rfl 8 (by decide) fl_X1_28 rfl rfl dX1_handOver_4 ?_
    refine n_icmp_ge hc 140 dX1_handOver_7 (by decide) (by omega) (by omega) (fun h1 => ?_) (fun h1 => ?_)
    · obtain rfl : x = sC σ := by omega
      subst hτ
      show V p l e (RM 1 25 0 0) s m args below meth c D A 6 0 0 Q (wS cI cZ h aE aL aF aR aS (hoI σ k (sC σ))) 140 [(2, .int (nI (sC σ))), (0, .ref h), (1, .int (nI k))] []
      rw [← hQ]
      exact r_vret hc hr hlk (hoI σ k (sC σ)) rfl rfl dX1_handOver_140
    · have hp := hP x (by omega)
      rw [← hτ] at hp
      obtain ⟨hBτ, tF1, tV1, tS⟩ := hp
      have hBτ0 := hBτ
      obtain ⟨tM, tC, tL, tF, tR, tE, tRc, tFc, tV, tO⟩ := hBτ
      have hx6 : x < 6 := by omega
      have hx1 := xor1_lt hx6
      refine r_aload_n hc dX1_handOver_10 rfl 1 rfl ?_
      refine r_iload_n hc dX1_handOver_11 rfl 2 rfl ?_
      refine r_iload_n hc dX1_handOver_12 rfl 0 rfl ?_
      refine r_callI (As := [.int (nI k), .int (nI x)]) (n := 2) (wr := wS cI cZ h aE aL aF aR aS τ) hc (c_at l D cI cZ cW h aE aL aF aR aS τ k x (by omega) (by omega)) co_yX1_at in_X1 ml_X1_70 (by decide +kernel) rfl ⟨by decide, by decide⟩ ⟨by decide, by decide⟩ im_yX1_at se_yX1_at rfl (Or.inl ⟨0, _, rfl⟩) rfl (Nat.le_of_ble_eq_true rfl) [] [0, 1, 2, 3, 4, 5] rfl rfl rfl rfl (by decide) (fun q hq => Or.inl ((List.getElem?_of_mem hq).elim fun k hk => ⟨k, hk, List.not_mem_nil⟩)) dX1_handOver_13 (fun r2 u3 e4 => ?_)
      subst e4
      show V p l e (RM 1 25 0 0) s m args below meth c D A 6 0 0 Q (wS cI cZ h aE aL aF aR aS τ) 16 [(2, .int (nI x)), (0, .ref h), (1, .int (nI k))] [.int (eI (sE τ (k * 6 + x)))]
      refine r_istore_n (lv' := [(3, .int (eI (sE τ (k * 6 + x)))), (2, .int (nI x)), (0, .ref h), (1, .int (nI k))]) hc dX1_handOver_16 rfl (by decide) rfl ?_
      refine r_iload_n hc dX1_handOver_17 rfl 0 rfl ?_
      refine r_iconst (v := (-1)) hc dX1_handOver_18 rfl ?_
      refine e_icmp_ne hc 25 dX1_handOver_19 (by decide) (fun d h => Nat.lt_trans (tE _ d h) (by decide)) (fun d6 h5 => ?_) (fun h5 => ?_)
      · rw [h5]
        show V _ _ _ _ _ _ _ _ _ _ _ _ _ _ _ _ _ _ [(3, .int (nI d6)), (2, .int (nI x)), (0, .ref h), (1, .int (nI k))] []
        have pd : d6 < 200 := tE _ _ h5
        refine r_aload_n hc dX1_handOver_25 rfl 2 rfl ?_
        refine r_get hc inlX1 0 rfl rfl 0 (by decide) fl_X1_9 rfl rfl dX1_handOver_26 ?_
        refine r_iload_n hc dX1_handOver_29 rfl 3 rfl ?_
        refine r_bipush (v := (nI 6)) hc dX1_handOver_30 rfl ?_
        refine n_mul hc dX1_handOver_32 ?_
        refine r_iload_n hc dX1_handOver_33 rfl 1 rfl ?_
        refine n_add hc dX1_handOver_34 ?_
        refine r_iconst (v := (-1)) hc dX1_handOver_35 rfl ?_
        refine r_iast (ws' := wX cI cZ h aE aL aF aR aS (va_up (sE τ) ((k * 6) + x) none) (sL τ) (sF τ) (sFc τ) (sR τ) (sS τ) (sRc τ) (sO τ) (sC τ) (sM τ) (sV τ)) hc eI none 1 rfl (by omega) (by decide) rfl dX1_handOver_36 ?_
        refine r_aload_n hc dX1_handOver_37 rfl 2 rfl ?_
        refine r_get hc inlX1 0 rfl rfl 0 (by decide) fl_X1_9 rfl rfl dX1_handOver_38 ?_
        refine r_iload_n hc dX1_handOver_41 rfl 0 rfl ?_
        refine r_bipush (v := (nI 6)) hc dX1_handOver_42 rfl ?_
        refine n_mul hc dX1_handOver_44 ?_
        refine r_iload_n hc dX1_handOver_45 rfl 1 rfl ?_
        refine r_iconst (v := (nI 1)) hc dX1_handOver_46 rfl ?_
        refine n_xor hc dX1_handOver_47 ?_
        refine n_add hc dX1_handOver_48 ?_
        refine r_iconst (v := (-1)) hc dX1_handOver_49 rfl ?_
        refine r_iast (ws' := wX cI cZ h aE aL aF aR aS (va_up (va_up (sE τ) ((k * 6) + x) none) ((d6 * 6) + (x ^^^ 1)) none) (sL τ) (sF τ) (sFc τ) (sR τ) (sS τ) (sRc τ) (sO τ) (sC τ) (sM τ) (sV τ)) hc eI none 1 rfl (by omega) (by decide) rfl dX1_handOver_50 ?_
        obtain ⟨ρ, hρ⟩ : ∃ ρ, ρ = fClr τ k x d6 := ⟨_, rfl⟩
        have hBρ : BD ρ := by rw [hρ]; exact hBτ0.clr
        have hBρ0 := hBρ
        obtain ⟨pM, pC, pL, pF, pR, pE, pRc, pFc, pV, pO⟩ := hBρ
        have pF1 : sFc ρ < 200 := by rw [hρ]; exact tF1
        have pV1 : 1 ≤ sV ρ := by rw [hρ]; exact tV1
        have pS : ∀ p, p < 1200 → sS ρ p = false → sRc ρ < 1200 := by rw [hρ]; exact tS
        show V p l e (RM 1 25 0 0) s m args below meth c D A 6 0 0 Q (wS cI cZ h aE aL aF aR aS (fClr τ k x d6)) 51 [(3, .int (nI d6)), (2, .int (nI x)), (0, .ref h), (1, .int (nI k))] []
        rw [← hρ]
        refine r_aload_n hc dX1_handOver_51 rfl 2 rfl ?_
        refine r_get hc inlX1 0 rfl rfl 1 (by decide) fl_X1_15 rfl rfl dX1_handOver_52 ?_
        refine r_iload_n hc dX1_handOver_55 rfl 3 rfl ?_
        have b7 := pL k
        refine r_iald hc nI 2 rfl (by omega) (by decide) dX1_handOver_56 ?_
        refine r_istore (lv' := [(4, .int (nI ((sL ρ) k))), (3, .int (nI d6)), (2, .int (nI x)), (0, .ref h), (1, .int (nI k))]) hc dX1_handOver_57 (by decide) rfl ?_
        refine r_aload_n hc dX1_handOver_59 rfl 3 rfl ?_
        refine r_get hc inlX1 0 rfl rfl 1 (by decide) fl_X1_15 rfl rfl dX1_handOver_60 ?_
        refine r_iload_n hc dX1_handOver_63 rfl 1 rfl ?_
        have b8 := pL d6
        refine r_iald hc nI 2 rfl (by omega) (by decide) dX1_handOver_64 ?_
        refine r_istore (lv' := [(5, .int (nI ((sL ρ) d6))), (4, .int (nI ((sL ρ) k))), (3, .int (nI d6)), (2, .int (nI x)), (0, .ref h), (1, .int (nI k))]) hc dX1_handOver_65 (by decide) rfl ?_
        refine r_aload_n hc dX1_handOver_67 rfl 4 rfl ?_
        refine r_iload hc dX1_handOver_68 1 rfl ?_
        refine r_iload_n hc dX1_handOver_70 rfl 3 rfl ?_
        refine r_callI (As := [.int (nI ((sL ρ) k)), .int (nI x)]) (n := 2) (wr := wS cI cZ h aE aL aF aR aS ρ) hc (c_at l D cI cZ cW h aE aL aF aR aS ρ ((sL ρ) k) x (by omega) (by omega)) co_yX1_at in_X1 ml_X1_70 (by decide +kernel) rfl ⟨by decide, by decide⟩ ⟨by decide, by decide⟩ im_yX1_at se_yX1_at rfl (Or.inl ⟨0, _, rfl⟩) rfl (Nat.le_of_ble_eq_true rfl) [] [0, 1, 2, 3, 4, 5] rfl rfl rfl rfl (by decide) (fun q hq => Or.inl ((List.getElem?_of_mem hq).elim fun k hk => ⟨k, hk, List.not_mem_nil⟩)) dX1_handOver_71 (fun r9 u10 e11 => ?_)
        subst e11
        show V p l e (RM 1 25 0 0) s m args below meth c D A 6 0 0 Q (wS cI cZ h aE aL aF aR aS ρ) 74 [(5, .int (nI ((sL ρ) d6))), (4, .int (nI ((sL ρ) k))), (3, .int (nI d6)), (2, .int (nI x)), (0, .ref h), (1, .int (nI k))] [.int (eI (sE ρ (((sL ρ) k) * 6 + x)))]
        refine r_iconst (v := (-1)) hc dX1_handOver_74 rfl ?_
        refine e_icmp_eq hc 94 dX1_handOver_75 (by decide) (fun d h => Nat.lt_trans (pE _ d h) (by decide)) (fun h12 => ?_) (fun d13 h12 => ?_)
        · refine r_aload_n hc dX1_handOver_94 rfl 4 rfl ?_
          refine r_iload hc dX1_handOver_95 0 rfl ?_
          refine r_iload_n hc dX1_handOver_97 rfl 3 rfl ?_
          refine r_iconst (v := (nI 1)) hc dX1_handOver_98 rfl ?_
          refine n_xor hc dX1_handOver_99 ?_
          refine r_callI (As := [.int (nI ((sL ρ) d6)), .int (nI (x ^^^ 1))]) (n := 2) (wr := wS cI cZ h aE aL aF aR aS ρ) hc (c_at l D cI cZ cW h aE aL aF aR aS ρ ((sL ρ) d6) (x ^^^ 1) (by omega) (by omega)) co_yX1_at in_X1 ml_X1_70 (by decide +kernel) rfl ⟨by decide, by decide⟩ ⟨by decide, by decide⟩ im_yX1_at se_yX1_at rfl (Or.inl ⟨0, _, rfl⟩) rfl (Nat.le_of_ble_eq_true rfl) [] [0, 1, 2, 3, 4, 5] rfl rfl rfl rfl (by decide) (fun q hq => Or.inl ((List.getElem?_of_mem hq).elim fun k hk => ⟨k, hk, List.not_mem_nil⟩)) dX1_handOver_100 (fun r14 u15 e16 => ?_)
          subst e16
          show V p l e (RM 1 25 0 0) s m args below meth c D A 6 0 0 Q (wS cI cZ h aE aL aF aR aS ρ) 103 [(5, .int (nI ((sL ρ) d6))), (4, .int (nI ((sL ρ) k))), (3, .int (nI d6)), (2, .int (nI x)), (0, .ref h), (1, .int (nI k))] [.int (eI (sE ρ (((sL ρ) d6) * 6 + (x ^^^ 1))))]
          refine r_iconst (v := (-1)) hc dX1_handOver_103 rfl ?_
          refine e_icmp_eq hc 125 dX1_handOver_104 (by decide) (fun d h => Nat.lt_trans (pE _ d h) (by decide)) (fun h17 => ?_) (fun d18 h17 => ?_)
          · refine r_aload_n hc dX1_handOver_125 rfl 4 rfl ?_
            refine r_iload hc dX1_handOver_126 1 rfl ?_
            refine r_iload_n hc dX1_handOver_128 rfl 3 rfl ?_
            refine r_iload hc dX1_handOver_129 0 rfl ?_
            refine r_callV (As := [.int (nI ((sL ρ) k)), .int (nI x), .int (nI ((sL ρ) d6))]) (n := 3) (wr := []) hc (c_join l D cI cZ cW h aE aL aF aR aS ρ (sL ρ k) x (sL ρ d6) (pL _) hx6 (pL _) (fun q => pS _ (by have := pL k; omega) q) hBρ0) co_yX1_join in_X1 ml_X1_52 (by decide +kernel) rfl ⟨by decide, by decide⟩ ⟨by decide, by decide⟩ im_yX1_join se_yX1_join rfl (Or.inl ⟨0, _, rfl⟩) rfl (Nat.le_of_ble_eq_true rfl) [0, 1, 2, 3, 4, 5] [] rfl rfl rfl rfl (by decide) (fun q hq => absurd hq List.not_mem_nil) dX1_handOver_131 (fun u e19 => ?_)
            show V p l e (RM 1 25 0 0) s m args below meth c D A 6 0 0 Q (wS cI cZ h aE aL aF aR aS u) 134 [(5, .int (nI ((sL ρ) d6))), (4, .int (nI ((sL ρ) k))), (3, .int (nI d6)), (2, .int (nI x)), (0, .ref h), (1, .int (nI k))] []
            refine r_lv [4, 5, 3] rfl ?_
            have hnx : u = hoI σ k (x + 1) := by rw [hoI, ← hτ, ho_c h5 hρ h12 h17, e19]
            rw [hnx]
            refine r_iinc (k := 2) (v := (nI (x + 1))) (lv' := [(2, .int (nI (x + 1))), (0, .ref h), (1, .int (nI k))]) hc dX1_handOver_134 rfl (nI_add _ _) (by decide) rfl ?_
            refine r_goto hc 2 dX1_handOver_137 (by decide) ?_
            refine r_lv [0, 1, 2] rfl ?_
            exact ih2 _ (by omega) (x + 1) rfl (by omega)
          · refine r_aload_n hc dX1_handOver_107 rfl 4 rfl ?_
            refine r_aload_n hc dX1_handOver_108 rfl 4 rfl ?_
            refine r_iload hc dX1_handOver_109 0 rfl ?_
            refine r_iload_n hc dX1_handOver_111 rfl 3 rfl ?_
            refine r_iconst (v := (nI 1)) hc dX1_handOver_112 rfl ?_
            refine n_xor hc dX1_handOver_113 ?_
            refine r_callI (As := [.int (nI ((sL ρ) d6)), .int (nI (x ^^^ 1))]) (n := 2) (wr := wS cI cZ h aE aL aF aR aS ρ) hc (c_at l D cI cZ cW h aE aL aF aR aS ρ ((sL ρ) d6) (x ^^^ 1) (by omega) (by omega)) co_yX1_at in_X1 ml_X1_70 (by decide +kernel) rfl ⟨by decide, by decide⟩ ⟨by decide, by decide⟩ im_yX1_at se_yX1_at rfl (Or.inl ⟨0, _, rfl⟩) rfl (Nat.le_of_ble_eq_true rfl) [] [0, 1, 2, 3, 4, 5] rfl rfl rfl rfl (by decide) (fun q hq => Or.inl ((List.getElem?_of_mem hq).elim fun k hk => ⟨k, hk, List.not_mem_nil⟩)) dX1_handOver_114 (fun r20 u21 e22 => ?_)
            subst e22
            show V p l e (RM 1 25 0 0) s m args below meth c D A 6 0 0 Q (wS cI cZ h aE aL aF aR aS ρ) 117 [(5, .int (nI ((sL ρ) d6))), (4, .int (nI ((sL ρ) k))), (3, .int (nI d6)), (2, .int (nI x)), (0, .ref h), (1, .int (nI k))] [.int (eI (sE ρ (((sL ρ) d6) * 6 + (x ^^^ 1)))), .ref h]
            rw [h17]
            show V p l e (RM 1 25 0 0) s m args below meth c D A 6 0 0 Q (wS cI cZ h aE aL aF aR aS ρ) 117 [(5, .int (nI ((sL ρ) d6))), (4, .int (nI ((sL ρ) k))), (3, .int (nI d6)), (2, .int (nI x)), (0, .ref h), (1, .int (nI k))] [.int (nI d18), .ref h]
            refine r_iload hc dX1_handOver_117 1 rfl ?_
            refine r_callV (As := [.int (nI d18), .int (nI ((sL ρ) k))]) (n := 2) (wr := []) hc (c_fall l D cI cZ cW h aE aL aF aR aS ρ d18 ((sL ρ) k) (pE _ _ h17) (pL _) (fun _ => pF1) (fun _ => pV1) hBρ0) co_yX1_fall in_X1 ml_X1_62 (by decide +kernel) rfl ⟨by decide, by decide⟩ ⟨by decide, by decide⟩ im_yX1_fall se_yX1_fall rfl (Or.inl ⟨0, _, rfl⟩) rfl (Nat.le_of_ble_eq_true rfl) [0, 1, 2, 3, 4, 5] [] rfl rfl rfl rfl (by decide) (fun q hq => absurd hq List.not_mem_nil) dX1_handOver_119 (fun u e23 => ?_)
            show V p l e (RM 1 25 0 0) s m args below meth c D A 6 0 0 Q (wS cI cZ h aE aL aF aR aS u) 122 [(5, .int (nI ((sL ρ) d6))), (4, .int (nI ((sL ρ) k))), (3, .int (nI d6)), (2, .int (nI x)), (0, .ref h), (1, .int (nI k))] []
            refine r_goto hc 134 dX1_handOver_122 (by decide) ?_
            refine r_lv [4, 5, 3] rfl ?_
            have hnx : u = hoI σ k (x + 1) := by rw [hoI, ← hτ, ho_b h5 hρ h12 h17, e23]
            rw [hnx]
            refine r_iinc (k := 2) (v := (nI (x + 1))) (lv' := [(2, .int (nI (x + 1))), (0, .ref h), (1, .int (nI k))]) hc dX1_handOver_134 rfl (nI_add _ _) (by decide) rfl ?_
            refine r_goto hc 2 dX1_handOver_137 (by decide) ?_
            refine r_lv [0, 1, 2] rfl ?_
            exact ih2 _ (by omega) (x + 1) rfl (by omega)
        · refine r_aload_n hc dX1_handOver_78 rfl 4 rfl ?_
          refine r_aload_n hc dX1_handOver_79 rfl 4 rfl ?_
          refine r_iload hc dX1_handOver_80 1 rfl ?_
          refine r_iload_n hc dX1_handOver_82 rfl 3 rfl ?_
          refine r_callI (As := [.int (nI ((sL ρ) k)), .int (nI x)]) (n := 2) (wr := wS cI cZ h aE aL aF aR aS ρ) hc (c_at l D cI cZ cW h aE aL aF aR aS ρ ((sL ρ) k) x (by omega) (by omega)) co_yX1_at in_X1 ml_X1_70 (by decide +kernel) rfl ⟨by decide, by decide⟩ ⟨by decide, by decide⟩ im_yX1_at se_yX1_at rfl (Or.inl ⟨0, _, rfl⟩) rfl (Nat.le_of_ble_eq_true rfl) [] [0, 1, 2, 3, 4, 5] rfl rfl rfl rfl (by decide) (fun q hq => Or.inl ((List.getElem?_of_mem hq).elim fun k hk => ⟨k, hk, List.not_mem_nil⟩)) dX1_handOver_83 (fun r24 u25 e26 => ?_)
          subst e26
          show V p l e (RM 1 25 0 0) s m args below meth c D A 6 0 0 Q (wS cI cZ h aE aL aF aR aS ρ) 86 [(5, .int (nI ((sL ρ) d6))), (4, .int (nI ((sL ρ) k))), (3, .int (nI d6)), (2, .int (nI x)), (0, .ref h), (1, .int (nI k))] [.int (eI (sE ρ (((sL ρ) k) * 6 + x))), .ref h]
          rw [h12]
          show V p l e (RM 1 25 0 0) s m args below meth c D A 6 0 0 Q (wS cI cZ h aE aL aF aR aS ρ) 86 [(5, .int (nI ((sL ρ) d6))), (4, .int (nI ((sL ρ) k))), (3, .int (nI d6)), (2, .int (nI x)), (0, .ref h), (1, .int (nI k))] [.int (nI d13), .ref h]
          refine r_iload hc dX1_handOver_86 0 rfl ?_
          refine r_callV (As := [.int (nI d13), .int (nI ((sL ρ) d6))]) (n := 2) (wr := []) hc (c_fall l D cI cZ cW h aE aL aF aR aS ρ d13 ((sL ρ) d6) (pE _ _ h12) (pL _) (fun _ => pF1) (fun _ => pV1) hBρ0) co_yX1_fall in_X1 ml_X1_62 (by decide +kernel) rfl ⟨by decide, by decide⟩ ⟨by decide, by decide⟩ im_yX1_fall se_yX1_fall rfl (Or.inl ⟨0, _, rfl⟩) rfl (Nat.le_of_ble_eq_true rfl) [0, 1, 2, 3, 4, 5] [] rfl rfl rfl rfl (by decide) (fun q hq => absurd hq List.not_mem_nil) dX1_handOver_88 (fun u e27 => ?_)
          show V p l e (RM 1 25 0 0) s m args below meth c D A 6 0 0 Q (wS cI cZ h aE aL aF aR aS u) 91 [(5, .int (nI ((sL ρ) d6))), (4, .int (nI ((sL ρ) k))), (3, .int (nI d6)), (2, .int (nI x)), (0, .ref h), (1, .int (nI k))] []
          refine r_goto hc 134 dX1_handOver_91 (by decide) ?_
          refine r_lv [4, 5, 3] rfl ?_
          have hnx : u = hoI σ k (x + 1) := by rw [hoI, ← hτ, ho_a h5 hρ h12, e27]
          rw [hnx]
          refine r_iinc (k := 2) (v := (nI (x + 1))) (lv' := [(2, .int (nI (x + 1))), (0, .ref h), (1, .int (nI k))]) hc dX1_handOver_134 rfl (nI_add _ _) (by decide) rfl ?_
          refine r_goto hc 2 dX1_handOver_137 (by decide) ?_
          refine r_lv [0, 1, 2] rfl ?_
          exact ih2 _ (by omega) (x + 1) rfl (by omega)
      · refine r_goto hc 134 dX1_handOver_22 (by decide) ?_
        refine r_lv [2, 3, 1] rfl ?_
        have hnx : τ = hoI σ k (x + 1) := by rw [hoI, ← hτ, ho_none h5]
        rw [hnx]
        refine r_iinc (k := 2) (v := (nI (x + 1))) (lv' := [(2, .int (nI (x + 1))), (0, .ref h), (1, .int (nI k))]) hc dX1_handOver_134 rfl (nI_add _ _) (by decide) rfl ?_
        refine r_goto hc 2 dX1_handOver_137 (by decide) ?_
        refine r_lv [0, 1, 2] rfl ?_
        exact ih2 _ (by omega) (x + 1) rfl (by omega)
  refine r_lv [0, 1, 2] rfl ?_
  exact lp2 _ 0 rfl (Nat.zero_le _)
