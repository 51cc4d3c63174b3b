def livI (σ : CS) (v : Int32) : Bool := if v < 0 then false else liv σ v.toNatClampNeg
theorem livI_n (σ : CS) {k : Nat} (hk : k < 2 ^ 31) : livI σ (nI k) = liv σ k := by rw [livI, if_neg (nI_pos hk), nI_clamp hk]
def fJoin (σ : CS) (k x d : Nat) : CS :=
  if sS σ (k * 6 + x) = true then (va_up (va_up (sE σ) (k * 6 + x) (some d)) (d * 6 + (x ^^^ 1)) (some k), sL σ, sF σ, sFc σ, sR σ, sS σ, sRc σ, sO σ, sC σ, sM σ, sV σ)
  else (va_up (va_up (sE σ) (k * 6 + x) (some d)) (d * 6 + (x ^^^ 1)) (some k), sL σ, sF σ, sFc σ, va_up (sR σ) (sRc σ) (k * 6 + x), va_up (sS σ) (k * 6 + x) true, sRc σ + 1, sO σ, sC σ, sM σ, sV σ)
def fTake (σ : CS) : CS := (sE σ, sL σ, sF σ, sFc σ, sR σ, va_up (sS σ) (sR σ (sRc σ - 1)) false, sRc σ - 1, sO σ, sC σ, sM σ, sV σ)
theorem xor1_lt {x : Nat} (h : x < 6) : x ^^^ 1 < 6 := by
  have : ∀ x, x < 6 → x ^^^ 1 < 6 := by decide
  exact this x h
set_option maxHeartbeats 4000000 in
set_option maxRecDepth 100000 in
/-- lives(v) -/
theorem c_lives (l : Launch) (D : va_G) (cI cZ cW : ClassId) (h aE aL aF aR aS : Nat) (σ : CS) (v : Int32) (hB : BD σ) : CtI l yX1_lives cX1_lives 2 (some .boolean) 0 0 0 0 D cI cZ cW [.ref h, .int v] ([]) (wS cI cZ h aE aL aF aR aS σ) (S := Unit) (fun r _ => r = zI (livI σ v)) (fun _ => []) := by
  refine CtI.mk (by decide) (Nat.le_of_ble_eq_true rfl) ?_
  intro p e s m args below meth c A hc hr hlk hnm hro
  generalize hQ : MQ below _ args s 0 0 A = Q
  have hB0 := hB
  obtain ⟨bM, bC, bL, bF, bR, bE, bRc, bFc, bV, bO⟩ := hB
  show V p l e (RM 0 0 0 0) s m args below meth c D A 2 0 0 Q ([]) 0 [(0, .ref h), (1, .int v)] []
  refine r_iload_n hc dX1_lives_0 rfl 1 rfl ?_
  refine r_if_lt hc 26 dX1_lives_1 (by decide) (fun h1 => ?_) (fun h1 => ?_)
  · refine r_iconst (v := (nI 0)) hc dX1_lives_26 rfl ?_
    rw [← hQ]
    refine r_zret (b := false) hc hr hlk () (congrArg zI ?_) rfl dX1_lives_27
    first | (simp [livI, *]; done) | (rw [livI_n σ hk]; simp [liv]; omega)
  · obtain ⟨k, hk, rfl⟩ := nI_of h1
    show V p l e (RM 0 0 0 0) s m args below meth c D A 2 0 0 Q ([]) 4 [(0, .ref h), (1, .int (nI k))] []
    refine r_iload_n hc dX1_lives_4 rfl 1 rfl ?_
    refine r_aload_n hc dX1_lives_5 rfl 0 rfl ?_
    refine r_getR hc inlX1 (hro _ (List.mem_of_getElem? (i := 0) rfl)) rfl 9 (by decide) fl_X1_32 rfl rfl dX1_lives_6 ?_
    refine n_icmp_ge hc 26 dX1_lives_9 (by decide) (by omega) (by omega) (fun h2 => ?_) (fun h2 => ?_)
    · refine r_iconst (v := (nI 0)) hc dX1_lives_26 rfl ?_
      rw [← hQ]
      refine r_zret (b := false) hc hr hlk () (congrArg zI ?_) rfl dX1_lives_27
      first | (simp [livI, *]; done) | (rw [livI_n σ hk]; simp [liv]; omega)
    · refine r_aload_n hc dX1_lives_12 rfl 0 rfl ?_
      refine r_getR hc inlX1 (hro _ (List.mem_of_getElem? (i := 0) rfl)) rfl 1 (by decide) fl_X1_15 rfl rfl dX1_lives_13 ?_
      refine r_iload_n hc dX1_lives_16 rfl 1 rfl ?_
      have b3 := bL k
      refine r_ialdR hc nI (hro _ (List.mem_of_getElem? (i := 2) rfl)) (by omega) (by decide) dX1_lives_17 ?_
      refine r_iload_n hc dX1_lives_18 rfl 1 rfl ?_
      refine n_icmp_ne hc 26 dX1_lives_19 (by decide) (by omega) (by omega) (fun h4 => ?_) (fun h4 => ?_)
      · refine r_iconst (v := (nI 0)) hc dX1_lives_26 rfl ?_
        rw [← hQ]
        refine r_zret (b := false) hc hr hlk () (congrArg zI ?_) rfl dX1_lives_27
        first | (simp [livI, *]; done) | (rw [livI_n σ hk]; simp [liv]; omega)
      · refine r_iconst (v := (nI 1)) hc dX1_lives_22 rfl ?_
        refine r_goto hc 27 dX1_lives_23 (by decide) ?_
        rw [← hQ]
        refine r_zret (b := true) hc hr hlk () (congrArg zI ?_) rfl dX1_lives_27
        first | (simp [livI, *]; done) | (rw [livI_n σ hk]; simp [liv]; omega)
set_option maxHeartbeats 4000000 in
set_option maxRecDepth 100000 in
/-- isOpen(k) -/
theorem c_isOpen (l : Launch) (D : va_G) (cI cZ cW : ClassId) (h aE aL aF aR aS : Nat) (σ : CS) (k : Nat) (hk : k < 1200) (hB : BD σ) : CtI l yX1_isOpen cX1_isOpen 2 (some .boolean) 1 21 0 0 D cI cZ cW [.ref h, .int (nI k)] ([]) (wS cI cZ h aE aL aF aR aS σ) (S := Unit) (fun r _ => r = zI (opn σ k)) (fun _ => []) := by
  refine CtI.mk (by decide) (Nat.le_of_ble_eq_true rfl) ?_
  intro p e s m args below meth c A hc hr hlk hnm hro
  generalize hQ : MQ below _ args s 0 0 A = Q
  have hB0 := hB
  obtain ⟨bM, bC, bL, bF, bR, bE, bRc, bFc, bV, bO⟩ := hB
  show V p l e (RM 1 21 0 0) s m args below meth c D A 2 0 0 Q ([]) 0 [(0, .ref h), (1, .int (nI k))] []
  refine r_iload_n hc dX1_isOpen_0 rfl 1 rfl ?_
  refine r_bipush (v := (nI 6)) hc dX1_isOpen_1 rfl ?_
  refine n_rem hc dX1_isOpen_3 (by omega) (by decide) (by decide) ?_
  refine r_aload_n hc dX1_isOpen_4 rfl 0 rfl ?_
  refine r_getR hc inlX1 (hro _ (List.mem_of_getElem? (i := 0) rfl)) rfl 8 (by decide) fl_X1_28 rfl rfl dX1_isOpen_5 ?_
  refine n_icmp_ge hc 36 dX1_isOpen_8 (by decide) (by omega) (by omega) (fun h1 => ?_) (fun h1 => ?_)
  · refine r_iconst (v := (nI 0)) hc dX1_isOpen_36 rfl ?_
    rw [← hQ]
    refine r_zret (b := false) hc hr hlk () (congrArg zI ?_) rfl dX1_isOpen_37
    first | (simp [opn, *]; done) | (simp [opn, *]; omega)
  · refine r_aload_n hc dX1_isOpen_11 rfl 0 rfl ?_
    refine r_iload_n hc dX1_isOpen_12 rfl 1 rfl ?_
    refine r_bipush (v := (nI 6)) hc dX1_isOpen_13 rfl ?_
    refine n_div hc dX1_isOpen_15 (by omega) (by decide) (by decide) ?_
    refine r_callI (As := [.int (nI (k / 6))]) (n := 1) (wr := []) hc (c_lives l D cI cZ cW h aE aL aF aR aS σ (nI (k / 6)) hB0) co_yX1_lives in_X1 ml_X1_49 (by decide +kernel) rfl ⟨by decide, by decide⟩ ⟨by decide, by decide⟩ im_yX1_lives se_yX1_lives rfl (Or.inr ⟨_, (hro _ (List.mem_of_getElem? (i := 0) rfl))⟩) rfl (by decide) [] [] rfl rfl rfl rfl (by decide) (fun q hq => Or.inr (hro q hq)) dX1_isOpen_16 (fun r2 u3 e4 => ?_)
    subst e4
    rw [livI_n _ (by omega)]
    refine z_if_eq hc 36 dX1_isOpen_19 (by decide) (fun h5 => ?_) (fun h5 => ?_)
    · refine r_iconst (v := (nI 0)) hc dX1_isOpen_36 rfl ?_
      rw [← hQ]
      refine r_zret (b := false) hc hr hlk () (congrArg zI ?_) rfl dX1_isOpen_37
      first | (simp [opn, *]; done) | (simp [opn, *]; omega)
    · refine r_aload_n hc dX1_isOpen_22 rfl 0 rfl ?_
      refine r_getR hc inlX1 (hro _ (List.mem_of_getElem? (i := 0) rfl)) rfl 0 (by decide) fl_X1_9 rfl rfl dX1_isOpen_23 ?_
      refine r_iload_n hc dX1_isOpen_26 rfl 1 rfl ?_
      refine r_ialdR hc eI (hro _ (List.mem_of_getElem? (i := 1) rfl)) (by omega) (by decide) dX1_isOpen_27 ?_
      refine r_iconst (v := (-1)) hc dX1_isOpen_28 rfl ?_
      refine e_icmp_ne hc 36 dX1_isOpen_29 (by decide) (fun d h => Nat.lt_trans (bE _ d h) (by decide)) (fun d7 h6 => ?_) (fun h6 => ?_)
      · refine r_iconst (v := (nI 0)) hc dX1_isOpen_36 rfl ?_
        rw [← hQ]
        refine r_zret (b := false) hc hr hlk () (congrArg zI ?_) rfl dX1_isOpen_37
        first | (simp [opn, *]; done) | (simp [opn, *]; omega)
      · refine r_iconst (v := (nI 1)) hc dX1_isOpen_32 rfl ?_
        refine r_goto hc 37 dX1_isOpen_33 (by decide) ?_
        rw [← hQ]
        refine r_zret (b := true) hc hr hlk () (congrArg zI ?_) rfl dX1_isOpen_37
        first | (simp [opn, *]; done) | (simp [opn, *]; omega)
