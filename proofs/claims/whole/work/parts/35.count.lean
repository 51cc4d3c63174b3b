def cmpl (ρ : RS) : Prop := ∀ c x, c < rMd ρ → x < 2 * rN ρ → opnR ρ c x = false
theorem OpenR_t {ρ : RS} {o : Option Nat} (h : OpenR ρ o) (hc : cmpl ρ) : o = none := by
  cases o with
  | none => rfl
  | some i =>
    obtain ⟨c, x, -, h1, h2, h3, -⟩ := h
    rw [hc c x h1 h2] at h3; cases h3
theorem OpenR_f {ρ : RS} {o : Option Nat} (h : OpenR ρ o) (hc : ¬ cmpl ρ) : ∃ i, o = some i := by
  cases o with
  | none => exact absurd h hc
  | some i => exact ⟨i, rfl⟩
theorem OpenR_b {ρ : RS} {o : Option Nat} (h : OpenR ρ o) (hB : BR ρ) : ∀ d, o = some d → d < 2 ^ 31 := by
  intro d q; rw [q] at h
  obtain ⟨c1, x1, e1, e2, e3, -⟩ := h
  have := hB.1; have := hB.2.2.2.2.2.1; omega
def livR (ρ : RS) (k : Nat) : Bool := decide (k < rMd ρ) && decide (rNw ρ k = k)
def livRI (ρ : RS) (v : Int32) : Bool := if v < 0 then false else livR ρ v.toNatClampNeg
theorem livRI_n (ρ : RS) {k : Nat} (hk : k < 2 ^ 31) : livRI ρ (nI k) = livR ρ k := by rw [livRI, if_neg (nI_pos hk), nI_clamp hk]
def unX (ρ : RS) (c : Nat) (x : Nat) : Nat := match x with | 0 => 0 | x + 1 => unX ρ c x + (if opnR ρ c x = true then 1 else 0)
def unC (ρ : RS) (c : Nat) : Nat := match c with | 0 => 0 | c + 1 => unC ρ c + unX ρ c (2 * rN ρ)
theorem unX_le (ρ : RS) (c x : Nat) : unX ρ c x ≤ x := by
  induction x with
  | zero => exact Nat.le_refl _
  | succ x ih => rw [unX]; split <;> omega
theorem unC_le (ρ : RS) (c : Nat) (hn : rN ρ ≤ 3) : unC ρ c ≤ 6 * c := by
  induction c with
  | zero => exact Nat.le_refl _
  | succ c ih => rw [unC]; have := unX_le ρ c (2 * rN ρ); omega
set_option maxHeartbeats 4000000 in
set_option maxRecDepth 100000 in
/-- reference: isComplete(), true -/
theorem m_isComplete_t (l : Launch) (D : va_G) (cI cZ cW : ClassId) (g gL gS gW gT gO gP gU gA gE gQ : Nat) (ρ : RS) (hcm : cmpl ρ) (hB : BR ρ) : CtI l yX6_isComplete cX6_isComplete 1 (some .boolean) 1 22 0 0 D cI cZ cW [.ref g] ([]) (wR cI cZ g gL gS gW gT gO gP gU gA gE gQ ρ) (S := Unit) (fun r _ => r = zI true) (fun _ => []) := by
  refine CtI.mk (by decide) (Nat.le_of_ble_eq_true rfl) ?_
  intro p e s m args below meth c A hc hr hlk hnm hro
  generalize hQ : MQ below _ args s 0 0 A = Q
  have hB0 := hB
  obtain ⟨bn, bLe, bSz, bRe, bSu, bMd, bNw, bTb, bPr, bOn, bTw, bNu, bNa, bNd, bLo⟩ := hB
  show V p l e (RM 1 22 0 0) s m args below meth c D A 1 0 0 Q ([]) 0 [(0, .ref g)] []
  refine r_aload_n hc dX6_isComplete_0 rfl 0 rfl ?_
  refine r_callI (As := []) (n := 0) (wr := []) hc (m_open l D cI cZ cW g gL gS gW gT gO gP gU gA gE gQ ρ hB0) co_yX6_open in_X6 ml_X6_99 (by decide +kernel) rfl ⟨by decide, by decide⟩ ⟨by decide, by decide⟩ im_yX6_open se_yX6_open rfl (Or.inr ⟨_, hro _ (List.mem_of_getElem? (i := 0) rfl)⟩) rfl (Nat.le_of_ble_eq_true rfl) [] [] rfl rfl rfl rfl (by decide) (fun q hq => Or.inr (hro q hq)) dX6_isComplete_1 (fun r0 v0 e0 => ?_)
  obtain ⟨oo, rfl, hOo⟩ := e0
  show V p l e (RM 1 22 0 0) s m args below meth c D A 1 0 0 Q ([]) 4 [(0, .ref g)] [.int (eI oo)]
  refine e_if_ge hc 11 dX6_isComplete_4 (by decide) (OpenR_b hOo hB0) (fun d2 h1 => ?_) (fun h1 => ?_)
  · refine r_iconst (v := (nI 0)) hc dX6_isComplete_11 rfl ?_
    exact absurd (OpenR_t hOo hcm) (by rw [h1]; simp)
  · refine r_iconst (v := (nI 1)) hc dX6_isComplete_7 rfl ?_
    refine r_goto hc 12 dX6_isComplete_8 (by decide) ?_
    rw [← hQ]
    exact r_zret (b := true) hc hr hlk () rfl rfl dX6_isComplete_12
set_option maxHeartbeats 4000000 in
set_option maxRecDepth 100000 in
/-- reference: isComplete(), false -/
theorem m_isComplete_f (l : Launch) (D : va_G) (cI cZ cW : ClassId) (g gL gS gW gT gO gP gU gA gE gQ : Nat) (ρ : RS) (hcm : ¬ cmpl ρ) (hB : BR ρ) : CtI l yX6_isComplete cX6_isComplete 1 (some .boolean) 1 22 0 0 D cI cZ cW [.ref g] ([]) (wR cI cZ g gL gS gW gT gO gP gU gA gE gQ ρ) (S := Unit) (fun r _ => r = zI false) (fun _ => []) := by
  refine CtI.mk (by decide) (Nat.le_of_ble_eq_true rfl) ?_
  intro p e s m args below meth c A hc hr hlk hnm hro
  generalize hQ : MQ below _ args s 0 0 A = Q
  have hB0 := hB
  obtain ⟨bn, bLe, bSz, bRe, bSu, bMd, bNw, bTb, bPr, bOn, bTw, bNu, bNa, bNd, bLo⟩ := hB
  show V p l e (RM 1 22 0 0) s m args below meth c D A 1 0 0 Q ([]) 0 [(0, .ref g)] []
  refine r_aload_n hc dX6_isComplete_0 rfl 0 rfl ?_
  refine r_callI (As := []) (n := 0) (wr := []) hc (m_open l D cI cZ cW g gL gS gW gT gO gP gU gA gE gQ ρ hB0) co_yX6_open in_X6 ml_X6_99 (by decide +kernel) rfl ⟨by decide, by decide⟩ ⟨by decide, by decide⟩ im_yX6_open se_yX6_open rfl (Or.inr ⟨_, hro _ (List.mem_of_getElem? (i := 0) rfl)⟩) rfl (Nat.le_of_ble_eq_true rfl) [] [] rfl rfl rfl rfl (by decide) (fun q hq => Or.inr (hro q hq)) dX6_isComplete_1 (fun r0 v0 e0 => ?_)
  obtain ⟨oo, rfl, hOo⟩ := e0
  show V p l e (RM 1 22 0 0) s m args below meth c D A 1 0 0 Q ([]) 4 [(0, .ref g)] [.int (eI oo)]
  refine e_if_ge hc 11 dX6_isComplete_4 (by decide) (OpenR_b hOo hB0) (fun d2 h1 => ?_) (fun h1 => ?_)
  · refine r_iconst (v := (nI 0)) hc dX6_isComplete_11 rfl ?_
    rw [← hQ]
    exact r_zret (b := false) hc hr hlk () rfl rfl dX6_isComplete_12
  · refine r_iconst (v := (nI 1)) hc dX6_isComplete_7 rfl ?_
    refine r_goto hc 12 dX6_isComplete_8 (by decide) ?_
    obtain ⟨i9, q9⟩ := OpenR_f hOo hcm; rw [q9] at h1; cases h1
set_option maxHeartbeats 4000000 in
set_option maxRecDepth 100000 in
/-- reference: cosets() -/
theorem m_cosets (l : Launch) (D : va_G) (cI cZ cW : ClassId) (g gL gS gW gT gO gP gU gA gE gQ : Nat) (ρ : RS) (hB : BR ρ) : CtI l yX6_cosets cX6_cosets 3 (some .int) 0 0 0 0 D cI cZ cW [.ref g] ([]) (wR cI cZ g gL gS gW gT gO gP gU gA gE gQ ρ) (S := Unit) (fun r _ => r = nI (cntT (fun k => decide (rNw ρ k = k)) (rMd ρ))) (fun _ => []) := by
  refine CtI.mk (by decide) (Nat.le_of_ble_eq_true rfl) ?_
  intro p e s m args below meth c A hc hr hlk hnm hro
  generalize hQ : MQ below _ args s 0 0 A = Q
  have hB0 := hB
  obtain ⟨bn, bLe, bSz, bRe, bSu, bMd, bNw, bTb, bPr, bOn, bTw, bNu, bNa, bNd, bLo⟩ := hB
  show V p l e (RM 0 0 0 0) s m args below meth c D A 3 0 0 Q ([]) 0 [(0, .ref g)] []
  refine r_iconst (v := (nI 0)) hc dX6_cosets_0 rfl ?_
  refine r_istore_n (lv' := [(1, .int (nI 0)), (0, .ref g)]) hc dX6_cosets_1 rfl (by decide) rfl ?_
  refine r_iconst (v := (nI 0)) hc dX6_cosets_2 rfl ?_
  refine r_istore_n (lv' := [(2, .int (nI 0)), (1, .int (nI 0)), (0, .ref g)]) hc dX6_cosets_3 rfl (by decide) rfl ?_
  have lp4 : ∀ (n : Nat) (k : Nat), rMd ρ - k = n → (k ≤ rMd ρ) → V p l e (RM 0 0 0 0) s m args below meth c D A 3 0 0 Q ([]) 4 [(2, .int (nI k)), (1, .int (nI (cntT (fun k => decide (rNw ρ k = k)) k))), (0, .ref g)] [] := by
    intro n
    induction n using Nat.strongRecOn with
    | _ n ih4 =>
    intro k hm4 hk
    refine r_iload_n hc dX6_cosets_4 rfl 0 rfl ?_
    refine r_aload_n hc dX6_cosets_5 rfl 2 rfl ?_
    refine r_getR hc inlX6 (hro _ (List.mem_of_getElem? (i := 0) rfl)) rfl 5 (by decide) fl_X6_45 rfl rfl dX6_cosets_6 ?_
    refine n_icmp_ge hc 36 dX6_cosets_9 (by decide) (by omega) (by omega) (fun h1 => ?_) (fun h1 => ?_)
    · have hkm : k = rMd ρ := by omega
      rw [hkm]
      show V p l e (RM 0 0 0 0) s m args below meth c D A 3 0 0 Q ([]) 36 [(2, .int (nI (rMd ρ))), (1, .int (nI (cntT (fun k => decide (rNw ρ k = k)) (rMd ρ)))), (0, .ref g)] []
      refine r_iload_n hc dX6_cosets_36 rfl 1 rfl ?_
      rw [← hQ]
      exact r_iret hc hr hlk () (rfl) rfl dX6_cosets_37
    · refine r_iload_n hc dX6_cosets_12 rfl 1 rfl ?_
      refine r_aload_n hc dX6_cosets_13 rfl 2 rfl ?_
      refine r_getR hc inlX6 (hro _ (List.mem_of_getElem? (i := 0) rfl)) rfl 6 (by decide) fl_X6_16 rfl rfl dX6_cosets_14 ?_
      refine r_iload_n hc dX6_cosets_17 rfl 0 rfl ?_
      have b2 := bNw k
      refine r_ialdR hc nI (hro _ (List.mem_of_getElem? (i := 3) rfl)) (by omega) (by decide) dX6_cosets_18 ?_
      refine r_iload_n hc dX6_cosets_19 rfl 0 rfl ?_
      refine n_icmp_ne hc 27 dX6_cosets_20 (by decide) (by omega) (by omega) (fun h3 => ?_) (fun h3 => ?_)
      · refine r_iconst (v := (nI 0)) hc dX6_cosets_27 rfl ?_
        refine n_add hc dX6_cosets_28 ?_
        refine r_istore_n (lv' := [(1, .int (nI ((cntT (fun k => decide (rNw ρ k = k)) k) + 0))), (2, .int (nI k)), (0, .ref g)]) hc dX6_cosets_29 rfl (by decide) rfl ?_
        have hcn : cntT (fun k => decide (rNw ρ k = k)) k + 0 = cntT (fun k => decide (rNw ρ k = k)) (k + 1) := by rw [cntT, if_neg (by simpa using h3)]
        rw [hcn]
        show V p l e (RM 0 0 0 0) s m args below meth c D A 3 0 0 Q ([]) 30 [(1, .int (nI (cntT (fun k => decide (rNw ρ k = k)) (k + 1)))), (2, .int (nI k)), (0, .ref g)] []
        refine r_iinc (k := 1) (v := (nI (k + 1))) (lv' := [(2, .int (nI (k + 1))), (1, .int (nI (cntT (fun k => decide (rNw ρ k = k)) (k + 1)))), (0, .ref g)]) hc dX6_cosets_30 rfl (nI_add _ _) (by decide) rfl ?_
        refine r_goto hc 4 dX6_cosets_33 (by decide) ?_
        refine r_lv [0, 1, 2] rfl ?_
        exact ih4 _ (by omega) (k + 1) rfl (by omega)
      · refine r_iconst (v := (nI 1)) hc dX6_cosets_23 rfl ?_
        refine r_goto hc 28 dX6_cosets_24 (by decide) ?_
        refine n_add hc dX6_cosets_28 ?_
        refine r_istore_n (lv' := [(1, .int (nI ((cntT (fun k => decide (rNw ρ k = k)) k) + 1))), (2, .int (nI k)), (0, .ref g)]) hc dX6_cosets_29 rfl (by decide) rfl ?_
        have hcn : cntT (fun k => decide (rNw ρ k = k)) k + 1 = cntT (fun k => decide (rNw ρ k = k)) (k + 1) := by rw [cntT, if_pos (by simpa using h3)]
        rw [hcn]
        show V p l e (RM 0 0 0 0) s m args below meth c D A 3 0 0 Q ([]) 30 [(1, .int (nI (cntT (fun k => decide (rNw ρ k = k)) (k + 1)))), (2, .int (nI k)), (0, .ref g)] []
        refine r_iinc (k := 1) (v := (nI (k + 1))) (lv' := [(2, .int (nI (k + 1))), (1, .int (nI (cntT (fun k => decide (rNw ρ k = k)) (k + 1)))), (0, .ref g)]) hc dX6_cosets_30 rfl (nI_add _ _) (by decide) rfl ?_
        refine r_goto hc 4 dX6_cosets_33 (by decide) ?_
        refine r_lv [0, 1, 2] rfl ?_
        exact ih4 _ (by omega) (k + 1) rfl (by omega)
  refine r_lv [0, 1, 2] rfl ?_
  exact lp4 _ 0 rfl (Nat.zero_le _)
set_option maxHeartbeats 4000000 in
set_option maxRecDepth 100000 in
/-- reference: unknown() -/
theorem m_unknown (l : Launch) (D : va_G) (cI cZ cW : ClassId) (g gL gS gW gT gO gP gU gA gE gQ : Nat) (ρ : RS) (hB : BR ρ) : CtI l yX6_unknown cX6_unknown 4 (some .int) 0 0 0 0 D cI cZ cW [.ref g] ([]) (wR cI cZ g gL gS gW gT gO gP gU gA gE gQ ρ) (S := Unit) (fun r _ => r = nI (unC ρ (rMd ρ))) (fun _ => []) := by
  refine CtI.mk (by decide) (Nat.le_of_ble_eq_true rfl) ?_
  intro p e s m args below meth c A hc hr hlk hnm hro
  generalize hQ : MQ below _ args s 0 0 A = Q
  have hB0 := hB
  obtain ⟨bn, bLe, bSz, bRe, bSu, bMd, bNw, bTb, bPr, bOn, bTw, bNu, bNa, bNd, bLo⟩ := hB
  show V p l e (RM 0 0 0 0) s m args below meth c D A 4 0 0 Q ([]) 0 [(0, .ref g)] []
  refine r_iconst (v := (nI 0)) hc dX6_unknown_0 rfl ?_
  refine r_istore_n (lv' := [(1, .int (nI 0)), (0, .ref g)]) hc dX6_unknown_1 rfl (by decide) rfl ?_
  refine r_iconst (v := (nI 0)) hc dX6_unknown_2 rfl ?_
  refine r_istore_n (lv' := [(2, .int (nI 0)), (1, .int (nI 0)), (0, .ref g)]) hc dX6_unknown_3 rfl (by decide) rfl ?_
  have lp4 : ∀ (n : Nat) (k : Nat), rMd ρ - k = n → (k ≤ rMd ρ) → V p l e (RM 0 0 0 0) s m args below meth c D A 4 0 0 Q ([]) 4 [(2, .int (nI k)), (1, .int (nI (unC ρ k))), (0, .ref g)] [] := by
    intro n
    induction n using Nat.strongRecOn with
    | _ n ih4 =>
    intro k hm4 hk
    refine r_iload_n hc dX6_unknown_4 rfl 0 rfl ?_
    refine r_aload_n hc dX6_unknown_5 rfl 2 rfl ?_
    refine r_getR hc inlX6 (hro _ (List.mem_of_getElem? (i := 0) rfl)) rfl 5 (by decide) fl_X6_45 rfl rfl dX6_unknown_6 ?_
    refine n_icmp_ge hc 68 dX6_unknown_9 (by decide) (by omega) (by omega) (fun h1 => ?_) (fun h1 => ?_)
    · have hkm : k = rMd ρ := by omega
      rw [hkm]
      show V p l e (RM 0 0 0 0) s m args below meth c D A 4 0 0 Q ([]) 68 [(2, .int (nI (rMd ρ))), (1, .int (nI (unC ρ (rMd ρ)))), (0, .ref g)] []
      refine r_iload_n hc dX6_unknown_68 rfl 1 rfl ?_
      rw [← hQ]
      exact r_iret hc hr hlk () (rfl) rfl dX6_unknown_69
    · refine r_iconst (v := (nI 0)) hc dX6_unknown_12 rfl ?_
      refine r_istore_n (lv' := [(3, .int (nI 0)), (2, .int (nI k)), (1, .int (nI (unC ρ k))), (0, .ref g)]) hc dX6_unknown_13 rfl (by decide) rfl ?_
      have lp14 : ∀ (n : Nat) (x : Nat), 2 * rN ρ - x = n → (x ≤ 2 * rN ρ) → V p l e (RM 0 0 0 0) s m args below meth c D A 4 0 0 Q ([]) 14 [(3, .int (nI x)), (2, .int (nI k)), (1, .int (nI (unC ρ k + unX ρ k x))), (0, .ref g)] [] := by
        intro n
        induction n using Nat.strongRecOn with
        | _ n ih14 =>
        intro x hm14 hx
        refine r_iload_n hc dX6_unknown_14 rfl 0 rfl ?_
        refine r_iconst (v := (nI 2)) hc dX6_unknown_15 rfl ?_
        refine r_aload_n hc dX6_unknown_16 rfl 3 rfl ?_
        refine r_getR hc inlX6 (hro _ (List.mem_of_getElem? (i := 0) rfl)) rfl 0 (by decide) fl_X6_49 rfl rfl dX6_unknown_17 ?_
        refine n_mul hc dX6_unknown_20 ?_
        refine n_icmp_ge hc 62 dX6_unknown_21 (by decide) (by omega) (by omega) (fun h2 => ?_) (fun h2 => ?_)
        · rw [show unC ρ k + unX ρ k x = unC ρ (k + 1) by rw [unC, show x = 2 * rN ρ by omega]]
          show V p l e (RM 0 0 0 0) s m args below meth c D A 4 0 0 Q ([]) 62 [(3, .int (nI x)), (2, .int (nI k)), (1, .int (nI (unC ρ (k + 1)))), (0, .ref g)] []
          refine r_iinc (k := 1) (v := (nI (k + 1))) (lv' := [(2, .int (nI (k + 1))), (3, .int (nI x)), (1, .int (nI (unC ρ (k + 1)))), (0, .ref g)]) hc dX6_unknown_62 rfl (nI_add _ _) (by decide) rfl ?_
          refine r_goto hc 4 dX6_unknown_65 (by decide) ?_
          refine r_lv [0, 2, 3] rfl ?_
          exact ih4 _ (by omega) (k + 1) rfl (by omega)
        · refine r_iload_n hc dX6_unknown_24 rfl 2 rfl ?_
          refine r_aload_n hc dX6_unknown_25 rfl 3 rfl ?_
          refine r_getR hc inlX6 (hro _ (List.mem_of_getElem? (i := 0) rfl)) rfl 6 (by decide) fl_X6_16 rfl rfl dX6_unknown_26 ?_
          refine r_iload_n hc dX6_unknown_29 rfl 1 rfl ?_
          have b3 := bNw k
          refine r_ialdR hc nI (hro _ (List.mem_of_getElem? (i := 3) rfl)) (by omega) (by decide) dX6_unknown_30 ?_
          refine r_iload_n hc dX6_unknown_31 rfl 1 rfl ?_
          refine n_icmp_ne hc 53 dX6_unknown_32 (by decide) (by omega) (by omega) (fun h4 => ?_) (fun h4 => ?_)
          · refine r_iconst (v := (nI 0)) hc dX6_unknown_53 rfl ?_
            refine n_add hc dX6_unknown_54 ?_
            refine r_istore_n (lv' := [(1, .int (nI ((unC ρ k + unX ρ k x) + 0))), (3, .int (nI x)), (2, .int (nI k)), (0, .ref g)]) hc dX6_unknown_55 rfl (by decide) rfl ?_
            have hcn : unC ρ k + unX ρ k x + 0 = unC ρ k + unX ρ k (x + 1) := by rw [unX, if_neg (by simp [opnR, h4])]; omega
            rw [hcn]
            show V p l e (RM 0 0 0 0) s m args below meth c D A 4 0 0 Q ([]) 56 [(1, .int (nI (unC ρ k + unX ρ k (x + 1)))), (3, .int (nI x)), (2, .int (nI k)), (0, .ref g)] []
            refine r_iinc (k := 1) (v := (nI (x + 1))) (lv' := [(3, .int (nI (x + 1))), (1, .int (nI (unC ρ k + unX ρ k (x + 1)))), (2, .int (nI k)), (0, .ref g)]) hc dX6_unknown_56 rfl (nI_add _ _) (by decide) rfl ?_
            refine r_goto hc 14 dX6_unknown_59 (by decide) ?_
            refine r_lv [0, 2, 1, 3] rfl ?_
            exact ih14 _ (by omega) (x + 1) rfl (by omega)
          · refine r_aload_n hc dX6_unknown_35 rfl 3 rfl ?_
            refine r_getR hc inlX6 (hro _ (List.mem_of_getElem? (i := 0) rfl)) rfl 7 (by decide) fl_X6_19 rfl rfl dX6_unknown_36 ?_
            refine r_bipush (v := (nI 6)) hc dX6_unknown_39 rfl ?_
            refine r_iload_n hc dX6_unknown_41 rfl 1 rfl ?_
            refine n_mul hc dX6_unknown_42 ?_
            refine r_iload_n hc dX6_unknown_43 rfl 0 rfl ?_
            refine n_add hc dX6_unknown_44 ?_
            refine r_ialdR hc eI (hro _ (List.mem_of_getElem? (i := 4) rfl)) (by omega) (by decide) dX6_unknown_45 ?_
            refine e_if_ge hc 53 dX6_unknown_46 (by decide) (fun d h => Nat.lt_trans (bTb _ d h) (by decide)) (fun d6 h5 => ?_) (fun h5 => ?_)
            · refine r_iconst (v := (nI 0)) hc dX6_unknown_53 rfl ?_
              refine n_add hc dX6_unknown_54 ?_
              refine r_istore_n (lv' := [(1, .int (nI ((unC ρ k + unX ρ k x) + 0))), (3, .int (nI x)), (2, .int (nI k)), (0, .ref g)]) hc dX6_unknown_55 rfl (by decide) rfl ?_
              have hcn : unC ρ k + unX ρ k x + 0 = unC ρ k + unX ρ k (x + 1) := by rw [unX, if_neg (by simp [opnR, h5])]; omega
              rw [hcn]
              show V p l e (RM 0 0 0 0) s m args below meth c D A 4 0 0 Q ([]) 56 [(1, .int (nI (unC ρ k + unX ρ k (x + 1)))), (3, .int (nI x)), (2, .int (nI k)), (0, .ref g)] []
              refine r_iinc (k := 1) (v := (nI (x + 1))) (lv' := [(3, .int (nI (x + 1))), (1, .int (nI (unC ρ k + unX ρ k (x + 1)))), (2, .int (nI k)), (0, .ref g)]) hc dX6_unknown_56 rfl (nI_add _ _) (by decide) rfl ?_
              refine r_goto hc 14 dX6_unknown_59 (by decide) ?_
              refine r_lv [0, 2, 1, 3] rfl ?_
              exact ih14 _ (by omega) (x + 1) rfl (by omega)
            · refine r_iconst (v := (nI 1)) hc dX6_unknown_49 rfl ?_
              refine r_goto hc 54 dX6_unknown_50 (by decide) ?_
              refine n_add hc dX6_unknown_54 ?_
              refine r_istore_n (lv' := [(1, .int (nI ((unC ρ k + unX ρ k x) + 1))), (3, .int (nI x)), (2, .int (nI k)), (0, .ref g)]) hc dX6_unknown_55 rfl (by decide) rfl ?_
              have hcn : unC ρ k + unX ρ k x + 1 = unC ρ k + unX ρ k (x + 1) := by rw [unX, if_pos (by simp [opnR, h4, h5])]; omega
              rw [hcn]
              show V p l e (RM 0 0 0 0) s m args below meth c D A 4 0 0 Q ([]) 56 [(1, .int (nI (unC ρ k + unX ρ k (x + 1)))), (3, .int (nI x)), (2, .int (nI k)), (0, .ref g)] []
              refine r_iinc (k := 1) (v := (nI (x + 1))) (lv' := [(3, .int (nI (x + 1))), (1, .int (nI (unC ρ k + unX ρ k (x + 1)))), (2, .int (nI k)), (0, .ref g)]) hc dX6_unknown_56 rfl (nI_add _ _) (by decide) rfl ?_
              refine r_goto hc 14 dX6_unknown_59 (by decide) ?_
              refine r_lv [0, 2, 1, 3] rfl ?_
              exact ih14 _ (by omega) (x + 1) rfl (by omega)
      refine r_lv [0, 1, 2, 3] rfl ?_
      exact lp14 _ 0 rfl (Nat.zero_le _)
  refine r_lv [0, 1, 2] rfl ?_
  exact lp4 _ 0 rfl (Nat.zero_le _)
set_option maxHeartbeats 4000000 in
set_option maxRecDepth 100000 in
/-- reference: count(0) -/
theorem m_count_0 (l : Launch) (D : va_G) (cI cZ cW : ClassId) (g gL gS gW gT gO gP gU gA gE gQ : Nat) (ρ : RS) (hB : BR ρ) : CtI l yX6_count cX6_count 2 (some .int) 2 42 0 0 D cI cZ cW [.ref g, .int (nI 0)] ([]) (wR cI cZ g gL gS gW gT gO gP gU gA gE gQ ρ) (S := Unit) (fun r _ => r = nI (rMd ρ)) (fun _ => []) := by
  refine CtI.mk (by decide) (Nat.le_of_ble_eq_true rfl) ?_
  intro p e s m args below meth c A hc hr hlk hnm hro
  generalize hQ : MQ below _ args s 0 0 A = Q
  have hB0 := hB
  obtain ⟨bn, bLe, bSz, bRe, bSu, bMd, bNw, bTb, bPr, bOn, bTw, bNu, bNa, bNd, bLo⟩ := hB
  show V p l e (RM 2 42 0 0) s m args below meth c D A 2 0 0 Q ([]) 0 [(0, .ref g), (1, .int (nI 0))] []
  refine r_iload_n hc dX6_count_0 rfl 1 rfl ?_
  refine r_tsIn (off := 47) hc 48 dX6_count_1 (by decide) (by decide) (by decide) (by decide) ?_
  refine r_aload_n hc dX6_count_48 rfl 0 rfl ?_
  refine r_getR hc inlX6 (hro _ (List.mem_of_getElem? (i := 0) rfl)) rfl 5 (by decide) fl_X6_45 rfl rfl dX6_count_49 ?_
  rw [← hQ]
  exact r_iret hc hr hlk () (rfl) rfl dX6_count_52
set_option maxHeartbeats 4000000 in
set_option maxRecDepth 100000 in
/-- reference: count(1) -/
theorem m_count_1 (l : Launch) (D : va_G) (cI cZ cW : ClassId) (g gL gS gW gT gO gP gU gA gE gQ : Nat) (ρ : RS) (hB : BR ρ) : CtI l yX6_count cX6_count 2 (some .int) 2 42 0 0 D cI cZ cW [.ref g, .int (nI 1)] ([]) (wR cI cZ g gL gS gW gT gO gP gU gA gE gQ ρ) (S := Unit) (fun r _ => r = nI (cntT (fun k => decide (rNw ρ k = k)) (rMd ρ))) (fun _ => []) := by
  refine CtI.mk (by decide) (Nat.le_of_ble_eq_true rfl) ?_
  intro p e s m args below meth c A hc hr hlk hnm hro
  generalize hQ : MQ below _ args s 0 0 A = Q
  have hB0 := hB
  obtain ⟨bn, bLe, bSz, bRe, bSu, bMd, bNw, bTb, bPr, bOn, bTw, bNu, bNa, bNd, bLo⟩ := hB
  show V p l e (RM 2 42 0 0) s m args below meth c D A 2 0 0 Q ([]) 0 [(0, .ref g), (1, .int (nI 1))] []
  refine r_iload_n hc dX6_count_0 rfl 1 rfl ?_
  refine r_tsIn (off := 52) hc 53 dX6_count_1 (by decide) (by decide) (by decide) (by decide) ?_
  refine r_aload_n hc dX6_count_53 rfl 0 rfl ?_
  refine r_callI (As := []) (n := 0) (wr := []) hc (m_cosets l D cI cZ cW g gL gS gW gT gO gP gU gA gE gQ ρ hB0) co_yX6_cosets in_X6 ml_X6_103 (by decide +kernel) rfl ⟨by decide, by decide⟩ ⟨by decide, by decide⟩ im_yX6_cosets se_yX6_cosets rfl (Or.inr ⟨_, (hro _ (List.mem_of_getElem? (i := 0) rfl))⟩) rfl (Nat.le_of_ble_eq_true rfl) [] [] rfl rfl rfl rfl (by decide) (fun q hq => Or.inr (hro q hq)) dX6_count_54 (fun r1 u2 e3 => ?_)
  subst e3
  show V p l e (RM 2 42 0 0) s m args below meth c D A 2 0 0 Q ([]) 57 [(0, .ref g), (1, .int (nI 1))] [.int (nI (cntT (fun k => decide (rNw ρ k = k)) (rMd ρ)))]
  rw [← hQ]
  exact r_iret hc hr hlk () (rfl) rfl dX6_count_57
set_option maxHeartbeats 4000000 in
set_option maxRecDepth 100000 in
/-- reference: count(2) -/
theorem m_count_2 (l : Launch) (D : va_G) (cI cZ cW : ClassId) (g gL gS gW gT gO gP gU gA gE gQ : Nat) (ρ : RS) (hB : BR ρ) : CtI l yX6_count cX6_count 2 (some .int) 2 42 0 0 D cI cZ cW [.ref g, .int (nI 2)] ([]) (wR cI cZ g gL gS gW gT gO gP gU gA gE gQ ρ) (S := Unit) (fun r _ => r = nI (unC ρ (rMd ρ))) (fun _ => []) := by
  refine CtI.mk (by decide) (Nat.le_of_ble_eq_true rfl) ?_
  intro p e s m args below meth c A hc hr hlk hnm hro
  generalize hQ : MQ below _ args s 0 0 A = Q
  have hB0 := hB
  obtain ⟨bn, bLe, bSz, bRe, bSu, bMd, bNw, bTb, bPr, bOn, bTw, bNu, bNa, bNd, bLo⟩ := hB
  show V p l e (RM 2 42 0 0) s m args below meth c D A 2 0 0 Q ([]) 0 [(0, .ref g), (1, .int (nI 2))] []
  refine r_iload_n hc dX6_count_0 rfl 1 rfl ?_
  refine r_tsIn (off := 57) hc 58 dX6_count_1 (by decide) (by decide) (by decide) (by decide) ?_
  refine r_aload_n hc dX6_count_58 rfl 0 rfl ?_
  refine r_callI (As := []) (n := 0) (wr := []) hc (m_unknown l D cI cZ cW g gL gS gW gT gO gP gU gA gE gQ ρ hB0) co_yX6_unknown in_X6 ml_X6_106 (by decide +kernel) rfl ⟨by decide, by decide⟩ ⟨by decide, by decide⟩ im_yX6_unknown se_yX6_unknown rfl (Or.inr ⟨_, (hro _ (List.mem_of_getElem? (i := 0) rfl))⟩) rfl (Nat.le_of_ble_eq_true rfl) [] [] rfl rfl rfl rfl (by decide) (fun q hq => Or.inr (hro q hq)) dX6_count_59 (fun r1 u2 e3 => ?_)
  subst e3
  show V p l e (RM 2 42 0 0) s m args below meth c D A 2 0 0 Q ([]) 62 [(0, .ref g), (1, .int (nI 2))] [.int (nI (unC ρ (rMd ρ)))]
  rw [← hQ]
  exact r_iret hc hr hlk () (rfl) rfl dX6_count_62
set_option maxHeartbeats 4000000 in
set_option maxRecDepth 100000 in
/-- reference: count(5) -/
theorem m_count_5 (l : Launch) (D : va_G) (cI cZ cW : ClassId) (g gL gS gW gT gO gP gU gA gE gQ : Nat) (ρ : RS) (hB : BR ρ) : CtI l yX6_count cX6_count 2 (some .int) 2 42 0 0 D cI cZ cW [.ref g, .int (nI 5)] ([]) (wR cI cZ g gL gS gW gT gO gP gU gA gE gQ ρ) (S := Unit) (fun r _ => r = nI (rRe ρ)) (fun _ => []) := by
  refine CtI.mk (by decide) (Nat.le_of_ble_eq_true rfl) ?_
  intro p e s m args below meth c A hc hr hlk hnm hro
  generalize hQ : MQ below _ args s 0 0 A = Q
  have hB0 := hB
  obtain ⟨bn, bLe, bSz, bRe, bSu, bMd, bNw, bTb, bPr, bOn, bTw, bNu, bNa, bNd, bLo⟩ := hB
  show V p l e (RM 2 42 0 0) s m args below meth c D A 2 0 0 Q ([]) 0 [(0, .ref g), (1, .int (nI 5))] []
  refine r_iload_n hc dX6_count_0 rfl 1 rfl ?_
  refine r_tsIn (off := 92) hc 93 dX6_count_1 (by decide) (by decide) (by decide) (by decide) ?_
  refine r_aload_n hc dX6_count_93 rfl 0 rfl ?_
  refine r_getR hc inlX6 (hro _ (List.mem_of_getElem? (i := 0) rfl)) rfl 3 (by decide) fl_X6_52 rfl rfl dX6_count_94 ?_
  rw [← hQ]
  exact r_iret hc hr hlk () (rfl) rfl dX6_count_97
set_option maxHeartbeats 4000000 in
set_option maxRecDepth 100000 in
/-- reference: count(6) -/
theorem m_count_6 (l : Launch) (D : va_G) (cI cZ cW : ClassId) (g gL gS gW gT gO gP gU gA gE gQ : Nat) (ρ : RS) (hB : BR ρ) : CtI l yX6_count cX6_count 2 (some .int) 2 42 0 0 D cI cZ cW [.ref g, .int (nI 6)] ([]) (wR cI cZ g gL gS gW gT gO gP gU gA gE gQ ρ) (S := Unit) (fun r _ => r = nI (rSu ρ)) (fun _ => []) := by
  refine CtI.mk (by decide) (Nat.le_of_ble_eq_true rfl) ?_
  intro p e s m args below meth c A hc hr hlk hnm hro
  generalize hQ : MQ below _ args s 0 0 A = Q
  have hB0 := hB
  obtain ⟨bn, bLe, bSz, bRe, bSu, bMd, bNw, bTb, bPr, bOn, bTw, bNu, bNa, bNd, bLo⟩ := hB
  show V p l e (RM 2 42 0 0) s m args below meth c D A 2 0 0 Q ([]) 0 [(0, .ref g), (1, .int (nI 6))] []
  refine r_iload_n hc dX6_count_0 rfl 1 rfl ?_
  refine r_tsIn (off := 97) hc 98 dX6_count_1 (by decide) (by decide) (by decide) (by decide) ?_
  refine r_aload_n hc dX6_count_98 rfl 0 rfl ?_
  refine r_getR hc inlX6 (hro _ (List.mem_of_getElem? (i := 0) rfl)) rfl 4 (by decide) fl_X6_55 rfl rfl dX6_count_99 ?_
  rw [← hQ]
  exact r_iret hc hr hlk () (rfl) rfl dX6_count_102
set_option maxHeartbeats 4000000 in
set_option maxRecDepth 100000 in
/-- reference: count(7) -/
theorem m_count_7 (l : Launch) (D : va_G) (cI cZ cW : ClassId) (g gL gS gW gT gO gP gU gA gE gQ : Nat) (ρ : RS) (hB : BR ρ) : CtI l yX6_count cX6_count 2 (some .int) 2 42 0 0 D cI cZ cW [.ref g, .int (nI 7)] ([]) (wR cI cZ g gL gS gW gT gO gP gU gA gE gQ ρ) (S := Unit) (fun r _ => r = nI (rSz ρ 15)) (fun _ => []) := by
  refine CtI.mk (by decide) (Nat.le_of_ble_eq_true rfl) ?_
  intro p e s m args below meth c A hc hr hlk hnm hro
  generalize hQ : MQ below _ args s 0 0 A = Q
  have hB0 := hB
  obtain ⟨bn, bLe, bSz, bRe, bSu, bMd, bNw, bTb, bPr, bOn, bTw, bNu, bNa, bNd, bLo⟩ := hB
  show V p l e (RM 2 42 0 0) s m args below meth c D A 2 0 0 Q ([]) 0 [(0, .ref g), (1, .int (nI 7))] []
  refine r_iload_n hc dX6_count_0 rfl 1 rfl ?_
  refine r_tsIn (off := 102) hc 103 dX6_count_1 (by decide) (by decide) (by decide) (by decide) ?_
  refine r_aload_n hc dX6_count_103 rfl 0 rfl ?_
  refine r_getR hc inlX6 (hro _ (List.mem_of_getElem? (i := 0) rfl)) rfl 2 (by decide) fl_X6_13 rfl rfl dX6_count_104 ?_
  refine r_bipush (v := (nI 15)) hc dX6_count_107 rfl ?_
  have b1 := bSz 15
  refine r_ialdR hc nI (hro _ (List.mem_of_getElem? (i := 2) rfl)) (by omega) (by decide) dX6_count_109 ?_
  rw [← hQ]
  exact r_iret hc hr hlk () (rfl) rfl dX6_count_110
set_option maxHeartbeats 4000000 in
set_option maxRecDepth 100000 in
/-- reference: count(3) -/
theorem m_count_3t (l : Launch) (D : va_G) (cI cZ cW : ClassId) (g gL gS gW gT gO gP gU gA gE gQ : Nat) (ρ : RS) (hcm : cmpl ρ) (hB : BR ρ) : CtI l yX6_count cX6_count 2 (some .int) 2 42 0 0 D cI cZ cW [.ref g, .int (nI 3)] ([]) (wR cI cZ g gL gS gW gT gO gP gU gA gE gQ ρ) (S := Unit) (fun r _ => r = nI 1) (fun _ => []) := by
  refine CtI.mk (by decide) (Nat.le_of_ble_eq_true rfl) ?_
  intro p e s m args below meth c A hc hr hlk hnm hro
  generalize hQ : MQ below _ args s 0 0 A = Q
  have hB0 := hB
  obtain ⟨bn, bLe, bSz, bRe, bSu, bMd, bNw, bTb, bPr, bOn, bTw, bNu, bNa, bNd, bLo⟩ := hB
  show V p l e (RM 2 42 0 0) s m args below meth c D A 2 0 0 Q ([]) 0 [(0, .ref g), (1, .int (nI 3))] []
  refine r_iload_n hc dX6_count_0 rfl 1 rfl ?_
  refine r_tsIn (off := 62) hc 63 dX6_count_1 (by decide) (by decide) (by decide) (by decide) ?_
  refine r_aload_n hc dX6_count_63 rfl 0 rfl ?_
  refine r_callI (As := []) (n := 0) (wr := []) hc (m_isComplete_t l D cI cZ cW g gL gS gW gT gO gP gU gA gE gQ ρ hcm hB0) co_yX6_isComplete in_X6 ml_X6_109 (by decide +kernel) rfl ⟨by decide, by decide⟩ ⟨by decide, by decide⟩ im_yX6_isComplete se_yX6_isComplete rfl (Or.inr ⟨_, (hro _ (List.mem_of_getElem? (i := 0) rfl))⟩) rfl (Nat.le_of_ble_eq_true rfl) [] [] rfl rfl rfl rfl (by decide) (fun q hq => Or.inr (hro q hq)) dX6_count_64 (fun r1 u2 e3 => ?_)
  subst e3
  refine z_if_eq hc 74 dX6_count_67 (by decide) (fun h4 => ?_) (fun h4 => ?_)
  · cases h4
  · refine r_iconst (v := (nI 1)) hc dX6_count_70 rfl ?_
    refine r_goto hc 75 dX6_count_71 (by decide) ?_
    rw [← hQ]
    exact r_iret hc hr hlk () (rfl) rfl dX6_count_75
set_option maxHeartbeats 4000000 in
set_option maxRecDepth 100000 in
/-- reference: count(4) -/
theorem m_count_4t (l : Launch) (D : va_G) (cI cZ cW : ClassId) (g gL gS gW gT gO gP gU gA gE gQ : Nat) (ρ : RS) (hcm : cmpl ρ) (hB : BR ρ) : CtI l yX6_count cX6_count 2 (some .int) 2 42 0 0 D cI cZ cW [.ref g, .int (nI 4)] ([]) (wR cI cZ g gL gS gW gT gO gP gU gA gE gQ ρ) (S := Unit) (fun r _ => r = nI (cntT (fun k => decide (rNw ρ k = k)) (rMd ρ))) (fun _ => []) := by
  refine CtI.mk (by decide) (Nat.le_of_ble_eq_true rfl) ?_
  intro p e s m args below meth c A hc hr hlk hnm hro
  generalize hQ : MQ below _ args s 0 0 A = Q
  have hB0 := hB
  obtain ⟨bn, bLe, bSz, bRe, bSu, bMd, bNw, bTb, bPr, bOn, bTw, bNu, bNa, bNd, bLo⟩ := hB
  show V p l e (RM 2 42 0 0) s m args below meth c D A 2 0 0 Q ([]) 0 [(0, .ref g), (1, .int (nI 4))] []
  refine r_iload_n hc dX6_count_0 rfl 1 rfl ?_
  refine r_tsIn (off := 75) hc 76 dX6_count_1 (by decide) (by decide) (by decide) (by decide) ?_
  refine r_aload_n hc dX6_count_76 rfl 0 rfl ?_
  refine r_callI (As := []) (n := 0) (wr := []) hc (m_isComplete_t l D cI cZ cW g gL gS gW gT gO gP gU gA gE gQ ρ hcm hB0) co_yX6_isComplete in_X6 ml_X6_109 (by decide +kernel) rfl ⟨by decide, by decide⟩ ⟨by decide, by decide⟩ im_yX6_isComplete se_yX6_isComplete rfl (Or.inr ⟨_, (hro _ (List.mem_of_getElem? (i := 0) rfl))⟩) rfl (Nat.le_of_ble_eq_true rfl) [] [] rfl rfl rfl rfl (by decide) (fun q hq => Or.inr (hro q hq)) dX6_count_77 (fun r1 u2 e3 => ?_)
  subst e3
  refine z_if_eq hc 90 dX6_count_80 (by decide) (fun h4 => ?_) (fun h4 => ?_)
  · cases h4
  · refine r_aload_n hc dX6_count_83 rfl 0 rfl ?_
    refine r_callI (As := []) (n := 0) (wr := []) hc (m_cosets l D cI cZ cW g gL gS gW gT gO gP gU gA gE gQ ρ hB0) co_yX6_cosets in_X6 ml_X6_103 (by decide +kernel) rfl ⟨by decide, by decide⟩ ⟨by decide, by decide⟩ im_yX6_cosets se_yX6_cosets rfl (Or.inr ⟨_, (hro _ (List.mem_of_getElem? (i := 0) rfl))⟩) rfl (Nat.le_of_ble_eq_true rfl) [] [] rfl rfl rfl rfl (by decide) (fun q hq => Or.inr (hro q hq)) dX6_count_84 (fun r5 u6 e7 => ?_)
    subst e7
    show V p l e (RM 2 42 0 0) s m args below meth c D A 2 0 0 Q ([]) 87 [(0, .ref g), (1, .int (nI 4))] [.int (nI (cntT (fun k => decide (rNw ρ k = k)) (rMd ρ)))]
    refine r_goto hc 92 dX6_count_87 (by decide) ?_
    rw [← hQ]
    exact r_iret hc hr hlk () (rfl) rfl dX6_count_92
set_option maxHeartbeats 4000000 in
set_option maxRecDepth 100000 in
/-- reference: count(3) -/
theorem m_count_3f (l : Launch) (D : va_G) (cI cZ cW : ClassId) (g gL gS gW gT gO gP gU gA gE gQ : Nat) (ρ : RS) (hcm : ¬ cmpl ρ) (hB : BR ρ) : CtI l yX6_count cX6_count 2 (some .int) 2 42 0 0 D cI cZ cW [.ref g, .int (nI 3)] ([]) (wR cI cZ g gL gS gW gT gO gP gU gA gE gQ ρ) (S := Unit) (fun r _ => r = nI 0) (fun _ => []) := by
  refine CtI.mk (by decide) (Nat.le_of_ble_eq_true rfl) ?_
  intro p e s m args below meth c A hc hr hlk hnm hro
  generalize hQ : MQ below _ args s 0 0 A = Q
  have hB0 := hB
  obtain ⟨bn, bLe, bSz, bRe, bSu, bMd, bNw, bTb, bPr, bOn, bTw, bNu, bNa, bNd, bLo⟩ := hB
  show V p l e (RM 2 42 0 0) s m args below meth c D A 2 0 0 Q ([]) 0 [(0, .ref g), (1, .int (nI 3))] []
  refine r_iload_n hc dX6_count_0 rfl 1 rfl ?_
  refine r_tsIn (off := 62) hc 63 dX6_count_1 (by decide) (by decide) (by decide) (by decide) ?_
  refine r_aload_n hc dX6_count_63 rfl 0 rfl ?_
  refine r_callI (As := []) (n := 0) (wr := []) hc (m_isComplete_f l D cI cZ cW g gL gS gW gT gO gP gU gA gE gQ ρ hcm hB0) co_yX6_isComplete in_X6 ml_X6_109 (by decide +kernel) rfl ⟨by decide, by decide⟩ ⟨by decide, by decide⟩ im_yX6_isComplete se_yX6_isComplete rfl (Or.inr ⟨_, (hro _ (List.mem_of_getElem? (i := 0) rfl))⟩) rfl (Nat.le_of_ble_eq_true rfl) [] [] rfl rfl rfl rfl (by decide) (fun q hq => Or.inr (hro q hq)) dX6_count_64 (fun r1 u2 e3 => ?_)
  subst e3
  refine z_if_eq hc 74 dX6_count_67 (by decide) (fun h4 => ?_) (fun h4 => ?_)
  · refine r_iconst (v := (nI 0)) hc dX6_count_74 rfl ?_
    rw [← hQ]
    exact r_iret hc hr hlk () (rfl) rfl dX6_count_75
  · cases h4
set_option maxHeartbeats 4000000 in
set_option maxRecDepth 100000 in
/-- reference: count(4) -/
theorem m_count_4f (l : Launch) (D : va_G) (cI cZ cW : ClassId) (g gL gS gW gT gO gP gU gA gE gQ : Nat) (ρ : RS) (hcm : ¬ cmpl ρ) (hB : BR ρ) : CtI l yX6_count cX6_count 2 (some .int) 2 42 0 0 D cI cZ cW [.ref g, .int (nI 4)] ([]) (wR cI cZ g gL gS gW gT gO gP gU gA gE gQ ρ) (S := Unit) (fun r _ => r = -2) (fun _ => []) := by
  refine CtI.mk (by decide) (Nat.le_of_ble_eq_true rfl) ?_
  intro p e s m args below meth c A hc hr hlk hnm hro
  generalize hQ : MQ below _ args s 0 0 A = Q
  have hB0 := hB
  obtain ⟨bn, bLe, bSz, bRe, bSu, bMd, bNw, bTb, bPr, bOn, bTw, bNu, bNa, bNd, bLo⟩ := hB
  show V p l e (RM 2 42 0 0) s m args below meth c D A 2 0 0 Q ([]) 0 [(0, .ref g), (1, .int (nI 4))] []
  refine r_iload_n hc dX6_count_0 rfl 1 rfl ?_
  refine r_tsIn (off := 75) hc 76 dX6_count_1 (by decide) (by decide) (by decide) (by decide) ?_
  refine r_aload_n hc dX6_count_76 rfl 0 rfl ?_
  refine r_callI (As := []) (n := 0) (wr := []) hc (m_isComplete_f l D cI cZ cW g gL gS gW gT gO gP gU gA gE gQ ρ hcm hB0) co_yX6_isComplete in_X6 ml_X6_109 (by decide +kernel) rfl ⟨by decide, by decide⟩ ⟨by decide, by decide⟩ im_yX6_isComplete se_yX6_isComplete rfl (Or.inr ⟨_, (hro _ (List.mem_of_getElem? (i := 0) rfl))⟩) rfl (Nat.le_of_ble_eq_true rfl) [] [] rfl rfl rfl rfl (by decide) (fun q hq => Or.inr (hro q hq)) dX6_count_77 (fun r1 u2 e3 => ?_)
  subst e3
  refine z_if_eq hc 90 dX6_count_80 (by decide) (fun h4 => ?_) (fun h4 => ?_)
  · refine r_bipush (v := (-2)) hc dX6_count_90 rfl ?_
    rw [← hQ]
    exact r_iret hc hr hlk () (rfl) rfl dX6_count_92
  · cases h4
set_option maxHeartbeats 4000000 in
set_option maxRecDepth 100000 in
/-- reference: count, refused -/
theorem m_count_bad (l : Launch) (D : va_G) (cI cZ cW : ClassId) (g gL gS gW gT gO gP gU gA gE gQ : Nat) (ρ : RS) (v : Int32) (hbad : v.toInt < 0 ∨ 7 < v.toInt) : CtI l yX6_count cX6_count 2 (some .int) 2 42 0 0 D cI cZ cW [.ref g, .int v] ([]) (wR cI cZ g gL gS gW gT gO gP gU gA gE gQ ρ) (S := Unit) (fun r _ => r = -1) (fun _ => []) := by
  refine CtI.mk (by decide) (Nat.le_of_ble_eq_true rfl) ?_
  intro p e s m args below meth c A hc hr hlk hnm hro
  generalize hQ : MQ below _ args s 0 0 A = Q
  show V p l e (RM 2 42 0 0) s m args below meth c D A 2 0 0 Q ([]) 0 [(0, .ref g), (1, .int v)] []
  refine r_iload_n hc dX6_count_0 rfl 1 rfl ?_
  refine r_tsOut hc 111 dX6_count_1 hbad (by decide) ?_
  refine r_iconst (v := (-1)) hc dX6_count_111 rfl ?_
  rw [← hQ]
  exact r_iret hc hr hlk () (rfl) rfl dX6_count_112
set_option maxHeartbeats 4000000 in
set_option maxRecDepth 100000 in
/-- reference: isCoset(v) -/
theorem m_isCoset (l : Launch) (D : va_G) (cI cZ cW : ClassId) (g gL gS gW gT gO gP gU gA gE gQ : Nat) (ρ : RS) (v : Int32) (hB : BR ρ) : CtI l yX6_isCoset cX6_isCoset 2 (some .boolean) 0 0 0 0 D cI cZ cW [.ref g, .int v] ([]) (wR cI cZ g gL gS gW gT gO gP gU gA gE gQ ρ) (S := Unit) (fun r _ => r = zI (livRI ρ v)) (fun _ => []) := by
  refine CtI.mk (by decide) (Nat.le_of_ble_eq_true rfl) ?_
  intro p e s m args below meth c A hc hr hlk hnm hro
  generalize hQ : MQ below _ args s 0 0 A = Q
  have hB0 := hB
  obtain ⟨bn, bLe, bSz, bRe, bSu, bMd, bNw, bTb, bPr, bOn, bTw, bNu, bNa, bNd, bLo⟩ := hB
  show V p l e (RM 0 0 0 0) s m args below meth c D A 2 0 0 Q ([]) 0 [(0, .ref g), (1, .int v)] []
  refine r_iload_n hc dX6_isCoset_0 rfl 1 rfl ?_
  refine r_if_lt hc 26 dX6_isCoset_1 (by decide) (fun h1 => ?_) (fun h1 => ?_)
  · refine r_iconst (v := (nI 0)) hc dX6_isCoset_26 rfl ?_
    rw [← hQ]
    refine r_zret (b := false) hc hr hlk () (congrArg zI ?_) rfl dX6_isCoset_27
    first | (simp [livRI, *]; done) | (rw [livRI_n ρ hk]; simp [livR]; omega)
  · obtain ⟨k, hk, rfl⟩ := nI_of h1
    show V p l e (RM 0 0 0 0) s m args below meth c D A 2 0 0 Q ([]) 4 [(0, .ref g), (1, .int (nI k))] []
    refine r_iload_n hc dX6_isCoset_4 rfl 1 rfl ?_
    refine r_aload_n hc dX6_isCoset_5 rfl 0 rfl ?_
    refine r_getR hc inlX6 (hro _ (List.mem_of_getElem? (i := 0) rfl)) rfl 5 (by decide) fl_X6_45 rfl rfl dX6_isCoset_6 ?_
    refine n_icmp_ge hc 26 dX6_isCoset_9 (by decide) (by omega) (by omega) (fun h2 => ?_) (fun h2 => ?_)
    · refine r_iconst (v := (nI 0)) hc dX6_isCoset_26 rfl ?_
      rw [← hQ]
      refine r_zret (b := false) hc hr hlk () (congrArg zI ?_) rfl dX6_isCoset_27
      first | (simp [livRI, *]; done) | (rw [livRI_n ρ hk]; simp [livR]; omega)
    · refine r_aload_n hc dX6_isCoset_12 rfl 0 rfl ?_
      refine r_getR hc inlX6 (hro _ (List.mem_of_getElem? (i := 0) rfl)) rfl 6 (by decide) fl_X6_16 rfl rfl dX6_isCoset_13 ?_
      refine r_iload_n hc dX6_isCoset_16 rfl 1 rfl ?_
      have b3 := bNw k
      refine r_ialdR hc nI (hro _ (List.mem_of_getElem? (i := 3) rfl)) (by omega) (by decide) dX6_isCoset_17 ?_
      refine r_iload_n hc dX6_isCoset_18 rfl 1 rfl ?_
      refine n_icmp_ne hc 26 dX6_isCoset_19 (by decide) (by omega) (by omega) (fun h4 => ?_) (fun h4 => ?_)
      · refine r_iconst (v := (nI 0)) hc dX6_isCoset_26 rfl ?_
        rw [← hQ]
        refine r_zret (b := false) hc hr hlk () (congrArg zI ?_) rfl dX6_isCoset_27
        first | (simp [livRI, *]; done) | (rw [livRI_n ρ hk]; simp [livR]; omega)
      · refine r_iconst (v := (nI 1)) hc dX6_isCoset_22 rfl ?_
        refine r_goto hc 27 dX6_isCoset_23 (by decide) ?_
        rw [← hQ]
        refine r_zret (b := true) hc hr hlk () (congrArg zI ?_) rfl dX6_isCoset_27
        first | (simp [livRI, *]; done) | (rw [livRI_n ρ hk]; simp [livR]; omega)
set_option maxHeartbeats 4000000 in
set_option maxRecDepth 100000 in
/-- reference: isNumber(v) -/
theorem m_isNumber (l : Launch) (D : va_G) (cI cZ cW : ClassId) (g gL gS gW gT gO gP gU gA gE gQ : Nat) (ρ : RS) (v : Int32) (hB : BR ρ) : CtI l yX6_isNumber cX6_isNumber 2 (some .boolean) 0 0 0 0 D cI cZ cW [.ref g, .int v] ([]) (wR cI cZ g gL gS gW gT gO gP gU gA gE gQ ρ) (S := Unit) (fun r _ => r = zI (inN (rNd ρ) v)) (fun _ => []) := by
  refine CtI.mk (by decide) (Nat.le_of_ble_eq_true rfl) ?_
  intro p e s m args below meth c A hc hr hlk hnm hro
  generalize hQ : MQ below _ args s 0 0 A = Q
  have hB0 := hB
  obtain ⟨bn, bLe, bSz, bRe, bSu, bMd, bNw, bTb, bPr, bOn, bTw, bNu, bNa, bNd, bLo⟩ := hB
  show V p l e (RM 0 0 0 0) s m args below meth c D A 2 0 0 Q ([]) 0 [(0, .ref g), (1, .int v)] []
  refine r_iload_n hc dX6_isNumber_0 rfl 1 rfl ?_
  refine r_if_lt hc 16 dX6_isNumber_1 (by decide) (fun h1 => ?_) (fun h1 => ?_)
  · refine r_iconst (v := (nI 0)) hc dX6_isNumber_16 rfl ?_
    rw [← hQ]
    refine r_zret (b := false) hc hr hlk () (congrArg zI ?_) rfl dX6_isNumber_17
    first | (simp [inN, *]; done) | (rw [inN_n hk]; simp; omega)
  · obtain ⟨k, hk, rfl⟩ := nI_of h1
    show V p l e (RM 0 0 0 0) s m args below meth c D A 2 0 0 Q ([]) 4 [(0, .ref g), (1, .int (nI k))] []
    refine r_iload_n hc dX6_isNumber_4 rfl 1 rfl ?_
    refine r_aload_n hc dX6_isNumber_5 rfl 0 rfl ?_
    refine r_getR hc inlX6 (hro _ (List.mem_of_getElem? (i := 0) rfl)) rfl 14 (by decide) fl_X6_116 rfl rfl dX6_isNumber_6 ?_
    refine n_icmp_ge hc 16 dX6_isNumber_9 (by decide) (by omega) (by omega) (fun h2 => ?_) (fun h2 => ?_)
    · refine r_iconst (v := (nI 0)) hc dX6_isNumber_16 rfl ?_
      rw [← hQ]
      refine r_zret (b := false) hc hr hlk () (congrArg zI ?_) rfl dX6_isNumber_17
      first | (simp [inN, *]; done) | (rw [inN_n hk]; simp; omega)
    · refine r_iconst (v := (nI 1)) hc dX6_isNumber_12 rfl ?_
      refine r_goto hc 17 dX6_isNumber_13 (by decide) ?_
      rw [← hQ]
      refine r_zret (b := true) hc hr hlk () (congrArg zI ?_) rfl dX6_isNumber_17
      first | (simp [inN, *]; done) | (rw [inN_n hk]; simp; omega)
set_option maxHeartbeats 4000000 in
set_option maxRecDepth 100000 in
/-- reference: known(k, y0) -/
theorem m_known (l : Launch) (D : va_G) (cI cZ cW : ClassId) (g gL gS gW gT gO gP gU gA gE gQ : Nat) (ρ : RS) (k : Nat) (y0 : Int32) (hk : livR ρ k = true) (hy : isLt (rN ρ) y0 = true) (hB : BR ρ) : CtI l yX6_known cX6_known 4 (some .int) 1 21 0 0 D cI cZ cW [.ref g, .int (nI k), .int y0] ([]) (wR cI cZ g gL gS gW gT gO gP gU gA gE gQ ρ) (S := Unit) (fun r _ => r = knI (rTb ρ (k * 6 + colI y0))) (fun _ => []) := by
  refine CtI.mk (by decide) (Nat.le_of_ble_eq_true rfl) ?_
  intro p e s m args below meth c A hc hr hlk hnm hro
  generalize hQ : MQ below _ args s 0 0 A = Q
  have hB0 := hB
  obtain ⟨bn, bLe, bSz, bRe, bSu, bMd, bNw, bTb, bPr, bOn, bTw, bNu, bNa, bNd, bLo⟩ := hB
  have hlk0 : k < rMd ρ := by simp only [livR, Bool.and_eq_true, decide_eq_true_eq] at hk; exact hk.1
  have hc6 := (isLt_six bn hy).2
  show V p l e (RM 1 21 0 0) s m args below meth c D A 4 0 0 Q ([]) 0 [(0, .ref g), (1, .int (nI k)), (2, .int y0)] []
  refine r_aload_n hc dX6_known_0 rfl 0 rfl ?_
  refine r_iload_n hc dX6_known_1 rfl 2 rfl ?_
  refine r_callI (As := [.int y0]) (n := 1) (wr := []) hc (m_isLetter l D cI cZ cW g gL gS gW gT gO gP gU gA gE gQ ρ y0) co_yX6_isLetter in_X6 ml_X6_61 (by decide +kernel) rfl ⟨by decide, by decide⟩ ⟨by decide, by decide⟩ im_yX6_isLetter se_yX6_isLetter rfl (Or.inr ⟨_, (hro _ (List.mem_of_getElem? (i := 0) rfl))⟩) rfl (Nat.le_of_ble_eq_true rfl) [] [] rfl rfl rfl rfl (by decide) (fun q hq => Or.inr (hro q hq)) dX6_known_2 (fun r1 u2 e3 => ?_)
  subst e3
  refine z_if_eq hc 16 dX6_known_5 (by decide) (fun h4 => ?_) (fun h4 => ?_)
  · exact absurd (hy.symm.trans h4) (by decide)
  · refine r_aload_n hc dX6_known_8 rfl 0 rfl ?_
    refine r_iload_n hc dX6_known_9 rfl 1 rfl ?_
    refine r_callI (As := [.int (nI k)]) (n := 1) (wr := []) hc (m_isCoset l D cI cZ cW g gL gS gW gT gO gP gU gA gE gQ ρ (nI k) hB0) co_yX6_isCoset in_X6 ml_X6_113 (by decide +kernel) rfl ⟨by decide, by decide⟩ ⟨by decide, by decide⟩ im_yX6_isCoset se_yX6_isCoset rfl (Or.inr ⟨_, (hro _ (List.mem_of_getElem? (i := 0) rfl))⟩) rfl (Nat.le_of_ble_eq_true rfl) [] [] rfl rfl rfl rfl (by decide) (fun q hq => Or.inr (hro q hq)) dX6_known_10 (fun r5 u6 e7 => ?_)
    subst e7
    rw [livRI_n _ (by omega)]
    refine z_if_ne hc 18 dX6_known_13 (by decide) (fun h8 => ?_) (fun h8 => ?_)
    · refine r_aload_n hc dX6_known_18 rfl 0 rfl ?_
      refine r_getR hc inlX6 (hro _ (List.mem_of_getElem? (i := 0) rfl)) rfl 7 (by decide) fl_X6_19 rfl rfl dX6_known_19 ?_
      refine r_bipush (v := (nI 6)) hc dX6_known_22 rfl ?_
      refine r_iload_n hc dX6_known_24 rfl 1 rfl ?_
      refine n_mul hc dX6_known_25 ?_
      refine r_iload_n hc dX6_known_26 rfl 2 rfl ?_
      refine r_callsI (As := [.int y0]) (n := 1) (wr := []) hc (m_column l D cI cZ cW y0 (isLt_six bn hy).1) co_yX6_column in_X6 ml_X6_65 (by decide +kernel) rfl ⟨by decide, by decide⟩ ⟨by decide, by decide⟩ st_yX6_column rfl (Nat.le_of_ble_eq_true rfl) [] [] rfl rfl rfl rfl (by decide) (fun q hq => absurd hq List.not_mem_nil) dX6_known_27 (fun r9 u10 e11 => ?_)
      subst e11
      show V p l e (RM 1 21 0 0) s m args below meth c D A 4 0 0 Q ([]) 30 [(0, .ref g), (1, .int (nI k)), (2, .int y0)] [.int (nI (colI y0)), .int (nI (6 * k)), .ref gT]
      refine n_add hc dX6_known_30 ?_
      refine r_ialdR hc eI (hro _ (List.mem_of_getElem? (i := 4) rfl)) (by omega) (by decide) dX6_known_31 ?_
      refine r_istore_n (lv' := [(3, .int (eI ((rTb ρ) ((6 * k) + (colI y0))))), (0, .ref g), (1, .int (nI k)), (2, .int y0)]) hc dX6_known_32 rfl (by decide) rfl ?_
      refine r_iload_n hc dX6_known_33 rfl 0 rfl ?_
      refine e_if_ge hc 42 dX6_known_34 (by decide) (fun d h => Nat.lt_trans (bTb _ d h) (by decide)) (fun d13 h12 => ?_) (fun h12 => ?_)
      · rw [h12]
        show V _ _ _ _ _ _ _ _ _ _ _ _ _ _ _ _ _ _ [(3, .int (nI d13)), (0, .ref g), (1, .int (nI k)), (2, .int y0)] []
        refine r_iload_n hc dX6_known_42 rfl 0 rfl ?_
        rw [← hQ]
        exact r_iret hc hr hlk () (by rw [Nat.mul_comm k 6, h12]; rfl) rfl dX6_known_43
      · refine r_bipush (v := (-2)) hc dX6_known_37 rfl ?_
        refine r_goto hc 43 dX6_known_39 (by decide) ?_
        rw [← hQ]
        exact r_iret hc hr hlk () (by rw [Nat.mul_comm k 6, h12]; rfl) rfl dX6_known_43
    · exact absurd (hk.symm.trans h8) (by decide)
set_option maxHeartbeats 4000000 in
set_option maxRecDepth 100000 in
/-- reference: known, refused -/
theorem m_known_bad (l : Launch) (D : va_G) (cI cZ cW : ClassId) (g gL gS gW gT gO gP gU gA gE gQ : Nat) (ρ : RS) (v y0 : Int32) (hbad : isLt (rN ρ) y0 = false ∨ livRI ρ v = false) (hB : BR ρ) : CtI l yX6_known cX6_known 4 (some .int) 1 21 0 0 D cI cZ cW [.ref g, .int v, .int y0] ([]) (wR cI cZ g gL gS gW gT gO gP gU gA gE gQ ρ) (S := Unit) (fun r _ => r = -1) (fun _ => []) := by
  refine CtI.mk (by decide) (Nat.le_of_ble_eq_true rfl) ?_
  intro p e s m args below meth c A hc hr hlk hnm hro
  generalize hQ : MQ below _ args s 0 0 A = Q
  have hB0 := hB
  obtain ⟨bn, bLe, bSz, bRe, bSu, bMd, bNw, bTb, bPr, bOn, bTw, bNu, bNa, bNd, bLo⟩ := hB
  show V p l e (RM 1 21 0 0) s m args below meth c D A 4 0 0 Q ([]) 0 [(0, .ref g), (1, .int v), (2, .int y0)] []
  refine r_aload_n hc dX6_known_0 rfl 0 rfl ?_
  refine r_iload_n hc dX6_known_1 rfl 2 rfl ?_
  refine r_callI (As := [.int y0]) (n := 1) (wr := []) hc (m_isLetter l D cI cZ cW g gL gS gW gT gO gP gU gA gE gQ ρ y0) co_yX6_isLetter in_X6 ml_X6_61 (by decide +kernel) rfl ⟨by decide, by decide⟩ ⟨by decide, by decide⟩ im_yX6_isLetter se_yX6_isLetter rfl (Or.inr ⟨_, (hro _ (List.mem_of_getElem? (i := 0) rfl))⟩) rfl (Nat.le_of_ble_eq_true rfl) [] [] rfl rfl rfl rfl (by decide) (fun q hq => Or.inr (hro q hq)) dX6_known_2 (fun r1 u2 e3 => ?_)
  subst e3
  refine z_if_eq hc 16 dX6_known_5 (by decide) (fun h4 => ?_) (fun h4 => ?_)
  · refine r_iconst (v := (-1)) hc dX6_known_16 rfl ?_
    rw [← hQ]
    exact r_iret hc hr hlk () (rfl) rfl dX6_known_17
  · refine r_aload_n hc dX6_known_8 rfl 0 rfl ?_
    refine r_iload_n hc dX6_known_9 rfl 1 rfl ?_
    refine r_callI (As := [.int v]) (n := 1) (wr := []) hc (m_isCoset l D cI cZ cW g gL gS gW gT gO gP gU gA gE gQ ρ v hB0) co_yX6_isCoset in_X6 ml_X6_113 (by decide +kernel) rfl ⟨by decide, by decide⟩ ⟨by decide, by decide⟩ im_yX6_isCoset se_yX6_isCoset rfl (Or.inr ⟨_, (hro _ (List.mem_of_getElem? (i := 0) rfl))⟩) rfl (Nat.le_of_ble_eq_true rfl) [] [] rfl rfl rfl rfl (by decide) (fun q hq => Or.inr (hro q hq)) dX6_known_10 (fun r5 u6 e7 => ?_)
    subst e7
    refine z_if_ne hc 18 dX6_known_13 (by decide) (fun h8 => ?_) (fun h8 => ?_)
    · exact absurd hbad (by rw [h4, h8]; simp)
    · refine r_iconst (v := (-1)) hc dX6_known_16 rfl ?_
      rw [← hQ]
      exact r_iret hc hr hlk () (rfl) rfl dX6_known_17
