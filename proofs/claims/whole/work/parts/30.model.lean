/-! the reference: its state -/
abbrev RS : Type := Nat × (Nat → Nat) × (Nat → Nat) × Nat × Nat × Nat × (Nat → Nat) × (Nat → Option Nat) × Bool × Nat × (Nat → Nat) × (Nat → Nat) × (Nat → Option Nat) × (Nat → Nat) × Nat × (Nat → Bool) × (Nat → Nat)
def rN (ρ : RS) : Nat := ρ.1
def rLe (ρ : RS) : Nat → Nat := ρ.2.1
def rSz (ρ : RS) : Nat → Nat := ρ.2.2.1
def rRe (ρ : RS) : Nat := ρ.2.2.2.1
def rSu (ρ : RS) : Nat := ρ.2.2.2.2.1
def rMd (ρ : RS) : Nat := ρ.2.2.2.2.2.1
def rNw (ρ : RS) : Nat → Nat := ρ.2.2.2.2.2.2.1
def rTb (ρ : RS) : Nat → Option Nat := ρ.2.2.2.2.2.2.2.1
def rCh (ρ : RS) : Bool := ρ.2.2.2.2.2.2.2.2.1
def rPr (ρ : RS) : Nat := ρ.2.2.2.2.2.2.2.2.2.1
def rOn (ρ : RS) : Nat → Nat := ρ.2.2.2.2.2.2.2.2.2.2.1
def rTw (ρ : RS) : Nat → Nat := ρ.2.2.2.2.2.2.2.2.2.2.2.1
def rNu (ρ : RS) : Nat → Option Nat := ρ.2.2.2.2.2.2.2.2.2.2.2.2.1
def rNa (ρ : RS) : Nat → Nat := ρ.2.2.2.2.2.2.2.2.2.2.2.2.2.1
def rNd (ρ : RS) : Nat := ρ.2.2.2.2.2.2.2.2.2.2.2.2.2.2.1
def rSe (ρ : RS) : Nat → Bool := ρ.2.2.2.2.2.2.2.2.2.2.2.2.2.2.2.1
def rLo (ρ : RS) : Nat → Nat := ρ.2.2.2.2.2.2.2.2.2.2.2.2.2.2.2.2
abbrev wY (cI cZ : ClassId) (g gL gS gW gT gO gP gU gA gE gQ : Nat) (n0 : Nat) (le0 : Nat → Nat) (sz0 : Nat → Nat) (re0 : Nat) (su0 : Nat) (md0 : Nat) (nw0 : Nat → Nat) (tb0 : Nat → Option Nat) (ch0 : Bool) (pr0 : Nat) (on0 : Nat → Nat) (tw0 : Nat → Nat) (nu0 : Nat → Option Nat) (na0 : Nat → Nat) (nd0 : Nat) (se0 : Nat → Bool) (lo0 : Nat → Nat) : va_W := [(g, .inr (6, [.int (nI n0), .ref gL, .ref gS, .int (nI re0), .int (nI su0), .int (nI md0), .ref gW, .ref gT, .int (zI ch0), .int (nI pr0), .ref gO, .ref gP, .ref gU, .ref gA, .int (nI nd0), .ref gE, .ref gQ])), (gL, .inl (cI, 384, .inl (fun j => nI (le0 j)))), (gS, .inl (cI, 16, .inl (fun j => nI (sz0 j)))), (gW, .inl (cI, 200, .inl (fun j => nI (nw0 j)))), (gT, .inl (cI, 1200, .inl (fun j => eI (tb0 j)))), (gO, .inl (cI, 8000, .inl (fun j => nI (on0 j)))), (gP, .inl (cI, 8000, .inl (fun j => nI (tw0 j)))), (gU, .inl (cI, 200, .inl (fun j => eI (nu0 j)))), (gA, .inl (cI, 200, .inl (fun j => nI (na0 j)))), (gE, .inl (cZ, 200, .inl (fun j => zI (se0 j)))), (gQ, .inl (cI, 200, .inl (fun j => nI (lo0 j))))]
abbrev wR (cI cZ : ClassId) (g gL gS gW gT gO gP gU gA gE gQ : Nat) (ρ : RS) : va_W := wY cI cZ g gL gS gW gT gO gP gU gA gE gQ (rN ρ) (rLe ρ) (rSz ρ) (rRe ρ) (rSu ρ) (rMd ρ) (rNw ρ) (rTb ρ) (rCh ρ) (rPr ρ) (rOn ρ) (rTw ρ) (rNu ρ) (rNa ρ) (rNd ρ) (rSe ρ) (rLo ρ)
def BR (ρ : RS) : Prop := rN ρ ≤ 3 ∧ (∀ i, rLe ρ i < 6) ∧ (∀ i, rSz ρ i ≤ 24) ∧ rRe ρ ≤ 10 ∧ rSu ρ ≤ 5 ∧ rMd ρ ≤ 200 ∧ (∀ i, rNw ρ i < 200) ∧ (∀ i d, rTb ρ i = some d → d < 200) ∧ rPr ρ ≤ 8000 ∧ (∀ i, rOn ρ i < 200) ∧ (∀ i, rTw ρ i < 200) ∧ (∀ i d, rNu ρ i = some d → d < 200) ∧ (∀ i, rNa ρ i < 200) ∧ rNd ρ ≤ 200 ∧ ∀ i, rLo ρ i < 200
def clrT (f : Nat → Option Nat) (k : Nat) : Nat → Option Nat := match k with | 0 => f | k + 1 => va_up (clrT f k) k none
def gFresh (ρ : RS) : RS := (rN ρ, rLe ρ, rSz ρ, rRe ρ, rSu ρ, 1, va_up (rNw ρ) 0 0, clrT (rTb ρ) 1200, rCh ρ, rPr ρ, rOn ρ, rTw ρ, rNu ρ, rNa ρ, rNd ρ, rSe ρ, rLo ρ)
set_option maxHeartbeats 4000000 in
set_option maxRecDepth 100000 in
/-- reference: fresh() -/
theorem m_fresh (l : Launch) (D : va_G) (cI cZ cW : ClassId) (g gL gS gW gT gO gP gU gA gE gQ : Nat) (ρ : RS)  : CtV l yX6_fresh cX6_fresh 2 none 0 0 0 0 D cI cZ cW [.ref g] (wR cI cZ g gL gS gW gT gO gP gU gA gE gQ ρ) ([]) (S := RS) (fun u => u = gFresh ρ) (fun u => wR cI cZ g gL gS gW gT gO gP gU gA gE gQ u) := by
  refine CtV.mk (by decide) (Nat.le_of_ble_eq_true rfl) ?_
  intro p e s m args below meth c A hc hr hlk hnm hro
  generalize hQ : MQ below _ args s 0 0 A = Q
  show V p l e (RM 0 0 0 0) s m args below meth c D A 2 0 0 Q (wR cI cZ g gL gS gW gT gO gP gU gA gE gQ ρ) 0 [(0, .ref g)] []
  refine r_aload_n hc dX6_fresh_0 rfl 0 rfl ?_
  refine r_iconst (v := (nI 1)) hc dX6_fresh_1 rfl ?_
  refine r_put (ws' := wY cI cZ g gL gS gW gT gO gP gU gA gE gQ (rN ρ) (rLe ρ) (rSz ρ) (rRe ρ) (rSu ρ) 1 (rNw ρ) (rTb ρ) (rCh ρ) (rPr ρ) (rOn ρ) (rTw ρ) (rNu ρ) (rNa ρ) (rNd ρ) (rSe ρ) (rLo ρ)) hc inlX6 tyX6 tyX6_ok nmX6 0 rfl rfl 5 (by decide) fl_X6_45 rfl rfl rfl rfl (Nat.le_of_ble_eq_true rfl) rfl dX6_fresh_2 ?_
  refine r_aload_n hc dX6_fresh_5 rfl 0 rfl ?_
  refine r_get hc inlX6 0 rfl rfl 6 (by decide) fl_X6_16 rfl rfl dX6_fresh_6 ?_
  refine r_iconst (v := (nI 0)) hc dX6_fresh_9 rfl ?_
  refine r_iconst (v := (nI 0)) hc dX6_fresh_10 rfl ?_
  refine r_iast (ws' := wY cI cZ g gL gS gW gT gO gP gU gA gE gQ (rN ρ) (rLe ρ) (rSz ρ) (rRe ρ) (rSu ρ) 1 (va_up (rNw ρ) 0 0) (rTb ρ) (rCh ρ) (rPr ρ) (rOn ρ) (rTw ρ) (rNu ρ) (rNa ρ) (rNd ρ) (rSe ρ) (rLo ρ)) hc nI 0 3 rfl (by omega) (by decide) rfl dX6_fresh_11 ?_
  refine r_iconst (v := (nI 0)) hc dX6_fresh_12 rfl ?_
  refine r_istore_n (lv' := [(1, .int (nI 0)), (0, .ref g)]) hc dX6_fresh_13 rfl (by decide) rfl ?_
  have lp14 : ∀ (n : Nat) (k : Nat), 1200 - k = n → (k ≤ 1200) → V p l e (RM 0 0 0 0) s m args below meth c D A 2 0 0 Q (wY cI cZ g gL gS gW gT gO gP gU gA gE gQ (rN ρ) (rLe ρ) (rSz ρ) (rRe ρ) (rSu ρ) 1 (va_up (rNw ρ) 0 0) (clrT (rTb ρ) k) (rCh ρ) (rPr ρ) (rOn ρ) (rTw ρ) (rNu ρ) (rNa ρ) (rNd ρ) (rSe ρ) (rLo ρ)) 14 [(1, .int (nI k)), (0, .ref g)] [] := by
    intro n
    induction n using Nat.strongRecOn with
    | _ n ih14 =>
    intro k hm14 hk
    refine r_iload_n hc dX6_fresh_14 rfl 0 rfl ?_
    refine r_sipush (v := (nI 1200)) hc dX6_fresh_15 rfl ?_
    refine n_icmp_ge hc 34 dX6_fresh_18 (by decide) (by omega) (by omega) (fun h1 => ?_) (fun h1 => ?_)
    · obtain rfl : k = 1200 := by omega
      show V p l e (RM 0 0 0 0) s m args below meth c D A 2 0 0 Q (wY cI cZ g gL gS gW gT gO gP gU gA gE gQ (rN ρ) (rLe ρ) (rSz ρ) (rRe ρ) (rSu ρ) 1 (va_up (rNw ρ) 0 0) (clrT (rTb ρ) 1200) (rCh ρ) (rPr ρ) (rOn ρ) (rTw ρ) (rNu ρ) (rNa ρ) (rNd ρ) (rSe ρ) (rLo ρ)) 34 [(1, .int (nI 1200)), (0, .ref g)] []
      rw [← hQ]
      exact r_vret hc hr hlk (rN ρ, rLe ρ, rSz ρ, rRe ρ, rSu ρ, 1, va_up (rNw ρ) 0 0, clrT (rTb ρ) 1200, rCh ρ, rPr ρ, rOn ρ, rTw ρ, rNu ρ, rNa ρ, rNd ρ, rSe ρ, rLo ρ) (rfl) rfl dX6_fresh_34
    · refine r_aload_n hc dX6_fresh_21 rfl 1 rfl ?_
      refine r_get hc inlX6 0 rfl rfl 7 (by decide) fl_X6_19 rfl rfl dX6_fresh_22 ?_
      refine r_iload_n hc dX6_fresh_25 rfl 0 rfl ?_
      refine r_iconst (v := (-1)) hc dX6_fresh_26 rfl ?_
      refine r_iast (ws' := wY cI cZ g gL gS gW gT gO gP gU gA gE gQ (rN ρ) (rLe ρ) (rSz ρ) (rRe ρ) (rSu ρ) 1 (va_up (rNw ρ) 0 0) (va_up (clrT (rTb ρ) k) k none) (rCh ρ) (rPr ρ) (rOn ρ) (rTw ρ) (rNu ρ) (rNa ρ) (rNd ρ) (rSe ρ) (rLo ρ)) hc eI none 4 rfl (by omega) (by decide) rfl dX6_fresh_27 ?_
      refine r_iinc (k := 0) (v := (nI (k + 1))) (lv' := [(1, .int (nI (k + 1))), (0, .ref g)]) hc dX6_fresh_28 rfl (nI_add _ _) (by decide) rfl ?_
      refine r_goto hc 14 dX6_fresh_31 (by decide) ?_
      refine r_lv [0, 1] rfl ?_
      exact ih14 _ (by omega) (k + 1) rfl (by omega)
  refine r_lv [0, 1] rfl ?_
  exact lp14 _ 0 rfl (Nat.zero_le _)
def gBeg0 (ρ : RS) (k : Nat) : RS := (k, rLe ρ, va_up (rSz ρ) 15 0, 0, 0, rMd ρ, rNw ρ, rTb ρ, rCh ρ, rPr ρ, rOn ρ, rTw ρ, rNu ρ, rNa ρ, rNd ρ, rSe ρ, rLo ρ)
set_option maxHeartbeats 4000000 in
set_option maxRecDepth 100000 in
/-- reference: begin(k) -/
theorem m_begin (l : Launch) (D : va_G) (cI cZ cW : ClassId) (g gL gS gW gT gO gP gU gA gE gQ : Nat) (ρ : RS) (k : Nat) (hk1 : 1 ≤ k) (hk3 : k ≤ 3) : CtI l yX6_begin cX6_begin 2 (some .int) 1 21 0 0 D cI cZ cW [.ref g, .int (nI k)] (wR cI cZ g gL gS gW gT gO gP gU gA gE gQ ρ) ([]) (S := RS) (fun r u => r = nI 0 ∧ u = gFresh (gBeg0 ρ k)) (fun u => wR cI cZ g gL gS gW gT gO gP gU gA gE gQ u) := by
  refine CtI.mk (by decide) (Nat.le_of_ble_eq_true rfl) ?_
  intro p e s m args below meth c A hc hr hlk hnm hro
  generalize hQ : MQ below _ args s 0 0 A = Q
  show V p l e (RM 1 21 0 0) s m args below meth c D A 2 0 0 Q (wR cI cZ g gL gS gW gT gO gP gU gA gE gQ ρ) 0 [(0, .ref g), (1, .int (nI k))] []
  refine r_iload_n hc dX6_begin_0 rfl 1 rfl ?_
  refine r_iconst (v := (nI 1)) hc dX6_begin_1 rfl ?_
  refine n_icmp_lt hc 10 dX6_begin_2 (by decide) (by omega) (by omega) (fun h1 => ?_) (fun h1 => ?_)
  · exact absurd h1 (by omega)
  · refine r_iload_n hc dX6_begin_5 rfl 1 rfl ?_
    refine r_iconst (v := (nI 3)) hc dX6_begin_6 rfl ?_
    refine n_icmp_le hc 12 dX6_begin_7 (by decide) (by omega) (by omega) (fun h2 => ?_) (fun h2 => ?_)
    · refine r_aload_n hc dX6_begin_12 rfl 0 rfl ?_
      refine r_iload_n hc dX6_begin_13 rfl 1 rfl ?_
      refine r_put (ws' := wY cI cZ g gL gS gW gT gO gP gU gA gE gQ k (rLe ρ) (rSz ρ) (rRe ρ) (rSu ρ) (rMd ρ) (rNw ρ) (rTb ρ) (rCh ρ) (rPr ρ) (rOn ρ) (rTw ρ) (rNu ρ) (rNa ρ) (rNd ρ) (rSe ρ) (rLo ρ)) hc inlX6 tyX6 tyX6_ok nmX6 0 rfl rfl 0 (by decide) fl_X6_49 rfl rfl rfl rfl (Nat.le_of_ble_eq_true rfl) rfl dX6_begin_14 ?_
      refine r_aload_n hc dX6_begin_17 rfl 0 rfl ?_
      refine r_iconst (v := (nI 0)) hc dX6_begin_18 rfl ?_
      refine r_put (ws' := wY cI cZ g gL gS gW gT gO gP gU gA gE gQ k (rLe ρ) (rSz ρ) 0 (rSu ρ) (rMd ρ) (rNw ρ) (rTb ρ) (rCh ρ) (rPr ρ) (rOn ρ) (rTw ρ) (rNu ρ) (rNa ρ) (rNd ρ) (rSe ρ) (rLo ρ)) hc inlX6 tyX6 tyX6_ok nmX6 0 rfl rfl 3 (by decide) fl_X6_52 rfl rfl rfl rfl (Nat.le_of_ble_eq_true rfl) rfl dX6_begin_19 ?_
      refine r_aload_n hc dX6_begin_22 rfl 0 rfl ?_
      refine r_iconst (v := (nI 0)) hc dX6_begin_23 rfl ?_
      refine r_put (ws' := wY cI cZ g gL gS gW gT gO gP gU gA gE gQ k (rLe ρ) (rSz ρ) 0 0 (rMd ρ) (rNw ρ) (rTb ρ) (rCh ρ) (rPr ρ) (rOn ρ) (rTw ρ) (rNu ρ) (rNa ρ) (rNd ρ) (rSe ρ) (rLo ρ)) hc inlX6 tyX6 tyX6_ok nmX6 0 rfl rfl 4 (by decide) fl_X6_55 rfl rfl rfl rfl (Nat.le_of_ble_eq_true rfl) rfl dX6_begin_24 ?_
      refine r_aload_n hc dX6_begin_27 rfl 0 rfl ?_
      refine r_get hc inlX6 0 rfl rfl 2 (by decide) fl_X6_13 rfl rfl dX6_begin_28 ?_
      refine r_bipush (v := (nI 15)) hc dX6_begin_31 rfl ?_
      refine r_iconst (v := (nI 0)) hc dX6_begin_33 rfl ?_
      refine r_iast (ws' := wY cI cZ g gL gS gW gT gO gP gU gA gE gQ k (rLe ρ) (va_up (rSz ρ) 15 0) 0 0 (rMd ρ) (rNw ρ) (rTb ρ) (rCh ρ) (rPr ρ) (rOn ρ) (rTw ρ) (rNu ρ) (rNa ρ) (rNd ρ) (rSe ρ) (rLo ρ)) hc nI 0 2 rfl (by omega) (by decide) rfl dX6_begin_34 ?_
      refine r_aload_n hc dX6_begin_35 rfl 0 rfl ?_
      show V p l e (RM 1 21 0 0) s m args below meth c D A 2 0 0 Q (wR cI cZ g gL gS gW gT gO gP gU gA gE gQ (gBeg0 ρ k)) 36 [(0, .ref g), (1, .int (nI k))] [.ref g]
      refine r_callV (As := []) (n := 0) (wr := []) hc (m_fresh l D cI cZ cW g gL gS gW gT gO gP gU gA gE gQ (gBeg0 ρ k)) co_yX6_fresh in_X6 ml_X6_58 (by decide +kernel) rfl ⟨by decide, by decide⟩ ⟨by decide, by decide⟩ im_yX6_fresh se_yX6_fresh rfl (Or.inl ⟨0, _, rfl⟩) rfl (Nat.le_of_ble_eq_true rfl) [0, 1, 2, 3, 4, 5, 6, 7, 8, 9, 10] [] rfl rfl rfl rfl (by decide) (fun q hq => absurd hq List.not_mem_nil) dX6_begin_36 (fun u e3 => ?_)
      show V p l e (RM 1 21 0 0) s m args below meth c D A 2 0 0 Q (wR cI cZ g gL gS gW gT gO gP gU gA gE gQ u) 39 [(0, .ref g), (1, .int (nI k))] []
      subst e3
      show V p l e (RM 1 21 0 0) s m args below meth c D A 2 0 0 Q (wR cI cZ g gL gS gW gT gO gP gU gA gE gQ (gFresh (gBeg0 ρ k))) 39 [(0, .ref g), (1, .int (nI k))] []
      refine r_iconst (v := (nI 0)) hc dX6_begin_39 rfl ?_
      rw [← hQ]
      exact r_iret hc hr hlk (gFresh (gBeg0 ρ k)) (⟨rfl, rfl⟩) rfl dX6_begin_40
    · exact absurd h2 (by omega)
set_option maxHeartbeats 4000000 in
set_option maxRecDepth 100000 in
/-- reference: begin(v), refused -/
theorem m_begin_bad (l : Launch) (D : va_G) (cI cZ cW : ClassId) (g : Nat) (v : Int32) (hbad : v < nI 1 ∨ ¬ v ≤ nI 3) : CtI l yX6_begin cX6_begin 2 (some .int) 1 21 0 0 D cI cZ cW [.ref g, .int v] ([]) ([]) (S := Unit) (fun r _ => r = -1) (fun _ => []) := by
  refine CtI.mk (by decide) (Nat.le_of_ble_eq_true rfl) ?_
  intro p e s m args below meth c A hc hr hlk hnm hro
  generalize hQ : MQ below _ args s 0 0 A = Q
  show V p l e (RM 1 21 0 0) s m args below meth c D A 2 0 0 Q ([]) 0 [(0, .ref g), (1, .int v)] []
  refine r_iload_n hc dX6_begin_0 rfl 1 rfl ?_
  refine r_iconst (v := (nI 1)) hc dX6_begin_1 rfl ?_
  refine r_icmp_lt hc 10 dX6_begin_2 (by decide) (fun h1 => ?_) (fun h1 => ?_)
  · refine r_iconst (v := (-1)) hc dX6_begin_10 rfl ?_
    rw [← hQ]
    exact r_iret hc hr hlk () (rfl) rfl dX6_begin_11
  · refine r_iload_n hc dX6_begin_5 rfl 1 rfl ?_
    refine r_iconst (v := (nI 3)) hc dX6_begin_6 rfl ?_
    refine r_icmp_le hc 12 dX6_begin_7 (by decide) (fun h2 => ?_) (fun h2 => ?_)
    · exact absurd h2 (hbad.resolve_left h1)
    · refine r_iconst (v := (-1)) hc dX6_begin_10 rfl ?_
      rw [← hQ]
      exact r_iret hc hr hlk () (rfl) rfl dX6_begin_11
set_option maxHeartbeats 4000000 in
set_option maxRecDepth 100000 in
/-- reference: run(v), refused -/
theorem m_run_bad (l : Launch) (D : va_G) (cI cZ cW : ClassId) (g : Nat) (v : Int32) (hbad : v < nI 1 ∨ ¬ v ≤ nI 200) : CtI l yX6_run cX6_run 3 (some .int) 5 126 0 0 D cI cZ cW [.ref g, .int v] ([]) ([]) (S := Unit) (fun r _ => r = -1) (fun _ => []) := by
  refine CtI.mk (by decide) (Nat.le_of_ble_eq_true rfl) ?_
  intro p e s m args below meth c A hc hr hlk hnm hro
  generalize hQ : MQ below _ args s 0 0 A = Q
  show V p l e (RM 5 126 0 0) s m args below meth c D A 3 0 0 Q ([]) 0 [(0, .ref g), (1, .int v)] []
  refine r_iload_n hc dX6_run_0 rfl 1 rfl ?_
  refine r_iconst (v := (nI 1)) hc dX6_run_1 rfl ?_
  refine r_icmp_lt hc 12 dX6_run_2 (by decide) (fun h1 => ?_) (fun h1 => ?_)
  · refine r_iconst (v := (-1)) hc dX6_run_12 rfl ?_
    rw [← hQ]
    exact r_iret hc hr hlk () (rfl) rfl dX6_run_13
  · refine r_iload_n hc dX6_run_5 rfl 1 rfl ?_
    refine r_sipush (v := (nI 200)) hc dX6_run_6 rfl ?_
    refine r_icmp_le hc 14 dX6_run_9 (by decide) (fun h2 => ?_) (fun h2 => ?_)
    · exact absurd h2 (hbad.resolve_left h1)
    · refine r_iconst (v := (-1)) hc dX6_run_12 rfl ?_
      rw [← hQ]
      exact r_iret hc hr hlk () (rfl) rfl dX6_run_13
set_option maxHeartbeats 4000000 in
set_option maxRecDepth 100000 in
/-- reference: isLetter(v) -/
theorem m_isLetter (l : Launch) (D : va_G) (cI cZ cW : ClassId) (g gL gS gW gT gO gP gU gA gE gQ : Nat) (ρ : RS) (v : Int32) : CtI l yX6_isLetter cX6_isLetter 2 (some .boolean) 0 0 0 0 D cI cZ cW [.ref g, .int v] ([]) (wR cI cZ g gL gS gW gT gO gP gU gA gE gQ ρ) (S := Unit) (fun r _ => r = zI (isLt (rN ρ) v)) (fun _ => []) := by
  refine CtI.mk (by decide) (Nat.le_of_ble_eq_true rfl) ?_
  intro p e s m args below meth c A hc hr hlk hnm hro
  generalize hQ : MQ below _ args s 0 0 A = Q
  show V p l e (RM 0 0 0 0) s m args below meth c D A 2 0 0 Q ([]) 0 [(0, .ref g), (1, .int v)] []
  refine r_iload_n hc dX6_isLetter_0 rfl 1 rfl ?_
  refine r_if_eq hc 25 dX6_isLetter_1 (by decide) (fun h1 => ?_) (fun h1 => ?_)
  · refine r_iconst (v := (nI 0)) hc dX6_isLetter_25 rfl ?_
    rw [← hQ]
    exact r_zret (b := false) hc hr hlk () (congrArg zI (by simp [isLt, *])) rfl dX6_isLetter_26
  · refine r_iload_n hc dX6_isLetter_4 rfl 1 rfl ?_
    refine r_aload_n hc dX6_isLetter_5 rfl 0 rfl ?_
    refine r_getR hc inlX6 (hro _ (List.mem_of_getElem? (i := 0) rfl)) rfl 0 (by decide) fl_X6_49 rfl rfl dX6_isLetter_6 ?_
    refine r_ineg hc dX6_isLetter_9 rfl ?_
    refine r_icmp_lt hc 25 dX6_isLetter_10 (by decide) (fun h2 => ?_) (fun h2 => ?_)
    · refine r_iconst (v := (nI 0)) hc dX6_isLetter_25 rfl ?_
      rw [← hQ]
      exact r_zret (b := false) hc hr hlk () (congrArg zI (by simp [isLt, *])) rfl dX6_isLetter_26
    · refine r_iload_n hc dX6_isLetter_13 rfl 1 rfl ?_
      refine r_aload_n hc dX6_isLetter_14 rfl 0 rfl ?_
      refine r_getR hc inlX6 (hro _ (List.mem_of_getElem? (i := 0) rfl)) rfl 0 (by decide) fl_X6_49 rfl rfl dX6_isLetter_15 ?_
      refine r_icmp_gt hc 25 dX6_isLetter_18 (by decide) (fun h3 => ?_) (fun h3 => ?_)
      · refine r_iconst (v := (nI 0)) hc dX6_isLetter_25 rfl ?_
        rw [← hQ]
        exact r_zret (b := false) hc hr hlk () (congrArg zI (by simp [isLt, *])) rfl dX6_isLetter_26
      · refine r_iconst (v := (nI 1)) hc dX6_isLetter_21 rfl ?_
        refine r_goto hc 26 dX6_isLetter_22 (by decide) ?_
        rw [← hQ]
        exact r_zret (b := true) hc hr hlk () (congrArg zI (by simp [isLt, *])) rfl dX6_isLetter_26
set_option maxHeartbeats 4000000 in
set_option maxRecDepth 100000 in
/-- reference: column(v) -/
theorem m_column (l : Launch) (D : va_G) (cI cZ cW : ClassId) (v : Int32) (hv : v = 1 ∨ v = -1 ∨ v = 2 ∨ v = -2 ∨ v = 3 ∨ v = -3) : CtI l yX6_column cX6_column 1 (some .int) 0 0 0 0 D cI cZ cW [.int v] ([]) ([]) (S := Unit) (fun r _ => r = nI (colI v)) (fun _ => []) := by
  refine CtI.mk (by decide) (Nat.le_of_ble_eq_true rfl) ?_
  intro p e s m args below meth c A hc hr hlk hnm hro
  generalize hQ : MQ below _ args s 0 0 A = Q
  show V p l e (RM 0 0 0 0) s m args below meth c D A 1 0 0 Q ([]) 0 [(0, .int v)] []
  refine r_iload_n hc dX6_column_0 rfl 0 rfl ?_
  refine r_if_le hc 12 dX6_column_1 (by decide) (fun h1 => ?_) (fun h1 => ?_)
  · refine r_bipush (v := (-2)) hc dX6_column_12 rfl ?_
    refine r_iload_n hc dX6_column_14 rfl 0 rfl ?_
    refine r_imul hc dX6_column_15 rfl ?_
    refine r_iconst (v := (nI 1)) hc dX6_column_16 rfl ?_
    refine r_isub hc dX6_column_17 rfl ?_
    rw [← hQ]
    exact r_iret hc hr hlk () (by rcases hv with rfl | rfl | rfl | rfl | rfl | rfl <;> first | rfl | (exfalso; revert h1; decide)) rfl dX6_column_18
  · refine r_iconst (v := (nI 2)) hc dX6_column_4 rfl ?_
    refine r_iload_n hc dX6_column_5 rfl 0 rfl ?_
    refine r_imul hc dX6_column_6 rfl ?_
    refine r_iconst (v := (nI 2)) hc dX6_column_7 rfl ?_
    refine r_isub hc dX6_column_8 rfl ?_
    refine r_goto hc 18 dX6_column_9 (by decide) ?_
    rw [← hQ]
    exact r_iret hc hr hlk () (by rcases hv with rfl | rfl | rfl | rfl | rfl | rfl <;> first | rfl | (exfalso; revert h1; decide)) rfl dX6_column_18
def gLet (ρ : RS) (v : Int32) : RS := (rN ρ, va_up (rLe ρ) (360 + rSz ρ 15) (colI v), va_up (rSz ρ) 15 (rSz ρ 15 + 1), rRe ρ, rSu ρ, rMd ρ, rNw ρ, rTb ρ, rCh ρ, rPr ρ, rOn ρ, rTw ρ, rNu ρ, rNa ρ, rNd ρ, rSe ρ, rLo ρ)
set_option maxHeartbeats 4000000 in
set_option maxRecDepth 100000 in
/-- reference: letter(v) -/
theorem m_letter (l : Launch) (D : va_G) (cI cZ cW : ClassId) (g gL gS gW gT gO gP gU gA gE gQ : Nat) (ρ : RS) (v : Int32) (hv : isLt (rN ρ) v = true) (hl : rSz ρ 15 < 24) (hB : BR ρ) : CtI l yX6_letter cX6_letter 2 (some .int) 1 21 0 0 D cI cZ cW [.ref g, .int v] (wR cI cZ g gL gS gW gT gO gP gU gA gE gQ ρ) ([]) (S := RS) (fun r u => r = nI (rSz ρ 15 + 1) ∧ u = gLet ρ v) (fun u => wR cI cZ g gL gS gW gT gO gP gU gA gE gQ u) := by
  refine CtI.mk (by decide) (Nat.le_of_ble_eq_true rfl) ?_
  intro p e s m args below meth c A hc hr hlk hnm hro
  generalize hQ : MQ below _ args s 0 0 A = Q
  have hB0 := hB
  obtain ⟨bn, bLe, bSz, bRe, bSu, bMd, bNw, bTb, bPr, bOn, bTw, bNu, bNa, bNd, bLo⟩ := hB
  show V p l e (RM 1 21 0 0) s m args below meth c D A 2 0 0 Q (wR cI cZ g gL gS gW gT gO gP gU gA gE gQ ρ) 0 [(0, .ref g), (1, .int v)] []
  refine r_aload_n hc dX6_letter_0 rfl 0 rfl ?_
  refine r_iload_n hc dX6_letter_1 rfl 1 rfl ?_
  refine r_callI (As := [.int v]) (n := 1) (wr := wR cI cZ g gL gS gW gT gO gP gU gA gE gQ ρ) hc (m_isLetter l D cI cZ cW g gL gS gW gT gO gP gU gA gE gQ ρ v) co_yX6_isLetter in_X6 ml_X6_61 (by decide +kernel) rfl ⟨by decide, by decide⟩ ⟨by decide, by decide⟩ im_yX6_isLetter se_yX6_isLetter rfl (Or.inl ⟨0, _, rfl⟩) rfl (Nat.le_of_ble_eq_true rfl) [] [0, 1, 2, 3, 4, 5, 6, 7, 8, 9, 10] rfl rfl rfl rfl (by decide) (fun q hq => Or.inl ((List.getElem?_of_mem hq).elim fun k hk => ⟨k, hk, List.not_mem_nil⟩)) dX6_letter_2 (fun r1 u2 e3 => ?_)
  subst e3
  refine z_if_eq hc 20 dX6_letter_5 (by decide) (fun h4 => ?_) (fun h4 => ?_)
  · exact absurd (hv.symm.trans h4) (by decide)
  · refine r_aload_n hc dX6_letter_8 rfl 0 rfl ?_
    refine r_get hc inlX6 0 rfl rfl 2 (by decide) fl_X6_13 rfl rfl dX6_letter_9 ?_
    refine r_bipush (v := (nI 15)) hc dX6_letter_12 rfl ?_
    have b5 := bSz 15
    refine r_iald hc nI 2 rfl (by omega) (by decide) dX6_letter_14 ?_
    refine r_bipush (v := (nI 24)) hc dX6_letter_15 rfl ?_
    refine n_icmp_ne hc 22 dX6_letter_17 (by decide) (by omega) (by omega) (fun h6 => ?_) (fun h6 => ?_)
    · refine r_aload_n hc dX6_letter_22 rfl 0 rfl ?_
      refine r_get hc inlX6 0 rfl rfl 1 (by decide) fl_X6_7 rfl rfl dX6_letter_23 ?_
      refine r_sipush (v := (nI 360)) hc dX6_letter_26 rfl ?_
      refine r_aload_n hc dX6_letter_29 rfl 0 rfl ?_
      refine r_get hc inlX6 0 rfl rfl 2 (by decide) fl_X6_13 rfl rfl dX6_letter_30 ?_
      refine r_bipush (v := (nI 15)) hc dX6_letter_33 rfl ?_
      have b7 := bSz 15
      refine r_iald hc nI 2 rfl (by omega) (by decide) dX6_letter_35 ?_
      refine n_add hc dX6_letter_36 ?_
      refine r_iload_n hc dX6_letter_37 rfl 1 rfl ?_
      refine r_callsI (As := [.int v]) (n := 1) (wr := wR cI cZ g gL gS gW gT gO gP gU gA gE gQ ρ) hc (m_column l D cI cZ cW v (isLt_six bn hv).1) co_yX6_column in_X6 ml_X6_65 (by decide +kernel) rfl ⟨by decide, by decide⟩ ⟨by decide, by decide⟩ st_yX6_column rfl (Nat.le_of_ble_eq_true rfl) [] [0, 1, 2, 3, 4, 5, 6, 7, 8, 9, 10] rfl rfl rfl rfl (by decide) (fun q hq => absurd hq List.not_mem_nil) dX6_letter_38 (fun r8 u9 e10 => ?_)
      subst e10
      show V p l e (RM 1 21 0 0) s m args below meth c D A 2 0 0 Q (wR cI cZ g gL gS gW gT gO gP gU gA gE gQ ρ) 41 [(0, .ref g), (1, .int v)] [.int (nI (colI v)), .int (nI (360 + ((rSz ρ) 15))), .ref gL]
      refine r_iast (ws' := wY cI cZ g gL gS gW gT gO gP gU gA gE gQ (rN ρ) (va_up (rLe ρ) (360 + ((rSz ρ) 15)) (colI v)) (rSz ρ) (rRe ρ) (rSu ρ) (rMd ρ) (rNw ρ) (rTb ρ) (rCh ρ) (rPr ρ) (rOn ρ) (rTw ρ) (rNu ρ) (rNa ρ) (rNd ρ) (rSe ρ) (rLo ρ)) hc nI (colI v) 1 rfl (by omega) (by decide) rfl dX6_letter_41 ?_
      refine r_aload_n hc dX6_letter_42 rfl 0 rfl ?_
      refine r_get hc inlX6 0 rfl rfl 2 (by decide) fl_X6_13 rfl rfl dX6_letter_43 ?_
      refine r_bipush (v := (nI 15)) hc dX6_letter_46 rfl ?_
      refine r_dup2 hc dX6_letter_48 rfl rfl ?_
      have b11 := bSz 15
      refine r_iald hc nI 2 rfl (by omega) (by decide) dX6_letter_49 ?_
      refine r_iconst (v := (nI 1)) hc dX6_letter_50 rfl ?_
      refine n_add hc dX6_letter_51 ?_
      refine r_iast (ws' := wY cI cZ g gL gS gW gT gO gP gU gA gE gQ (rN ρ) (va_up (rLe ρ) (360 + ((rSz ρ) 15)) (colI v)) (va_up (rSz ρ) 15 (((rSz ρ) 15) + 1)) (rRe ρ) (rSu ρ) (rMd ρ) (rNw ρ) (rTb ρ) (rCh ρ) (rPr ρ) (rOn ρ) (rTw ρ) (rNu ρ) (rNa ρ) (rNd ρ) (rSe ρ) (rLo ρ)) hc nI (((rSz ρ) 15) + 1) 2 rfl (by omega) (by decide) rfl dX6_letter_52 ?_
      refine r_aload_n hc dX6_letter_53 rfl 0 rfl ?_
      refine r_get hc inlX6 0 rfl rfl 2 (by decide) fl_X6_13 rfl rfl dX6_letter_54 ?_
      refine r_bipush (v := (nI 15)) hc dX6_letter_57 rfl ?_
      refine r_iald hc nI 2 rfl (by omega) (by decide) dX6_letter_59 ?_
      rw [← hQ]
      exact r_iret hc hr hlk (gLet ρ v) (⟨rfl, rfl⟩) rfl dX6_letter_60
    · exact absurd h6 (by omega)
set_option maxHeartbeats 4000000 in
set_option maxRecDepth 100000 in
/-- reference: letter(v), refused -/
theorem m_letter_bad (l : Launch) (D : va_G) (cI cZ cW : ClassId) (g gL gS gW gT gO gP gU gA gE gQ : Nat) (ρ : RS) (v : Int32) (hbad : isLt (rN ρ) v = true → rSz ρ 15 = 24) (hB : BR ρ) : CtI l yX6_letter cX6_letter 2 (some .int) 1 21 0 0 D cI cZ cW [.ref g, .int v] ([]) (wR cI cZ g gL gS gW gT gO gP gU gA gE gQ ρ) (S := Unit) (fun r _ => r = -1) (fun _ => []) := by
  refine CtI.mk (by decide) (Nat.le_of_ble_eq_true rfl) ?_
  intro p e s m args below meth c A hc hr hlk hnm hro
  generalize hQ : MQ below _ args s 0 0 A = Q
  have hB0 := hB
  obtain ⟨bn, bLe, bSz, bRe, bSu, bMd, bNw, bTb, bPr, bOn, bTw, bNu, bNa, bNd, bLo⟩ := hB
  show V p l e (RM 1 21 0 0) s m args below meth c D A 2 0 0 Q ([]) 0 [(0, .ref g), (1, .int v)] []
  refine r_aload_n hc dX6_letter_0 rfl 0 rfl ?_
  refine r_iload_n hc dX6_letter_1 rfl 1 rfl ?_
  refine r_callI (As := [.int v]) (n := 1) (wr := []) hc (m_isLetter l D cI cZ cW g gL gS gW gT gO gP gU gA gE gQ ρ v) co_yX6_isLetter in_X6 ml_X6_61 (by decide +kernel) rfl ⟨by decide, by decide⟩ ⟨by decide, by decide⟩ im_yX6_isLetter se_yX6_isLetter rfl (Or.inr ⟨_, (hro _ (List.mem_of_getElem? (i := 0) rfl))⟩) rfl (Nat.le_of_ble_eq_true rfl) [] [] rfl rfl rfl rfl (by decide) (fun q hq => Or.inr (hro q hq)) dX6_letter_2 (fun r1 u2 e3 => ?_)
  subst e3
  refine z_if_eq hc 20 dX6_letter_5 (by decide) (fun h4 => ?_) (fun h4 => ?_)
  · refine r_iconst (v := (-1)) hc dX6_letter_20 rfl ?_
    rw [← hQ]
    exact r_iret hc hr hlk () (rfl) rfl dX6_letter_21
  · have hb := hbad h4
    refine r_aload_n hc dX6_letter_8 rfl 0 rfl ?_
    refine r_getR hc inlX6 (hro _ (List.mem_of_getElem? (i := 0) rfl)) rfl 2 (by decide) fl_X6_13 rfl rfl dX6_letter_9 ?_
    refine r_bipush (v := (nI 15)) hc dX6_letter_12 rfl ?_
    have b5 := bSz 15
    refine r_ialdR hc nI (hro _ (List.mem_of_getElem? (i := 2) rfl)) (by omega) (by decide) dX6_letter_14 ?_
    refine r_bipush (v := (nI 24)) hc dX6_letter_15 rfl ?_
    refine n_icmp_ne hc 22 dX6_letter_17 (by decide) (by omega) (by omega) (fun h6 => ?_) (fun h6 => ?_)
    · exact absurd hb h6
    · refine r_iconst (v := (-1)) hc dX6_letter_20 rfl ?_
      rw [← hQ]
      exact r_iret hc hr hlk () (rfl) rfl dX6_letter_21
set_option maxHeartbeats 4000000 in
set_option maxRecDepth 100000 in
/-- reference: clear() -/
theorem m_clear (l : Launch) (D : va_G) (cI cZ cW : ClassId) (g gL gS gW gT gO gP gU gA gE gQ : Nat) (ρ : RS) (hB : BR ρ) : CtI l yX6_clear cX6_clear 2 (some .int) 0 0 0 0 D cI cZ cW [.ref g] (wR cI cZ g gL gS gW gT gO gP gU gA gE gQ ρ) ([]) (S := RS) (fun r u => r = nI (rSz ρ 15) ∧ u = (rN ρ, rLe ρ, va_up (rSz ρ) 15 0, rRe ρ, rSu ρ, rMd ρ, rNw ρ, rTb ρ, rCh ρ, rPr ρ, rOn ρ, rTw ρ, rNu ρ, rNa ρ, rNd ρ, rSe ρ, rLo ρ)) (fun u => wR cI cZ g gL gS gW gT gO gP gU gA gE gQ u) := by
  refine CtI.mk (by decide) (Nat.le_of_ble_eq_true rfl) ?_
  intro p e s m args below meth c A hc hr hlk hnm hro
  generalize hQ : MQ below _ args s 0 0 A = Q
  have hB0 := hB
  obtain ⟨bn, bLe, bSz, bRe, bSu, bMd, bNw, bTb, bPr, bOn, bTw, bNu, bNa, bNd, bLo⟩ := hB
  show V p l e (RM 0 0 0 0) s m args below meth c D A 2 0 0 Q (wR cI cZ g gL gS gW gT gO gP gU gA gE gQ ρ) 0 [(0, .ref g)] []
  refine r_aload_n hc dX6_clear_0 rfl 0 rfl ?_
  refine r_get hc inlX6 0 rfl rfl 2 (by decide) fl_X6_13 rfl rfl dX6_clear_1 ?_
  refine r_bipush (v := (nI 15)) hc dX6_clear_4 rfl ?_
  have b1 := bSz 15
  refine r_iald hc nI 2 rfl (by omega) (by decide) dX6_clear_6 ?_
  refine r_istore_n (lv' := [(1, .int (nI ((rSz ρ) 15))), (0, .ref g)]) hc dX6_clear_7 rfl (by decide) rfl ?_
  refine r_aload_n hc dX6_clear_8 rfl 1 rfl ?_
  refine r_get hc inlX6 0 rfl rfl 2 (by decide) fl_X6_13 rfl rfl dX6_clear_9 ?_
  refine r_bipush (v := (nI 15)) hc dX6_clear_12 rfl ?_
  refine r_iconst (v := (nI 0)) hc dX6_clear_14 rfl ?_
  refine r_iast (ws' := wY cI cZ g gL gS gW gT gO gP gU gA gE gQ (rN ρ) (rLe ρ) (va_up (rSz ρ) 15 0) (rRe ρ) (rSu ρ) (rMd ρ) (rNw ρ) (rTb ρ) (rCh ρ) (rPr ρ) (rOn ρ) (rTw ρ) (rNu ρ) (rNa ρ) (rNd ρ) (rSe ρ) (rLo ρ)) hc nI 0 2 rfl (by omega) (by decide) rfl dX6_clear_15 ?_
  refine r_iload_n hc dX6_clear_16 rfl 0 rfl ?_
  rw [← hQ]
  exact r_iret hc hr hlk (rN ρ, rLe ρ, va_up (rSz ρ) 15 0, rRe ρ, rSu ρ, rMd ρ, rNw ρ, rTb ρ, rCh ρ, rPr ρ, rOn ρ, rTw ρ, rNu ρ, rNa ρ, rNd ρ, rSe ρ, rLo ρ) (⟨rfl, rfl⟩) rfl dX6_clear_17
def bcI (f : Nat → Nat) (w : Nat) (k : Nat) : Nat → Nat := match k with | 0 => f | k + 1 => va_up (bcI f w k) (24 * w + k) (bcI f w k (360 + k))
def gBec (ρ : RS) (w : Nat) : RS := gFresh (rN ρ, bcI (rLe ρ) w (rSz ρ 15), va_up (va_up (rSz ρ) w (rSz ρ 15)) 15 0, rRe ρ, rSu ρ, rMd ρ, rNw ρ, rTb ρ, rCh ρ, rPr ρ, rOn ρ, rTw ρ, rNu ρ, rNa ρ, rNd ρ, rSe ρ, rLo ρ)
set_option maxHeartbeats 4000000 in
set_option maxRecDepth 100000 in
/-- reference: become(w) -/
theorem m_become (l : Launch) (D : va_G) (cI cZ cW : ClassId) (g gL gS gW gT gO gP gU gA gE gQ : Nat) (ρ : RS) (w : Nat) (hw : w < 15) (hB : BR ρ) : CtV l yX6_become cX6_become 3 none 1 21 0 0 D cI cZ cW [.ref g, .int (nI w)] (wR cI cZ g gL gS gW gT gO gP gU gA gE gQ ρ) ([]) (S := RS) (fun u => u = gBec ρ w) (fun u => wR cI cZ g gL gS gW gT gO gP gU gA gE gQ u) := by
  refine CtV.mk (by decide) (Nat.le_of_ble_eq_true rfl) ?_
  intro p e s m args below meth c A hc hr hlk hnm hro
  generalize hQ : MQ below _ args s 0 0 A = Q
  have hB0 := hB
  obtain ⟨bn, bLe, bSz, bRe, bSu, bMd, bNw, bTb, bPr, bOn, bTw, bNu, bNa, bNd, bLo⟩ := hB
  show V p l e (RM 1 21 0 0) s m args below meth c D A 3 0 0 Q (wR cI cZ g gL gS gW gT gO gP gU gA gE gQ ρ) 0 [(0, .ref g), (1, .int (nI w))] []
  refine r_iconst (v := (nI 0)) hc dX6_become_0 rfl ?_
  refine r_istore_n (lv' := [(2, .int (nI 0)), (0, .ref g), (1, .int (nI w))]) hc dX6_become_1 rfl (by decide) rfl ?_
  have lp2 : ∀ (n : Nat) (k : Nat), rSz ρ 15 - k = n → (k ≤ rSz ρ 15) → V p l e (RM 1 21 0 0) s m args below meth c D A 3 0 0 Q (wY cI cZ g gL gS gW gT gO gP gU gA gE gQ (rN ρ) (bcI (rLe ρ) w k) (rSz ρ) (rRe ρ) (rSu ρ) (rMd ρ) (rNw ρ) (rTb ρ) (rCh ρ) (rPr ρ) (rOn ρ) (rTw ρ) (rNu ρ) (rNa ρ) (rNd ρ) (rSe ρ) (rLo ρ)) 2 [(2, .int (nI k)), (0, .ref g), (1, .int (nI w))] [] := by
    intro n
    induction n using Nat.strongRecOn with
    | _ n ih2 =>
    intro k hm2 hk
    have hs15 := bSz 15
    refine r_iload_n hc dX6_become_2 rfl 0 rfl ?_
    refine r_aload_n hc dX6_become_3 rfl 1 rfl ?_
    refine r_get hc inlX6 0 rfl rfl 2 (by decide) fl_X6_13 rfl rfl dX6_become_4 ?_
    refine r_bipush (v := (nI 15)) hc dX6_become_7 rfl ?_
    have b1 := bSz 15
    refine r_iald hc nI 2 rfl (by omega) (by decide) dX6_become_9 ?_
    refine n_icmp_ge hc 40 dX6_become_10 (by decide) (by omega) (by omega) (fun h2 => ?_) (fun h2 => ?_)
    · obtain rfl : k = rSz ρ 15 := by omega
      show V p l e (RM 1 21 0 0) s m args below meth c D A 3 0 0 Q (wY cI cZ g gL gS gW gT gO gP gU gA gE gQ (rN ρ) (bcI (rLe ρ) w (rSz ρ 15)) (rSz ρ) (rRe ρ) (rSu ρ) (rMd ρ) (rNw ρ) (rTb ρ) (rCh ρ) (rPr ρ) (rOn ρ) (rTw ρ) (rNu ρ) (rNa ρ) (rNd ρ) (rSe ρ) (rLo ρ)) 40 [(2, .int (nI (rSz ρ 15))), (0, .ref g), (1, .int (nI w))] []
      refine r_aload_n hc dX6_become_40 rfl 1 rfl ?_
      refine r_get hc inlX6 0 rfl rfl 2 (by decide) fl_X6_13 rfl rfl dX6_become_41 ?_
      refine r_iload_n hc dX6_become_44 rfl 2 rfl ?_
      refine r_aload_n hc dX6_become_45 rfl 1 rfl ?_
      refine r_get hc inlX6 0 rfl rfl 2 (by decide) fl_X6_13 rfl rfl dX6_become_46 ?_
      refine r_bipush (v := (nI 15)) hc dX6_become_49 rfl ?_
      have b3 := bSz 15
      refine r_iald hc nI 2 rfl (by omega) (by decide) dX6_become_51 ?_
      refine r_iast (ws' := wY cI cZ g gL gS gW gT gO gP gU gA gE gQ (rN ρ) (bcI (rLe ρ) w (rSz ρ 15)) (va_up (rSz ρ) w ((rSz ρ) 15)) (rRe ρ) (rSu ρ) (rMd ρ) (rNw ρ) (rTb ρ) (rCh ρ) (rPr ρ) (rOn ρ) (rTw ρ) (rNu ρ) (rNa ρ) (rNd ρ) (rSe ρ) (rLo ρ)) hc nI ((rSz ρ) 15) 2 rfl (by omega) (by decide) rfl dX6_become_52 ?_
      refine r_aload_n hc dX6_become_53 rfl 1 rfl ?_
      refine r_get hc inlX6 0 rfl rfl 2 (by decide) fl_X6_13 rfl rfl dX6_become_54 ?_
      refine r_bipush (v := (nI 15)) hc dX6_become_57 rfl ?_
      refine r_iconst (v := (nI 0)) hc dX6_become_59 rfl ?_
      refine r_iast (ws' := wY cI cZ g gL gS gW gT gO gP gU gA gE gQ (rN ρ) (bcI (rLe ρ) w (rSz ρ 15)) (va_up (va_up (rSz ρ) w ((rSz ρ) 15)) 15 0) (rRe ρ) (rSu ρ) (rMd ρ) (rNw ρ) (rTb ρ) (rCh ρ) (rPr ρ) (rOn ρ) (rTw ρ) (rNu ρ) (rNa ρ) (rNd ρ) (rSe ρ) (rLo ρ)) hc nI 0 2 rfl (by omega) (by decide) rfl dX6_become_60 ?_
      refine r_aload_n hc dX6_become_61 rfl 1 rfl ?_
      show V p l e (RM 1 21 0 0) s m args below meth c D A 3 0 0 Q (wR cI cZ g gL gS gW gT gO gP gU gA gE gQ (rN ρ, bcI (rLe ρ) w (rSz ρ 15), va_up (va_up (rSz ρ) w (rSz ρ 15)) 15 0, rRe ρ, rSu ρ, rMd ρ, rNw ρ, rTb ρ, rCh ρ, rPr ρ, rOn ρ, rTw ρ, rNu ρ, rNa ρ, rNd ρ, rSe ρ, rLo ρ)) 62 [(2, .int (nI (rSz ρ 15))), (0, .ref g), (1, .int (nI w))] [.ref g]
      refine r_callV (As := []) (n := 0) (wr := []) hc (m_fresh l D cI cZ cW g gL gS gW gT gO gP gU gA gE gQ (rN ρ, bcI (rLe ρ) w (rSz ρ 15), va_up (va_up (rSz ρ) w (rSz ρ 15)) 15 0, rRe ρ, rSu ρ, rMd ρ, rNw ρ, rTb ρ, rCh ρ, rPr ρ, rOn ρ, rTw ρ, rNu ρ, rNa ρ, rNd ρ, rSe ρ, rLo ρ)) co_yX6_fresh in_X6 ml_X6_58 (by decide +kernel) rfl ⟨by decide, by decide⟩ ⟨by decide, by decide⟩ im_yX6_fresh se_yX6_fresh rfl (Or.inl ⟨0, _, rfl⟩) rfl (Nat.le_of_ble_eq_true rfl) [0, 1, 2, 3, 4, 5, 6, 7, 8, 9, 10] [] rfl rfl rfl rfl (by decide) (fun q hq => absurd hq List.not_mem_nil) dX6_become_62 (fun u e4 => ?_)
      show V p l e (RM 1 21 0 0) s m args below meth c D A 3 0 0 Q (wR cI cZ g gL gS gW gT gO gP gU gA gE gQ u) 65 [(2, .int (nI (rSz ρ 15))), (0, .ref g), (1, .int (nI w))] []
      subst e4
      show V p l e (RM 1 21 0 0) s m args below meth c D A 3 0 0 Q (wR cI cZ g gL gS gW gT gO gP gU gA gE gQ (gFresh (rN ρ, bcI (rLe ρ) w (rSz ρ 15), va_up (va_up (rSz ρ) w (rSz ρ 15)) 15 0, rRe ρ, rSu ρ, rMd ρ, rNw ρ, rTb ρ, rCh ρ, rPr ρ, rOn ρ, rTw ρ, rNu ρ, rNa ρ, rNd ρ, rSe ρ, rLo ρ))) 65 [(2, .int (nI (rSz ρ 15))), (0, .ref g), (1, .int (nI w))] []
      rw [← hQ]
      exact r_vret hc hr hlk (gBec ρ w) (rfl) rfl dX6_become_65
    · refine r_aload_n hc dX6_become_13 rfl 1 rfl ?_
      refine r_get hc inlX6 0 rfl rfl 1 (by decide) fl_X6_7 rfl rfl dX6_become_14 ?_
      refine r_bipush (v := (nI 24)) hc dX6_become_17 rfl ?_
      refine r_iload_n hc dX6_become_19 rfl 2 rfl ?_
      refine n_mul hc dX6_become_20 ?_
      refine r_iload_n hc dX6_become_21 rfl 0 rfl ?_
      refine n_add hc dX6_become_22 ?_
      refine r_aload_n hc dX6_become_23 rfl 1 rfl ?_
      refine r_get hc inlX6 0 rfl rfl 1 (by decide) fl_X6_7 rfl rfl dX6_become_24 ?_
      refine r_sipush (v := (nI 360)) hc dX6_become_27 rfl ?_
      refine r_iload_n hc dX6_become_30 rfl 0 rfl ?_
      refine n_add hc dX6_become_31 ?_
      refine r_iald hc nI 1 rfl (by omega) (by decide) dX6_become_32 ?_
      refine r_iast (ws' := wY cI cZ g gL gS gW gT gO gP gU gA gE gQ (rN ρ) (va_up (bcI (rLe ρ) w k) ((24 * w) + k) ((bcI (rLe ρ) w k) (360 + k))) (rSz ρ) (rRe ρ) (rSu ρ) (rMd ρ) (rNw ρ) (rTb ρ) (rCh ρ) (rPr ρ) (rOn ρ) (rTw ρ) (rNu ρ) (rNa ρ) (rNd ρ) (rSe ρ) (rLo ρ)) hc nI ((bcI (rLe ρ) w k) (360 + k)) 1 rfl (by omega) (by decide) rfl dX6_become_33 ?_
      refine r_iinc (k := 0) (v := (nI (k + 1))) (lv' := [(2, .int (nI (k + 1))), (0, .ref g), (1, .int (nI w))]) hc dX6_become_34 rfl (nI_add _ _) (by decide) rfl ?_
      refine r_goto hc 2 dX6_become_37 (by decide) ?_
      refine r_lv [0, 1, 2] rfl ?_
      exact ih2 _ (by omega) (k + 1) rfl (by omega)
  refine r_lv [0, 1, 2] rfl ?_
  exact lp2 _ 0 rfl (Nat.zero_le _)
def gRel (ρ : RS) : RS := (fun τ : RS => (rN τ, rLe τ, rSz τ, rRe τ + 1, rSu τ, rMd τ, rNw τ, rTb τ, rCh τ, rPr τ, rOn τ, rTw τ, rNu τ, rNa τ, rNd τ, rSe τ, rLo τ)) (gBec ρ (rRe ρ))
def gSub (ρ : RS) : RS := (fun τ : RS => (rN τ, rLe τ, rSz τ, rRe τ, rSu τ + 1, rMd τ, rNw τ, rTb τ, rCh τ, rPr τ, rOn τ, rTw τ, rNu τ, rNa τ, rNd τ, rSe τ, rLo τ)) (gBec ρ (10 + rSu ρ))
set_option maxHeartbeats 4000000 in
set_option maxRecDepth 100000 in
/-- reference: relator() -/
theorem m_relator (l : Launch) (D : va_G) (cI cZ cW : ClassId) (g gL gS gW gT gO gP gU gA gE gQ : Nat) (ρ : RS) (h0 : 0 < rSz ρ 15) (hr0 : rRe ρ < 10) (hB : BR ρ) : CtI l yX6_relator cX6_relator 1 (some .int) 2 43 0 0 D cI cZ cW [.ref g] (wR cI cZ g gL gS gW gT gO gP gU gA gE gQ ρ) ([]) (S := RS) (fun r u => r = nI (rRe ρ + 1) ∧ u = gRel ρ) (fun u => wR cI cZ g gL gS gW gT gO gP gU gA gE gQ u) := by
  refine CtI.mk (by decide) (Nat.le_of_ble_eq_true rfl) ?_
  intro p e s m args below meth c A hc hr hlk hnm hro
  generalize hQ : MQ below _ args s 0 0 A = Q
  have hB0 := hB
  obtain ⟨bn, bLe, bSz, bRe, bSu, bMd, bNw, bTb, bPr, bOn, bTw, bNu, bNa, bNd, bLo⟩ := hB
  show V p l e (RM 2 43 0 0) s m args below meth c D A 1 0 0 Q (wR cI cZ g gL gS gW gT gO gP gU gA gE gQ ρ) 0 [(0, .ref g)] []
  refine r_aload_n hc dX6_relator_0 rfl 0 rfl ?_
  refine r_get hc inlX6 0 rfl rfl 2 (by decide) fl_X6_13 rfl rfl dX6_relator_1 ?_
  refine r_bipush (v := (nI 15)) hc dX6_relator_4 rfl ?_
  have b1 := bSz 15
  refine r_iald hc nI 2 rfl (by omega) (by decide) dX6_relator_6 ?_
  refine n_if_eq hc 19 dX6_relator_7 (by decide) (by omega) (fun h2 => ?_) (fun h2 => ?_)
  · exact absurd h2 (by omega)
  · refine r_aload_n hc dX6_relator_10 rfl 0 rfl ?_
    refine r_get hc inlX6 0 rfl rfl 3 (by decide) fl_X6_52 rfl rfl dX6_relator_11 ?_
    refine r_bipush (v := (nI 10)) hc dX6_relator_14 rfl ?_
    refine n_icmp_ne hc 21 dX6_relator_16 (by decide) (by omega) (by omega) (fun h3 => ?_) (fun h3 => ?_)
    · refine r_aload_n hc dX6_relator_21 rfl 0 rfl ?_
      refine r_aload_n hc dX6_relator_22 rfl 0 rfl ?_
      refine r_get hc inlX6 0 rfl rfl 3 (by decide) fl_X6_52 rfl rfl dX6_relator_23 ?_
      refine r_callV (As := [.int (nI (rRe ρ))]) (n := 1) (wr := []) hc (m_become l D cI cZ cW g gL gS gW gT gO gP gU gA gE gQ ρ (rRe ρ) (by omega) hB0) co_yX6_become in_X6 ml_X6_68 (by decide +kernel) rfl ⟨by decide, by decide⟩ ⟨by decide, by decide⟩ im_yX6_become se_yX6_become rfl (Or.inl ⟨0, _, rfl⟩) rfl (Nat.le_of_ble_eq_true rfl) [0, 1, 2, 3, 4, 5, 6, 7, 8, 9, 10] [] rfl rfl rfl rfl (by decide) (fun q hq => absurd hq List.not_mem_nil) dX6_relator_26 (fun u e4 => ?_)
      show V p l e (RM 2 43 0 0) s m args below meth c D A 1 0 0 Q (wR cI cZ g gL gS gW gT gO gP gU gA gE gQ u) 29 [(0, .ref g)] []
      subst e4
      obtain ⟨τ, hτ⟩ : ∃ q, q = gBec ρ (rRe ρ) := ⟨_, rfl⟩
      have h1τ : rRe τ = rRe ρ := by rw [hτ]; rfl
      have h2τ : rSu τ = rSu ρ := by rw [hτ]; rfl
      rw [← hτ]
      refine r_aload_n hc dX6_relator_29 rfl 0 rfl ?_
      refine r_dup hc dX6_relator_30 rfl ?_
      refine r_get hc inlX6 0 rfl rfl 3 (by decide) fl_X6_52 rfl rfl dX6_relator_31 ?_
      refine r_iconst (v := (nI 1)) hc dX6_relator_34 rfl ?_
      refine n_add hc dX6_relator_35 ?_
      refine r_put (ws' := wY cI cZ g gL gS gW gT gO gP gU gA gE gQ (rN τ) (rLe τ) (rSz τ) ((rRe τ) + 1) (rSu τ) (rMd τ) (rNw τ) (rTb τ) (rCh τ) (rPr τ) (rOn τ) (rTw τ) (rNu τ) (rNa τ) (rNd τ) (rSe τ) (rLo τ)) hc inlX6 tyX6 tyX6_ok nmX6 0 rfl rfl 3 (by decide) fl_X6_52 rfl rfl rfl rfl (Nat.le_of_ble_eq_true rfl) rfl dX6_relator_36 ?_
      refine r_aload_n hc dX6_relator_39 rfl 0 rfl ?_
      refine r_get hc inlX6 0 rfl rfl 3 (by decide) fl_X6_52 rfl rfl dX6_relator_40 ?_
      rw [← hQ]
      exact r_iret hc hr hlk (rN τ, rLe τ, rSz τ, (rRe τ) + 1, rSu τ, rMd τ, rNw τ, rTb τ, rCh τ, rPr τ, rOn τ, rTw τ, rNu τ, rNa τ, rNd τ, rSe τ, rLo τ) ⟨by rw [h1τ], by rw [hτ]; rfl⟩ rfl dX6_relator_43
    · exact absurd h3 (by omega)
set_option maxHeartbeats 4000000 in
set_option maxRecDepth 100000 in
/-- reference: subgroup() -/
theorem m_subgroup (l : Launch) (D : va_G) (cI cZ cW : ClassId) (g gL gS gW gT gO gP gU gA gE gQ : Nat) (ρ : RS) (h0 : 0 < rSz ρ 15) (hr0 : rSu ρ < 5) (hB : BR ρ) : CtI l yX6_subgroup cX6_subgroup 1 (some .int) 2 43 0 0 D cI cZ cW [.ref g] (wR cI cZ g gL gS gW gT gO gP gU gA gE gQ ρ) ([]) (S := RS) (fun r u => r = nI (rSu ρ + 1) ∧ u = gSub ρ) (fun u => wR cI cZ g gL gS gW gT gO gP gU gA gE gQ u) := by
  refine CtI.mk (by decide) (Nat.le_of_ble_eq_true rfl) ?_
  intro p e s m args below meth c A hc hr hlk hnm hro
  generalize hQ : MQ below _ args s 0 0 A = Q
  have hB0 := hB
  obtain ⟨bn, bLe, bSz, bRe, bSu, bMd, bNw, bTb, bPr, bOn, bTw, bNu, bNa, bNd, bLo⟩ := hB
  show V p l e (RM 2 43 0 0) s m args below meth c D A 1 0 0 Q (wR cI cZ g gL gS gW gT gO gP gU gA gE gQ ρ) 0 [(0, .ref g)] []
  refine r_aload_n hc dX6_subgroup_0 rfl 0 rfl ?_
  refine r_get hc inlX6 0 rfl rfl 2 (by decide) fl_X6_13 rfl rfl dX6_subgroup_1 ?_
  refine r_bipush (v := (nI 15)) hc dX6_subgroup_4 rfl ?_
  have b1 := bSz 15
  refine r_iald hc nI 2 rfl (by omega) (by decide) dX6_subgroup_6 ?_
  refine n_if_eq hc 18 dX6_subgroup_7 (by decide) (by omega) (fun h2 => ?_) (fun h2 => ?_)
  · exact absurd h2 (by omega)
  · refine r_aload_n hc dX6_subgroup_10 rfl 0 rfl ?_
    refine r_get hc inlX6 0 rfl rfl 4 (by decide) fl_X6_55 rfl rfl dX6_subgroup_11 ?_
    refine r_iconst (v := (nI 5)) hc dX6_subgroup_14 rfl ?_
    refine n_icmp_ne hc 20 dX6_subgroup_15 (by decide) (by omega) (by omega) (fun h3 => ?_) (fun h3 => ?_)
    · refine r_aload_n hc dX6_subgroup_20 rfl 0 rfl ?_
      refine r_bipush (v := (nI 10)) hc dX6_subgroup_21 rfl ?_
      refine r_aload_n hc dX6_subgroup_23 rfl 0 rfl ?_
      refine r_get hc inlX6 0 rfl rfl 4 (by decide) fl_X6_55 rfl rfl dX6_subgroup_24 ?_
      refine n_add hc dX6_subgroup_27 ?_
      refine r_callV (As := [.int (nI (10 + (rSu ρ)))]) (n := 1) (wr := []) hc (m_become l D cI cZ cW g gL gS gW gT gO gP gU gA gE gQ ρ (10 + rSu ρ) (by omega) hB0) co_yX6_become in_X6 ml_X6_68 (by decide +kernel) rfl ⟨by decide, by decide⟩ ⟨by decide, by decide⟩ im_yX6_become se_yX6_become rfl (Or.inl ⟨0, _, rfl⟩) rfl (Nat.le_of_ble_eq_true rfl) [0, 1, 2, 3, 4, 5, 6, 7, 8, 9, 10] [] rfl rfl rfl rfl (by decide) (fun q hq => absurd hq List.not_mem_nil) dX6_subgroup_28 (fun u e4 => ?_)
      show V p l e (RM 2 43 0 0) s m args below meth c D A 1 0 0 Q (wR cI cZ g gL gS gW gT gO gP gU gA gE gQ u) 31 [(0, .ref g)] []
      subst e4
      obtain ⟨τ, hτ⟩ : ∃ q, q = gBec ρ (10 + rSu ρ) := ⟨_, rfl⟩
      have h1τ : rRe τ = rRe ρ := by rw [hτ]; rfl
      have h2τ : rSu τ = rSu ρ := by rw [hτ]; rfl
      rw [← hτ]
      refine r_aload_n hc dX6_subgroup_31 rfl 0 rfl ?_
      refine r_dup hc dX6_subgroup_32 rfl ?_
      refine r_get hc inlX6 0 rfl rfl 4 (by decide) fl_X6_55 rfl rfl dX6_subgroup_33 ?_
      refine r_iconst (v := (nI 1)) hc dX6_subgroup_36 rfl ?_
      refine n_add hc dX6_subgroup_37 ?_
      refine r_put (ws' := wY cI cZ g gL gS gW gT gO gP gU gA gE gQ (rN τ) (rLe τ) (rSz τ) (rRe τ) ((rSu τ) + 1) (rMd τ) (rNw τ) (rTb τ) (rCh τ) (rPr τ) (rOn τ) (rTw τ) (rNu τ) (rNa τ) (rNd τ) (rSe τ) (rLo τ)) hc inlX6 tyX6 tyX6_ok nmX6 0 rfl rfl 4 (by decide) fl_X6_55 rfl rfl rfl rfl (Nat.le_of_ble_eq_true rfl) rfl dX6_subgroup_38 ?_
      refine r_aload_n hc dX6_subgroup_41 rfl 0 rfl ?_
      refine r_get hc inlX6 0 rfl rfl 4 (by decide) fl_X6_55 rfl rfl dX6_subgroup_42 ?_
      rw [← hQ]
      exact r_iret hc hr hlk (rN τ, rLe τ, rSz τ, rRe τ, (rSu τ) + 1, rMd τ, rNw τ, rTb τ, rCh τ, rPr τ, rOn τ, rTw τ, rNu τ, rNa τ, rNd τ, rSe τ, rLo τ) ⟨by rw [h2τ], by rw [hτ]; rfl⟩ rfl dX6_subgroup_45
    · exact absurd h3 (by omega)
set_option maxHeartbeats 4000000 in
set_option maxRecDepth 100000 in
/-- reference: relator, refused -/
theorem m_relator_bad (l : Launch) (D : va_G) (cI cZ cW : ClassId) (g gL gS gW gT gO gP gU gA gE gQ : Nat) (ρ : RS) (hbad : rSz ρ 15 = 0 ∨ rRe ρ = 10) (hB : BR ρ) : CtI l yX6_relator cX6_relator 1 (some .int) 2 43 0 0 D cI cZ cW [.ref g] ([]) (wR cI cZ g gL gS gW gT gO gP gU gA gE gQ ρ) (S := Unit) (fun r _ => r = -1) (fun _ => []) := by
  refine CtI.mk (by decide) (Nat.le_of_ble_eq_true rfl) ?_
  intro p e s m args below meth c A hc hr hlk hnm hro
  generalize hQ : MQ below _ args s 0 0 A = Q
  have hB0 := hB
  obtain ⟨bn, bLe, bSz, bRe, bSu, bMd, bNw, bTb, bPr, bOn, bTw, bNu, bNa, bNd, bLo⟩ := hB
  show V p l e (RM 2 43 0 0) s m args below meth c D A 1 0 0 Q ([]) 0 [(0, .ref g)] []
  refine r_aload_n hc dX6_relator_0 rfl 0 rfl ?_
  refine r_getR hc inlX6 (hro _ (List.mem_of_getElem? (i := 0) rfl)) rfl 2 (by decide) fl_X6_13 rfl rfl dX6_relator_1 ?_
  refine r_bipush (v := (nI 15)) hc dX6_relator_4 rfl ?_
  have b1 := bSz 15
  refine r_ialdR hc nI (hro _ (List.mem_of_getElem? (i := 2) rfl)) (by omega) (by decide) dX6_relator_6 ?_
  refine n_if_eq hc 19 dX6_relator_7 (by decide) (by omega) (fun h2 => ?_) (fun h2 => ?_)
  · refine r_iconst (v := (-1)) hc dX6_relator_19 rfl ?_
    rw [← hQ]
    exact r_iret hc hr hlk () (rfl) rfl dX6_relator_20
  · refine r_aload_n hc dX6_relator_10 rfl 0 rfl ?_
    refine r_getR hc inlX6 (hro _ (List.mem_of_getElem? (i := 0) rfl)) rfl 3 (by decide) fl_X6_52 rfl rfl dX6_relator_11 ?_
    refine r_bipush (v := (nI 10)) hc dX6_relator_14 rfl ?_
    refine n_icmp_ne hc 21 dX6_relator_16 (by decide) (by omega) (by omega) (fun h3 => ?_) (fun h3 => ?_)
    · exact absurd hbad (by omega)
    · refine r_iconst (v := (-1)) hc dX6_relator_19 rfl ?_
      rw [← hQ]
      exact r_iret hc hr hlk () (rfl) rfl dX6_relator_20
set_option maxHeartbeats 4000000 in
set_option maxRecDepth 100000 in
/-- reference: subgroup, refused -/
theorem m_subgroup_bad (l : Launch) (D : va_G) (cI cZ cW : ClassId) (g gL gS gW gT gO gP gU gA gE gQ : Nat) (ρ : RS) (hbad : rSz ρ 15 = 0 ∨ rSu ρ = 5) (hB : BR ρ) : CtI l yX6_subgroup cX6_subgroup 1 (some .int) 2 43 0 0 D cI cZ cW [.ref g] ([]) (wR cI cZ g gL gS gW gT gO gP gU gA gE gQ ρ) (S := Unit) (fun r _ => r = -1) (fun _ => []) := by
  refine CtI.mk (by decide) (Nat.le_of_ble_eq_true rfl) ?_
  intro p e s m args below meth c A hc hr hlk hnm hro
  generalize hQ : MQ below _ args s 0 0 A = Q
  have hB0 := hB
  obtain ⟨bn, bLe, bSz, bRe, bSu, bMd, bNw, bTb, bPr, bOn, bTw, bNu, bNa, bNd, bLo⟩ := hB
  show V p l e (RM 2 43 0 0) s m args below meth c D A 1 0 0 Q ([]) 0 [(0, .ref g)] []
  refine r_aload_n hc dX6_subgroup_0 rfl 0 rfl ?_
  refine r_getR hc inlX6 (hro _ (List.mem_of_getElem? (i := 0) rfl)) rfl 2 (by decide) fl_X6_13 rfl rfl dX6_subgroup_1 ?_
  refine r_bipush (v := (nI 15)) hc dX6_subgroup_4 rfl ?_
  have b1 := bSz 15
  refine r_ialdR hc nI (hro _ (List.mem_of_getElem? (i := 2) rfl)) (by omega) (by decide) dX6_subgroup_6 ?_
  refine n_if_eq hc 18 dX6_subgroup_7 (by decide) (by omega) (fun h2 => ?_) (fun h2 => ?_)
  · refine r_iconst (v := (-1)) hc dX6_subgroup_18 rfl ?_
    rw [← hQ]
    exact r_iret hc hr hlk () (rfl) rfl dX6_subgroup_19
  · refine r_aload_n hc dX6_subgroup_10 rfl 0 rfl ?_
    refine r_getR hc inlX6 (hro _ (List.mem_of_getElem? (i := 0) rfl)) rfl 4 (by decide) fl_X6_55 rfl rfl dX6_subgroup_11 ?_
    refine r_iconst (v := (nI 5)) hc dX6_subgroup_14 rfl ?_
    refine n_icmp_ne hc 20 dX6_subgroup_15 (by decide) (by omega) (by omega) (fun h3 => ?_) (fun h3 => ?_)
    · exact absurd hbad (by omega)
    · refine r_iconst (v := (-1)) hc dX6_subgroup_18 rfl ?_
      rw [← hQ]
      exact r_iret hc hr hlk () (rfl) rfl dX6_subgroup_19
