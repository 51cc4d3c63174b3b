set_option maxHeartbeats 4000000 in
set_option maxRecDepth 100000 in
/-- cycles(fx) -/
theorem c_cycles (l : Launch) (D : va_G) (cI cZ cW : ClassId) (hx hh hr1 hs1 h hi ha n : Nat) (ah : Nat) (hcol : Nat → Nat) (hlen : Nat) (aE aL aF aR aS : Nat) (σ : CS) (aU aN aT aG : Nat) (α : AS) (fx : Bool) (hz : 0 < tZ α) (hl24 : hlen ≤ 24) (hcol6 : ∀ j, hcol j < 6) (f : Nat → Nat) (hf : ImF (sE σ) (tU α) (tN α) (tZ α) hcol hlen f) (hBA : BA α) : CtI l yX5_cycles cX5_cycles 2 (some .int) 4 95 0 0 D cI cZ cW [.ref hx, .int (zI fx)] (wA cI cZ ha h hs1 aU aN aT aG α) (wT0 hx hh hr1 hs1 h hi ha n ++ (wW cI hh ah hcol hlen ++ wS cI cZ h aE aL aF aR aS σ)) (S := AS) (fun r u => r = nI (ccI f (tZ α) fx (frgI (tS α) (tZ α)) (tZ α)).2 ∧ ∃ se, u = (tU α, tN α, se, tR α, tZ α)) (fun u => wA cI cZ ha h hs1 aU aN aT aG u) := by
  refine CtI.mk (by decide) (Nat.le_of_ble_eq_true rfl) ?_
  intro p e s m args below meth c A hc hr hlk hnm hro
  generalize hQ : MQ below _ args s 0 0 A = Q
  show V p l e (RM 4 95 0 0) s m args below meth c D A 2 0 0 Q (wA cI cZ ha h hs1 aU aN aT aG α) 0 [(0, .ref hx), (1, .int (zI fx))] []
  refine r_aload_n hc dX5_cycles_0 rfl 0 rfl ?_
  refine r_getR hc inlX5 (hro _ (List.mem_of_getElem? (i := 0) rfl)) rfl 5 (by decide) fl_X5_49 rfl rfl dX5_cycles_1 ?_
  refine r_callI (As := []) (n := 0) (wr := wA cI cZ ha h hs1 aU aN aT aG α) hc (c_isReady l D cI cZ cW ha h hs1 aU aN aT aG α hBA) co_yX0_isReady in_X0 ml_X5_104 (by decide +kernel) rfl ⟨by decide, by decide⟩ ⟨by decide, by decide⟩ im_yX0_isReady se_yX0_isReady rfl (Or.inl ⟨0, _, rfl⟩) rfl (Nat.le_of_ble_eq_true rfl) [] [0, 1, 2, 3, 4] rfl rfl rfl rfl (by decide) (fun q hq => Or.inl ((List.getElem?_of_mem hq).elim fun k hk => ⟨k, hk, List.not_mem_nil⟩)) dX5_cycles_4 (fun r1 u2 e3 => ?_)
  subst e3
  refine z_if_eq hc 25 dX5_cycles_7 (by decide) (fun h4 => ?_) (fun h4 => ?_)
  · simp at h4; omega
  · refine r_aload_n hc dX5_cycles_10 rfl 0 rfl ?_
    refine r_getR hc inlX5 (hro _ (List.mem_of_getElem? (i := 0) rfl)) rfl 5 (by decide) fl_X5_49 rfl rfl dX5_cycles_11 ?_
    refine r_aload_n hc dX5_cycles_14 rfl 0 rfl ?_
    refine r_getR hc inlX5 (hro _ (List.mem_of_getElem? (i := 0) rfl)) rfl 0 (by decide) fl_X5_12 rfl rfl dX5_cycles_15 ?_
    refine r_iload_n hc dX5_cycles_18 rfl 1 rfl ?_
    refine r_callI (As := [.ref hh, .int (zI fx)]) (n := 2) (wr := []) hc (c_countCycles l D cI cZ cW ha h hs1 aU aN aT aG α aE aL aF aR aS σ hh ah hcol hlen fx hl24 hcol6 f hf hBA) co_yX0_countCycles in_X0 ml_X5_129 (by decide +kernel) rfl ⟨by decide, by decide⟩ ⟨by decide, by decide⟩ im_yX0_countCycles se_yX0_countCycles rfl (Or.inl ⟨0, _, rfl⟩) rfl (Nat.le_of_ble_eq_true rfl) [0, 1, 2, 3, 4] [] rfl rfl rfl rfl (by decide) (fun q hq => Or.inr (hro q ((List.mem_append.mp hq).elim (fun hq => List.mem_append_right _ (List.mem_append_right _ (hq))) (fun hq => List.mem_append_right _ (List.mem_append_left _ hq))))) dX5_cycles_19 (fun r u e5 => ?_)
    show V p l e (RM 4 95 0 0) s m args below meth c D A 2 0 0 Q (wA cI cZ ha h hs1 aU aN aT aG u) 22 [(0, .ref hx), (1, .int (zI fx))] [.int r]
    refine r_goto hc 26 dX5_cycles_22 (by decide) ?_
    rw [← hQ]
    exact r_iret hc hr hlk u e5 rfl dX5_cycles_26
set_option maxHeartbeats 4000000 in
set_option maxRecDepth 100000 in
/-- order() -/
theorem c_order (l : Launch) (D : va_G) (cI cZ cW : ClassId) (hx hh hr1 hs1 h hi ha n : Nat) (ah : Nat) (hcol : Nat → Nat) (hlen : Nat) (aE aL aF aR aS : Nat) (σ : CS) (aU aN aT aG : Nat) (α : AS) (hz : 0 < tZ α) (hl24 : hlen ≤ 24) (hcol6 : ∀ j, hcol j < 6) (f : Nat → Nat) (hf : ImF (sE σ) (tU α) (tN α) (tZ α) hcol hlen f) (hBA : BA α) : CtL l yX5_order cX5_order 1 (some .long) 4 95 0 0 D cI cZ cW [.ref hx] (wA cI cZ ha h hs1 aU aN aT aG α) (wT0 hx hh hr1 hs1 h hi ha n ++ (wW cI hh ah hcol hlen ++ wS cI cZ h aE aL aF aR aS σ)) (S := AS) (fun r u => r = (ooI f (tZ α) (frgI (tS α) (tZ α)) (tZ α)).2 ∧ ∃ se, u = (tU α, tN α, se, tR α, tZ α)) (fun u => wA cI cZ ha h hs1 aU aN aT aG u) := by
  refine CtL.mk (by decide) (Nat.le_of_ble_eq_true rfl) ?_
  intro p e s m args below meth c A hc hr hlk hnm hro
  generalize hQ : MQ below _ args s 0 0 A = Q
  show V p l e (RM 4 95 0 0) s m args below meth c D A 1 0 0 Q (wA cI cZ ha h hs1 aU aN aT aG α) 0 [(0, .ref hx)] []
  refine r_aload_n hc dX5_order_0 rfl 0 rfl ?_
  refine r_getR hc inlX5 (hro _ (List.mem_of_getElem? (i := 0) rfl)) rfl 5 (by decide) fl_X5_49 rfl rfl dX5_order_1 ?_
  refine r_callI (As := []) (n := 0) (wr := wA cI cZ ha h hs1 aU aN aT aG α) hc (c_isReady l D cI cZ cW ha h hs1 aU aN aT aG α hBA) co_yX0_isReady in_X0 ml_X5_104 (by decide +kernel) rfl ⟨by decide, by decide⟩ ⟨by decide, by decide⟩ im_yX0_isReady se_yX0_isReady rfl (Or.inl ⟨0, _, rfl⟩) rfl (Nat.le_of_ble_eq_true rfl) [] [0, 1, 2, 3, 4] rfl rfl rfl rfl (by decide) (fun q hq => Or.inl ((List.getElem?_of_mem hq).elim fun k hk => ⟨k, hk, List.not_mem_nil⟩)) dX5_order_4 (fun r1 u2 e3 => ?_)
  subst e3
  refine z_if_eq hc 24 dX5_order_7 (by decide) (fun h4 => ?_) (fun h4 => ?_)
  · simp at h4; omega
  · refine r_aload_n hc dX5_order_10 rfl 0 rfl ?_
    refine r_getR hc inlX5 (hro _ (List.mem_of_getElem? (i := 0) rfl)) rfl 5 (by decide) fl_X5_49 rfl rfl dX5_order_11 ?_
    refine r_aload_n hc dX5_order_14 rfl 0 rfl ?_
    refine r_getR hc inlX5 (hro _ (List.mem_of_getElem? (i := 0) rfl)) rfl 0 (by decide) fl_X5_12 rfl rfl dX5_order_15 ?_
    refine r_callL (As := [.ref hh]) (n := 1) (wr := []) hc (c_orderOf l D cI cZ cW ha h hs1 aU aN aT aG α aE aL aF aR aS σ hh ah hcol hlen hl24 hcol6 f hf hBA) co_yX0_orderOf in_X0 ml_X5_133 (by decide +kernel) rfl ⟨by decide, by decide⟩ ⟨by decide, by decide⟩ im_yX0_orderOf se_yX0_orderOf rfl (Or.inl ⟨0, _, rfl⟩) rfl (Nat.le_of_ble_eq_true rfl) [0, 1, 2, 3, 4] [] rfl rfl rfl rfl (by decide) (fun q hq => Or.inr (hro q ((List.mem_append.mp hq).elim (fun hq => List.mem_append_right _ (List.mem_append_right _ (hq))) (fun hq => List.mem_append_right _ (List.mem_append_left _ hq))))) dX5_order_18 (fun r u e5 => ?_)
    show V p l e (RM 4 95 0 0) s m args below meth c D A 1 0 0 Q (wA cI cZ ha h hs1 aU aN aT aG u) 21 [(0, .ref hx)] [.long r]
    refine r_goto hc 27 dX5_order_21 (by decide) ?_
    rw [← hQ]
    exact r_lret hc hr hlk u e5 rfl dX5_order_27
set_option maxHeartbeats 4000000 in
set_option maxRecDepth 100000 in
/-- cycles, refused -/
theorem c_cycles_bad (l : Launch) (D : va_G) (cI cZ cW : ClassId) (hx hh hr1 hs1 h hi ha n : Nat) (ah : Nat) (hcol : Nat → Nat) (hlen : Nat) (ar : Nat) (rwa rca : Nat → Nat) (rcol : Nat → Nat → Nat) (rlen : Nat → Nat) (nr : Nat) (as : Nat) (swa sca : Nat → Nat) (scol : Nat → Nat → Nat) (slen : Nat → Nat) (ns : Nat) (aE aL aF aR aS : Nat) (σ : CS) (aU aN aT aG : Nat) (α : AS) (fx : Bool) (hz : tZ α = 0) (hBA : BA α) : CtI l yX5_cycles cX5_cycles 2 (some .int) 4 95 0 0 D cI cZ cW [.ref hx, .int (zI fx)] ([]) (wT0 hx hh hr1 hs1 h hi ha n ++ (wW cI hh ah hcol hlen ++ (wL cI cW hr1 ar 10 rwa rca rcol rlen nr ++ (wL cI cW hs1 as 5 swa sca scol slen ns ++ (wS cI cZ h aE aL aF aR aS σ ++ (wA cI cZ ha h hs1 aU aN aT aG α)))))) (S := Unit) (fun r _ => r = -1) (fun _ => []) := by
  refine CtI.mk (by decide) (Nat.le_of_ble_eq_true rfl) ?_
  intro p e s m args below meth c A hc hr hlk hnm hro
  generalize hQ : MQ below _ args s 0 0 A = Q
  show V p l e (RM 4 95 0 0) s m args below meth c D A 2 0 0 Q ([]) 0 [(0, .ref hx), (1, .int (zI fx))] []
  refine r_aload_n hc dX5_cycles_0 rfl 0 rfl ?_
  refine r_getR hc inlX5 (hro _ (List.mem_of_getElem? (i := 0) rfl)) rfl 5 (by decide) fl_X5_49 rfl rfl dX5_cycles_1 ?_
  refine r_callI (As := []) (n := 0) (wr := []) hc (c_isReady l D cI cZ cW ha h hs1 aU aN aT aG α hBA) co_yX0_isReady in_X0 ml_X5_104 (by decide +kernel) rfl ⟨by decide, by decide⟩ ⟨by decide, by decide⟩ im_yX0_isReady se_yX0_isReady rfl (Or.inr ⟨_, (hro _ (List.mem_of_getElem? (i := 43) rfl))⟩) rfl (Nat.le_of_ble_eq_true rfl) [] [] rfl rfl rfl rfl (by decide) (fun q hq => Or.inr (hro q (List.mem_append_right _ (List.mem_append_right _ (List.mem_append_right _ (List.mem_append_right _ (List.mem_append_right _ (hq)))))))) dX5_cycles_4 (fun r1 u2 e3 => ?_)
  subst e3
  refine z_if_eq hc 25 dX5_cycles_7 (by decide) (fun h4 => ?_) (fun h4 => ?_)
  · refine r_iconst (v := (-1)) hc dX5_cycles_25 rfl ?_
    rw [← hQ]
    exact r_iret hc hr hlk () (rfl) rfl dX5_cycles_26
  · simp at h4; omega
set_option maxHeartbeats 4000000 in
set_option maxRecDepth 100000 in
/-- order, refused -/
theorem c_order_bad (l : Launch) (D : va_G) (cI cZ cW : ClassId) (hx hh hr1 hs1 h hi ha n : Nat) (ah : Nat) (hcol : Nat → Nat) (hlen : Nat) (ar : Nat) (rwa rca : Nat → Nat) (rcol : Nat → Nat → Nat) (rlen : Nat → Nat) (nr : Nat) (as : Nat) (swa sca : Nat → Nat) (scol : Nat → Nat → Nat) (slen : Nat → Nat) (ns : Nat) (aE aL aF aR aS : Nat) (σ : CS) (aU aN aT aG : Nat) (α : AS) (hz : tZ α = 0) (hBA : BA α) : CtL l yX5_order cX5_order 1 (some .long) 4 95 0 0 D cI cZ cW [.ref hx] ([]) (wT0 hx hh hr1 hs1 h hi ha n ++ (wW cI hh ah hcol hlen ++ (wL cI cW hr1 ar 10 rwa rca rcol rlen nr ++ (wL cI cW hs1 as 5 swa sca scol slen ns ++ (wS cI cZ h aE aL aF aR aS σ ++ (wA cI cZ ha h hs1 aU aN aT aG α)))))) (S := Unit) (fun r _ => r = -1) (fun _ => []) := by
  refine CtL.mk (by decide) (Nat.le_of_ble_eq_true rfl) ?_
  intro p e s m args below meth c A hc hr hlk hnm hro
  generalize hQ : MQ below _ args s 0 0 A = Q
  show V p l e (RM 4 95 0 0) s m args below meth c D A 1 0 0 Q ([]) 0 [(0, .ref hx)] []
  refine r_aload_n hc dX5_order_0 rfl 0 rfl ?_
  refine r_getR hc inlX5 (hro _ (List.mem_of_getElem? (i := 0) rfl)) rfl 5 (by decide) fl_X5_49 rfl rfl dX5_order_1 ?_
  refine r_callI (As := []) (n := 0) (wr := []) hc (c_isReady l D cI cZ cW ha h hs1 aU aN aT aG α hBA) co_yX0_isReady in_X0 ml_X5_104 (by decide +kernel) rfl ⟨by decide, by decide⟩ ⟨by decide, by decide⟩ im_yX0_isReady se_yX0_isReady rfl (Or.inr ⟨_, (hro _ (List.mem_of_getElem? (i := 43) rfl))⟩) rfl (Nat.le_of_ble_eq_true rfl) [] [] rfl rfl rfl rfl (by decide) (fun q hq => Or.inr (hro q (List.mem_append_right _ (List.mem_append_right _ (List.mem_append_right _ (List.mem_append_right _ (List.mem_append_right _ (hq)))))))) dX5_order_4 (fun r1 u2 e3 => ?_)
  subst e3
  refine z_if_eq hc 24 dX5_order_7 (by decide) (fun h4 => ?_) (fun h4 => ?_)
  · refine r_ldc2 hc cn_X5_137 dX5_order_24 ?_
    rw [← hQ]
    exact r_lret hc hr hlk () (rfl) rfl dX5_order_27
  · simp at h4; omega
set_option maxHeartbeats 4000000 in
set_option maxRecDepth 100000 in
/-- resting() -/
theorem c_resting (l : Launch) (D : va_G) (cI cZ cW : ClassId) (hx hh hr1 hs1 h hi ha n : Nat) (ah : Nat) (hcol : Nat → Nat) (hlen : Nat) (ar : Nat) (rwa rca : Nat → Nat) (rcol : Nat → Nat → Nat) (rlen : Nat → Nat) (nr : Nat) (as : Nat) (swa sca : Nat → Nat) (scol : Nat → Nat → Nat) (slen : Nat → Nat) (ns : Nat) (aE aL aF aR aS : Nat) (σ : CS) (aU aN aT aG : Nat) (α : AS) (hz : 0 < tZ α) (hsl : ∀ i, i < ns → 1 ≤ slen i ∧ slen i ≤ 24 ∧ ∀ j, scol i j < 6) (hns : ns ≤ 5) (fs : Nat → Nat → Nat) (hfs : ∀ i, i < ns → ImF (sE σ) (tU α) (tN α) (tZ α) (scol i) (slen i) (fs i)) (hBA : BA α) : CtI l yX5_resting cX5_resting 1 (some .int) 4 90 0 0 D cI cZ cW [.ref hx] ([]) (wT0 hx hh hr1 hs1 h hi ha n ++ (wW cI hh ah hcol hlen ++ (wL cI cW hr1 ar 10 rwa rca rcol rlen nr ++ (wL cI cW hs1 as 5 swa sca scol slen ns ++ (wS cI cZ h aE aL aF aR aS σ ++ (wA cI cZ ha h hs1 aU aN aT aG α)))))) (S := Unit) (fun r _ => r = nI (crI fs ns (tZ α))) (fun _ => []) := by
  refine CtI.mk (by decide) (Nat.le_of_ble_eq_true rfl) ?_
  intro p e s m args below meth c A hc hr hlk hnm hro
  generalize hQ : MQ below _ args s 0 0 A = Q
  show V p l e (RM 4 90 0 0) s m args below meth c D A 1 0 0 Q ([]) 0 [(0, .ref hx)] []
  refine r_aload_n hc dX5_resting_0 rfl 0 rfl ?_
  refine r_getR hc inlX5 (hro _ (List.mem_of_getElem? (i := 0) rfl)) rfl 5 (by decide) fl_X5_49 rfl rfl dX5_resting_1 ?_
  refine r_callI (As := []) (n := 0) (wr := []) hc (c_isReady l D cI cZ cW ha h hs1 aU aN aT aG α hBA) co_yX0_isReady in_X0 ml_X5_104 (by decide +kernel) rfl ⟨by decide, by decide⟩ ⟨by decide, by decide⟩ im_yX0_isReady se_yX0_isReady rfl (Or.inr ⟨_, (hro _ (List.mem_of_getElem? (i := 43) rfl))⟩) rfl (Nat.le_of_ble_eq_true rfl) [] [] rfl rfl rfl rfl (by decide) (fun q hq => Or.inr (hro q (List.mem_append_right _ (List.mem_append_right _ (List.mem_append_right _ (List.mem_append_right _ (List.mem_append_right _ (hq)))))))) dX5_resting_4 (fun r1 u2 e3 => ?_)
  subst e3
  refine z_if_eq hc 20 dX5_resting_7 (by decide) (fun h4 => ?_) (fun h4 => ?_)
  · simp at h4; omega
  · refine r_aload_n hc dX5_resting_10 rfl 0 rfl ?_
    refine r_getR hc inlX5 (hro _ (List.mem_of_getElem? (i := 0) rfl)) rfl 5 (by decide) fl_X5_49 rfl rfl dX5_resting_11 ?_
    refine r_callI (As := []) (n := 0) (wr := []) hc (c_countResting l D cI cZ cW ha h hs1 aU aN aT aG α aE aL aF aR aS σ as swa sca scol slen ns hsl hns fs hfs hBA) co_yX0_countResting in_X0 ml_X5_139 (by decide +kernel) rfl ⟨by decide, by decide⟩ ⟨by decide, by decide⟩ im_yX0_countResting se_yX0_countResting rfl (Or.inr ⟨_, (hro _ (List.mem_of_getElem? (i := 43) rfl))⟩) rfl (Nat.le_of_ble_eq_true rfl) [] [] rfl rfl rfl rfl (by decide) (fun q hq => Or.inr (hro q ((List.mem_append.mp hq).elim (fun hq => List.mem_append_right _ (List.mem_append_right _ (List.mem_append_right _ (List.mem_append_right _ (List.mem_append_right _ (hq)))))) (fun hq => (List.mem_append.mp hq).elim (fun hq => List.mem_append_right _ (List.mem_append_right _ (List.mem_append_right _ (List.mem_append_right _ (List.mem_append_left _ hq))))) (fun hq => List.mem_append_right _ (List.mem_append_right _ (List.mem_append_right _ (List.mem_append_left _ hq)))))))) dX5_resting_14 (fun r5 u6 e7 => ?_)
    subst e7
    show V p l e (RM 4 90 0 0) s m args below meth c D A 1 0 0 Q ([]) 17 [(0, .ref hx)] [.int (nI (crI fs ns (tZ α)))]
    refine r_goto hc 21 dX5_resting_17 (by decide) ?_
    rw [← hQ]
    exact r_iret hc hr hlk () (rfl) rfl dX5_resting_21
set_option maxHeartbeats 4000000 in
set_option maxRecDepth 100000 in
/-- resting, refused -/
theorem c_resting_bad (l : Launch) (D : va_G) (cI cZ cW : ClassId) (hx hh hr1 hs1 h hi ha n : Nat) (ah : Nat) (hcol : Nat → Nat) (hlen : Nat) (ar : Nat) (rwa rca : Nat → Nat) (rcol : Nat → Nat → Nat) (rlen : Nat → Nat) (nr : Nat) (as : Nat) (swa sca : Nat → Nat) (scol : Nat → Nat → Nat) (slen : Nat → Nat) (ns : Nat) (aE aL aF aR aS : Nat) (σ : CS) (aU aN aT aG : Nat) (α : AS) (hz : tZ α = 0) (hBA : BA α) : CtI l yX5_resting cX5_resting 1 (some .int) 4 90 0 0 D cI cZ cW [.ref hx] ([]) (wT0 hx hh hr1 hs1 h hi ha n ++ (wW cI hh ah hcol hlen ++ (wL cI cW hr1 ar 10 rwa rca rcol rlen nr ++ (wL cI cW hs1 as 5 swa sca scol slen ns ++ (wS cI cZ h aE aL aF aR aS σ ++ (wA cI cZ ha h hs1 aU aN aT aG α)))))) (S := Unit) (fun r _ => r = -1) (fun _ => []) := by
  refine CtI.mk (by decide) (Nat.le_of_ble_eq_true rfl) ?_
  intro p e s m args below meth c A hc hr hlk hnm hro
  generalize hQ : MQ below _ args s 0 0 A = Q
  show V p l e (RM 4 90 0 0) s m args below meth c D A 1 0 0 Q ([]) 0 [(0, .ref hx)] []
  refine r_aload_n hc dX5_resting_0 rfl 0 rfl ?_
  refine r_getR hc inlX5 (hro _ (List.mem_of_getElem? (i := 0) rfl)) rfl 5 (by decide) fl_X5_49 rfl rfl dX5_resting_1 ?_
  refine r_callI (As := []) (n := 0) (wr := []) hc (c_isReady l D cI cZ cW ha h hs1 aU aN aT aG α hBA) co_yX0_isReady in_X0 ml_X5_104 (by decide +kernel) rfl ⟨by decide, by decide⟩ ⟨by decide, by decide⟩ im_yX0_isReady se_yX0_isReady rfl (Or.inr ⟨_, (hro _ (List.mem_of_getElem? (i := 43) rfl))⟩) rfl (Nat.le_of_ble_eq_true rfl) [] [] rfl rfl rfl rfl (by decide) (fun q hq => Or.inr (hro q (List.mem_append_right _ (List.mem_append_right _ (List.mem_append_right _ (List.mem_append_right _ (List.mem_append_right _ (hq)))))))) dX5_resting_4 (fun r1 u2 e3 => ?_)
  subst e3
  refine z_if_eq hc 20 dX5_resting_7 (by decide) (fun h4 => ?_) (fun h4 => ?_)
  · refine r_iconst (v := (-1)) hc dX5_resting_20 rfl ?_
    rw [← hQ]
    exact r_iret hc hr hlk () (rfl) rfl dX5_resting_21
  · simp at h4; omega
set_option maxHeartbeats 4000000 in
set_option maxRecDepth 100000 in
/-- orbit(k) -/
theorem c_orbit (l : Launch) (D : va_G) (cI cZ cW : ClassId) (hx hh hr1 hs1 h hi ha n : Nat) (as : Nat) (swa sca : Nat → Nat) (scol : Nat → Nat → Nat) (slen : Nat → Nat) (ns : Nat) (aE aL aF aR aS : Nat) (σ : CS) (aU aN aT aG : Nat) (α : AS) (k : Nat) (hk : k < tZ α) (hsl : ∀ i, i < ns → 1 ≤ slen i ∧ slen i ≤ 24 ∧ ∀ j, scol i j < 6) (hns : ns ≤ 5) (fs : Nat → Nat → Nat) (hfs : ∀ i, i < ns → ImF (sE σ) (tU α) (tN α) (tZ α) (scol i) (slen i) (fs i)) (hBA : BA α) : CtI l yX5_orbit cX5_orbit 2 (some .int) 3 72 0 0 D cI cZ cW [.ref hx, .int (nI k)] (wA cI cZ ha h hs1 aU aN aT aG α) (wT0 hx hh hr1 hs1 h hi ha n ++ (wS cI cZ h aE aL aF aR aS σ ++ wL cI cW hs1 as 5 swa sca scol slen ns)) (S := AS) (fun r u => (∃ low, r = nI low ∧ LowR fs (tZ α) ns k low) ∧ ∃ se re, u = (tU α, tN α, se, re, tZ α) ∧ ∀ j, re j < 200) (fun u => wA cI cZ ha h hs1 aU aN aT aG u) := by
  refine CtI.mk (by decide) (Nat.le_of_ble_eq_true rfl) ?_
  intro p e s m args below meth c A hc hr hlk hnm hro
  generalize hQ : MQ below _ args s 0 0 A = Q
  have bZ := hBA.1
  show V p l e (RM 3 72 0 0) s m args below meth c D A 2 0 0 Q (wA cI cZ ha h hs1 aU aN aT aG α) 0 [(0, .ref hx), (1, .int (nI k))] []
  refine r_aload_n hc dX5_orbit_0 rfl 0 rfl ?_
  refine r_getR hc inlX5 (hro _ (List.mem_of_getElem? (i := 0) rfl)) rfl 5 (by decide) fl_X5_49 rfl rfl dX5_orbit_1 ?_
  refine r_iload_n hc dX5_orbit_4 rfl 1 rfl ?_
  refine r_callI (As := [.int (nI k)]) (n := 1) (wr := wA cI cZ ha h hs1 aU aN aT aG α) hc (c_hasNumber l D cI cZ cW ha h hs1 aU aN aT aG α (nI k) hBA) co_yX0_hasNumber in_X0 ml_X5_119 (by decide +kernel) rfl ⟨by decide, by decide⟩ ⟨by decide, by decide⟩ im_yX0_hasNumber se_yX0_hasNumber rfl (Or.inl ⟨0, _, rfl⟩) rfl (Nat.le_of_ble_eq_true rfl) [] [0, 1, 2, 3, 4] rfl rfl rfl rfl (by decide) (fun q hq => Or.inl ((List.getElem?_of_mem hq).elim fun k hk => ⟨k, hk, List.not_mem_nil⟩)) dX5_orbit_5 (fun r1 u2 e3 => ?_)
  subst e3
  rw [inN_n (by omega)]
  refine z_if_eq hc 22 dX5_orbit_8 (by decide) (fun h4 => ?_) (fun h4 => ?_)
  · simp at h4; omega
  · refine r_aload_n hc dX5_orbit_11 rfl 0 rfl ?_
    refine r_getR hc inlX5 (hro _ (List.mem_of_getElem? (i := 0) rfl)) rfl 5 (by decide) fl_X5_49 rfl rfl dX5_orbit_12 ?_
    refine r_iload_n hc dX5_orbit_15 rfl 1 rfl ?_
    refine r_callI (As := [.int (nI k)]) (n := 1) (wr := []) hc (c_lowestJoined l D cI cZ cW ha h hs1 aU aN aT aG α aE aL aF aR aS σ as swa sca scol slen ns k hk hsl hns fs hfs hBA) co_yX0_lowestJoined in_X0 ml_X5_142 (by decide +kernel) rfl ⟨by decide, by decide⟩ ⟨by decide, by decide⟩ im_yX0_lowestJoined se_yX0_lowestJoined rfl (Or.inl ⟨0, _, rfl⟩) rfl (Nat.le_of_ble_eq_true rfl) [0, 1, 2, 3, 4] [] rfl rfl rfl rfl (by decide) (fun q hq => Or.inr (hro q (List.mem_append_right _ hq))) dX5_orbit_16 (fun r u e5 => ?_)
    show V p l e (RM 3 72 0 0) s m args below meth c D A 2 0 0 Q (wA cI cZ ha h hs1 aU aN aT aG u) 19 [(0, .ref hx), (1, .int (nI k))] [.int r]
    refine r_goto hc 23 dX5_orbit_19 (by decide) ?_
    rw [← hQ]
    exact r_iret hc hr hlk u e5 rfl dX5_orbit_23
set_option maxHeartbeats 4000000 in
set_option maxRecDepth 100000 in
/-- orbit, refused -/
theorem c_orbit_bad (l : Launch) (D : va_G) (cI cZ cW : ClassId) (hx hh hr1 hs1 h hi ha n : Nat) (ah : Nat) (hcol : Nat → Nat) (hlen : Nat) (ar : Nat) (rwa rca : Nat → Nat) (rcol : Nat → Nat → Nat) (rlen : Nat → Nat) (nr : Nat) (as : Nat) (swa sca : Nat → Nat) (scol : Nat → Nat → Nat) (slen : Nat → Nat) (ns : Nat) (aE aL aF aR aS : Nat) (σ : CS) (aU aN aT aG : Nat) (α : AS) (v : Int32) (hbad : inN (tZ α) v = false) (hBA : BA α) : CtI l yX5_orbit cX5_orbit 2 (some .int) 3 72 0 0 D cI cZ cW [.ref hx, .int v] ([]) (wT0 hx hh hr1 hs1 h hi ha n ++ (wW cI hh ah hcol hlen ++ (wL cI cW hr1 ar 10 rwa rca rcol rlen nr ++ (wL cI cW hs1 as 5 swa sca scol slen ns ++ (wS cI cZ h aE aL aF aR aS σ ++ (wA cI cZ ha h hs1 aU aN aT aG α)))))) (S := Unit) (fun r _ => r = -1) (fun _ => []) := by
  refine CtI.mk (by decide) (Nat.le_of_ble_eq_true rfl) ?_
  intro p e s m args below meth c A hc hr hlk hnm hro
  generalize hQ : MQ below _ args s 0 0 A = Q
  show V p l e (RM 3 72 0 0) s m args below meth c D A 2 0 0 Q ([]) 0 [(0, .ref hx), (1, .int v)] []
  refine r_aload_n hc dX5_orbit_0 rfl 0 rfl ?_
  refine r_getR hc inlX5 (hro _ (List.mem_of_getElem? (i := 0) rfl)) rfl 5 (by decide) fl_X5_49 rfl rfl dX5_orbit_1 ?_
  refine r_iload_n hc dX5_orbit_4 rfl 1 rfl ?_
  refine r_callI (As := [.int v]) (n := 1) (wr := []) hc (c_hasNumber l D cI cZ cW ha h hs1 aU aN aT aG α v hBA) co_yX0_hasNumber in_X0 ml_X5_119 (by decide +kernel) rfl ⟨by decide, by decide⟩ ⟨by decide, by decide⟩ im_yX0_hasNumber se_yX0_hasNumber rfl (Or.inr ⟨_, (hro _ (List.mem_of_getElem? (i := 43) rfl))⟩) rfl (Nat.le_of_ble_eq_true rfl) [] [] rfl rfl rfl rfl (by decide) (fun q hq => Or.inr (hro q (List.mem_append_right _ (List.mem_append_right _ (List.mem_append_right _ (List.mem_append_right _ (List.mem_append_right _ (hq)))))))) dX5_orbit_5 (fun r1 u2 e3 => ?_)
  subst e3
  refine z_if_eq hc 22 dX5_orbit_8 (by decide) (fun h4 => ?_) (fun h4 => ?_)
  · refine r_iconst (v := (-1)) hc dX5_orbit_22 rfl ?_
    rw [← hQ]
    exact r_iret hc hr hlk () (rfl) rfl dX5_orbit_23
  · exact absurd (hbad.symm.trans h4) (by decide)
