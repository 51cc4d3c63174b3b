def frgI (se : Nat → Bool) (k : Nat) : Nat → Bool := match k with | 0 => se | k + 1 => va_up (frgI se k) k false
def cyc (f : Nat → Nat) (fu : Nat) (se : Nat → Bool) (d n : Nat) : (Nat → Bool) × Nat := match fu with | 0 => (se, n) | fu + 1 => if se d = true then (se, n) else cyc f fu (va_up se d true) (f d) (n + 1)
theorem cyc_stop {f : Nat → Nat} {fu : Nat} {se : Nat → Bool} {d n : Nat} (h : se d = true) : cyc f fu se d n = (se, n) := by
  cases fu with
  | zero => rfl
  | succ k => rw [cyc, if_pos h]
theorem cyc_step {f : Nat → Nat} {fu : Nat} {se : Nat → Bool} {d n : Nat} (h : se d = false) : cyc f (fu + 1) se d n = cyc f fu (va_up se d true) (f d) (n + 1) := by rw [cyc, if_neg (by rw [h]; decide)]
theorem cyc_le {f : Nat → Nat} {fu : Nat} : ∀ {se : Nat → Bool} {d n : Nat}, (cyc f fu se d n).2 ≤ n + fu := by
  induction fu with
  | zero => intro se d n; exact Nat.le_refl _
  | succ k ih =>
    intro se d n
    rw [cyc]
    split
    · show n ≤ _; omega
    · have := ih (se := va_up se d true) (d := f d) (n := n + 1); omega
def ccC (fx : Bool) (r : Nat) : Bool := (fx && decide (r = 1)) || (!fx && decide (0 < r))
def ccI (f : Nat → Nat) (z : Nat) (fx : Bool) (se0 : Nat → Bool) (k : Nat) : (Nat → Bool) × Nat := match k with
  | 0 => (se0, 0)
  | k + 1 => ((cyc f z (ccI f z fx se0 k).1 k 0).1, (ccI f z fx se0 k).2 + (if ccC fx (cyc f z (ccI f z fx se0 k).1 k 0).2 = true then 1 else 0))
theorem ccI_p {f : Nat → Nat} {z : Nat} {fx : Bool} {se0 se : Nat → Bool} {k n : Nat} (h : ccI f z fx se0 k = (se, n)) (hC : ccC fx (cyc f z se k 0).2 = true) : ccI f z fx se0 (k + 1) = ((cyc f z se k 0).1, n + 1) := by
  rw [ccI, h]; simp only; rw [if_pos hC]
theorem ccI_n {f : Nat → Nat} {z : Nat} {fx : Bool} {se0 se : Nat → Bool} {k n : Nat} (h : ccI f z fx se0 k = (se, n)) (hC : ccC fx (cyc f z se k 0).2 = false) : ccI f z fx se0 (k + 1) = ((cyc f z se k 0).1, n) := by
  rw [ccI, h]; simp only; rw [if_neg (by rw [hC]; decide)]; rfl
/-- what the word's images are -/
def ImF (e : Nat → Option Nat) (nu : Nat → Option Nat) (na : Nat → Nat) (z : Nat) (col : Nat → Nat) (len : Nat) (f : Nat → Nat) : Prop := ∀ c, c < z → f c < z ∧ Img e nu na col len c (f c)
def rst (fs : Nat → Nat → Nat) (n c : Nat) : Bool := match n with | 0 => true | n + 1 => rst fs n c && decide (fs n c = c)
theorem rst_false {fs : Nat → Nat → Nat} {n i c : Nat} (hi : i < n) (h : fs i c ≠ c) : rst fs n c = false := by
  induction n with
  | zero => omega
  | succ n ih =>
    rw [rst]
    by_cases hn : i = n
    · subst hn; simp [h]
    · rw [ih (by omega)]; rfl
def crI (fs : Nat → Nat → Nat) (ns : Nat) (k : Nat) : Nat := match k with | 0 => 0 | k + 1 => crI fs ns k + (if rst fs ns k = true then 1 else 0)
theorem crI_le (fs : Nat → Nat → Nat) (ns k : Nat) : crI fs ns k ≤ k := by
  induction k with
  | zero => exact Nat.le_refl _
  | succ n ih => rw [crI]; split <;> omega
set_option maxHeartbeats 4000000 in
set_option maxRecDepth 100000 in
/-- forgetSeen() -/
theorem c_forgetSeen (l : Launch) (D : va_G) (cI cZ cW : ClassId) (ha h hs1 aU aN aT aG : Nat) (α : AS) (hB : BA α) : CtV l yX0_forgetSeen cX0_forgetSeen 2 none 0 0 0 0 D cI cZ cW [.ref ha] (wA cI cZ ha h hs1 aU aN aT aG α) ([]) (S := AS) (fun u => u = (tU α, tN α, frgI (tS α) (tZ α), tR α, tZ α)) (fun u => wA cI cZ ha h hs1 aU aN aT aG u) := by
  refine CtV.mk (by decide) (Nat.le_of_ble_eq_true rfl) ?_
  intro p e s m args below meth c A hc hr hlk hnm hro
  generalize hQ : MQ below _ args s 0 0 A = Q
  have hB0 := hB
  obtain ⟨bZ, bN, bU, bG⟩ := hB
  show V p l e (RM 0 0 0 0) s m args below meth c D A 2 0 0 Q (wA cI cZ ha h hs1 aU aN aT aG α) 0 [(0, .ref ha)] []
  refine r_iconst (v := (nI 0)) hc dX0_forgetSeen_0 rfl ?_
  refine r_istore_n (lv' := [(1, .int (nI 0)), (0, .ref ha)]) hc dX0_forgetSeen_1 rfl (by decide) rfl ?_
  have lp2 : ∀ (n : Nat) (k : Nat), tZ α - k = n → (k ≤ tZ α) → V p l e (RM 0 0 0 0) s m args below meth c D A 2 0 0 Q (wB cI cZ ha h hs1 aU aN aT aG (tU α) (tN α) (frgI (tS α) k) (tR α) (tZ α)) 2 [(1, .int (nI k)), (0, .ref ha)] [] := by
    intro n
    induction n using Nat.strongRecOn with
    | _ n ih2 =>
    intro k hm2 hk
    refine r_iload_n hc dX0_forgetSeen_2 rfl 0 rfl ?_
    refine r_aload_n hc dX0_forgetSeen_3 rfl 1 rfl ?_
    refine r_get hc inlX0 0 rfl rfl 6 (by decide) fl_X0_33 rfl rfl dX0_forgetSeen_4 ?_
    refine n_icmp_ge hc 23 dX0_forgetSeen_7 (by decide) (by omega) (by omega) (fun h1 => ?_) (fun h1 => ?_)
    · obtain rfl : k = tZ α := by omega
      show V p l e (RM 0 0 0 0) s m args below meth c D A 2 0 0 Q (wB cI cZ ha h hs1 aU aN aT aG (tU α) (tN α) (frgI (tS α) (tZ α)) (tR α) (tZ α)) 23 [(1, .int (nI (tZ α))), (0, .ref ha)] []
      rw [← hQ]
      exact r_vret hc hr hlk (tU α, tN α, frgI (tS α) (tZ α), tR α, tZ α) (rfl) rfl dX0_forgetSeen_23
    · refine r_aload_n hc dX0_forgetSeen_10 rfl 1 rfl ?_
      refine r_get hc inlX0 0 rfl rfl 4 (by decide) fl_X0_18 rfl rfl dX0_forgetSeen_11 ?_
      refine r_iload_n hc dX0_forgetSeen_14 rfl 0 rfl ?_
      refine r_iconst (v := (nI 0)) hc dX0_forgetSeen_15 rfl ?_
      refine r_zast (ws' := wB cI cZ ha h hs1 aU aN aT aG (tU α) (tN α) (va_up (frgI (tS α) k) k false) (tR α) (tZ α)) hc false 3 rfl (by omega) (by decide) rfl dX0_forgetSeen_16 ?_
      refine r_iinc (k := 0) (v := (nI (k + 1))) (lv' := [(1, .int (nI (k + 1))), (0, .ref ha)]) hc dX0_forgetSeen_17 rfl (nI_add _ _) (by decide) rfl ?_
      refine r_goto hc 2 dX0_forgetSeen_20 (by decide) ?_
      refine r_lv [0, 1] rfl ?_
      exact ih2 _ (by omega) (k + 1) rfl (by omega)
  refine r_lv [0, 1] rfl ?_
  exact lp2 _ 0 rfl (Nat.zero_le _)
set_option maxHeartbeats 4000000 in
set_option maxRecDepth 100000 in
/-- seeCycle(word, c0) -/
theorem c_seeCycle (l : Launch) (D : va_G) (cI cZ cW : ClassId) (ha h hs1 aU aN aT aG : Nat) (α : AS) (aE aL aF aR aS : Nat) (σ : CS) (hw aw : Nat) (col : Nat → Nat) (len : Nat) (c0 : Nat) (hc0 : c0 < tZ α) (hl : len ≤ 24) (hcol : ∀ j, col j < 6) (f : Nat → Nat) (hf : ImF (sE σ) (tU α) (tN α) (tZ α) col len f) (hB : BA α) : CtI l yX0_seeCycle cX0_seeCycle 5 (some .int) 2 46 0 0 D cI cZ cW [.ref ha, .ref hw, .int (nI c0)] (wA cI cZ ha h hs1 aU aN aT aG α) (wS cI cZ h aE aL aF aR aS σ ++ wW cI hw aw col len) (S := AS) (fun r u => r = nI (cyc f (tZ α) (tS α) c0 0).2 ∧ u = (tU α, tN α, (cyc f (tZ α) (tS α) c0 0).1, tR α, tZ α)) (fun u => wA cI cZ ha h hs1 aU aN aT aG u) := by
  refine CtI.mk (by decide) (Nat.le_of_ble_eq_true rfl) ?_
  intro p e s m args below meth c A hc hr hlk hnm hro
  generalize hQ : MQ below _ args s 0 0 A = Q
  have hB0 := hB
  obtain ⟨bZ, bN, bU, bG⟩ := hB
  show V p l e (RM 2 46 0 0) s m args below meth c D A 5 0 0 Q (wA cI cZ ha h hs1 aU aN aT aG α) 0 [(0, .ref ha), (1, .ref hw), (2, .int (nI c0))] []
  refine r_iconst (v := (nI 0)) hc dX0_seeCycle_0 rfl ?_
  refine r_istore_n (lv' := [(3, .int (nI 0)), (0, .ref ha), (1, .ref hw), (2, .int (nI c0))]) hc dX0_seeCycle_1 rfl (by decide) rfl ?_
  refine r_iload_n hc dX0_seeCycle_2 rfl 3 rfl ?_
  refine r_istore (lv' := [(4, .int (nI c0)), (3, .int (nI 0)), (0, .ref ha), (1, .ref hw), (2, .int (nI c0))]) hc dX0_seeCycle_3 (by decide) rfl ?_
  have lp5 : ∀ (n : Nat) (se : Nat → Bool) (d n0 : Nat), tZ α - n0 = n → (n0 ≤ tZ α) → (d < tZ α) → (cyc f (tZ α - n0) se d n0 = cyc f (tZ α) (tS α) c0 0) → V p l e (RM 2 46 0 0) s m args below meth c D A 5 0 0 Q (wB cI cZ ha h hs1 aU aN aT aG (tU α) (tN α) se (tR α) (tZ α)) 5 [(4, .int (nI d)), (3, .int (nI n0)), (0, .ref ha), (1, .ref hw), (2, .int (nI c0))] [] := by
    intro n
    induction n using Nat.strongRecOn with
    | _ n ih5 =>
    intro se d n0 hm5 hn hd hcy
    refine r_iload_n hc dX0_seeCycle_5 rfl 1 rfl ?_
    refine r_aload_n hc dX0_seeCycle_6 rfl 2 rfl ?_
    refine r_get hc inlX0 0 rfl rfl 6 (by decide) fl_X0_33 rfl rfl dX0_seeCycle_7 ?_
    refine n_icmp_ge hc 46 dX0_seeCycle_10 (by decide) (by omega) (by omega) (fun h1 => ?_) (fun h1 => ?_)
    · refine r_iload_n hc dX0_seeCycle_46 rfl 1 rfl ?_
      rw [← hQ]
      have hz : cyc f (tZ α) (tS α) c0 0 = (se, n0) := by rw [← hcy, show tZ α - n0 = 0 by omega]; rfl
      exact r_iret hc hr hlk (tU α, tN α, se, tR α, tZ α) ⟨by rw [hz], by rw [hz]⟩ rfl dX0_seeCycle_47
    · refine r_aload_n hc dX0_seeCycle_13 rfl 2 rfl ?_
      refine r_get hc inlX0 0 rfl rfl 4 (by decide) fl_X0_18 rfl rfl dX0_seeCycle_14 ?_
      refine r_iload hc dX0_seeCycle_17 0 rfl ?_
      refine r_zald hc zI 3 rfl (by omega) (by decide) dX0_seeCycle_19 ?_
      refine z_if_ne hc 46 dX0_seeCycle_20 (by decide) (fun h2 => ?_) (fun h2 => ?_)
      · refine r_iload_n hc dX0_seeCycle_46 rfl 1 rfl ?_
        rw [← hQ]
        have hz : cyc f (tZ α) (tS α) c0 0 = (se, n0) := by rw [← hcy]; exact cyc_stop h2
        exact r_iret hc hr hlk (tU α, tN α, se, tR α, tZ α) ⟨by rw [hz], by rw [hz]⟩ rfl dX0_seeCycle_47
      · refine r_aload_n hc dX0_seeCycle_23 rfl 2 rfl ?_
        refine r_get hc inlX0 0 rfl rfl 4 (by decide) fl_X0_18 rfl rfl dX0_seeCycle_24 ?_
        refine r_iload hc dX0_seeCycle_27 0 rfl ?_
        refine r_iconst (v := (nI 1)) hc dX0_seeCycle_29 rfl ?_
        refine r_zast (ws' := wB cI cZ ha h hs1 aU aN aT aG (tU α) (tN α) (va_up se d true) (tR α) (tZ α)) hc true 3 rfl (by omega) (by decide) rfl dX0_seeCycle_30 ?_
        refine r_iinc (k := 1) (v := (nI (n0 + 1))) (lv' := [(3, .int (nI (n0 + 1))), (4, .int (nI d)), (0, .ref ha), (1, .ref hw), (2, .int (nI c0))]) hc dX0_seeCycle_31 rfl (nI_add _ _) (by decide) rfl ?_
        refine r_aload_n hc dX0_seeCycle_34 rfl 2 rfl ?_
        refine r_iload hc dX0_seeCycle_35 1 rfl ?_
        refine r_aload_n hc dX0_seeCycle_37 rfl 3 rfl ?_
        refine r_callI (As := [.int (nI d), .ref hw]) (n := 2) (wr := wB cI cZ ha h hs1 aU aN aT aG (tU α) (tN α) (va_up se d true) (tR α) (tZ α)) hc (c_image l D cI cZ cW ha h hs1 aU aN aT aG (tU α, tN α, va_up se d true, tR α, tZ α) aE aL aF aR aS σ hw aw col len d (f d) (by omega) hl hcol (hf d hd).2 (show BA (tU α, tN α, va_up se d true, tR α, tZ α) from ⟨bZ, bN, bU, bG⟩)) co_yX0_image in_X0 ml_X0_74 (by decide +kernel) rfl ⟨by decide, by decide⟩ ⟨by decide, by decide⟩ im_yX0_image se_yX0_image rfl (Or.inl ⟨0, _, rfl⟩) rfl (Nat.le_of_ble_eq_true rfl) [] [0, 1, 2, 3, 4] rfl rfl rfl rfl (by decide) (fun q hq => (List.mem_append.mp hq).elim (fun hq => Or.inl ((List.getElem?_of_mem hq).elim fun k hk => ⟨k, hk, List.not_mem_nil⟩)) (fun hq => Or.inr (hro q hq))) dX0_seeCycle_38 (fun r3 u4 e5 => ?_)
        subst e5
        show V p l e (RM 2 46 0 0) s m args below meth c D A 5 0 0 Q (wB cI cZ ha h hs1 aU aN aT aG (tU α) (tN α) (va_up se d true) (tR α) (tZ α)) 41 [(3, .int (nI (n0 + 1))), (4, .int (nI d)), (0, .ref ha), (1, .ref hw), (2, .int (nI c0))] [.int (nI (f d))]
        refine r_istore (lv' := [(4, .int (nI (f d))), (3, .int (nI (n0 + 1))), (0, .ref ha), (1, .ref hw), (2, .int (nI c0))]) hc dX0_seeCycle_41 (by decide) rfl ?_
        refine r_goto hc 5 dX0_seeCycle_43 (by decide) ?_
        refine r_lv [0, 1, 2, 3, 4] rfl ?_
        exact ih5 _ (by omega) (va_up se d true) (f d) (n0 + 1) rfl (by omega) (hf d hd).1 (by rw [← hcy, show tZ α - n0 = tZ α - (n0 + 1) + 1 by omega, cyc_step h2])
  refine r_lv [0, 1, 2, 3, 4] rfl ?_
  exact lp5 _ (tS α) c0 0 rfl (Nat.zero_le _) hc0 rfl
set_option maxHeartbeats 4000000 in
set_option maxRecDepth 100000 in
/-- countCycles(word, fx) -/
theorem c_countCycles (l : Launch) (D : va_G) (cI cZ cW : ClassId) (ha h hs1 aU aN aT aG : Nat) (α : AS) (aE aL aF aR aS : Nat) (σ : CS) (hw aw : Nat) (col : Nat → Nat) (len : Nat) (fx : Bool) (hl : len ≤ 24) (hcol : ∀ j, col j < 6) (f : Nat → Nat) (hf : ImF (sE σ) (tU α) (tN α) (tZ α) col len f) (hB : BA α) : CtI l yX0_countCycles cX0_countCycles 6 (some .int) 3 70 0 0 D cI cZ cW [.ref ha, .ref hw, .int (zI fx)] (wA cI cZ ha h hs1 aU aN aT aG α) (wS cI cZ h aE aL aF aR aS σ ++ wW cI hw aw col len) (S := AS) (fun r u => r = nI (ccI f (tZ α) fx (frgI (tS α) (tZ α)) (tZ α)).2 ∧ ∃ se, u = (tU α, tN α, se, tR α, tZ α)) (fun u => wA cI cZ ha h hs1 aU aN aT aG u) := by
  refine CtI.mk (by decide) (Nat.le_of_ble_eq_true rfl) ?_
  intro p e s m args below meth c A hc hr hlk hnm hro
  generalize hQ : MQ below _ args s 0 0 A = Q
  have hB0 := hB
  obtain ⟨bZ, bN, bU, bG⟩ := hB
  show V p l e (RM 3 70 0 0) s m args below meth c D A 6 0 0 Q (wA cI cZ ha h hs1 aU aN aT aG α) 0 [(0, .ref ha), (1, .ref hw), (2, .int (zI fx))] []
  refine r_aload_n hc dX0_countCycles_0 rfl 0 rfl ?_
  refine r_callV (As := []) (n := 0) (wr := []) hc (c_forgetSeen l D cI cZ cW ha h hs1 aU aN aT aG α hB0) co_yX0_forgetSeen in_X0 ml_X0_63 (by decide +kernel) rfl ⟨by decide, by decide⟩ ⟨by decide, by decide⟩ im_yX0_forgetSeen se_yX0_forgetSeen rfl (Or.inl ⟨0, _, rfl⟩) rfl (Nat.le_of_ble_eq_true rfl) [0, 1, 2, 3, 4] [] rfl rfl rfl rfl (by decide) (fun q hq => absurd hq List.not_mem_nil) dX0_countCycles_1 (fun u e1 => ?_)
  show V p l e (RM 3 70 0 0) s m args below meth c D A 6 0 0 Q (wA cI cZ ha h hs1 aU aN aT aG u) 4 [(0, .ref ha), (1, .ref hw), (2, .int (zI fx))] []
  subst e1
  show V p l e (RM 3 70 0 0) s m args below meth c D A 6 0 0 Q (wB cI cZ ha h hs1 aU aN aT aG (tU α) (tN α) (frgI (tS α) (tZ α)) (tR α) (tZ α)) 4 [(0, .ref ha), (1, .ref hw), (2, .int (zI fx))] []
  refine r_iconst (v := (nI 0)) hc dX0_countCycles_4 rfl ?_
  refine r_istore_n (lv' := [(3, .int (nI 0)), (0, .ref ha), (1, .ref hw), (2, .int (zI fx))]) hc dX0_countCycles_5 rfl (by decide) rfl ?_
  refine r_iconst (v := (nI 0)) hc dX0_countCycles_6 rfl ?_
  refine r_istore (lv' := [(4, .int (nI 0)), (3, .int (nI 0)), (0, .ref ha), (1, .ref hw), (2, .int (zI fx))]) hc dX0_countCycles_7 (by decide) rfl ?_
  have lp9 : ∀ (n : Nat) (se : Nat → Bool) (n0 k : Nat), tZ α - k = n → (k ≤ tZ α) → (n0 ≤ k) → (ccI f (tZ α) fx (frgI (tS α) (tZ α)) k = (se, n0)) → V p l e (RM 3 70 0 0) s m args below meth c D A 6 0 0 Q (wB cI cZ ha h hs1 aU aN aT aG (tU α) (tN α) se (tR α) (tZ α)) 9 [(4, .int (nI k)), (3, .int (nI n0)), (0, .ref ha), (1, .ref hw), (2, .int (zI fx))] [] := by
    intro n
    induction n using Nat.strongRecOn with
    | _ n ih9 =>
    intro se n0 k hm9 hk hn hcc
    refine r_iload hc dX0_countCycles_9 0 rfl ?_
    refine r_aload_n hc dX0_countCycles_11 rfl 2 rfl ?_
    refine r_get hc inlX0 0 rfl rfl 6 (by decide) fl_X0_33 rfl rfl dX0_countCycles_12 ?_
    refine n_icmp_ge hc 54 dX0_countCycles_15 (by decide) (by omega) (by omega) (fun h2 => ?_) (fun h2 => ?_)
    · refine r_iload_n hc dX0_countCycles_54 rfl 1 rfl ?_
      rw [← hQ]
      have hz : ccI f (tZ α) fx (frgI (tS α) (tZ α)) (tZ α) = (se, n0) := by rw [← hcc, show k = tZ α by omega]
      exact r_iret hc hr hlk (tU α, tN α, se, tR α, tZ α) ⟨by rw [hz], ⟨se, rfl⟩⟩ rfl dX0_countCycles_55
    · refine r_aload_n hc dX0_countCycles_18 rfl 2 rfl ?_
      refine r_aload_n hc dX0_countCycles_19 rfl 3 rfl ?_
      refine r_iload hc dX0_countCycles_20 0 rfl ?_
      refine r_callI (As := [.ref hw, .int (nI k)]) (n := 2) (wr := []) hc (c_seeCycle l D cI cZ cW ha h hs1 aU aN aT aG (tU α, tN α, se, tR α, tZ α) aE aL aF aR aS σ hw aw col len k (by show k < tZ α; omega) hl hcol f hf (show BA (tU α, tN α, se, tR α, tZ α) from ⟨bZ, bN, bU, bG⟩)) co_yX0_seeCycle in_X0 ml_X0_66 (by decide +kernel) rfl ⟨by decide, by decide⟩ ⟨by decide, by decide⟩ im_yX0_seeCycle se_yX0_seeCycle rfl (Or.inl ⟨0, _, rfl⟩) rfl (Nat.le_of_ble_eq_true rfl) [0, 1, 2, 3, 4] [] rfl rfl rfl rfl (by decide) (fun q hq => Or.inr (hro q hq)) dX0_countCycles_22 (fun r0 u e3 => ?_)
      show V p l e (RM 3 70 0 0) s m args below meth c D A 6 0 0 Q (wA cI cZ ha h hs1 aU aN aT aG u) 25 [(4, .int (nI k)), (3, .int (nI n0)), (0, .ref ha), (1, .ref hw), (2, .int (zI fx))] [.int r0]
      obtain ⟨rfl, rfl⟩ := e3
      show V p l e (RM 3 70 0 0) s m args below meth c D A 6 0 0 Q (wB cI cZ ha h hs1 aU aN aT aG (tU α) (tN α) ((cyc f (tZ α) se k 0).1) (tR α) (tZ α)) 25 [(4, .int (nI k)), (3, .int (nI n0)), (0, .ref ha), (1, .ref hw), (2, .int (zI fx))] [.int (nI ((cyc f (tZ α) se k 0).2))]
      have hle : (cyc f (tZ α) se k 0).2 ≤ 0 + tZ α := cyc_le
      refine r_istore (lv' := [(5, .int (nI ((cyc f (tZ α) se k 0).2))), (4, .int (nI k)), (3, .int (nI n0)), (0, .ref ha), (1, .ref hw), (2, .int (zI fx))]) hc dX0_countCycles_25 (by decide) rfl ?_
      refine r_iload_n hc dX0_countCycles_27 rfl 5 rfl ?_
      refine z_if_eq hc 40 dX0_countCycles_28 (by decide) (fun h4 => ?_) (fun h4 => ?_)
      · refine r_iload hc dX0_countCycles_40 0 rfl ?_
        refine n_if_le hc 48 dX0_countCycles_42 (by decide) (by omega) (fun h5 => ?_) (fun h5 => ?_)
        · refine r_iinc (k := 1) (v := (nI (k + 1))) (lv' := [(4, .int (nI (k + 1))), (5, .int (nI ((cyc f (tZ α) se k 0).2))), (3, .int (nI n0)), (0, .ref ha), (1, .ref hw), (2, .int (zI fx))]) hc dX0_countCycles_48 rfl (nI_add _ _) (by decide) rfl ?_
          refine r_goto hc 9 dX0_countCycles_51 (by decide) ?_
          refine r_lv [0, 2, 3, 4, 5] rfl ?_
          exact ih9 _ (by omega) _ n0 (k + 1) rfl (by omega) (by omega) (ccI_n hcc (by simp [ccC, h4, h5]))
        · refine r_iinc (k := 2) (v := (nI (n0 + 1))) (lv' := [(3, .int (nI (n0 + 1))), (5, .int (nI ((cyc f (tZ α) se k 0).2))), (4, .int (nI k)), (0, .ref ha), (1, .ref hw), (2, .int (zI fx))]) hc dX0_countCycles_45 rfl (nI_add _ _) (by decide) rfl ?_
          refine r_iinc (k := 2) (v := (nI (k + 1))) (lv' := [(4, .int (nI (k + 1))), (3, .int (nI (n0 + 1))), (5, .int (nI ((cyc f (tZ α) se k 0).2))), (0, .ref ha), (1, .ref hw), (2, .int (zI fx))]) hc dX0_countCycles_48 rfl (nI_add _ _) (by decide) rfl ?_
          refine r_goto hc 9 dX0_countCycles_51 (by decide) ?_
          refine r_lv [0, 1, 3, 4, 5] rfl ?_
          exact ih9 _ (by omega) _ (n0 + 1) (k + 1) rfl (by omega) (by omega) (ccI_p hcc (by simp [ccC, h4]; omega))
      · refine r_iload hc dX0_countCycles_31 0 rfl ?_
        refine r_iconst (v := (nI 1)) hc dX0_countCycles_33 rfl ?_
        refine n_icmp_ne hc 48 dX0_countCycles_34 (by decide) (by omega) (by omega) (fun h6 => ?_) (fun h6 => ?_)
        · refine r_iinc (k := 1) (v := (nI (k + 1))) (lv' := [(4, .int (nI (k + 1))), (5, .int (nI ((cyc f (tZ α) se k 0).2))), (3, .int (nI n0)), (0, .ref ha), (1, .ref hw), (2, .int (zI fx))]) hc dX0_countCycles_48 rfl (nI_add _ _) (by decide) rfl ?_
          refine r_goto hc 9 dX0_countCycles_51 (by decide) ?_
          refine r_lv [0, 2, 3, 4, 5] rfl ?_
          exact ih9 _ (by omega) _ n0 (k + 1) rfl (by omega) (by omega) (ccI_n hcc (by simp [ccC, h4, h6]))
        · refine r_goto hc 45 dX0_countCycles_37 (by decide) ?_
          refine r_iinc (k := 2) (v := (nI (n0 + 1))) (lv' := [(3, .int (nI (n0 + 1))), (5, .int (nI ((cyc f (tZ α) se k 0).2))), (4, .int (nI k)), (0, .ref ha), (1, .ref hw), (2, .int (zI fx))]) hc dX0_countCycles_45 rfl (nI_add _ _) (by decide) rfl ?_
          refine r_iinc (k := 2) (v := (nI (k + 1))) (lv' := [(4, .int (nI (k + 1))), (3, .int (nI (n0 + 1))), (5, .int (nI ((cyc f (tZ α) se k 0).2))), (0, .ref ha), (1, .ref hw), (2, .int (zI fx))]) hc dX0_countCycles_48 rfl (nI_add _ _) (by decide) rfl ?_
          refine r_goto hc 9 dX0_countCycles_51 (by decide) ?_
          refine r_lv [0, 1, 3, 4, 5] rfl ?_
          exact ih9 _ (by omega) _ (n0 + 1) (k + 1) rfl (by omega) (by omega) (ccI_p hcc (by simp [ccC, h4, h6]))
  refine r_lv [0, 1, 2, 3, 4] rfl ?_
  exact lp9 _ (frgI (tS α) (tZ α)) 0 0 rfl (Nat.zero_le _) (Nat.zero_le _) rfl
