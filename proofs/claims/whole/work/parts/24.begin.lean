set_option maxHeartbeats 4000000 in
set_option maxRecDepth 100000 in
/-- relator -/
theorem c_relator (l : Launch) (D : va_G) (cI cZ cW : ClassId) (hx hh hr1 hs1 h hi ha n : Nat) (ah : Nat) (hcol : Nat → Nat) (hlen : Nat) (ar : Nat) (rwa rca : Nat → Nat) (rcol : Nat → Nat → Nat) (rlen : Nat → Nat) (nr : Nat) (aE aL aF aR aS : Nat) (σ : CS) (aU aN aT aG : Nat) (α : AS) (hn : n ≤ 3) (hl24 : hlen ≤ 24) (hsz : nr ≤ 10) (hB : BD σ) (h0 : 0 < hlen) (hszl : nr < 10) : CtI l yX5_relator cX5_relator 1 (some .int) 4 89 0 0 D cI cZ cW [.ref hx] (wW cI hh ah hcol hlen ++ (wL cI cW hr1 ar 10 rwa rca rcol rlen nr ++ (wS cI cZ h aE aL aF aR aS σ ++ (wA cI cZ ha h hs1 aU aN aT aG α)))) (wT0 hx hh hr1 hs1 h hi ha n) (S := WS × ((Nat → Nat → Nat) × (Nat → Nat) × Nat) × CS × AS) (fun r u => r = nI (nr + 1) ∧ u = ((hcol, 0), ((va_up rcol nr (cpN hcol (rcol nr) hlen)), (va_up rlen nr hlen), nr + 1), fMake (fSt0 σ (2 * n)), (tU α, tN α, tS α, tR α, 0))) (fun u => wW cI hh ah u.1.1 u.1.2 ++ (wL cI cW hr1 ar 10 rwa rca u.2.1.1 u.2.1.2.1 u.2.1.2.2 ++ (wS cI cZ h aE aL aF aR aS u.2.2.1 ++ wA cI cZ ha h hs1 aU aN aT aG u.2.2.2))) := by
  refine CtI.mk (by decide) (Nat.le_of_ble_eq_true rfl) ?_
  intro p e s m args below meth c A hc hr hlk hnm hro
  generalize hQ : MQ below _ args s 0 0 A = Q
  show V p l e (RM 4 89 0 0) s m args below meth c D A 1 0 0 Q (wW cI hh ah hcol hlen ++ (wL cI cW hr1 ar 10 rwa rca rcol rlen nr ++ (wS cI cZ h aE aL aF aR aS σ ++ (wA cI cZ ha h hs1 aU aN aT aG α)))) 0 [(0, .ref hx)] []
  refine r_aload_n hc dX5_relator_0 rfl 0 rfl ?_
  refine r_aload_n hc dX5_relator_1 rfl 0 rfl ?_
  refine r_getR hc inlX5 (hro _ (List.mem_of_getElem? (i := 0) rfl)) rfl 1 (by decide) fl_X5_21 rfl rfl dX5_relator_2 ?_
  refine r_callI (As := [.ref hr1]) (n := 1) (wr := []) hc (c_give10 l D cI cZ cW hx hh hr1 hs1 h hi ha n ah hcol hlen hr1 ar rwa rca rcol rlen nr aE aL aF aR aS σ aU aN aT aG α hn hl24 hsz hB h0 hszl) co_yX5_giveHandTo in_X5 ml_X5_77 (by decide +kernel) rfl ⟨by decide, by decide⟩ ⟨by decide, by decide⟩ im_yX5_giveHandTo se_yX5_giveHandTo rfl (Or.inr ⟨_, (hro _ (List.mem_of_getElem? (i := 0) rfl))⟩) rfl (Nat.le_of_ble_eq_true rfl) [0, 1, 2, 3, 4, 5, 6, 7, 8, 9, 10, 11, 12, 13, 14, 15, 16, 17, 18, 19, 20, 21, 22, 23, 24, 25, 26, 27, 28, 29, 30, 31, 32, 33, 34] [] rfl rfl rfl rfl (by decide) (fun q hq => Or.inr (hro q hq)) dX5_relator_5 (fun r u e1 => ?_)
  show V p l e (RM 4 89 0 0) s m args below meth c D A 1 0 0 Q (wW cI hh ah u.1.1 u.1.2 ++ (wL cI cW hr1 ar 10 rwa rca u.2.1.1 u.2.1.2.1 u.2.1.2.2 ++ (wS cI cZ h aE aL aF aR aS (u.2.2.1) ++ (wA cI cZ ha h hs1 aU aN aT aG (u.2.2.2))))) 8 [(0, .ref hx)] [.int r]
  rw [← hQ]
  exact r_iret hc hr hlk u e1 rfl dX5_relator_8
set_option maxHeartbeats 4000000 in
set_option maxRecDepth 100000 in
/-- subgroup -/
theorem c_subgroup (l : Launch) (D : va_G) (cI cZ cW : ClassId) (hx hh hr1 hs1 h hi ha n : Nat) (ah : Nat) (hcol : Nat → Nat) (hlen : Nat) (as : Nat) (swa sca : Nat → Nat) (scol : Nat → Nat → Nat) (slen : Nat → Nat) (ns : Nat) (aE aL aF aR aS : Nat) (σ : CS) (aU aN aT aG : Nat) (α : AS) (hn : n ≤ 3) (hl24 : hlen ≤ 24) (hsz : ns ≤ 5) (hB : BD σ) (h0 : 0 < hlen) (hszl : ns < 5) : CtI l yX5_subgroup cX5_subgroup 1 (some .int) 4 89 0 0 D cI cZ cW [.ref hx] (wW cI hh ah hcol hlen ++ (wL cI cW hs1 as 5 swa sca scol slen ns ++ (wS cI cZ h aE aL aF aR aS σ ++ (wA cI cZ ha h hs1 aU aN aT aG α)))) (wT0 hx hh hr1 hs1 h hi ha n) (S := WS × ((Nat → Nat → Nat) × (Nat → Nat) × Nat) × CS × AS) (fun r u => r = nI (ns + 1) ∧ u = ((hcol, 0), ((va_up scol ns (cpN hcol (scol ns) hlen)), (va_up slen ns hlen), ns + 1), fMake (fSt0 σ (2 * n)), (tU α, tN α, tS α, tR α, 0))) (fun u => wW cI hh ah u.1.1 u.1.2 ++ (wL cI cW hs1 as 5 swa sca u.2.1.1 u.2.1.2.1 u.2.1.2.2 ++ (wS cI cZ h aE aL aF aR aS u.2.2.1 ++ wA cI cZ ha h hs1 aU aN aT aG u.2.2.2))) := by
  refine CtI.mk (by decide) (Nat.le_of_ble_eq_true rfl) ?_
  intro p e s m args below meth c A hc hr hlk hnm hro
  generalize hQ : MQ below _ args s 0 0 A = Q
  show V p l e (RM 4 89 0 0) s m args below meth c D A 1 0 0 Q (wW cI hh ah hcol hlen ++ (wL cI cW hs1 as 5 swa sca scol slen ns ++ (wS cI cZ h aE aL aF aR aS σ ++ (wA cI cZ ha h hs1 aU aN aT aG α)))) 0 [(0, .ref hx)] []
  refine r_aload_n hc dX5_subgroup_0 rfl 0 rfl ?_
  refine r_aload_n hc dX5_subgroup_1 rfl 0 rfl ?_
  refine r_getR hc inlX5 (hro _ (List.mem_of_getElem? (i := 0) rfl)) rfl 2 (by decide) fl_X5_25 rfl rfl dX5_subgroup_2 ?_
  refine r_callI (As := [.ref hs1]) (n := 1) (wr := []) hc (c_give5 l D cI cZ cW hx hh hr1 hs1 h hi ha n ah hcol hlen hs1 as swa sca scol slen ns aE aL aF aR aS σ aU aN aT aG α hn hl24 hsz hB h0 hszl) co_yX5_giveHandTo in_X5 ml_X5_77 (by decide +kernel) rfl ⟨by decide, by decide⟩ ⟨by decide, by decide⟩ im_yX5_giveHandTo se_yX5_giveHandTo rfl (Or.inr ⟨_, (hro _ (List.mem_of_getElem? (i := 0) rfl))⟩) rfl (Nat.le_of_ble_eq_true rfl) [0, 1, 2, 3, 4, 5, 6, 7, 8, 9, 10, 11, 12, 13, 14, 15, 16, 17, 18, 19, 20, 21, 22, 23, 24] [] rfl rfl rfl rfl (by decide) (fun q hq => Or.inr (hro q hq)) dX5_subgroup_5 (fun r u e1 => ?_)
  show V p l e (RM 4 89 0 0) s m args below meth c D A 1 0 0 Q (wW cI hh ah u.1.1 u.1.2 ++ (wL cI cW hs1 as 5 swa sca u.2.1.1 u.2.1.2.1 u.2.1.2.2 ++ (wS cI cZ h aE aL aF aR aS (u.2.2.1) ++ (wA cI cZ ha h hs1 aU aN aT aG (u.2.2.2))))) 8 [(0, .ref hx)] [.int r]
  rw [← hQ]
  exact r_iret hc hr hlk u e1 rfl dX5_subgroup_8
set_option maxHeartbeats 4000000 in
set_option maxRecDepth 100000 in
/-- relator -/
theorem c_relator_bad (l : Launch) (D : va_G) (cI cZ cW : ClassId) (hx hh hr1 hs1 h hi ha n : Nat) (ah : Nat) (hcol : Nat → Nat) (hlen : Nat) (ar : Nat) (rwa rca : Nat → Nat) (rcol : Nat → Nat → Nat) (rlen : Nat → Nat) (nr : Nat) (aE aL aF aR aS : Nat) (σ : CS) (aU aN aT aG : Nat) (α : AS) (hn : n ≤ 3) (hl24 : hlen ≤ 24) (hsz : nr ≤ 10) (hB : BD σ) (hbad : hlen = 0 ∨ nr = 10) : CtI l yX5_relator cX5_relator 1 (some .int) 4 89 0 0 D cI cZ cW [.ref hx] (wW cI hh ah hcol hlen ++ (wL cI cW hr1 ar 10 rwa rca rcol rlen nr ++ (wS cI cZ h aE aL aF aR aS σ ++ (wA cI cZ ha h hs1 aU aN aT aG α)))) (wT0 hx hh hr1 hs1 h hi ha n) (S := WS × ((Nat → Nat → Nat) × (Nat → Nat) × Nat) × CS × AS) (fun r u => r = -1 ∧ u = ((hcol, hlen), (rcol, rlen, nr), σ, α)) (fun u => wW cI hh ah u.1.1 u.1.2 ++ (wL cI cW hr1 ar 10 rwa rca u.2.1.1 u.2.1.2.1 u.2.1.2.2 ++ (wS cI cZ h aE aL aF aR aS u.2.2.1 ++ wA cI cZ ha h hs1 aU aN aT aG u.2.2.2))) := by
  refine CtI.mk (by decide) (Nat.le_of_ble_eq_true rfl) ?_
  intro p e s m args below meth c A hc hr hlk hnm hro
  generalize hQ : MQ below _ args s 0 0 A = Q
  show V p l e (RM 4 89 0 0) s m args below meth c D A 1 0 0 Q (wW cI hh ah hcol hlen ++ (wL cI cW hr1 ar 10 rwa rca rcol rlen nr ++ (wS cI cZ h aE aL aF aR aS σ ++ (wA cI cZ ha h hs1 aU aN aT aG α)))) 0 [(0, .ref hx)] []
  refine r_aload_n hc dX5_relator_0 rfl 0 rfl ?_
  refine r_aload_n hc dX5_relator_1 rfl 0 rfl ?_
  refine r_getR hc inlX5 (hro _ (List.mem_of_getElem? (i := 0) rfl)) rfl 1 (by decide) fl_X5_21 rfl rfl dX5_relator_2 ?_
  refine r_callI (As := [.ref hr1]) (n := 1) (wr := []) hc (c_give10_bad l D cI cZ cW hx hh hr1 hs1 h hi ha n ah hcol hlen hr1 ar rwa rca rcol rlen nr aE aL aF aR aS σ aU aN aT aG α hn hl24 hsz hB hbad) co_yX5_giveHandTo in_X5 ml_X5_77 (by decide +kernel) rfl ⟨by decide, by decide⟩ ⟨by decide, by decide⟩ im_yX5_giveHandTo se_yX5_giveHandTo rfl (Or.inr ⟨_, (hro _ (List.mem_of_getElem? (i := 0) rfl))⟩) rfl (Nat.le_of_ble_eq_true rfl) [0, 1, 2, 3, 4, 5, 6, 7, 8, 9, 10, 11, 12, 13, 14, 15, 16, 17, 18, 19, 20, 21, 22, 23, 24, 25, 26, 27, 28, 29, 30, 31, 32, 33, 34] [] rfl rfl rfl rfl (by decide) (fun q hq => Or.inr (hro q hq)) dX5_relator_5 (fun r u e1 => ?_)
  show V p l e (RM 4 89 0 0) s m args below meth c D A 1 0 0 Q (wW cI hh ah u.1.1 u.1.2 ++ (wL cI cW hr1 ar 10 rwa rca u.2.1.1 u.2.1.2.1 u.2.1.2.2 ++ (wS cI cZ h aE aL aF aR aS (u.2.2.1) ++ (wA cI cZ ha h hs1 aU aN aT aG (u.2.2.2))))) 8 [(0, .ref hx)] [.int r]
  rw [← hQ]
  exact r_iret hc hr hlk u e1 rfl dX5_relator_8
set_option maxHeartbeats 4000000 in
set_option maxRecDepth 100000 in
/-- subgroup -/
theorem c_subgroup_bad (l : Launch) (D : va_G) (cI cZ cW : ClassId) (hx hh hr1 hs1 h hi ha n : Nat) (ah : Nat) (hcol : Nat → Nat) (hlen : Nat) (as : Nat) (swa sca : Nat → Nat) (scol : Nat → Nat → Nat) (slen : Nat → Nat) (ns : Nat) (aE aL aF aR aS : Nat) (σ : CS) (aU aN aT aG : Nat) (α : AS) (hn : n ≤ 3) (hl24 : hlen ≤ 24) (hsz : ns ≤ 5) (hB : BD σ) (hbad : hlen = 0 ∨ ns = 5) : CtI l yX5_subgroup cX5_subgroup 1 (some .int) 4 89 0 0 D cI cZ cW [.ref hx] (wW cI hh ah hcol hlen ++ (wL cI cW hs1 as 5 swa sca scol slen ns ++ (wS cI cZ h aE aL aF aR aS σ ++ (wA cI cZ ha h hs1 aU aN aT aG α)))) (wT0 hx hh hr1 hs1 h hi ha n) (S := WS × ((Nat → Nat → Nat) × (Nat → Nat) × Nat) × CS × AS) (fun r u => r = -1 ∧ u = ((hcol, hlen), (scol, slen, ns), σ, α)) (fun u => wW cI hh ah u.1.1 u.1.2 ++ (wL cI cW hs1 as 5 swa sca u.2.1.1 u.2.1.2.1 u.2.1.2.2 ++ (wS cI cZ h aE aL aF aR aS u.2.2.1 ++ wA cI cZ ha h hs1 aU aN aT aG u.2.2.2))) := by
  refine CtI.mk (by decide) (Nat.le_of_ble_eq_true rfl) ?_
  intro p e s m args below meth c A hc hr hlk hnm hro
  generalize hQ : MQ below _ args s 0 0 A = Q
  show V p l e (RM 4 89 0 0) s m args below meth c D A 1 0 0 Q (wW cI hh ah hcol hlen ++ (wL cI cW hs1 as 5 swa sca scol slen ns ++ (wS cI cZ h aE aL aF aR aS σ ++ (wA cI cZ ha h hs1 aU aN aT aG α)))) 0 [(0, .ref hx)] []
  refine r_aload_n hc dX5_subgroup_0 rfl 0 rfl ?_
  refine r_aload_n hc dX5_subgroup_1 rfl 0 rfl ?_
  refine r_getR hc inlX5 (hro _ (List.mem_of_getElem? (i := 0) rfl)) rfl 2 (by decide) fl_X5_25 rfl rfl dX5_subgroup_2 ?_
  refine r_callI (As := [.ref hs1]) (n := 1) (wr := []) hc (c_give5_bad l D cI cZ cW hx hh hr1 hs1 h hi ha n ah hcol hlen hs1 as swa sca scol slen ns aE aL aF aR aS σ aU aN aT aG α hn hl24 hsz hB hbad) co_yX5_giveHandTo in_X5 ml_X5_77 (by decide +kernel) rfl ⟨by decide, by decide⟩ ⟨by decide, by decide⟩ im_yX5_giveHandTo se_yX5_giveHandTo rfl (Or.inr ⟨_, (hro _ (List.mem_of_getElem? (i := 0) rfl))⟩) rfl (Nat.le_of_ble_eq_true rfl) [0, 1, 2, 3, 4, 5, 6, 7, 8, 9, 10, 11, 12, 13, 14, 15, 16, 17, 18, 19, 20, 21, 22, 23, 24] [] rfl rfl rfl rfl (by decide) (fun q hq => Or.inr (hro q hq)) dX5_subgroup_5 (fun r u e1 => ?_)
  show V p l e (RM 4 89 0 0) s m args below meth c D A 1 0 0 Q (wW cI hh ah u.1.1 u.1.2 ++ (wL cI cW hs1 as 5 swa sca u.2.1.1 u.2.1.2.1 u.2.1.2.2 ++ (wS cI cZ h aE aL aF aR aS (u.2.2.1) ++ (wA cI cZ ha h hs1 aU aN aT aG (u.2.2.2))))) 8 [(0, .ref hx)] [.int r]
  rw [← hQ]
  exact r_iret hc hr hlk u e1 rfl dX5_subgroup_8
set_option maxHeartbeats 4000000 in
set_option maxRecDepth 100000 in
/-- begin(k) -/
theorem c_begin (l : Launch) (D : va_G) (cI cZ cW : ClassId) (hx hh hr1 hs1 h hi ha n : Nat) (ah : Nat) (hcol : Nat → Nat) (hlen : Nat) (ar : Nat) (rwa rca : Nat → Nat) (rcol : Nat → Nat → Nat) (rlen : Nat → Nat) (nr : Nat) (as : Nat) (swa sca : Nat → Nat) (scol : Nat → Nat → Nat) (slen : Nat → Nat) (ns : Nat) (aE aL aF aR aS : Nat) (σ : CS) (aU aN aT aG : Nat) (α : AS) (k : Nat) (hk1 : 1 ≤ k) (hk3 : k ≤ 3) (hB : BD σ) : CtI l yX5_begin cX5_begin 2 (some .int) 3 63 0 0 D cI cZ cW [.ref hx, .int (nI k)] (wT0 hx hh hr1 hs1 h hi ha n ++ (wW cI hh ah hcol hlen ++ (wL cI cW hr1 ar 10 rwa rca rcol rlen nr ++ (wL cI cW hs1 as 5 swa sca scol slen ns ++ (wS cI cZ h aE aL aF aR aS σ ++ (wA cI cZ ha h hs1 aU aN aT aG α)))))) ([]) (S := Nat × Nat × Nat × Nat × CS × AS) (fun r u => r = nI 0 ∧ u = (k, 0, 0, 0, fMake (fSt0 σ (2 * k)), (tU α, tN α, tS α, tR α, 0))) (fun u => wT0 hx hh hr1 hs1 h hi ha u.1 ++ (wW cI hh ah hcol u.2.1 ++ (wL cI cW hr1 ar 10 rwa rca rcol rlen u.2.2.1 ++ (wL cI cW hs1 as 5 swa sca scol slen u.2.2.2.1 ++ (wS cI cZ h aE aL aF aR aS u.2.2.2.2.1 ++ wA cI cZ ha h hs1 aU aN aT aG u.2.2.2.2.2))))) := by
  refine CtI.mk (by decide) (Nat.le_of_ble_eq_true rfl) ?_
  intro p e s m args below meth c A hc hr hlk hnm hro
  generalize hQ : MQ below _ args s 0 0 A = Q
  show V p l e (RM 3 63 0 0) s m args below meth c D A 2 0 0 Q (wT0 hx hh hr1 hs1 h hi ha n ++ (wW cI hh ah hcol hlen ++ (wL cI cW hr1 ar 10 rwa rca rcol rlen nr ++ (wL cI cW hs1 as 5 swa sca scol slen ns ++ (wS cI cZ h aE aL aF aR aS σ ++ (wA cI cZ ha h hs1 aU aN aT aG α)))))) 0 [(0, .ref hx), (1, .int (nI k))] []
  refine r_iload_n hc dX5_begin_0 rfl 1 rfl ?_
  refine r_iconst (v := (nI 1)) hc dX5_begin_1 rfl ?_
  refine n_icmp_lt hc 10 dX5_begin_2 (by decide) (by omega) (by omega) (fun h1 => ?_) (fun h1 => ?_)
  · exact absurd h1 (by omega)
  · refine r_iload_n hc dX5_begin_5 rfl 1 rfl ?_
    refine r_iconst (v := (nI 3)) hc dX5_begin_6 rfl ?_
    refine n_icmp_le hc 12 dX5_begin_7 (by decide) (by omega) (by omega) (fun h2 => ?_) (fun h2 => ?_)
    · refine r_aload_n hc dX5_begin_12 rfl 0 rfl ?_
      refine r_iload_n hc dX5_begin_13 rfl 1 rfl ?_
      refine r_put (ws' := wT0 hx hh hr1 hs1 h hi ha k ++ (wW cI hh ah hcol hlen ++ (wL cI cW hr1 ar 10 rwa rca rcol rlen nr ++ (wL cI cW hs1 as 5 swa sca scol slen ns ++ (wS cI cZ h aE aL aF aR aS σ ++ (wA cI cZ ha h hs1 aU aN aT aG α)))))) hc inlX5 tyX5 tyX5_ok nmX5 0 rfl rfl 6 (by decide) fl_X5_53 rfl rfl rfl rfl (Nat.le_of_ble_eq_true rfl) rfl dX5_begin_14 ?_
      refine r_aload_n hc dX5_begin_17 rfl 0 rfl ?_
      refine r_get hc inlX5 0 rfl rfl 1 (by decide) fl_X5_21 rfl rfl dX5_begin_18 ?_
      refine r_iconst (v := (nI 0)) hc dX5_begin_21 rfl ?_
      refine r_putN (ws' := wT0 hx hh hr1 hs1 h hi ha k ++ (wW cI hh ah hcol hlen ++ (wL cI cW hr1 ar 10 rwa rca rcol rlen 0 ++ (wL cI cW hs1 as 5 swa sca scol slen ns ++ (wS cI cZ h aE aL aF aR aS σ ++ (wA cI cZ ha h hs1 aU aN aT aG α)))))) hc inlX4 tyX4 tyX4_ok nmX4 3 rfl rfl 1 (by decide) nf_X5_60 rfl rfl rfl rfl (Nat.le_of_ble_eq_true rfl) rfl dX5_begin_22 ?_
      refine r_aload_n hc dX5_begin_25 rfl 0 rfl ?_
      refine r_get hc inlX5 0 rfl rfl 2 (by decide) fl_X5_25 rfl rfl dX5_begin_26 ?_
      refine r_iconst (v := (nI 0)) hc dX5_begin_29 rfl ?_
      refine r_putN (ws' := wT0 hx hh hr1 hs1 h hi ha k ++ (wW cI hh ah hcol hlen ++ (wL cI cW hr1 ar 10 rwa rca rcol rlen 0 ++ (wL cI cW hs1 as 5 swa sca scol slen 0 ++ (wS cI cZ h aE aL aF aR aS σ ++ (wA cI cZ ha h hs1 aU aN aT aG α)))))) hc inlX4 tyX4 tyX4_ok nmX4 25 rfl rfl 1 (by decide) nf_X5_60 rfl rfl rfl rfl (Nat.le_of_ble_eq_true rfl) rfl dX5_begin_30 ?_
      refine r_aload_n hc dX5_begin_33 rfl 0 rfl ?_
      refine r_get hc inlX5 0 rfl rfl 0 (by decide) fl_X5_12 rfl rfl dX5_begin_34 ?_
      refine r_iconst (v := (nI 0)) hc dX5_begin_37 rfl ?_
      refine r_putN (ws' := wT0 hx hh hr1 hs1 h hi ha k ++ (wW cI hh ah hcol 0 ++ (wL cI cW hr1 ar 10 rwa rca rcol rlen 0 ++ (wL cI cW hs1 as 5 swa sca scol slen 0 ++ (wS cI cZ h aE aL aF aR aS σ ++ (wA cI cZ ha h hs1 aU aN aT aG α)))))) hc inlX3 tyX3 tyX3_ok nmX3 1 rfl rfl 1 (by decide) nf_X5_63 rfl rfl rfl rfl (Nat.le_of_ble_eq_true rfl) rfl dX5_begin_38 ?_
      refine r_aload_n hc dX5_begin_41 rfl 0 rfl ?_
      refine r_callV (As := []) (n := 0) (wr := wT0 hx hh hr1 hs1 h hi ha k ++ (wW cI hh ah hcol 0 ++ (wL cI cW hr1 ar 10 rwa rca rcol rlen 0 ++ (wL cI cW hs1 as 5 swa sca scol slen 0)))) hc (c_startTable l D cI cZ cW hx hh hr1 hs1 h hi ha k aE aL aF aR aS σ aU aN aT aG α (by omega) hB) co_yX5_startTable in_X5 ml_X5_57 (by decide +kernel) rfl ⟨by decide, by decide⟩ ⟨by decide, by decide⟩ im_yX5_startTable se_yX5_startTable rfl (Or.inl ⟨0, _, rfl⟩) rfl (Nat.le_of_ble_eq_true rfl) [37, 38, 39, 40, 41, 42, 43, 44, 45, 46, 47] [0, 1, 2, 3, 4, 5, 6, 7, 8, 9, 10, 11, 12, 13, 14, 15, 16, 17, 18, 19, 20, 21, 22, 23, 24, 25, 26, 27, 28, 29, 30, 31, 32, 33, 34, 35, 36] rfl rfl rfl rfl (by decide) (fun q hq => Or.inl (ro_of_wr (ws := wT0 hx hh hr1 hs1 h hi ha k ++ (wW cI hh ah hcol 0 ++ (wL cI cW hr1 ar 10 rwa rca rcol rlen 0 ++ (wL cI cW hs1 as 5 swa sca scol slen 0 ++ (wS cI cZ h aE aL aF aR aS σ ++ (wA cI cZ ha h hs1 aU aN aT aG α)))))) (wr := wT0 hx hh hr1 hs1 h hi ha k ++ (wW cI hh ah hcol 0 ++ (wL cI cW hr1 ar 10 rwa rca rcol rlen 0 ++ (wL cI cW hs1 as 5 swa sca scol slen 0)))) [0, 1, 2, 3, 4, 5, 6, 7, 8, 9, 10, 11, 12, 13, 14, 15, 16, 17, 18, 19, 20, 21, 22, 23, 24, 25, 26, 27, 28, 29, 30, 31, 32, 33, 34, 35, 36] rfl (by decide) (List.mem_append_left _ hq))) dX5_begin_42 (fun u9 e3 => ?_)
      show V p l e (RM 3 63 0 0) s m args below meth c D A 2 0 0 Q (wT0 hx hh hr1 hs1 h hi ha k ++ (wW cI hh ah hcol 0 ++ (wL cI cW hr1 ar 10 rwa rca rcol rlen 0 ++ (wL cI cW hs1 as 5 swa sca scol slen 0 ++ (wS cI cZ h aE aL aF aR aS (u9).1 ++ (wA cI cZ ha h hs1 aU aN aT aG (u9).2)))))) 45 [(0, .ref hx), (1, .int (nI k))] []
      subst e3
      show V p l e (RM 3 63 0 0) s m args below meth c D A 2 0 0 Q (wT0 hx hh hr1 hs1 h hi ha k ++ (wW cI hh ah hcol 0 ++ (wL cI cW hr1 ar 10 rwa rca rcol rlen 0 ++ (wL cI cW hs1 as 5 swa sca scol slen 0 ++ (wS cI cZ h aE aL aF aR aS (fMake (fSt0 σ (2 * k))) ++ (wA cI cZ ha h hs1 aU aN aT aG (tU α, tN α, tS α, tR α, 0))))))) 45 [(0, .ref hx), (1, .int (nI k))] []
      refine r_iconst (v := (nI 0)) hc dX5_begin_45 rfl ?_
      rw [← hQ]
      exact r_iret hc hr hlk (k, 0, 0, 0, fMake (fSt0 σ (2 * k)), (tU α, tN α, tS α, tR α, 0)) (⟨rfl, rfl⟩) rfl dX5_begin_46
    · exact absurd h2 (by omega)
set_option maxHeartbeats 4000000 in
set_option maxRecDepth 100000 in
/-- begin(v), refused -/
theorem c_begin_bad (l : Launch) (D : va_G) (cI cZ cW : ClassId) (hx : Nat) (v : Int32) (hbad : v < nI 1 ∨ ¬ v ≤ nI 3) : CtI l yX5_begin cX5_begin 2 (some .int) 3 63 0 0 D cI cZ cW [.ref hx, .int v] ([]) ([]) (S := Unit) (fun r _ => r = -1) (fun _ => []) := by
  refine CtI.mk (by decide) (Nat.le_of_ble_eq_true rfl) ?_
  intro p e s m args below meth c A hc hr hlk hnm hro
  generalize hQ : MQ below _ args s 0 0 A = Q
  show V p l e (RM 3 63 0 0) s m args below meth c D A 2 0 0 Q ([]) 0 [(0, .ref hx), (1, .int v)] []
  refine r_iload_n hc dX5_begin_0 rfl 1 rfl ?_
  refine r_iconst (v := (nI 1)) hc dX5_begin_1 rfl ?_
  refine r_icmp_lt hc 10 dX5_begin_2 (by decide) (fun h1 => ?_) (fun h1 => ?_)
  · refine r_iconst (v := (-1)) hc dX5_begin_10 rfl ?_
    rw [← hQ]
    exact r_iret hc hr hlk () (rfl) rfl dX5_begin_11
  · refine r_iload_n hc dX5_begin_5 rfl 1 rfl ?_
    refine r_iconst (v := (nI 3)) hc dX5_begin_6 rfl ?_
    refine r_icmp_le hc 12 dX5_begin_7 (by decide) (fun h2 => ?_) (fun h2 => ?_)
    · exact absurd h2 (hbad.resolve_left h1)
    · refine r_iconst (v := (-1)) hc dX5_begin_10 rfl ?_
      rw [← hQ]
      exact r_iret hc hr hlk () (rfl) rfl dX5_begin_11
set_option maxHeartbeats 4000000 in
set_option maxRecDepth 100000 in
/-- run(v), refused -/
theorem c_run_bad (l : Launch) (D : va_G) (cI cZ cW : ClassId) (hx : Nat) (v : Int32) (hbad : v < nI 1 ∨ ¬ v ≤ nI 200) : CtI l yX5_run cX5_run 3 (some .int) 6 150 0 0 D cI cZ cW [.ref hx, .int v] ([]) ([]) (S := Unit) (fun r _ => r = -1) (fun _ => []) := by
  refine CtI.mk (by decide) (Nat.le_of_ble_eq_true rfl) ?_
  intro p e s m args below meth c A hc hr hlk hnm hro
  generalize hQ : MQ below _ args s 0 0 A = Q
  show V p l e (RM 6 150 0 0) s m args below meth c D A 3 0 0 Q ([]) 0 [(0, .ref hx), (1, .int v)] []
  refine r_iload_n hc dX5_run_0 rfl 1 rfl ?_
  refine r_iconst (v := (nI 1)) hc dX5_run_1 rfl ?_
  refine r_icmp_lt hc 12 dX5_run_2 (by decide) (fun h1 => ?_) (fun h1 => ?_)
  · refine r_iconst (v := (-1)) hc dX5_run_12 rfl ?_
    rw [← hQ]
    exact r_iret hc hr hlk () (rfl) rfl dX5_run_13
  · refine r_iload_n hc dX5_run_5 rfl 1 rfl ?_
    refine r_sipush (v := (nI 200)) hc dX5_run_6 rfl ?_
    refine r_icmp_le hc 14 dX5_run_9 (by decide) (fun h2 => ?_) (fun h2 => ?_)
    · exact absurd h2 (hbad.resolve_left h1)
    · refine r_iconst (v := (-1)) hc dX5_run_12 rfl ?_
      rw [← hQ]
      exact r_iret hc hr hlk () (rfl) rfl dX5_run_13
