section RULES6
variable {p : Program} {l : Launch} {e : Env} {R : Room} {s : State} {m : MethodId} {args : Array Value} {below : List Frame} {meth : Method} {c : Code} {D : va_G} {A : Nat → Prop} {nL cells slots : Nat} {Q : State → Prop} {ws : va_W} {pc : Nat} {lv : List (Nat × Value)} {st : List Value}
variable {cc : ByteArray} {own : String} {cI cZ cW : ClassId}
theorem r_tsIn (hc : CX p s m args c cc nL own D cI cZ cW A) {dflt lo hi : Int} {offs : Array Int} {len : Nat} {x : Int32} {off : Int} (tgt : Nat) (hdg : decode cc pc = .ok (.tableswitch dflt lo hi offs, len)) (h1 : ¬ x.toInt < lo) (h2 : ¬ hi < x.toInt) (ho : offs[(x.toInt - lo).toNat]? = some off) (ht : (pc : Int) + off = (tgt : Int)) (kk : V p l e R s m args below meth c D A nL cells slots Q ws tgt lv st) : V p l e R s m args below meth c D A nL cells slots Q ws pc lv (.int x :: st) := fun H locs ls hP hD hS hL => lv_tableIn hc.1 hc.2.1 hdg h1 h2 ho ht (kk H locs ls hP hD hS hL)
theorem r_tsOut (hc : CX p s m args c cc nL own D cI cZ cW A) {dflt lo hi : Int} {offs : Array Int} {len : Nat} {x : Int32} (tgt : Nat) (hdg : decode cc pc = .ok (.tableswitch dflt lo hi offs, len)) (h : x.toInt < lo ∨ hi < x.toInt) (ht : (pc : Int) + dflt = (tgt : Int)) (kk : V p l e R s m args below meth c D A nL cells slots Q ws tgt lv st) : V p l e R s m args below meth c D A nL cells slots Q ws pc lv (.int x :: st) := fun H locs ls hP hD hS hL => lv_tableOut hc.1 hc.2.1 hdg h ht (kk H locs ls hP hD hS hL)
end RULES6
def knI (o : Option Nat) : Int32 := match o with | none => -2 | some d => nI d
set_option maxHeartbeats 4000000 in
set_option maxRecDepth 100000 in
/-- count(0) -/
theorem c_count_0 (l : Launch) (D : va_G) (cI cZ cW : ClassId) (hx hh hr1 hs1 h hi ha n : Nat) (ah : Nat) (hcol : Nat → Nat) (hlen : Nat) (ar : Nat) (rwa rca : Nat → Nat) (rcol : Nat → Nat → Nat) (rlen : Nat → Nat) (nr : Nat) (as : Nat) (swa sca : Nat → Nat) (scol : Nat → Nat → Nat) (slen : Nat → Nat) (ns : Nat) (aE aL aF aR aS : Nat) (σ : CS) (aU aN aT aG : Nat) (α : AS) (hB : BD σ) (hBA : BA α) : CtI l yX5_count cX5_count 2 (some .int) 3 64 0 0 D cI cZ cW [.ref hx, .int (nI 0)] ([]) (wT0 hx hh hr1 hs1 h hi ha n ++ (wW cI hh ah hcol hlen ++ (wL cI cW hr1 ar 10 rwa rca rcol rlen nr ++ (wL cI cW hs1 as 5 swa sca scol slen ns ++ (wS cI cZ h aE aL aF aR aS σ ++ (wA cI cZ ha h hs1 aU aN aT aG α)))))) (S := Unit) (fun r _ => r = nI (sM σ)) (fun _ => []) := by
  refine CtI.mk (by decide) (Nat.le_of_ble_eq_true rfl) ?_
  intro p e s m args below meth c A hc hr hlk hnm hro
  generalize hQ : MQ below _ args s 0 0 A = Q
  show V p l e (RM 3 64 0 0) s m args below meth c D A 2 0 0 Q ([]) 0 [(0, .ref hx), (1, .int (nI 0))] []
  refine r_iload_n hc dX5_count_0 rfl 1 rfl ?_
  refine r_tsIn (off := 47) hc 48 dX5_count_1 (by decide) (by decide) (by decide) (by decide) ?_
  refine r_aload_n hc dX5_count_48 rfl 0 rfl ?_
  refine r_getR hc inlX5 (hro _ (List.mem_of_getElem? (i := 0) rfl)) rfl 3 (by decide) fl_X5_31 rfl rfl dX5_count_49 ?_
  refine r_getRN hc inlX1 (hro _ (List.mem_of_getElem? (i := 37) rfl)) rfl 9 (by decide) nf_X5_84 rfl rfl dX5_count_52 ?_
  rw [← hQ]
  exact r_iret hc hr hlk () (rfl) rfl dX5_count_55
set_option maxHeartbeats 4000000 in
set_option maxRecDepth 100000 in
/-- count(1) -/
theorem c_count_1 (l : Launch) (D : va_G) (cI cZ cW : ClassId) (hx hh hr1 hs1 h hi ha n : Nat) (ah : Nat) (hcol : Nat → Nat) (hlen : Nat) (ar : Nat) (rwa rca : Nat → Nat) (rcol : Nat → Nat → Nat) (rlen : Nat → Nat) (nr : Nat) (as : Nat) (swa sca : Nat → Nat) (scol : Nat → Nat → Nat) (slen : Nat → Nat) (ns : Nat) (aE aL aF aR aS : Nat) (σ : CS) (aU aN aT aG : Nat) (α : AS) (hB : BD σ) (hBA : BA α) : CtI l yX5_count cX5_count 2 (some .int) 3 64 0 0 D cI cZ cW [.ref hx, .int (nI 1)] ([]) (wT0 hx hh hr1 hs1 h hi ha n ++ (wW cI hh ah hcol hlen ++ (wL cI cW hr1 ar 10 rwa rca rcol rlen nr ++ (wL cI cW hs1 as 5 swa sca scol slen ns ++ (wS cI cZ h aE aL aF aR aS σ ++ (wA cI cZ ha h hs1 aU aN aT aG α)))))) (S := Unit) (fun r _ => r = nI (sV σ)) (fun _ => []) := by
  refine CtI.mk (by decide) (Nat.le_of_ble_eq_true rfl) ?_
  intro p e s m args below meth c A hc hr hlk hnm hro
  generalize hQ : MQ below _ args s 0 0 A = Q
  show V p l e (RM 3 64 0 0) s m args below meth c D A 2 0 0 Q ([]) 0 [(0, .ref hx), (1, .int (nI 1))] []
  refine r_iload_n hc dX5_count_0 rfl 1 rfl ?_
  refine r_tsIn (off := 55) hc 56 dX5_count_1 (by decide) (by decide) (by decide) (by decide) ?_
  refine r_aload_n hc dX5_count_56 rfl 0 rfl ?_
  refine r_getR hc inlX5 (hro _ (List.mem_of_getElem? (i := 0) rfl)) rfl 3 (by decide) fl_X5_31 rfl rfl dX5_count_57 ?_
  refine r_getRN hc inlX1 (hro _ (List.mem_of_getElem? (i := 37) rfl)) rfl 10 (by decide) nf_X5_98 rfl rfl dX5_count_60 ?_
  rw [← hQ]
  exact r_iret hc hr hlk () (rfl) rfl dX5_count_63
set_option maxHeartbeats 4000000 in
set_option maxRecDepth 100000 in
/-- count(2) -/
theorem c_count_2 (l : Launch) (D : va_G) (cI cZ cW : ClassId) (hx hh hr1 hs1 h hi ha n : Nat) (ah : Nat) (hcol : Nat → Nat) (hlen : Nat) (ar : Nat) (rwa rca : Nat → Nat) (rcol : Nat → Nat → Nat) (rlen : Nat → Nat) (nr : Nat) (as : Nat) (swa sca : Nat → Nat) (scol : Nat → Nat → Nat) (slen : Nat → Nat) (ns : Nat) (aE aL aF aR aS : Nat) (σ : CS) (aU aN aT aG : Nat) (α : AS) (hB : BD σ) (hBA : BA α) : CtI l yX5_count cX5_count 2 (some .int) 3 64 0 0 D cI cZ cW [.ref hx, .int (nI 2)] ([]) (wT0 hx hh hr1 hs1 h hi ha n ++ (wW cI hh ah hcol hlen ++ (wL cI cW hr1 ar 10 rwa rca rcol rlen nr ++ (wL cI cW hs1 as 5 swa sca scol slen ns ++ (wS cI cZ h aE aL aF aR aS σ ++ (wA cI cZ ha h hs1 aU aN aT aG α)))))) (S := Unit) (fun r _ => r = nI (cntO σ (sM σ * 6))) (fun _ => []) := by
  refine CtI.mk (by decide) (Nat.le_of_ble_eq_true rfl) ?_
  intro p e s m args below meth c A hc hr hlk hnm hro
  generalize hQ : MQ below _ args s 0 0 A = Q
  show V p l e (RM 3 64 0 0) s m args below meth c D A 2 0 0 Q ([]) 0 [(0, .ref hx), (1, .int (nI 2))] []
  refine r_iload_n hc dX5_count_0 rfl 1 rfl ?_
  refine r_tsIn (off := 63) hc 64 dX5_count_1 (by decide) (by decide) (by decide) (by decide) ?_
  refine r_aload_n hc dX5_count_64 rfl 0 rfl ?_
  refine r_getR hc inlX5 (hro _ (List.mem_of_getElem? (i := 0) rfl)) rfl 3 (by decide) fl_X5_31 rfl rfl dX5_count_65 ?_
  refine r_callI (As := []) (n := 0) (wr := []) hc (c_countOpen l D cI cZ cW h aE aL aF aR aS σ hB) co_yX1_countOpen in_X1 ml_X5_101 (by decide +kernel) rfl ⟨by decide, by decide⟩ ⟨by decide, by decide⟩ im_yX1_countOpen se_yX1_countOpen rfl (Or.inr ⟨_, (hro _ (List.mem_of_getElem? (i := 37) rfl))⟩) rfl (Nat.le_of_ble_eq_true rfl) [] [] rfl rfl rfl rfl (by decide) (fun q hq => Or.inr (hro q (List.mem_append_right _ (List.mem_append_right _ (List.mem_append_right _ (List.mem_append_right _ (List.mem_append_left _ hq))))))) dX5_count_68 (fun r1 u2 e3 => ?_)
  subst e3
  rw [← hQ]
  exact r_iret hc hr hlk () (rfl) rfl dX5_count_71
set_option maxHeartbeats 4000000 in
set_option maxRecDepth 100000 in
/-- count(3) -/
theorem c_count_3 (l : Launch) (D : va_G) (cI cZ cW : ClassId) (hx hh hr1 hs1 h hi ha n : Nat) (ah : Nat) (hcol : Nat → Nat) (hlen : Nat) (ar : Nat) (rwa rca : Nat → Nat) (rcol : Nat → Nat → Nat) (rlen : Nat → Nat) (nr : Nat) (as : Nat) (swa sca : Nat → Nat) (scol : Nat → Nat → Nat) (slen : Nat → Nat) (ns : Nat) (aE aL aF aR aS : Nat) (σ : CS) (aU aN aT aG : Nat) (α : AS) (hB : BD σ) (hBA : BA α) : CtI l yX5_count cX5_count 2 (some .int) 3 64 0 0 D cI cZ cW [.ref hx, .int (nI 3)] ([]) (wT0 hx hh hr1 hs1 h hi ha n ++ (wW cI hh ah hcol hlen ++ (wL cI cW hr1 ar 10 rwa rca rcol rlen nr ++ (wL cI cW hs1 as 5 swa sca scol slen ns ++ (wS cI cZ h aE aL aF aR aS σ ++ (wA cI cZ ha h hs1 aU aN aT aG α)))))) (S := Unit) (fun r _ => r = nI (if 0 < tZ α then 1 else 0)) (fun _ => []) := by
  refine CtI.mk (by decide) (Nat.le_of_ble_eq_true rfl) ?_
  intro p e s m args below meth c A hc hr hlk hnm hro
  generalize hQ : MQ below _ args s 0 0 A = Q
  show V p l e (RM 3 64 0 0) s m args below meth c D A 2 0 0 Q ([]) 0 [(0, .ref hx), (1, .int (nI 3))] []
  refine r_iload_n hc dX5_count_0 rfl 1 rfl ?_
  refine r_tsIn (off := 71) hc 72 dX5_count_1 (by decide) (by decide) (by decide) (by decide) ?_
  refine r_aload_n hc dX5_count_72 rfl 0 rfl ?_
  refine r_getR hc inlX5 (hro _ (List.mem_of_getElem? (i := 0) rfl)) rfl 5 (by decide) fl_X5_49 rfl rfl dX5_count_73 ?_
  refine r_callI (As := []) (n := 0) (wr := []) hc (c_isReady l D cI cZ cW ha h hs1 aU aN aT aG α hBA) co_yX0_isReady in_X0 ml_X5_104 (by decide +kernel) rfl ⟨by decide, by decide⟩ ⟨by decide, by decide⟩ im_yX0_isReady se_yX0_isReady rfl (Or.inr ⟨_, (hro _ (List.mem_of_getElem? (i := 43) rfl))⟩) rfl (Nat.le_of_ble_eq_true rfl) [] [] rfl rfl rfl rfl (by decide) (fun q hq => Or.inr (hro q (List.mem_append_right _ (List.mem_append_right _ (List.mem_append_right _ (List.mem_append_right _ (List.mem_append_right _ (hq)))))))) dX5_count_76 (fun r1 u2 e3 => ?_)
  subst e3
  refine z_if_eq hc 86 dX5_count_79 (by decide) (fun h4 => ?_) (fun h4 => ?_)
  · refine r_iconst (v := (nI 0)) hc dX5_count_86 rfl ?_
    rw [← hQ]
    exact r_iret hc hr hlk () (by simp at h4; first | (rw [if_pos h4]) | (rw [if_neg (by omega)])) rfl dX5_count_87
  · refine r_iconst (v := (nI 1)) hc dX5_count_82 rfl ?_
    refine r_goto hc 87 dX5_count_83 (by decide) ?_
    rw [← hQ]
    exact r_iret hc hr hlk () (by simp at h4; first | (rw [if_pos h4]) | (rw [if_neg (by omega)])) rfl dX5_count_87
set_option maxHeartbeats 4000000 in
set_option maxRecDepth 100000 in
/-- count(4) -/
theorem c_count_4 (l : Launch) (D : va_G) (cI cZ cW : ClassId) (hx hh hr1 hs1 h hi ha n : Nat) (ah : Nat) (hcol : Nat → Nat) (hlen : Nat) (ar : Nat) (rwa rca : Nat → Nat) (rcol : Nat → Nat → Nat) (rlen : Nat → Nat) (nr : Nat) (as : Nat) (swa sca : Nat → Nat) (scol : Nat → Nat → Nat) (slen : Nat → Nat) (ns : Nat) (aE aL aF aR aS : Nat) (σ : CS) (aU aN aT aG : Nat) (α : AS) (hB : BD σ) (hBA : BA α) : CtI l yX5_count cX5_count 2 (some .int) 3 64 0 0 D cI cZ cW [.ref hx, .int (nI 4)] ([]) (wT0 hx hh hr1 hs1 h hi ha n ++ (wW cI hh ah hcol hlen ++ (wL cI cW hr1 ar 10 rwa rca rcol rlen nr ++ (wL cI cW hs1 as 5 swa sca scol slen ns ++ (wS cI cZ h aE aL aF aR aS σ ++ (wA cI cZ ha h hs1 aU aN aT aG α)))))) (S := Unit) (fun r _ => r = (if 0 < tZ α then nI (tZ α) else -2)) (fun _ => []) := by
  refine CtI.mk (by decide) (Nat.le_of_ble_eq_true rfl) ?_
  intro p e s m args below meth c A hc hr hlk hnm hro
  generalize hQ : MQ below _ args s 0 0 A = Q
  show V p l e (RM 3 64 0 0) s m args below meth c D A 2 0 0 Q ([]) 0 [(0, .ref hx), (1, .int (nI 4))] []
  refine r_iload_n hc dX5_count_0 rfl 1 rfl ?_
  refine r_tsIn (off := 87) hc 88 dX5_count_1 (by decide) (by decide) (by decide) (by decide) ?_
  refine r_aload_n hc dX5_count_88 rfl 0 rfl ?_
  refine r_getR hc inlX5 (hro _ (List.mem_of_getElem? (i := 0) rfl)) rfl 5 (by decide) fl_X5_49 rfl rfl dX5_count_89 ?_
  refine r_callI (As := []) (n := 0) (wr := []) hc (c_isReady l D cI cZ cW ha h hs1 aU aN aT aG α hBA) co_yX0_isReady in_X0 ml_X5_104 (by decide +kernel) rfl ⟨by decide, by decide⟩ ⟨by decide, by decide⟩ im_yX0_isReady se_yX0_isReady rfl (Or.inr ⟨_, (hro _ (List.mem_of_getElem? (i := 43) rfl))⟩) rfl (Nat.le_of_ble_eq_true rfl) [] [] rfl rfl rfl rfl (by decide) (fun q hq => Or.inr (hro q (List.mem_append_right _ (List.mem_append_right _ (List.mem_append_right _ (List.mem_append_right _ (List.mem_append_right _ (hq)))))))) dX5_count_92 (fun r1 u2 e3 => ?_)
  subst e3
  refine z_if_eq hc 108 dX5_count_95 (by decide) (fun h4 => ?_) (fun h4 => ?_)
  · refine r_bipush (v := (-2)) hc dX5_count_108 rfl ?_
    rw [← hQ]
    exact r_iret hc hr hlk () (by simp at h4; first | (rw [if_pos h4]) | (rw [if_neg (by omega)])) rfl dX5_count_110
  · refine r_aload_n hc dX5_count_98 rfl 0 rfl ?_
    refine r_getR hc inlX5 (hro _ (List.mem_of_getElem? (i := 0) rfl)) rfl 5 (by decide) fl_X5_49 rfl rfl dX5_count_99 ?_
    refine r_getRN hc inlX0 (hro _ (List.mem_of_getElem? (i := 43) rfl)) rfl 6 (by decide) nf_X5_107 rfl rfl dX5_count_102 ?_
    refine r_goto hc 110 dX5_count_105 (by decide) ?_
    rw [← hQ]
    exact r_iret hc hr hlk () (by simp at h4; first | (rw [if_pos h4]) | (rw [if_neg (by omega)])) rfl dX5_count_110
set_option maxHeartbeats 4000000 in
set_option maxRecDepth 100000 in
/-- count(5) -/
theorem c_count_5 (l : Launch) (D : va_G) (cI cZ cW : ClassId) (hx hh hr1 hs1 h hi ha n : Nat) (ah : Nat) (hcol : Nat → Nat) (hlen : Nat) (ar : Nat) (rwa rca : Nat → Nat) (rcol : Nat → Nat → Nat) (rlen : Nat → Nat) (nr : Nat) (as : Nat) (swa sca : Nat → Nat) (scol : Nat → Nat → Nat) (slen : Nat → Nat) (ns : Nat) (aE aL aF aR aS : Nat) (σ : CS) (aU aN aT aG : Nat) (α : AS) (hB : BD σ) (hBA : BA α) : CtI l yX5_count cX5_count 2 (some .int) 3 64 0 0 D cI cZ cW [.ref hx, .int (nI 5)] ([]) (wT0 hx hh hr1 hs1 h hi ha n ++ (wW cI hh ah hcol hlen ++ (wL cI cW hr1 ar 10 rwa rca rcol rlen nr ++ (wL cI cW hs1 as 5 swa sca scol slen ns ++ (wS cI cZ h aE aL aF aR aS σ ++ (wA cI cZ ha h hs1 aU aN aT aG α)))))) (S := Unit) (fun r _ => r = nI nr) (fun _ => []) := by
  refine CtI.mk (by decide) (Nat.le_of_ble_eq_true rfl) ?_
  intro p e s m args below meth c A hc hr hlk hnm hro
  generalize hQ : MQ below _ args s 0 0 A = Q
  show V p l e (RM 3 64 0 0) s m args below meth c D A 2 0 0 Q ([]) 0 [(0, .ref hx), (1, .int (nI 5))] []
  refine r_iload_n hc dX5_count_0 rfl 1 rfl ?_
  refine r_tsIn (off := 110) hc 111 dX5_count_1 (by decide) (by decide) (by decide) (by decide) ?_
  refine r_aload_n hc dX5_count_111 rfl 0 rfl ?_
  refine r_getR hc inlX5 (hro _ (List.mem_of_getElem? (i := 0) rfl)) rfl 1 (by decide) fl_X5_21 rfl rfl dX5_count_112 ?_
  refine r_getRN hc inlX4 (hro _ (List.mem_of_getElem? (i := 3) rfl)) rfl 1 (by decide) nf_X5_60 rfl rfl dX5_count_115 ?_
  rw [← hQ]
  exact r_iret hc hr hlk () (rfl) rfl dX5_count_118
set_option maxHeartbeats 4000000 in
set_option maxRecDepth 100000 in
/-- count(6) -/
theorem c_count_6 (l : Launch) (D : va_G) (cI cZ cW : ClassId) (hx hh hr1 hs1 h hi ha n : Nat) (ah : Nat) (hcol : Nat → Nat) (hlen : Nat) (ar : Nat) (rwa rca : Nat → Nat) (rcol : Nat → Nat → Nat) (rlen : Nat → Nat) (nr : Nat) (as : Nat) (swa sca : Nat → Nat) (scol : Nat → Nat → Nat) (slen : Nat → Nat) (ns : Nat) (aE aL aF aR aS : Nat) (σ : CS) (aU aN aT aG : Nat) (α : AS) (hB : BD σ) (hBA : BA α) : CtI l yX5_count cX5_count 2 (some .int) 3 64 0 0 D cI cZ cW [.ref hx, .int (nI 6)] ([]) (wT0 hx hh hr1 hs1 h hi ha n ++ (wW cI hh ah hcol hlen ++ (wL cI cW hr1 ar 10 rwa rca rcol rlen nr ++ (wL cI cW hs1 as 5 swa sca scol slen ns ++ (wS cI cZ h aE aL aF aR aS σ ++ (wA cI cZ ha h hs1 aU aN aT aG α)))))) (S := Unit) (fun r _ => r = nI ns) (fun _ => []) := by
  refine CtI.mk (by decide) (Nat.le_of_ble_eq_true rfl) ?_
  intro p e s m args below meth c A hc hr hlk hnm hro
  generalize hQ : MQ below _ args s 0 0 A = Q
  show V p l e (RM 3 64 0 0) s m args below meth c D A 2 0 0 Q ([]) 0 [(0, .ref hx), (1, .int (nI 6))] []
  refine r_iload_n hc dX5_count_0 rfl 1 rfl ?_
  refine r_tsIn (off := 118) hc 119 dX5_count_1 (by decide) (by decide) (by decide) (by decide) ?_
  refine r_aload_n hc dX5_count_119 rfl 0 rfl ?_
  refine r_getR hc inlX5 (hro _ (List.mem_of_getElem? (i := 0) rfl)) rfl 2 (by decide) fl_X5_25 rfl rfl dX5_count_120 ?_
  refine r_getRN hc inlX4 (hro _ (List.mem_of_getElem? (i := 25) rfl)) rfl 1 (by decide) nf_X5_60 rfl rfl dX5_count_123 ?_
  rw [← hQ]
  exact r_iret hc hr hlk () (rfl) rfl dX5_count_126
set_option maxHeartbeats 4000000 in
set_option maxRecDepth 100000 in
/-- count(7) -/
theorem c_count_7 (l : Launch) (D : va_G) (cI cZ cW : ClassId) (hx hh hr1 hs1 h hi ha n : Nat) (ah : Nat) (hcol : Nat → Nat) (hlen : Nat) (ar : Nat) (rwa rca : Nat → Nat) (rcol : Nat → Nat → Nat) (rlen : Nat → Nat) (nr : Nat) (as : Nat) (swa sca : Nat → Nat) (scol : Nat → Nat → Nat) (slen : Nat → Nat) (ns : Nat) (aE aL aF aR aS : Nat) (σ : CS) (aU aN aT aG : Nat) (α : AS) (hB : BD σ) (hBA : BA α) : CtI l yX5_count cX5_count 2 (some .int) 3 64 0 0 D cI cZ cW [.ref hx, .int (nI 7)] ([]) (wT0 hx hh hr1 hs1 h hi ha n ++ (wW cI hh ah hcol hlen ++ (wL cI cW hr1 ar 10 rwa rca rcol rlen nr ++ (wL cI cW hs1 as 5 swa sca scol slen ns ++ (wS cI cZ h aE aL aF aR aS σ ++ (wA cI cZ ha h hs1 aU aN aT aG α)))))) (S := Unit) (fun r _ => r = nI hlen) (fun _ => []) := by
  refine CtI.mk (by decide) (Nat.le_of_ble_eq_true rfl) ?_
  intro p e s m args below meth c A hc hr hlk hnm hro
  generalize hQ : MQ below _ args s 0 0 A = Q
  show V p l e (RM 3 64 0 0) s m args below meth c D A 2 0 0 Q ([]) 0 [(0, .ref hx), (1, .int (nI 7))] []
  refine r_iload_n hc dX5_count_0 rfl 1 rfl ?_
  refine r_tsIn (off := 126) hc 127 dX5_count_1 (by decide) (by decide) (by decide) (by decide) ?_
  refine r_aload_n hc dX5_count_127 rfl 0 rfl ?_
  refine r_getR hc inlX5 (hro _ (List.mem_of_getElem? (i := 0) rfl)) rfl 0 (by decide) fl_X5_12 rfl rfl dX5_count_128 ?_
  refine r_getRN hc inlX3 (hro _ (List.mem_of_getElem? (i := 1) rfl)) rfl 1 (by decide) nf_X5_63 rfl rfl dX5_count_131 ?_
  rw [← hQ]
  exact r_iret hc hr hlk () (rfl) rfl dX5_count_134
set_option maxHeartbeats 4000000 in
set_option maxRecDepth 100000 in
/-- count, refused -/
theorem c_count_bad (l : Launch) (D : va_G) (cI cZ cW : ClassId) (hx hh hr1 hs1 h hi ha n : Nat) (ah : Nat) (hcol : Nat → Nat) (hlen : Nat) (ar : Nat) (rwa rca : Nat → Nat) (rcol : Nat → Nat → Nat) (rlen : Nat → Nat) (nr : Nat) (as : Nat) (swa sca : Nat → Nat) (scol : Nat → Nat → Nat) (slen : Nat → Nat) (ns : Nat) (aE aL aF aR aS : Nat) (σ : CS) (aU aN aT aG : Nat) (α : AS) (v : Int32) (hbad : v.toInt < 0 ∨ 7 < v.toInt) : CtI l yX5_count cX5_count 2 (some .int) 3 64 0 0 D cI cZ cW [.ref hx, .int v] ([]) (wT0 hx hh hr1 hs1 h hi ha n ++ (wW cI hh ah hcol hlen ++ (wL cI cW hr1 ar 10 rwa rca rcol rlen nr ++ (wL cI cW hs1 as 5 swa sca scol slen ns ++ (wS cI cZ h aE aL aF aR aS σ ++ (wA cI cZ ha h hs1 aU aN aT aG α)))))) (S := Unit) (fun r _ => r = -1) (fun _ => []) := by
  refine CtI.mk (by decide) (Nat.le_of_ble_eq_true rfl) ?_
  intro p e s m args below meth c A hc hr hlk hnm hro
  generalize hQ : MQ below _ args s 0 0 A = Q
  show V p l e (RM 3 64 0 0) s m args below meth c D A 2 0 0 Q ([]) 0 [(0, .ref hx), (1, .int v)] []
  refine r_iload_n hc dX5_count_0 rfl 1 rfl ?_
  refine r_tsOut hc 135 dX5_count_1 hbad (by decide) ?_
  refine r_iconst (v := (-1)) hc dX5_count_135 rfl ?_
  rw [← hQ]
  exact r_iret hc hr hlk () (rfl) rfl dX5_count_136
set_option maxHeartbeats 4000000 in
set_option maxRecDepth 100000 in
/-- known(k, y0) -/
theorem c_known (l : Launch) (D : va_G) (cI cZ cW : ClassId) (hx hh hr1 hs1 h hi ha n : Nat) (ah : Nat) (hcol : Nat → Nat) (hlen : Nat) (ar : Nat) (rwa rca : Nat → Nat) (rcol : Nat → Nat → Nat) (rlen : Nat → Nat) (nr : Nat) (as : Nat) (swa sca : Nat → Nat) (scol : Nat → Nat → Nat) (slen : Nat → Nat) (ns : Nat) (aE aL aF aR aS : Nat) (σ : CS) (aU aN aT aG : Nat) (α : AS) (k : Nat) (y0 : Int32) (hn : n ≤ 3) (hk : liv σ k = true) (hy : isLt n y0 = true) (hB : BD σ) : CtI l yX5_known cX5_known 4 (some .int) 1 22 0 0 D cI cZ cW [.ref hx, .int (nI k), .int y0] ([]) (wT0 hx hh hr1 hs1 h hi ha n ++ (wW cI hh ah hcol hlen ++ (wL cI cW hr1 ar 10 rwa rca rcol rlen nr ++ (wL cI cW hs1 as 5 swa sca scol slen ns ++ (wS cI cZ h aE aL aF aR aS σ ++ (wA cI cZ ha h hs1 aU aN aT aG α)))))) (S := Unit) (fun r _ => r = knI (sE σ (k * 6 + colI y0))) (fun _ => []) := by
  refine CtI.mk (by decide) (Nat.le_of_ble_eq_true rfl) ?_
  intro p e s m args below meth c A hc hr hlk hnm hro
  generalize hQ : MQ below _ args s 0 0 A = Q
  have hlk0 : k < sM σ := by simp only [liv, Bool.and_eq_true, decide_eq_true_eq] at hk; exact hk.1
  have bM := hB.1
  have bE := hB.2.2.2.2.2.1
  have hc6 := (isLt_six hn hy).2
  show V p l e (RM 1 22 0 0) s m args below meth c D A 4 0 0 Q ([]) 0 [(0, .ref hx), (1, .int (nI k)), (2, .int y0)] []
  refine r_aload_n hc dX5_known_0 rfl 0 rfl ?_
  refine r_iload_n hc dX5_known_1 rfl 2 rfl ?_
  refine r_callI (As := [.int y0]) (n := 1) (wr := []) hc (c_isLetter l D cI cZ cW hx hh hr1 hs1 h hi ha n y0) co_yX5_isLetter in_X5 ml_X5_66 (by decide +kernel) rfl ⟨by decide, by decide⟩ ⟨by decide, by decide⟩ im_yX5_isLetter se_yX5_isLetter rfl (Or.inr ⟨_, (hro _ (List.mem_of_getElem? (i := 0) rfl))⟩) rfl (Nat.le_of_ble_eq_true rfl) [] [] rfl rfl rfl rfl (by decide) (fun q hq => Or.inr (hro q (List.mem_append_left _ hq))) dX5_known_2 (fun r1 u2 e3 => ?_)
  subst e3
  refine z_if_eq hc 19 dX5_known_5 (by decide) (fun h4 => ?_) (fun h4 => ?_)
  · exact absurd (hy.symm.trans h4) (by decide)
  · refine r_aload_n hc dX5_known_8 rfl 0 rfl ?_
    refine r_getR hc inlX5 (hro _ (List.mem_of_getElem? (i := 0) rfl)) rfl 3 (by decide) fl_X5_31 rfl rfl dX5_known_9 ?_
    refine r_iload_n hc dX5_known_12 rfl 1 rfl ?_
    refine r_callI (As := [.int (nI k)]) (n := 1) (wr := []) hc (c_lives l D cI cZ cW h aE aL aF aR aS σ (nI k) hB) co_yX1_lives in_X1 ml_X5_108 (by decide +kernel) rfl ⟨by decide, by decide⟩ ⟨by decide, by decide⟩ im_yX1_lives se_yX1_lives rfl (Or.inr ⟨_, (hro _ (List.mem_of_getElem? (i := 37) rfl))⟩) rfl (Nat.le_of_ble_eq_true rfl) [] [] rfl rfl rfl rfl (by decide) (fun q hq => Or.inr (hro q (List.mem_append_right _ (List.mem_append_right _ (List.mem_append_right _ (List.mem_append_right _ (List.mem_append_left _ hq))))))) dX5_known_13 (fun r5 u6 e7 => ?_)
    subst e7
    rw [livI_n _ (by omega)]
    refine z_if_ne hc 21 dX5_known_16 (by decide) (fun h8 => ?_) (fun h8 => ?_)
    · refine r_aload_n hc dX5_known_21 rfl 0 rfl ?_
      refine r_getR hc inlX5 (hro _ (List.mem_of_getElem? (i := 0) rfl)) rfl 3 (by decide) fl_X5_31 rfl rfl dX5_known_22 ?_
      refine r_iload_n hc dX5_known_25 rfl 1 rfl ?_
      refine r_iload_n hc dX5_known_26 rfl 2 rfl ?_
      refine r_callsI (As := [.int y0]) (n := 1) (wr := []) hc (c_columnOf l D cI cZ cW y0 (isLt_six hn hy).1) co_yX5_columnOf in_X5 ml_X5_70 (by decide +kernel) rfl ⟨by decide, by decide⟩ ⟨by decide, by decide⟩ st_yX5_columnOf rfl (Nat.le_of_ble_eq_true rfl) [] [] rfl rfl rfl rfl (by decide) (fun q hq => absurd hq List.not_mem_nil) dX5_known_27 (fun r9 u10 e11 => ?_)
      subst e11
      show V p l e (RM 1 22 0 0) s m args below meth c D A 4 0 0 Q ([]) 30 [(0, .ref hx), (1, .int (nI k)), (2, .int y0)] [.int (nI (colI y0)), .int (nI k), .ref h]
      refine r_callI (As := [.int (nI k), .int (nI (colI y0))]) (n := 2) (wr := []) hc (c_at l D cI cZ cW h aE aL aF aR aS σ k (colI y0) (by omega) (by omega)) co_yX1_at in_X1 ml_X5_111 (by decide +kernel) rfl ⟨by decide, by decide⟩ ⟨by decide, by decide⟩ im_yX1_at se_yX1_at rfl (Or.inr ⟨_, (hro _ (List.mem_of_getElem? (i := 37) rfl))⟩) rfl (Nat.le_of_ble_eq_true rfl) [] [] rfl rfl rfl rfl (by decide) (fun q hq => Or.inr (hro q (List.mem_append_right _ (List.mem_append_right _ (List.mem_append_right _ (List.mem_append_right _ (List.mem_append_left _ hq))))))) dX5_known_30 (fun r12 u13 e14 => ?_)
      subst e14
      show V p l e (RM 1 22 0 0) s m args below meth c D A 4 0 0 Q ([]) 33 [(0, .ref hx), (1, .int (nI k)), (2, .int y0)] [.int (eI (sE σ (k * 6 + colI y0)))]
      refine r_istore_n (lv' := [(3, .int (eI (sE σ (k * 6 + colI y0)))), (0, .ref hx), (1, .int (nI k)), (2, .int y0)]) hc dX5_known_33 rfl (by decide) rfl ?_
      refine r_iload_n hc dX5_known_34 rfl 0 rfl ?_
      refine r_iconst (v := (-1)) hc dX5_known_35 rfl ?_
      refine e_icmp_ne hc 44 dX5_known_36 (by decide) (fun d h => Nat.lt_trans (bE _ d h) (by decide)) (fun d16 h15 => ?_) (fun h15 => ?_)
      · rw [h15]
        show V _ _ _ _ _ _ _ _ _ _ _ _ _ _ _ _ _ _ [(3, .int (nI d16)), (0, .ref hx), (1, .int (nI k)), (2, .int y0)] []
        refine r_iload_n hc dX5_known_44 rfl 0 rfl ?_
        rw [← hQ]
        exact r_iret hc hr hlk () (by rw [h15]; rfl) rfl dX5_known_45
      · refine r_bipush (v := (-2)) hc dX5_known_39 rfl ?_
        refine r_goto hc 45 dX5_known_41 (by decide) ?_
        rw [← hQ]
        exact r_iret hc hr hlk () (by rw [h15]; rfl) rfl dX5_known_45
    · exact absurd (hk.symm.trans h8) (by decide)
set_option maxHeartbeats 4000000 in
set_option maxRecDepth 100000 in
/-- known, refused -/
theorem c_known_bad (l : Launch) (D : va_G) (cI cZ cW : ClassId) (hx hh hr1 hs1 h hi ha n : Nat) (ah : Nat) (hcol : Nat → Nat) (hlen : Nat) (ar : Nat) (rwa rca : Nat → Nat) (rcol : Nat → Nat → Nat) (rlen : Nat → Nat) (nr : Nat) (as : Nat) (swa sca : Nat → Nat) (scol : Nat → Nat → Nat) (slen : Nat → Nat) (ns : Nat) (aE aL aF aR aS : Nat) (σ : CS) (aU aN aT aG : Nat) (α : AS) (v y0 : Int32) (hbad : isLt n y0 = false ∨ livI σ v = false) (hB : BD σ) : CtI l yX5_known cX5_known 4 (some .int) 1 22 0 0 D cI cZ cW [.ref hx, .int v, .int y0] ([]) (wT0 hx hh hr1 hs1 h hi ha n ++ (wW cI hh ah hcol hlen ++ (wL cI cW hr1 ar 10 rwa rca rcol rlen nr ++ (wL cI cW hs1 as 5 swa sca scol slen ns ++ (wS cI cZ h aE aL aF aR aS σ ++ (wA cI cZ ha h hs1 aU aN aT aG α)))))) (S := Unit) (fun r _ => r = -1) (fun _ => []) := by
  refine CtI.mk (by decide) (Nat.le_of_ble_eq_true rfl) ?_
  intro p e s m args below meth c A hc hr hlk hnm hro
  generalize hQ : MQ below _ args s 0 0 A = Q
  show V p l e (RM 1 22 0 0) s m args below meth c D A 4 0 0 Q ([]) 0 [(0, .ref hx), (1, .int v), (2, .int y0)] []
  refine r_aload_n hc dX5_known_0 rfl 0 rfl ?_
  refine r_iload_n hc dX5_known_1 rfl 2 rfl ?_
  refine r_callI (As := [.int y0]) (n := 1) (wr := []) hc (c_isLetter l D cI cZ cW hx hh hr1 hs1 h hi ha n y0) co_yX5_isLetter in_X5 ml_X5_66 (by decide +kernel) rfl ⟨by decide, by decide⟩ ⟨by decide, by decide⟩ im_yX5_isLetter se_yX5_isLetter rfl (Or.inr ⟨_, (hro _ (List.mem_of_getElem? (i := 0) rfl))⟩) rfl (Nat.le_of_ble_eq_true rfl) [] [] rfl rfl rfl rfl (by decide) (fun q hq => Or.inr (hro q (List.mem_append_left _ hq))) dX5_known_2 (fun r1 u2 e3 => ?_)
  subst e3
  refine z_if_eq hc 19 dX5_known_5 (by decide) (fun h4 => ?_) (fun h4 => ?_)
  · refine r_iconst (v := (-1)) hc dX5_known_19 rfl ?_
    rw [← hQ]
    exact r_iret hc hr hlk () (rfl) rfl dX5_known_20
  · refine r_aload_n hc dX5_known_8 rfl 0 rfl ?_
    refine r_getR hc inlX5 (hro _ (List.mem_of_getElem? (i := 0) rfl)) rfl 3 (by decide) fl_X5_31 rfl rfl dX5_known_9 ?_
    refine r_iload_n hc dX5_known_12 rfl 1 rfl ?_
    refine r_callI (As := [.int v]) (n := 1) (wr := []) hc (c_lives l D cI cZ cW h aE aL aF aR aS σ v hB) co_yX1_lives in_X1 ml_X5_108 (by decide +kernel) rfl ⟨by decide, by decide⟩ ⟨by decide, by decide⟩ im_yX1_lives se_yX1_lives rfl (Or.inr ⟨_, (hro _ (List.mem_of_getElem? (i := 37) rfl))⟩) rfl (Nat.le_of_ble_eq_true rfl) [] [] rfl rfl rfl rfl (by decide) (fun q hq => Or.inr (hro q (List.mem_append_right _ (List.mem_append_right _ (List.mem_append_right _ (List.mem_append_right _ (List.mem_append_left _ hq))))))) dX5_known_13 (fun r5 u6 e7 => ?_)
    subst e7
    refine z_if_ne hc 21 dX5_known_16 (by decide) (fun h8 => ?_) (fun h8 => ?_)
    · exact absurd hbad (by rw [h4, h8]; simp)
    · refine r_iconst (v := (-1)) hc dX5_known_19 rfl ?_
      rw [← hQ]
      exact r_iret hc hr hlk () (rfl) rfl dX5_known_20
set_option maxHeartbeats 4000000 in
set_option maxRecDepth 100000 in
/-- number(k) -/
theorem c_number (l : Launch) (D : va_G) (cI cZ cW : ClassId) (hx hh hr1 hs1 h hi ha n : Nat) (ah : Nat) (hcol : Nat → Nat) (hlen : Nat) (ar : Nat) (rwa rca : Nat → Nat) (rcol : Nat → Nat → Nat) (rlen : Nat → Nat) (nr : Nat) (as : Nat) (swa sca : Nat → Nat) (scol : Nat → Nat → Nat) (slen : Nat → Nat) (ns : Nat) (aE aL aF aR aS : Nat) (σ : CS) (aU aN aT aG : Nat) (α : AS) (k : Nat) (hk : liv σ k = true) (hz : 0 < tZ α) (hB : BD σ) (hBA : BA α) : CtI l yX5_number cX5_number 2 (some .int) 1 21 0 0 D cI cZ cW [.ref hx, .int (nI k)] ([]) (wT0 hx hh hr1 hs1 h hi ha n ++ (wW cI hh ah hcol hlen ++ (wL cI cW hr1 ar 10 rwa rca rcol rlen nr ++ (wL cI cW hs1 as 5 swa sca scol slen ns ++ (wS cI cZ h aE aL aF aR aS σ ++ (wA cI cZ ha h hs1 aU aN aT aG α)))))) (S := Unit) (fun r _ => r = eI (tU α k)) (fun _ => []) := by
  refine CtI.mk (by decide) (Nat.le_of_ble_eq_true rfl) ?_
  intro p e s m args below meth c A hc hr hlk hnm hro
  generalize hQ : MQ below _ args s 0 0 A = Q
  have hlk0 : k < sM σ := by simp only [liv, Bool.and_eq_true, decide_eq_true_eq] at hk; exact hk.1
  have bM := hB.1
  have bE := hB.2.2.2.2.2.1
  show V p l e (RM 1 21 0 0) s m args below meth c D A 2 0 0 Q ([]) 0 [(0, .ref hx), (1, .int (nI k))] []
  refine r_aload_n hc dX5_number_0 rfl 0 rfl ?_
  refine r_getR hc inlX5 (hro _ (List.mem_of_getElem? (i := 0) rfl)) rfl 5 (by decide) fl_X5_49 rfl rfl dX5_number_1 ?_
  refine r_callI (As := []) (n := 0) (wr := []) hc (c_isReady l D cI cZ cW ha h hs1 aU aN aT aG α hBA) co_yX0_isReady in_X0 ml_X5_104 (by decide +kernel) rfl ⟨by decide, by decide⟩ ⟨by decide, by decide⟩ im_yX0_isReady se_yX0_isReady rfl (Or.inr ⟨_, (hro _ (List.mem_of_getElem? (i := 43) rfl))⟩) rfl (Nat.le_of_ble_eq_true rfl) [] [] rfl rfl rfl rfl (by decide) (fun q hq => Or.inr (hro q (List.mem_append_right _ (List.mem_append_right _ (List.mem_append_right _ (List.mem_append_right _ (List.mem_append_right _ (hq)))))))) dX5_number_4 (fun r1 u2 e3 => ?_)
  subst e3
  refine z_if_eq hc 21 dX5_number_7 (by decide) (fun h4 => ?_) (fun h4 => ?_)
  · simp at h4; omega
  · refine r_aload_n hc dX5_number_10 rfl 0 rfl ?_
    refine r_getR hc inlX5 (hro _ (List.mem_of_getElem? (i := 0) rfl)) rfl 3 (by decide) fl_X5_31 rfl rfl dX5_number_11 ?_
    refine r_iload_n hc dX5_number_14 rfl 1 rfl ?_
    refine r_callI (As := [.int (nI k)]) (n := 1) (wr := []) hc (c_lives l D cI cZ cW h aE aL aF aR aS σ (nI k) hB) co_yX1_lives in_X1 ml_X5_108 (by decide +kernel) rfl ⟨by decide, by decide⟩ ⟨by decide, by decide⟩ im_yX1_lives se_yX1_lives rfl (Or.inr ⟨_, (hro _ (List.mem_of_getElem? (i := 37) rfl))⟩) rfl (Nat.le_of_ble_eq_true rfl) [] [] rfl rfl rfl rfl (by decide) (fun q hq => Or.inr (hro q (List.mem_append_right _ (List.mem_append_right _ (List.mem_append_right _ (List.mem_append_right _ (List.mem_append_left _ hq))))))) dX5_number_15 (fun r5 u6 e7 => ?_)
    subst e7
    rw [livI_n _ (by omega)]
    refine z_if_ne hc 23 dX5_number_18 (by decide) (fun h8 => ?_) (fun h8 => ?_)
    · refine r_aload_n hc dX5_number_23 rfl 0 rfl ?_
      refine r_getR hc inlX5 (hro _ (List.mem_of_getElem? (i := 0) rfl)) rfl 5 (by decide) fl_X5_49 rfl rfl dX5_number_24 ?_
      refine r_getRN hc inlX0 (hro _ (List.mem_of_getElem? (i := 43) rfl)) rfl 2 (by decide) nf_X5_115 rfl rfl dX5_number_27 ?_
      refine r_iload_n hc dX5_number_30 rfl 1 rfl ?_
      refine r_ialdR hc eI (hro _ (List.mem_of_getElem? (i := 44) rfl)) (by omega) (by decide) dX5_number_31 ?_
      rw [← hQ]
      exact r_iret hc hr hlk () (rfl) rfl dX5_number_32
    · exact absurd (hk.symm.trans h8) (by decide)
set_option maxHeartbeats 4000000 in
set_option maxRecDepth 100000 in
/-- number, refused -/
theorem c_number_bad (l : Launch) (D : va_G) (cI cZ cW : ClassId) (hx hh hr1 hs1 h hi ha n : Nat) (ah : Nat) (hcol : Nat → Nat) (hlen : Nat) (ar : Nat) (rwa rca : Nat → Nat) (rcol : Nat → Nat → Nat) (rlen : Nat → Nat) (nr : Nat) (as : Nat) (swa sca : Nat → Nat) (scol : Nat → Nat → Nat) (slen : Nat → Nat) (ns : Nat) (aE aL aF aR aS : Nat) (σ : CS) (aU aN aT aG : Nat) (α : AS) (v : Int32) (hbad : tZ α = 0 ∨ livI σ v = false) (hB : BD σ) (hBA : BA α) : CtI l yX5_number cX5_number 2 (some .int) 1 21 0 0 D cI cZ cW [.ref hx, .int v] ([]) (wT0 hx hh hr1 hs1 h hi ha n ++ (wW cI hh ah hcol hlen ++ (wL cI cW hr1 ar 10 rwa rca rcol rlen nr ++ (wL cI cW hs1 as 5 swa sca scol slen ns ++ (wS cI cZ h aE aL aF aR aS σ ++ (wA cI cZ ha h hs1 aU aN aT aG α)))))) (S := Unit) (fun r _ => r = -1) (fun _ => []) := by
  refine CtI.mk (by decide) (Nat.le_of_ble_eq_true rfl) ?_
  intro p e s m args below meth c A hc hr hlk hnm hro
  generalize hQ : MQ below _ args s 0 0 A = Q
  show V p l e (RM 1 21 0 0) s m args below meth c D A 2 0 0 Q ([]) 0 [(0, .ref hx), (1, .int v)] []
  refine r_aload_n hc dX5_number_0 rfl 0 rfl ?_
  refine r_getR hc inlX5 (hro _ (List.mem_of_getElem? (i := 0) rfl)) rfl 5 (by decide) fl_X5_49 rfl rfl dX5_number_1 ?_
  refine r_callI (As := []) (n := 0) (wr := []) hc (c_isReady l D cI cZ cW ha h hs1 aU aN aT aG α hBA) co_yX0_isReady in_X0 ml_X5_104 (by decide +kernel) rfl ⟨by decide, by decide⟩ ⟨by decide, by decide⟩ im_yX0_isReady se_yX0_isReady rfl (Or.inr ⟨_, (hro _ (List.mem_of_getElem? (i := 43) rfl))⟩) rfl (Nat.le_of_ble_eq_true rfl) [] [] rfl rfl rfl rfl (by decide) (fun q hq => Or.inr (hro q (List.mem_append_right _ (List.mem_append_right _ (List.mem_append_right _ (List.mem_append_right _ (List.mem_append_right _ (hq)))))))) dX5_number_4 (fun r1 u2 e3 => ?_)
  subst e3
  refine z_if_eq hc 21 dX5_number_7 (by decide) (fun h4 => ?_) (fun h4 => ?_)
  · refine r_iconst (v := (-1)) hc dX5_number_21 rfl ?_
    rw [← hQ]
    exact r_iret hc hr hlk () (rfl) rfl dX5_number_22
  · refine r_aload_n hc dX5_number_10 rfl 0 rfl ?_
    refine r_getR hc inlX5 (hro _ (List.mem_of_getElem? (i := 0) rfl)) rfl 3 (by decide) fl_X5_31 rfl rfl dX5_number_11 ?_
    refine r_iload_n hc dX5_number_14 rfl 1 rfl ?_
    refine r_callI (As := [.int v]) (n := 1) (wr := []) hc (c_lives l D cI cZ cW h aE aL aF aR aS σ v hB) co_yX1_lives in_X1 ml_X5_108 (by decide +kernel) rfl ⟨by decide, by decide⟩ ⟨by decide, by decide⟩ im_yX1_lives se_yX1_lives rfl (Or.inr ⟨_, (hro _ (List.mem_of_getElem? (i := 37) rfl))⟩) rfl (Nat.le_of_ble_eq_true rfl) [] [] rfl rfl rfl rfl (by decide) (fun q hq => Or.inr (hro q (List.mem_append_right _ (List.mem_append_right _ (List.mem_append_right _ (List.mem_append_right _ (List.mem_append_left _ hq))))))) dX5_number_15 (fun r5 u6 e7 => ?_)
    subst e7
    refine z_if_ne hc 23 dX5_number_18 (by decide) (fun h8 => ?_) (fun h8 => ?_)
    · simp at h4; exact absurd hbad (by rw [h8]; simp; omega)
    · refine r_iconst (v := (-1)) hc dX5_number_21 rfl ?_
      rw [← hQ]
      exact r_iret hc hr hlk () (rfl) rfl dX5_number_22
set_option maxHeartbeats 4000000 in
set_option maxRecDepth 100000 in
/-- entry(k, y0) -/
theorem c_entry (l : Launch) (D : va_G) (cI cZ cW : ClassId) (hx hh hr1 hs1 h hi ha n : Nat) (ah : Nat) (hcol : Nat → Nat) (hlen : Nat) (ar : Nat) (rwa rca : Nat → Nat) (rcol : Nat → Nat → Nat) (rlen : Nat → Nat) (nr : Nat) (as : Nat) (swa sca : Nat → Nat) (scol : Nat → Nat → Nat) (slen : Nat → Nat) (ns : Nat) (aE aL aF aR aS : Nat) (σ : CS) (aU aN aT aG : Nat) (α : AS) (k d1 d2 : Nat) (y0 : Int32) (hn : n ≤ 3) (hk : k < tZ α) (hy : isLt n y0 = true) (hd1 : sE σ (tN α k * 6 + colI y0) = some d1) (hd1b : d1 < 200) (hd2 : tU α d1 = some d2) (hBA : BA α) : CtI l yX5_entry cX5_entry 3 (some .int) 2 44 0 0 D cI cZ cW [.ref hx, .int (nI k), .int y0] ([]) (wT0 hx hh hr1 hs1 h hi ha n ++ (wW cI hh ah hcol hlen ++ (wL cI cW hr1 ar 10 rwa rca rcol rlen nr ++ (wL cI cW hs1 as 5 swa sca scol slen ns ++ (wS cI cZ h aE aL aF aR aS σ ++ (wA cI cZ ha h hs1 aU aN aT aG α)))))) (S := Unit) (fun r _ => r = nI d2) (fun _ => []) := by
  refine CtI.mk (by decide) (Nat.le_of_ble_eq_true rfl) ?_
  intro p e s m args below meth c A hc hr hlk hnm hro
  generalize hQ : MQ below _ args s 0 0 A = Q
  have bZ := hBA.1
  have hc6 := (isLt_six hn hy).2
  show V p l e (RM 2 44 0 0) s m args below meth c D A 3 0 0 Q ([]) 0 [(0, .ref hx), (1, .int (nI k)), (2, .int y0)] []
  refine r_aload_n hc dX5_entry_0 rfl 0 rfl ?_
  refine r_getR hc inlX5 (hro _ (List.mem_of_getElem? (i := 0) rfl)) rfl 5 (by decide) fl_X5_49 rfl rfl dX5_entry_1 ?_
  refine r_iload_n hc dX5_entry_4 rfl 1 rfl ?_
  refine r_callI (As := [.int (nI k)]) (n := 1) (wr := []) hc (c_hasNumber l D cI cZ cW ha h hs1 aU aN aT aG α (nI k) hBA) co_yX0_hasNumber in_X0 ml_X5_119 (by decide +kernel) rfl ⟨by decide, by decide⟩ ⟨by decide, by decide⟩ im_yX0_hasNumber se_yX0_hasNumber rfl (Or.inr ⟨_, (hro _ (List.mem_of_getElem? (i := 43) rfl))⟩) rfl (Nat.le_of_ble_eq_true rfl) [] [] rfl rfl rfl rfl (by decide) (fun q hq => Or.inr (hro q (List.mem_append_right _ (List.mem_append_right _ (List.mem_append_right _ (List.mem_append_right _ (List.mem_append_right _ (hq)))))))) dX5_entry_5 (fun r1 u2 e3 => ?_)
  subst e3
  rw [inN_n (by omega)]
  refine z_if_eq hc 19 dX5_entry_8 (by decide) (fun h4 => ?_) (fun h4 => ?_)
  · simp at h4; omega
  · refine r_aload_n hc dX5_entry_11 rfl 0 rfl ?_
    refine r_iload_n hc dX5_entry_12 rfl 2 rfl ?_
    refine r_callI (As := [.int y0]) (n := 1) (wr := []) hc (c_isLetter l D cI cZ cW hx hh hr1 hs1 h hi ha n y0) co_yX5_isLetter in_X5 ml_X5_66 (by decide +kernel) rfl ⟨by decide, by decide⟩ ⟨by decide, by decide⟩ im_yX5_isLetter se_yX5_isLetter rfl (Or.inr ⟨_, (hro _ (List.mem_of_getElem? (i := 0) rfl))⟩) rfl (Nat.le_of_ble_eq_true rfl) [] [] rfl rfl rfl rfl (by decide) (fun q hq => Or.inr (hro q (List.mem_append_left _ hq))) dX5_entry_13 (fun r5 u6 e7 => ?_)
    subst e7
    refine z_if_ne hc 21 dX5_entry_16 (by decide) (fun h8 => ?_) (fun h8 => ?_)
    · refine r_aload_n hc dX5_entry_21 rfl 0 rfl ?_
      refine r_getR hc inlX5 (hro _ (List.mem_of_getElem? (i := 0) rfl)) rfl 5 (by decide) fl_X5_49 rfl rfl dX5_entry_22 ?_
      refine r_iload_n hc dX5_entry_25 rfl 1 rfl ?_
      refine r_iload_n hc dX5_entry_26 rfl 2 rfl ?_
      refine r_callsI (As := [.int y0]) (n := 1) (wr := []) hc (c_columnOf l D cI cZ cW y0 (isLt_six hn hy).1) co_yX5_columnOf in_X5 ml_X5_70 (by decide +kernel) rfl ⟨by decide, by decide⟩ ⟨by decide, by decide⟩ st_yX5_columnOf rfl (Nat.le_of_ble_eq_true rfl) [] [] rfl rfl rfl rfl (by decide) (fun q hq => absurd hq List.not_mem_nil) dX5_entry_27 (fun r9 u10 e11 => ?_)
      subst e11
      show V p l e (RM 2 44 0 0) s m args below meth c D A 3 0 0 Q ([]) 30 [(0, .ref hx), (1, .int (nI k)), (2, .int y0)] [.int (nI (colI y0)), .int (nI k), .ref ha]
      refine r_callI (As := [.int (nI k), .int (nI (colI y0))]) (n := 2) (wr := []) hc (c_letterImage l D cI cZ cW ha h hs1 aU aN aT aG α aE aL aF aR aS σ k (colI y0) d1 d2 (by omega) (by omega) hd1 hd1b hd2 hBA) co_yX0_letterImage in_X0 ml_X5_122 (by decide +kernel) rfl ⟨by decide, by decide⟩ ⟨by decide, by decide⟩ im_yX0_letterImage se_yX0_letterImage rfl (Or.inr ⟨_, (hro _ (List.mem_of_getElem? (i := 43) rfl))⟩) rfl (Nat.le_of_ble_eq_true rfl) [] [] rfl rfl rfl rfl (by decide) (fun q hq => Or.inr (hro q ((List.mem_append.mp hq).elim (fun hq => List.mem_append_right _ (List.mem_append_right _ (List.mem_append_right _ (List.mem_append_right _ (List.mem_append_right _ (hq)))))) (fun hq => List.mem_append_right _ (List.mem_append_right _ (List.mem_append_right _ (List.mem_append_right _ (List.mem_append_left _ hq)))))))) dX5_entry_30 (fun r12 u13 e14 => ?_)
      subst e14
      show V p l e (RM 2 44 0 0) s m args below meth c D A 3 0 0 Q ([]) 33 [(0, .ref hx), (1, .int (nI k)), (2, .int y0)] [.int (nI d2)]
      rw [← hQ]
      exact r_iret hc hr hlk () (rfl) rfl dX5_entry_33
    · exact absurd (hy.symm.trans h8) (by decide)
set_option maxHeartbeats 4000000 in
set_option maxRecDepth 100000 in
/-- entry, refused -/
theorem c_entry_bad (l : Launch) (D : va_G) (cI cZ cW : ClassId) (hx hh hr1 hs1 h hi ha n : Nat) (ah : Nat) (hcol : Nat → Nat) (hlen : Nat) (ar : Nat) (rwa rca : Nat → Nat) (rcol : Nat → Nat → Nat) (rlen : Nat → Nat) (nr : Nat) (as : Nat) (swa sca : Nat → Nat) (scol : Nat → Nat → Nat) (slen : Nat → Nat) (ns : Nat) (aE aL aF aR aS : Nat) (σ : CS) (aU aN aT aG : Nat) (α : AS) (v y0 : Int32) (hbad : inN (tZ α) v = false ∨ isLt n y0 = false) (hBA : BA α) : CtI l yX5_entry cX5_entry 3 (some .int) 2 44 0 0 D cI cZ cW [.ref hx, .int v, .int y0] ([]) (wT0 hx hh hr1 hs1 h hi ha n ++ (wW cI hh ah hcol hlen ++ (wL cI cW hr1 ar 10 rwa rca rcol rlen nr ++ (wL cI cW hs1 as 5 swa sca scol slen ns ++ (wS cI cZ h aE aL aF aR aS σ ++ (wA cI cZ ha h hs1 aU aN aT aG α)))))) (S := Unit) (fun r _ => r = -1) (fun _ => []) := by
  refine CtI.mk (by decide) (Nat.le_of_ble_eq_true rfl) ?_
  intro p e s m args below meth c A hc hr hlk hnm hro
  generalize hQ : MQ below _ args s 0 0 A = Q
  show V p l e (RM 2 44 0 0) s m args below meth c D A 3 0 0 Q ([]) 0 [(0, .ref hx), (1, .int v), (2, .int y0)] []
  refine r_aload_n hc dX5_entry_0 rfl 0 rfl ?_
  refine r_getR hc inlX5 (hro _ (List.mem_of_getElem? (i := 0) rfl)) rfl 5 (by decide) fl_X5_49 rfl rfl dX5_entry_1 ?_
  refine r_iload_n hc dX5_entry_4 rfl 1 rfl ?_
  refine r_callI (As := [.int v]) (n := 1) (wr := []) hc (c_hasNumber l D cI cZ cW ha h hs1 aU aN aT aG α v hBA) co_yX0_hasNumber in_X0 ml_X5_119 (by decide +kernel) rfl ⟨by decide, by decide⟩ ⟨by decide, by decide⟩ im_yX0_hasNumber se_yX0_hasNumber rfl (Or.inr ⟨_, (hro _ (List.mem_of_getElem? (i := 43) rfl))⟩) rfl (Nat.le_of_ble_eq_true rfl) [] [] rfl rfl rfl rfl (by decide) (fun q hq => Or.inr (hro q (List.mem_append_right _ (List.mem_append_right _ (List.mem_append_right _ (List.mem_append_right _ (List.mem_append_right _ (hq)))))))) dX5_entry_5 (fun r1 u2 e3 => ?_)
  subst e3
  refine z_if_eq hc 19 dX5_entry_8 (by decide) (fun h4 => ?_) (fun h4 => ?_)
  · refine r_iconst (v := (-1)) hc dX5_entry_19 rfl ?_
    rw [← hQ]
    exact r_iret hc hr hlk () (rfl) rfl dX5_entry_20
  · refine r_aload_n hc dX5_entry_11 rfl 0 rfl ?_
    refine r_iload_n hc dX5_entry_12 rfl 2 rfl ?_
    refine r_callI (As := [.int y0]) (n := 1) (wr := []) hc (c_isLetter l D cI cZ cW hx hh hr1 hs1 h hi ha n y0) co_yX5_isLetter in_X5 ml_X5_66 (by decide +kernel) rfl ⟨by decide, by decide⟩ ⟨by decide, by decide⟩ im_yX5_isLetter se_yX5_isLetter rfl (Or.inr ⟨_, (hro _ (List.mem_of_getElem? (i := 0) rfl))⟩) rfl (Nat.le_of_ble_eq_true rfl) [] [] rfl rfl rfl rfl (by decide) (fun q hq => Or.inr (hro q (List.mem_append_left _ hq))) dX5_entry_13 (fun r5 u6 e7 => ?_)
    subst e7
    refine z_if_ne hc 21 dX5_entry_16 (by decide) (fun h8 => ?_) (fun h8 => ?_)
    · exact absurd hbad (by rw [h4, h8]; simp)
    · refine r_iconst (v := (-1)) hc dX5_entry_19 rfl ?_
      rw [← hQ]
      exact r_iret hc hr hlk () (rfl) rfl dX5_entry_20
set_option maxHeartbeats 4000000 in
set_option maxRecDepth 100000 in
/-- move(k) -/
theorem c_move (l : Launch) (D : va_G) (cI cZ cW : ClassId) (hx hh hr1 hs1 h hi ha n : Nat) (ah : Nat) (hcol : Nat → Nat) (hlen : Nat) (ar : Nat) (rwa rca : Nat → Nat) (rcol : Nat → Nat → Nat) (rlen : Nat → Nat) (nr : Nat) (as : Nat) (swa sca : Nat → Nat) (scol : Nat → Nat → Nat) (slen : Nat → Nat) (ns : Nat) (aE aL aF aR aS : Nat) (σ : CS) (aU aN aT aG : Nat) (α : AS) (k d0 : Nat) (hk : k < tZ α) (hl24 : hlen ≤ 24) (hcol6 : ∀ j, hcol j < 6) (hI : Img (sE σ) (tU α) (tN α) hcol hlen k d0) (hBA : BA α) : CtI l yX5_move cX5_move 2 (some .int) 2 46 0 0 D cI cZ cW [.ref hx, .int (nI k)] ([]) (wT0 hx hh hr1 hs1 h hi ha n ++ (wW cI hh ah hcol hlen ++ (wL cI cW hr1 ar 10 rwa rca rcol rlen nr ++ (wL cI cW hs1 as 5 swa sca scol slen ns ++ (wS cI cZ h aE aL aF aR aS σ ++ (wA cI cZ ha h hs1 aU aN aT aG α)))))) (S := Unit) (fun r _ => r = nI d0) (fun _ => []) := by
  refine CtI.mk (by decide) (Nat.le_of_ble_eq_true rfl) ?_
  intro p e s m args below meth c A hc hr hlk hnm hro
  generalize hQ : MQ below _ args s 0 0 A = Q
  have bZ := hBA.1
  show V p l e (RM 2 46 0 0) s m args below meth c D A 2 0 0 Q ([]) 0 [(0, .ref hx), (1, .int (nI k))] []
  refine r_aload_n hc dX5_move_0 rfl 0 rfl ?_
  refine r_getR hc inlX5 (hro _ (List.mem_of_getElem? (i := 0) rfl)) rfl 5 (by decide) fl_X5_49 rfl rfl dX5_move_1 ?_
  refine r_iload_n hc dX5_move_4 rfl 1 rfl ?_
  refine r_callI (As := [.int (nI k)]) (n := 1) (wr := []) hc (c_hasNumber l D cI cZ cW ha h hs1 aU aN aT aG α (nI k) hBA) co_yX0_hasNumber in_X0 ml_X5_119 (by decide +kernel) rfl ⟨by decide, by decide⟩ ⟨by decide, by decide⟩ im_yX0_hasNumber se_yX0_hasNumber rfl (Or.inr ⟨_, (hro _ (List.mem_of_getElem? (i := 43) rfl))⟩) rfl (Nat.le_of_ble_eq_true rfl) [] [] rfl rfl rfl rfl (by decide) (fun q hq => Or.inr (hro q (List.mem_append_right _ (List.mem_append_right _ (List.mem_append_right _ (List.mem_append_right _ (List.mem_append_right _ (hq)))))))) dX5_move_5 (fun r1 u2 e3 => ?_)
  subst e3
  rw [inN_n (by omega)]
  refine z_if_eq hc 26 dX5_move_8 (by decide) (fun h4 => ?_) (fun h4 => ?_)
  · simp at h4; omega
  · refine r_aload_n hc dX5_move_11 rfl 0 rfl ?_
    refine r_getR hc inlX5 (hro _ (List.mem_of_getElem? (i := 0) rfl)) rfl 5 (by decide) fl_X5_49 rfl rfl dX5_move_12 ?_
    refine r_iload_n hc dX5_move_15 rfl 1 rfl ?_
    refine r_aload_n hc dX5_move_16 rfl 0 rfl ?_
    refine r_getR hc inlX5 (hro _ (List.mem_of_getElem? (i := 0) rfl)) rfl 0 (by decide) fl_X5_12 rfl rfl dX5_move_17 ?_
    refine r_callI (As := [.int (nI k), .ref hh]) (n := 2) (wr := []) hc (c_image l D cI cZ cW ha h hs1 aU aN aT aG α aE aL aF aR aS σ hh ah hcol hlen k d0 (by omega) hl24 hcol6 hI hBA) co_yX0_image in_X0 ml_X5_125 (by decide +kernel) rfl ⟨by decide, by decide⟩ ⟨by decide, by decide⟩ im_yX0_image se_yX0_image rfl (Or.inr ⟨_, (hro _ (List.mem_of_getElem? (i := 43) rfl))⟩) rfl (Nat.le_of_ble_eq_true rfl) [] [] rfl rfl rfl rfl (by decide) (fun q hq => Or.inr (hro q ((List.mem_append.mp hq).elim (fun hq => List.mem_append_right _ (List.mem_append_right _ (List.mem_append_right _ (List.mem_append_right _ (List.mem_append_right _ (hq)))))) (fun hq => (List.mem_append.mp hq).elim (fun hq => List.mem_append_right _ (List.mem_append_right _ (List.mem_append_right _ (List.mem_append_right _ (List.mem_append_left _ hq))))) (fun hq => List.mem_append_right _ (List.mem_append_left _ hq)))))) dX5_move_20 (fun r5 u6 e7 => ?_)
    subst e7
    show V p l e (RM 2 46 0 0) s m args below meth c D A 2 0 0 Q ([]) 23 [(0, .ref hx), (1, .int (nI k))] [.int (nI d0)]
    refine r_goto hc 27 dX5_move_23 (by decide) ?_
    rw [← hQ]
    exact r_iret hc hr hlk () (rfl) rfl dX5_move_27
set_option maxHeartbeats 4000000 in
set_option maxRecDepth 100000 in
/-- move, refused -/
theorem c_move_bad (l : Launch) (D : va_G) (cI cZ cW : ClassId) (hx hh hr1 hs1 h hi ha n : Nat) (ah : Nat) (hcol : Nat → Nat) (hlen : Nat) (ar : Nat) (rwa rca : Nat → Nat) (rcol : Nat → Nat → Nat) (rlen : Nat → Nat) (nr : Nat) (as : Nat) (swa sca : Nat → Nat) (scol : Nat → Nat → Nat) (slen : Nat → Nat) (ns : Nat) (aE aL aF aR aS : Nat) (σ : CS) (aU aN aT aG : Nat) (α : AS) (v : Int32) (hbad : inN (tZ α) v = false) (hBA : BA α) : CtI l yX5_move cX5_move 2 (some .int) 2 46 0 0 D cI cZ cW [.ref hx, .int v] ([]) (wT0 hx hh hr1 hs1 h hi ha n ++ (wW cI hh ah hcol hlen ++ (wL cI cW hr1 ar 10 rwa rca rcol rlen nr ++ (wL cI cW hs1 as 5 swa sca scol slen ns ++ (wS cI cZ h aE aL aF aR aS σ ++ (wA cI cZ ha h hs1 aU aN aT aG α)))))) (S := Unit) (fun r _ => r = -1) (fun _ => []) := by
  refine CtI.mk (by decide) (Nat.le_of_ble_eq_true rfl) ?_
  intro p e s m args below meth c A hc hr hlk hnm hro
  generalize hQ : MQ below _ args s 0 0 A = Q
  show V p l e (RM 2 46 0 0) s m args below meth c D A 2 0 0 Q ([]) 0 [(0, .ref hx), (1, .int v)] []
  refine r_aload_n hc dX5_move_0 rfl 0 rfl ?_
  refine r_getR hc inlX5 (hro _ (List.mem_of_getElem? (i := 0) rfl)) rfl 5 (by decide) fl_X5_49 rfl rfl dX5_move_1 ?_
  refine r_iload_n hc dX5_move_4 rfl 1 rfl ?_
  refine r_callI (As := [.int v]) (n := 1) (wr := []) hc (c_hasNumber l D cI cZ cW ha h hs1 aU aN aT aG α v hBA) co_yX0_hasNumber in_X0 ml_X5_119 (by decide +kernel) rfl ⟨by decide, by decide⟩ ⟨by decide, by decide⟩ im_yX0_hasNumber se_yX0_hasNumber rfl (Or.inr ⟨_, (hro _ (List.mem_of_getElem? (i := 43) rfl))⟩) rfl (Nat.le_of_ble_eq_true rfl) [] [] rfl rfl rfl rfl (by decide) (fun q hq => Or.inr (hro q (List.mem_append_right _ (List.mem_append_right _ (List.mem_append_right _ (List.mem_append_right _ (List.mem_append_right _ (hq)))))))) dX5_move_5 (fun r1 u2 e3 => ?_)
  subst e3
  refine z_if_eq hc 26 dX5_move_8 (by decide) (fun h4 => ?_) (fun h4 => ?_)
  · refine r_iconst (v := (-1)) hc dX5_move_26 rfl ?_
    rw [← hQ]
    exact r_iret hc hr hlk () (rfl) rfl dX5_move_27
  · exact absurd (hbad.symm.trans h4) (by decide)
