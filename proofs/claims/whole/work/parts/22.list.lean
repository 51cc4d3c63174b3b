section RULES5
variable {p : Program} {l : Launch} {e : Env} {R : Room} {s : State} {m : MethodId} {args : Array Value} {below : List Frame} {meth : Method} {c : Code} {D : va_G} {A : Nat → Prop} {nL cells slots : Nat} {Q : State → Prop} {ws : va_W} {pc : Nat} {lv : List (Nat × Value)} {st : List Value}
variable {cc : ByteArray} {own : String} {cI cZ cW : ClassId}
def cpN (f g : Nat → Nat) (n : Nat) : Nat → Nat := fun j => if j < n then f j else g j
theorem r_copy (hc : CX p s m args c cc nL own D cI cZ cW A) {index a0 a n0 n1 n : Nat} {f g : Nat → Nat} {ws' : va_W} (hml : Cond.methodLink own index arraycopyName ∈ wsL_law) (q0 q1 : Nat) (ha0 : ws[q0]? = some (a0, .inl (cI, n0, .inl (fun j => nI (f j))))) (ha1 : ws[q1]? = some (a, .inl (cI, n1, .inl (fun j => nI (g j))))) (hn : n < 2 ^ 31) (h4 : n ≤ n0) (h5 : n ≤ n1) (hfr : 1 ≤ R.frames) (hlo : (st.map fun v => v.category).sum + (nativeFrameWords "java/lang/System" "arraycopy" 5 + 11) ≤ R.locals) (hw : ws.set q1 (a, .inl (cI, n1, .inl (fun j => nI (cpN f g n j)))) = ws') (hdg : decode cc pc = .ok (.invokestatic index, 3)) (kk : V p l e R s m args below meth c D A nL cells slots Q ws' (pc + 3) lv st) : V p l e R s m args below meth c D A nL cells slots Q ws pc lv (.int (nI n) :: .int (nI 0) :: .ref a :: .int (nI 0) :: .ref a0 :: st) :=
  fun H locs ls hP hD hS hL => va_copyi hc.1 hc.2.1 (hc.2.2.1.trans hL.1.symm) hc.2.2.2.1 (hc.2.2.2.2.1 _ hml) (hc.2.2.2.2.1 _ na_arraycopyName) (hc.2.2.2.2.1 _ st_arraycopyName) (hc.2.2.2.2.1 _ in_java_lang_System) hc.2.2.2.2.2.1.1 hP hD hS q0 q1 0 0 ha0 ha1 rfl rfl rfl (nI_pos (by decide)) (nI_pos (by decide)) (nI_pos hn) (by rw [nI_clamp (by decide), nI_clamp hn]; omega) (by rw [nI_clamp (by decide), nI_clamp hn]; omega) (fun _ _ => rfl) hfr hlo hdg (fun H1 locs1 hP1 hD1 hS1 => by
    have e : va_cpy (fun j => nI (f j)) (fun j => nI (g j)) (nI 0).toNatClampNeg (nI 0).toNatClampNeg (nI n).toNatClampNeg = fun j => nI (cpN f g n j) := by
      funext j
      rw [nI_clamp (show 0 < 2 ^ 31 by decide), nI_clamp hn]
      simp only [va_cpy, cpN, Nat.zero_le, Nat.zero_add, Nat.sub_zero, true_and]
      split <;> rfl
    rw [e] at hP1 hD1
    exact kk H1 locs1 ls (hw ▸ hP1) (hw ▸ hD1) hS1 hL)
theorem ro_of_wr {ws wr : va_W} {isC : List Nat} (isR : List Nat) (hRR : isR.map (fun i => ws[i]?) = wr.map some) (hdis : ∀ i ∈ isR, i ∉ isC) {q : Nat × va_E} (h : q ∈ wr) : ∃ k : Nat, ws[k]? = some q ∧ k ∉ isC := by
  obtain ⟨k, hk⟩ := List.getElem?_of_mem h
  have h1 : (isR.map (fun i => ws[i]?))[k]? = some (some q) := by rw [hRR, List.getElem?_map, hk]; rfl
  rw [List.getElem?_map] at h1
  cases hi : isR[k]? with
  | none => rw [hi] at h1; cases h1
  | some i => rw [hi] at h1; exact ⟨i, Option.some.inj h1, hdis i (List.mem_of_getElem? hi)⟩
end RULES5
theorem r_ald {p : Program} {l : Launch} {e : Env} {R : Room} {s : State} {m : MethodId} {args : Array Value} {below : List Frame} {meth : Method} {c : Code} {D : va_G} {A : Nat → Prop} {nL cells slots : Nat} {Q : State → Prop} {ws : va_W} {pc : Nat} {lv : List (Nat × Value)} {st : List Value} {cc : ByteArray} {own : String} {cI cZ cW : ClassId} (hc : CX p s m args c cc nL own D cI cZ cW A) {f : Nat → Option Nat} {n a i x : Nat} (q0 : Nat) (ha : ws[q0]? = some (a, .inl (cW, n, .inr (.inr (.inr (.inr f)))))) (hi : i < n) (hn : n < 2 ^ 31) (hx : f i = some x) (hdg : decode cc pc = .ok (.aaload, 1)) (kk : V p l e R s m args below meth c D A nL cells slots Q ws (pc + 1) lv (.ref x :: st)) : V p l e R s m args below meth c D A nL cells slots Q ws pc lv (.int (nI i) :: .ref a :: st) :=
  fun H locs ls hP hD hS hL => va_aldq hc.1 hc.2.1 hc.2.2.2.2.2.1.1 hP q0 2 ha rfl (vp_in_nI hi hn) hdg (by rw [nI_clamp (Nat.lt_trans hi hn), hx]; exact kk H locs ls hP hD hS hL)
set_option maxHeartbeats 4000000 in
set_option maxRecDepth 100000 in
/-- copyFrom(other) -/
theorem c_copyFrom (l : Launch) (D : va_G) (cI cZ cW : ClassId) (hw aw hh ah : Nat) (col : Nat → Nat) (len : Nat) (hcol : Nat → Nat) (hlen : Nat) (hl : hlen ≤ 24) : CtV l yX3_copyFrom cX3_copyFrom 2 none 1 26 0 0 D cI cZ cW [.ref hw, .ref hh] (wW cI hw aw col len ++ wW cI hh ah hcol hlen) ([]) (S := WS) (fun u => u = (cpN hcol col hlen, hlen)) (fun u => wW cI hw aw u.1 u.2 ++ wW cI hh ah hcol hlen) := by
  refine CtV.mk (by decide) (Nat.le_of_ble_eq_true rfl) ?_
  intro p e s m args below meth c A hc hr hlk hnm hro
  generalize hQ : MQ below _ args s 0 0 A = Q
  show V p l e (RM 1 26 0 0) s m args below meth c D A 2 0 0 Q (wW cI hw aw col len ++ (wW cI hh ah hcol hlen)) 0 [(0, .ref hw), (1, .ref hh)] []
  refine r_aload_n hc dX3_copyFrom_0 rfl 1 rfl ?_
  refine r_get hc inlX3 2 rfl rfl 0 (by decide) fl_X3_9 rfl rfl dX3_copyFrom_1 ?_
  refine r_iconst (v := (nI 0)) hc dX3_copyFrom_4 rfl ?_
  refine r_aload_n hc dX3_copyFrom_5 rfl 0 rfl ?_
  refine r_get hc inlX3 0 rfl rfl 0 (by decide) fl_X3_9 rfl rfl dX3_copyFrom_6 ?_
  refine r_iconst (v := (nI 0)) hc dX3_copyFrom_9 rfl ?_
  refine r_aload_n hc dX3_copyFrom_10 rfl 1 rfl ?_
  refine r_get hc inlX3 2 rfl rfl 1 (by decide) fl_X3_15 rfl rfl dX3_copyFrom_11 ?_
  refine r_copy (ws' := wW cI hw aw (cpN hcol col hlen) len ++ (wW cI hh ah hcol hlen)) hc ml_X3_19 3 1 rfl rfl (by omega) hl hl (by decide) (Nat.le_of_ble_eq_true rfl) rfl dX3_copyFrom_14 ?_
  refine r_aload_n hc dX3_copyFrom_17 rfl 0 rfl ?_
  refine r_aload_n hc dX3_copyFrom_18 rfl 1 rfl ?_
  refine r_get hc inlX3 2 rfl rfl 1 (by decide) fl_X3_15 rfl rfl dX3_copyFrom_19 ?_
  refine r_put (ws' := wW cI hw aw (cpN hcol col hlen) hlen ++ (wW cI hh ah hcol hlen)) hc inlX3 tyX3 tyX3_ok nmX3 0 rfl rfl 1 (by decide) fl_X3_15 rfl rfl rfl rfl (Nat.le_of_ble_eq_true rfl) rfl dX3_copyFrom_22 ?_
  rw [← hQ]
  exact r_vret hc hr hlk (cpN hcol col hlen, hlen) rfl rfl dX3_copyFrom_25
set_option maxHeartbeats 4000000 in
set_option maxRecDepth 100000 in
/-- isFull(), 10 -/
theorem c_isFull10 (l : Launch) (D : va_G) (cI cZ cW : ClassId) (hl al : Nat) (wa ca : Nat → Nat) (col : Nat → Nat → Nat) (len : Nat → Nat) (sz : Nat) (hsz : sz ≤ 10) : CtI l yX4_isFull cX4_isFull 1 (some .boolean) 0 0 0 0 D cI cZ cW [.ref hl] ([]) (wL cI cW hl al 10 wa ca col len sz) (S := Unit) (fun r _ => r = zI (decide (sz = 10))) (fun _ => []) := by
  refine CtI.mk (by decide) (Nat.le_of_ble_eq_true rfl) ?_
  intro p e s m args below meth c A hc hr hlk hnm hro
  generalize hQ : MQ below _ args s 0 0 A = Q
  show V p l e (RM 0 0 0 0) s m args below meth c D A 1 0 0 Q ([]) 0 [(0, .ref hl)] []
  refine r_aload_n hc dX4_isFull_0 rfl 0 rfl ?_
  refine r_getR hc inlX4 (hro _ (List.mem_of_getElem? (i := 0) rfl)) rfl 1 (by decide) fl_X4_16 rfl rfl dX4_isFull_1 ?_
  refine r_aload_n hc dX4_isFull_4 rfl 0 rfl ?_
  refine r_getR hc inlX4 (hro _ (List.mem_of_getElem? (i := 0) rfl)) rfl 0 (by decide) fl_X4_9 rfl rfl dX4_isFull_5 ?_
  refine r_alenR (v := nI 10) hc 2 (hro _ (List.mem_of_getElem? (i := 1) rfl)) rfl rfl dX4_isFull_8 ?_
  refine n_icmp_ne hc 16 dX4_isFull_9 (by decide) (by omega) (by omega) (fun h1 => ?_) (fun h1 => ?_)
  · refine r_iconst (v := (nI 0)) hc dX4_isFull_16 rfl ?_
    rw [← hQ]
    exact r_zret (b := false) hc hr hlk () (congrArg zI (by simp; omega)) rfl dX4_isFull_17
  · refine r_iconst (v := (nI 1)) hc dX4_isFull_12 rfl ?_
    refine r_goto hc 17 dX4_isFull_13 (by decide) ?_
    rw [← hQ]
    exact r_zret (b := true) hc hr hlk () (congrArg zI (by simp; omega)) rfl dX4_isFull_17
set_option maxHeartbeats 4000000 in
set_option maxRecDepth 100000 in
/-- isFull(), 5 -/
theorem c_isFull5 (l : Launch) (D : va_G) (cI cZ cW : ClassId) (hl al : Nat) (wa ca : Nat → Nat) (col : Nat → Nat → Nat) (len : Nat → Nat) (sz : Nat) (hsz : sz ≤ 5) : CtI l yX4_isFull cX4_isFull 1 (some .boolean) 0 0 0 0 D cI cZ cW [.ref hl] ([]) (wL cI cW hl al 5 wa ca col len sz) (S := Unit) (fun r _ => r = zI (decide (sz = 5))) (fun _ => []) := by
  refine CtI.mk (by decide) (Nat.le_of_ble_eq_true rfl) ?_
  intro p e s m args below meth c A hc hr hlk hnm hro
  generalize hQ : MQ below _ args s 0 0 A = Q
  show V p l e (RM 0 0 0 0) s m args below meth c D A 1 0 0 Q ([]) 0 [(0, .ref hl)] []
  refine r_aload_n hc dX4_isFull_0 rfl 0 rfl ?_
  refine r_getR hc inlX4 (hro _ (List.mem_of_getElem? (i := 0) rfl)) rfl 1 (by decide) fl_X4_16 rfl rfl dX4_isFull_1 ?_
  refine r_aload_n hc dX4_isFull_4 rfl 0 rfl ?_
  refine r_getR hc inlX4 (hro _ (List.mem_of_getElem? (i := 0) rfl)) rfl 0 (by decide) fl_X4_9 rfl rfl dX4_isFull_5 ?_
  refine r_alenR (v := nI 5) hc 2 (hro _ (List.mem_of_getElem? (i := 1) rfl)) rfl rfl dX4_isFull_8 ?_
  refine n_icmp_ne hc 16 dX4_isFull_9 (by decide) (by omega) (by omega) (fun h1 => ?_) (fun h1 => ?_)
  · refine r_iconst (v := (nI 0)) hc dX4_isFull_16 rfl ?_
    rw [← hQ]
    exact r_zret (b := false) hc hr hlk () (congrArg zI (by simp; omega)) rfl dX4_isFull_17
  · refine r_iconst (v := (nI 1)) hc dX4_isFull_12 rfl ?_
    refine r_goto hc 17 dX4_isFull_13 (by decide) ?_
    rw [← hQ]
    exact r_zret (b := true) hc hr hlk () (congrArg zI (by simp; omega)) rfl dX4_isFull_17
set_option maxHeartbeats 4000000 in
set_option maxRecDepth 100000 in
/-- add, the list of 10, 0 there -/
theorem c_add10_0 (l : Launch) (D : va_G) (cI cZ cW : ClassId) (hl al : Nat) (wa ca : Nat → Nat) (col : Nat → Nat → Nat) (len : Nat → Nat) (hh ah : Nat) (hcol : Nat → Nat) (hlen : Nat) (hl24 : hlen ≤ 24) : CtV l yX4_add cX4_add 2 none 2 47 0 0 D cI cZ cW [.ref hl, .ref hh] (wL cI cW hl al 10 wa ca col len 0 ++ wW cI hh ah hcol hlen) ([]) (S := (Nat → Nat → Nat) × (Nat → Nat) × Nat) (fun u => u = (va_up col 0 (cpN hcol (col 0) hlen), va_up len 0 hlen, 1)) (fun u => wL cI cW hl al 10 wa ca u.1 u.2.1 u.2.2 ++ wW cI hh ah hcol hlen) := by
  refine CtV.mk (by decide) (Nat.le_of_ble_eq_true rfl) ?_
  intro p e s m args below meth c A hc hr hlk hnm hro
  generalize hQ : MQ below _ args s 0 0 A = Q
  show V p l e (RM 2 47 0 0) s m args below meth c D A 2 0 0 Q (wL cI cW hl al 10 wa ca col len 0 ++ (wW cI hh ah hcol hlen)) 0 [(0, .ref hl), (1, .ref hh)] []
  refine r_aload_n hc dX4_add_0 rfl 0 rfl ?_
  refine r_get hc inlX4 0 rfl rfl 0 (by decide) fl_X4_9 rfl rfl dX4_add_1 ?_
  refine r_aload_n hc dX4_add_4 rfl 0 rfl ?_
  refine r_get hc inlX4 0 rfl rfl 1 (by decide) fl_X4_16 rfl rfl dX4_add_5 ?_
  refine r_ald hc 1 rfl (by decide) (by decide) rfl dX4_add_8 ?_
  refine r_aload_n hc dX4_add_9 rfl 1 rfl ?_
  refine r_callV (As := [.ref hh]) (n := 1) (wr := [(hl, .inr (4, [.ref al, .int (nI 0)])), (al, .inl (cW, 10, .inr (.inr (.inr (.inr (fun j => some (wa j))))))), (wa 1, .inr (3, [.ref (ca 1), .int (nI (len 1))])), (ca 1, .inl (cI, 24, .inl (fun j => nI (col 1 j)))), (wa 2, .inr (3, [.ref (ca 2), .int (nI (len 2))])), (ca 2, .inl (cI, 24, .inl (fun j => nI (col 2 j)))), (wa 3, .inr (3, [.ref (ca 3), .int (nI (len 3))])), (ca 3, .inl (cI, 24, .inl (fun j => nI (col 3 j)))), (wa 4, .inr (3, [.ref (ca 4), .int (nI (len 4))])), (ca 4, .inl (cI, 24, .inl (fun j => nI (col 4 j)))), (wa 5, .inr (3, [.ref (ca 5), .int (nI (len 5))])), (ca 5, .inl (cI, 24, .inl (fun j => nI (col 5 j)))), (wa 6, .inr (3, [.ref (ca 6), .int (nI (len 6))])), (ca 6, .inl (cI, 24, .inl (fun j => nI (col 6 j)))), (wa 7, .inr (3, [.ref (ca 7), .int (nI (len 7))])), (ca 7, .inl (cI, 24, .inl (fun j => nI (col 7 j)))), (wa 8, .inr (3, [.ref (ca 8), .int (nI (len 8))])), (ca 8, .inl (cI, 24, .inl (fun j => nI (col 8 j)))), (wa 9, .inr (3, [.ref (ca 9), .int (nI (len 9))])), (ca 9, .inl (cI, 24, .inl (fun j => nI (col 9 j))))]) hc (c_copyFrom l D cI cZ cW (wa 0) (ca 0) hh ah (col 0) (len 0) hcol hlen hl24) co_yX3_copyFrom in_X3 ml_X4_20 (by decide +kernel) rfl ⟨by decide, by decide⟩ ⟨by decide, by decide⟩ im_yX3_copyFrom se_yX3_copyFrom rfl (Or.inl ⟨2, _, rfl⟩) rfl (Nat.le_of_ble_eq_true rfl) [2, 3, 22, 23] [0, 1, 4, 5, 6, 7, 8, 9, 10, 11, 12, 13, 14, 15, 16, 17, 18, 19, 20, 21] rfl rfl rfl rfl (by decide) (fun q hq => absurd hq List.not_mem_nil) dX4_add_10 (fun u0 e0 => ?_)
  subst e0
  refine r_perm (ws' := wL cI cW hl al 10 wa ca (va_up col 0 (cpN hcol (col 0) hlen)) (va_up len 0 hlen) 0 ++ (wW cI hh ah hcol hlen)) [0, 1, 20, 21, 2, 3, 4, 5, 6, 7, 8, 9, 10, 11, 12, 13, 14, 15, 16, 17, 18, 19, 22, 23] rfl rfl ?_
  refine r_aload_n hc dX4_add_13 rfl 0 rfl ?_
  refine r_dup hc dX4_add_14 rfl ?_
  refine r_get hc inlX4 0 rfl rfl 1 (by decide) fl_X4_16 rfl rfl dX4_add_15 ?_
  refine r_iconst (v := (nI 1)) hc dX4_add_18 rfl ?_
  refine n_add hc dX4_add_19 ?_
  refine r_put (ws' := wL cI cW hl al 10 wa ca (va_up col 0 (cpN hcol (col 0) hlen)) (va_up len 0 hlen) (0 + 1) ++ (wW cI hh ah hcol hlen)) hc inlX4 tyX4 tyX4_ok nmX4 0 rfl rfl 1 (by decide) fl_X4_16 rfl rfl rfl rfl (Nat.le_of_ble_eq_true rfl) rfl dX4_add_20 ?_
  rw [← hQ]
  exact r_vret hc hr hlk (va_up col 0 (cpN hcol (col 0) hlen), va_up len 0 hlen, 1) rfl rfl dX4_add_23
set_option maxHeartbeats 4000000 in
set_option maxRecDepth 100000 in
/-- add, the list of 10, 1 there -/
theorem c_add10_1 (l : Launch) (D : va_G) (cI cZ cW : ClassId) (hl al : Nat) (wa ca : Nat → Nat) (col : Nat → Nat → Nat) (len : Nat → Nat) (hh ah : Nat) (hcol : Nat → Nat) (hlen : Nat) (hl24 : hlen ≤ 24) : CtV l yX4_add cX4_add 2 none 2 47 0 0 D cI cZ cW [.ref hl, .ref hh] (wL cI cW hl al 10 wa ca col len 1 ++ wW cI hh ah hcol hlen) ([]) (S := (Nat → Nat → Nat) × (Nat → Nat) × Nat) (fun u => u = (va_up col 1 (cpN hcol (col 1) hlen), va_up len 1 hlen, 2)) (fun u => wL cI cW hl al 10 wa ca u.1 u.2.1 u.2.2 ++ wW cI hh ah hcol hlen) := by
  refine CtV.mk (by decide) (Nat.le_of_ble_eq_true rfl) ?_
  intro p e s m args below meth c A hc hr hlk hnm hro
  generalize hQ : MQ below _ args s 0 0 A = Q
  show V p l e (RM 2 47 0 0) s m args below meth c D A 2 0 0 Q (wL cI cW hl al 10 wa ca col len 1 ++ (wW cI hh ah hcol hlen)) 0 [(0, .ref hl), (1, .ref hh)] []
  refine r_aload_n hc dX4_add_0 rfl 0 rfl ?_
  refine r_get hc inlX4 0 rfl rfl 0 (by decide) fl_X4_9 rfl rfl dX4_add_1 ?_
  refine r_aload_n hc dX4_add_4 rfl 0 rfl ?_
  refine r_get hc inlX4 0 rfl rfl 1 (by decide) fl_X4_16 rfl rfl dX4_add_5 ?_
  refine r_ald hc 1 rfl (by decide) (by decide) rfl dX4_add_8 ?_
  refine r_aload_n hc dX4_add_9 rfl 1 rfl ?_
  refine r_callV (As := [.ref hh]) (n := 1) (wr := [(hl, .inr (4, [.ref al, .int (nI 1)])), (al, .inl (cW, 10, .inr (.inr (.inr (.inr (fun j => some (wa j))))))), (wa 0, .inr (3, [.ref (ca 0), .int (nI (len 0))])), (ca 0, .inl (cI, 24, .inl (fun j => nI (col 0 j)))), (wa 2, .inr (3, [.ref (ca 2), .int (nI (len 2))])), (ca 2, .inl (cI, 24, .inl (fun j => nI (col 2 j)))), (wa 3, .inr (3, [.ref (ca 3), .int (nI (len 3))])), (ca 3, .inl (cI, 24, .inl (fun j => nI (col 3 j)))), (wa 4, .inr (3, [.ref (ca 4), .int (nI (len 4))])), (ca 4, .inl (cI, 24, .inl (fun j => nI (col 4 j)))), (wa 5, .inr (3, [.ref (ca 5), .int (nI (len 5))])), (ca 5, .inl (cI, 24, .inl (fun j => nI (col 5 j)))), (wa 6, .inr (3, [.ref (ca 6), .int (nI (len 6))])), (ca 6, .inl (cI, 24, .inl (fun j => nI (col 6 j)))), (wa 7, .inr (3, [.ref (ca 7), .int (nI (len 7))])), (ca 7, .inl (cI, 24, .inl (fun j => nI (col 7 j)))), (wa 8, .inr (3, [.ref (ca 8), .int (nI (len 8))])), (ca 8, .inl (cI, 24, .inl (fun j => nI (col 8 j)))), (wa 9, .inr (3, [.ref (ca 9), .int (nI (len 9))])), (ca 9, .inl (cI, 24, .inl (fun j => nI (col 9 j))))]) hc (c_copyFrom l D cI cZ cW (wa 1) (ca 1) hh ah (col 1) (len 1) hcol hlen hl24) co_yX3_copyFrom in_X3 ml_X4_20 (by decide +kernel) rfl ⟨by decide, by decide⟩ ⟨by decide, by decide⟩ im_yX3_copyFrom se_yX3_copyFrom rfl (Or.inl ⟨4, _, rfl⟩) rfl (Nat.le_of_ble_eq_true rfl) [4, 5, 22, 23] [0, 1, 2, 3, 6, 7, 8, 9, 10, 11, 12, 13, 14, 15, 16, 17, 18, 19, 20, 21] rfl rfl rfl rfl (by decide) (fun q hq => absurd hq List.not_mem_nil) dX4_add_10 (fun u0 e0 => ?_)
  subst e0
  refine r_perm (ws' := wL cI cW hl al 10 wa ca (va_up col 1 (cpN hcol (col 1) hlen)) (va_up len 1 hlen) 1 ++ (wW cI hh ah hcol hlen)) [0, 1, 2, 3, 20, 21, 4, 5, 6, 7, 8, 9, 10, 11, 12, 13, 14, 15, 16, 17, 18, 19, 22, 23] rfl rfl ?_
  refine r_aload_n hc dX4_add_13 rfl 0 rfl ?_
  refine r_dup hc dX4_add_14 rfl ?_
  refine r_get hc inlX4 0 rfl rfl 1 (by decide) fl_X4_16 rfl rfl dX4_add_15 ?_
  refine r_iconst (v := (nI 1)) hc dX4_add_18 rfl ?_
  refine n_add hc dX4_add_19 ?_
  refine r_put (ws' := wL cI cW hl al 10 wa ca (va_up col 1 (cpN hcol (col 1) hlen)) (va_up len 1 hlen) (1 + 1) ++ (wW cI hh ah hcol hlen)) hc inlX4 tyX4 tyX4_ok nmX4 0 rfl rfl 1 (by decide) fl_X4_16 rfl rfl rfl rfl (Nat.le_of_ble_eq_true rfl) rfl dX4_add_20 ?_
  rw [← hQ]
  exact r_vret hc hr hlk (va_up col 1 (cpN hcol (col 1) hlen), va_up len 1 hlen, 2) rfl rfl dX4_add_23
set_option maxHeartbeats 4000000 in
set_option maxRecDepth 100000 in
/-- add, the list of 10, 2 there -/
theorem c_add10_2 (l : Launch) (D : va_G) (cI cZ cW : ClassId) (hl al : Nat) (wa ca : Nat → Nat) (col : Nat → Nat → Nat) (len : Nat → Nat) (hh ah : Nat) (hcol : Nat → Nat) (hlen : Nat) (hl24 : hlen ≤ 24) : CtV l yX4_add cX4_add 2 none 2 47 0 0 D cI cZ cW [.ref hl, .ref hh] (wL cI cW hl al 10 wa ca col len 2 ++ wW cI hh ah hcol hlen) ([]) (S := (Nat → Nat → Nat) × (Nat → Nat) × Nat) (fun u => u = (va_up col 2 (cpN hcol (col 2) hlen), va_up len 2 hlen, 3)) (fun u => wL cI cW hl al 10 wa ca u.1 u.2.1 u.2.2 ++ wW cI hh ah hcol hlen) := by
  refine CtV.mk (by decide) (Nat.le_of_ble_eq_true rfl) ?_
  intro p e s m args below meth c A hc hr hlk hnm hro
  generalize hQ : MQ below _ args s 0 0 A = Q
  show V p l e (RM 2 47 0 0) s m args below meth c D A 2 0 0 Q (wL cI cW hl al 10 wa ca col len 2 ++ (wW cI hh ah hcol hlen)) 0 [(0, .ref hl), (1, .ref hh)] []
  refine r_aload_n hc dX4_add_0 rfl 0 rfl ?_
  refine r_get hc inlX4 0 rfl rfl 0 (by decide) fl_X4_9 rfl rfl dX4_add_1 ?_
  refine r_aload_n hc dX4_add_4 rfl 0 rfl ?_
  refine r_get hc inlX4 0 rfl rfl 1 (by decide) fl_X4_16 rfl rfl dX4_add_5 ?_
  refine r_ald hc 1 rfl (by decide) (by decide) rfl dX4_add_8 ?_
  refine r_aload_n hc dX4_add_9 rfl 1 rfl ?_
  refine r_callV (As := [.ref hh]) (n := 1) (wr := [(hl, .inr (4, [.ref al, .int (nI 2)])), (al, .inl (cW, 10, .inr (.inr (.inr (.inr (fun j => some (wa j))))))), (wa 0, .inr (3, [.ref (ca 0), .int (nI (len 0))])), (ca 0, .inl (cI, 24, .inl (fun j => nI (col 0 j)))), (wa 1, .inr (3, [.ref (ca 1), .int (nI (len 1))])), (ca 1, .inl (cI, 24, .inl (fun j => nI (col 1 j)))), (wa 3, .inr (3, [.ref (ca 3), .int (nI (len 3))])), (ca 3, .inl (cI, 24, .inl (fun j => nI (col 3 j)))), (wa 4, .inr (3, [.ref (ca 4), .int (nI (len 4))])), (ca 4, .inl (cI, 24, .inl (fun j => nI (col 4 j)))), (wa 5, .inr (3, [.ref (ca 5), .int (nI (len 5))])), (ca 5, .inl (cI, 24, .inl (fun j => nI (col 5 j)))), (wa 6, .inr (3, [.ref (ca 6), .int (nI (len 6))])), (ca 6, .inl (cI, 24, .inl (fun j => nI (col 6 j)))), (wa 7, .inr (3, [.ref (ca 7), .int (nI (len 7))])), (ca 7, .inl (cI, 24, .inl (fun j => nI (col 7 j)))), (wa 8, .inr (3, [.ref (ca 8), .int (nI (len 8))])), (ca 8, .inl (cI, 24, .inl (fun j => nI (col 8 j)))), (wa 9, .inr (3, [.ref (ca 9), .int (nI (len 9))])), (ca 9, .inl (cI, 24, .inl (fun j => nI (col 9 j))))]) hc (c_copyFrom l D cI cZ cW (wa 2) (ca 2) hh ah (col 2) (len 2) hcol hlen hl24) co_yX3_copyFrom in_X3 ml_X4_20 (by decide +kernel) rfl ⟨by decide, by decide⟩ ⟨by decide, by decide⟩ im_yX3_copyFrom se_yX3_copyFrom rfl (Or.inl ⟨6, _, rfl⟩) rfl (Nat.le_of_ble_eq_true rfl) [6, 7, 22, 23] [0, 1, 2, 3, 4, 5, 8, 9, 10, 11, 12, 13, 14, 15, 16, 17, 18, 19, 20, 21] rfl rfl rfl rfl (by decide) (fun q hq => absurd hq List.not_mem_nil) dX4_add_10 (fun u0 e0 => ?_)
  subst e0
  refine r_perm (ws' := wL cI cW hl al 10 wa ca (va_up col 2 (cpN hcol (col 2) hlen)) (va_up len 2 hlen) 2 ++ (wW cI hh ah hcol hlen)) [0, 1, 2, 3, 4, 5, 20, 21, 6, 7, 8, 9, 10, 11, 12, 13, 14, 15, 16, 17, 18, 19, 22, 23] rfl rfl ?_
  refine r_aload_n hc dX4_add_13 rfl 0 rfl ?_
  refine r_dup hc dX4_add_14 rfl ?_
  refine r_get hc inlX4 0 rfl rfl 1 (by decide) fl_X4_16 rfl rfl dX4_add_15 ?_
  refine r_iconst (v := (nI 1)) hc dX4_add_18 rfl ?_
  refine n_add hc dX4_add_19 ?_
  refine r_put (ws' := wL cI cW hl al 10 wa ca (va_up col 2 (cpN hcol (col 2) hlen)) (va_up len 2 hlen) (2 + 1) ++ (wW cI hh ah hcol hlen)) hc inlX4 tyX4 tyX4_ok nmX4 0 rfl rfl 1 (by decide) fl_X4_16 rfl rfl rfl rfl (Nat.le_of_ble_eq_true rfl) rfl dX4_add_20 ?_
  rw [← hQ]
  exact r_vret hc hr hlk (va_up col 2 (cpN hcol (col 2) hlen), va_up len 2 hlen, 3) rfl rfl dX4_add_23
set_option maxHeartbeats 4000000 in
set_option maxRecDepth 100000 in
/-- add, the list of 10, 3 there -/
theorem c_add10_3 (l : Launch) (D : va_G) (cI cZ cW : ClassId) (hl al : Nat) (wa ca : Nat → Nat) (col : Nat → Nat → Nat) (len : Nat → Nat) (hh ah : Nat) (hcol : Nat → Nat) (hlen : Nat) (hl24 : hlen ≤ 24) : CtV l yX4_add cX4_add 2 none 2 47 0 0 D cI cZ cW [.ref hl, .ref hh] (wL cI cW hl al 10 wa ca col len 3 ++ wW cI hh ah hcol hlen) ([]) (S := (Nat → Nat → Nat) × (Nat → Nat) × Nat) (fun u => u = (va_up col 3 (cpN hcol (col 3) hlen), va_up len 3 hlen, 4)) (fun u => wL cI cW hl al 10 wa ca u.1 u.2.1 u.2.2 ++ wW cI hh ah hcol hlen) := by
  refine CtV.mk (by decide) (Nat.le_of_ble_eq_true rfl) ?_
  intro p e s m args below meth c A hc hr hlk hnm hro
  generalize hQ : MQ below _ args s 0 0 A = Q
  show V p l e (RM 2 47 0 0) s m args below meth c D A 2 0 0 Q (wL cI cW hl al 10 wa ca col len 3 ++ (wW cI hh ah hcol hlen)) 0 [(0, .ref hl), (1, .ref hh)] []
  refine r_aload_n hc dX4_add_0 rfl 0 rfl ?_
  refine r_get hc inlX4 0 rfl rfl 0 (by decide) fl_X4_9 rfl rfl dX4_add_1 ?_
  refine r_aload_n hc dX4_add_4 rfl 0 rfl ?_
  refine r_get hc inlX4 0 rfl rfl 1 (by decide) fl_X4_16 rfl rfl dX4_add_5 ?_
  refine r_ald hc 1 rfl (by decide) (by decide) rfl dX4_add_8 ?_
  refine r_aload_n hc dX4_add_9 rfl 1 rfl ?_
  refine r_callV (As := [.ref hh]) (n := 1) (wr := [(hl, .inr (4, [.ref al, .int (nI 3)])), (al, .inl (cW, 10, .inr (.inr (.inr (.inr (fun j => some (wa j))))))), (wa 0, .inr (3, [.ref (ca 0), .int (nI (len 0))])), (ca 0, .inl (cI, 24, .inl (fun j => nI (col 0 j)))), (wa 1, .inr (3, [.ref (ca 1), .int (nI (len 1))])), (ca 1, .inl (cI, 24, .inl (fun j => nI (col 1 j)))), (wa 2, .inr (3, [.ref (ca 2), .int (nI (len 2))])), (ca 2, .inl (cI, 24, .inl (fun j => nI (col 2 j)))), (wa 4, .inr (3, [.ref (ca 4), .int (nI (len 4))])), (ca 4, .inl (cI, 24, .inl (fun j => nI (col 4 j)))), (wa 5, .inr (3, [.ref (ca 5), .int (nI (len 5))])), (ca 5, .inl (cI, 24, .inl (fun j => nI (col 5 j)))), (wa 6, .inr (3, [.ref (ca 6), .int (nI (len 6))])), (ca 6, .inl (cI, 24, .inl (fun j => nI (col 6 j)))), (wa 7, .inr (3, [.ref (ca 7), .int (nI (len 7))])), (ca 7, .inl (cI, 24, .inl (fun j => nI (col 7 j)))), (wa 8, .inr (3, [.ref (ca 8), .int (nI (len 8))])), (ca 8, .inl (cI, 24, .inl (fun j => nI (col 8 j)))), (wa 9, .inr (3, [.ref (ca 9), .int (nI (len 9))])), (ca 9, .inl (cI, 24, .inl (fun j => nI (col 9 j))))]) hc (c_copyFrom l D cI cZ cW (wa 3) (ca 3) hh ah (col 3) (len 3) hcol hlen hl24) co_yX3_copyFrom in_X3 ml_X4_20 (by decide +kernel) rfl ⟨by decide, by decide⟩ ⟨by decide, by decide⟩ im_yX3_copyFrom se_yX3_copyFrom rfl (Or.inl ⟨8, _, rfl⟩) rfl (Nat.le_of_ble_eq_true rfl) [8, 9, 22, 23] [0, 1, 2, 3, 4, 5, 6, 7, 10, 11, 12, 13, 14, 15, 16, 17, 18, 19, 20, 21] rfl rfl rfl rfl (by decide) (fun q hq => absurd hq List.not_mem_nil) dX4_add_10 (fun u0 e0 => ?_)
  subst e0
  refine r_perm (ws' := wL cI cW hl al 10 wa ca (va_up col 3 (cpN hcol (col 3) hlen)) (va_up len 3 hlen) 3 ++ (wW cI hh ah hcol hlen)) [0, 1, 2, 3, 4, 5, 6, 7, 20, 21, 8, 9, 10, 11, 12, 13, 14, 15, 16, 17, 18, 19, 22, 23] rfl rfl ?_
  refine r_aload_n hc dX4_add_13 rfl 0 rfl ?_
  refine r_dup hc dX4_add_14 rfl ?_
  refine r_get hc inlX4 0 rfl rfl 1 (by decide) fl_X4_16 rfl rfl dX4_add_15 ?_
  refine r_iconst (v := (nI 1)) hc dX4_add_18 rfl ?_
  refine n_add hc dX4_add_19 ?_
  refine r_put (ws' := wL cI cW hl al 10 wa ca (va_up col 3 (cpN hcol (col 3) hlen)) (va_up len 3 hlen) (3 + 1) ++ (wW cI hh ah hcol hlen)) hc inlX4 tyX4 tyX4_ok nmX4 0 rfl rfl 1 (by decide) fl_X4_16 rfl rfl rfl rfl (Nat.le_of_ble_eq_true rfl) rfl dX4_add_20 ?_
  rw [← hQ]
  exact r_vret hc hr hlk (va_up col 3 (cpN hcol (col 3) hlen), va_up len 3 hlen, 4) rfl rfl dX4_add_23
set_option maxHeartbeats 4000000 in
set_option maxRecDepth 100000 in
/-- add, the list of 10, 4 there -/
theorem c_add10_4 (l : Launch) (D : va_G) (cI cZ cW : ClassId) (hl al : Nat) (wa ca : Nat → Nat) (col : Nat → Nat → Nat) (len : Nat → Nat) (hh ah : Nat) (hcol : Nat → Nat) (hlen : Nat) (hl24 : hlen ≤ 24) : CtV l yX4_add cX4_add 2 none 2 47 0 0 D cI cZ cW [.ref hl, .ref hh] (wL cI cW hl al 10 wa ca col len 4 ++ wW cI hh ah hcol hlen) ([]) (S := (Nat → Nat → Nat) × (Nat → Nat) × Nat) (fun u => u = (va_up col 4 (cpN hcol (col 4) hlen), va_up len 4 hlen, 5)) (fun u => wL cI cW hl al 10 wa ca u.1 u.2.1 u.2.2 ++ wW cI hh ah hcol hlen) := by
  refine CtV.mk (by decide) (Nat.le_of_ble_eq_true rfl) ?_
  intro p e s m args below meth c A hc hr hlk hnm hro
  generalize hQ : MQ below _ args s 0 0 A = Q
  show V p l e (RM 2 47 0 0) s m args below meth c D A 2 0 0 Q (wL cI cW hl al 10 wa ca col len 4 ++ (wW cI hh ah hcol hlen)) 0 [(0, .ref hl), (1, .ref hh)] []
  refine r_aload_n hc dX4_add_0 rfl 0 rfl ?_
  refine r_get hc inlX4 0 rfl rfl 0 (by decide) fl_X4_9 rfl rfl dX4_add_1 ?_
  refine r_aload_n hc dX4_add_4 rfl 0 rfl ?_
  refine r_get hc inlX4 0 rfl rfl 1 (by decide) fl_X4_16 rfl rfl dX4_add_5 ?_
  refine r_ald hc 1 rfl (by decide) (by decide) rfl dX4_add_8 ?_
  refine r_aload_n hc dX4_add_9 rfl 1 rfl ?_
  refine r_callV (As := [.ref hh]) (n := 1) (wr := [(hl, .inr (4, [.ref al, .int (nI 4)])), (al, .inl (cW, 10, .inr (.inr (.inr (.inr (fun j => some (wa j))))))), (wa 0, .inr (3, [.ref (ca 0), .int (nI (len 0))])), (ca 0, .inl (cI, 24, .inl (fun j => nI (col 0 j)))), (wa 1, .inr (3, [.ref (ca 1), .int (nI (len 1))])), (ca 1, .inl (cI, 24, .inl (fun j => nI (col 1 j)))), (wa 2, .inr (3, [.ref (ca 2), .int (nI (len 2))])), (ca 2, .inl (cI, 24, .inl (fun j => nI (col 2 j)))), (wa 3, .inr (3, [.ref (ca 3), .int (nI (len 3))])), (ca 3, .inl (cI, 24, .inl (fun j => nI (col 3 j)))), (wa 5, .inr (3, [.ref (ca 5), .int (nI (len 5))])), (ca 5, .inl (cI, 24, .inl (fun j => nI (col 5 j)))), (wa 6, .inr (3, [.ref (ca 6), .int (nI (len 6))])), (ca 6, .inl (cI, 24, .inl (fun j => nI (col 6 j)))), (wa 7, .inr (3, [.ref (ca 7), .int (nI (len 7))])), (ca 7, .inl (cI, 24, .inl (fun j => nI (col 7 j)))), (wa 8, .inr (3, [.ref (ca 8), .int (nI (len 8))])), (ca 8, .inl (cI, 24, .inl (fun j => nI (col 8 j)))), (wa 9, .inr (3, [.ref (ca 9), .int (nI (len 9))])), (ca 9, .inl (cI, 24, .inl (fun j => nI (col 9 j))))]) hc (c_copyFrom l D cI cZ cW (wa 4) (ca 4) hh ah (col 4) (len 4) hcol hlen hl24) co_yX3_copyFrom in_X3 ml_X4_20 (by decide +kernel) rfl ⟨by decide, by decide⟩ ⟨by decide, by decide⟩ im_yX3_copyFrom se_yX3_copyFrom rfl (Or.inl ⟨10, _, rfl⟩) rfl (Nat.le_of_ble_eq_true rfl) [10, 11, 22, 23] [0, 1, 2, 3, 4, 5, 6, 7, 8, 9, 12, 13, 14, 15, 16, 17, 18, 19, 20, 21] rfl rfl rfl rfl (by decide) (fun q hq => absurd hq List.not_mem_nil) dX4_add_10 (fun u0 e0 => ?_)
  subst e0
  refine r_perm (ws' := wL cI cW hl al 10 wa ca (va_up col 4 (cpN hcol (col 4) hlen)) (va_up len 4 hlen) 4 ++ (wW cI hh ah hcol hlen)) [0, 1, 2, 3, 4, 5, 6, 7, 8, 9, 20, 21, 10, 11, 12, 13, 14, 15, 16, 17, 18, 19, 22, 23] rfl rfl ?_
  refine r_aload_n hc dX4_add_13 rfl 0 rfl ?_
  refine r_dup hc dX4_add_14 rfl ?_
  refine r_get hc inlX4 0 rfl rfl 1 (by decide) fl_X4_16 rfl rfl dX4_add_15 ?_
  refine r_iconst (v := (nI 1)) hc dX4_add_18 rfl ?_
  refine n_add hc dX4_add_19 ?_
  refine r_put (ws' := wL cI cW hl al 10 wa ca (va_up col 4 (cpN hcol (col 4) hlen)) (va_up len 4 hlen) (4 + 1) ++ (wW cI hh ah hcol hlen)) hc inlX4 tyX4 tyX4_ok nmX4 0 rfl rfl 1 (by decide) fl_X4_16 rfl rfl rfl rfl (Nat.le_of_ble_eq_true rfl) rfl dX4_add_20 ?_
  rw [← hQ]
  exact r_vret hc hr hlk (va_up col 4 (cpN hcol (col 4) hlen), va_up len 4 hlen, 5) rfl rfl dX4_add_23
set_option maxHeartbeats 4000000 in
set_option maxRecDepth 100000 in
/-- add, the list of 10, 5 there -/
theorem c_add10_5 (l : Launch) (D : va_G) (cI cZ cW : ClassId) (hl al : Nat) (wa ca : Nat → Nat) (col : Nat → Nat → Nat) (len : Nat → Nat) (hh ah : Nat) (hcol : Nat → Nat) (hlen : Nat) (hl24 : hlen ≤ 24) : CtV l yX4_add cX4_add 2 none 2 47 0 0 D cI cZ cW [.ref hl, .ref hh] (wL cI cW hl al 10 wa ca col len 5 ++ wW cI hh ah hcol hlen) ([]) (S := (Nat → Nat → Nat) × (Nat → Nat) × Nat) (fun u => u = (va_up col 5 (cpN hcol (col 5) hlen), va_up len 5 hlen, 6)) (fun u => wL cI cW hl al 10 wa ca u.1 u.2.1 u.2.2 ++ wW cI hh ah hcol hlen) := by
  refine CtV.mk (by decide) (Nat.le_of_ble_eq_true rfl) ?_
  intro p e s m args below meth c A hc hr hlk hnm hro
  generalize hQ : MQ below _ args s 0 0 A = Q
  show V p l e (RM 2 47 0 0) s m args below meth c D A 2 0 0 Q (wL cI cW hl al 10 wa ca col len 5 ++ (wW cI hh ah hcol hlen)) 0 [(0, .ref hl), (1, .ref hh)] []
  refine r_aload_n hc dX4_add_0 rfl 0 rfl ?_
  refine r_get hc inlX4 0 rfl rfl 0 (by decide) fl_X4_9 rfl rfl dX4_add_1 ?_
  refine r_aload_n hc dX4_add_4 rfl 0 rfl ?_
  refine r_get hc inlX4 0 rfl rfl 1 (by decide) fl_X4_16 rfl rfl dX4_add_5 ?_
  refine r_ald hc 1 rfl (by decide) (by decide) rfl dX4_add_8 ?_
  refine r_aload_n hc dX4_add_9 rfl 1 rfl ?_
  refine r_callV (As := [.ref hh]) (n := 1) (wr := [(hl, .inr (4, [.ref al, .int (nI 5)])), (al, .inl (cW, 10, .inr (.inr (.inr (.inr (fun j => some (wa j))))))), (wa 0, .inr (3, [.ref (ca 0), .int (nI (len 0))])), (ca 0, .inl (cI, 24, .inl (fun j => nI (col 0 j)))), (wa 1, .inr (3, [.ref (ca 1), .int (nI (len 1))])), (ca 1, .inl (cI, 24, .inl (fun j => nI (col 1 j)))), (wa 2, .inr (3, [.ref (ca 2), .int (nI (len 2))])), (ca 2, .inl (cI, 24, .inl (fun j => nI (col 2 j)))), (wa 3, .inr (3, [.ref (ca 3), .int (nI (len 3))])), (ca 3, .inl (cI, 24, .inl (fun j => nI (col 3 j)))), (wa 4, .inr (3, [.ref (ca 4), .int (nI (len 4))])), (ca 4, .inl (cI, 24, .inl (fun j => nI (col 4 j)))), (wa 6, .inr (3, [.ref (ca 6), .int (nI (len 6))])), (ca 6, .inl (cI, 24, .inl (fun j => nI (col 6 j)))), (wa 7, .inr (3, [.ref (ca 7), .int (nI (len 7))])), (ca 7, .inl (cI, 24, .inl (fun j => nI (col 7 j)))), (wa 8, .inr (3, [.ref (ca 8), .int (nI (len 8))])), (ca 8, .inl (cI, 24, .inl (fun j => nI (col 8 j)))), (wa 9, .inr (3, [.ref (ca 9), .int (nI (len 9))])), (ca 9, .inl (cI, 24, .inl (fun j => nI (col 9 j))))]) hc (c_copyFrom l D cI cZ cW (wa 5) (ca 5) hh ah (col 5) (len 5) hcol hlen hl24) co_yX3_copyFrom in_X3 ml_X4_20 (by decide +kernel) rfl ⟨by decide, by decide⟩ ⟨by decide, by decide⟩ im_yX3_copyFrom se_yX3_copyFrom rfl (Or.inl ⟨12, _, rfl⟩) rfl (Nat.le_of_ble_eq_true rfl) [12, 13, 22, 23] [0, 1, 2, 3, 4, 5, 6, 7, 8, 9, 10, 11, 14, 15, 16, 17, 18, 19, 20, 21] rfl rfl rfl rfl (by decide) (fun q hq => absurd hq List.not_mem_nil) dX4_add_10 (fun u0 e0 => ?_)
  subst e0
  refine r_perm (ws' := wL cI cW hl al 10 wa ca (va_up col 5 (cpN hcol (col 5) hlen)) (va_up len 5 hlen) 5 ++ (wW cI hh ah hcol hlen)) [0, 1, 2, 3, 4, 5, 6, 7, 8, 9, 10, 11, 20, 21, 12, 13, 14, 15, 16, 17, 18, 19, 22, 23] rfl rfl ?_
  refine r_aload_n hc dX4_add_13 rfl 0 rfl ?_
  refine r_dup hc dX4_add_14 rfl ?_
  refine r_get hc inlX4 0 rfl rfl 1 (by decide) fl_X4_16 rfl rfl dX4_add_15 ?_
  refine r_iconst (v := (nI 1)) hc dX4_add_18 rfl ?_
  refine n_add hc dX4_add_19 ?_
  refine r_put (ws' := wL cI cW hl al 10 wa ca (va_up col 5 (cpN hcol (col 5) hlen)) (va_up len 5 hlen) (5 + 1) ++ (wW cI hh ah hcol hlen)) hc inlX4 tyX4 tyX4_ok nmX4 0 rfl rfl 1 (by decide) fl_X4_16 rfl rfl rfl rfl (Nat.le_of_ble_eq_true rfl) rfl dX4_add_20 ?_
  rw [← hQ]
  exact r_vret hc hr hlk (va_up col 5 (cpN hcol (col 5) hlen), va_up len 5 hlen, 6) rfl rfl dX4_add_23
set_option maxHeartbeats 4000000 in
set_option maxRecDepth 100000 in
/-- add, the list of 10, 6 there -/
theorem c_add10_6 (l : Launch) (D : va_G) (cI cZ cW : ClassId) (hl al : Nat) (wa ca : Nat → Nat) (col : Nat → Nat → Nat) (len : Nat → Nat) (hh ah : Nat) (hcol : Nat → Nat) (hlen : Nat) (hl24 : hlen ≤ 24) : CtV l yX4_add cX4_add 2 none 2 47 0 0 D cI cZ cW [.ref hl, .ref hh] (wL cI cW hl al 10 wa ca col len 6 ++ wW cI hh ah hcol hlen) ([]) (S := (Nat → Nat → Nat) × (Nat → Nat) × Nat) (fun u => u = (va_up col 6 (cpN hcol (col 6) hlen), va_up len 6 hlen, 7)) (fun u => wL cI cW hl al 10 wa ca u.1 u.2.1 u.2.2 ++ wW cI hh ah hcol hlen) := by
  refine CtV.mk (by decide) (Nat.le_of_ble_eq_true rfl) ?_
  intro p e s m args below meth c A hc hr hlk hnm hro
  generalize hQ : MQ below _ args s 0 0 A = Q
  show V p l e (RM 2 47 0 0) s m args below meth c D A 2 0 0 Q (wL cI cW hl al 10 wa ca col len 6 ++ (wW cI hh ah hcol hlen)) 0 [(0, .ref hl), (1, .ref hh)] []
  refine r_aload_n hc dX4_add_0 rfl 0 rfl ?_
  refine r_get hc inlX4 0 rfl rfl 0 (by decide) fl_X4_9 rfl rfl dX4_add_1 ?_
  refine r_aload_n hc dX4_add_4 rfl 0 rfl ?_
  refine r_get hc inlX4 0 rfl rfl 1 (by decide) fl_X4_16 rfl rfl dX4_add_5 ?_
  refine r_ald hc 1 rfl (by decide) (by decide) rfl dX4_add_8 ?_
  refine r_aload_n hc dX4_add_9 rfl 1 rfl ?_
  refine r_callV (As := [.ref hh]) (n := 1) (wr := [(hl, .inr (4, [.ref al, .int (nI 6)])), (al, .inl (cW, 10, .inr (.inr (.inr (.inr (fun j => some (wa j))))))), (wa 0, .inr (3, [.ref (ca 0), .int (nI (len 0))])), (ca 0, .inl (cI, 24, .inl (fun j => nI (col 0 j)))), (wa 1, .inr (3, [.ref (ca 1), .int (nI (len 1))])), (ca 1, .inl (cI, 24, .inl (fun j => nI (col 1 j)))), (wa 2, .inr (3, [.ref (ca 2), .int (nI (len 2))])), (ca 2, .inl (cI, 24, .inl (fun j => nI (col 2 j)))), (wa 3, .inr (3, [.ref (ca 3), .int (nI (len 3))])), (ca 3, .inl (cI, 24, .inl (fun j => nI (col 3 j)))), (wa 4, .inr (3, [.ref (ca 4), .int (nI (len 4))])), (ca 4, .inl (cI, 24, .inl (fun j => nI (col 4 j)))), (wa 5, .inr (3, [.ref (ca 5), .int (nI (len 5))])), (ca 5, .inl (cI, 24, .inl (fun j => nI (col 5 j)))), (wa 7, .inr (3, [.ref (ca 7), .int (nI (len 7))])), (ca 7, .inl (cI, 24, .inl (fun j => nI (col 7 j)))), (wa 8, .inr (3, [.ref (ca 8), .int (nI (len 8))])), (ca 8, .inl (cI, 24, .inl (fun j => nI (col 8 j)))), (wa 9, .inr (3, [.ref (ca 9), .int (nI (len 9))])), (ca 9, .inl (cI, 24, .inl (fun j => nI (col 9 j))))]) hc (c_copyFrom l D cI cZ cW (wa 6) (ca 6) hh ah (col 6) (len 6) hcol hlen hl24) co_yX3_copyFrom in_X3 ml_X4_20 (by decide +kernel) rfl ⟨by decide, by decide⟩ ⟨by decide, by decide⟩ im_yX3_copyFrom se_yX3_copyFrom rfl (Or.inl ⟨14, _, rfl⟩) rfl (Nat.le_of_ble_eq_true rfl) [14, 15, 22, 23] [0, 1, 2, 3, 4, 5, 6, 7, 8, 9, 10, 11, 12, 13, 16, 17, 18, 19, 20, 21] rfl rfl rfl rfl (by decide) (fun q hq => absurd hq List.not_mem_nil) dX4_add_10 (fun u0 e0 => ?_)
  subst e0
  refine r_perm (ws' := wL cI cW hl al 10 wa ca (va_up col 6 (cpN hcol (col 6) hlen)) (va_up len 6 hlen) 6 ++ (wW cI hh ah hcol hlen)) [0, 1, 2, 3, 4, 5, 6, 7, 8, 9, 10, 11, 12, 13, 20, 21, 14, 15, 16, 17, 18, 19, 22, 23] rfl rfl ?_
  refine r_aload_n hc dX4_add_13 rfl 0 rfl ?_
  refine r_dup hc dX4_add_14 rfl ?_
  refine r_get hc inlX4 0 rfl rfl 1 (by decide) fl_X4_16 rfl rfl dX4_add_15 ?_
  refine r_iconst (v := (nI 1)) hc dX4_add_18 rfl ?_
  refine n_add hc dX4_add_19 ?_
  refine r_put (ws' := wL cI cW hl al 10 wa ca (va_up col 6 (cpN hcol (col 6) hlen)) (va_up len 6 hlen) (6 + 1) ++ (wW cI hh ah hcol hlen)) hc inlX4 tyX4 tyX4_ok nmX4 0 rfl rfl 1 (by decide) fl_X4_16 rfl rfl rfl rfl (Nat.le_of_ble_eq_true rfl) rfl dX4_add_20 ?_
  rw [← hQ]
  exact r_vret hc hr hlk (va_up col 6 (cpN hcol (col 6) hlen), va_up len 6 hlen, 7) rfl rfl dX4_add_23
set_option maxHeartbeats 4000000 in
set_option maxRecDepth 100000 in
/-- add, the list of 10, 7 there -/
theorem c_add10_7 (l : Launch) (D : va_G) (cI cZ cW : ClassId) (hl al : Nat) (wa ca : Nat → Nat) (col : Nat → Nat → Nat) (len : Nat → Nat) (hh ah : Nat) (hcol : Nat → Nat) (hlen : Nat) (hl24 : hlen ≤ 24) : CtV l yX4_add cX4_add 2 none 2 47 0 0 D cI cZ cW [.ref hl, .ref hh] (wL cI cW hl al 10 wa ca col len 7 ++ wW cI hh ah hcol hlen) ([]) (S := (Nat → Nat → Nat) × (Nat → Nat) × Nat) (fun u => u = (va_up col 7 (cpN hcol (col 7) hlen), va_up len 7 hlen, 8)) (fun u => wL cI cW hl al 10 wa ca u.1 u.2.1 u.2.2 ++ wW cI hh ah hcol hlen) := by
  refine CtV.mk (by decide) (Nat.le_of_ble_eq_true rfl) ?_
  intro p e s m args below meth c A hc hr hlk hnm hro
  generalize hQ : MQ below _ args s 0 0 A = Q
  show V p l e (RM 2 47 0 0) s m args below meth c D A 2 0 0 Q (wL cI cW hl al 10 wa ca col len 7 ++ (wW cI hh ah hcol hlen)) 0 [(0, .ref hl), (1, .ref hh)] []
  refine r_aload_n hc dX4_add_0 rfl 0 rfl ?_
  refine r_get hc inlX4 0 rfl rfl 0 (by decide) fl_X4_9 rfl rfl dX4_add_1 ?_
  refine r_aload_n hc dX4_add_4 rfl 0 rfl ?_
  refine r_get hc inlX4 0 rfl rfl 1 (by decide) fl_X4_16 rfl rfl dX4_add_5 ?_
  refine r_ald hc 1 rfl (by decide) (by decide) rfl dX4_add_8 ?_
  refine r_aload_n hc dX4_add_9 rfl 1 rfl ?_
  refine r_callV (As := [.ref hh]) (n := 1) (wr := [(hl, .inr (4, [.ref al, .int (nI 7)])), (al, .inl (cW, 10, .inr (.inr (.inr (.inr (fun j => some (wa j))))))), (wa 0, .inr (3, [.ref (ca 0), .int (nI (len 0))])), (ca 0, .inl (cI, 24, .inl (fun j => nI (col 0 j)))), (wa 1, .inr (3, [.ref (ca 1), .int (nI (len 1))])), (ca 1, .inl (cI, 24, .inl (fun j => nI (col 1 j)))), (wa 2, .inr (3, [.ref (ca 2), .int (nI (len 2))])), (ca 2, .inl (cI, 24, .inl (fun j => nI (col 2 j)))), (wa 3, .inr (3, [.ref (ca 3), .int (nI (len 3))])), (ca 3, .inl (cI, 24, .inl (fun j => nI (col 3 j)))), (wa 4, .inr (3, [.ref (ca 4), .int (nI (len 4))])), (ca 4, .inl (cI, 24, .inl (fun j => nI (col 4 j)))), (wa 5, .inr (3, [.ref (ca 5), .int (nI (len 5))])), (ca 5, .inl (cI, 24, .inl (fun j => nI (col 5 j)))), (wa 6, .inr (3, [.ref (ca 6), .int (nI (len 6))])), (ca 6, .inl (cI, 24, .inl (fun j => nI (col 6 j)))), (wa 8, .inr (3, [.ref (ca 8), .int (nI (len 8))])), (ca 8, .inl (cI, 24, .inl (fun j => nI (col 8 j)))), (wa 9, .inr (3, [.ref (ca 9), .int (nI (len 9))])), (ca 9, .inl (cI, 24, .inl (fun j => nI (col 9 j))))]) hc (c_copyFrom l D cI cZ cW (wa 7) (ca 7) hh ah (col 7) (len 7) hcol hlen hl24) co_yX3_copyFrom in_X3 ml_X4_20 (by decide +kernel) rfl ⟨by decide, by decide⟩ ⟨by decide, by decide⟩ im_yX3_copyFrom se_yX3_copyFrom rfl (Or.inl ⟨16, _, rfl⟩) rfl (Nat.le_of_ble_eq_true rfl) [16, 17, 22, 23] [0, 1, 2, 3, 4, 5, 6, 7, 8, 9, 10, 11, 12, 13, 14, 15, 18, 19, 20, 21] rfl rfl rfl rfl (by decide) (fun q hq => absurd hq List.not_mem_nil) dX4_add_10 (fun u0 e0 => ?_)
  subst e0
  refine r_perm (ws' := wL cI cW hl al 10 wa ca (va_up col 7 (cpN hcol (col 7) hlen)) (va_up len 7 hlen) 7 ++ (wW cI hh ah hcol hlen)) [0, 1, 2, 3, 4, 5, 6, 7, 8, 9, 10, 11, 12, 13, 14, 15, 20, 21, 16, 17, 18, 19, 22, 23] rfl rfl ?_
  refine r_aload_n hc dX4_add_13 rfl 0 rfl ?_
  refine r_dup hc dX4_add_14 rfl ?_
  refine r_get hc inlX4 0 rfl rfl 1 (by decide) fl_X4_16 rfl rfl dX4_add_15 ?_
  refine r_iconst (v := (nI 1)) hc dX4_add_18 rfl ?_
  refine n_add hc dX4_add_19 ?_
  refine r_put (ws' := wL cI cW hl al 10 wa ca (va_up col 7 (cpN hcol (col 7) hlen)) (va_up len 7 hlen) (7 + 1) ++ (wW cI hh ah hcol hlen)) hc inlX4 tyX4 tyX4_ok nmX4 0 rfl rfl 1 (by decide) fl_X4_16 rfl rfl rfl rfl (Nat.le_of_ble_eq_true rfl) rfl dX4_add_20 ?_
  rw [← hQ]
  exact r_vret hc hr hlk (va_up col 7 (cpN hcol (col 7) hlen), va_up len 7 hlen, 8) rfl rfl dX4_add_23
set_option maxHeartbeats 4000000 in
set_option maxRecDepth 100000 in
/-- add, the list of 10, 8 there -/
theorem c_add10_8 (l : Launch) (D : va_G) (cI cZ cW : ClassId) (hl al : Nat) (wa ca : Nat → Nat) (col : Nat → Nat → Nat) (len : Nat → Nat) (hh ah : Nat) (hcol : Nat → Nat) (hlen : Nat) (hl24 : hlen ≤ 24) : CtV l yX4_add cX4_add 2 none 2 47 0 0 D cI cZ cW [.ref hl, .ref hh] (wL cI cW hl al 10 wa ca col len 8 ++ wW cI hh ah hcol hlen) ([]) (S := (Nat → Nat → Nat) × (Nat → Nat) × Nat) (fun u => u = (va_up col 8 (cpN hcol (col 8) hlen), va_up len 8 hlen, 9)) (fun u => wL cI cW hl al 10 wa ca u.1 u.2.1 u.2.2 ++ wW cI hh ah hcol hlen) := by
  refine CtV.mk (by decide) (Nat.le_of_ble_eq_true rfl) ?_
  intro p e s m args below meth c A hc hr hlk hnm hro
  generalize hQ : MQ below _ args s 0 0 A = Q
  show V p l e (RM 2 47 0 0) s m args below meth c D A 2 0 0 Q (wL cI cW hl al 10 wa ca col len 8 ++ (wW cI hh ah hcol hlen)) 0 [(0, .ref hl), (1, .ref hh)] []
  refine r_aload_n hc dX4_add_0 rfl 0 rfl ?_
  refine r_get hc inlX4 0 rfl rfl 0 (by decide) fl_X4_9 rfl rfl dX4_add_1 ?_
  refine r_aload_n hc dX4_add_4 rfl 0 rfl ?_
  refine r_get hc inlX4 0 rfl rfl 1 (by decide) fl_X4_16 rfl rfl dX4_add_5 ?_
  refine r_ald hc 1 rfl (by decide) (by decide) rfl dX4_add_8 ?_
  refine r_aload_n hc dX4_add_9 rfl 1 rfl ?_
  refine r_callV (As := [.ref hh]) (n := 1) (wr := [(hl, .inr (4, [.ref al, .int (nI 8)])), (al, .inl (cW, 10, .inr (.inr (.inr (.inr (fun j => some (wa j))))))), (wa 0, .inr (3, [.ref (ca 0), .int (nI (len 0))])), (ca 0, .inl (cI, 24, .inl (fun j => nI (col 0 j)))), (wa 1, .inr (3, [.ref (ca 1), .int (nI (len 1))])), (ca 1, .inl (cI, 24, .inl (fun j => nI (col 1 j)))), (wa 2, .inr (3, [.ref (ca 2), .int (nI (len 2))])), (ca 2, .inl (cI, 24, .inl (fun j => nI (col 2 j)))), (wa 3, .inr (3, [.ref (ca 3), .int (nI (len 3))])), (ca 3, .inl (cI, 24, .inl (fun j => nI (col 3 j)))), (wa 4, .inr (3, [.ref (ca 4), .int (nI (len 4))])), (ca 4, .inl (cI, 24, .inl (fun j => nI (col 4 j)))), (wa 5, .inr (3, [.ref (ca 5), .int (nI (len 5))])), (ca 5, .inl (cI, 24, .inl (fun j => nI (col 5 j)))), (wa 6, .inr (3, [.ref (ca 6), .int (nI (len 6))])), (ca 6, .inl (cI, 24, .inl (fun j => nI (col 6 j)))), (wa 7, .inr (3, [.ref (ca 7), .int (nI (len 7))])), (ca 7, .inl (cI, 24, .inl (fun j => nI (col 7 j)))), (wa 9, .inr (3, [.ref (ca 9), .int (nI (len 9))])), (ca 9, .inl (cI, 24, .inl (fun j => nI (col 9 j))))]) hc (c_copyFrom l D cI cZ cW (wa 8) (ca 8) hh ah (col 8) (len 8) hcol hlen hl24) co_yX3_copyFrom in_X3 ml_X4_20 (by decide +kernel) rfl ⟨by decide, by decide⟩ ⟨by decide, by decide⟩ im_yX3_copyFrom se_yX3_copyFrom rfl (Or.inl ⟨18, _, rfl⟩) rfl (Nat.le_of_ble_eq_true rfl) [18, 19, 22, 23] [0, 1, 2, 3, 4, 5, 6, 7, 8, 9, 10, 11, 12, 13, 14, 15, 16, 17, 20, 21] rfl rfl rfl rfl (by decide) (fun q hq => absurd hq List.not_mem_nil) dX4_add_10 (fun u0 e0 => ?_)
  subst e0
  refine r_perm (ws' := wL cI cW hl al 10 wa ca (va_up col 8 (cpN hcol (col 8) hlen)) (va_up len 8 hlen) 8 ++ (wW cI hh ah hcol hlen)) [0, 1, 2, 3, 4, 5, 6, 7, 8, 9, 10, 11, 12, 13, 14, 15, 16, 17, 20, 21, 18, 19, 22, 23] rfl rfl ?_
  refine r_aload_n hc dX4_add_13 rfl 0 rfl ?_
  refine r_dup hc dX4_add_14 rfl ?_
  refine r_get hc inlX4 0 rfl rfl 1 (by decide) fl_X4_16 rfl rfl dX4_add_15 ?_
  refine r_iconst (v := (nI 1)) hc dX4_add_18 rfl ?_
  refine n_add hc dX4_add_19 ?_
  refine r_put (ws' := wL cI cW hl al 10 wa ca (va_up col 8 (cpN hcol (col 8) hlen)) (va_up len 8 hlen) (8 + 1) ++ (wW cI hh ah hcol hlen)) hc inlX4 tyX4 tyX4_ok nmX4 0 rfl rfl 1 (by decide) fl_X4_16 rfl rfl rfl rfl (Nat.le_of_ble_eq_true rfl) rfl dX4_add_20 ?_
  rw [← hQ]
  exact r_vret hc hr hlk (va_up col 8 (cpN hcol (col 8) hlen), va_up len 8 hlen, 9) rfl rfl dX4_add_23
set_option maxHeartbeats 4000000 in
set_option maxRecDepth 100000 in
/-- add, the list of 10, 9 there -/
theorem c_add10_9 (l : Launch) (D : va_G) (cI cZ cW : ClassId) (hl al : Nat) (wa ca : Nat → Nat) (col : Nat → Nat → Nat) (len : Nat → Nat) (hh ah : Nat) (hcol : Nat → Nat) (hlen : Nat) (hl24 : hlen ≤ 24) : CtV l yX4_add cX4_add 2 none 2 47 0 0 D cI cZ cW [.ref hl, .ref hh] (wL cI cW hl al 10 wa ca col len 9 ++ wW cI hh ah hcol hlen) ([]) (S := (Nat → Nat → Nat) × (Nat → Nat) × Nat) (fun u => u = (va_up col 9 (cpN hcol (col 9) hlen), va_up len 9 hlen, 10)) (fun u => wL cI cW hl al 10 wa ca u.1 u.2.1 u.2.2 ++ wW cI hh ah hcol hlen) := by
  refine CtV.mk (by decide) (Nat.le_of_ble_eq_true rfl) ?_
  intro p e s m args below meth c A hc hr hlk hnm hro
  generalize hQ : MQ below _ args s 0 0 A = Q
  show V p l e (RM 2 47 0 0) s m args below meth c D A 2 0 0 Q (wL cI cW hl al 10 wa ca col len 9 ++ (wW cI hh ah hcol hlen)) 0 [(0, .ref hl), (1, .ref hh)] []
  refine r_aload_n hc dX4_add_0 rfl 0 rfl ?_
  refine r_get hc inlX4 0 rfl rfl 0 (by decide) fl_X4_9 rfl rfl dX4_add_1 ?_
  refine r_aload_n hc dX4_add_4 rfl 0 rfl ?_
  refine r_get hc inlX4 0 rfl rfl 1 (by decide) fl_X4_16 rfl rfl dX4_add_5 ?_
  refine r_ald hc 1 rfl (by decide) (by decide) rfl dX4_add_8 ?_
  refine r_aload_n hc dX4_add_9 rfl 1 rfl ?_
  refine r_callV (As := [.ref hh]) (n := 1) (wr := [(hl, .inr (4, [.ref al, .int (nI 9)])), (al, .inl (cW, 10, .inr (.inr (.inr (.inr (fun j => some (wa j))))))), (wa 0, .inr (3, [.ref (ca 0), .int (nI (len 0))])), (ca 0, .inl (cI, 24, .inl (fun j => nI (col 0 j)))), (wa 1, .inr (3, [.ref (ca 1), .int (nI (len 1))])), (ca 1, .inl (cI, 24, .inl (fun j => nI (col 1 j)))), (wa 2, .inr (3, [.ref (ca 2), .int (nI (len 2))])), (ca 2, .inl (cI, 24, .inl (fun j => nI (col 2 j)))), (wa 3, .inr (3, [.ref (ca 3), .int (nI (len 3))])), (ca 3, .inl (cI, 24, .inl (fun j => nI (col 3 j)))), (wa 4, .inr (3, [.ref (ca 4), .int (nI (len 4))])), (ca 4, .inl (cI, 24, .inl (fun j => nI (col 4 j)))), (wa 5, .inr (3, [.ref (ca 5), .int (nI (len 5))])), (ca 5, .inl (cI, 24, .inl (fun j => nI (col 5 j)))), (wa 6, .inr (3, [.ref (ca 6), .int (nI (len 6))])), (ca 6, .inl (cI, 24, .inl (fun j => nI (col 6 j)))), (wa 7, .inr (3, [.ref (ca 7), .int (nI (len 7))])), (ca 7, .inl (cI, 24, .inl (fun j => nI (col 7 j)))), (wa 8, .inr (3, [.ref (ca 8), .int (nI (len 8))])), (ca 8, .inl (cI, 24, .inl (fun j => nI (col 8 j))))]) hc (c_copyFrom l D cI cZ cW (wa 9) (ca 9) hh ah (col 9) (len 9) hcol hlen hl24) co_yX3_copyFrom in_X3 ml_X4_20 (by decide +kernel) rfl ⟨by decide, by decide⟩ ⟨by decide, by decide⟩ im_yX3_copyFrom se_yX3_copyFrom rfl (Or.inl ⟨20, _, rfl⟩) rfl (Nat.le_of_ble_eq_true rfl) [20, 21, 22, 23] [0, 1, 2, 3, 4, 5, 6, 7, 8, 9, 10, 11, 12, 13, 14, 15, 16, 17, 18, 19] rfl rfl rfl rfl (by decide) (fun q hq => absurd hq List.not_mem_nil) dX4_add_10 (fun u0 e0 => ?_)
  subst e0
  refine r_perm (ws' := wL cI cW hl al 10 wa ca (va_up col 9 (cpN hcol (col 9) hlen)) (va_up len 9 hlen) 9 ++ (wW cI hh ah hcol hlen)) [0, 1, 2, 3, 4, 5, 6, 7, 8, 9, 10, 11, 12, 13, 14, 15, 16, 17, 18, 19, 20, 21, 22, 23] rfl rfl ?_
  refine r_aload_n hc dX4_add_13 rfl 0 rfl ?_
  refine r_dup hc dX4_add_14 rfl ?_
  refine r_get hc inlX4 0 rfl rfl 1 (by decide) fl_X4_16 rfl rfl dX4_add_15 ?_
  refine r_iconst (v := (nI 1)) hc dX4_add_18 rfl ?_
  refine n_add hc dX4_add_19 ?_
  refine r_put (ws' := wL cI cW hl al 10 wa ca (va_up col 9 (cpN hcol (col 9) hlen)) (va_up len 9 hlen) (9 + 1) ++ (wW cI hh ah hcol hlen)) hc inlX4 tyX4 tyX4_ok nmX4 0 rfl rfl 1 (by decide) fl_X4_16 rfl rfl rfl rfl (Nat.le_of_ble_eq_true rfl) rfl dX4_add_20 ?_
  rw [← hQ]
  exact r_vret hc hr hlk (va_up col 9 (cpN hcol (col 9) hlen), va_up len 9 hlen, 10) rfl rfl dX4_add_23
theorem c_add10 (l : Launch) (D : va_G) (cI cZ cW : ClassId) (hl al : Nat) (wa ca : Nat → Nat) (col : Nat → Nat → Nat) (len : Nat → Nat) (hh ah : Nat) (hcol : Nat → Nat) (hlen : Nat) (hl24 : hlen ≤ 24) (sz : Nat) (hsz : sz < 10) : CtV l yX4_add cX4_add 2 none 2 47 0 0 D cI cZ cW [.ref hl, .ref hh] (wL cI cW hl al 10 wa ca col len sz ++ wW cI hh ah hcol hlen) ([]) (S := (Nat → Nat → Nat) × (Nat → Nat) × Nat) (fun u => u = (va_up col sz (cpN hcol (col sz) hlen), va_up len sz hlen, sz + 1)) (fun u => wL cI cW hl al 10 wa ca u.1 u.2.1 u.2.2 ++ wW cI hh ah hcol hlen) :=
  match sz, hsz with
  | 0, _ => c_add10_0 l D cI cZ cW hl al wa ca col len hh ah hcol hlen hl24
  | 1, _ => c_add10_1 l D cI cZ cW hl al wa ca col len hh ah hcol hlen hl24
  | 2, _ => c_add10_2 l D cI cZ cW hl al wa ca col len hh ah hcol hlen hl24
  | 3, _ => c_add10_3 l D cI cZ cW hl al wa ca col len hh ah hcol hlen hl24
  | 4, _ => c_add10_4 l D cI cZ cW hl al wa ca col len hh ah hcol hlen hl24
  | 5, _ => c_add10_5 l D cI cZ cW hl al wa ca col len hh ah hcol hlen hl24
  | 6, _ => c_add10_6 l D cI cZ cW hl al wa ca col len hh ah hcol hlen hl24
  | 7, _ => c_add10_7 l D cI cZ cW hl al wa ca col len hh ah hcol hlen hl24
  | 8, _ => c_add10_8 l D cI cZ cW hl al wa ca col len hh ah hcol hlen hl24
  | 9, _ => c_add10_9 l D cI cZ cW hl al wa ca col len hh ah hcol hlen hl24
  | z + 10, hz => absurd hz (by omega)
set_option maxHeartbeats 4000000 in
set_option maxRecDepth 100000 in
/-- add, the list of 5, 0 there -/
theorem c_add5_0 (l : Launch) (D : va_G) (cI cZ cW : ClassId) (hl al : Nat) (wa ca : Nat → Nat) (col : Nat → Nat → Nat) (len : Nat → Nat) (hh ah : Nat) (hcol : Nat → Nat) (hlen : Nat) (hl24 : hlen ≤ 24) : CtV l yX4_add cX4_add 2 none 2 47 0 0 D cI cZ cW [.ref hl, .ref hh] (wL cI cW hl al 5 wa ca col len 0 ++ wW cI hh ah hcol hlen) ([]) (S := (Nat → Nat → Nat) × (Nat → Nat) × Nat) (fun u => u = (va_up col 0 (cpN hcol (col 0) hlen), va_up len 0 hlen, 1)) (fun u => wL cI cW hl al 5 wa ca u.1 u.2.1 u.2.2 ++ wW cI hh ah hcol hlen) := by
  refine CtV.mk (by decide) (Nat.le_of_ble_eq_true rfl) ?_
  intro p e s m args below meth c A hc hr hlk hnm hro
  generalize hQ : MQ below _ args s 0 0 A = Q
  show V p l e (RM 2 47 0 0) s m args below meth c D A 2 0 0 Q (wL cI cW hl al 5 wa ca col len 0 ++ (wW cI hh ah hcol hlen)) 0 [(0, .ref hl), (1, .ref hh)] []
  refine r_aload_n hc dX4_add_0 rfl 0 rfl ?_
  refine r_get hc inlX4 0 rfl rfl 0 (by decide) fl_X4_9 rfl rfl dX4_add_1 ?_
  refine r_aload_n hc dX4_add_4 rfl 0 rfl ?_
  refine r_get hc inlX4 0 rfl rfl 1 (by decide) fl_X4_16 rfl rfl dX4_add_5 ?_
  refine r_ald hc 1 rfl (by decide) (by decide) rfl dX4_add_8 ?_
  refine r_aload_n hc dX4_add_9 rfl 1 rfl ?_
  refine r_callV (As := [.ref hh]) (n := 1) (wr := [(hl, .inr (4, [.ref al, .int (nI 0)])), (al, .inl (cW, 5, .inr (.inr (.inr (.inr (fun j => some (wa j))))))), (wa 1, .inr (3, [.ref (ca 1), .int (nI (len 1))])), (ca 1, .inl (cI, 24, .inl (fun j => nI (col 1 j)))), (wa 2, .inr (3, [.ref (ca 2), .int (nI (len 2))])), (ca 2, .inl (cI, 24, .inl (fun j => nI (col 2 j)))), (wa 3, .inr (3, [.ref (ca 3), .int (nI (len 3))])), (ca 3, .inl (cI, 24, .inl (fun j => nI (col 3 j)))), (wa 4, .inr (3, [.ref (ca 4), .int (nI (len 4))])), (ca 4, .inl (cI, 24, .inl (fun j => nI (col 4 j))))]) hc (c_copyFrom l D cI cZ cW (wa 0) (ca 0) hh ah (col 0) (len 0) hcol hlen hl24) co_yX3_copyFrom in_X3 ml_X4_20 (by decide +kernel) rfl ⟨by decide, by decide⟩ ⟨by decide, by decide⟩ im_yX3_copyFrom se_yX3_copyFrom rfl (Or.inl ⟨2, _, rfl⟩) rfl (Nat.le_of_ble_eq_true rfl) [2, 3, 12, 13] [0, 1, 4, 5, 6, 7, 8, 9, 10, 11] rfl rfl rfl rfl (by decide) (fun q hq => absurd hq List.not_mem_nil) dX4_add_10 (fun u0 e0 => ?_)
  subst e0
  refine r_perm (ws' := wL cI cW hl al 5 wa ca (va_up col 0 (cpN hcol (col 0) hlen)) (va_up len 0 hlen) 0 ++ (wW cI hh ah hcol hlen)) [0, 1, 10, 11, 2, 3, 4, 5, 6, 7, 8, 9, 12, 13] rfl rfl ?_
  refine r_aload_n hc dX4_add_13 rfl 0 rfl ?_
  refine r_dup hc dX4_add_14 rfl ?_
  refine r_get hc inlX4 0 rfl rfl 1 (by decide) fl_X4_16 rfl rfl dX4_add_15 ?_
  refine r_iconst (v := (nI 1)) hc dX4_add_18 rfl ?_
  refine n_add hc dX4_add_19 ?_
  refine r_put (ws' := wL cI cW hl al 5 wa ca (va_up col 0 (cpN hcol (col 0) hlen)) (va_up len 0 hlen) (0 + 1) ++ (wW cI hh ah hcol hlen)) hc inlX4 tyX4 tyX4_ok nmX4 0 rfl rfl 1 (by decide) fl_X4_16 rfl rfl rfl rfl (Nat.le_of_ble_eq_true rfl) rfl dX4_add_20 ?_
  rw [← hQ]
  exact r_vret hc hr hlk (va_up col 0 (cpN hcol (col 0) hlen), va_up len 0 hlen, 1) rfl rfl dX4_add_23
set_option maxHeartbeats 4000000 in
set_option maxRecDepth 100000 in
/-- add, the list of 5, 1 there -/
theorem c_add5_1 (l : Launch) (D : va_G) (cI cZ cW : ClassId) (hl al : Nat) (wa ca : Nat → Nat) (col : Nat → Nat → Nat) (len : Nat → Nat) (hh ah : Nat) (hcol : Nat → Nat) (hlen : Nat) (hl24 : hlen ≤ 24) : CtV l yX4_add cX4_add 2 none 2 47 0 0 D cI cZ cW [.ref hl, .ref hh] (wL cI cW hl al 5 wa ca col len 1 ++ wW cI hh ah hcol hlen) ([]) (S := (Nat → Nat → Nat) × (Nat → Nat) × Nat) (fun u => u = (va_up col 1 (cpN hcol (col 1) hlen), va_up len 1 hlen, 2)) (fun u => wL cI cW hl al 5 wa ca u.1 u.2.1 u.2.2 ++ wW cI hh ah hcol hlen) := by
  refine CtV.mk (by decide) (Nat.le_of_ble_eq_true rfl) ?_
  intro p e s m args below meth c A hc hr hlk hnm hro
  generalize hQ : MQ below _ args s 0 0 A = Q
  show V p l e (RM 2 47 0 0) s m args below meth c D A 2 0 0 Q (wL cI cW hl al 5 wa ca col len 1 ++ (wW cI hh ah hcol hlen)) 0 [(0, .ref hl), (1, .ref hh)] []
  refine r_aload_n hc dX4_add_0 rfl 0 rfl ?_
  refine r_get hc inlX4 0 rfl rfl 0 (by decide) fl_X4_9 rfl rfl dX4_add_1 ?_
  refine r_aload_n hc dX4_add_4 rfl 0 rfl ?_
  refine r_get hc inlX4 0 rfl rfl 1 (by decide) fl_X4_16 rfl rfl dX4_add_5 ?_
  refine r_ald hc 1 rfl (by decide) (by decide) rfl dX4_add_8 ?_
  refine r_aload_n hc dX4_add_9 rfl 1 rfl ?_
  refine r_callV (As := [.ref hh]) (n := 1) (wr := [(hl, .inr (4, [.ref al, .int (nI 1)])), (al, .inl (cW, 5, .inr (.inr (.inr (.inr (fun j => some (wa j))))))), (wa 0, .inr (3, [.ref (ca 0), .int (nI (len 0))])), (ca 0, .inl (cI, 24, .inl (fun j => nI (col 0 j)))), (wa 2, .inr (3, [.ref (ca 2), .int (nI (len 2))])), (ca 2, .inl (cI, 24, .inl (fun j => nI (col 2 j)))), (wa 3, .inr (3, [.ref (ca 3), .int (nI (len 3))])), (ca 3, .inl (cI, 24, .inl (fun j => nI (col 3 j)))), (wa 4, .inr (3, [.ref (ca 4), .int (nI (len 4))])), (ca 4, .inl (cI, 24, .inl (fun j => nI (col 4 j))))]) hc (c_copyFrom l D cI cZ cW (wa 1) (ca 1) hh ah (col 1) (len 1) hcol hlen hl24) co_yX3_copyFrom in_X3 ml_X4_20 (by decide +kernel) rfl ⟨by decide, by decide⟩ ⟨by decide, by decide⟩ im_yX3_copyFrom se_yX3_copyFrom rfl (Or.inl ⟨4, _, rfl⟩) rfl (Nat.le_of_ble_eq_true rfl) [4, 5, 12, 13] [0, 1, 2, 3, 6, 7, 8, 9, 10, 11] rfl rfl rfl rfl (by decide) (fun q hq => absurd hq List.not_mem_nil) dX4_add_10 (fun u0 e0 => ?_)
  subst e0
  refine r_perm (ws' := wL cI cW hl al 5 wa ca (va_up col 1 (cpN hcol (col 1) hlen)) (va_up len 1 hlen) 1 ++ (wW cI hh ah hcol hlen)) [0, 1, 2, 3, 10, 11, 4, 5, 6, 7, 8, 9, 12, 13] rfl rfl ?_
  refine r_aload_n hc dX4_add_13 rfl 0 rfl ?_
  refine r_dup hc dX4_add_14 rfl ?_
  refine r_get hc inlX4 0 rfl rfl 1 (by decide) fl_X4_16 rfl rfl dX4_add_15 ?_
  refine r_iconst (v := (nI 1)) hc dX4_add_18 rfl ?_
  refine n_add hc dX4_add_19 ?_
  refine r_put (ws' := wL cI cW hl al 5 wa ca (va_up col 1 (cpN hcol (col 1) hlen)) (va_up len 1 hlen) (1 + 1) ++ (wW cI hh ah hcol hlen)) hc inlX4 tyX4 tyX4_ok nmX4 0 rfl rfl 1 (by decide) fl_X4_16 rfl rfl rfl rfl (Nat.le_of_ble_eq_true rfl) rfl dX4_add_20 ?_
  rw [← hQ]
  exact r_vret hc hr hlk (va_up col 1 (cpN hcol (col 1) hlen), va_up len 1 hlen, 2) rfl rfl dX4_add_23
set_option maxHeartbeats 4000000 in
set_option maxRecDepth 100000 in
/-- add, the list of 5, 2 there -/
theorem c_add5_2 (l : Launch) (D : va_G) (cI cZ cW : ClassId) (hl al : Nat) (wa ca : Nat → Nat) (col : Nat → Nat → Nat) (len : Nat → Nat) (hh ah : Nat) (hcol : Nat → Nat) (hlen : Nat) (hl24 : hlen ≤ 24) : CtV l yX4_add cX4_add 2 none 2 47 0 0 D cI cZ cW [.ref hl, .ref hh] (wL cI cW hl al 5 wa ca col len 2 ++ wW cI hh ah hcol hlen) ([]) (S := (Nat → Nat → Nat) × (Nat → Nat) × Nat) (fun u => u = (va_up col 2 (cpN hcol (col 2) hlen), va_up len 2 hlen, 3)) (fun u => wL cI cW hl al 5 wa ca u.1 u.2.1 u.2.2 ++ wW cI hh ah hcol hlen) := by
  refine CtV.mk (by decide) (Nat.le_of_ble_eq_true rfl) ?_
  intro p e s m args below meth c A hc hr hlk hnm hro
  generalize hQ : MQ below _ args s 0 0 A = Q
  show V p l e (RM 2 47 0 0) s m args below meth c D A 2 0 0 Q (wL cI cW hl al 5 wa ca col len 2 ++ (wW cI hh ah hcol hlen)) 0 [(0, .ref hl), (1, .ref hh)] []
  refine r_aload_n hc dX4_add_0 rfl 0 rfl ?_
  refine r_get hc inlX4 0 rfl rfl 0 (by decide) fl_X4_9 rfl rfl dX4_add_1 ?_
  refine r_aload_n hc dX4_add_4 rfl 0 rfl ?_
  refine r_get hc inlX4 0 rfl rfl 1 (by decide) fl_X4_16 rfl rfl dX4_add_5 ?_
  refine r_ald hc 1 rfl (by decide) (by decide) rfl dX4_add_8 ?_
  refine r_aload_n hc dX4_add_9 rfl 1 rfl ?_
  refine r_callV (As := [.ref hh]) (n := 1) (wr := [(hl, .inr (4, [.ref al, .int (nI 2)])), (al, .inl (cW, 5, .inr (.inr (.inr (.inr (fun j => some (wa j))))))), (wa 0, .inr (3, [.ref (ca 0), .int (nI (len 0))])), (ca 0, .inl (cI, 24, .inl (fun j => nI (col 0 j)))), (wa 1, .inr (3, [.ref (ca 1), .int (nI (len 1))])), (ca 1, .inl (cI, 24, .inl (fun j => nI (col 1 j)))), (wa 3, .inr (3, [.ref (ca 3), .int (nI (len 3))])), (ca 3, .inl (cI, 24, .inl (fun j => nI (col 3 j)))), (wa 4, .inr (3, [.ref (ca 4), .int (nI (len 4))])), (ca 4, .inl (cI, 24, .inl (fun j => nI (col 4 j))))]) hc (c_copyFrom l D cI cZ cW (wa 2) (ca 2) hh ah (col 2) (len 2) hcol hlen hl24) co_yX3_copyFrom in_X3 ml_X4_20 (by decide +kernel) rfl ⟨by decide, by decide⟩ ⟨by decide, by decide⟩ im_yX3_copyFrom se_yX3_copyFrom rfl (Or.inl ⟨6, _, rfl⟩) rfl (Nat.le_of_ble_eq_true rfl) [6, 7, 12, 13] [0, 1, 2, 3, 4, 5, 8, 9, 10, 11] rfl rfl rfl rfl (by decide) (fun q hq => absurd hq List.not_mem_nil) dX4_add_10 (fun u0 e0 => ?_)
  subst e0
  refine r_perm (ws' := wL cI cW hl al 5 wa ca (va_up col 2 (cpN hcol (col 2) hlen)) (va_up len 2 hlen) 2 ++ (wW cI hh ah hcol hlen)) [0, 1, 2, 3, 4, 5, 10, 11, 6, 7, 8, 9, 12, 13] rfl rfl ?_
  refine r_aload_n hc dX4_add_13 rfl 0 rfl ?_
  refine r_dup hc dX4_add_14 rfl ?_
  refine r_get hc inlX4 0 rfl rfl 1 (by decide) fl_X4_16 rfl rfl dX4_add_15 ?_
  refine r_iconst (v := (nI 1)) hc dX4_add_18 rfl ?_
  refine n_add hc dX4_add_19 ?_
  refine r_put (ws' := wL cI cW hl al 5 wa ca (va_up col 2 (cpN hcol (col 2) hlen)) (va_up len 2 hlen) (2 + 1) ++ (wW cI hh ah hcol hlen)) hc inlX4 tyX4 tyX4_ok nmX4 0 rfl rfl 1 (by decide) fl_X4_16 rfl rfl rfl rfl (Nat.le_of_ble_eq_true rfl) rfl dX4_add_20 ?_
  rw [← hQ]
  exact r_vret hc hr hlk (va_up col 2 (cpN hcol (col 2) hlen), va_up len 2 hlen, 3) rfl rfl dX4_add_23
set_option maxHeartbeats 4000000 in
set_option maxRecDepth 100000 in
/-- add, the list of 5, 3 there -/
theorem c_add5_3 (l : Launch) (D : va_G) (cI cZ cW : ClassId) (hl al : Nat) (wa ca : Nat → Nat) (col : Nat → Nat → Nat) (len : Nat → Nat) (hh ah : Nat) (hcol : Nat → Nat) (hlen : Nat) (hl24 : hlen ≤ 24) : CtV l yX4_add cX4_add 2 none 2 47 0 0 D cI cZ cW [.ref hl, .ref hh] (wL cI cW hl al 5 wa ca col len 3 ++ wW cI hh ah hcol hlen) ([]) (S := (Nat → Nat → Nat) × (Nat → Nat) × Nat) (fun u => u = (va_up col 3 (cpN hcol (col 3) hlen), va_up len 3 hlen, 4)) (fun u => wL cI cW hl al 5 wa ca u.1 u.2.1 u.2.2 ++ wW cI hh ah hcol hlen) := by
  refine CtV.mk (by decide) (Nat.le_of_ble_eq_true rfl) ?_
  intro p e s m args below meth c A hc hr hlk hnm hro
  generalize hQ : MQ below _ args s 0 0 A = Q
  show V p l e (RM 2 47 0 0) s m args below meth c D A 2 0 0 Q (wL cI cW hl al 5 wa ca col len 3 ++ (wW cI hh ah hcol hlen)) 0 [(0, .ref hl), (1, .ref hh)] []
  refine r_aload_n hc dX4_add_0 rfl 0 rfl ?_
  refine r_get hc inlX4 0 rfl rfl 0 (by decide) fl_X4_9 rfl rfl dX4_add_1 ?_
  refine r_aload_n hc dX4_add_4 rfl 0 rfl ?_
  refine r_get hc inlX4 0 rfl rfl 1 (by decide) fl_X4_16 rfl rfl dX4_add_5 ?_
  refine r_ald hc 1 rfl (by decide) (by decide) rfl dX4_add_8 ?_
  refine r_aload_n hc dX4_add_9 rfl 1 rfl ?_
  refine r_callV (As := [.ref hh]) (n := 1) (wr := [(hl, .inr (4, [.ref al, .int (nI 3)])), (al, .inl (cW, 5, .inr (.inr (.inr (.inr (fun j => some (wa j))))))), (wa 0, .inr (3, [.ref (ca 0), .int (nI (len 0))])), (ca 0, .inl (cI, 24, .inl (fun j => nI (col 0 j)))), (wa 1, .inr (3, [.ref (ca 1), .int (nI (len 1))])), (ca 1, .inl (cI, 24, .inl (fun j => nI (col 1 j)))), (wa 2, .inr (3, [.ref (ca 2), .int (nI (len 2))])), (ca 2, .inl (cI, 24, .inl (fun j => nI (col 2 j)))), (wa 4, .inr (3, [.ref (ca 4), .int (nI (len 4))])), (ca 4, .inl (cI, 24, .inl (fun j => nI (col 4 j))))]) hc (c_copyFrom l D cI cZ cW (wa 3) (ca 3) hh ah (col 3) (len 3) hcol hlen hl24) co_yX3_copyFrom in_X3 ml_X4_20 (by decide +kernel) rfl ⟨by decide, by decide⟩ ⟨by decide, by decide⟩ im_yX3_copyFrom se_yX3_copyFrom rfl (Or.inl ⟨8, _, rfl⟩) rfl (Nat.le_of_ble_eq_true rfl) [8, 9, 12, 13] [0, 1, 2, 3, 4, 5, 6, 7, 10, 11] rfl rfl rfl rfl (by decide) (fun q hq => absurd hq List.not_mem_nil) dX4_add_10 (fun u0 e0 => ?_)
  subst e0
  refine r_perm (ws' := wL cI cW hl al 5 wa ca (va_up col 3 (cpN hcol (col 3) hlen)) (va_up len 3 hlen) 3 ++ (wW cI hh ah hcol hlen)) [0, 1, 2, 3, 4, 5, 6, 7, 10, 11, 8, 9, 12, 13] rfl rfl ?_
  refine r_aload_n hc dX4_add_13 rfl 0 rfl ?_
  refine r_dup hc dX4_add_14 rfl ?_
  refine r_get hc inlX4 0 rfl rfl 1 (by decide) fl_X4_16 rfl rfl dX4_add_15 ?_
  refine r_iconst (v := (nI 1)) hc dX4_add_18 rfl ?_
  refine n_add hc dX4_add_19 ?_
  refine r_put (ws' := wL cI cW hl al 5 wa ca (va_up col 3 (cpN hcol (col 3) hlen)) (va_up len 3 hlen) (3 + 1) ++ (wW cI hh ah hcol hlen)) hc inlX4 tyX4 tyX4_ok nmX4 0 rfl rfl 1 (by decide) fl_X4_16 rfl rfl rfl rfl (Nat.le_of_ble_eq_true rfl) rfl dX4_add_20 ?_
  rw [← hQ]
  exact r_vret hc hr hlk (va_up col 3 (cpN hcol (col 3) hlen), va_up len 3 hlen, 4) rfl rfl dX4_add_23
set_option maxHeartbeats 4000000 in
set_option maxRecDepth 100000 in
/-- add, the list of 5, 4 there -/
theorem c_add5_4 (l : Launch) (D : va_G) (cI cZ cW : ClassId) (hl al : Nat) (wa ca : Nat → Nat) (col : Nat → Nat → Nat) (len : Nat → Nat) (hh ah : Nat) (hcol : Nat → Nat) (hlen : Nat) (hl24 : hlen ≤ 24) : CtV l yX4_add cX4_add 2 none 2 47 0 0 D cI cZ cW [.ref hl, .ref hh] (wL cI cW hl al 5 wa ca col len 4 ++ wW cI hh ah hcol hlen) ([]) (S := (Nat → Nat → Nat) × (Nat → Nat) × Nat) (fun u => u = (va_up col 4 (cpN hcol (col 4) hlen), va_up len 4 hlen, 5)) (fun u => wL cI cW hl al 5 wa ca u.1 u.2.1 u.2.2 ++ wW cI hh ah hcol hlen) := by
  refine CtV.mk (by decide) (Nat.le_of_ble_eq_true rfl) ?_
  intro p e s m args below meth c A hc hr hlk hnm hro
  generalize hQ : MQ below _ args s 0 0 A = Q
  show V p l e (RM 2 47 0 0) s m args below meth c D A 2 0 0 Q (wL cI cW hl al 5 wa ca col len 4 ++ (wW cI hh ah hcol hlen)) 0 [(0, .ref hl), (1, .ref hh)] []
  refine r_aload_n hc dX4_add_0 rfl 0 rfl ?_
  refine r_get hc inlX4 0 rfl rfl 0 (by decide) fl_X4_9 rfl rfl dX4_add_1 ?_
  refine r_aload_n hc dX4_add_4 rfl 0 rfl ?_
  refine r_get hc inlX4 0 rfl rfl 1 (by decide) fl_X4_16 rfl rfl dX4_add_5 ?_
  refine r_ald hc 1 rfl (by decide) (by decide) rfl dX4_add_8 ?_
  refine r_aload_n hc dX4_add_9 rfl 1 rfl ?_
  refine r_callV (As := [.ref hh]) (n := 1) (wr := [(hl, .inr (4, [.ref al, .int (nI 4)])), (al, .inl (cW, 5, .inr (.inr (.inr (.inr (fun j => some (wa j))))))), (wa 0, .inr (3, [.ref (ca 0), .int (nI (len 0))])), (ca 0, .inl (cI, 24, .inl (fun j => nI (col 0 j)))), (wa 1, .inr (3, [.ref (ca 1), .int (nI (len 1))])), (ca 1, .inl (cI, 24, .inl (fun j => nI (col 1 j)))), (wa 2, .inr (3, [.ref (ca 2), .int (nI (len 2))])), (ca 2, .inl (cI, 24, .inl (fun j => nI (col 2 j)))), (wa 3, .inr (3, [.ref (ca 3), .int (nI (len 3))])), (ca 3, .inl (cI, 24, .inl (fun j => nI (col 3 j))))]) hc (c_copyFrom l D cI cZ cW (wa 4) (ca 4) hh ah (col 4) (len 4) hcol hlen hl24) co_yX3_copyFrom in_X3 ml_X4_20 (by decide +kernel) rfl ⟨by decide, by decide⟩ ⟨by decide, by decide⟩ im_yX3_copyFrom se_yX3_copyFrom rfl (Or.inl ⟨10, _, rfl⟩) rfl (Nat.le_of_ble_eq_true rfl) [10, 11, 12, 13] [0, 1, 2, 3, 4, 5, 6, 7, 8, 9] rfl rfl rfl rfl (by decide) (fun q hq => absurd hq List.not_mem_nil) dX4_add_10 (fun u0 e0 => ?_)
  subst e0
  refine r_perm (ws' := wL cI cW hl al 5 wa ca (va_up col 4 (cpN hcol (col 4) hlen)) (va_up len 4 hlen) 4 ++ (wW cI hh ah hcol hlen)) [0, 1, 2, 3, 4, 5, 6, 7, 8, 9, 10, 11, 12, 13] rfl rfl ?_
  refine r_aload_n hc dX4_add_13 rfl 0 rfl ?_
  refine r_dup hc dX4_add_14 rfl ?_
  refine r_get hc inlX4 0 rfl rfl 1 (by decide) fl_X4_16 rfl rfl dX4_add_15 ?_
  refine r_iconst (v := (nI 1)) hc dX4_add_18 rfl ?_
  refine n_add hc dX4_add_19 ?_
  refine r_put (ws' := wL cI cW hl al 5 wa ca (va_up col 4 (cpN hcol (col 4) hlen)) (va_up len 4 hlen) (4 + 1) ++ (wW cI hh ah hcol hlen)) hc inlX4 tyX4 tyX4_ok nmX4 0 rfl rfl 1 (by decide) fl_X4_16 rfl rfl rfl rfl (Nat.le_of_ble_eq_true rfl) rfl dX4_add_20 ?_
  rw [← hQ]
  exact r_vret hc hr hlk (va_up col 4 (cpN hcol (col 4) hlen), va_up len 4 hlen, 5) rfl rfl dX4_add_23
theorem c_add5 (l : Launch) (D : va_G) (cI cZ cW : ClassId) (hl al : Nat) (wa ca : Nat → Nat) (col : Nat → Nat → Nat) (len : Nat → Nat) (hh ah : Nat) (hcol : Nat → Nat) (hlen : Nat) (hl24 : hlen ≤ 24) (sz : Nat) (hsz : sz < 5) : CtV l yX4_add cX4_add 2 none 2 47 0 0 D cI cZ cW [.ref hl, .ref hh] (wL cI cW hl al 5 wa ca col len sz ++ wW cI hh ah hcol hlen) ([]) (S := (Nat → Nat → Nat) × (Nat → Nat) × Nat) (fun u => u = (va_up col sz (cpN hcol (col sz) hlen), va_up len sz hlen, sz + 1)) (fun u => wL cI cW hl al 5 wa ca u.1 u.2.1 u.2.2 ++ wW cI hh ah hcol hlen) :=
  match sz, hsz with
  | 0, _ => c_add5_0 l D cI cZ cW hl al wa ca col len hh ah hcol hlen hl24
  | 1, _ => c_add5_1 l D cI cZ cW hl al wa ca col len hh ah hcol hlen hl24
  | 2, _ => c_add5_2 l D cI cZ cW hl al wa ca col len hh ah hcol hlen hl24
  | 3, _ => c_add5_3 l D cI cZ cW hl al wa ca col len hh ah hcol hlen hl24
  | 4, _ => c_add5_4 l D cI cZ cW hl al wa ca col len hh ah hcol hlen hl24
  | z + 5, hz => absurd hz (by omega)
