/-! words -/
abbrev WS : Type := (Nat → Nat) × Nat
abbrev wW (cI : ClassId) (hw aw : Nat) (col : Nat → Nat) (len : Nat) : va_W := [(hw, .inr (3, [.ref aw, .int (nI len)])), (aw, .inl (cI, 24, .inl (fun j => nI (col j))))]
def rnd (col : Nat → Nat) (len i : Nat) : Nat := col (if i < len then i else i - len)
set_option maxHeartbeats 4000000 in
set_option maxRecDepth 100000 in
/-- around(i) -/
theorem c_around (l : Launch) (D : va_G) (cI cZ cW : ClassId) (hw aw : Nat) (col : Nat → Nat) (len : Nat) (i : Nat) (hl : len ≤ 24) (hi : i < len + len) : CtI l yX3_around cX3_around 2 (some .int) 0 0 0 0 D cI cZ cW [.ref hw, .int (nI i)] ([]) (wW cI hw aw col len) (S := Unit) (fun r _ => r = nI (rnd col len i)) (fun _ => []) := by
  refine CtI.mk (by decide) (Nat.le_of_ble_eq_true rfl) ?_
  intro p e s m args below meth c A hc hr hlk hnm hro
  generalize hQ : MQ below _ args s 0 0 A = Q
  show V p l e (RM 0 0 0 0) s m args below meth c D A 2 0 0 Q ([]) 0 [(0, .ref hw), (1, .int (nI i))] []
  refine r_aload_n hc dX3_around_0 rfl 0 rfl ?_
  refine r_getR hc inlX3 (hro _ (List.mem_of_getElem? (i := 0) rfl)) rfl 0 (by decide) fl_X3_9 rfl rfl dX3_around_1 ?_
  refine r_iload_n hc dX3_around_4 rfl 1 rfl ?_
  refine r_aload_n hc dX3_around_5 rfl 0 rfl ?_
  refine r_getR hc inlX3 (hro _ (List.mem_of_getElem? (i := 0) rfl)) rfl 1 (by decide) fl_X3_15 rfl rfl dX3_around_6 ?_
  refine n_icmp_ge hc 16 dX3_around_9 (by decide) (by omega) (by omega) (fun h1 => ?_) (fun h1 => ?_)
  · refine r_iload_n hc dX3_around_16 rfl 1 rfl ?_
    refine r_aload_n hc dX3_around_17 rfl 0 rfl ?_
    refine r_getR hc inlX3 (hro _ (List.mem_of_getElem? (i := 0) rfl)) rfl 1 (by decide) fl_X3_15 rfl rfl dX3_around_18 ?_
    refine n_sub hc dX3_around_21 (by omega) ?_
    refine r_ialdR hc nI (hro _ (List.mem_of_getElem? (i := 1) rfl)) (by omega) (by decide) dX3_around_22 ?_
    rw [← hQ]
    exact r_iret hc hr hlk () (by rw [rnd, if_neg (by omega)]) rfl dX3_around_23
  · refine r_iload_n hc dX3_around_12 rfl 1 rfl ?_
    refine r_goto hc 22 dX3_around_13 (by decide) ?_
    refine r_ialdR hc nI (hro _ (List.mem_of_getElem? (i := 1) rfl)) (by omega) (by decide) dX3_around_22 ?_
    rw [← hQ]
    exact r_iret hc hr hlk () (by rw [rnd, if_pos h1]) rfl dX3_around_23
set_option maxHeartbeats 4000000 in
set_option maxRecDepth 100000 in
/-- append(x) -/
theorem c_append (l : Launch) (D : va_G) (cI cZ cW : ClassId) (hw aw : Nat) (col : Nat → Nat) (len : Nat) (x : Nat) (hl : len < 24) : CtV l yX3_append cX3_append 2 none 0 0 0 0 D cI cZ cW [.ref hw, .int (nI x)] (wW cI hw aw col len) ([]) (S := WS) (fun u => u = (va_up col len x, len + 1)) (fun u => wW cI hw aw u.1 u.2) := by
  refine CtV.mk (by decide) (Nat.le_of_ble_eq_true rfl) ?_
  intro p e s m args below meth c A hc hr hlk hnm hro
  generalize hQ : MQ below _ args s 0 0 A = Q
  show V p l e (RM 0 0 0 0) s m args below meth c D A 2 0 0 Q (wW cI hw aw col len) 0 [(0, .ref hw), (1, .int (nI x))] []
  refine r_aload_n hc dX3_append_0 rfl 0 rfl ?_
  refine r_get hc inlX3 0 rfl rfl 0 (by decide) fl_X3_9 rfl rfl dX3_append_1 ?_
  refine r_aload_n hc dX3_append_4 rfl 0 rfl ?_
  refine r_get hc inlX3 0 rfl rfl 1 (by decide) fl_X3_15 rfl rfl dX3_append_5 ?_
  refine r_iload_n hc dX3_append_8 rfl 1 rfl ?_
  refine r_iast (ws' := wW cI hw aw (va_up col len x) len) hc nI x 1 rfl (by omega) (by decide) rfl dX3_append_9 ?_
  refine r_aload_n hc dX3_append_10 rfl 0 rfl ?_
  refine r_dup hc dX3_append_11 rfl ?_
  refine r_get hc inlX3 0 rfl rfl 1 (by decide) fl_X3_15 rfl rfl dX3_append_12 ?_
  refine r_iconst (v := (nI 1)) hc dX3_append_15 rfl ?_
  refine n_add hc dX3_append_16 ?_
  refine r_put (ws' := wW cI hw aw (va_up col len x) (len + 1)) hc inlX3 tyX3 tyX3_ok nmX3 0 rfl rfl 1 (by decide) fl_X3_15 rfl rfl rfl rfl (Nat.le_of_ble_eq_true rfl) rfl dX3_append_17 ?_
  rw [← hQ]
  exact r_vret hc hr hlk (va_up col len x, len + 1) (rfl) rfl dX3_append_20
