set_option maxHeartbeats 4000000 in
set_option maxRecDepth 100000 in
/-- Word() -/
theorem c_Word (l : Launch) (D : va_G) (cI cZ cW : ClassId) (hw : Nat)  : CtV l yX3_init cX3_init 1 none 1 20 1 24 D cI cZ cW [.ref hw] ([(hw, .inr (3, [.null, .int (nI 0)]))]) ([]) (S := Nat) (fun _ => True) (fun u => wW cI hw u (fun _ => 0) 0) := by
  refine CtV.mk (by decide) (Nat.le_of_ble_eq_true rfl) ?_
  intro p e s m args below meth c A hc hr hlk hnm hro
  generalize hQ : MQ below _ args s 1 24 A = Q
  show V p l e (RM 1 20 1 24) s m args below meth c D A 1 0 0 Q ([(hw, .inr (3, [.null, .int (nI 0)]))]) 0 [(0, .ref hw)] []
  refine r_aload_n hc dX3_init_0 rfl 0 rfl ?_
  refine r_obj hc ml_X3_3 (by decide) (Nat.le_of_ble_eq_true rfl) dX3_init_1 ?_
  refine r_aload_n hc dX3_init_4 rfl 0 rfl ?_
  refine r_bipush (v := (nI 24)) hc dX3_init_5 rfl ?_
  refine r_newI hc nI (0) rfl (by decide) (by decide) (by decide) dX3_init_7 (fun q1 => ?_)
  show V p l e (RM 1 20 1 24) s m args below meth c D A 1 1 24 Q ([(hw, .inr (3, [.null, .int (nI 0)])), (q1, .inl (cI, 24, .inl (fun j => nI ((fun _ => 0) j))))]) 9 [(0, .ref hw)] [.ref q1, .ref hw]
  refine r_putF (ws' := [(hw, .inr (3, [.ref q1, .int (nI 0)])), (q1, .inl (cI, 24, .inl (fun j => nI ((fun _ => 0) j))))]) hc inlX3 tyX3 tyX3_ok nmX3 0 rfl rfl 0 (by decide) fl_X3_9 rfl rfl (hnm.trans rfl) rfl rfl rfl (Nat.le_of_ble_eq_true rfl) rfl dX3_init_9 ?_
  rw [← hQ]
  exact r_vret hc hr hlk q1 trivial rfl dX3_init_12
def cs0 : CS := ((fun _ => some 0), (fun _ => 0), (fun _ => 0), 0, (fun _ => 0), (fun _ => false), 0, 0, 0, 0, 0)
def as0 : AS := ((fun _ => some 0), (fun _ => 0), (fun _ => false), (fun _ => 0), 0)
set_option maxHeartbeats 4000000 in
set_option maxRecDepth 100000 in
/-- Cosets() -/
theorem c_Cosets (l : Launch) (D : va_G) (cI cZ cW : ClassId) (h : Nat)  : CtV l yX1_init cX1_init 1 none 1 20 5 4000 D cI cZ cW [.ref h] ([(h, .inr (1, [.null, .null, .null, .int (nI 0), .null, .null, .int (nI 0), .int (nI 0), .int (nI 0), .int (nI 0), .int (nI 0)]))]) ([]) (S := Nat × Nat × Nat × Nat × Nat) (fun _ => True) (fun u => wS cI cZ h u.1 u.2.1 u.2.2.1 u.2.2.2.1 u.2.2.2.2 cs0) := by
  refine CtV.mk (by decide) (Nat.le_of_ble_eq_true rfl) ?_
  intro p e s m args below meth c A hc hr hlk hnm hro
  generalize hQ : MQ below _ args s 5 4000 A = Q
  show V p l e (RM 1 20 5 4000) s m args below meth c D A 1 0 0 Q ([(h, .inr (1, [.null, .null, .null, .int (nI 0), .null, .null, .int (nI 0), .int (nI 0), .int (nI 0), .int (nI 0), .int (nI 0)]))]) 0 [(0, .ref h)] []
  refine r_aload_n hc dX1_init_0 rfl 0 rfl ?_
  refine r_obj hc ml_X1_3 (by decide) (Nat.le_of_ble_eq_true rfl) dX1_init_1 ?_
  refine r_aload_n hc dX1_init_4 rfl 0 rfl ?_
  refine r_sipush (v := (nI 1200)) hc dX1_init_5 rfl ?_
  refine r_newI hc eI (some 0) rfl (by decide) (by decide) (by decide) dX1_init_8 (fun q1 => ?_)
  show V p l e (RM 1 20 5 4000) s m args below meth c D A 1 1 1200 Q ([(h, .inr (1, [.null, .null, .null, .int (nI 0), .null, .null, .int (nI 0), .int (nI 0), .int (nI 0), .int (nI 0), .int (nI 0)])), (q1, .inl (cI, 1200, .inl (fun j => eI ((fun _ => some 0) j))))]) 10 [(0, .ref h)] [.ref q1, .ref h]
  refine r_putF (ws' := [(h, .inr (1, [.ref q1, .null, .null, .int (nI 0), .null, .null, .int (nI 0), .int (nI 0), .int (nI 0), .int (nI 0), .int (nI 0)])), (q1, .inl (cI, 1200, .inl (fun j => eI ((fun _ => some 0) j))))]) hc inlX1 tyX1 tyX1_ok nmX1 0 rfl rfl 0 (by decide) fl_X1_9 rfl rfl (hnm.trans rfl) rfl rfl rfl (Nat.le_of_ble_eq_true rfl) rfl dX1_init_10 ?_
  refine r_aload_n hc dX1_init_13 rfl 0 rfl ?_
  refine r_sipush (v := (nI 200)) hc dX1_init_14 rfl ?_
  refine r_newI hc nI (0) rfl (by decide) (by decide) (by decide) dX1_init_17 (fun q2 => ?_)
  show V p l e (RM 1 20 5 4000) s m args below meth c D A 1 2 1400 Q ([(h, .inr (1, [.ref q1, .null, .null, .int (nI 0), .null, .null, .int (nI 0), .int (nI 0), .int (nI 0), .int (nI 0), .int (nI 0)])), (q1, .inl (cI, 1200, .inl (fun j => eI ((fun _ => some 0) j)))), (q2, .inl (cI, 200, .inl (fun j => nI ((fun _ => 0) j))))]) 19 [(0, .ref h)] [.ref q2, .ref h]
  refine r_putF (ws' := [(h, .inr (1, [.ref q1, .ref q2, .null, .int (nI 0), .null, .null, .int (nI 0), .int (nI 0), .int (nI 0), .int (nI 0), .int (nI 0)])), (q1, .inl (cI, 1200, .inl (fun j => eI ((fun _ => some 0) j)))), (q2, .inl (cI, 200, .inl (fun j => nI ((fun _ => 0) j))))]) hc inlX1 tyX1 tyX1_ok nmX1 0 rfl rfl 1 (by decide) fl_X1_15 rfl rfl (hnm.trans rfl) rfl rfl rfl (Nat.le_of_ble_eq_true rfl) rfl dX1_init_19 ?_
  refine r_aload_n hc dX1_init_22 rfl 0 rfl ?_
  refine r_sipush (v := (nI 200)) hc dX1_init_23 rfl ?_
  refine r_newI hc nI (0) rfl (by decide) (by decide) (by decide) dX1_init_26 (fun q3 => ?_)
  show V p l e (RM 1 20 5 4000) s m args below meth c D A 1 3 1600 Q ([(h, .inr (1, [.ref q1, .ref q2, .null, .int (nI 0), .null, .null, .int (nI 0), .int (nI 0), .int (nI 0), .int (nI 0), .int (nI 0)])), (q1, .inl (cI, 1200, .inl (fun j => eI ((fun _ => some 0) j)))), (q2, .inl (cI, 200, .inl (fun j => nI ((fun _ => 0) j)))), (q3, .inl (cI, 200, .inl (fun j => nI ((fun _ => 0) j))))]) 28 [(0, .ref h)] [.ref q3, .ref h]
  refine r_putF (ws' := [(h, .inr (1, [.ref q1, .ref q2, .ref q3, .int (nI 0), .null, .null, .int (nI 0), .int (nI 0), .int (nI 0), .int (nI 0), .int (nI 0)])), (q1, .inl (cI, 1200, .inl (fun j => eI ((fun _ => some 0) j)))), (q2, .inl (cI, 200, .inl (fun j => nI ((fun _ => 0) j)))), (q3, .inl (cI, 200, .inl (fun j => nI ((fun _ => 0) j))))]) hc inlX1 tyX1 tyX1_ok nmX1 0 rfl rfl 2 (by decide) fl_X1_18 rfl rfl (hnm.trans rfl) rfl rfl rfl (Nat.le_of_ble_eq_true rfl) rfl dX1_init_28 ?_
  refine r_aload_n hc dX1_init_31 rfl 0 rfl ?_
  refine r_sipush (v := (nI 1200)) hc dX1_init_32 rfl ?_
  refine r_newI hc nI (0) rfl (by decide) (by decide) (by decide) dX1_init_35 (fun q4 => ?_)
  show V p l e (RM 1 20 5 4000) s m args below meth c D A 1 4 2800 Q ([(h, .inr (1, [.ref q1, .ref q2, .ref q3, .int (nI 0), .null, .null, .int (nI 0), .int (nI 0), .int (nI 0), .int (nI 0), .int (nI 0)])), (q1, .inl (cI, 1200, .inl (fun j => eI ((fun _ => some 0) j)))), (q2, .inl (cI, 200, .inl (fun j => nI ((fun _ => 0) j)))), (q3, .inl (cI, 200, .inl (fun j => nI ((fun _ => 0) j)))), (q4, .inl (cI, 1200, .inl (fun j => nI ((fun _ => 0) j))))]) 37 [(0, .ref h)] [.ref q4, .ref h]
  refine r_putF (ws' := [(h, .inr (1, [.ref q1, .ref q2, .ref q3, .int (nI 0), .ref q4, .null, .int (nI 0), .int (nI 0), .int (nI 0), .int (nI 0), .int (nI 0)])), (q1, .inl (cI, 1200, .inl (fun j => eI ((fun _ => some 0) j)))), (q2, .inl (cI, 200, .inl (fun j => nI ((fun _ => 0) j)))), (q3, .inl (cI, 200, .inl (fun j => nI ((fun _ => 0) j)))), (q4, .inl (cI, 1200, .inl (fun j => nI ((fun _ => 0) j))))]) hc inlX1 tyX1 tyX1_ok nmX1 0 rfl rfl 4 (by decide) fl_X1_21 rfl rfl (hnm.trans rfl) rfl rfl rfl (Nat.le_of_ble_eq_true rfl) rfl dX1_init_37 ?_
  refine r_aload_n hc dX1_init_40 rfl 0 rfl ?_
  refine r_sipush (v := (nI 1200)) hc dX1_init_41 rfl ?_
  refine r_newZ hc (by decide) (by decide) (by decide) dX1_init_44 (fun q5 => ?_)
  show V p l e (RM 1 20 5 4000) s m args below meth c D A 1 5 4000 Q ([(h, .inr (1, [.ref q1, .ref q2, .ref q3, .int (nI 0), .ref q4, .null, .int (nI 0), .int (nI 0), .int (nI 0), .int (nI 0), .int (nI 0)])), (q1, .inl (cI, 1200, .inl (fun j => eI ((fun _ => some 0) j)))), (q2, .inl (cI, 200, .inl (fun j => nI ((fun _ => 0) j)))), (q3, .inl (cI, 200, .inl (fun j => nI ((fun _ => 0) j)))), (q4, .inl (cI, 1200, .inl (fun j => nI ((fun _ => 0) j)))), (q5, .inl (cZ, 1200, .inl (fun j => zI ((fun _ => false) j))))]) 46 [(0, .ref h)] [.ref q5, .ref h]
  refine r_putF (ws' := [(h, .inr (1, [.ref q1, .ref q2, .ref q3, .int (nI 0), .ref q4, .ref q5, .int (nI 0), .int (nI 0), .int (nI 0), .int (nI 0), .int (nI 0)])), (q1, .inl (cI, 1200, .inl (fun j => eI ((fun _ => some 0) j)))), (q2, .inl (cI, 200, .inl (fun j => nI ((fun _ => 0) j)))), (q3, .inl (cI, 200, .inl (fun j => nI ((fun _ => 0) j)))), (q4, .inl (cI, 1200, .inl (fun j => nI ((fun _ => 0) j)))), (q5, .inl (cZ, 1200, .inl (fun j => zI ((fun _ => false) j))))]) hc inlX1 tyX1 tyX1_ok nmX1 0 rfl rfl 5 (by decide) fl_X1_24 rfl rfl (hnm.trans rfl) rfl rfl rfl (Nat.le_of_ble_eq_true rfl) rfl dX1_init_46 ?_
  rw [← hQ]
  exact r_vret hc hr hlk (q1, q2, q3, q4, q5) trivial rfl dX1_init_49
set_option maxHeartbeats 4000000 in
set_option maxRecDepth 100000 in
/-- Action(cosets, words) -/
theorem c_Action (l : Launch) (D : va_G) (cI cZ cW : ClassId) (ha h hs1 : Nat)  : CtV l yX0_init cX0_init 3 none 1 20 4 800 D cI cZ cW [.ref ha, .ref h, .ref hs1] ([(ha, .inr (0, [.null, .null, .null, .null, .null, .null, .int (nI 0)]))]) ([]) (S := Nat × Nat × Nat × Nat) (fun _ => True) (fun u => wA cI cZ ha h hs1 u.1 u.2.1 u.2.2.1 u.2.2.2 as0) := by
  refine CtV.mk (by decide) (Nat.le_of_ble_eq_true rfl) ?_
  intro p e s m args below meth c A hc hr hlk hnm hro
  generalize hQ : MQ below _ args s 4 800 A = Q
  show V p l e (RM 1 20 4 800) s m args below meth c D A 3 0 0 Q ([(ha, .inr (0, [.null, .null, .null, .null, .null, .null, .int (nI 0)]))]) 0 [(0, .ref ha), (1, .ref h), (2, .ref hs1)] []
  refine r_aload_n hc dX0_init_0 rfl 0 rfl ?_
  refine r_obj hc ml_X0_3 (by decide) (Nat.le_of_ble_eq_true rfl) dX0_init_1 ?_
  refine r_aload_n hc dX0_init_4 rfl 0 rfl ?_
  refine r_sipush (v := (nI 200)) hc dX0_init_5 rfl ?_
  refine r_newI hc eI (some 0) rfl (by decide) (by decide) (by decide) dX0_init_8 (fun q1 => ?_)
  show V p l e (RM 1 20 4 800) s m args below meth c D A 3 1 200 Q ([(ha, .inr (0, [.null, .null, .null, .null, .null, .null, .int (nI 0)])), (q1, .inl (cI, 200, .inl (fun j => eI ((fun _ => some 0) j))))]) 10 [(0, .ref ha), (1, .ref h), (2, .ref hs1)] [.ref q1, .ref ha]
  refine r_putF (ws' := [(ha, .inr (0, [.null, .null, .ref q1, .null, .null, .null, .int (nI 0)])), (q1, .inl (cI, 200, .inl (fun j => eI ((fun _ => some 0) j))))]) hc inlX0 tyX0 tyX0_ok nmX0 0 rfl rfl 2 (by decide) fl_X0_9 rfl rfl (hnm.trans rfl) rfl rfl rfl (Nat.le_of_ble_eq_true rfl) rfl dX0_init_10 ?_
  refine r_aload_n hc dX0_init_13 rfl 0 rfl ?_
  refine r_sipush (v := (nI 200)) hc dX0_init_14 rfl ?_
  refine r_newI hc nI (0) rfl (by decide) (by decide) (by decide) dX0_init_17 (fun q2 => ?_)
  show V p l e (RM 1 20 4 800) s m args below meth c D A 3 2 400 Q ([(ha, .inr (0, [.null, .null, .ref q1, .null, .null, .null, .int (nI 0)])), (q1, .inl (cI, 200, .inl (fun j => eI ((fun _ => some 0) j)))), (q2, .inl (cI, 200, .inl (fun j => nI ((fun _ => 0) j))))]) 19 [(0, .ref ha), (1, .ref h), (2, .ref hs1)] [.ref q2, .ref ha]
  refine r_putF (ws' := [(ha, .inr (0, [.null, .null, .ref q1, .ref q2, .null, .null, .int (nI 0)])), (q1, .inl (cI, 200, .inl (fun j => eI ((fun _ => some 0) j)))), (q2, .inl (cI, 200, .inl (fun j => nI ((fun _ => 0) j))))]) hc inlX0 tyX0 tyX0_ok nmX0 0 rfl rfl 3 (by decide) fl_X0_15 rfl rfl (hnm.trans rfl) rfl rfl rfl (Nat.le_of_ble_eq_true rfl) rfl dX0_init_19 ?_
  refine r_aload_n hc dX0_init_22 rfl 0 rfl ?_
  refine r_sipush (v := (nI 200)) hc dX0_init_23 rfl ?_
  refine r_newZ hc (by decide) (by decide) (by decide) dX0_init_26 (fun q3 => ?_)
  show V p l e (RM 1 20 4 800) s m args below meth c D A 3 3 600 Q ([(ha, .inr (0, [.null, .null, .ref q1, .ref q2, .null, .null, .int (nI 0)])), (q1, .inl (cI, 200, .inl (fun j => eI ((fun _ => some 0) j)))), (q2, .inl (cI, 200, .inl (fun j => nI ((fun _ => 0) j)))), (q3, .inl (cZ, 200, .inl (fun j => zI ((fun _ => false) j))))]) 28 [(0, .ref ha), (1, .ref h), (2, .ref hs1)] [.ref q3, .ref ha]
  refine r_putF (ws' := [(ha, .inr (0, [.null, .null, .ref q1, .ref q2, .ref q3, .null, .int (nI 0)])), (q1, .inl (cI, 200, .inl (fun j => eI ((fun _ => some 0) j)))), (q2, .inl (cI, 200, .inl (fun j => nI ((fun _ => 0) j)))), (q3, .inl (cZ, 200, .inl (fun j => zI ((fun _ => false) j))))]) hc inlX0 tyX0 tyX0_ok nmX0 0 rfl rfl 4 (by decide) fl_X0_18 rfl rfl (hnm.trans rfl) rfl rfl rfl (Nat.le_of_ble_eq_true rfl) rfl dX0_init_28 ?_
  refine r_aload_n hc dX0_init_31 rfl 0 rfl ?_
  refine r_sipush (v := (nI 200)) hc dX0_init_32 rfl ?_
  refine r_newI hc nI (0) rfl (by decide) (by decide) (by decide) dX0_init_35 (fun q4 => ?_)
  show V p l e (RM 1 20 4 800) s m args below meth c D A 3 4 800 Q ([(ha, .inr (0, [.null, .null, .ref q1, .ref q2, .ref q3, .null, .int (nI 0)])), (q1, .inl (cI, 200, .inl (fun j => eI ((fun _ => some 0) j)))), (q2, .inl (cI, 200, .inl (fun j => nI ((fun _ => 0) j)))), (q3, .inl (cZ, 200, .inl (fun j => zI ((fun _ => false) j)))), (q4, .inl (cI, 200, .inl (fun j => nI ((fun _ => 0) j))))]) 37 [(0, .ref ha), (1, .ref h), (2, .ref hs1)] [.ref q4, .ref ha]
  refine r_putF (ws' := [(ha, .inr (0, [.null, .null, .ref q1, .ref q2, .ref q3, .ref q4, .int (nI 0)])), (q1, .inl (cI, 200, .inl (fun j => eI ((fun _ => some 0) j)))), (q2, .inl (cI, 200, .inl (fun j => nI ((fun _ => 0) j)))), (q3, .inl (cZ, 200, .inl (fun j => zI ((fun _ => false) j)))), (q4, .inl (cI, 200, .inl (fun j => nI ((fun _ => 0) j))))]) hc inlX0 tyX0 tyX0_ok nmX0 0 rfl rfl 5 (by decide) fl_X0_22 rfl rfl (hnm.trans rfl) rfl rfl rfl (Nat.le_of_ble_eq_true rfl) rfl dX0_init_37 ?_
  refine r_aload_n hc dX0_init_40 rfl 0 rfl ?_
  refine r_aload_n hc dX0_init_41 rfl 1 rfl ?_
  refine r_putF (ws' := [(ha, .inr (0, [.ref h, .null, .ref q1, .ref q2, .ref q3, .ref q4, .int (nI 0)])), (q1, .inl (cI, 200, .inl (fun j => eI ((fun _ => some 0) j)))), (q2, .inl (cI, 200, .inl (fun j => nI ((fun _ => 0) j)))), (q3, .inl (cZ, 200, .inl (fun j => zI ((fun _ => false) j)))), (q4, .inl (cI, 200, .inl (fun j => nI ((fun _ => 0) j))))]) hc inlX0 tyX0 tyX0_ok nmX0 0 rfl rfl 0 (by decide) fl_X0_25 rfl rfl (hnm.trans rfl) rfl rfl rfl (Nat.le_of_ble_eq_true rfl) rfl dX0_init_42 ?_
  refine r_aload_n hc dX0_init_45 rfl 0 rfl ?_
  refine r_aload_n hc dX0_init_46 rfl 2 rfl ?_
  refine r_putF (ws' := [(ha, .inr (0, [.ref h, .ref hs1, .ref q1, .ref q2, .ref q3, .ref q4, .int (nI 0)])), (q1, .inl (cI, 200, .inl (fun j => eI ((fun _ => some 0) j)))), (q2, .inl (cI, 200, .inl (fun j => nI ((fun _ => 0) j)))), (q3, .inl (cZ, 200, .inl (fun j => zI ((fun _ => false) j)))), (q4, .inl (cI, 200, .inl (fun j => nI ((fun _ => 0) j))))]) hc inlX0 tyX0 tyX0_ok nmX0 0 rfl rfl 1 (by decide) fl_X0_29 rfl rfl (hnm.trans rfl) rfl rfl rfl (Nat.le_of_ble_eq_true rfl) rfl dX0_init_47 ?_
  rw [← hQ]
  exact r_vret hc hr hlk (q1, q2, q3, q4) trivial rfl dX0_init_50
set_option maxHeartbeats 4000000 in
set_option maxRecDepth 100000 in
/-- Inference(..) -/
theorem c_Inference (l : Launch) (D : va_G) (cI cZ cW : ClassId) (hi h hr1 hs1 : Nat)  : CtV l yX2_init cX2_init 4 none 1 20 0 0 D cI cZ cW [.ref hi, .ref h, .ref hr1, .ref hs1] ([(hi, .inr (2, [.null, .null, .null]))]) ([]) (S := Unit) (fun _ => True) (fun _ => wI hi h hr1 hs1) := by
  refine CtV.mk (by decide) (Nat.le_of_ble_eq_true rfl) ?_
  intro p e s m args below meth c A hc hr hlk hnm hro
  generalize hQ : MQ below _ args s 0 0 A = Q
  show V p l e (RM 1 20 0 0) s m args below meth c D A 4 0 0 Q ([(hi, .inr (2, [.null, .null, .null]))]) 0 [(0, .ref hi), (1, .ref h), (2, .ref hr1), (3, .ref hs1)] []
  refine r_aload_n hc dX2_init_0 rfl 0 rfl ?_
  refine r_obj hc ml_X2_3 (by decide) (Nat.le_of_ble_eq_true rfl) dX2_init_1 ?_
  refine r_aload_n hc dX2_init_4 rfl 0 rfl ?_
  refine r_aload_n hc dX2_init_5 rfl 1 rfl ?_
  refine r_putF (ws' := [(hi, .inr (2, [.ref h, .null, .null]))]) hc inlX2 tyX2 tyX2_ok nmX2 0 rfl rfl 0 (by decide) fl_X2_9 rfl rfl (hnm.trans rfl) rfl rfl rfl (Nat.le_of_ble_eq_true rfl) rfl dX2_init_6 ?_
  refine r_aload_n hc dX2_init_9 rfl 0 rfl ?_
  refine r_aload_n hc dX2_init_10 rfl 2 rfl ?_
  refine r_putF (ws' := [(hi, .inr (2, [.ref h, .ref hr1, .null]))]) hc inlX2 tyX2 tyX2_ok nmX2 0 rfl rfl 1 (by decide) fl_X2_15 rfl rfl (hnm.trans rfl) rfl rfl rfl (Nat.le_of_ble_eq_true rfl) rfl dX2_init_11 ?_
  refine r_aload_n hc dX2_init_14 rfl 0 rfl ?_
  refine r_aload_n hc dX2_init_15 rfl 3 rfl ?_
  refine r_putF (ws' := [(hi, .inr (2, [.ref h, .ref hr1, .ref hs1]))]) hc inlX2 tyX2 tyX2_ok nmX2 0 rfl rfl 2 (by decide) fl_X2_19 rfl rfl (hnm.trans rfl) rfl rfl rfl (Nat.le_of_ble_eq_true rfl) rfl dX2_init_16 ?_
  rw [← hQ]
  exact r_vret hc hr hlk () trivial rfl dX2_init_19
def rs0 : RS := (0, (fun _ => 0), (fun _ => 0), 0, 0, 0, (fun _ => 0), (fun _ => some 0), false, 0, (fun _ => 0), (fun _ => 0), (fun _ => some 0), (fun _ => 0), 0, (fun _ => false), (fun _ => 0))
set_option maxHeartbeats 4000000 in
set_option maxRecDepth 100000 in
/-- CosetTableModel() -/
theorem m_init (l : Launch) (D : va_G) (cI cZ cW : ClassId) (g : Nat)  : CtV l yX6_init cX6_init 2 none 2 42 10 18600 D cI cZ cW [.ref g] ([(g, .inr (6, [.int (nI 0), .null, .null, .int (nI 0), .int (nI 0), .int (nI 0), .null, .null, .int (zI false), .int (nI 0), .null, .null, .null, .null, .int (nI 0), .null, .null]))]) ([]) (S := Nat × Nat × Nat × Nat × Nat × Nat × Nat × Nat × Nat × Nat) (fun _ => True) (fun u => wR cI cZ g u.1 u.2.1 u.2.2.1 u.2.2.2.1 u.2.2.2.2.1 u.2.2.2.2.2.1 u.2.2.2.2.2.2.1 u.2.2.2.2.2.2.2.1 u.2.2.2.2.2.2.2.2.1 u.2.2.2.2.2.2.2.2.2 (gFresh (gBeg0 rs0 1))) := by
  refine CtV.mk (by decide) (Nat.le_of_ble_eq_true rfl) ?_
  intro p e s m args below meth c A hc hr hlk hnm hro
  generalize hQ : MQ below _ args s 10 18600 A = Q
  show V p l e (RM 2 42 10 18600) s m args below meth c D A 2 0 0 Q ([(g, .inr (6, [.int (nI 0), .null, .null, .int (nI 0), .int (nI 0), .int (nI 0), .null, .null, .int (zI false), .int (nI 0), .null, .null, .null, .null, .int (nI 0), .null, .null]))]) 0 [(0, .ref g)] []
  refine r_aload_n hc dX6_init_0 rfl 0 rfl ?_
  refine r_obj hc ml_X6_1 (by decide) (Nat.le_of_ble_eq_true rfl) dX6_init_1 ?_
  refine r_aload_n hc dX6_init_4 rfl 0 rfl ?_
  refine r_sipush (v := (nI 384)) hc dX6_init_5 rfl ?_
  refine r_newI hc nI (0) rfl (by decide) (by decide) (by decide) dX6_init_8 (fun q1 => ?_)
  show V p l e (RM 2 42 10 18600) s m args below meth c D A 2 1 384 Q ([(g, .inr (6, [.int (nI 0), .null, .null, .int (nI 0), .int (nI 0), .int (nI 0), .null, .null, .int (zI false), .int (nI 0), .null, .null, .null, .null, .int (nI 0), .null, .null])), (q1, .inl (cI, 384, .inl (fun j => nI ((fun _ => 0) j))))]) 10 [(0, .ref g)] [.ref q1, .ref g]
  refine r_putF (ws' := [(g, .inr (6, [.int (nI 0), .ref q1, .null, .int (nI 0), .int (nI 0), .int (nI 0), .null, .null, .int (zI false), .int (nI 0), .null, .null, .null, .null, .int (nI 0), .null, .null])), (q1, .inl (cI, 384, .inl (fun j => nI ((fun _ => 0) j))))]) hc inlX6 tyX6 tyX6_ok nmX6 0 rfl rfl 1 (by decide) fl_X6_7 rfl rfl (hnm.trans rfl) rfl rfl rfl (Nat.le_of_ble_eq_true rfl) rfl dX6_init_10 ?_
  refine r_aload_n hc dX6_init_13 rfl 0 rfl ?_
  refine r_bipush (v := (nI 16)) hc dX6_init_14 rfl ?_
  refine r_newI hc nI (0) rfl (by decide) (by decide) (by decide) dX6_init_16 (fun q2 => ?_)
  show V p l e (RM 2 42 10 18600) s m args below meth c D A 2 2 400 Q ([(g, .inr (6, [.int (nI 0), .ref q1, .null, .int (nI 0), .int (nI 0), .int (nI 0), .null, .null, .int (zI false), .int (nI 0), .null, .null, .null, .null, .int (nI 0), .null, .null])), (q1, .inl (cI, 384, .inl (fun j => nI ((fun _ => 0) j)))), (q2, .inl (cI, 16, .inl (fun j => nI ((fun _ => 0) j))))]) 18 [(0, .ref g)] [.ref q2, .ref g]
  refine r_putF (ws' := [(g, .inr (6, [.int (nI 0), .ref q1, .ref q2, .int (nI 0), .int (nI 0), .int (nI 0), .null, .null, .int (zI false), .int (nI 0), .null, .null, .null, .null, .int (nI 0), .null, .null])), (q1, .inl (cI, 384, .inl (fun j => nI ((fun _ => 0) j)))), (q2, .inl (cI, 16, .inl (fun j => nI ((fun _ => 0) j))))]) hc inlX6 tyX6 tyX6_ok nmX6 0 rfl rfl 2 (by decide) fl_X6_13 rfl rfl (hnm.trans rfl) rfl rfl rfl (Nat.le_of_ble_eq_true rfl) rfl dX6_init_18 ?_
  refine r_aload_n hc dX6_init_21 rfl 0 rfl ?_
  refine r_sipush (v := (nI 200)) hc dX6_init_22 rfl ?_
  refine r_newI hc nI (0) rfl (by decide) (by decide) (by decide) dX6_init_25 (fun q3 => ?_)
  show V p l e (RM 2 42 10 18600) s m args below meth c D A 2 3 600 Q ([(g, .inr (6, [.int (nI 0), .ref q1, .ref q2, .int (nI 0), .int (nI 0), .int (nI 0), .null, .null, .int (zI false), .int (nI 0), .null, .null, .null, .null, .int (nI 0), .null, .null])), (q1, .inl (cI, 384, .inl (fun j => nI ((fun _ => 0) j)))), (q2, .inl (cI, 16, .inl (fun j => nI ((fun _ => 0) j)))), (q3, .inl (cI, 200, .inl (fun j => nI ((fun _ => 0) j))))]) 27 [(0, .ref g)] [.ref q3, .ref g]
  refine r_putF (ws' := [(g, .inr (6, [.int (nI 0), .ref q1, .ref q2, .int (nI 0), .int (nI 0), .int (nI 0), .ref q3, .null, .int (zI false), .int (nI 0), .null, .null, .null, .null, .int (nI 0), .null, .null])), (q1, .inl (cI, 384, .inl (fun j => nI ((fun _ => 0) j)))), (q2, .inl (cI, 16, .inl (fun j => nI ((fun _ => 0) j)))), (q3, .inl (cI, 200, .inl (fun j => nI ((fun _ => 0) j))))]) hc inlX6 tyX6 tyX6_ok nmX6 0 rfl rfl 6 (by decide) fl_X6_16 rfl rfl (hnm.trans rfl) rfl rfl rfl (Nat.le_of_ble_eq_true rfl) rfl dX6_init_27 ?_
  refine r_aload_n hc dX6_init_30 rfl 0 rfl ?_
  refine r_sipush (v := (nI 1200)) hc dX6_init_31 rfl ?_
  refine r_newI hc eI (some 0) rfl (by decide) (by decide) (by decide) dX6_init_34 (fun q4 => ?_)
  show V p l e (RM 2 42 10 18600) s m args below meth c D A 2 4 1800 Q ([(g, .inr (6, [.int (nI 0), .ref q1, .ref q2, .int (nI 0), .int (nI 0), .int (nI 0), .ref q3, .null, .int (zI false), .int (nI 0), .null, .null, .null, .null, .int (nI 0), .null, .null])), (q1, .inl (cI, 384, .inl (fun j => nI ((fun _ => 0) j)))), (q2, .inl (cI, 16, .inl (fun j => nI ((fun _ => 0) j)))), (q3, .inl (cI, 200, .inl (fun j => nI ((fun _ => 0) j)))), (q4, .inl (cI, 1200, .inl (fun j => eI ((fun _ => some 0) j))))]) 36 [(0, .ref g)] [.ref q4, .ref g]
  refine r_putF (ws' := [(g, .inr (6, [.int (nI 0), .ref q1, .ref q2, .int (nI 0), .int (nI 0), .int (nI 0), .ref q3, .ref q4, .int (zI false), .int (nI 0), .null, .null, .null, .null, .int (nI 0), .null, .null])), (q1, .inl (cI, 384, .inl (fun j => nI ((fun _ => 0) j)))), (q2, .inl (cI, 16, .inl (fun j => nI ((fun _ => 0) j)))), (q3, .inl (cI, 200, .inl (fun j => nI ((fun _ => 0) j)))), (q4, .inl (cI, 1200, .inl (fun j => eI ((fun _ => some 0) j))))]) hc inlX6 tyX6 tyX6_ok nmX6 0 rfl rfl 7 (by decide) fl_X6_19 rfl rfl (hnm.trans rfl) rfl rfl rfl (Nat.le_of_ble_eq_true rfl) rfl dX6_init_36 ?_
  refine r_aload_n hc dX6_init_39 rfl 0 rfl ?_
  refine r_sipush (v := (nI 8000)) hc dX6_init_40 rfl ?_
  refine r_newI hc nI (0) rfl (by decide) (by decide) (by decide) dX6_init_43 (fun q5 => ?_)
  show V p l e (RM 2 42 10 18600) s m args below meth c D A 2 5 9800 Q ([(g, .inr (6, [.int (nI 0), .ref q1, .ref q2, .int (nI 0), .int (nI 0), .int (nI 0), .ref q3, .ref q4, .int (zI false), .int (nI 0), .null, .null, .null, .null, .int (nI 0), .null, .null])), (q1, .inl (cI, 384, .inl (fun j => nI ((fun _ => 0) j)))), (q2, .inl (cI, 16, .inl (fun j => nI ((fun _ => 0) j)))), (q3, .inl (cI, 200, .inl (fun j => nI ((fun _ => 0) j)))), (q4, .inl (cI, 1200, .inl (fun j => eI ((fun _ => some 0) j)))), (q5, .inl (cI, 8000, .inl (fun j => nI ((fun _ => 0) j))))]) 45 [(0, .ref g)] [.ref q5, .ref g]
  refine r_putF (ws' := [(g, .inr (6, [.int (nI 0), .ref q1, .ref q2, .int (nI 0), .int (nI 0), .int (nI 0), .ref q3, .ref q4, .int (zI false), .int (nI 0), .ref q5, .null, .null, .null, .int (nI 0), .null, .null])), (q1, .inl (cI, 384, .inl (fun j => nI ((fun _ => 0) j)))), (q2, .inl (cI, 16, .inl (fun j => nI ((fun _ => 0) j)))), (q3, .inl (cI, 200, .inl (fun j => nI ((fun _ => 0) j)))), (q4, .inl (cI, 1200, .inl (fun j => eI ((fun _ => some 0) j)))), (q5, .inl (cI, 8000, .inl (fun j => nI ((fun _ => 0) j))))]) hc inlX6 tyX6 tyX6_ok nmX6 0 rfl rfl 10 (by decide) fl_X6_22 rfl rfl (hnm.trans rfl) rfl rfl rfl (Nat.le_of_ble_eq_true rfl) rfl dX6_init_45 ?_
  refine r_aload_n hc dX6_init_48 rfl 0 rfl ?_
  refine r_sipush (v := (nI 8000)) hc dX6_init_49 rfl ?_
  refine r_newI hc nI (0) rfl (by decide) (by decide) (by decide) dX6_init_52 (fun q6 => ?_)
  show V p l e (RM 2 42 10 18600) s m args below meth c D A 2 6 17800 Q ([(g, .inr (6, [.int (nI 0), .ref q1, .ref q2, .int (nI 0), .int (nI 0), .int (nI 0), .ref q3, .ref q4, .int (zI false), .int (nI 0), .ref q5, .null, .null, .null, .int (nI 0), .null, .null])), (q1, .inl (cI, 384, .inl (fun j => nI ((fun _ => 0) j)))), (q2, .inl (cI, 16, .inl (fun j => nI ((fun _ => 0) j)))), (q3, .inl (cI, 200, .inl (fun j => nI ((fun _ => 0) j)))), (q4, .inl (cI, 1200, .inl (fun j => eI ((fun _ => some 0) j)))), (q5, .inl (cI, 8000, .inl (fun j => nI ((fun _ => 0) j)))), (q6, .inl (cI, 8000, .inl (fun j => nI ((fun _ => 0) j))))]) 54 [(0, .ref g)] [.ref q6, .ref g]
  refine r_putF (ws' := [(g, .inr (6, [.int (nI 0), .ref q1, .ref q2, .int (nI 0), .int (nI 0), .int (nI 0), .ref q3, .ref q4, .int (zI false), .int (nI 0), .ref q5, .ref q6, .null, .null, .int (nI 0), .null, .null])), (q1, .inl (cI, 384, .inl (fun j => nI ((fun _ => 0) j)))), (q2, .inl (cI, 16, .inl (fun j => nI ((fun _ => 0) j)))), (q3, .inl (cI, 200, .inl (fun j => nI ((fun _ => 0) j)))), (q4, .inl (cI, 1200, .inl (fun j => eI ((fun _ => some 0) j)))), (q5, .inl (cI, 8000, .inl (fun j => nI ((fun _ => 0) j)))), (q6, .inl (cI, 8000, .inl (fun j => nI ((fun _ => 0) j))))]) hc inlX6 tyX6 tyX6_ok nmX6 0 rfl rfl 11 (by decide) fl_X6_25 rfl rfl (hnm.trans rfl) rfl rfl rfl (Nat.le_of_ble_eq_true rfl) rfl dX6_init_54 ?_
  refine r_aload_n hc dX6_init_57 rfl 0 rfl ?_
  refine r_sipush (v := (nI 200)) hc dX6_init_58 rfl ?_
  refine r_newI hc eI (some 0) rfl (by decide) (by decide) (by decide) dX6_init_61 (fun q7 => ?_)
  show V p l e (RM 2 42 10 18600) s m args below meth c D A 2 7 18000 Q ([(g, .inr (6, [.int (nI 0), .ref q1, .ref q2, .int (nI 0), .int (nI 0), .int (nI 0), .ref q3, .ref q4, .int (zI false), .int (nI 0), .ref q5, .ref q6, .null, .null, .int (nI 0), .null, .null])), (q1, .inl (cI, 384, .inl (fun j => nI ((fun _ => 0) j)))), (q2, .inl (cI, 16, .inl (fun j => nI ((fun _ => 0) j)))), (q3, .inl (cI, 200, .inl (fun j => nI ((fun _ => 0) j)))), (q4, .inl (cI, 1200, .inl (fun j => eI ((fun _ => some 0) j)))), (q5, .inl (cI, 8000, .inl (fun j => nI ((fun _ => 0) j)))), (q6, .inl (cI, 8000, .inl (fun j => nI ((fun _ => 0) j)))), (q7, .inl (cI, 200, .inl (fun j => eI ((fun _ => some 0) j))))]) 63 [(0, .ref g)] [.ref q7, .ref g]
  refine r_putF (ws' := [(g, .inr (6, [.int (nI 0), .ref q1, .ref q2, .int (nI 0), .int (nI 0), .int (nI 0), .ref q3, .ref q4, .int (zI false), .int (nI 0), .ref q5, .ref q6, .ref q7, .null, .int (nI 0), .null, .null])), (q1, .inl (cI, 384, .inl (fun j => nI ((fun _ => 0) j)))), (q2, .inl (cI, 16, .inl (fun j => nI ((fun _ => 0) j)))), (q3, .inl (cI, 200, .inl (fun j => nI ((fun _ => 0) j)))), (q4, .inl (cI, 1200, .inl (fun j => eI ((fun _ => some 0) j)))), (q5, .inl (cI, 8000, .inl (fun j => nI ((fun _ => 0) j)))), (q6, .inl (cI, 8000, .inl (fun j => nI ((fun _ => 0) j)))), (q7, .inl (cI, 200, .inl (fun j => eI ((fun _ => some 0) j))))]) hc inlX6 tyX6 tyX6_ok nmX6 0 rfl rfl 12 (by decide) fl_X6_28 rfl rfl (hnm.trans rfl) rfl rfl rfl (Nat.le_of_ble_eq_true rfl) rfl dX6_init_63 ?_
  refine r_aload_n hc dX6_init_66 rfl 0 rfl ?_
  refine r_sipush (v := (nI 200)) hc dX6_init_67 rfl ?_
  refine r_newI hc nI (0) rfl (by decide) (by decide) (by decide) dX6_init_70 (fun q8 => ?_)
  show V p l e (RM 2 42 10 18600) s m args below meth c D A 2 8 18200 Q ([(g, .inr (6, [.int (nI 0), .ref q1, .ref q2, .int (nI 0), .int (nI 0), .int (nI 0), .ref q3, .ref q4, .int (zI false), .int (nI 0), .ref q5, .ref q6, .ref q7, .null, .int (nI 0), .null, .null])), (q1, .inl (cI, 384, .inl (fun j => nI ((fun _ => 0) j)))), (q2, .inl (cI, 16, .inl (fun j => nI ((fun _ => 0) j)))), (q3, .inl (cI, 200, .inl (fun j => nI ((fun _ => 0) j)))), (q4, .inl (cI, 1200, .inl (fun j => eI ((fun _ => some 0) j)))), (q5, .inl (cI, 8000, .inl (fun j => nI ((fun _ => 0) j)))), (q6, .inl (cI, 8000, .inl (fun j => nI ((fun _ => 0) j)))), (q7, .inl (cI, 200, .inl (fun j => eI ((fun _ => some 0) j)))), (q8, .inl (cI, 200, .inl (fun j => nI ((fun _ => 0) j))))]) 72 [(0, .ref g)] [.ref q8, .ref g]
  refine r_putF (ws' := [(g, .inr (6, [.int (nI 0), .ref q1, .ref q2, .int (nI 0), .int (nI 0), .int (nI 0), .ref q3, .ref q4, .int (zI false), .int (nI 0), .ref q5, .ref q6, .ref q7, .ref q8, .int (nI 0), .null, .null])), (q1, .inl (cI, 384, .inl (fun j => nI ((fun _ => 0) j)))), (q2, .inl (cI, 16, .inl (fun j => nI ((fun _ => 0) j)))), (q3, .inl (cI, 200, .inl (fun j => nI ((fun _ => 0) j)))), (q4, .inl (cI, 1200, .inl (fun j => eI ((fun _ => some 0) j)))), (q5, .inl (cI, 8000, .inl (fun j => nI ((fun _ => 0) j)))), (q6, .inl (cI, 8000, .inl (fun j => nI ((fun _ => 0) j)))), (q7, .inl (cI, 200, .inl (fun j => eI ((fun _ => some 0) j)))), (q8, .inl (cI, 200, .inl (fun j => nI ((fun _ => 0) j))))]) hc inlX6 tyX6 tyX6_ok nmX6 0 rfl rfl 13 (by decide) fl_X6_31 rfl rfl (hnm.trans rfl) rfl rfl rfl (Nat.le_of_ble_eq_true rfl) rfl dX6_init_72 ?_
  refine r_aload_n hc dX6_init_75 rfl 0 rfl ?_
  refine r_sipush (v := (nI 200)) hc dX6_init_76 rfl ?_
  refine r_newZ hc (by decide) (by decide) (by decide) dX6_init_79 (fun q9 => ?_)
  show V p l e (RM 2 42 10 18600) s m args below meth c D A 2 9 18400 Q ([(g, .inr (6, [.int (nI 0), .ref q1, .ref q2, .int (nI 0), .int (nI 0), .int (nI 0), .ref q3, .ref q4, .int (zI false), .int (nI 0), .ref q5, .ref q6, .ref q7, .ref q8, .int (nI 0), .null, .null])), (q1, .inl (cI, 384, .inl (fun j => nI ((fun _ => 0) j)))), (q2, .inl (cI, 16, .inl (fun j => nI ((fun _ => 0) j)))), (q3, .inl (cI, 200, .inl (fun j => nI ((fun _ => 0) j)))), (q4, .inl (cI, 1200, .inl (fun j => eI ((fun _ => some 0) j)))), (q5, .inl (cI, 8000, .inl (fun j => nI ((fun _ => 0) j)))), (q6, .inl (cI, 8000, .inl (fun j => nI ((fun _ => 0) j)))), (q7, .inl (cI, 200, .inl (fun j => eI ((fun _ => some 0) j)))), (q8, .inl (cI, 200, .inl (fun j => nI ((fun _ => 0) j)))), (q9, .inl (cZ, 200, .inl (fun j => zI ((fun _ => false) j))))]) 81 [(0, .ref g)] [.ref q9, .ref g]
  refine r_putF (ws' := [(g, .inr (6, [.int (nI 0), .ref q1, .ref q2, .int (nI 0), .int (nI 0), .int (nI 0), .ref q3, .ref q4, .int (zI false), .int (nI 0), .ref q5, .ref q6, .ref q7, .ref q8, .int (nI 0), .ref q9, .null])), (q1, .inl (cI, 384, .inl (fun j => nI ((fun _ => 0) j)))), (q2, .inl (cI, 16, .inl (fun j => nI ((fun _ => 0) j)))), (q3, .inl (cI, 200, .inl (fun j => nI ((fun _ => 0) j)))), (q4, .inl (cI, 1200, .inl (fun j => eI ((fun _ => some 0) j)))), (q5, .inl (cI, 8000, .inl (fun j => nI ((fun _ => 0) j)))), (q6, .inl (cI, 8000, .inl (fun j => nI ((fun _ => 0) j)))), (q7, .inl (cI, 200, .inl (fun j => eI ((fun _ => some 0) j)))), (q8, .inl (cI, 200, .inl (fun j => nI ((fun _ => 0) j)))), (q9, .inl (cZ, 200, .inl (fun j => zI ((fun _ => false) j))))]) hc inlX6 tyX6 tyX6_ok nmX6 0 rfl rfl 15 (by decide) fl_X6_34 rfl rfl (hnm.trans rfl) rfl rfl rfl (Nat.le_of_ble_eq_true rfl) rfl dX6_init_81 ?_
  refine r_aload_n hc dX6_init_84 rfl 0 rfl ?_
  refine r_sipush (v := (nI 200)) hc dX6_init_85 rfl ?_
  refine r_newI hc nI (0) rfl (by decide) (by decide) (by decide) dX6_init_88 (fun q10 => ?_)
  show V p l e (RM 2 42 10 18600) s m args below meth c D A 2 10 18600 Q ([(g, .inr (6, [.int (nI 0), .ref q1, .ref q2, .int (nI 0), .int (nI 0), .int (nI 0), .ref q3, .ref q4, .int (zI false), .int (nI 0), .ref q5, .ref q6, .ref q7, .ref q8, .int (nI 0), .ref q9, .null])), (q1, .inl (cI, 384, .inl (fun j => nI ((fun _ => 0) j)))), (q2, .inl (cI, 16, .inl (fun j => nI ((fun _ => 0) j)))), (q3, .inl (cI, 200, .inl (fun j => nI ((fun _ => 0) j)))), (q4, .inl (cI, 1200, .inl (fun j => eI ((fun _ => some 0) j)))), (q5, .inl (cI, 8000, .inl (fun j => nI ((fun _ => 0) j)))), (q6, .inl (cI, 8000, .inl (fun j => nI ((fun _ => 0) j)))), (q7, .inl (cI, 200, .inl (fun j => eI ((fun _ => some 0) j)))), (q8, .inl (cI, 200, .inl (fun j => nI ((fun _ => 0) j)))), (q9, .inl (cZ, 200, .inl (fun j => zI ((fun _ => false) j)))), (q10, .inl (cI, 200, .inl (fun j => nI ((fun _ => 0) j))))]) 90 [(0, .ref g)] [.ref q10, .ref g]
  refine r_putF (ws' := [(g, .inr (6, [.int (nI 0), .ref q1, .ref q2, .int (nI 0), .int (nI 0), .int (nI 0), .ref q3, .ref q4, .int (zI false), .int (nI 0), .ref q5, .ref q6, .ref q7, .ref q8, .int (nI 0), .ref q9, .ref q10])), (q1, .inl (cI, 384, .inl (fun j => nI ((fun _ => 0) j)))), (q2, .inl (cI, 16, .inl (fun j => nI ((fun _ => 0) j)))), (q3, .inl (cI, 200, .inl (fun j => nI ((fun _ => 0) j)))), (q4, .inl (cI, 1200, .inl (fun j => eI ((fun _ => some 0) j)))), (q5, .inl (cI, 8000, .inl (fun j => nI ((fun _ => 0) j)))), (q6, .inl (cI, 8000, .inl (fun j => nI ((fun _ => 0) j)))), (q7, .inl (cI, 200, .inl (fun j => eI ((fun _ => some 0) j)))), (q8, .inl (cI, 200, .inl (fun j => nI ((fun _ => 0) j)))), (q9, .inl (cZ, 200, .inl (fun j => zI ((fun _ => false) j)))), (q10, .inl (cI, 200, .inl (fun j => nI ((fun _ => 0) j))))]) hc inlX6 tyX6 tyX6_ok nmX6 0 rfl rfl 16 (by decide) fl_X6_38 rfl rfl (hnm.trans rfl) rfl rfl rfl (Nat.le_of_ble_eq_true rfl) rfl dX6_init_90 ?_
  refine r_aload_n hc dX6_init_93 rfl 0 rfl ?_
  refine r_iconst (v := (nI 1)) hc dX6_init_94 rfl ?_
  refine r_callI (As := [.int (nI 1)]) (n := 1) (wr := []) hc (m_begin l D cI cZ cW g q1 q2 q3 q4 q5 q6 q7 q8 q9 q10 rs0 1 (by decide) (by decide)) co_yX6_begin in_X6 ml_X6_41 (by decide +kernel) rfl ⟨by decide, by decide⟩ ⟨by decide, by decide⟩ im_yX6_begin se_yX6_begin rfl (Or.inl ⟨0, _, rfl⟩) rfl (Nat.le_of_ble_eq_true rfl) [0, 1, 2, 3, 4, 5, 6, 7, 8, 9, 10] [] rfl rfl rfl rfl (by decide) (fun q hq => absurd hq List.not_mem_nil) dX6_init_95 (fun r9 u9 e9 => ?_)
  obtain ⟨rfl, rfl⟩ := e9
  show V p l e (RM 2 42 10 18600) s m args below meth c D A 2 10 18600 Q (wR cI cZ g q1 q2 q3 q4 q5 q6 q7 q8 q9 q10 (gFresh (gBeg0 rs0 1))) 98 [(0, .ref g)] [.int (nI 0)]
  refine r_istore_n (lv' := [(1, .int (nI 0)), (0, .ref g)]) hc dX6_init_98 rfl (by decide) rfl ?_
  rw [← hQ]
  exact r_vret hc hr hlk (q1, q2, q3, q4, q5, q6, q7, q8, q9, q10) trivial rfl dX6_init_99
