theorem BR_0 : BR (gBeg0 rs0 1) := ⟨by show 1 ≤ 3; omega, fun i => by show 0 < 6; omega, fun i => by show va_up (fun _ => 0) 15 0 i ≤ 24; simp only [va_up]; split <;> omega, by show 0 ≤ 10; omega, by show 0 ≤ 5; omega, by show 0 ≤ 200; omega, fun i => by show 0 < 200; omega, fun i d h => by cases h; omega, by show 0 ≤ 8000; omega, fun i => by show 0 < 200; omega, fun i => by show 0 < 200; omega, fun i d h => by cases h; omega, fun i => by show 0 < 200; omega, by show 0 ≤ 200; omega, fun i => by show 0 < 200; omega⟩
theorem BA_0 : BA as0 := ⟨by show 0 ≤ 200; omega, fun i => by show 0 < 200; omega, fun i d h => by cases h; omega, fun i => by show 0 < 200; omega⟩
theorem LW_0 : LW 1 (fun _ => 0) 0 (fun _ _ => 0) (fun _ => 0) 0 (fun _ _ => 0) (fun _ => 0) 0 (gFresh (gBeg0 rs0 1)) := by
  refine ⟨by omega, by omega, rfl, fun j => by show 0 < 6; omega, ⟨?_, by omega, fun j hj => by omega⟩, by omega, rfl, fun i j => by show 0 < 6; omega, fun i hi => by omega, by omega, rfl, fun i j => by show 0 < 6; omega, fun i hi => by omega⟩
  show 0 = va_up (fun _ => 0) 15 0 15
  simp [va_up]
theorem LI_0 : LI 1 (fun _ => 0) 0 (fun _ _ => 0) (fun _ => 0) 0 (fun _ _ => 0) (fun _ => 0) 0 (fMake (fSt0 cs0 (2 * 1))) (tU as0, tN as0, tS as0, tR as0, 0) (gFresh (gBeg0 rs0 1)) := by
  refine ⟨LW_0, fresh_lt (by omega) LW_0.gw rfl BD_cs0 rfl (fun p _ => rfl) BA_0 (fresh_r BR_0 (fun i => by show 0 ≤ i; omega) rfl (LW.gr (BR_fr BR_0).2.1 LW_0))⟩
set_option maxHeartbeats 4000000 in
set_option maxRecDepth 100000 in
/-- THE LAW, from its entry -/
theorem whole_start {p : Program} {e : Env} {s : State} {m : MethodId} {below : List Frame} {meth : Method} {c : Code} (l : Launch) {b L : Nat} {xs : Nat → Int32} (hL : L ≤ 1536) (C0 : lw_At p s m meth c b L xs) : W p l e room_1 s m #[Value.ref b] below meth c s.heap [] 0 0 (lw_Z below #[Value.ref b] s) (entryFrame m ([Value.ref b] : List Value).toArray 4) := by
  obtain ⟨hx, hb, hr, hml, hown, hts, hX, hbl, hlocks, hgv⟩ := C0
  have hbA : ¬ (fun q : Nat => s.heap.size ≤ q) b := Nat.not_le.mpr hbl
  have htl : ∀ w ∈ wsL_law, w.before #[Value.ref b] s = true := fun w hw => hts w (wsL_law_in w hw)
  obtain ⟨c0, iS0, hKn0⟩ := u_known (C := RX0) (T := TX0) (N := 7) (n := 7) htl inlX0 (htl _ it_X0)
  obtain ⟨c1, iS1, hKn1⟩ := u_known (C := RX1) (T := TX1) (N := 11) (n := 11) htl inlX1 (htl _ it_X1)
  obtain ⟨c2, iS2, hKn2⟩ := u_known (C := RX2) (T := TX2) (N := 3) (n := 3) htl inlX2 (htl _ it_X2)
  obtain ⟨c3, iS3, hKn3⟩ := u_known (C := RX3) (T := TX3) (N := 2) (n := 2) htl inlX3 (htl _ it_X3)
  obtain ⟨c4, iS4, hKn4⟩ := u_known (C := RX4) (T := TX4) (N := 2) (n := 2) htl inlX4 (htl _ it_X4)
  obtain ⟨c5, iS5, hKn5⟩ := u_known (C := RX5) (T := TX5) (N := 7) (n := 7) htl inlX5 (htl _ it_X5)
  obtain ⟨c6, iS6, hKn6⟩ := u_known (C := RX6) (T := TX6) (N := 17) (n := 17) htl inlX6 (htl _ it_X6)
  obtain ⟨dC, dI, hKc⟩ : ∃ (dC : Nat → ClassId) (dI : Nat → Nat → Nat), ∀ (k : Nat) (q : vw_C), vwCl[k]? = some q → u_Kn s q.1 q.2.1 q.2.2 (dC k) (dI k) := by
    refine ⟨fun k => if k = 0 then c0 else if k = 1 then c1 else if k = 2 then c2 else if k = 3 then c3 else if k = 4 then c4 else if k = 5 then c5 else c6, fun k => if k = 0 then iS0 else if k = 1 then iS1 else if k = 2 then iS2 else if k = 3 then iS3 else if k = 4 then iS4 else if k = 5 then iS5 else iS6, ?_⟩
    intro k q hq
    match k, hq with
    | 0, hq => cases hq; exact hKn0
    | 1, hq => cases hq; exact hKn1
    | 2, hq => cases hq; exact hKn2
    | 3, hq => cases hq; exact hKn3
    | 4, hq => cases hq; exact hKn4
    | 5, hq => cases hq; exact hKn5
    | 6, hq => cases hq; exact hKn6
    | k + 7, hq => simp [vwCl] at hq
  obtain ⟨cI, kI, pI, i1, i2, i3⟩ := Cond.arrayClass_spec (htl _ ac_int)
  obtain ⟨cZ, kZ, pZ, z1, z2, z3⟩ := Cond.arrayClass_spec (htl _ ac_boolean)
  obtain ⟨pW, cW, kW, y1, y2, y3, y4, y5⟩ := Cond.arrayOver_spec (hts _ (NW_tbl _ ao_Word))
  have hK : va_K (dC, dI) vwCl (ty3 cI cZ cW) s := by
    refine ⟨hKc, fun k q h => ?_⟩
    match k, h with
    | 0, h => cases h; exact ⟨fun n z => ⟨fun k h => (by cases h), kI, i2, pI, i3⟩, i1⟩
    | 1, h => cases h; exact ⟨fun n z => ⟨fun k h => (by cases h), kZ, z2, pZ, z3⟩, z1⟩
    | 2, h => cases h; exact ⟨fun n z => ⟨fun k h => (by cases h), kW, y3, pW, y4⟩, kW, pW, y3, y4, y1, y5⟩
    | k + 3, h => simp at h
  have hc : CX p s m #[Value.ref b] c cL_law 4 RL (dC, dI) cI cZ cW (fun q : Nat => s.heap.size ≤ q) := ⟨hx, hb, hml, hown, htl, ⟨hK, NW.of hts⟩, fun q h => h⟩
  have hend : ∀ (ws : va_W) (lv : List (Nat × Value)), V p l e room_1 s m #[Value.ref b] below meth c (dC, dI) (fun q : Nat => s.heap.size ≤ q) 4 60 23880 (lw_Z below #[Value.ref b] s) ws 446 lv [] := by
    intro ws lv
    refine r_iconst (v := 1) hc dL_law_446 rfl ?_
    intro H locs ls hP hD hS hl
    refine va_forget (fun q hq => hS.2.2 q hq) ?_
    refine W.widen (k := 600000) (n := 7302250) (by omega) (by omega) ?_
    exact lw_ret hx hb hr hlocks dL_law_447
  have hl := lv_entry ([.ref b]) (n := 4) (Nat.le_of_ble_eq_true rfl)
  rw [lg_entry_eq]
  have hV : V p l e room_1 s m #[Value.ref b] below meth c (dC, dI) (fun q : Nat => s.heap.size ≤ q) 4 0 0 (lw_Z below #[Value.ref b] s) [] 0 [(0, .ref b)] [] := by
    refine r_new (ci := 5) (fs := [.null, .null, .null, .null, .null, .null, .int (nI 0)]) hc inlX5 tyX5 tyX5_ok cl_L_7 it_X5 in_X5 rfl (fun j hj => by rcases (show j = 0 ∨ j = 1 ∨ j = 2 ∨ j = 3 ∨ j = 4 ∨ j = 5 ∨ j = 6 by omega) with rfl | rfl | rfl | rfl | rfl | rfl | rfl <;> rfl) (Nat.le_of_ble_eq_true rfl) (Nat.le_of_ble_eq_true rfl) dL_law_0 (fun q1 => ?_)
    refine r_dup hc dL_law_3 rfl ?_
    refine r_callC (As := []) (n := 0) (wr := []) hc (c_CosetTable l (dC, dI) cI cZ cW q1) co_yX5_init in_X5 ml_L_9 (by decide +kernel) rfl ⟨Nat.le_of_ble_eq_true rfl, Nat.le_of_ble_eq_true rfl⟩ ⟨Nat.le_of_ble_eq_true rfl, Nat.le_of_ble_eq_true rfl⟩ im_yX5_init rfl rfl (Nat.le_of_ble_eq_true rfl) [0] [] rfl rfl rfl rfl (by decide) (fun q hq => absurd hq List.not_mem_nil) dL_law_4 (fun a _ => ?_)
    show V p l e room_1 s m #[Value.ref b] below meth c (dC, dI) (fun q : Nat => s.heap.size ≤ q) 4 49 5263 (lw_Z below #[Value.ref b] s) (wT cI cZ cW q1 a 1 (fun _ => 0) 0 (fun _ _ => 0) (fun _ => 0) 0 (fun _ _ => 0) (fun _ => 0) 0 (fMake (fSt0 cs0 (2 * 1))) (tU as0, tN as0, tS as0, tR as0, 0)) 7 [(0, .ref b)] [.ref q1]
    refine r_astore_n (lv' := [(1, .ref q1), (0, .ref b)]) hc dL_law_7 rfl (by decide) rfl ?_
    refine r_new (ci := 6) (fs := [.int (nI 0), .null, .null, .int (nI 0), .int (nI 0), .int (nI 0), .null, .null, .int (zI false), .int (nI 0), .null, .null, .null, .null, .int (nI 0), .null, .null]) hc inlX6 tyX6 tyX6_ok cl_L_10 it_X6 in_X6 rfl (fun j hj => by rcases (show j = 0 ∨ j = 1 ∨ j = 2 ∨ j = 3 ∨ j = 4 ∨ j = 5 ∨ j = 6 ∨ j = 7 ∨ j = 8 ∨ j = 9 ∨ j = 10 ∨ j = 11 ∨ j = 12 ∨ j = 13 ∨ j = 14 ∨ j = 15 ∨ j = 16 by omega) with rfl | rfl | rfl | rfl | rfl | rfl | rfl | rfl | rfl | rfl | rfl | rfl | rfl | rfl | rfl | rfl | rfl <;> rfl) (Nat.le_of_ble_eq_true rfl) (Nat.le_of_ble_eq_true rfl) dL_law_8 (fun q2 => ?_)
    refine r_dup hc dL_law_11 rfl ?_
    refine r_callC (As := []) (n := 0) (wr := wT cI cZ cW q1 a 1 (fun _ => 0) 0 (fun _ _ => 0) (fun _ => 0) 0 (fun _ _ => 0) (fun _ => 0) 0 (fMake (fSt0 cs0 (2 * 1))) (tU as0, tN as0, tS as0, tR as0, 0)) hc (m_init l (dC, dI) cI cZ cW q2) co_yX6_init in_X6 ml_L_12 (by decide +kernel) rfl ⟨Nat.le_of_ble_eq_true rfl, Nat.le_of_ble_eq_true rfl⟩ ⟨Nat.le_of_ble_eq_true rfl, Nat.le_of_ble_eq_true rfl⟩ im_yX6_init rfl rfl (Nat.le_of_ble_eq_true rfl) [49] [0, 1, 2, 3, 4, 5, 6, 7, 8, 9, 10, 11, 12, 13, 14, 15, 16, 17, 18, 19, 20, 21, 22, 23, 24, 25, 26, 27, 28, 29, 30, 31, 32, 33, 34, 35, 36, 37, 38, 39, 40, 41, 42, 43, 44, 45, 46, 47, 48] rfl rfl rfl rfl (by decide) (fun q hq => absurd hq List.not_mem_nil) dL_law_12 (fun u _ => ?_)
    show V p l e room_1 s m #[Value.ref b] below meth c (dC, dI) (fun q : Nat => s.heap.size ≤ q) 4 60 23880 (lw_Z below #[Value.ref b] s) (wLw cI cZ cW q1 a q2 u.1 u.2.1 u.2.2.1 u.2.2.2.1 u.2.2.2.2.1 u.2.2.2.2.2.1 u.2.2.2.2.2.2.1 u.2.2.2.2.2.2.2.1 u.2.2.2.2.2.2.2.2.1 u.2.2.2.2.2.2.2.2.2 1 (fun _ => 0) 0 (fun _ _ => 0) (fun _ => 0) 0 (fun _ _ => 0) (fun _ => 0) 0 (fMake (fSt0 cs0 (2 * 1))) (tU as0, tN as0, tS as0, tR as0, 0) (gFresh (gBeg0 rs0 1))) 15 [(1, .ref q1), (0, .ref b)] [.ref q2]
    refine r_astore_n (lv' := [(2, .ref q2), (1, .ref q1), (0, .ref b)]) hc dL_law_15 rfl (by decide) rfl ?_
    refine r_iconst (v := nI 0) hc dL_law_16 rfl ?_
    refine r_istore_n (lv' := [(3, .int (nI 0)), (2, .ref q2), (1, .ref q1), (0, .ref b)]) hc dL_law_17 rfl (by decide) rfl ?_
    exact law_loop hc hX hbl hbA hL hend L 0 (Nat.zero_le _) (by omega) _ _ _ _ _ _ _ _ _ _ _ _ LI_0
  exact hV s.heap [] _ (fun k q h => by simp at h) ⟨fun i j p q h => by simp at h, fun k q h => by simp at h⟩ va_S.rf hl
