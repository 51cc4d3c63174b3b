/-! CosetTable: letters, the start of a table -/
abbrev wT0 (hx hh hr1 hs1 h hi ha n : Nat) : va_W := [(hx, .inr (5, [.ref hh, .ref hr1, .ref hs1, .ref h, .ref hi, .ref ha, .int (nI n)]))]
abbrev wI (hi h hr1 hs1 : Nat) : va_W := [(hi, .inr (2, [.ref h, .ref hr1, .ref hs1]))]
def isLt (n : Nat) (v : Int32) : Bool := decide (¬ v = 0) && (decide (¬ v < -nI n) && decide (¬ nI n < v))
def colI (v : Int32) : Nat := if v = 1 then 0 else if v = -1 then 1 else if v = 2 then 2 else if v = -2 then 3 else if v = 3 then 4 else 5
theorem isLt_six {n : Nat} {v : Int32} (hn : n ≤ 3) (h : isLt n v = true) : (v = 1 ∨ v = -1 ∨ v = 2 ∨ v = -2 ∨ v = 3 ∨ v = -3) ∧ colI v < 2 * n := by
  have h0 : ¬ v = 0 := by simp only [isLt, Bool.and_eq_true, decide_eq_true_eq] at h; exact h.1
  have h1 : ¬ v < -nI n := by simp only [isLt, Bool.and_eq_true, decide_eq_true_eq] at h; exact h.2.1
  have h2 : ¬ nI n < v := by simp only [isLt, Bool.and_eq_true, decide_eq_true_eq] at h; exact h.2.2
  have e : v = Int32.ofInt v.toInt := (Int32.ofInt_toInt v).symm
  have a1 : -(n : Int) ≤ v.toInt := by
    rw [Int32.lt_iff_toInt_lt] at h1
    have : (-nI n).toInt = -(n : Int) := by
      have : ∀ n, n ≤ 3 → (-nI n).toInt = -(n : Int) := by decide
      exact this n hn
    omega
  have a2 : v.toInt ≤ n := by
    rw [Int32.lt_iff_toInt_lt, nI_toInt (by omega)] at h2; omega
  have a3 : v.toInt ≠ 0 := fun q => h0 (by rw [e, q]; rfl)
  have : v.toInt = 1 ∨ v.toInt = -1 ∨ v.toInt = 2 ∨ v.toInt = -2 ∨ v.toInt = 3 ∨ v.toInt = -3 := by omega
  rcases this with q | q | q | q | q | q <;> rw [q] at e a1 a2 <;> subst e
  · exact ⟨Or.inl rfl, by show 0 < _; omega⟩
  · exact ⟨Or.inr (Or.inl rfl), by show 1 < _; omega⟩
  · exact ⟨Or.inr (Or.inr (Or.inl rfl)), by show 2 < _; omega⟩
  · exact ⟨Or.inr (Or.inr (Or.inr (Or.inl rfl))), by show 3 < _; omega⟩
  · exact ⟨Or.inr (Or.inr (Or.inr (Or.inr (Or.inl rfl)))), by show 4 < _; omega⟩
  · exact ⟨Or.inr (Or.inr (Or.inr (Or.inr (Or.inr rfl)))), by show 5 < _; omega⟩
set_option maxHeartbeats 4000000 in
set_option maxRecDepth 100000 in
/-- isLetter(v) -/
theorem c_isLetter (l : Launch) (D : va_G) (cI cZ cW : ClassId) (hx hh hr1 hs1 h hi ha n : Nat) (v : Int32) : CtI l yX5_isLetter cX5_isLetter 2 (some .boolean) 0 0 0 0 D cI cZ cW [.ref hx, .int v] ([]) (wT0 hx hh hr1 hs1 h hi ha n) (S := Unit) (fun r _ => r = zI (isLt n v)) (fun _ => []) := by
  refine CtI.mk (by decide) (Nat.le_of_ble_eq_true rfl) ?_
  intro p e s m args below meth c A hc hr hlk hnm hro
  generalize hQ : MQ below _ args s 0 0 A = Q
  show V p l e (RM 0 0 0 0) s m args below meth c D A 2 0 0 Q ([]) 0 [(0, .ref hx), (1, .int v)] []
  refine r_iload_n hc dX5_isLetter_0 rfl 1 rfl ?_
  refine r_if_eq hc 25 dX5_isLetter_1 (by decide) (fun h1 => ?_) (fun h1 => ?_)
  · refine r_iconst (v := (nI 0)) hc dX5_isLetter_25 rfl ?_
    rw [← hQ]
    exact r_zret (b := false) hc hr hlk () (congrArg zI (by simp [isLt, *])) rfl dX5_isLetter_26
  · refine r_iload_n hc dX5_isLetter_4 rfl 1 rfl ?_
    refine r_aload_n hc dX5_isLetter_5 rfl 0 rfl ?_
    refine r_getR hc inlX5 (hro _ (List.mem_of_getElem? (i := 0) rfl)) rfl 6 (by decide) fl_X5_53 rfl rfl dX5_isLetter_6 ?_
    refine r_ineg hc dX5_isLetter_9 rfl ?_
    refine r_icmp_lt hc 25 dX5_isLetter_10 (by decide) (fun h2 => ?_) (fun h2 => ?_)
    · refine r_iconst (v := (nI 0)) hc dX5_isLetter_25 rfl ?_
      rw [← hQ]
      exact r_zret (b := false) hc hr hlk () (congrArg zI (by simp [isLt, *])) rfl dX5_isLetter_26
    · refine r_iload_n hc dX5_isLetter_13 rfl 1 rfl ?_
      refine r_aload_n hc dX5_isLetter_14 rfl 0 rfl ?_
      refine r_getR hc inlX5 (hro _ (List.mem_of_getElem? (i := 0) rfl)) rfl 6 (by decide) fl_X5_53 rfl rfl dX5_isLetter_15 ?_
      refine r_icmp_gt hc 25 dX5_isLetter_18 (by decide) (fun h3 => ?_) (fun h3 => ?_)
      · refine r_iconst (v := (nI 0)) hc dX5_isLetter_25 rfl ?_
        rw [← hQ]
        exact r_zret (b := false) hc hr hlk () (congrArg zI (by simp [isLt, *])) rfl dX5_isLetter_26
      · refine r_iconst (v := (nI 1)) hc dX5_isLetter_21 rfl ?_
        refine r_goto hc 26 dX5_isLetter_22 (by decide) ?_
        rw [← hQ]
        exact r_zret (b := true) hc hr hlk () (congrArg zI (by simp [isLt, *])) rfl dX5_isLetter_26
set_option maxHeartbeats 4000000 in
set_option maxRecDepth 100000 in
/-- columnOf(v) -/
theorem c_columnOf (l : Launch) (D : va_G) (cI cZ cW : ClassId) (v : Int32) (hv : v = 1 ∨ v = -1 ∨ v = 2 ∨ v = -2 ∨ v = 3 ∨ v = -3) : CtI l yX5_columnOf cX5_columnOf 1 (some .int) 0 0 0 0 D cI cZ cW [.int v] ([]) ([]) (S := Unit) (fun r _ => r = nI (colI v)) (fun _ => []) := by
  refine CtI.mk (by decide) (Nat.le_of_ble_eq_true rfl) ?_
  intro p e s m args below meth c A hc hr hlk hnm hro
  generalize hQ : MQ below _ args s 0 0 A = Q
  show V p l e (RM 0 0 0 0) s m args below meth c D A 1 0 0 Q ([]) 0 [(0, .int v)] []
  refine r_iload_n hc dX5_columnOf_0 rfl 0 rfl ?_
  refine r_if_le hc 12 dX5_columnOf_1 (by decide) (fun h1 => ?_) (fun h1 => ?_)
  · refine r_iconst (v := (nI 2)) hc dX5_columnOf_12 rfl ?_
    refine r_iload_n hc dX5_columnOf_13 rfl 0 rfl ?_
    refine r_ineg hc dX5_columnOf_14 rfl ?_
    refine r_iconst (v := (nI 1)) hc dX5_columnOf_15 rfl ?_
    refine r_isub hc dX5_columnOf_16 rfl ?_
    refine r_imul hc dX5_columnOf_17 rfl ?_
    refine r_iconst (v := (nI 1)) hc dX5_columnOf_18 rfl ?_
    refine r_iadd hc dX5_columnOf_19 rfl ?_
    rw [← hQ]
    exact r_iret hc hr hlk () (by rcases hv with rfl | rfl | rfl | rfl | rfl | rfl <;> first | rfl | (exfalso; revert h1; decide)) rfl dX5_columnOf_20
  · refine r_iconst (v := (nI 2)) hc dX5_columnOf_4 rfl ?_
    refine r_iload_n hc dX5_columnOf_5 rfl 0 rfl ?_
    refine r_iconst (v := (nI 1)) hc dX5_columnOf_6 rfl ?_
    refine r_isub hc dX5_columnOf_7 rfl ?_
    refine r_imul hc dX5_columnOf_8 rfl ?_
    refine r_goto hc 20 dX5_columnOf_9 (by decide) ?_
    rw [← hQ]
    exact r_iret hc hr hlk () (by rcases hv with rfl | rfl | rfl | rfl | rfl | rfl <;> first | rfl | (exfalso; revert h1; decide)) rfl dX5_columnOf_20
set_option maxHeartbeats 4000000 in
set_option maxRecDepth 100000 in
/-- startTable() -/
theorem c_startTable (l : Launch) (D : va_G) (cI cZ cW : ClassId) (hx hh hr1 hs1 h hi ha n : Nat) (aE aL aF aR aS : Nat) (σ : CS) (aU aN aT aG : Nat) (α : AS) (hn : n ≤ 3) (hB : BD σ) : CtV l yX5_startTable cX5_startTable 1 none 2 43 0 0 D cI cZ cW [.ref hx] (wS cI cZ h aE aL aF aR aS σ ++ wA cI cZ ha h hs1 aU aN aT aG α) (wT0 hx hh hr1 hs1 h hi ha n) (S := CS × AS) (fun u => u = (fMake (fSt0 σ (2 * n)), (tU α, tN α, tS α, tR α, 0))) (fun u => wS cI cZ h aE aL aF aR aS u.1 ++ wA cI cZ ha h hs1 aU aN aT aG u.2) := by
  refine CtV.mk (by decide) (Nat.le_of_ble_eq_true rfl) ?_
  intro p e s m args below meth c A hc hr hlk hnm hro
  generalize hQ : MQ below _ args s 0 0 A = Q
  show V p l e (RM 2 43 0 0) s m args below meth c D A 1 0 0 Q (wS cI cZ h aE aL aF aR aS σ ++ (wA cI cZ ha h hs1 aU aN aT aG α)) 0 [(0, .ref hx)] []
  refine r_aload_n hc dX5_startTable_0 rfl 0 rfl ?_
  refine r_getR hc inlX5 (hro _ (List.mem_of_getElem? (i := 0) rfl)) rfl 3 (by decide) fl_X5_31 rfl rfl dX5_startTable_1 ?_
  refine r_iconst (v := (nI 2)) hc dX5_startTable_4 rfl ?_
  refine r_aload_n hc dX5_startTable_5 rfl 0 rfl ?_
  refine r_getR hc inlX5 (hro _ (List.mem_of_getElem? (i := 0) rfl)) rfl 6 (by decide) fl_X5_53 rfl rfl dX5_startTable_6 ?_
  refine n_mul hc dX5_startTable_9 ?_
  refine r_callV (As := [.int (nI (2 * n))]) (n := 1) (wr := wA cI cZ ha h hs1 aU aN aT aG α) hc (c_start l D cI cZ cW h aE aL aF aR aS σ (2 * n) (by omega) hB) co_yX1_start in_X1 ml_X5_145 (by decide +kernel) rfl ⟨by decide, by decide⟩ ⟨by decide, by decide⟩ im_yX1_start se_yX1_start rfl (Or.inl ⟨0, _, rfl⟩) rfl (Nat.le_of_ble_eq_true rfl) [0, 1, 2, 3, 4, 5] [6, 7, 8, 9, 10] rfl rfl rfl rfl (by decide) (fun q hq => absurd hq List.not_mem_nil) dX5_startTable_10 (fun u e1 => ?_)
  refine r_perm (ws' := wS cI cZ h aE aL aF aR aS u ++ (wA cI cZ ha h hs1 aU aN aT aG α)) [5, 6, 7, 8, 9, 10, 0, 1, 2, 3, 4] rfl rfl ?_
  show V p l e (RM 2 43 0 0) s m args below meth c D A 1 0 0 Q (wS cI cZ h aE aL aF aR aS u ++ (wA cI cZ ha h hs1 aU aN aT aG α)) 13 [(0, .ref hx)] []
  subst e1
  show V p l e (RM 2 43 0 0) s m args below meth c D A 1 0 0 Q (wS cI cZ h aE aL aF aR aS (fMake (fSt0 σ (2 * n))) ++ (wA cI cZ ha h hs1 aU aN aT aG α)) 13 [(0, .ref hx)] []
  refine r_aload_n hc dX5_startTable_13 rfl 0 rfl ?_
  refine r_getR hc inlX5 (hro _ (List.mem_of_getElem? (i := 0) rfl)) rfl 5 (by decide) fl_X5_49 rfl rfl dX5_startTable_14 ?_
  refine r_iconst (v := (nI 0)) hc dX5_startTable_17 rfl ?_
  refine r_putN (ws' := wS cI cZ h aE aL aF aR aS (fMake (fSt0 σ (2 * n))) ++ (wB cI cZ ha h hs1 aU aN aT aG (tU α) (tN α) (tS α) (tR α) 0)) hc inlX0 tyX0 tyX0_ok nmX0 6 rfl rfl 6 (by decide) nf_X5_107 rfl rfl rfl rfl (Nat.le_of_ble_eq_true rfl) rfl dX5_startTable_18 ?_
  rw [← hQ]
  exact r_vret hc hr hlk (fMake (fSt0 σ (2 * n)), (tU α, tN α, tS α, tR α, 0)) rfl rfl dX5_startTable_21
set_option maxHeartbeats 4000000 in
set_option maxRecDepth 100000 in
/-- letter(v) -/
theorem c_letter (l : Launch) (D : va_G) (cI cZ cW : ClassId) (hx hh hr1 hs1 h hi ha n : Nat) (ah : Nat) (hcol : Nat → Nat) (hlen : Nat) (v : Int32) (hn : n ≤ 3) (hv : isLt n v = true) (hl : hlen < 24) : CtI l yX5_letter cX5_letter 2 (some .int) 1 21 0 0 D cI cZ cW [.ref hx, .int v] (wW cI hh ah hcol hlen) (wT0 hx hh hr1 hs1 h hi ha n) (S := WS) (fun r u => r = nI (hlen + 1) ∧ u = (va_up hcol hlen (colI v), hlen + 1)) (fun u => wW cI hh ah u.1 u.2) := by
  refine CtI.mk (by decide) (Nat.le_of_ble_eq_true rfl) ?_
  intro p e s m args below meth c A hc hr hlk hnm hro
  generalize hQ : MQ below _ args s 0 0 A = Q
  show V p l e (RM 1 21 0 0) s m args below meth c D A 2 0 0 Q (wW cI hh ah hcol hlen) 0 [(0, .ref hx), (1, .int v)] []
  refine r_aload_n hc dX5_letter_0 rfl 0 rfl ?_
  refine r_iload_n hc dX5_letter_1 rfl 1 rfl ?_
  refine r_callI (As := [.int v]) (n := 1) (wr := wW cI hh ah hcol hlen) hc (c_isLetter l D cI cZ cW hx hh hr1 hs1 h hi ha n v) co_yX5_isLetter in_X5 ml_X5_66 (by decide +kernel) rfl ⟨by decide, by decide⟩ ⟨by decide, by decide⟩ im_yX5_isLetter se_yX5_isLetter rfl (Or.inr ⟨_, (hro _ (List.mem_of_getElem? (i := 0) rfl))⟩) rfl (Nat.le_of_ble_eq_true rfl) [] [0, 1] rfl rfl rfl rfl (by decide) (fun q hq => Or.inr (hro q hq)) dX5_letter_2 (fun r1 u2 e3 => ?_)
  subst e3
  refine z_if_eq hc 20 dX5_letter_5 (by decide) (fun h4 => ?_) (fun h4 => ?_)
  · exact absurd (hv.symm.trans h4) (by decide)
  · refine r_aload_n hc dX5_letter_8 rfl 0 rfl ?_
    refine r_getR hc inlX5 (hro _ (List.mem_of_getElem? (i := 0) rfl)) rfl 0 (by decide) fl_X5_12 rfl rfl dX5_letter_9 ?_
    refine r_getN hc inlX3 0 rfl rfl 1 (by decide) nf_X5_63 rfl rfl dX5_letter_12 ?_
    refine r_bipush (v := (nI 24)) hc dX5_letter_15 rfl ?_
    refine n_icmp_ne hc 22 dX5_letter_17 (by decide) (by omega) (by omega) (fun h5 => ?_) (fun h5 => ?_)
    · refine r_aload_n hc dX5_letter_22 rfl 0 rfl ?_
      refine r_getR hc inlX5 (hro _ (List.mem_of_getElem? (i := 0) rfl)) rfl 0 (by decide) fl_X5_12 rfl rfl dX5_letter_23 ?_
      refine r_iload_n hc dX5_letter_26 rfl 1 rfl ?_
      refine r_callsI (As := [.int v]) (n := 1) (wr := wW cI hh ah hcol hlen) hc (c_columnOf l D cI cZ cW v (isLt_six hn hv).1) co_yX5_columnOf in_X5 ml_X5_70 (by decide +kernel) rfl ⟨by decide, by decide⟩ ⟨by decide, by decide⟩ st_yX5_columnOf rfl (Nat.le_of_ble_eq_true rfl) [] [0, 1] rfl rfl rfl rfl (by decide) (fun q hq => absurd hq List.not_mem_nil) dX5_letter_27 (fun r6 u7 e8 => ?_)
      subst e8
      show V p l e (RM 1 21 0 0) s m args below meth c D A 2 0 0 Q (wW cI hh ah hcol hlen) 30 [(0, .ref hx), (1, .int v)] [.int (nI (colI v)), .ref hh]
      refine r_callV (As := [.int (nI (colI v))]) (n := 1) (wr := []) hc (c_append l D cI cZ cW hh ah hcol hlen (colI v) hl) co_yX3_append in_X3 ml_X5_74 (by decide +kernel) rfl ⟨by decide, by decide⟩ ⟨by decide, by decide⟩ im_yX3_append se_yX3_append rfl (Or.inl ⟨0, _, rfl⟩) rfl (Nat.le_of_ble_eq_true rfl) [0, 1] [] rfl rfl rfl rfl (by decide) (fun q hq => absurd hq List.not_mem_nil) dX5_letter_30 (fun u e9 => ?_)
      show V p l e (RM 1 21 0 0) s m args below meth c D A 2 0 0 Q (wW cI hh ah ((u).1) ((u).2)) 33 [(0, .ref hx), (1, .int v)] []
      subst e9
      show V p l e (RM 1 21 0 0) s m args below meth c D A 2 0 0 Q (wW cI hh ah (va_up hcol hlen (colI v)) (hlen + 1)) 33 [(0, .ref hx), (1, .int v)] []
      refine r_aload_n hc dX5_letter_33 rfl 0 rfl ?_
      refine r_getR hc inlX5 (hro _ (List.mem_of_getElem? (i := 0) rfl)) rfl 0 (by decide) fl_X5_12 rfl rfl dX5_letter_34 ?_
      refine r_getN hc inlX3 0 rfl rfl 1 (by decide) nf_X5_63 rfl rfl dX5_letter_37 ?_
      rw [← hQ]
      exact r_iret hc hr hlk (va_up hcol hlen (colI v), hlen + 1) (⟨rfl, rfl⟩) rfl dX5_letter_40
    · exact absurd h5 (by omega)
set_option maxHeartbeats 4000000 in
set_option maxRecDepth 100000 in
/-- letter(v), refused -/
theorem c_letter_bad (l : Launch) (D : va_G) (cI cZ cW : ClassId) (hx hh hr1 hs1 h hi ha n : Nat) (ah : Nat) (hcol : Nat → Nat) (hlen : Nat) (v : Int32) (hl24 : hlen ≤ 24) (hbad : isLt n v = true → hlen = 24) : CtI l yX5_letter cX5_letter 2 (some .int) 1 21 0 0 D cI cZ cW [.ref hx, .int v] (wW cI hh ah hcol hlen) (wT0 hx hh hr1 hs1 h hi ha n) (S := WS) (fun r u => r = -1 ∧ u = (hcol, hlen)) (fun u => wW cI hh ah u.1 u.2) := by
  refine CtI.mk (by decide) (Nat.le_of_ble_eq_true rfl) ?_
  intro p e s m args below meth c A hc hr hlk hnm hro
  generalize hQ : MQ below _ args s 0 0 A = Q
  show V p l e (RM 1 21 0 0) s m args below meth c D A 2 0 0 Q (wW cI hh ah hcol hlen) 0 [(0, .ref hx), (1, .int v)] []
  refine r_aload_n hc dX5_letter_0 rfl 0 rfl ?_
  refine r_iload_n hc dX5_letter_1 rfl 1 rfl ?_
  refine r_callI (As := [.int v]) (n := 1) (wr := wW cI hh ah hcol hlen) hc (c_isLetter l D cI cZ cW hx hh hr1 hs1 h hi ha n v) co_yX5_isLetter in_X5 ml_X5_66 (by decide +kernel) rfl ⟨by decide, by decide⟩ ⟨by decide, by decide⟩ im_yX5_isLetter se_yX5_isLetter rfl (Or.inr ⟨_, (hro _ (List.mem_of_getElem? (i := 0) rfl))⟩) rfl (Nat.le_of_ble_eq_true rfl) [] [0, 1] rfl rfl rfl rfl (by decide) (fun q hq => Or.inr (hro q hq)) dX5_letter_2 (fun r1 u2 e3 => ?_)
  subst e3
  refine z_if_eq hc 20 dX5_letter_5 (by decide) (fun h4 => ?_) (fun h4 => ?_)
  · refine r_iconst (v := (-1)) hc dX5_letter_20 rfl ?_
    rw [← hQ]
    exact r_iret hc hr hlk (hcol, hlen) (⟨rfl, rfl⟩) rfl dX5_letter_21
  · have hb := hbad h4
    refine r_aload_n hc dX5_letter_8 rfl 0 rfl ?_
    refine r_getR hc inlX5 (hro _ (List.mem_of_getElem? (i := 0) rfl)) rfl 0 (by decide) fl_X5_12 rfl rfl dX5_letter_9 ?_
    refine r_getN hc inlX3 0 rfl rfl 1 (by decide) nf_X5_63 rfl rfl dX5_letter_12 ?_
    refine r_bipush (v := (nI 24)) hc dX5_letter_15 rfl ?_
    refine n_icmp_ne hc 22 dX5_letter_17 (by decide) (by omega) (by omega) (fun h5 => ?_) (fun h5 => ?_)
    · exact absurd hb h5
    · refine r_iconst (v := (-1)) hc dX5_letter_20 rfl ?_
      rw [← hQ]
      exact r_iret hc hr hlk (hcol, hlen) (⟨rfl, rfl⟩) rfl dX5_letter_21
set_option maxHeartbeats 4000000 in
set_option maxRecDepth 100000 in
/-- clear() -/
theorem c_clear (l : Launch) (D : va_G) (cI cZ cW : ClassId) (hx hh hr1 hs1 h hi ha n : Nat) (ah : Nat) (hcol : Nat → Nat) (hlen : Nat) (hl24 : hlen ≤ 24) : CtI l yX5_clear cX5_clear 2 (some .int) 0 0 0 0 D cI cZ cW [.ref hx] (wW cI hh ah hcol hlen) (wT0 hx hh hr1 hs1 h hi ha n) (S := WS) (fun r u => r = nI hlen ∧ u = (hcol, 0)) (fun u => wW cI hh ah u.1 u.2) := by
  refine CtI.mk (by decide) (Nat.le_of_ble_eq_true rfl) ?_
  intro p e s m args below meth c A hc hr hlk hnm hro
  generalize hQ : MQ below _ args s 0 0 A = Q
  show V p l e (RM 0 0 0 0) s m args below meth c D A 2 0 0 Q (wW cI hh ah hcol hlen) 0 [(0, .ref hx)] []
  refine r_aload_n hc dX5_clear_0 rfl 0 rfl ?_
  refine r_getR hc inlX5 (hro _ (List.mem_of_getElem? (i := 0) rfl)) rfl 0 (by decide) fl_X5_12 rfl rfl dX5_clear_1 ?_
  refine r_getN hc inlX3 0 rfl rfl 1 (by decide) nf_X5_63 rfl rfl dX5_clear_4 ?_
  refine r_istore_n (lv' := [(1, .int (nI hlen)), (0, .ref hx)]) hc dX5_clear_7 rfl (by decide) rfl ?_
  refine r_aload_n hc dX5_clear_8 rfl 1 rfl ?_
  refine r_getR hc inlX5 (hro _ (List.mem_of_getElem? (i := 0) rfl)) rfl 0 (by decide) fl_X5_12 rfl rfl dX5_clear_9 ?_
  refine r_iconst (v := (nI 0)) hc dX5_clear_12 rfl ?_
  refine r_putN (ws' := wW cI hh ah hcol 0) hc inlX3 tyX3 tyX3_ok nmX3 0 rfl rfl 1 (by decide) nf_X5_63 rfl rfl rfl rfl (Nat.le_of_ble_eq_true rfl) rfl dX5_clear_13 ?_
  refine r_iload_n hc dX5_clear_16 rfl 0 rfl ?_
  rw [← hQ]
  exact r_iret hc hr hlk (hcol, 0) (⟨rfl, rfl⟩) rfl dX5_clear_17
set_option maxHeartbeats 4000000 in
set_option maxRecDepth 100000 in
/-- giveHandTo, 10 -/
theorem c_give10 (l : Launch) (D : va_G) (cI cZ cW : ClassId) (hx hh hr1 hs1 h hi ha n : Nat) (ah : Nat) (hcol : Nat → Nat) (hlen : Nat) (hl al : Nat) (wa ca : Nat → Nat) (col : Nat → Nat → Nat) (len : Nat → Nat) (sz : Nat) (aE aL aF aR aS : Nat) (σ : CS) (aU aN aT aG : Nat) (α : AS) (hn : n ≤ 3) (hl24 : hlen ≤ 24) (hsz : sz ≤ 10) (hB : BD σ) (h0 : 0 < hlen) (hszl : sz < 10) : CtI l yX5_giveHandTo cX5_giveHandTo 2 (some .int) 3 68 0 0 D cI cZ cW [.ref hx, .ref hl] (wW cI hh ah hcol hlen ++ (wL cI cW hl al 10 wa ca col len sz ++ (wS cI cZ h aE aL aF aR aS σ ++ (wA cI cZ ha h hs1 aU aN aT aG α)))) (wT0 hx hh hr1 hs1 h hi ha n) (S := WS × ((Nat → Nat → Nat) × (Nat → Nat) × Nat) × CS × AS) (fun r u => r = nI (sz + 1) ∧ u = ((hcol, 0), ((va_up col sz (cpN hcol (col sz) hlen)), (va_up len sz hlen), sz + 1), fMake (fSt0 σ (2 * n)), (tU α, tN α, tS α, tR α, 0))) (fun u => wW cI hh ah u.1.1 u.1.2 ++ (wL cI cW hl al 10 wa ca u.2.1.1 u.2.1.2.1 u.2.1.2.2 ++ (wS cI cZ h aE aL aF aR aS u.2.2.1 ++ wA cI cZ ha h hs1 aU aN aT aG u.2.2.2))) := by
  refine CtI.mk (by decide) (Nat.le_of_ble_eq_true rfl) ?_
  intro p e s m args below meth c A hc hr hlk hnm hro
  generalize hQ : MQ below _ args s 0 0 A = Q
  show V p l e (RM 3 68 0 0) s m args below meth c D A 2 0 0 Q (wW cI hh ah hcol hlen ++ (wL cI cW hl al 10 wa ca col len sz ++ (wS cI cZ h aE aL aF aR aS σ ++ (wA cI cZ ha h hs1 aU aN aT aG α)))) 0 [(0, .ref hx), (1, .ref hl)] []
  refine r_aload_n hc dX5_giveHandTo_0 rfl 0 rfl ?_
  refine r_getR hc inlX5 (hro _ (List.mem_of_getElem? (i := 0) rfl)) rfl 0 (by decide) fl_X5_12 rfl rfl dX5_giveHandTo_1 ?_
  refine r_getN hc inlX3 0 rfl rfl 1 (by decide) nf_X5_63 rfl rfl dX5_giveHandTo_4 ?_
  refine n_if_eq hc 17 dX5_giveHandTo_7 (by decide) (by omega) (fun h1 => ?_) (fun h1 => ?_)
  · exact absurd h1 (by omega)
  · refine r_aload_n hc dX5_giveHandTo_10 rfl 1 rfl ?_
    refine r_callI (As := []) (n := 0) (wr := wW cI hh ah hcol hlen ++ (wL cI cW hl al 10 wa ca col len sz ++ (wS cI cZ h aE aL aF aR aS σ ++ (wA cI cZ ha h hs1 aU aN aT aG α)))) hc (c_isFull10 l D cI cZ cW hl al wa ca col len sz hsz) co_yX4_isFull in_X4 ml_X5_148 (by decide +kernel) rfl ⟨by decide, by decide⟩ ⟨by decide, by decide⟩ im_yX4_isFull se_yX4_isFull rfl (Or.inl ⟨2, _, rfl⟩) rfl (Nat.le_of_ble_eq_true rfl) [] [0, 1, 2, 3, 4, 5, 6, 7, 8, 9, 10, 11, 12, 13, 14, 15, 16, 17, 18, 19, 20, 21, 22, 23, 24, 25, 26, 27, 28, 29, 30, 31, 32, 33, 34] rfl rfl rfl rfl (by decide) (fun q hq => Or.inl ((List.getElem?_of_mem (List.mem_append_right _ (List.mem_append_left _ hq))).elim fun k hk => ⟨k, hk, List.not_mem_nil⟩)) dX5_giveHandTo_11 (fun r2 u3 e4 => ?_)
    subst e4
    refine z_if_eq hc 19 dX5_giveHandTo_14 (by decide) (fun h5 => ?_) (fun h5 => ?_)
    · refine r_aload_n hc dX5_giveHandTo_19 rfl 1 rfl ?_
      refine r_aload_n hc dX5_giveHandTo_20 rfl 0 rfl ?_
      refine r_getR hc inlX5 (hro _ (List.mem_of_getElem? (i := 0) rfl)) rfl 0 (by decide) fl_X5_12 rfl rfl dX5_giveHandTo_21 ?_
      refine r_callV (As := [.ref hh]) (n := 1) (wr := wS cI cZ h aE aL aF aR aS σ ++ (wA cI cZ ha h hs1 aU aN aT aG α)) hc (c_add10 l D cI cZ cW hl al wa ca col len hh ah hcol hlen hl24 sz (by omega)) co_yX4_add in_X4 ml_X5_151 (by decide +kernel) rfl ⟨by decide, by decide⟩ ⟨by decide, by decide⟩ im_yX4_add se_yX4_add rfl (Or.inl ⟨2, _, rfl⟩) rfl (Nat.le_of_ble_eq_true rfl) [2, 3, 4, 5, 6, 7, 8, 9, 10, 11, 12, 13, 14, 15, 16, 17, 18, 19, 20, 21, 22, 23, 0, 1] [24, 25, 26, 27, 28, 29, 30, 31, 32, 33, 34] rfl rfl rfl rfl (by decide) (fun q hq => absurd hq List.not_mem_nil) dX5_giveHandTo_24 (fun u e6 => ?_)
      refine r_perm (ws' := wW cI hh ah hcol hlen ++ (wL cI cW hl al 10 wa ca u.1 u.2.1 u.2.2 ++ (wS cI cZ h aE aL aF aR aS σ ++ (wA cI cZ ha h hs1 aU aN aT aG α)))) [33, 34, 11, 12, 13, 14, 15, 16, 17, 18, 19, 20, 21, 22, 23, 24, 25, 26, 27, 28, 29, 30, 31, 32, 0, 1, 2, 3, 4, 5, 6, 7, 8, 9, 10] rfl rfl ?_
      show V p l e (RM 3 68 0 0) s m args below meth c D A 2 0 0 Q (wW cI hh ah hcol hlen ++ (wL cI cW hl al 10 wa ca u.1 u.2.1 u.2.2 ++ (wS cI cZ h aE aL aF aR aS σ ++ (wA cI cZ ha h hs1 aU aN aT aG α)))) 27 [(0, .ref hx), (1, .ref hl)] []
      subst e6
      show V p l e (RM 3 68 0 0) s m args below meth c D A 2 0 0 Q (wW cI hh ah hcol hlen ++ (wL cI cW hl al 10 wa ca ((va_up col sz (cpN hcol (col sz) hlen))) ((va_up len sz hlen)) (sz + 1) ++ (wS cI cZ h aE aL aF aR aS σ ++ (wA cI cZ ha h hs1 aU aN aT aG α)))) 27 [(0, .ref hx), (1, .ref hl)] []
      refine r_aload_n hc dX5_giveHandTo_27 rfl 0 rfl ?_
      refine r_getR hc inlX5 (hro _ (List.mem_of_getElem? (i := 0) rfl)) rfl 0 (by decide) fl_X5_12 rfl rfl dX5_giveHandTo_28 ?_
      refine r_iconst (v := (nI 0)) hc dX5_giveHandTo_31 rfl ?_
      refine r_putN (ws' := wW cI hh ah hcol 0 ++ (wL cI cW hl al 10 wa ca ((va_up col sz (cpN hcol (col sz) hlen))) ((va_up len sz hlen)) (sz + 1) ++ (wS cI cZ h aE aL aF aR aS σ ++ (wA cI cZ ha h hs1 aU aN aT aG α)))) hc inlX3 tyX3 tyX3_ok nmX3 0 rfl rfl 1 (by decide) nf_X5_63 rfl rfl rfl rfl (Nat.le_of_ble_eq_true rfl) rfl dX5_giveHandTo_32 ?_
      refine r_aload_n hc dX5_giveHandTo_35 rfl 0 rfl ?_
      refine r_callV (As := []) (n := 0) (wr := wW cI hh ah hcol 0 ++ (wL cI cW hl al 10 wa ca ((va_up col sz (cpN hcol (col sz) hlen))) ((va_up len sz hlen)) (sz + 1))) hc (c_startTable l D cI cZ cW hx hh hr1 hs1 h hi ha n aE aL aF aR aS σ aU aN aT aG α hn hB) co_yX5_startTable in_X5 ml_X5_57 (by decide +kernel) rfl ⟨by decide, by decide⟩ ⟨by decide, by decide⟩ im_yX5_startTable se_yX5_startTable rfl (Or.inr ⟨_, (hro _ (List.mem_of_getElem? (i := 0) rfl))⟩) rfl (Nat.le_of_ble_eq_true rfl) [24, 25, 26, 27, 28, 29, 30, 31, 32, 33, 34] [0, 1, 2, 3, 4, 5, 6, 7, 8, 9, 10, 11, 12, 13, 14, 15, 16, 17, 18, 19, 20, 21, 22, 23] rfl rfl rfl rfl (by decide) (fun q hq => Or.inr (hro q hq)) dX5_giveHandTo_36 (fun u9 e7 => ?_)
      show V p l e (RM 3 68 0 0) s m args below meth c D A 2 0 0 Q (wW cI hh ah hcol 0 ++ (wL cI cW hl al 10 wa ca ((va_up col sz (cpN hcol (col sz) hlen))) ((va_up len sz hlen)) (sz + 1) ++ (wS cI cZ h aE aL aF aR aS (u9).1 ++ (wA cI cZ ha h hs1 aU aN aT aG (u9).2)))) 39 [(0, .ref hx), (1, .ref hl)] []
      subst e7
      show V p l e (RM 3 68 0 0) s m args below meth c D A 2 0 0 Q (wW cI hh ah hcol 0 ++ (wL cI cW hl al 10 wa ca ((va_up col sz (cpN hcol (col sz) hlen))) ((va_up len sz hlen)) (sz + 1) ++ (wS cI cZ h aE aL aF aR aS (fMake (fSt0 σ (2 * n))) ++ (wA cI cZ ha h hs1 aU aN aT aG (tU α, tN α, tS α, tR α, 0))))) 39 [(0, .ref hx), (1, .ref hl)] []
      refine r_aload_n hc dX5_giveHandTo_39 rfl 1 rfl ?_
      refine r_getN hc inlX4 2 rfl rfl 1 (by decide) nf_X5_60 rfl rfl dX5_giveHandTo_40 ?_
      rw [← hQ]
      exact r_iret hc hr hlk ((hcol, 0), ((va_up col sz (cpN hcol (col sz) hlen)), (va_up len sz hlen), sz + 1), fMake (fSt0 σ (2 * n)), (tU α, tN α, tS α, tR α, 0)) (⟨rfl, rfl⟩) rfl dX5_giveHandTo_43
    · simp at h5; omega
set_option maxHeartbeats 4000000 in
set_option maxRecDepth 100000 in
/-- giveHandTo, 10, refused -/
theorem c_give10_bad (l : Launch) (D : va_G) (cI cZ cW : ClassId) (hx hh hr1 hs1 h hi ha n : Nat) (ah : Nat) (hcol : Nat → Nat) (hlen : Nat) (hl al : Nat) (wa ca : Nat → Nat) (col : Nat → Nat → Nat) (len : Nat → Nat) (sz : Nat) (aE aL aF aR aS : Nat) (σ : CS) (aU aN aT aG : Nat) (α : AS) (hn : n ≤ 3) (hl24 : hlen ≤ 24) (hsz : sz ≤ 10) (hB : BD σ) (hbad : hlen = 0 ∨ sz = 10) : CtI l yX5_giveHandTo cX5_giveHandTo 2 (some .int) 3 68 0 0 D cI cZ cW [.ref hx, .ref hl] (wW cI hh ah hcol hlen ++ (wL cI cW hl al 10 wa ca col len sz ++ (wS cI cZ h aE aL aF aR aS σ ++ (wA cI cZ ha h hs1 aU aN aT aG α)))) (wT0 hx hh hr1 hs1 h hi ha n) (S := WS × ((Nat → Nat → Nat) × (Nat → Nat) × Nat) × CS × AS) (fun r u => r = -1 ∧ u = ((hcol, hlen), (col, len, sz), σ, α)) (fun u => wW cI hh ah u.1.1 u.1.2 ++ (wL cI cW hl al 10 wa ca u.2.1.1 u.2.1.2.1 u.2.1.2.2 ++ (wS cI cZ h aE aL aF aR aS u.2.2.1 ++ wA cI cZ ha h hs1 aU aN aT aG u.2.2.2))) := by
  refine CtI.mk (by decide) (Nat.le_of_ble_eq_true rfl) ?_
  intro p e s m args below meth c A hc hr hlk hnm hro
  generalize hQ : MQ below _ args s 0 0 A = Q
  show V p l e (RM 3 68 0 0) s m args below meth c D A 2 0 0 Q (wW cI hh ah hcol hlen ++ (wL cI cW hl al 10 wa ca col len sz ++ (wS cI cZ h aE aL aF aR aS σ ++ (wA cI cZ ha h hs1 aU aN aT aG α)))) 0 [(0, .ref hx), (1, .ref hl)] []
  refine r_aload_n hc dX5_giveHandTo_0 rfl 0 rfl ?_
  refine r_getR hc inlX5 (hro _ (List.mem_of_getElem? (i := 0) rfl)) rfl 0 (by decide) fl_X5_12 rfl rfl dX5_giveHandTo_1 ?_
  refine r_getN hc inlX3 0 rfl rfl 1 (by decide) nf_X5_63 rfl rfl dX5_giveHandTo_4 ?_
  refine n_if_eq hc 17 dX5_giveHandTo_7 (by decide) (by omega) (fun h1 => ?_) (fun h1 => ?_)
  · refine r_iconst (v := (-1)) hc dX5_giveHandTo_17 rfl ?_
    rw [← hQ]
    exact r_iret hc hr hlk ((hcol, hlen), (col, len, sz), σ, α) (⟨rfl, rfl⟩) rfl dX5_giveHandTo_18
  · refine r_aload_n hc dX5_giveHandTo_10 rfl 1 rfl ?_
    refine r_callI (As := []) (n := 0) (wr := wW cI hh ah hcol hlen ++ (wL cI cW hl al 10 wa ca col len sz ++ (wS cI cZ h aE aL aF aR aS σ ++ (wA cI cZ ha h hs1 aU aN aT aG α)))) hc (c_isFull10 l D cI cZ cW hl al wa ca col len sz hsz) co_yX4_isFull in_X4 ml_X5_148 (by decide +kernel) rfl ⟨by decide, by decide⟩ ⟨by decide, by decide⟩ im_yX4_isFull se_yX4_isFull rfl (Or.inl ⟨2, _, rfl⟩) rfl (Nat.le_of_ble_eq_true rfl) [] [0, 1, 2, 3, 4, 5, 6, 7, 8, 9, 10, 11, 12, 13, 14, 15, 16, 17, 18, 19, 20, 21, 22, 23, 24, 25, 26, 27, 28, 29, 30, 31, 32, 33, 34] rfl rfl rfl rfl (by decide) (fun q hq => Or.inl ((List.getElem?_of_mem (List.mem_append_right _ (List.mem_append_left _ hq))).elim fun k hk => ⟨k, hk, List.not_mem_nil⟩)) dX5_giveHandTo_11 (fun r2 u3 e4 => ?_)
    subst e4
    refine z_if_eq hc 19 dX5_giveHandTo_14 (by decide) (fun h5 => ?_) (fun h5 => ?_)
    · simp at h5; omega
    · refine r_iconst (v := (-1)) hc dX5_giveHandTo_17 rfl ?_
      rw [← hQ]
      exact r_iret hc hr hlk ((hcol, hlen), (col, len, sz), σ, α) (⟨rfl, rfl⟩) rfl dX5_giveHandTo_18
set_option maxHeartbeats 4000000 in
set_option maxRecDepth 100000 in
/-- giveHandTo, 5 -/
theorem c_give5 (l : Launch) (D : va_G) (cI cZ cW : ClassId) (hx hh hr1 hs1 h hi ha n : Nat) (ah : Nat) (hcol : Nat → Nat) (hlen : Nat) (hl al : Nat) (wa ca : Nat → Nat) (col : Nat → Nat → Nat) (len : Nat → Nat) (sz : Nat) (aE aL aF aR aS : Nat) (σ : CS) (aU aN aT aG : Nat) (α : AS) (hn : n ≤ 3) (hl24 : hlen ≤ 24) (hsz : sz ≤ 5) (hB : BD σ) (h0 : 0 < hlen) (hszl : sz < 5) : CtI l yX5_giveHandTo cX5_giveHandTo 2 (some .int) 3 68 0 0 D cI cZ cW [.ref hx, .ref hl] (wW cI hh ah hcol hlen ++ (wL cI cW hl al 5 wa ca col len sz ++ (wS cI cZ h aE aL aF aR aS σ ++ (wA cI cZ ha h hs1 aU aN aT aG α)))) (wT0 hx hh hr1 hs1 h hi ha n) (S := WS × ((Nat → Nat → Nat) × (Nat → Nat) × Nat) × CS × AS) (fun r u => r = nI (sz + 1) ∧ u = ((hcol, 0), ((va_up col sz (cpN hcol (col sz) hlen)), (va_up len sz hlen), sz + 1), fMake (fSt0 σ (2 * n)), (tU α, tN α, tS α, tR α, 0))) (fun u => wW cI hh ah u.1.1 u.1.2 ++ (wL cI cW hl al 5 wa ca u.2.1.1 u.2.1.2.1 u.2.1.2.2 ++ (wS cI cZ h aE aL aF aR aS u.2.2.1 ++ wA cI cZ ha h hs1 aU aN aT aG u.2.2.2))) := by
  refine CtI.mk (by decide) (Nat.le_of_ble_eq_true rfl) ?_
  intro p e s m args below meth c A hc hr hlk hnm hro
  generalize hQ : MQ below _ args s 0 0 A = Q
  show V p l e (RM 3 68 0 0) s m args below meth c D A 2 0 0 Q (wW cI hh ah hcol hlen ++ (wL cI cW hl al 5 wa ca col len sz ++ (wS cI cZ h aE aL aF aR aS σ ++ (wA cI cZ ha h hs1 aU aN aT aG α)))) 0 [(0, .ref hx), (1, .ref hl)] []
  refine r_aload_n hc dX5_giveHandTo_0 rfl 0 rfl ?_
  refine r_getR hc inlX5 (hro _ (List.mem_of_getElem? (i := 0) rfl)) rfl 0 (by decide) fl_X5_12 rfl rfl dX5_giveHandTo_1 ?_
  refine r_getN hc inlX3 0 rfl rfl 1 (by decide) nf_X5_63 rfl rfl dX5_giveHandTo_4 ?_
  refine n_if_eq hc 17 dX5_giveHandTo_7 (by decide) (by omega) (fun h1 => ?_) (fun h1 => ?_)
  · exact absurd h1 (by omega)
  · refine r_aload_n hc dX5_giveHandTo_10 rfl 1 rfl ?_
    refine r_callI (As := []) (n := 0) (wr := wW cI hh ah hcol hlen ++ (wL cI cW hl al 5 wa ca col len sz ++ (wS cI cZ h aE aL aF aR aS σ ++ (wA cI cZ ha h hs1 aU aN aT aG α)))) hc (c_isFull5 l D cI cZ cW hl al wa ca col len sz hsz) co_yX4_isFull in_X4 ml_X5_148 (by decide +kernel) rfl ⟨by decide, by decide⟩ ⟨by decide, by decide⟩ im_yX4_isFull se_yX4_isFull rfl (Or.inl ⟨2, _, rfl⟩) rfl (Nat.le_of_ble_eq_true rfl) [] [0, 1, 2, 3, 4, 5, 6, 7, 8, 9, 10, 11, 12, 13, 14, 15, 16, 17, 18, 19, 20, 21, 22, 23, 24] rfl rfl rfl rfl (by decide) (fun q hq => Or.inl ((List.getElem?_of_mem (List.mem_append_right _ (List.mem_append_left _ hq))).elim fun k hk => ⟨k, hk, List.not_mem_nil⟩)) dX5_giveHandTo_11 (fun r2 u3 e4 => ?_)
    subst e4
    refine z_if_eq hc 19 dX5_giveHandTo_14 (by decide) (fun h5 => ?_) (fun h5 => ?_)
    · refine r_aload_n hc dX5_giveHandTo_19 rfl 1 rfl ?_
      refine r_aload_n hc dX5_giveHandTo_20 rfl 0 rfl ?_
      refine r_getR hc inlX5 (hro _ (List.mem_of_getElem? (i := 0) rfl)) rfl 0 (by decide) fl_X5_12 rfl rfl dX5_giveHandTo_21 ?_
      refine r_callV (As := [.ref hh]) (n := 1) (wr := wS cI cZ h aE aL aF aR aS σ ++ (wA cI cZ ha h hs1 aU aN aT aG α)) hc (c_add5 l D cI cZ cW hl al wa ca col len hh ah hcol hlen hl24 sz (by omega)) co_yX4_add in_X4 ml_X5_151 (by decide +kernel) rfl ⟨by decide, by decide⟩ ⟨by decide, by decide⟩ im_yX4_add se_yX4_add rfl (Or.inl ⟨2, _, rfl⟩) rfl (Nat.le_of_ble_eq_true rfl) [2, 3, 4, 5, 6, 7, 8, 9, 10, 11, 12, 13, 0, 1] [14, 15, 16, 17, 18, 19, 20, 21, 22, 23, 24] rfl rfl rfl rfl (by decide) (fun q hq => absurd hq List.not_mem_nil) dX5_giveHandTo_24 (fun u e6 => ?_)
      refine r_perm (ws' := wW cI hh ah hcol hlen ++ (wL cI cW hl al 5 wa ca u.1 u.2.1 u.2.2 ++ (wS cI cZ h aE aL aF aR aS σ ++ (wA cI cZ ha h hs1 aU aN aT aG α)))) [23, 24, 11, 12, 13, 14, 15, 16, 17, 18, 19, 20, 21, 22, 0, 1, 2, 3, 4, 5, 6, 7, 8, 9, 10] rfl rfl ?_
      show V p l e (RM 3 68 0 0) s m args below meth c D A 2 0 0 Q (wW cI hh ah hcol hlen ++ (wL cI cW hl al 5 wa ca u.1 u.2.1 u.2.2 ++ (wS cI cZ h aE aL aF aR aS σ ++ (wA cI cZ ha h hs1 aU aN aT aG α)))) 27 [(0, .ref hx), (1, .ref hl)] []
      subst e6
      show V p l e (RM 3 68 0 0) s m args below meth c D A 2 0 0 Q (wW cI hh ah hcol hlen ++ (wL cI cW hl al 5 wa ca ((va_up col sz (cpN hcol (col sz) hlen))) ((va_up len sz hlen)) (sz + 1) ++ (wS cI cZ h aE aL aF aR aS σ ++ (wA cI cZ ha h hs1 aU aN aT aG α)))) 27 [(0, .ref hx), (1, .ref hl)] []
      refine r_aload_n hc dX5_giveHandTo_27 rfl 0 rfl ?_
      refine r_getR hc inlX5 (hro _ (List.mem_of_getElem? (i := 0) rfl)) rfl 0 (by decide) fl_X5_12 rfl rfl dX5_giveHandTo_28 ?_
      refine r_iconst (v := (nI 0)) hc dX5_giveHandTo_31 rfl ?_
      refine r_putN (ws' := wW cI hh ah hcol 0 ++ (wL cI cW hl al 5 wa ca ((va_up col sz (cpN hcol (col sz) hlen))) ((va_up len sz hlen)) (sz + 1) ++ (wS cI cZ h aE aL aF aR aS σ ++ (wA cI cZ ha h hs1 aU aN aT aG α)))) hc inlX3 tyX3 tyX3_ok nmX3 0 rfl rfl 1 (by decide) nf_X5_63 rfl rfl rfl rfl (Nat.le_of_ble_eq_true rfl) rfl dX5_giveHandTo_32 ?_
      refine r_aload_n hc dX5_giveHandTo_35 rfl 0 rfl ?_
      refine r_callV (As := []) (n := 0) (wr := wW cI hh ah hcol 0 ++ (wL cI cW hl al 5 wa ca ((va_up col sz (cpN hcol (col sz) hlen))) ((va_up len sz hlen)) (sz + 1))) hc (c_startTable l D cI cZ cW hx hh hr1 hs1 h hi ha n aE aL aF aR aS σ aU aN aT aG α hn hB) co_yX5_startTable in_X5 ml_X5_57 (by decide +kernel) rfl ⟨by decide, by decide⟩ ⟨by decide, by decide⟩ im_yX5_startTable se_yX5_startTable rfl (Or.inr ⟨_, (hro _ (List.mem_of_getElem? (i := 0) rfl))⟩) rfl (Nat.le_of_ble_eq_true rfl) [14, 15, 16, 17, 18, 19, 20, 21, 22, 23, 24] [0, 1, 2, 3, 4, 5, 6, 7, 8, 9, 10, 11, 12, 13] rfl rfl rfl rfl (by decide) (fun q hq => Or.inr (hro q hq)) dX5_giveHandTo_36 (fun u9 e7 => ?_)
      show V p l e (RM 3 68 0 0) s m args below meth c D A 2 0 0 Q (wW cI hh ah hcol 0 ++ (wL cI cW hl al 5 wa ca ((va_up col sz (cpN hcol (col sz) hlen))) ((va_up len sz hlen)) (sz + 1) ++ (wS cI cZ h aE aL aF aR aS (u9).1 ++ (wA cI cZ ha h hs1 aU aN aT aG (u9).2)))) 39 [(0, .ref hx), (1, .ref hl)] []
      subst e7
      show V p l e (RM 3 68 0 0) s m args below meth c D A 2 0 0 Q (wW cI hh ah hcol 0 ++ (wL cI cW hl al 5 wa ca ((va_up col sz (cpN hcol (col sz) hlen))) ((va_up len sz hlen)) (sz + 1) ++ (wS cI cZ h aE aL aF aR aS (fMake (fSt0 σ (2 * n))) ++ (wA cI cZ ha h hs1 aU aN aT aG (tU α, tN α, tS α, tR α, 0))))) 39 [(0, .ref hx), (1, .ref hl)] []
      refine r_aload_n hc dX5_giveHandTo_39 rfl 1 rfl ?_
      refine r_getN hc inlX4 2 rfl rfl 1 (by decide) nf_X5_60 rfl rfl dX5_giveHandTo_40 ?_
      rw [← hQ]
      exact r_iret hc hr hlk ((hcol, 0), ((va_up col sz (cpN hcol (col sz) hlen)), (va_up len sz hlen), sz + 1), fMake (fSt0 σ (2 * n)), (tU α, tN α, tS α, tR α, 0)) (⟨rfl, rfl⟩) rfl dX5_giveHandTo_43
    · simp at h5; omega
set_option maxHeartbeats 4000000 in
set_option maxRecDepth 100000 in
/-- giveHandTo, 5, refused -/
theorem c_give5_bad (l : Launch) (D : va_G) (cI cZ cW : ClassId) (hx hh hr1 hs1 h hi ha n : Nat) (ah : Nat) (hcol : Nat → Nat) (hlen : Nat) (hl al : Nat) (wa ca : Nat → Nat) (col : Nat → Nat → Nat) (len : Nat → Nat) (sz : Nat) (aE aL aF aR aS : Nat) (σ : CS) (aU aN aT aG : Nat) (α : AS) (hn : n ≤ 3) (hl24 : hlen ≤ 24) (hsz : sz ≤ 5) (hB : BD σ) (hbad : hlen = 0 ∨ sz = 5) : CtI l yX5_giveHandTo cX5_giveHandTo 2 (some .int) 3 68 0 0 D cI cZ cW [.ref hx, .ref hl] (wW cI hh ah hcol hlen ++ (wL cI cW hl al 5 wa ca col len sz ++ (wS cI cZ h aE aL aF aR aS σ ++ (wA cI cZ ha h hs1 aU aN aT aG α)))) (wT0 hx hh hr1 hs1 h hi ha n) (S := WS × ((Nat → Nat → Nat) × (Nat → Nat) × Nat) × CS × AS) (fun r u => r = -1 ∧ u = ((hcol, hlen), (col, len, sz), σ, α)) (fun u => wW cI hh ah u.1.1 u.1.2 ++ (wL cI cW hl al 5 wa ca u.2.1.1 u.2.1.2.1 u.2.1.2.2 ++ (wS cI cZ h aE aL aF aR aS u.2.2.1 ++ wA cI cZ ha h hs1 aU aN aT aG u.2.2.2))) := by
  refine CtI.mk (by decide) (Nat.le_of_ble_eq_true rfl) ?_
  intro p e s m args below meth c A hc hr hlk hnm hro
  generalize hQ : MQ below _ args s 0 0 A = Q
  show V p l e (RM 3 68 0 0) s m args below meth c D A 2 0 0 Q (wW cI hh ah hcol hlen ++ (wL cI cW hl al 5 wa ca col len sz ++ (wS cI cZ h aE aL aF aR aS σ ++ (wA cI cZ ha h hs1 aU aN aT aG α)))) 0 [(0, .ref hx), (1, .ref hl)] []
  refine r_aload_n hc dX5_giveHandTo_0 rfl 0 rfl ?_
  refine r_getR hc inlX5 (hro _ (List.mem_of_getElem? (i := 0) rfl)) rfl 0 (by decide) fl_X5_12 rfl rfl dX5_giveHandTo_1 ?_
  refine r_getN hc inlX3 0 rfl rfl 1 (by decide) nf_X5_63 rfl rfl dX5_giveHandTo_4 ?_
  refine n_if_eq hc 17 dX5_giveHandTo_7 (by decide) (by omega) (fun h1 => ?_) (fun h1 => ?_)
  · refine r_iconst (v := (-1)) hc dX5_giveHandTo_17 rfl ?_
    rw [← hQ]
    exact r_iret hc hr hlk ((hcol, hlen), (col, len, sz), σ, α) (⟨rfl, rfl⟩) rfl dX5_giveHandTo_18
  · refine r_aload_n hc dX5_giveHandTo_10 rfl 1 rfl ?_
    refine r_callI (As := []) (n := 0) (wr := wW cI hh ah hcol hlen ++ (wL cI cW hl al 5 wa ca col len sz ++ (wS cI cZ h aE aL aF aR aS σ ++ (wA cI cZ ha h hs1 aU aN aT aG α)))) hc (c_isFull5 l D cI cZ cW hl al wa ca col len sz hsz) co_yX4_isFull in_X4 ml_X5_148 (by decide +kernel) rfl ⟨by decide, by decide⟩ ⟨by decide, by decide⟩ im_yX4_isFull se_yX4_isFull rfl (Or.inl ⟨2, _, rfl⟩) rfl (Nat.le_of_ble_eq_true rfl) [] [0, 1, 2, 3, 4, 5, 6, 7, 8, 9, 10, 11, 12, 13, 14, 15, 16, 17, 18, 19, 20, 21, 22, 23, 24] rfl rfl rfl rfl (by decide) (fun q hq => Or.inl ((List.getElem?_of_mem (List.mem_append_right _ (List.mem_append_left _ hq))).elim fun k hk => ⟨k, hk, List.not_mem_nil⟩)) dX5_giveHandTo_11 (fun r2 u3 e4 => ?_)
    subst e4
    refine z_if_eq hc 19 dX5_giveHandTo_14 (by decide) (fun h5 => ?_) (fun h5 => ?_)
    · simp at h5; omega
    · refine r_iconst (v := (-1)) hc dX5_giveHandTo_17 rfl ?_
      rw [← hQ]
      exact r_iret hc hr hlk ((hcol, hlen), (col, len, sz), σ, α) (⟨rfl, rfl⟩) rfl dX5_giveHandTo_18
