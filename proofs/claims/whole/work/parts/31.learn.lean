/-! the least name of a coset -/
def rlF (nw : Nat → Nat) (fu k : Nat) : Nat := match fu with | 0 => k | fu + 1 => if nw k = k then k else rlF nw fu (nw k)
def rep (nw : Nat → Nat) (k : Nat) : Nat := rlF nw k k
theorem rlF_fuel {nw : Nat → Nat} (hnw : ∀ i, nw i ≤ i) (n : Nat) : ∀ k, k ≤ n → ∀ fu, k ≤ fu → rlF nw fu k = rlF nw k k := by
  induction n with
  | zero =>
    intro k hk fu _
    obtain rfl : k = 0 := by omega
    have h0 : nw 0 = 0 := by have := hnw 0; omega
    cases fu with
    | zero => rfl
    | succ f => simp [rlF, h0]
  | succ n ih =>
    intro k hk fu hfu
    by_cases hf : nw k = k
    · cases fu with
      | zero => obtain rfl : k = 0 := by omega
                rfl
      | succ f =>
        rw [rlF, if_pos hf]
        cases k with
        | zero => rfl
        | succ k => rw [rlF, if_pos hf]
    · have hlt : nw k < k := by have := hnw k; omega
      obtain ⟨f, rfl⟩ : ∃ f, fu = f + 1 := ⟨fu - 1, by omega⟩
      obtain ⟨j, rfl⟩ : ∃ j, k = j + 1 := ⟨k - 1, by omega⟩
      rw [rlF, if_neg hf, rlF, if_neg hf, ih (nw (j + 1)) (by omega) f (by omega), ih (nw (j + 1)) (by omega) j (by omega)]
theorem rep_fix {nw : Nat → Nat} {k : Nat} (h : nw k = k) : rep nw k = k := by
  unfold rep
  cases k with
  | zero => rfl
  | succ k => rw [rlF, if_pos h]
theorem rep_step {nw : Nat → Nat} (hnw : ∀ i, nw i ≤ i) {k : Nat} (h : nw k ≠ k) : rep nw k = rep nw (nw k) := by
  have hlt : nw k < k := by have := hnw k; omega
  unfold rep
  obtain ⟨j, rfl⟩ : ∃ j, k = j + 1 := ⟨k - 1, by omega⟩
  rw [rlF, if_neg h, rlF_fuel hnw _ _ (Nat.le_refl _) j (by omega)]
theorem rep_le {nw : Nat → Nat} (hnw : ∀ i, nw i ≤ i) (k : Nat) : rep nw k ≤ k := by
  induction k using Nat.strongRecOn with
  | _ k ih =>
    by_cases h : nw k = k
    · rw [rep_fix h]; exact Nat.le_refl _
    · have := hnw k
      rw [rep_step hnw h]; have := ih (nw k) (by omega); omega
theorem rep_now {nw : Nat → Nat} (hnw : ∀ i, nw i ≤ i) (k : Nat) : nw (rep nw k) = rep nw k := by
  induction k using Nat.strongRecOn with
  | _ k ih =>
    by_cases h : nw k = k
    · rw [rep_fix h]; exact h
    · have := hnw k
      rw [rep_step hnw h]; exact ih (nw k) (by omega)
set_option maxHeartbeats 4000000 in
set_option maxRecDepth 100000 in
/-- reference: real(k) -/
theorem m_real (l : Launch) (D : va_G) (cI cZ cW : ClassId) (g gL gS gW gT gO gP gU gA gE gQ : Nat) (ρ : RS) (k : Nat) (hk : k < 200) (hnw : ∀ i, rNw ρ i ≤ i) (hB : BR ρ) : CtI l yX6_real cX6_real 3 (some .int) 0 0 0 0 D cI cZ cW [.ref g, .int (nI k)] ([]) (wR cI cZ g gL gS gW gT gO gP gU gA gE gQ ρ) (S := Unit) (fun r _ => r = nI (rep (rNw ρ) k)) (fun _ => []) := by
  refine CtI.mk (by decide) (Nat.le_of_ble_eq_true rfl) ?_
  intro p e s m args below meth c A hc hr hlk hnm hro
  generalize hQ : MQ below _ args s 0 0 A = Q
  have hB0 := hB
  obtain ⟨bn, bLe, bSz, bRe, bSu, bMd, bNw, bTb, bPr, bOn, bTw, bNu, bNa, bNd, bLo⟩ := hB
  show V p l e (RM 0 0 0 0) s m args below meth c D A 3 0 0 Q ([]) 0 [(0, .ref g), (1, .int (nI k))] []
  refine r_iload_n hc dX6_real_0 rfl 1 rfl ?_
  refine r_istore_n (lv' := [(2, .int (nI k)), (0, .ref g), (1, .int (nI k))]) hc dX6_real_1 rfl (by decide) rfl ?_
  have lp2 : ∀ (n : Nat) (k1 : Nat), k1 = n → (k1 ≤ k) → (rep (rNw ρ) k1 = rep (rNw ρ) k) → V p l e (RM 0 0 0 0) s m args below meth c D A 3 0 0 Q ([]) 2 [(2, .int (nI k1)), (0, .ref g), (1, .int (nI k))] [] := by
    intro n
    induction n using Nat.strongRecOn with
    | _ n ih2 =>
    intro k1 hm2 hk1 hrp
    refine r_aload_n hc dX6_real_2 rfl 1 rfl ?_
    refine r_getR hc inlX6 (hro _ (List.mem_of_getElem? (i := 0) rfl)) rfl 6 (by decide) fl_X6_16 rfl rfl dX6_real_3 ?_
    refine r_iload_n hc dX6_real_6 rfl 0 rfl ?_
    have b1 := bNw k1
    refine r_ialdR hc nI (hro _ (List.mem_of_getElem? (i := 3) rfl)) (by omega) (by decide) dX6_real_7 ?_
    refine r_iload_n hc dX6_real_8 rfl 0 rfl ?_
    refine n_icmp_eq hc 22 dX6_real_9 (by decide) (by omega) (by omega) (fun h2 => ?_) (fun h2 => ?_)
    · refine r_iload_n hc dX6_real_22 rfl 0 rfl ?_
      rw [← hQ]
      exact r_iret hc hr hlk () (by rw [← hrp, rep_fix h2]) rfl dX6_real_23
    · refine r_aload_n hc dX6_real_12 rfl 1 rfl ?_
      refine r_getR hc inlX6 (hro _ (List.mem_of_getElem? (i := 0) rfl)) rfl 6 (by decide) fl_X6_16 rfl rfl dX6_real_13 ?_
      refine r_iload_n hc dX6_real_16 rfl 0 rfl ?_
      have b3 := bNw k1
      refine r_ialdR hc nI (hro _ (List.mem_of_getElem? (i := 3) rfl)) (by omega) (by decide) dX6_real_17 ?_
      refine r_istore_n (lv' := [(2, .int (nI ((rNw ρ) k1))), (0, .ref g), (1, .int (nI k))]) hc dX6_real_18 rfl (by decide) rfl ?_
      refine r_goto hc 2 dX6_real_19 (by decide) ?_
      refine r_lv [0, 1, 2] rfl ?_
      exact ih2 _ (by have := hnw k1; omega) (rNw ρ k1) rfl (by have := hnw k1; omega) (by rw [← hrp]; exact (rep_step hnw (fun q => h2 q)).symm)
  refine r_lv [0, 1, 2] rfl ?_
  exact lp2 _ k rfl (Nat.le_refl _) rfl
def gPair (ρ : RS) (a b : Nat) : RS := (rN ρ, rLe ρ, rSz ρ, rRe ρ, rSu ρ, rMd ρ, rNw ρ, rTb ρ, rCh ρ, rPr ρ + 1, va_up (rOn ρ) (rPr ρ) a, va_up (rTw ρ) (rPr ρ) b, rNu ρ, rNa ρ, rNd ρ, rSe ρ, rLo ρ)
set_option maxHeartbeats 4000000 in
set_option maxRecDepth 100000 in
/-- reference: pair(a, b) -/
theorem m_pair (l : Launch) (D : va_G) (cI cZ cW : ClassId) (g gL gS gW gT gO gP gU gA gE gQ : Nat) (ρ : RS) (a b : Nat) (hp : rPr ρ < 8000) (hB : BR ρ) : CtV l yX6_pair cX6_pair 3 none 0 0 0 0 D cI cZ cW [.ref g, .int (nI a), .int (nI b)] (wR cI cZ g gL gS gW gT gO gP gU gA gE gQ ρ) ([]) (S := RS) (fun u => u = gPair ρ a b) (fun u => wR cI cZ g gL gS gW gT gO gP gU gA gE gQ u) := by
  refine CtV.mk (by decide) (Nat.le_of_ble_eq_true rfl) ?_
  intro p e s m args below meth c A hc hr hlk hnm hro
  generalize hQ : MQ below _ args s 0 0 A = Q
  have hB0 := hB
  obtain ⟨bn, bLe, bSz, bRe, bSu, bMd, bNw, bTb, bPr, bOn, bTw, bNu, bNa, bNd, bLo⟩ := hB
  show V p l e (RM 0 0 0 0) s m args below meth c D A 3 0 0 Q (wR cI cZ g gL gS gW gT gO gP gU gA gE gQ ρ) 0 [(0, .ref g), (1, .int (nI a)), (2, .int (nI b))] []
  refine r_aload_n hc dX6_pair_0 rfl 0 rfl ?_
  refine r_get hc inlX6 0 rfl rfl 10 (by decide) fl_X6_22 rfl rfl dX6_pair_1 ?_
  refine r_aload_n hc dX6_pair_4 rfl 0 rfl ?_
  refine r_get hc inlX6 0 rfl rfl 9 (by decide) fl_X6_72 rfl rfl dX6_pair_5 ?_
  refine r_iload_n hc dX6_pair_8 rfl 1 rfl ?_
  refine r_iast (ws' := wY cI cZ g gL gS gW gT gO gP gU gA gE gQ (rN ρ) (rLe ρ) (rSz ρ) (rRe ρ) (rSu ρ) (rMd ρ) (rNw ρ) (rTb ρ) (rCh ρ) (rPr ρ) (va_up (rOn ρ) (rPr ρ) a) (rTw ρ) (rNu ρ) (rNa ρ) (rNd ρ) (rSe ρ) (rLo ρ)) hc nI a 5 rfl (by omega) (by decide) rfl dX6_pair_9 ?_
  refine r_aload_n hc dX6_pair_10 rfl 0 rfl ?_
  refine r_get hc inlX6 0 rfl rfl 11 (by decide) fl_X6_25 rfl rfl dX6_pair_11 ?_
  refine r_aload_n hc dX6_pair_14 rfl 0 rfl ?_
  refine r_get hc inlX6 0 rfl rfl 9 (by decide) fl_X6_72 rfl rfl dX6_pair_15 ?_
  refine r_iload_n hc dX6_pair_18 rfl 2 rfl ?_
  refine r_iast (ws' := wY cI cZ g gL gS gW gT gO gP gU gA gE gQ (rN ρ) (rLe ρ) (rSz ρ) (rRe ρ) (rSu ρ) (rMd ρ) (rNw ρ) (rTb ρ) (rCh ρ) (rPr ρ) (va_up (rOn ρ) (rPr ρ) a) (va_up (rTw ρ) (rPr ρ) b) (rNu ρ) (rNa ρ) (rNd ρ) (rSe ρ) (rLo ρ)) hc nI b 6 rfl (by omega) (by decide) rfl dX6_pair_19 ?_
  refine r_aload_n hc dX6_pair_20 rfl 0 rfl ?_
  refine r_dup hc dX6_pair_21 rfl ?_
  refine r_get hc inlX6 0 rfl rfl 9 (by decide) fl_X6_72 rfl rfl dX6_pair_22 ?_
  refine r_iconst (v := (nI 1)) hc dX6_pair_25 rfl ?_
  refine n_add hc dX6_pair_26 ?_
  refine r_put (ws' := wY cI cZ g gL gS gW gT gO gP gU gA gE gQ (rN ρ) (rLe ρ) (rSz ρ) (rRe ρ) (rSu ρ) (rMd ρ) (rNw ρ) (rTb ρ) (rCh ρ) ((rPr ρ) + 1) (va_up (rOn ρ) (rPr ρ) a) (va_up (rTw ρ) (rPr ρ) b) (rNu ρ) (rNa ρ) (rNd ρ) (rSe ρ) (rLo ρ)) hc inlX6 tyX6 tyX6_ok nmX6 0 rfl rfl 9 (by decide) fl_X6_72 rfl rfl rfl rfl (Nat.le_of_ble_eq_true rfl) rfl dX6_pair_27 ?_
  rw [← hQ]
  exact r_vret hc hr hlk (gPair ρ a b) (rfl) rfl dX6_pair_30
def gSet (ρ : RS) (i d : Nat) : RS := (rN ρ, rLe ρ, rSz ρ, rRe ρ, rSu ρ, rMd ρ, rNw ρ, va_up (rTb ρ) i (some d), true, rPr ρ, rOn ρ, rTw ρ, rNu ρ, rNa ρ, rNd ρ, rSe ρ, rLo ρ)
def gHalf (ρ : RS) (c x d : Nat) : RS := match rTb ρ (6 * c + x) with | none => gSet ρ (6 * c + x) d | some a => if rep (rNw ρ) a = d then ρ else gPair ρ a d
def gLearn (ρ : RS) (c0 x d0 : Nat) : RS := gHalf (gHalf ρ (rep (rNw ρ) c0) x (rep (rNw ρ) d0)) (rep (rNw ρ) d0) (x ^^^ 1) (rep (rNw ρ) c0)
theorem BR.set {ρ : RS} {i d : Nat} (h : BR ρ) (hd : d < 200) : BR (gSet ρ i d) := by
  obtain ⟨a1, a2, a3, a4, a5, a6, a7, a8, a9⟩ := h
  exact ⟨a1, a2, a3, a4, a5, a6, a7, fun j e q => up_some a8 (fun z hz => by cases hz; exact hd) q, a9⟩
theorem up_lt {f : Nat → Nat} {k v i B : Nat} (hf : ∀ i, f i < B) (hv : v < B) : va_up f k v i < B := by
  simp only [va_up]; split
  · exact hv
  · exact hf i
theorem BR.pair {ρ : RS} {a b : Nat} (h : BR ρ) (ha : a < 200) (hb : b < 200) (hp : rPr ρ < 8000) : BR (gPair ρ a b) := by
  obtain ⟨a1, a2, a3, a4, a5, a6, a7, a8, a9, a10, a11, a12⟩ := h
  exact ⟨a1, a2, a3, a4, a5, a6, a7, a8, by show rPr ρ + 1 ≤ 8000; omega, fun i => up_lt a10 ha, fun i => up_lt a11 hb, a12⟩
theorem BR.half {ρ : RS} {c x d : Nat} (h : BR ρ) (hd : d < 200) (hp : rPr ρ < 8000) : BR (gHalf ρ c x d) ∧ rNw (gHalf ρ c x d) = rNw ρ ∧ rPr (gHalf ρ c x d) ≤ rPr ρ + 1 := by
  unfold gHalf
  cases e : rTb ρ (6 * c + x) with
  | none => exact ⟨h.set hd, rfl, Nat.le_add_right _ _⟩
  | some a =>
    show BR (if _ then ρ else gPair ρ a d) ∧ rNw (if _ then ρ else gPair ρ a d) = rNw ρ ∧ rPr (if _ then ρ else gPair ρ a d) ≤ _
    split
    · exact ⟨h, rfl, Nat.le_add_right _ _⟩
    · exact ⟨h.pair (h.2.2.2.2.2.2.2.1 _ _ e) hd hp, rfl, Nat.le_refl _⟩
theorem r_weq {p : Program} {l : Launch} {e : Env} {R : Room} {s : State} {m : MethodId} {args : Array Value} {below : List Frame} {meth : Method} {c : Code} {D : va_G} {A : Nat → Prop} {nL cells slots : Nat} {Q : State → Prop} {ws ws' : va_W} {pc : Nat} {lv : List (Nat × Value)} {st : List Value} (h : ws = ws') (kk : V p l e R s m args below meth c D A nL cells slots Q ws' pc lv st) : V p l e R s m args below meth c D A nL cells slots Q ws pc lv st := h ▸ kk
set_option maxHeartbeats 4000000 in
set_option maxRecDepth 100000 in
/-- reference: learn(c0, x, d0) -/
theorem m_learn (l : Launch) (D : va_G) (cI cZ cW : ClassId) (g gL gS gW gT gO gP gU gA gE gQ : Nat) (ρ : RS) (c0 x d0 : Nat) (hc0 : c0 < 200) (hx : x < 6) (hd0 : d0 < 200) (hnw : ∀ i, rNw ρ i ≤ i) (hp : rPr ρ + 2 ≤ 8000) (hB : BR ρ) : CtV l yX6_learn cX6_learn 9 none 1 22 0 0 D cI cZ cW [.ref g, .int (nI c0), .int (nI x), .int (nI d0)] (wR cI cZ g gL gS gW gT gO gP gU gA gE gQ ρ) ([]) (S := RS) (fun u => u = gLearn ρ c0 x d0) (fun u => wR cI cZ g gL gS gW gT gO gP gU gA gE gQ u) := by
  refine CtV.mk (by decide) (Nat.le_of_ble_eq_true rfl) ?_
  intro p e s m args below meth c A hc hr hlk hnm hro
  generalize hQ : MQ below _ args s 0 0 A = Q
  have hB0 := hB
  obtain ⟨bn, bLe, bSz, bRe, bSu, bMd, bNw, bTb, bPr, bOn, bTw, bNu, bNa, bNd, bLo⟩ := hB
  have hx1 := xor1_lt hx
  show V p l e (RM 1 22 0 0) s m args below meth c D A 9 0 0 Q (wR cI cZ g gL gS gW gT gO gP gU gA gE gQ ρ) 0 [(0, .ref g), (1, .int (nI c0)), (2, .int (nI x)), (3, .int (nI d0))] []
  refine r_aload_n hc dX6_learn_0 rfl 0 rfl ?_
  refine r_iload_n hc dX6_learn_1 rfl 1 rfl ?_
  refine r_callI (As := [.int (nI c0)]) (n := 1) (wr := wR cI cZ g gL gS gW gT gO gP gU gA gE gQ ρ) hc (m_real l D cI cZ cW g gL gS gW gT gO gP gU gA gE gQ ρ c0 hc0 hnw hB0) co_yX6_real in_X6 ml_X6_75 (by decide +kernel) rfl ⟨by decide, by decide⟩ ⟨by decide, by decide⟩ im_yX6_real se_yX6_real rfl (Or.inl ⟨0, _, rfl⟩) rfl (Nat.le_of_ble_eq_true rfl) [] [0, 1, 2, 3, 4, 5, 6, 7, 8, 9, 10] rfl rfl rfl rfl (by decide) (fun q hq => Or.inl ((List.getElem?_of_mem hq).elim fun k hk => ⟨k, hk, List.not_mem_nil⟩)) dX6_learn_2 (fun r1 u2 e3 => ?_)
  subst e3
  show V p l e (RM 1 22 0 0) s m args below meth c D A 9 0 0 Q (wR cI cZ g gL gS gW gT gO gP gU gA gE gQ ρ) 5 [(0, .ref g), (1, .int (nI c0)), (2, .int (nI x)), (3, .int (nI d0))] [.int (nI (rep (rNw ρ) c0))]
  have hbc0 := Nat.lt_of_le_of_lt (rep_le hnw c0) hc0
  refine r_istore (lv' := [(4, .int (nI (rep (rNw ρ) c0))), (0, .ref g), (1, .int (nI c0)), (2, .int (nI x)), (3, .int (nI d0))]) hc dX6_learn_5 (by decide) rfl ?_
  refine r_aload_n hc dX6_learn_7 rfl 1 rfl ?_
  refine r_iload_n hc dX6_learn_8 rfl 4 rfl ?_
  refine r_callI (As := [.int (nI d0)]) (n := 1) (wr := wR cI cZ g gL gS gW gT gO gP gU gA gE gQ ρ) hc (m_real l D cI cZ cW g gL gS gW gT gO gP gU gA gE gQ ρ d0 hd0 hnw hB0) co_yX6_real in_X6 ml_X6_75 (by decide +kernel) rfl ⟨by decide, by decide⟩ ⟨by decide, by decide⟩ im_yX6_real se_yX6_real rfl (Or.inl ⟨0, _, rfl⟩) rfl (Nat.le_of_ble_eq_true rfl) [] [0, 1, 2, 3, 4, 5, 6, 7, 8, 9, 10] rfl rfl rfl rfl (by decide) (fun q hq => Or.inl ((List.getElem?_of_mem hq).elim fun k hk => ⟨k, hk, List.not_mem_nil⟩)) dX6_learn_9 (fun r4 u5 e6 => ?_)
  subst e6
  show V p l e (RM 1 22 0 0) s m args below meth c D A 9 0 0 Q (wR cI cZ g gL gS gW gT gO gP gU gA gE gQ ρ) 12 [(4, .int (nI (rep (rNw ρ) c0))), (0, .ref g), (1, .int (nI c0)), (2, .int (nI x)), (3, .int (nI d0))] [.int (nI (rep (rNw ρ) d0))]
  have hbd0 := Nat.lt_of_le_of_lt (rep_le hnw d0) hd0
  refine r_istore (lv' := [(5, .int (nI (rep (rNw ρ) d0))), (4, .int (nI (rep (rNw ρ) c0))), (0, .ref g), (1, .int (nI c0)), (2, .int (nI x)), (3, .int (nI d0))]) hc dX6_learn_12 (by decide) rfl ?_
  refine r_aload_n hc dX6_learn_14 rfl 2 rfl ?_
  refine r_get hc inlX6 0 rfl rfl 7 (by decide) fl_X6_19 rfl rfl dX6_learn_15 ?_
  refine r_bipush (v := (nI 6)) hc dX6_learn_18 rfl ?_
  refine r_iload hc dX6_learn_20 1 rfl ?_
  refine n_mul hc dX6_learn_22 ?_
  refine r_iload_n hc dX6_learn_23 rfl 4 rfl ?_
  refine n_add hc dX6_learn_24 ?_
  refine r_iald hc eI 4 rfl (by omega) (by decide) dX6_learn_25 ?_
  refine r_istore (lv' := [(6, .int (eI ((rTb ρ) ((6 * (rep (rNw ρ) c0)) + x)))), (5, .int (nI (rep (rNw ρ) d0))), (4, .int (nI (rep (rNw ρ) c0))), (0, .ref g), (1, .int (nI c0)), (2, .int (nI x)), (3, .int (nI d0))]) hc dX6_learn_26 (by decide) rfl ?_
  refine r_iload hc dX6_learn_28 0 rfl ?_
  refine e_if_ge hc 55 dX6_learn_30 (by decide) (fun d h => Nat.lt_trans (bTb _ d h) (by decide)) (fun d8 h7 => ?_) (fun h7 => ?_)
  · rw [h7]
    show V _ _ _ _ _ _ _ _ _ _ _ _ _ _ _ _ _ _ [(6, .int (nI d8)), (5, .int (nI (rep (rNw ρ) d0))), (4, .int (nI (rep (rNw ρ) c0))), (0, .ref g), (1, .int (nI c0)), (2, .int (nI x)), (3, .int (nI d0))] []
    refine r_aload_n hc dX6_learn_55 rfl 3 rfl ?_
    refine r_iload hc dX6_learn_56 0 rfl ?_
    refine r_callI (As := [.int (nI d8)]) (n := 1) (wr := wR cI cZ g gL gS gW gT gO gP gU gA gE gQ ρ) hc (m_real l D cI cZ cW g gL gS gW gT gO gP gU gA gE gQ ρ d8 (bTb _ _ h7) hnw hB0) co_yX6_real in_X6 ml_X6_75 (by decide +kernel) rfl ⟨by decide, by decide⟩ ⟨by decide, by decide⟩ im_yX6_real se_yX6_real rfl (Or.inl ⟨0, _, rfl⟩) rfl (Nat.le_of_ble_eq_true rfl) [] [0, 1, 2, 3, 4, 5, 6, 7, 8, 9, 10] rfl rfl rfl rfl (by decide) (fun q hq => Or.inl ((List.getElem?_of_mem hq).elim fun k hk => ⟨k, hk, List.not_mem_nil⟩)) dX6_learn_58 (fun r9 u10 e11 => ?_)
    subst e11
    show V p l e (RM 1 22 0 0) s m args below meth c D A 9 0 0 Q (wR cI cZ g gL gS gW gT gO gP gU gA gE gQ ρ) 61 [(6, .int (nI d8)), (5, .int (nI (rep (rNw ρ) d0))), (4, .int (nI (rep (rNw ρ) c0))), (0, .ref g), (1, .int (nI c0)), (2, .int (nI x)), (3, .int (nI d0))] [.int (nI (rep (rNw ρ) d8))]
    have z12 := Nat.lt_of_le_of_lt (rep_le hnw d8) (bTb _ _ h7)
    refine r_iload hc dX6_learn_61 1 rfl ?_
    refine n_icmp_eq hc 74 dX6_learn_63 (by decide) (by omega) (by omega) (fun h13 => ?_) (fun h13 => ?_)
    · refine r_lv [3, 5, 2, 1] rfl ?_
      have hH : ρ = gHalf ρ (rep (rNw ρ) c0) x (rep (rNw ρ) d0) := by unfold gHalf; rw [h7]; exact (if_pos h13).symm
      obtain ⟨τ, hτ⟩ : ∃ q, q = gHalf ρ (rep (rNw ρ) c0) x (rep (rNw ρ) d0) := ⟨_, rfl⟩
      rw [← hτ] at hH
      clear hτ
      refine r_weq (ws' := wR cI cZ g gL gS gW gT gO gP gU gA gE gQ τ) (congrArg (wR cI cZ g gL gS gW gT gO gP gU gA gE gQ) hH) ?_
      have hτ : τ = gHalf ρ (rep (rNw ρ) c0) x (rep (rNw ρ) d0) := by rw [← hH]; unfold gHalf; rw [h7]; exact (if_pos h13).symm
      obtain ⟨hBτ, hnτ, hpτ⟩ : BR τ ∧ rNw τ = rNw ρ ∧ rPr τ ≤ rPr ρ + 1 := by rw [hτ]; exact hB0.half hbd0 (by omega)
      have hnwτ : ∀ i, rNw τ i ≤ i := by rw [hnτ]; exact hnw
      obtain ⟨tn, tLe, tSz, tRe, tSu, tMd, tNw, tTb, tPr, tRest⟩ := id hBτ
      refine r_iload_n hc dX6_learn_74 rfl 1 rfl ?_
      refine r_iconst (v := (nI 1)) hc dX6_learn_75 rfl ?_
      refine n_xor hc dX6_learn_76 ?_
      refine r_istore (lv' := [(7, .int (nI (x ^^^ 1))), (0, .ref g), (2, .int (nI x)), (4, .int (nI (rep (rNw ρ) c0))), (5, .int (nI (rep (rNw ρ) d0)))]) hc dX6_learn_77 (by decide) rfl ?_
      refine r_aload_n hc dX6_learn_79 rfl 1 rfl ?_
      refine r_get hc inlX6 0 rfl rfl 7 (by decide) fl_X6_19 rfl rfl dX6_learn_80 ?_
      refine r_bipush (v := (nI 6)) hc dX6_learn_83 rfl ?_
      refine r_iload hc dX6_learn_85 4 rfl ?_
      refine n_mul hc dX6_learn_87 ?_
      refine r_iload hc dX6_learn_88 0 rfl ?_
      refine n_add hc dX6_learn_90 ?_
      refine r_iald hc eI 4 rfl (by omega) (by decide) dX6_learn_91 ?_
      refine r_istore (lv' := [(8, .int (eI ((rTb τ) ((6 * (rep (rNw ρ) d0)) + (x ^^^ 1))))), (7, .int (nI (x ^^^ 1))), (0, .ref g), (2, .int (nI x)), (4, .int (nI (rep (rNw ρ) c0))), (5, .int (nI (rep (rNw ρ) d0)))]) hc dX6_learn_92 (by decide) rfl ?_
      refine r_iload hc dX6_learn_94 0 rfl ?_
      refine e_if_ge hc 122 dX6_learn_96 (by decide) (fun d h => Nat.lt_trans (tTb _ d h) (by decide)) (fun d15 h14 => ?_) (fun h14 => ?_)
      · rw [h14]
        show V _ _ _ _ _ _ _ _ _ _ _ _ _ _ _ _ _ _ [(8, .int (nI d15)), (7, .int (nI (x ^^^ 1))), (0, .ref g), (2, .int (nI x)), (4, .int (nI (rep (rNw ρ) c0))), (5, .int (nI (rep (rNw ρ) d0)))] []
        refine r_aload_n hc dX6_learn_122 rfl 2 rfl ?_
        refine r_iload hc dX6_learn_123 0 rfl ?_
        refine r_callI (As := [.int (nI d15)]) (n := 1) (wr := wR cI cZ g gL gS gW gT gO gP gU gA gE gQ τ) hc (m_real l D cI cZ cW g gL gS gW gT gO gP gU gA gE gQ τ d15 (tTb _ _ h14) hnwτ hBτ) co_yX6_real in_X6 ml_X6_75 (by decide +kernel) rfl ⟨by decide, by decide⟩ ⟨by decide, by decide⟩ im_yX6_real se_yX6_real rfl (Or.inl ⟨0, _, rfl⟩) rfl (Nat.le_of_ble_eq_true rfl) [] [0, 1, 2, 3, 4, 5, 6, 7, 8, 9, 10] rfl rfl rfl rfl (by decide) (fun q hq => Or.inl ((List.getElem?_of_mem hq).elim fun k hk => ⟨k, hk, List.not_mem_nil⟩)) dX6_learn_125 (fun r16 u17 e18 => ?_)
        subst e18
        show V p l e (RM 1 22 0 0) s m args below meth c D A 9 0 0 Q (wR cI cZ g gL gS gW gT gO gP gU gA gE gQ τ) 128 [(8, .int (nI d15)), (7, .int (nI (x ^^^ 1))), (0, .ref g), (2, .int (nI x)), (4, .int (nI (rep (rNw ρ) c0))), (5, .int (nI (rep (rNw ρ) d0)))] [.int (nI (rep (rNw τ) d15))]
        have z19 := Nat.lt_of_le_of_lt (rep_le hnwτ d15) (tTb _ _ h14)
        refine r_iload hc dX6_learn_128 4 rfl ?_
        refine n_icmp_eq hc 141 dX6_learn_130 (by decide) (by omega) (by omega) (fun h20 => ?_) (fun h20 => ?_)
        · have hH : τ = gHalf τ (rep (rNw ρ) d0) (x ^^^ 1) (rep (rNw ρ) c0) := by unfold gHalf; rw [h14]; exact (if_pos h20).symm
          rw [← hQ]
          exact r_vret hc hr hlk τ (by rw [gLearn, ← hτ]; exact hH) rfl dX6_learn_141
        · refine r_aload_n hc dX6_learn_133 rfl 2 rfl ?_
          refine r_iload hc dX6_learn_134 0 rfl ?_
          refine r_iload hc dX6_learn_136 4 rfl ?_
          refine r_callV (As := [.int (nI d15), .int (nI (rep (rNw ρ) c0))]) (n := 2) (wr := []) hc (m_pair l D cI cZ cW g gL gS gW gT gO gP gU gA gE gQ τ d15 (rep (rNw ρ) c0) (by omega) hBτ) co_yX6_pair in_X6 ml_X6_82 (by decide +kernel) rfl ⟨by decide, by decide⟩ ⟨by decide, by decide⟩ im_yX6_pair se_yX6_pair rfl (Or.inl ⟨0, _, rfl⟩) rfl (Nat.le_of_ble_eq_true rfl) [0, 1, 2, 3, 4, 5, 6, 7, 8, 9, 10] [] rfl rfl rfl rfl (by decide) (fun q hq => absurd hq List.not_mem_nil) dX6_learn_138 (fun u2 e21 => ?_)
          show V p l e (RM 1 22 0 0) s m args below meth c D A 9 0 0 Q (wR cI cZ g gL gS gW gT gO gP gU gA gE gQ u2) 141 [(8, .int (nI d15)), (7, .int (nI (x ^^^ 1))), (0, .ref g), (2, .int (nI x)), (4, .int (nI (rep (rNw ρ) c0))), (5, .int (nI (rep (rNw ρ) d0)))] []
          have hH : u2 = gHalf τ (rep (rNw ρ) d0) (x ^^^ 1) (rep (rNw ρ) c0) := by rw [e21]; unfold gHalf; rw [h14]; exact (if_neg (fun q => h20 q)).symm
          rw [← hQ]
          exact r_vret hc hr hlk u2 (by rw [gLearn, ← hτ]; exact hH) rfl dX6_learn_141
      · refine r_aload_n hc dX6_learn_99 rfl 2 rfl ?_
        refine r_get hc inlX6 0 rfl rfl 7 (by decide) fl_X6_19 rfl rfl dX6_learn_100 ?_
        refine r_bipush (v := (nI 6)) hc dX6_learn_103 rfl ?_
        refine r_iload hc dX6_learn_105 5 rfl ?_
        refine n_mul hc dX6_learn_107 ?_
        refine r_iload hc dX6_learn_108 1 rfl ?_
        refine n_add hc dX6_learn_110 ?_
        refine r_iload hc dX6_learn_111 4 rfl ?_
        refine r_iast (ws' := wY cI cZ g gL gS gW gT gO gP gU gA gE gQ (rN τ) (rLe τ) (rSz τ) (rRe τ) (rSu τ) (rMd τ) (rNw τ) (va_up (rTb τ) ((6 * (rep (rNw ρ) d0)) + (x ^^^ 1)) (some (rep (rNw ρ) c0))) (rCh τ) (rPr τ) (rOn τ) (rTw τ) (rNu τ) (rNa τ) (rNd τ) (rSe τ) (rLo τ)) hc eI (some (rep (rNw ρ) c0)) 4 rfl (by omega) (by decide) rfl dX6_learn_113 ?_
        refine r_aload_n hc dX6_learn_114 rfl 2 rfl ?_
        refine r_iconst (v := (nI 1)) hc dX6_learn_115 rfl ?_
        refine r_put (ws' := wY cI cZ g gL gS gW gT gO gP gU gA gE gQ (rN τ) (rLe τ) (rSz τ) (rRe τ) (rSu τ) (rMd τ) (rNw τ) (va_up (rTb τ) ((6 * (rep (rNw ρ) d0)) + (x ^^^ 1)) (some (rep (rNw ρ) c0))) true (rPr τ) (rOn τ) (rTw τ) (rNu τ) (rNa τ) (rNd τ) (rSe τ) (rLo τ)) hc inlX6 tyX6 tyX6_ok nmX6 0 rfl rfl 8 (by decide) fl_X6_78 rfl rfl rfl rfl (Nat.le_of_ble_eq_true rfl) rfl dX6_learn_116 ?_
        refine r_goto hc 141 dX6_learn_119 (by decide) ?_
        have hH : gSet τ (6 * (rep (rNw ρ) d0) + (x ^^^ 1)) (rep (rNw ρ) c0) = gHalf τ (rep (rNw ρ) d0) (x ^^^ 1) (rep (rNw ρ) c0) := by unfold gHalf; rw [h14]
        show V p l e (RM 1 22 0 0) s m args below meth c D A 9 0 0 Q (wR cI cZ g gL gS gW gT gO gP gU gA gE gQ (gSet τ (6 * (rep (rNw ρ) d0) + (x ^^^ 1)) (rep (rNw ρ) c0))) 141 [(8, .int (eI ((rTb τ) ((6 * (rep (rNw ρ) d0)) + (x ^^^ 1))))), (7, .int (nI (x ^^^ 1))), (0, .ref g), (2, .int (nI x)), (4, .int (nI (rep (rNw ρ) c0))), (5, .int (nI (rep (rNw ρ) d0)))] []
        rw [← hQ]
        exact r_vret hc hr hlk (gSet τ (6 * (rep (rNw ρ) d0) + (x ^^^ 1)) (rep (rNw ρ) c0)) (by rw [gLearn, ← hτ]; exact hH) rfl dX6_learn_141
    · refine r_aload_n hc dX6_learn_66 rfl 3 rfl ?_
      refine r_iload hc dX6_learn_67 0 rfl ?_
      refine r_iload hc dX6_learn_69 1 rfl ?_
      refine r_callV (As := [.int (nI d8), .int (nI (rep (rNw ρ) d0))]) (n := 2) (wr := []) hc (m_pair l D cI cZ cW g gL gS gW gT gO gP gU gA gE gQ ρ d8 (rep (rNw ρ) d0) (by omega) hB0) co_yX6_pair in_X6 ml_X6_82 (by decide +kernel) rfl ⟨by decide, by decide⟩ ⟨by decide, by decide⟩ im_yX6_pair se_yX6_pair rfl (Or.inl ⟨0, _, rfl⟩) rfl (Nat.le_of_ble_eq_true rfl) [0, 1, 2, 3, 4, 5, 6, 7, 8, 9, 10] [] rfl rfl rfl rfl (by decide) (fun q hq => absurd hq List.not_mem_nil) dX6_learn_71 (fun u1 e22 => ?_)
      show V p l e (RM 1 22 0 0) s m args below meth c D A 9 0 0 Q (wR cI cZ g gL gS gW gT gO gP gU gA gE gQ u1) 74 [(6, .int (nI d8)), (5, .int (nI (rep (rNw ρ) d0))), (4, .int (nI (rep (rNw ρ) c0))), (0, .ref g), (1, .int (nI c0)), (2, .int (nI x)), (3, .int (nI d0))] []
      refine r_lv [3, 5, 2, 1] rfl ?_
      have hH : u1 = gHalf ρ (rep (rNw ρ) c0) x (rep (rNw ρ) d0) := by rw [e22]; unfold gHalf; rw [h7]; exact (if_neg (fun q => h13 q)).symm
      obtain ⟨τ, hτ⟩ : ∃ q, q = gHalf ρ (rep (rNw ρ) c0) x (rep (rNw ρ) d0) := ⟨_, rfl⟩
      rw [hH, ← hτ]
      obtain ⟨hBτ, hnτ, hpτ⟩ : BR τ ∧ rNw τ = rNw ρ ∧ rPr τ ≤ rPr ρ + 1 := by rw [hτ]; exact hB0.half hbd0 (by omega)
      have hnwτ : ∀ i, rNw τ i ≤ i := by rw [hnτ]; exact hnw
      obtain ⟨tn, tLe, tSz, tRe, tSu, tMd, tNw, tTb, tPr, tRest⟩ := id hBτ
      refine r_iload_n hc dX6_learn_74 rfl 1 rfl ?_
      refine r_iconst (v := (nI 1)) hc dX6_learn_75 rfl ?_
      refine n_xor hc dX6_learn_76 ?_
      refine r_istore (lv' := [(7, .int (nI (x ^^^ 1))), (0, .ref g), (2, .int (nI x)), (4, .int (nI (rep (rNw ρ) c0))), (5, .int (nI (rep (rNw ρ) d0)))]) hc dX6_learn_77 (by decide) rfl ?_
      refine r_aload_n hc dX6_learn_79 rfl 1 rfl ?_
      refine r_get hc inlX6 0 rfl rfl 7 (by decide) fl_X6_19 rfl rfl dX6_learn_80 ?_
      refine r_bipush (v := (nI 6)) hc dX6_learn_83 rfl ?_
      refine r_iload hc dX6_learn_85 4 rfl ?_
      refine n_mul hc dX6_learn_87 ?_
      refine r_iload hc dX6_learn_88 0 rfl ?_
      refine n_add hc dX6_learn_90 ?_
      refine r_iald hc eI 4 rfl (by omega) (by decide) dX6_learn_91 ?_
      refine r_istore (lv' := [(8, .int (eI ((rTb τ) ((6 * (rep (rNw ρ) d0)) + (x ^^^ 1))))), (7, .int (nI (x ^^^ 1))), (0, .ref g), (2, .int (nI x)), (4, .int (nI (rep (rNw ρ) c0))), (5, .int (nI (rep (rNw ρ) d0)))]) hc dX6_learn_92 (by decide) rfl ?_
      refine r_iload hc dX6_learn_94 0 rfl ?_
      refine e_if_ge hc 122 dX6_learn_96 (by decide) (fun d h => Nat.lt_trans (tTb _ d h) (by decide)) (fun d24 h23 => ?_) (fun h23 => ?_)
      · rw [h23]
        show V _ _ _ _ _ _ _ _ _ _ _ _ _ _ _ _ _ _ [(8, .int (nI d24)), (7, .int (nI (x ^^^ 1))), (0, .ref g), (2, .int (nI x)), (4, .int (nI (rep (rNw ρ) c0))), (5, .int (nI (rep (rNw ρ) d0)))] []
        refine r_aload_n hc dX6_learn_122 rfl 2 rfl ?_
        refine r_iload hc dX6_learn_123 0 rfl ?_
        refine r_callI (As := [.int (nI d24)]) (n := 1) (wr := wR cI cZ g gL gS gW gT gO gP gU gA gE gQ τ) hc (m_real l D cI cZ cW g gL gS gW gT gO gP gU gA gE gQ τ d24 (tTb _ _ h23) hnwτ hBτ) co_yX6_real in_X6 ml_X6_75 (by decide +kernel) rfl ⟨by decide, by decide⟩ ⟨by decide, by decide⟩ im_yX6_real se_yX6_real rfl (Or.inl ⟨0, _, rfl⟩) rfl (Nat.le_of_ble_eq_true rfl) [] [0, 1, 2, 3, 4, 5, 6, 7, 8, 9, 10] rfl rfl rfl rfl (by decide) (fun q hq => Or.inl ((List.getElem?_of_mem hq).elim fun k hk => ⟨k, hk, List.not_mem_nil⟩)) dX6_learn_125 (fun r25 u26 e27 => ?_)
        subst e27
        show V p l e (RM 1 22 0 0) s m args below meth c D A 9 0 0 Q (wR cI cZ g gL gS gW gT gO gP gU gA gE gQ τ) 128 [(8, .int (nI d24)), (7, .int (nI (x ^^^ 1))), (0, .ref g), (2, .int (nI x)), (4, .int (nI (rep (rNw ρ) c0))), (5, .int (nI (rep (rNw ρ) d0)))] [.int (nI (rep (rNw τ) d24))]
        have z28 := Nat.lt_of_le_of_lt (rep_le hnwτ d24) (tTb _ _ h23)
        refine r_iload hc dX6_learn_128 4 rfl ?_
        refine n_icmp_eq hc 141 dX6_learn_130 (by decide) (by omega) (by omega) (fun h29 => ?_) (fun h29 => ?_)
        · have hH : τ = gHalf τ (rep (rNw ρ) d0) (x ^^^ 1) (rep (rNw ρ) c0) := by unfold gHalf; rw [h23]; exact (if_pos h29).symm
          rw [← hQ]
          exact r_vret hc hr hlk τ (by rw [gLearn, ← hτ]; exact hH) rfl dX6_learn_141
        · refine r_aload_n hc dX6_learn_133 rfl 2 rfl ?_
          refine r_iload hc dX6_learn_134 0 rfl ?_
          refine r_iload hc dX6_learn_136 4 rfl ?_
          refine r_callV (As := [.int (nI d24), .int (nI (rep (rNw ρ) c0))]) (n := 2) (wr := []) hc (m_pair l D cI cZ cW g gL gS gW gT gO gP gU gA gE gQ τ d24 (rep (rNw ρ) c0) (by omega) hBτ) co_yX6_pair in_X6 ml_X6_82 (by decide +kernel) rfl ⟨by decide, by decide⟩ ⟨by decide, by decide⟩ im_yX6_pair se_yX6_pair rfl (Or.inl ⟨0, _, rfl⟩) rfl (Nat.le_of_ble_eq_true rfl) [0, 1, 2, 3, 4, 5, 6, 7, 8, 9, 10] [] rfl rfl rfl rfl (by decide) (fun q hq => absurd hq List.not_mem_nil) dX6_learn_138 (fun u2 e30 => ?_)
          show V p l e (RM 1 22 0 0) s m args below meth c D A 9 0 0 Q (wR cI cZ g gL gS gW gT gO gP gU gA gE gQ u2) 141 [(8, .int (nI d24)), (7, .int (nI (x ^^^ 1))), (0, .ref g), (2, .int (nI x)), (4, .int (nI (rep (rNw ρ) c0))), (5, .int (nI (rep (rNw ρ) d0)))] []
          have hH : u2 = gHalf τ (rep (rNw ρ) d0) (x ^^^ 1) (rep (rNw ρ) c0) := by rw [e30]; unfold gHalf; rw [h23]; exact (if_neg (fun q => h29 q)).symm
          rw [← hQ]
          exact r_vret hc hr hlk u2 (by rw [gLearn, ← hτ]; exact hH) rfl dX6_learn_141
      · refine r_aload_n hc dX6_learn_99 rfl 2 rfl ?_
        refine r_get hc inlX6 0 rfl rfl 7 (by decide) fl_X6_19 rfl rfl dX6_learn_100 ?_
        refine r_bipush (v := (nI 6)) hc dX6_learn_103 rfl ?_
        refine r_iload hc dX6_learn_105 5 rfl ?_
        refine n_mul hc dX6_learn_107 ?_
        refine r_iload hc dX6_learn_108 1 rfl ?_
        refine n_add hc dX6_learn_110 ?_
        refine r_iload hc dX6_learn_111 4 rfl ?_
        refine r_iast (ws' := wY cI cZ g gL gS gW gT gO gP gU gA gE gQ (rN τ) (rLe τ) (rSz τ) (rRe τ) (rSu τ) (rMd τ) (rNw τ) (va_up (rTb τ) ((6 * (rep (rNw ρ) d0)) + (x ^^^ 1)) (some (rep (rNw ρ) c0))) (rCh τ) (rPr τ) (rOn τ) (rTw τ) (rNu τ) (rNa τ) (rNd τ) (rSe τ) (rLo τ)) hc eI (some (rep (rNw ρ) c0)) 4 rfl (by omega) (by decide) rfl dX6_learn_113 ?_
        refine r_aload_n hc dX6_learn_114 rfl 2 rfl ?_
        refine r_iconst (v := (nI 1)) hc dX6_learn_115 rfl ?_
        refine r_put (ws' := wY cI cZ g gL gS gW gT gO gP gU gA gE gQ (rN τ) (rLe τ) (rSz τ) (rRe τ) (rSu τ) (rMd τ) (rNw τ) (va_up (rTb τ) ((6 * (rep (rNw ρ) d0)) + (x ^^^ 1)) (some (rep (rNw ρ) c0))) true (rPr τ) (rOn τ) (rTw τ) (rNu τ) (rNa τ) (rNd τ) (rSe τ) (rLo τ)) hc inlX6 tyX6 tyX6_ok nmX6 0 rfl rfl 8 (by decide) fl_X6_78 rfl rfl rfl rfl (Nat.le_of_ble_eq_true rfl) rfl dX6_learn_116 ?_
        refine r_goto hc 141 dX6_learn_119 (by decide) ?_
        have hH : gSet τ (6 * (rep (rNw ρ) d0) + (x ^^^ 1)) (rep (rNw ρ) c0) = gHalf τ (rep (rNw ρ) d0) (x ^^^ 1) (rep (rNw ρ) c0) := by unfold gHalf; rw [h23]
        show V p l e (RM 1 22 0 0) s m args below meth c D A 9 0 0 Q (wR cI cZ g gL gS gW gT gO gP gU gA gE gQ (gSet τ (6 * (rep (rNw ρ) d0) + (x ^^^ 1)) (rep (rNw ρ) c0))) 141 [(8, .int (eI ((rTb τ) ((6 * (rep (rNw ρ) d0)) + (x ^^^ 1))))), (7, .int (nI (x ^^^ 1))), (0, .ref g), (2, .int (nI x)), (4, .int (nI (rep (rNw ρ) c0))), (5, .int (nI (rep (rNw ρ) d0)))] []
        rw [← hQ]
        exact r_vret hc hr hlk (gSet τ (6 * (rep (rNw ρ) d0) + (x ^^^ 1)) (rep (rNw ρ) c0)) (by rw [gLearn, ← hτ]; exact hH) rfl dX6_learn_141
  · refine r_aload_n hc dX6_learn_33 rfl 3 rfl ?_
    refine r_get hc inlX6 0 rfl rfl 7 (by decide) fl_X6_19 rfl rfl dX6_learn_34 ?_
    refine r_bipush (v := (nI 6)) hc dX6_learn_37 rfl ?_
    refine r_iload hc dX6_learn_39 2 rfl ?_
    refine n_mul hc dX6_learn_41 ?_
    refine r_iload_n hc dX6_learn_42 rfl 5 rfl ?_
    refine n_add hc dX6_learn_43 ?_
    refine r_iload hc dX6_learn_44 1 rfl ?_
    refine r_iast (ws' := wY cI cZ g gL gS gW gT gO gP gU gA gE gQ (rN ρ) (rLe ρ) (rSz ρ) (rRe ρ) (rSu ρ) (rMd ρ) (rNw ρ) (va_up (rTb ρ) ((6 * (rep (rNw ρ) c0)) + x) (some (rep (rNw ρ) d0))) (rCh ρ) (rPr ρ) (rOn ρ) (rTw ρ) (rNu ρ) (rNa ρ) (rNd ρ) (rSe ρ) (rLo ρ)) hc eI (some (rep (rNw ρ) d0)) 4 rfl (by omega) (by decide) rfl dX6_learn_46 ?_
    refine r_aload_n hc dX6_learn_47 rfl 3 rfl ?_
    refine r_iconst (v := (nI 1)) hc dX6_learn_48 rfl ?_
    refine r_put (ws' := wY cI cZ g gL gS gW gT gO gP gU gA gE gQ (rN ρ) (rLe ρ) (rSz ρ) (rRe ρ) (rSu ρ) (rMd ρ) (rNw ρ) (va_up (rTb ρ) ((6 * (rep (rNw ρ) c0)) + x) (some (rep (rNw ρ) d0))) true (rPr ρ) (rOn ρ) (rTw ρ) (rNu ρ) (rNa ρ) (rNd ρ) (rSe ρ) (rLo ρ)) hc inlX6 tyX6 tyX6_ok nmX6 0 rfl rfl 8 (by decide) fl_X6_78 rfl rfl rfl rfl (Nat.le_of_ble_eq_true rfl) rfl dX6_learn_49 ?_
    refine r_goto hc 74 dX6_learn_52 (by decide) ?_
    refine r_lv [3, 5, 2, 1] rfl ?_
    have hH : gSet ρ (6 * (rep (rNw ρ) c0) + x) (rep (rNw ρ) d0) = gHalf ρ (rep (rNw ρ) c0) x (rep (rNw ρ) d0) := by unfold gHalf; rw [h7]
    show V p l e (RM 1 22 0 0) s m args below meth c D A 9 0 0 Q (wR cI cZ g gL gS gW gT gO gP gU gA gE gQ (gSet ρ (6 * (rep (rNw ρ) c0) + x) (rep (rNw ρ) d0))) 74 [(0, .ref g), (2, .int (nI x)), (4, .int (nI (rep (rNw ρ) c0))), (5, .int (nI (rep (rNw ρ) d0)))] []
    obtain ⟨τ, hτ⟩ : ∃ q, q = gHalf ρ (rep (rNw ρ) c0) x (rep (rNw ρ) d0) := ⟨_, rfl⟩
    rw [hH, ← hτ]
    obtain ⟨hBτ, hnτ, hpτ⟩ : BR τ ∧ rNw τ = rNw ρ ∧ rPr τ ≤ rPr ρ + 1 := by rw [hτ]; exact hB0.half hbd0 (by omega)
    have hnwτ : ∀ i, rNw τ i ≤ i := by rw [hnτ]; exact hnw
    obtain ⟨tn, tLe, tSz, tRe, tSu, tMd, tNw, tTb, tPr, tRest⟩ := id hBτ
    refine r_iload_n hc dX6_learn_74 rfl 1 rfl ?_
    refine r_iconst (v := (nI 1)) hc dX6_learn_75 rfl ?_
    refine n_xor hc dX6_learn_76 ?_
    refine r_istore (lv' := [(7, .int (nI (x ^^^ 1))), (0, .ref g), (2, .int (nI x)), (4, .int (nI (rep (rNw ρ) c0))), (5, .int (nI (rep (rNw ρ) d0)))]) hc dX6_learn_77 (by decide) rfl ?_
    refine r_aload_n hc dX6_learn_79 rfl 1 rfl ?_
    refine r_get hc inlX6 0 rfl rfl 7 (by decide) fl_X6_19 rfl rfl dX6_learn_80 ?_
    refine r_bipush (v := (nI 6)) hc dX6_learn_83 rfl ?_
    refine r_iload hc dX6_learn_85 4 rfl ?_
    refine n_mul hc dX6_learn_87 ?_
    refine r_iload hc dX6_learn_88 0 rfl ?_
    refine n_add hc dX6_learn_90 ?_
    refine r_iald hc eI 4 rfl (by omega) (by decide) dX6_learn_91 ?_
    refine r_istore (lv' := [(8, .int (eI ((rTb τ) ((6 * (rep (rNw ρ) d0)) + (x ^^^ 1))))), (7, .int (nI (x ^^^ 1))), (0, .ref g), (2, .int (nI x)), (4, .int (nI (rep (rNw ρ) c0))), (5, .int (nI (rep (rNw ρ) d0)))]) hc dX6_learn_92 (by decide) rfl ?_
    refine r_iload hc dX6_learn_94 0 rfl ?_
    refine e_if_ge hc 122 dX6_learn_96 (by decide) (fun d h => Nat.lt_trans (tTb _ d h) (by decide)) (fun d32 h31 => ?_) (fun h31 => ?_)
    · rw [h31]
      show V _ _ _ _ _ _ _ _ _ _ _ _ _ _ _ _ _ _ [(8, .int (nI d32)), (7, .int (nI (x ^^^ 1))), (0, .ref g), (2, .int (nI x)), (4, .int (nI (rep (rNw ρ) c0))), (5, .int (nI (rep (rNw ρ) d0)))] []
      refine r_aload_n hc dX6_learn_122 rfl 2 rfl ?_
      refine r_iload hc dX6_learn_123 0 rfl ?_
      refine r_callI (As := [.int (nI d32)]) (n := 1) (wr := wR cI cZ g gL gS gW gT gO gP gU gA gE gQ τ) hc (m_real l D cI cZ cW g gL gS gW gT gO gP gU gA gE gQ τ d32 (tTb _ _ h31) hnwτ hBτ) co_yX6_real in_X6 ml_X6_75 (by decide +kernel) rfl ⟨by decide, by decide⟩ ⟨by decide, by decide⟩ im_yX6_real se_yX6_real rfl (Or.inl ⟨0, _, rfl⟩) rfl (Nat.le_of_ble_eq_true rfl) [] [0, 1, 2, 3, 4, 5, 6, 7, 8, 9, 10] rfl rfl rfl rfl (by decide) (fun q hq => Or.inl ((List.getElem?_of_mem hq).elim fun k hk => ⟨k, hk, List.not_mem_nil⟩)) dX6_learn_125 (fun r33 u34 e35 => ?_)
      subst e35
      show V p l e (RM 1 22 0 0) s m args below meth c D A 9 0 0 Q (wR cI cZ g gL gS gW gT gO gP gU gA gE gQ τ) 128 [(8, .int (nI d32)), (7, .int (nI (x ^^^ 1))), (0, .ref g), (2, .int (nI x)), (4, .int (nI (rep (rNw ρ) c0))), (5, .int (nI (rep (rNw ρ) d0)))] [.int (nI (rep (rNw τ) d32))]
      have z36 := Nat.lt_of_le_of_lt (rep_le hnwτ d32) (tTb _ _ h31)
      refine r_iload hc dX6_learn_128 4 rfl ?_
      refine n_icmp_eq hc 141 dX6_learn_130 (by decide) (by omega) (by omega) (fun h37 => ?_) (fun h37 => ?_)
      · have hH : τ = gHalf τ (rep (rNw ρ) d0) (x ^^^ 1) (rep (rNw ρ) c0) := by unfold gHalf; rw [h31]; exact (if_pos h37).symm
        rw [← hQ]
        exact r_vret hc hr hlk τ (by rw [gLearn, ← hτ]; exact hH) rfl dX6_learn_141
      · refine r_aload_n hc dX6_learn_133 rfl 2 rfl ?_
        refine r_iload hc dX6_learn_134 0 rfl ?_
        refine r_iload hc dX6_learn_136 4 rfl ?_
        refine r_callV (As := [.int (nI d32), .int (nI (rep (rNw ρ) c0))]) (n := 2) (wr := []) hc (m_pair l D cI cZ cW g gL gS gW gT gO gP gU gA gE gQ τ d32 (rep (rNw ρ) c0) (by omega) hBτ) co_yX6_pair in_X6 ml_X6_82 (by decide +kernel) rfl ⟨by decide, by decide⟩ ⟨by decide, by decide⟩ im_yX6_pair se_yX6_pair rfl (Or.inl ⟨0, _, rfl⟩) rfl (Nat.le_of_ble_eq_true rfl) [0, 1, 2, 3, 4, 5, 6, 7, 8, 9, 10] [] rfl rfl rfl rfl (by decide) (fun q hq => absurd hq List.not_mem_nil) dX6_learn_138 (fun u2 e38 => ?_)
        show V p l e (RM 1 22 0 0) s m args below meth c D A 9 0 0 Q (wR cI cZ g gL gS gW gT gO gP gU gA gE gQ u2) 141 [(8, .int (nI d32)), (7, .int (nI (x ^^^ 1))), (0, .ref g), (2, .int (nI x)), (4, .int (nI (rep (rNw ρ) c0))), (5, .int (nI (rep (rNw ρ) d0)))] []
        have hH : u2 = gHalf τ (rep (rNw ρ) d0) (x ^^^ 1) (rep (rNw ρ) c0) := by rw [e38]; unfold gHalf; rw [h31]; exact (if_neg (fun q => h37 q)).symm
        rw [← hQ]
        exact r_vret hc hr hlk u2 (by rw [gLearn, ← hτ]; exact hH) rfl dX6_learn_141
    · refine r_aload_n hc dX6_learn_99 rfl 2 rfl ?_
      refine r_get hc inlX6 0 rfl rfl 7 (by decide) fl_X6_19 rfl rfl dX6_learn_100 ?_
      refine r_bipush (v := (nI 6)) hc dX6_learn_103 rfl ?_
      refine r_iload hc dX6_learn_105 5 rfl ?_
      refine n_mul hc dX6_learn_107 ?_
      refine r_iload hc dX6_learn_108 1 rfl ?_
      refine n_add hc dX6_learn_110 ?_
      refine r_iload hc dX6_learn_111 4 rfl ?_
      refine r_iast (ws' := wY cI cZ g gL gS gW gT gO gP gU gA gE gQ (rN τ) (rLe τ) (rSz τ) (rRe τ) (rSu τ) (rMd τ) (rNw τ) (va_up (rTb τ) ((6 * (rep (rNw ρ) d0)) + (x ^^^ 1)) (some (rep (rNw ρ) c0))) (rCh τ) (rPr τ) (rOn τ) (rTw τ) (rNu τ) (rNa τ) (rNd τ) (rSe τ) (rLo τ)) hc eI (some (rep (rNw ρ) c0)) 4 rfl (by omega) (by decide) rfl dX6_learn_113 ?_
      refine r_aload_n hc dX6_learn_114 rfl 2 rfl ?_
      refine r_iconst (v := (nI 1)) hc dX6_learn_115 rfl ?_
      refine r_put (ws' := wY cI cZ g gL gS gW gT gO gP gU gA gE gQ (rN τ) (rLe τ) (rSz τ) (rRe τ) (rSu τ) (rMd τ) (rNw τ) (va_up (rTb τ) ((6 * (rep (rNw ρ) d0)) + (x ^^^ 1)) (some (rep (rNw ρ) c0))) true (rPr τ) (rOn τ) (rTw τ) (rNu τ) (rNa τ) (rNd τ) (rSe τ) (rLo τ)) hc inlX6 tyX6 tyX6_ok nmX6 0 rfl rfl 8 (by decide) fl_X6_78 rfl rfl rfl rfl (Nat.le_of_ble_eq_true rfl) rfl dX6_learn_116 ?_
      refine r_goto hc 141 dX6_learn_119 (by decide) ?_
      have hH : gSet τ (6 * (rep (rNw ρ) d0) + (x ^^^ 1)) (rep (rNw ρ) c0) = gHalf τ (rep (rNw ρ) d0) (x ^^^ 1) (rep (rNw ρ) c0) := by unfold gHalf; rw [h31]
      show V p l e (RM 1 22 0 0) s m args below meth c D A 9 0 0 Q (wR cI cZ g gL gS gW gT gO gP gU gA gE gQ (gSet τ (6 * (rep (rNw ρ) d0) + (x ^^^ 1)) (rep (rNw ρ) c0))) 141 [(8, .int (eI ((rTb τ) ((6 * (rep (rNw ρ) d0)) + (x ^^^ 1))))), (7, .int (nI (x ^^^ 1))), (0, .ref g), (2, .int (nI x)), (4, .int (nI (rep (rNw ρ) c0))), (5, .int (nI (rep (rNw ρ) d0)))] []
      rw [← hQ]
      exact r_vret hc hr hlk (gSet τ (6 * (rep (rNw ρ) d0) + (x ^^^ 1)) (rep (rNw ρ) c0)) (by rw [gLearn, ← hτ]; exact hH) rfl dX6_learn_141
