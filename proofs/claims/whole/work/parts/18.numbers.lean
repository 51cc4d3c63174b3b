theorem r_perm {p : Program} {l : Launch} {e : Env} {R : Room} {s : State} {m : MethodId} {args : Array Value} {below : List Frame} {meth : Method} {c : Code} {D : va_G} {A : Nat → Prop} {nL cells slots : Nat} {Q : State → Prop} {ws ws' : va_W} {pc : Nat} {lv : List (Nat × Value)} {st : List Value} (is : List Nat) (hn : va_nd is = true) (h : is.map (fun i => ws[i]?) = ws'.map some) (kk : V p l e R s m args below meth c D A nL cells slots Q ws' pc lv st) : V p l e R s m args below meth c D A nL cells slots Q ws pc lv st :=
  fun H locs ls hP hD hS hL => kk H locs ls (va_P.places is h hP) (hD.sub is hn h) hS hL
def filI (f : Nat → Option Nat) (k : Nat) : Nat → Option Nat := match k with | 0 => f | k + 1 => va_up (filI f k) k none
def gnn (c : Nat) (α : AS) : AS := match tU α c with | some _ => α | none => (va_up (tU α) c (some (tZ α)), va_up (tN α) (tZ α) c, tS α, tR α, tZ α + 1)
/-! how many are marked -/
def cntT (f : Nat → Bool) (n : Nat) : Nat := match n with | 0 => 0 | n + 1 => cntT f n + (if f n = true then 1 else 0)
theorem cntT_le (f : Nat → Bool) (n : Nat) : cntT f n ≤ n := by
  induction n with
  | zero => exact Nat.le_refl _
  | succ n ih => rw [cntT]; split <;> omega
theorem cntT_lt {f : Nat → Bool} {n d : Nat} (hd : d < n) (h : f d = false) : cntT f n < n := by
  induction n with
  | zero => omega
  | succ n ih =>
    rw [cntT]
    by_cases hn : d = n
    · subst hn; rw [h]; have := cntT_le f d; simp; omega
    · have := ih (by omega); split <;> omega
theorem cntT_up {f : Nat → Bool} {n d : Nat} (hd : d < n) (h : f d = false) : cntT (va_up f d true) n = cntT f n + 1 := by
  induction n with
  | zero => omega
  | succ n ih =>
    rw [cntT, cntT]
    by_cases hn : d = n
    · subst hn
      have : ∀ k, k ≤ d → cntT (va_up f d true) k = cntT f k := by
        intro k
        induction k with
        | zero => intro _; rfl
        | succ k ihk => intro hk; rw [cntT, cntT, ihk (by omega)]; simp [va_up, show ¬ k = d by omega]
      rw [this d (Nat.le_refl _), h]; simp [va_up]
    · rw [ih (by omega)]; simp [va_up, show ¬ n = d by omega]; omega
theorem cntT_dn {f : Nat → Bool} {n d : Nat} (hd : d < n) (h : f d = true) : cntT (va_up f d false) n + 1 = cntT f n := by
  have h2 : va_up (va_up f d false) d true = f := by
    funext j; by_cases hj : j = d
    · subst hj; simp [va_up, h]
    · simp [va_up, hj]
  have := cntT_up (f := va_up f d false) hd (by simp [va_up])
  rw [h2] at this; omega
theorem cntT_0 {f : Nat → Bool} {n : Nat} (h : ∀ i, i < n → f i = false) : cntT f n = 0 := by
  induction n with
  | zero => rfl
  | succ n ih => rw [cntT, ih (fun i hi => h i (by omega)), h n (by omega)]; rfl
set_option maxHeartbeats 4000000 in
set_option maxRecDepth 100000 in
/-- rests(c0) -/
theorem c_rests (l : Launch) (D : va_G) (cI cZ cW : ClassId) (ha h hs1 aU aN aT aG : Nat) (α : AS) (aE aL aF aR aS : Nat) (σ : CS) (as : Nat) (swa sca : Nat → Nat) (scol : Nat → Nat → Nat) (slen : Nat → Nat) (ns : Nat) (c0 : Nat) (hc0 : c0 < tZ α) (hsl : ∀ i, i < ns → 1 ≤ slen i ∧ slen i ≤ 24 ∧ ∀ j, scol i j < 6) (hns : ns ≤ 5) (fs : Nat → Nat → Nat) (hfs : ∀ i, i < ns → ImF (sE σ) (tU α) (tN α) (tZ α) (scol i) (slen i) (fs i)) (hB : BA α) : CtI l yX0_rests cX0_rests 3 (some .boolean) 2 46 0 0 D cI cZ cW [.ref ha, .int (nI c0)] ([]) (wA cI cZ ha h hs1 aU aN aT aG α ++ (wS cI cZ h aE aL aF aR aS σ ++ wL cI cW hs1 as 5 swa sca scol slen ns)) (S := Unit) (fun r _ => r = zI (rst fs ns c0)) (fun _ => []) := by
  refine CtI.mk (by decide) (Nat.le_of_ble_eq_true rfl) ?_
  intro p e s m args below meth c A hc hr hlk hnm hro
  generalize hQ : MQ below _ args s 0 0 A = Q
  have hB0 := hB
  obtain ⟨bZ, bN, bU, bG⟩ := hB
  show V p l e (RM 2 46 0 0) s m args below meth c D A 3 0 0 Q ([]) 0 [(0, .ref ha), (1, .int (nI c0))] []
  refine r_iconst (v := (nI 0)) hc dX0_rests_0 rfl ?_
  refine r_istore_n (lv' := [(2, .int (nI 0)), (0, .ref ha), (1, .int (nI c0))]) hc dX0_rests_1 rfl (by decide) rfl ?_
  have lp2 : ∀ (n : Nat) (i : Nat), ns - i = n → (i ≤ ns) → (rst fs i c0 = true) → V p l e (RM 2 46 0 0) s m args below meth c D A 3 0 0 Q ([]) 2 [(2, .int (nI i)), (0, .ref ha), (1, .int (nI c0))] [] := by
    intro n
    induction n using Nat.strongRecOn with
    | _ n ih2 =>
    intro i hm2 hi hrs
    refine r_iload_n hc dX0_rests_2 rfl 0 rfl ?_
    refine r_aload_n hc dX0_rests_3 rfl 1 rfl ?_
    refine r_getR hc inlX0 (hro _ (List.mem_of_getElem? (i := 0) rfl)) rfl 1 (by decide) fl_X0_29 rfl rfl dX0_rests_4 ?_
    refine r_getRN hc inlX4 (hro _ (List.mem_of_getElem? (i := 11) rfl)) rfl 1 (by decide) nf_X0_82 rfl rfl dX0_rests_7 ?_
    refine n_icmp_ge hc 39 dX0_rests_10 (by decide) (by omega) (by omega) (fun h1 => ?_) (fun h1 => ?_)
    · refine r_iconst (v := (nI 1)) hc dX0_rests_39 rfl ?_
      rw [← hQ]
      exact r_zret (b := true) hc hr hlk () (congrArg zI (by rw [← hrs, show i = ns by omega])) rfl dX0_rests_40
    · refine r_aload_n hc dX0_rests_13 rfl 1 rfl ?_
      refine r_iload_n hc dX0_rests_14 rfl 2 rfl ?_
      refine r_aload_n hc dX0_rests_15 rfl 1 rfl ?_
      refine r_getR hc inlX0 (hro _ (List.mem_of_getElem? (i := 0) rfl)) rfl 1 (by decide) fl_X0_29 rfl rfl dX0_rests_16 ?_
      refine r_getRN hc inlX4 (hro _ (List.mem_of_getElem? (i := 11) rfl)) rfl 0 (by decide) nf_X0_85 rfl rfl dX0_rests_19 ?_
      refine r_iload_n hc dX0_rests_22 rfl 0 rfl ?_
      refine r_aldR hc (hro _ (List.mem_of_getElem? (i := 12) rfl)) (by omega) (by decide) rfl dX0_rests_23 ?_
      obtain ⟨l1, l2, l3⟩ := hsl i h1
      obtain ⟨f1, f2⟩ := hfs i h1 c0 hc0
      refine r_callI (As := [.int (nI c0), .ref (swa i)]) (n := 2) (wr := []) hc (c_image l D cI cZ cW ha h hs1 aU aN aT aG α aE aL aF aR aS σ (swa i) (sca i) (scol i) (slen i) c0 (fs i c0) (by omega) l2 l3 f2 hB0) co_yX0_image in_X0 ml_X0_74 (by decide +kernel) rfl ⟨by decide, by decide⟩ ⟨by decide, by decide⟩ im_yX0_image se_yX0_image rfl (Or.inr ⟨_, (hro _ (List.mem_of_getElem? (i := 0) rfl))⟩) rfl (Nat.le_of_ble_eq_true rfl) [] [] rfl rfl rfl rfl (by decide) (fun q hq => (List.mem_append.mp hq).elim (fun z => Or.inr (hro q (List.mem_append_left _ z))) (fun z => Or.inr (hro q (List.mem_append_right _ ((List.mem_append.mp z).elim (fun z => List.mem_append_left _ z) (fun z => List.mem_append_right _ (wL_word (by omega) z))))))) dX0_rests_24 (fun r2 u3 e4 => ?_)
      subst e4
      show V p l e (RM 2 46 0 0) s m args below meth c D A 3 0 0 Q ([]) 27 [(2, .int (nI i)), (0, .ref ha), (1, .int (nI c0))] [.int (nI (fs i c0))]
      refine r_iload_n hc dX0_rests_27 rfl 2 rfl ?_
      refine n_icmp_eq hc 33 dX0_rests_28 (by decide) (by omega) (by omega) (fun h5 => ?_) (fun h5 => ?_)
      · refine r_iinc (k := 0) (v := (nI (i + 1))) (lv' := [(2, .int (nI (i + 1))), (0, .ref ha), (1, .int (nI c0))]) hc dX0_rests_33 rfl (nI_add _ _) (by decide) rfl ?_
        refine r_goto hc 2 dX0_rests_36 (by decide) ?_
        refine r_lv [0, 1, 2] rfl ?_
        exact ih2 _ (by omega) (i + 1) rfl (by omega) (by rw [rst, hrs, h5]; simp)
      · refine r_iconst (v := (nI 0)) hc dX0_rests_31 rfl ?_
        rw [← hQ]
        exact r_zret (b := false) hc hr hlk () (congrArg zI (rst_false h1 h5).symm) rfl dX0_rests_32
  refine r_lv [0, 1, 2] rfl ?_
  exact lp2 _ 0 rfl (Nat.zero_le _) rfl
set_option maxHeartbeats 4000000 in
set_option maxRecDepth 100000 in
/-- countResting() -/
theorem c_countResting (l : Launch) (D : va_G) (cI cZ cW : ClassId) (ha h hs1 aU aN aT aG : Nat) (α : AS) (aE aL aF aR aS : Nat) (σ : CS) (as : Nat) (swa sca : Nat → Nat) (scol : Nat → Nat → Nat) (slen : Nat → Nat) (ns : Nat) (hsl : ∀ i, i < ns → 1 ≤ slen i ∧ slen i ≤ 24 ∧ ∀ j, scol i j < 6) (hns : ns ≤ 5) (fs : Nat → Nat → Nat) (hfs : ∀ i, i < ns → ImF (sE σ) (tU α) (tN α) (tZ α) (scol i) (slen i) (fs i)) (hB : BA α) : CtI l yX0_countResting cX0_countResting 3 (some .int) 3 68 0 0 D cI cZ cW [.ref ha] ([]) (wA cI cZ ha h hs1 aU aN aT aG α ++ (wS cI cZ h aE aL aF aR aS σ ++ wL cI cW hs1 as 5 swa sca scol slen ns)) (S := Unit) (fun r _ => r = nI (crI fs ns (tZ α))) (fun _ => []) := by
  refine CtI.mk (by decide) (Nat.le_of_ble_eq_true rfl) ?_
  intro p e s m args below meth c A hc hr hlk hnm hro
  generalize hQ : MQ below _ args s 0 0 A = Q
  have hB0 := hB
  obtain ⟨bZ, bN, bU, bG⟩ := hB
  show V p l e (RM 3 68 0 0) s m args below meth c D A 3 0 0 Q ([]) 0 [(0, .ref ha)] []
  refine r_iconst (v := (nI 0)) hc dX0_countResting_0 rfl ?_
  refine r_istore_n (lv' := [(1, .int (nI 0)), (0, .ref ha)]) hc dX0_countResting_1 rfl (by decide) rfl ?_
  refine r_iconst (v := (nI 0)) hc dX0_countResting_2 rfl ?_
  refine r_istore_n (lv' := [(2, .int (nI 0)), (1, .int (nI 0)), (0, .ref ha)]) hc dX0_countResting_3 rfl (by decide) rfl ?_
  have lp4 : ∀ (n : Nat) (k : Nat), tZ α - k = n → (k ≤ tZ α) → V p l e (RM 3 68 0 0) s m args below meth c D A 3 0 0 Q ([]) 4 [(2, .int (nI k)), (1, .int (nI (crI fs ns k))), (0, .ref ha)] [] := by
    intro n
    induction n using Nat.strongRecOn with
    | _ n ih4 =>
    intro k hm4 hk
    refine r_iload_n hc dX0_countResting_4 rfl 0 rfl ?_
    refine r_aload_n hc dX0_countResting_5 rfl 2 rfl ?_
    refine r_getR hc inlX0 (hro _ (List.mem_of_getElem? (i := 0) rfl)) rfl 6 (by decide) fl_X0_33 rfl rfl dX0_countResting_6 ?_
    refine n_icmp_ge hc 29 dX0_countResting_9 (by decide) (by omega) (by omega) (fun h1 => ?_) (fun h1 => ?_)
    · obtain rfl : k = tZ α := by omega
      show V p l e (RM 3 68 0 0) s m args below meth c D A 3 0 0 Q ([]) 29 [(2, .int (nI (tZ α))), (1, .int (nI (crI fs ns (tZ α)))), (0, .ref ha)] []
      refine r_iload_n hc dX0_countResting_29 rfl 1 rfl ?_
      rw [← hQ]
      exact r_iret hc hr hlk () (rfl) rfl dX0_countResting_30
    · refine r_aload_n hc dX0_countResting_12 rfl 2 rfl ?_
      refine r_iload_n hc dX0_countResting_13 rfl 0 rfl ?_
      refine r_callI (As := [.int (nI k)]) (n := 1) (wr := []) hc (c_rests l D cI cZ cW ha h hs1 aU aN aT aG α aE aL aF aR aS σ as swa sca scol slen ns k (by omega) hsl hns fs hfs hB0) co_yX0_rests in_X0 ml_X0_78 (by decide +kernel) rfl ⟨by decide, by decide⟩ ⟨by decide, by decide⟩ im_yX0_rests se_yX0_rests rfl (Or.inr ⟨_, (hro _ (List.mem_of_getElem? (i := 0) rfl))⟩) rfl (Nat.le_of_ble_eq_true rfl) [] [] rfl rfl rfl rfl (by decide) (fun q hq => Or.inr (hro q hq)) dX0_countResting_14 (fun r2 u3 e4 => ?_)
      subst e4
      refine z_if_eq hc 23 dX0_countResting_17 (by decide) (fun h5 => ?_) (fun h5 => ?_)
      · have hcn : crI fs ns k = crI fs ns (k + 1) := by rw [crI, if_neg (by rw [h5]; decide)]; rfl
        rw [hcn]
        show V p l e (RM 3 68 0 0) s m args below meth c D A 3 0 0 Q ([]) 23 [(2, .int (nI k)), (1, .int (nI (crI fs ns (k + 1)))), (0, .ref ha)] []
        refine r_iinc (k := 0) (v := (nI (k + 1))) (lv' := [(2, .int (nI (k + 1))), (1, .int (nI (crI fs ns (k + 1)))), (0, .ref ha)]) hc dX0_countResting_23 rfl (nI_add _ _) (by decide) rfl ?_
        refine r_goto hc 4 dX0_countResting_26 (by decide) ?_
        refine r_lv [0, 1, 2] rfl ?_
        exact ih4 _ (by omega) (k + 1) rfl (by omega)
      · refine r_iinc (k := 1) (v := (nI (crI fs ns k + 1))) (lv' := [(1, .int (nI (crI fs ns k + 1))), (2, .int (nI k)), (0, .ref ha)]) hc dX0_countResting_20 rfl (nI_add _ _) (by decide) rfl ?_
        have hcn : crI fs ns k + 1 = crI fs ns (k + 1) := by rw [crI, if_pos h5]
        rw [hcn]
        show V p l e (RM 3 68 0 0) s m args below meth c D A 3 0 0 Q ([]) 23 [(1, .int (nI (crI fs ns (k + 1)))), (2, .int (nI k)), (0, .ref ha)] []
        refine r_iinc (k := 1) (v := (nI (k + 1))) (lv' := [(2, .int (nI (k + 1))), (1, .int (nI (crI fs ns (k + 1)))), (0, .ref ha)]) hc dX0_countResting_23 rfl (nI_add _ _) (by decide) rfl ?_
        refine r_goto hc 4 dX0_countResting_26 (by decide) ?_
        refine r_lv [0, 1, 2] rfl ?_
        exact ih4 _ (by omega) (k + 1) rfl (by omega)
  refine r_lv [0, 1, 2] rfl ?_
  exact lp4 _ 0 rfl (Nat.zero_le _)
set_option maxHeartbeats 4000000 in
set_option maxRecDepth 100000 in
/-- giveNextNumber(c0) -/
theorem c_gnn (l : Launch) (D : va_G) (cI cZ cW : ClassId) (ha h hs1 aU aN aT aG : Nat) (α : AS) (c0 : Nat) (hc0 : c0 < 200) (hz : tU α c0 = none → tZ α < 200) (hB : BA α) : CtV l yX0_giveNextNumber cX0_giveNextNumber 2 none 0 0 0 0 D cI cZ cW [.ref ha, .int (nI c0)] (wA cI cZ ha h hs1 aU aN aT aG α) ([]) (S := AS) (fun u => u = gnn c0 α) (fun u => wA cI cZ ha h hs1 aU aN aT aG u) := by
  refine CtV.mk (by decide) (Nat.le_of_ble_eq_true rfl) ?_
  intro p e s m args below meth c A hc hr hlk hnm hro
  generalize hQ : MQ below _ args s 0 0 A = Q
  have hB0 := hB
  obtain ⟨bZ, bN, bU, bG⟩ := hB
  show V p l e (RM 0 0 0 0) s m args below meth c D A 2 0 0 Q (wA cI cZ ha h hs1 aU aN aT aG α) 0 [(0, .ref ha), (1, .int (nI c0))] []
  refine r_aload_n hc dX0_giveNextNumber_0 rfl 0 rfl ?_
  refine r_get hc inlX0 0 rfl rfl 2 (by decide) fl_X0_9 rfl rfl dX0_giveNextNumber_1 ?_
  refine r_iload_n hc dX0_giveNextNumber_4 rfl 1 rfl ?_
  refine r_iald hc eI 1 rfl (by omega) (by decide) dX0_giveNextNumber_5 ?_
  refine r_iconst (v := (-1)) hc dX0_giveNextNumber_6 rfl ?_
  refine e_icmp_ne hc 40 dX0_giveNextNumber_7 (by decide) (fun d h => Nat.lt_trans (bU _ d h) (by decide)) (fun d2 h1 => ?_) (fun h1 => ?_)
  · rw [← hQ]
    exact r_vret hc hr hlk α (by unfold gnn; rw [h1]) rfl dX0_giveNextNumber_40
  · have hz1 := hz h1
    refine r_aload_n hc dX0_giveNextNumber_10 rfl 0 rfl ?_
    refine r_get hc inlX0 0 rfl rfl 2 (by decide) fl_X0_9 rfl rfl dX0_giveNextNumber_11 ?_
    refine r_iload_n hc dX0_giveNextNumber_14 rfl 1 rfl ?_
    refine r_aload_n hc dX0_giveNextNumber_15 rfl 0 rfl ?_
    refine r_get hc inlX0 0 rfl rfl 6 (by decide) fl_X0_33 rfl rfl dX0_giveNextNumber_16 ?_
    refine r_iast (ws' := wB cI cZ ha h hs1 aU aN aT aG (va_up (tU α) c0 (some (tZ α))) (tN α) (tS α) (tR α) (tZ α)) hc eI (some (tZ α)) 1 rfl (by omega) (by decide) rfl dX0_giveNextNumber_19 ?_
    refine r_aload_n hc dX0_giveNextNumber_20 rfl 0 rfl ?_
    refine r_get hc inlX0 0 rfl rfl 3 (by decide) fl_X0_15 rfl rfl dX0_giveNextNumber_21 ?_
    refine r_aload_n hc dX0_giveNextNumber_24 rfl 0 rfl ?_
    refine r_get hc inlX0 0 rfl rfl 6 (by decide) fl_X0_33 rfl rfl dX0_giveNextNumber_25 ?_
    refine r_iload_n hc dX0_giveNextNumber_28 rfl 1 rfl ?_
    refine r_iast (ws' := wB cI cZ ha h hs1 aU aN aT aG (va_up (tU α) c0 (some (tZ α))) (va_up (tN α) (tZ α) c0) (tS α) (tR α) (tZ α)) hc nI c0 2 rfl (by omega) (by decide) rfl dX0_giveNextNumber_29 ?_
    refine r_aload_n hc dX0_giveNextNumber_30 rfl 0 rfl ?_
    refine r_dup hc dX0_giveNextNumber_31 rfl ?_
    refine r_get hc inlX0 0 rfl rfl 6 (by decide) fl_X0_33 rfl rfl dX0_giveNextNumber_32 ?_
    refine r_iconst (v := (nI 1)) hc dX0_giveNextNumber_35 rfl ?_
    refine n_add hc dX0_giveNextNumber_36 ?_
    refine r_put (ws' := wB cI cZ ha h hs1 aU aN aT aG (va_up (tU α) c0 (some (tZ α))) (va_up (tN α) (tZ α) c0) (tS α) (tR α) ((tZ α) + 1)) hc inlX0 tyX0 tyX0_ok nmX0 0 rfl rfl 6 (by decide) fl_X0_33 rfl rfl rfl rfl (Nat.le_of_ble_eq_true rfl) rfl dX0_giveNextNumber_37 ?_
    rw [← hQ]
    exact r_vret hc hr hlk (va_up (tU α) c0 (some (tZ α)), va_up (tN α) (tZ α) c0, tS α, tR α, (tZ α) + 1) (by unfold gnn; rw [h1]) rfl dX0_giveNextNumber_40
abbrev wF (cI : ClassId) (aU : Nat) (f : Nat → Option Nat) : va_W := [(aU, .inl (cI, 200, .inl (fun j => eI (f j))))]
set_option maxHeartbeats 4000000 in
set_option maxRecDepth 100000 in
/-- Arrays.fill(a, -1) -/
theorem c_fill (l : Launch) (D : va_G) (cI cZ cW : ClassId) (aU : Nat) (f : Nat → Option Nat)  : CtV l yJ7_fill_53178 cJ7_fill_53178 4 none 0 0 0 0 D cI cZ cW [.ref aU, .int (-1)] (wF cI aU f) ([]) (S := Nat → Option Nat) (fun u => u = filI f 200) (fun u => wF cI aU u) := by
  refine CtV.mk (by decide) (Nat.le_of_ble_eq_true rfl) ?_
  intro p e s m args below meth c A hc hr hlk hnm hro
  generalize hQ : MQ below _ args s 0 0 A = Q
  show V p l e (RM 0 0 0 0) s m args below meth c D A 4 0 0 Q (wF cI aU f) 0 [(0, .ref aU), (1, .int (-1))] []
  refine r_iconst (v := (nI 0)) hc dJ7_fill_53178_0 rfl ?_
  refine r_istore_n (lv' := [(2, .int (nI 0)), (0, .ref aU), (1, .int (-1))]) hc dJ7_fill_53178_1 rfl (by decide) rfl ?_
  refine r_aload_n hc dJ7_fill_53178_2 rfl 1 rfl ?_
  refine r_alen (v := nI 200) hc 0 0 rfl rfl rfl dJ7_fill_53178_3 ?_
  refine r_istore_n (lv' := [(3, .int (nI 200)), (2, .int (nI 0)), (0, .ref aU), (1, .int (-1))]) hc dJ7_fill_53178_4 rfl (by decide) rfl ?_
  have lp5 : ∀ (n : Nat) (k : Nat), 200 - k = n → (k ≤ 200) → V p l e (RM 0 0 0 0) s m args below meth c D A 4 0 0 Q (wF cI aU (filI f k)) 5 [(3, .int (nI 200)), (2, .int (nI k)), (0, .ref aU), (1, .int (-1))] [] := by
    intro n
    induction n using Nat.strongRecOn with
    | _ n ih5 =>
    intro k hm5 hk
    refine r_iload_n hc dJ7_fill_53178_5 rfl 1 rfl ?_
    refine r_iload_n hc dJ7_fill_53178_6 rfl 0 rfl ?_
    refine n_icmp_ge hc 20 dJ7_fill_53178_7 (by decide) (by omega) (by omega) (fun h1 => ?_) (fun h1 => ?_)
    · obtain rfl : k = 200 := by omega
      show V p l e (RM 0 0 0 0) s m args below meth c D A 4 0 0 Q (wF cI aU (filI f 200)) 20 [(3, .int (nI 200)), (2, .int (nI 200)), (0, .ref aU), (1, .int (-1))] []
      rw [← hQ]
      exact r_vret hc hr hlk (filI f 200) rfl rfl dJ7_fill_53178_20
    · refine r_aload_n hc dJ7_fill_53178_10 rfl 2 rfl ?_
      refine r_iload_n hc dJ7_fill_53178_11 rfl 1 rfl ?_
      refine r_iload_n hc dJ7_fill_53178_12 rfl 3 rfl ?_
      refine r_iast (ws' := wF cI aU (va_up (filI f k) k none)) hc eI none 0 rfl (by omega) (by decide) rfl dJ7_fill_53178_13 ?_
      refine r_iinc (k := 1) (v := (nI (k + 1))) (lv' := [(2, .int (nI (k + 1))), (3, .int (nI 200)), (0, .ref aU), (1, .int (-1))]) hc dJ7_fill_53178_14 rfl (nI_add _ _) (by decide) rfl ?_
      refine r_goto hc 5 dJ7_fill_53178_17 (by decide) ?_
      refine r_lv [1, 0, 2, 3] rfl ?_
      exact ih5 _ (by omega) (k + 1) rfl (by omega)
  refine r_lv [0, 1, 2, 3] rfl ?_
  exact lp5 _ 0 rfl (Nat.zero_le _)
